section
-- ===== PART A: goes FIRST, ahead of the names: the tables' words, and 'selects' of the private methods out of them =====
/-- a private method of a class that the tables say can be made, by its rows of tables_1 -/
def lw_okq (q : MethodName × Nat) : Prop := (q.1.cls ≠ "java/lang/invoke/MethodHandle" ∧ q.1.cls ≠ "java/lang/invoke/VarHandle") ∧ Cond.instantiable q.1.cls q.2 ∈ tables_1 ∧ Cond.privateMethod q.1 ∈ tables_1 ∧ Cond.instanceMethod q.1 ∈ tables_1
theorem lw_p0 : lw_okq (⟨"ExactTests$Walk", "begin", "(LExactTests$Grid;)V"⟩, 15) := ⟨⟨by decide +kernel, by decide +kernel⟩, List.mem_of_getElem? (i := 60) (by decide +kernel), List.mem_of_getElem? (i := 398) (by decide +kernel), List.mem_of_getElem? (i := 399) (by decide +kernel)⟩
theorem lw_p1 : lw_okq (⟨"ExactTests$Walk", "countRow", "(I)V"⟩, 15) := ⟨⟨by decide +kernel, by decide +kernel⟩, List.mem_of_getElem? (i := 60) (by decide +kernel), List.mem_of_getElem? (i := 416) (by decide +kernel), List.mem_of_getElem? (i := 417) (by decide +kernel)⟩
theorem lw_p2 : lw_okq (⟨"ExactTests$Walk", "sumOfColumnsLeft", "()I"⟩, 15) := ⟨⟨by decide +kernel, by decide +kernel⟩, List.mem_of_getElem? (i := 60) (by decide +kernel), List.mem_of_getElem? (i := 420) (by decide +kernel), List.mem_of_getElem? (i := 421) (by decide +kernel)⟩
theorem lw_p3 : lw_okq (⟨"ExactTests$Walk", "countCell", "(IIII)V"⟩, 15) := ⟨⟨by decide +kernel, by decide +kernel⟩, List.mem_of_getElem? (i := 60) (by decide +kernel), List.mem_of_getElem? (i := 424) (by decide +kernel), List.mem_of_getElem? (i := 425) (by decide +kernel)⟩
theorem lw_p4 : lw_okq (⟨"ExactTests$Walk", "weighAll", "(I)V"⟩, 15) := ⟨⟨by decide +kernel, by decide +kernel⟩, List.mem_of_getElem? (i := 60) (by decide +kernel), List.mem_of_getElem? (i := 441) (by decide +kernel), List.mem_of_getElem? (i := 442) (by decide +kernel)⟩
theorem lw_p5 : lw_okq (⟨"ExactTests$Whole", "empty", "()V"⟩, 2) := ⟨⟨by decide +kernel, by decide +kernel⟩, List.mem_of_getElem? (i := 67) (by decide +kernel), List.mem_of_getElem? (i := 449) (by decide +kernel), List.mem_of_getElem? (i := 450) (by decide +kernel)⟩
theorem lw_p6 : lw_okq (⟨"ExactTests$Whole", "trim", "(I)V"⟩, 2) := ⟨⟨by decide +kernel, by decide +kernel⟩, List.mem_of_getElem? (i := 67) (by decide +kernel), List.mem_of_getElem? (i := 454) (by decide +kernel), List.mem_of_getElem? (i := 455) (by decide +kernel)⟩
theorem lw_p7 : lw_okq (⟨"ExactTests$Walk", "choose", "(II)J"⟩, 15) := ⟨⟨by decide +kernel, by decide +kernel⟩, List.mem_of_getElem? (i := 60) (by decide +kernel), List.mem_of_getElem? (i := 463) (by decide +kernel), List.mem_of_getElem? (i := 464) (by decide +kernel)⟩
theorem lw_p8 : lw_okq (⟨"ExactTests$Whole", "addTimes", "(LExactTests$Whole;JI)V"⟩, 2) := ⟨⟨by decide +kernel, by decide +kernel⟩, List.mem_of_getElem? (i := 67) (by decide +kernel), List.mem_of_getElem? (i := 471) (by decide +kernel), List.mem_of_getElem? (i := 472) (by decide +kernel)⟩
theorem lw_p9 : lw_okq (⟨"ExactTests$Walk", "weighSeen", "(LExactTests$Grid;)V"⟩, 15) := ⟨⟨by decide +kernel, by decide +kernel⟩, List.mem_of_getElem? (i := 60) (by decide +kernel), List.mem_of_getElem? (i := 475) (by decide +kernel), List.mem_of_getElem? (i := 476) (by decide +kernel)⟩
theorem lw_p10 : lw_okq (⟨"ExactTests$Walk", "fillRow", "(I)V"⟩, 15) := ⟨⟨by decide +kernel, by decide +kernel⟩, List.mem_of_getElem? (i := 60) (by decide +kernel), List.mem_of_getElem? (i := 479) (by decide +kernel), List.mem_of_getElem? (i := 480) (by decide +kernel)⟩
theorem lw_p11 : lw_okq (⟨"ExactTests$Walk", "fillCell", "(IIII)V"⟩, 15) := ⟨⟨by decide +kernel, by decide +kernel⟩, List.mem_of_getElem? (i := 60) (by decide +kernel), List.mem_of_getElem? (i := 483) (by decide +kernel), List.mem_of_getElem? (i := 484) (by decide +kernel)⟩
theorem lw_p12 : lw_okq (⟨"ExactTests$Walk", "fillLastRow", "(I)V"⟩, 15) := ⟨⟨by decide +kernel, by decide +kernel⟩, List.mem_of_getElem? (i := 60) (by decide +kernel), List.mem_of_getElem? (i := 487) (by decide +kernel), List.mem_of_getElem? (i := 488) (by decide +kernel)⟩
theorem lw_p13 : lw_okq (⟨"ExactTests$Fraction", "reduce", "()V"⟩, 2) := ⟨⟨by decide +kernel, by decide +kernel⟩, List.mem_of_getElem? (i := 208) (by decide +kernel), List.mem_of_getElem? (i := 518) (by decide +kernel), List.mem_of_getElem? (i := 519) (by decide +kernel)⟩
theorem lw_p14 : lw_okq (⟨"ExactTests$Fraction", "isCommon", "(I)Z"⟩, 2) := ⟨⟨by decide +kernel, by decide +kernel⟩, List.mem_of_getElem? (i := 208) (by decide +kernel), List.mem_of_getElem? (i := 524) (by decide +kernel), List.mem_of_getElem? (i := 525) (by decide +kernel)⟩
theorem lw_p15 : lw_okq (⟨"ExactTests$Sums", "begin", "()V"⟩, 7) := ⟨⟨by decide +kernel, by decide +kernel⟩, List.mem_of_getElem? (i := 154) (by decide +kernel), List.mem_of_getElem? (i := 550) (by decide +kernel), List.mem_of_getElem? (i := 551) (by decide +kernel)⟩
def lw_privs_1 : List (MethodName × Nat) := [(⟨"ExactTests$Walk", "begin", "(LExactTests$Grid;)V"⟩, 15), (⟨"ExactTests$Walk", "countRow", "(I)V"⟩, 15), (⟨"ExactTests$Walk", "sumOfColumnsLeft", "()I"⟩, 15), (⟨"ExactTests$Walk", "countCell", "(IIII)V"⟩, 15), (⟨"ExactTests$Walk", "weighAll", "(I)V"⟩, 15), (⟨"ExactTests$Whole", "empty", "()V"⟩, 2), (⟨"ExactTests$Whole", "trim", "(I)V"⟩, 2), (⟨"ExactTests$Walk", "choose", "(II)J"⟩, 15), (⟨"ExactTests$Whole", "addTimes", "(LExactTests$Whole;JI)V"⟩, 2), (⟨"ExactTests$Walk", "weighSeen", "(LExactTests$Grid;)V"⟩, 15), (⟨"ExactTests$Walk", "fillRow", "(I)V"⟩, 15), (⟨"ExactTests$Walk", "fillCell", "(IIII)V"⟩, 15), (⟨"ExactTests$Walk", "fillLastRow", "(I)V"⟩, 15), (⟨"ExactTests$Fraction", "reduce", "()V"⟩, 2), (⟨"ExactTests$Fraction", "isCommon", "(I)Z"⟩, 2), (⟨"ExactTests$Sums", "begin", "()V"⟩, 7)]
theorem lw_r1 : ∀ q ∈ lw_privs_1, lw_okq q := List.forall_mem_cons.mpr ⟨lw_p0, List.forall_mem_cons.mpr ⟨lw_p1, List.forall_mem_cons.mpr ⟨lw_p2, List.forall_mem_cons.mpr ⟨lw_p3, List.forall_mem_cons.mpr ⟨lw_p4, List.forall_mem_cons.mpr ⟨lw_p5, List.forall_mem_cons.mpr ⟨lw_p6, List.forall_mem_cons.mpr ⟨lw_p7, List.forall_mem_cons.mpr ⟨lw_p8, List.forall_mem_cons.mpr ⟨lw_p9, List.forall_mem_cons.mpr ⟨lw_p10, List.forall_mem_cons.mpr ⟨lw_p11, List.forall_mem_cons.mpr ⟨lw_p12, List.forall_mem_cons.mpr ⟨lw_p13, List.forall_mem_cons.mpr ⟨lw_p14, List.forall_mem_cons.mpr ⟨lw_p15, fun _ h => absurd h List.not_mem_nil⟩⟩⟩⟩⟩⟩⟩⟩⟩⟩⟩⟩⟩⟩⟩⟩
theorem lw_p16 : lw_okq (⟨"ExactTests", "takeScores", "(LExactTests$Numbers;I)I"⟩, 11) := ⟨⟨by decide +kernel, by decide +kernel⟩, List.mem_of_getElem? (i := 19) (by decide +kernel), List.mem_of_getElem? (i := 559) (by decide +kernel), List.mem_of_getElem? (i := 560) (by decide +kernel)⟩
theorem lw_p17 : lw_okq (⟨"ExactTests", "rankOfNumber", "(I)I"⟩, 11) := ⟨⟨by decide +kernel, by decide +kernel⟩, List.mem_of_getElem? (i := 19) (by decide +kernel), List.mem_of_getElem? (i := 571) (by decide +kernel), List.mem_of_getElem? (i := 572) (by decide +kernel)⟩
theorem lw_p18 : lw_okq (⟨"ExactTests$HalfSums", "makeRoom", "(I)V"⟩, 3) := ⟨⟨by decide +kernel, by decide +kernel⟩, List.mem_of_getElem? (i := 160) (by decide +kernel), List.mem_of_getElem? (i := 595) (by decide +kernel), List.mem_of_getElem? (i := 596) (by decide +kernel)⟩
theorem lw_p19 : lw_okq (⟨"ExactTests", "judge", "(III)V"⟩, 11) := ⟨⟨by decide +kernel, by decide +kernel⟩, List.mem_of_getElem? (i := 19) (by decide +kernel), List.mem_of_getElem? (i := 604) (by decide +kernel), List.mem_of_getElem? (i := 605) (by decide +kernel)⟩
theorem lw_p20 : lw_okq (⟨"ExactTests", "scoreOfSize", "(II)I"⟩, 11) := ⟨⟨by decide +kernel, by decide +kernel⟩, List.mem_of_getElem? (i := 19) (by decide +kernel), List.mem_of_getElem? (i := 639) (by decide +kernel), List.mem_of_getElem? (i := 640) (by decide +kernel)⟩
theorem lw_p21 : lw_okq (⟨"ExactTests", "rankOfSize", "(I)I"⟩, 11) := ⟨⟨by decide +kernel, by decide +kernel⟩, List.mem_of_getElem? (i := 19) (by decide +kernel), List.mem_of_getElem? (i := 643) (by decide +kernel), List.mem_of_getElem? (i := 644) (by decide +kernel)⟩
theorem lw_p22 : lw_okq (⟨"ExactTests", "refusal", "(I)I"⟩, 11) := ⟨⟨by decide +kernel, by decide +kernel⟩, List.mem_of_getElem? (i := 19) (by decide +kernel), List.mem_of_getElem? (i := 686) (by decide +kernel), List.mem_of_getElem? (i := 687) (by decide +kernel)⟩
theorem lw_p23 : lw_okq (⟨"ExactTests", "shiftInPlace", "(I)I"⟩, 11) := ⟨⟨by decide +kernel, by decide +kernel⟩, List.mem_of_getElem? (i := 19) (by decide +kernel), List.mem_of_getElem? (i := 847) (by decide +kernel), List.mem_of_getElem? (i := 848) (by decide +kernel)⟩
theorem lw_p24 : lw_okq (⟨"ExactTests", "countShiftsUpTo", "(I)I"⟩, 11) := ⟨⟨by decide +kernel, by decide +kernel⟩, List.mem_of_getElem? (i := 19) (by decide +kernel), List.mem_of_getElem? (i := 851) (by decide +kernel), List.mem_of_getElem? (i := 852) (by decide +kernel)⟩
theorem lw_p25 : lw_okq (⟨"ExactTestsModel", "marginOfRow", "(I)I"⟩, 47) := ⟨⟨by decide +kernel, by decide +kernel⟩, List.mem_of_getElem? (i := 863) (by decide +kernel), List.mem_of_getElem? (i := 1033) (by decide +kernel), List.mem_of_getElem? (i := 1034) (by decide +kernel)⟩
theorem lw_p26 : lw_okq (⟨"ExactTestsModel", "marginOfColumn", "(I)I"⟩, 47) := ⟨⟨by decide +kernel, by decide +kernel⟩, List.mem_of_getElem? (i := 863) (by decide +kernel), List.mem_of_getElem? (i := 1037) (by decide +kernel), List.mem_of_getElem? (i := 1038) (by decide +kernel)⟩
theorem lw_p27 : lw_okq (⟨"ExactTestsModel", "firstTable", "()V"⟩, 47) := ⟨⟨by decide +kernel, by decide +kernel⟩, List.mem_of_getElem? (i := 863) (by decide +kernel), List.mem_of_getElem? (i := 1059) (by decide +kernel), List.mem_of_getElem? (i := 1060) (by decide +kernel)⟩
theorem lw_p28 : lw_okq (⟨"ExactTestsModel", "openFrom", "(I)V"⟩, 47) := ⟨⟨by decide +kernel, by decide +kernel⟩, List.mem_of_getElem? (i := 863) (by decide +kernel), List.mem_of_getElem? (i := 1063) (by decide +kernel), List.mem_of_getElem? (i := 1064) (by decide +kernel)⟩
theorem lw_p29 : lw_okq (⟨"ExactTestsModel", "open", "(I)V"⟩, 47) := ⟨⟨by decide +kernel, by decide +kernel⟩, List.mem_of_getElem? (i := 863) (by decide +kernel), List.mem_of_getElem? (i := 1067) (by decide +kernel), List.mem_of_getElem? (i := 1068) (by decide +kernel)⟩
theorem lw_p30 : lw_okq (⟨"ExactTestsModel", "columnLeft", "(II)I"⟩, 47) := ⟨⟨by decide +kernel, by decide +kernel⟩, List.mem_of_getElem? (i := 863) (by decide +kernel), List.mem_of_getElem? (i := 1071) (by decide +kernel), List.mem_of_getElem? (i := 1072) (by decide +kernel)⟩
theorem lw_p31 : lw_okq (⟨"ExactTestsModel", "nextTable", "()Z"⟩, 47) := ⟨⟨by decide +kernel, by decide +kernel⟩, List.mem_of_getElem? (i := 863) (by decide +kernel), List.mem_of_getElem? (i := 1075) (by decide +kernel), List.mem_of_getElem? (i := 1076) (by decide +kernel)⟩
def lw_privs_2 : List (MethodName × Nat) := [(⟨"ExactTests", "takeScores", "(LExactTests$Numbers;I)I"⟩, 11), (⟨"ExactTests", "rankOfNumber", "(I)I"⟩, 11), (⟨"ExactTests$HalfSums", "makeRoom", "(I)V"⟩, 3), (⟨"ExactTests", "judge", "(III)V"⟩, 11), (⟨"ExactTests", "scoreOfSize", "(II)I"⟩, 11), (⟨"ExactTests", "rankOfSize", "(I)I"⟩, 11), (⟨"ExactTests", "refusal", "(I)I"⟩, 11), (⟨"ExactTests", "shiftInPlace", "(I)I"⟩, 11), (⟨"ExactTests", "countShiftsUpTo", "(I)I"⟩, 11), (⟨"ExactTestsModel", "marginOfRow", "(I)I"⟩, 47), (⟨"ExactTestsModel", "marginOfColumn", "(I)I"⟩, 47), (⟨"ExactTestsModel", "firstTable", "()V"⟩, 47), (⟨"ExactTestsModel", "openFrom", "(I)V"⟩, 47), (⟨"ExactTestsModel", "open", "(I)V"⟩, 47), (⟨"ExactTestsModel", "columnLeft", "(II)I"⟩, 47), (⟨"ExactTestsModel", "nextTable", "()Z"⟩, 47)]
theorem lw_r2 : ∀ q ∈ lw_privs_2, lw_okq q := List.forall_mem_cons.mpr ⟨lw_p16, List.forall_mem_cons.mpr ⟨lw_p17, List.forall_mem_cons.mpr ⟨lw_p18, List.forall_mem_cons.mpr ⟨lw_p19, List.forall_mem_cons.mpr ⟨lw_p20, List.forall_mem_cons.mpr ⟨lw_p21, List.forall_mem_cons.mpr ⟨lw_p22, List.forall_mem_cons.mpr ⟨lw_p23, List.forall_mem_cons.mpr ⟨lw_p24, List.forall_mem_cons.mpr ⟨lw_p25, List.forall_mem_cons.mpr ⟨lw_p26, List.forall_mem_cons.mpr ⟨lw_p27, List.forall_mem_cons.mpr ⟨lw_p28, List.forall_mem_cons.mpr ⟨lw_p29, List.forall_mem_cons.mpr ⟨lw_p30, List.forall_mem_cons.mpr ⟨lw_p31, fun _ h => absurd h List.not_mem_nil⟩⟩⟩⟩⟩⟩⟩⟩⟩⟩⟩⟩⟩⟩⟩⟩
theorem lw_p32 : lw_okq (⟨"ExactTestsModel", "timesFactorial", "([II)V"⟩, 47) := ⟨⟨by decide +kernel, by decide +kernel⟩, List.mem_of_getElem? (i := 863) (by decide +kernel), List.mem_of_getElem? (i := 1083) (by decide +kernel), List.mem_of_getElem? (i := 1084) (by decide +kernel)⟩
theorem lw_p33 : lw_okq (⟨"ExactTestsModel", "weigh", "([I[I)V"⟩, 47) := ⟨⟨by decide +kernel, by decide +kernel⟩, List.mem_of_getElem? (i := 863) (by decide +kernel), List.mem_of_getElem? (i := 1090) (by decide +kernel), List.mem_of_getElem? (i := 1091) (by decide +kernel)⟩
theorem lw_p34 : lw_okq (⟨"ExactTestsModel", "keepCase", "(I)V"⟩, 47) := ⟨⟨by decide +kernel, by decide +kernel⟩, List.mem_of_getElem? (i := 863) (by decide +kernel), List.mem_of_getElem? (i := 1101) (by decide +kernel), List.mem_of_getElem? (i := 1102) (by decide +kernel)⟩
theorem lw_p35 : lw_okq (⟨"ExactTestsModel", "shorten", "([I)V"⟩, 47) := ⟨⟨by decide +kernel, by decide +kernel⟩, List.mem_of_getElem? (i := 863) (by decide +kernel), List.mem_of_getElem? (i := 1112) (by decide +kernel), List.mem_of_getElem? (i := 1113) (by decide +kernel)⟩
theorem lw_p36 : lw_okq (⟨"ExactTestsModel", "findCommon", "([II[II)V"⟩, 47) := ⟨⟨by decide +kernel, by decide +kernel⟩, List.mem_of_getElem? (i := 863) (by decide +kernel), List.mem_of_getElem? (i := 1116) (by decide +kernel), List.mem_of_getElem? (i := 1117) (by decide +kernel)⟩
theorem lw_p37 : lw_okq (⟨"ExactTestsModel", "part", "([II[II)V"⟩, 47) := ⟨⟨by decide +kernel, by decide +kernel⟩, List.mem_of_getElem? (i := 863) (by decide +kernel), List.mem_of_getElem? (i := 1123) (by decide +kernel), List.mem_of_getElem? (i := 1124) (by decide +kernel)⟩
theorem lw_p38 : lw_okq (⟨"ExactTestsModel", "takeSizes", "()V"⟩, 47) := ⟨⟨by decide +kernel, by decide +kernel⟩, List.mem_of_getElem? (i := 863) (by decide +kernel), List.mem_of_getElem? (i := 1150) (by decide +kernel), List.mem_of_getElem? (i := 1151) (by decide +kernel)⟩
theorem lw_p39 : lw_okq (⟨"ExactTestsModel", "rankOf", "(I)I"⟩, 47) := ⟨⟨by decide +kernel, by decide +kernel⟩, List.mem_of_getElem? (i := 863) (by decide +kernel), List.mem_of_getElem? (i := 1157) (by decide +kernel), List.mem_of_getElem? (i := 1158) (by decide +kernel)⟩
theorem lw_p40 : lw_okq (⟨"ExactTestsModel", "takeSamples", "()V"⟩, 47) := ⟨⟨by decide +kernel, by decide +kernel⟩, List.mem_of_getElem? (i := 863) (by decide +kernel), List.mem_of_getElem? (i := 1161) (by decide +kernel), List.mem_of_getElem? (i := 1162) (by decide +kernel)⟩
theorem lw_p41 : lw_okq (⟨"ExactTestsModel", "countWays", "(II)V"⟩, 47) := ⟨⟨by decide +kernel, by decide +kernel⟩, List.mem_of_getElem? (i := 863) (by decide +kernel), List.mem_of_getElem? (i := 1171) (by decide +kernel), List.mem_of_getElem? (i := 1172) (by decide +kernel)⟩
theorem lw_p42 : lw_okq (⟨"ExactTestsModel", "findChances", "(II)V"⟩, 47) := ⟨⟨by decide +kernel, by decide +kernel⟩, List.mem_of_getElem? (i := 863) (by decide +kernel), List.mem_of_getElem? (i := 1175) (by decide +kernel), List.mem_of_getElem? (i := 1176) (by decide +kernel)⟩
theorem lw_p43 : lw_okq (⟨"ExactTestsModel", "stands", "([II[IIIII)I"⟩, 47) := ⟨⟨by decide +kernel, by decide +kernel⟩, List.mem_of_getElem? (i := 863) (by decide +kernel), List.mem_of_getElem? (i := 1217) (by decide +kernel), List.mem_of_getElem? (i := 1218) (by decide +kernel)⟩
theorem lw_p44 : lw_okq (⟨"ExactTestsModel", "findRejected", "(II)I"⟩, 47) := ⟨⟨by decide +kernel, by decide +kernel⟩, List.mem_of_getElem? (i := 863) (by decide +kernel), List.mem_of_getElem? (i := 1234) (by decide +kernel), List.mem_of_getElem? (i := 1235) (by decide +kernel)⟩
theorem lw_p45 : lw_okq (⟨"ExactTestsModel", "isLess", "(II)Z"⟩, 47) := ⟨⟨by decide +kernel, by decide +kernel⟩, List.mem_of_getElem? (i := 863) (by decide +kernel), List.mem_of_getElem? (i := 1238) (by decide +kernel), List.mem_of_getElem? (i := 1239) (by decide +kernel)⟩
def lw_privs_3 : List (MethodName × Nat) := [(⟨"ExactTestsModel", "timesFactorial", "([II)V"⟩, 47), (⟨"ExactTestsModel", "weigh", "([I[I)V"⟩, 47), (⟨"ExactTestsModel", "keepCase", "(I)V"⟩, 47), (⟨"ExactTestsModel", "shorten", "([I)V"⟩, 47), (⟨"ExactTestsModel", "findCommon", "([II[II)V"⟩, 47), (⟨"ExactTestsModel", "part", "([II[II)V"⟩, 47), (⟨"ExactTestsModel", "takeSizes", "()V"⟩, 47), (⟨"ExactTestsModel", "rankOf", "(I)I"⟩, 47), (⟨"ExactTestsModel", "takeSamples", "()V"⟩, 47), (⟨"ExactTestsModel", "countWays", "(II)V"⟩, 47), (⟨"ExactTestsModel", "findChances", "(II)V"⟩, 47), (⟨"ExactTestsModel", "stands", "([II[IIIII)I"⟩, 47), (⟨"ExactTestsModel", "findRejected", "(II)I"⟩, 47), (⟨"ExactTestsModel", "isLess", "(II)Z"⟩, 47)]
theorem lw_r3 : ∀ q ∈ lw_privs_3, lw_okq q := List.forall_mem_cons.mpr ⟨lw_p32, List.forall_mem_cons.mpr ⟨lw_p33, List.forall_mem_cons.mpr ⟨lw_p34, List.forall_mem_cons.mpr ⟨lw_p35, List.forall_mem_cons.mpr ⟨lw_p36, List.forall_mem_cons.mpr ⟨lw_p37, List.forall_mem_cons.mpr ⟨lw_p38, List.forall_mem_cons.mpr ⟨lw_p39, List.forall_mem_cons.mpr ⟨lw_p40, List.forall_mem_cons.mpr ⟨lw_p41, List.forall_mem_cons.mpr ⟨lw_p42, List.forall_mem_cons.mpr ⟨lw_p43, List.forall_mem_cons.mpr ⟨lw_p44, List.forall_mem_cons.mpr ⟨lw_p45, fun _ h => absurd h List.not_mem_nil⟩⟩⟩⟩⟩⟩⟩⟩⟩⟩⟩⟩⟩⟩
def lw_privs : List (MethodName × Nat) := lw_privs_1 ++ (lw_privs_2 ++ (lw_privs_3))
def lw_tbl : List Cond := k2_sels lw_privs ++ tables_1
theorem lw_privs_ok : ∀ q ∈ lw_privs, lw_okq q := by
  show ∀ q ∈ lw_privs_1 ++ (lw_privs_2 ++ (lw_privs_3)), lw_okq q
  exact List.forall_mem_append.mpr ⟨lw_r1, List.forall_mem_append.mpr ⟨lw_r2, lw_r3⟩⟩
end
section
def RX0 : String := "ExactTests$Cases"
def TX0 : u_T := fun k => match k with
  | 0 => ("ExactTests$Cases", "kept", "[J", false)
  | 1 => ("ExactTests$Cases", "rows", "I", false)
  | 2 => ("ExactTests$Cases", "columns", "I", false)
  | 3 => ("ExactTests$Cases", "stride", "I", false)
  | _ => ("ExactTests$Cases", "count", "I", false)
def tyX0 : Nat → FieldType := fun k => match k with
  | 0 => .array .long
  | 1 => .int
  | 2 => .int
  | 3 => .int
  | _ => .int
theorem nmX0 : ∀ a, a < 5 → ∀ b, b < 5 → a ≠ b → (TX0 a).2.1 ≠ (TX0 b).2.1 := by decide +kernel
theorem tyX0_ok : ∀ k, k < 5 → parseFieldDescriptor (TX0 k).2.2.1 = some (tyX0 k) := by decide +kernel
abbrev cX0_init : ByteArray := prog_2_method_1_code
def yX0_init : MethodName := ⟨RX0, "<init>", "()V"⟩
abbrev cX0_renew : ByteArray := prog_2_method_2_code
def yX0_renew : MethodName := ⟨RX0, "renew", "(III)V"⟩
abbrev cX0_keep : ByteArray := prog_2_method_3_code
def yX0_keep : MethodName := ⟨RX0, "keep", "([II)V"⟩
abbrev cX0_count : ByteArray := prog_2_method_4_code
def yX0_count : MethodName := ⟨RX0, "count", "()I"⟩
abbrev cX0_has : ByteArray := prog_2_method_5_code
def yX0_has : MethodName := ⟨RX0, "has", "(I)Z"⟩
abbrev cX0_hasCell : ByteArray := prog_2_method_6_code
def yX0_hasCell : MethodName := ⟨RX0, "hasCell", "(II)Z"⟩
abbrev cX0_numberAt : ByteArray := prog_2_method_7_code
def yX0_numberAt : MethodName := ⟨RX0, "numberAt", "(III)I"⟩
abbrev cX0_orderOf : ByteArray := prog_2_method_8_code
def yX0_orderOf : MethodName := ⟨RX0, "orderOf", "(I)I"⟩
def RX1 : String := "ExactTests$Chances"
def TX1 : u_T := fun k => match k with
  | 0 => ("ExactTests$Chances", "noted", "[LExactTests$Fraction;", true)
  | 1 => ("ExactTests$Chances", "order", "[I", true)
  | 2 => ("ExactTests$Chances", "scale", "LExactTests$Scale;", true)
  | _ => ("ExactTests$Chances", "size", "I", false)
def tyX1 : Nat → FieldType := fun k => match k with
  | 0 => .array (.object "ExactTests$Fraction")
  | 1 => .array .int
  | 2 => .object "ExactTests$Scale"
  | _ => .int
theorem nmX1 : ∀ a, a < 4 → ∀ b, b < 4 → a ≠ b → (TX1 a).2.1 ≠ (TX1 b).2.1 := by decide +kernel
theorem tyX1_ok : ∀ k, k < 4 → parseFieldDescriptor (TX1 k).2.2.1 = some (tyX1 k) := by decide +kernel
abbrev cX1_init : ByteArray := prog_3_method_1_code
def yX1_init : MethodName := ⟨RX1, "<init>", "(LExactTests$Scale;)V"⟩
abbrev cX1_size : ByteArray := prog_3_method_2_code
def yX1_size : MethodName := ⟨RX1, "size", "()I"⟩
abbrev cX1_isFull : ByteArray := prog_3_method_3_code
def yX1_isFull : MethodName := ⟨RX1, "isFull", "()Z"⟩
abbrev cX1_has : ByteArray := prog_3_method_4_code
def yX1_has : MethodName := ⟨RX1, "has", "(I)Z"⟩
abbrev cX1_empty : ByteArray := prog_3_method_5_code
def yX1_empty : MethodName := ⟨RX1, "empty", "()I"⟩
abbrev cX1_add : ByteArray := prog_3_method_6_code
def yX1_add : MethodName := ⟨RX1, "add", "(LExactTests$Fraction;)I"⟩
abbrev cX1_placeOf : ByteArray := prog_3_method_7_code
def yX1_placeOf : MethodName := ⟨RX1, "placeOf", "(I)I"⟩
abbrev cX1_countRejected : ByteArray := prog_3_method_8_code
def yX1_countRejected : MethodName := ⟨RX1, "countRejected", "(II)I"⟩
def RX2 : String := "ExactTests$Fraction"
def TX2 : u_T := fun k => match k with
  | 0 => ("ExactTests$Fraction", "upper", "LExactTests$Whole;", true)
  | _ => ("ExactTests$Fraction", "lower", "LExactTests$Whole;", true)
def tyX2 : Nat → FieldType := fun k => match k with
  | 0 => .object "ExactTests$Whole"
  | _ => .object "ExactTests$Whole"
theorem nmX2 : ∀ a, a < 2 → ∀ b, b < 2 → a ≠ b → (TX2 a).2.1 ≠ (TX2 b).2.1 := by decide +kernel
theorem tyX2_ok : ∀ k, k < 2 → parseFieldDescriptor (TX2 k).2.2.1 = some (tyX2 k) := by decide +kernel
abbrev cX2_init : ByteArray := prog_4_method_1_code
def yX2_init : MethodName := ⟨RX2, "<init>", "()V"⟩
abbrev cX2_setWholes : ByteArray := prog_4_method_2_code
def yX2_setWholes : MethodName := ⟨RX2, "setWholes", "(LExactTests$Whole;LExactTests$Whole;)V"⟩
abbrev cX2_setLongs : ByteArray := prog_4_method_3_code
def yX2_setLongs : MethodName := ⟨RX2, "setLongs", "(JJ)V"⟩
abbrev cX2_copy : ByteArray := prog_4_method_4_code
def yX2_copy : MethodName := ⟨RX2, "copy", "(LExactTests$Fraction;)V"⟩
abbrev cX2_part : ByteArray := prog_4_method_5_code
def yX2_part : MethodName := ⟨RX2, "part", "(I)LExactTests$Whole;"⟩
abbrev cX2_countWords : ByteArray := prog_4_method_6_code
def yX2_countWords : MethodName := ⟨RX2, "countWords", "()I"⟩
abbrev cX2_wordInTurn : ByteArray := prog_4_method_7_code
def yX2_wordInTurn : MethodName := ⟨RX2, "wordInTurn", "(I)I"⟩
abbrev cX2_reduce : ByteArray := prog_4_method_8_code
def yX2_reduce : MethodName := ⟨RX2, "reduce", "()V"⟩
abbrev cX2_isCommon : ByteArray := prog_4_method_9_code
def yX2_isCommon : MethodName := ⟨RX2, "isCommon", "(I)Z"⟩
def RX3 : String := "ExactTests$Grid"
def TX3 : u_T := fun k => match k with
  | 0 => ("ExactTests$Grid", "cells", "[I", true)
  | 1 => ("ExactTests$Grid", "rows", "I", false)
  | _ => ("ExactTests$Grid", "columns", "I", false)
def tyX3 : Nat → FieldType := fun k => match k with
  | 0 => .array .int
  | 1 => .int
  | _ => .int
theorem nmX3 : ∀ a, a < 3 → ∀ b, b < 3 → a ≠ b → (TX3 a).2.1 ≠ (TX3 b).2.1 := by decide +kernel
theorem tyX3_ok : ∀ k, k < 3 → parseFieldDescriptor (TX3 k).2.2.1 = some (tyX3 k) := by decide +kernel
abbrev cX3_init : ByteArray := prog_5_method_1_code
def yX3_init : MethodName := ⟨RX3, "<init>", "()V"⟩
abbrev cX3_renew : ByteArray := prog_5_method_2_code
def yX3_renew : MethodName := ⟨RX3, "renew", "(II)V"⟩
abbrev cX3_rows : ByteArray := prog_5_method_3_code
def yX3_rows : MethodName := ⟨RX3, "rows", "()I"⟩
abbrev cX3_columns : ByteArray := prog_5_method_4_code
def yX3_columns : MethodName := ⟨RX3, "columns", "()I"⟩
abbrev cX3_hasRow : ByteArray := prog_5_method_5_code
def yX3_hasRow : MethodName := ⟨RX3, "hasRow", "(I)Z"⟩
abbrev cX3_hasColumn : ByteArray := prog_5_method_6_code
def yX3_hasColumn : MethodName := ⟨RX3, "hasColumn", "(I)Z"⟩
abbrev cX3_at : ByteArray := prog_5_method_7_code
def yX3_at : MethodName := ⟨RX3, "at", "(II)I"⟩
abbrev cX3_put : ByteArray := prog_5_method_8_code
def yX3_put : MethodName := ⟨RX3, "put", "(III)V"⟩
abbrev cX3_rowSum : ByteArray := prog_5_method_9_code
def yX3_rowSum : MethodName := ⟨RX3, "rowSum", "(I)I"⟩
abbrev cX3_columnSum : ByteArray := prog_5_method_10_code
def yX3_columnSum : MethodName := ⟨RX3, "columnSum", "(I)I"⟩
abbrev cX3_inAll : ByteArray := prog_5_method_11_code
def yX3_inAll : MethodName := ⟨RX3, "inAll", "()I"⟩
def RX4 : String := "ExactTests$HalfSums"
def TX4 : u_T := fun k => match k with
  | 0 => ("ExactTests$HalfSums", "sums", "[I", false)
  | 1 => ("ExactTests$HalfSums", "times", "[I", false)
  | _ => ("ExactTests$HalfSums", "size", "I", false)
def tyX4 : Nat → FieldType := fun k => match k with
  | 0 => .array .int
  | 1 => .array .int
  | _ => .int
theorem nmX4 : ∀ a, a < 3 → ∀ b, b < 3 → a ≠ b → (TX4 a).2.1 ≠ (TX4 b).2.1 := by decide +kernel
theorem tyX4_ok : ∀ k, k < 3 → parseFieldDescriptor (TX4 k).2.2.1 = some (tyX4 k) := by decide +kernel
abbrev cX4_init : ByteArray := prog_6_method_1_code
def yX4_init : MethodName := ⟨RX4, "<init>", "()V"⟩
abbrev cX4_begin : ByteArray := prog_6_method_2_code
def yX4_begin : MethodName := ⟨RX4, "begin", "()V"⟩
abbrev cX4_take : ByteArray := prog_6_method_3_code
def yX4_take : MethodName := ⟨RX4, "take", "(I)V"⟩
abbrev cX4_makeRoom : ByteArray := prog_6_method_4_code
def yX4_makeRoom : MethodName := ⟨RX4, "makeRoom", "(I)V"⟩
def RX5 : String := "ExactTests$Numbers"
def TX5 : u_T := fun k => match k with
  | 0 => ("ExactTests$Numbers", "values", "[I", true)
  | _ => ("ExactTests$Numbers", "size", "I", false)
def tyX5 : Nat → FieldType := fun k => match k with
  | 0 => .array .int
  | _ => .int
theorem nmX5 : ∀ a, a < 2 → ∀ b, b < 2 → a ≠ b → (TX5 a).2.1 ≠ (TX5 b).2.1 := by decide +kernel
theorem tyX5_ok : ∀ k, k < 2 → parseFieldDescriptor (TX5 k).2.2.1 = some (tyX5 k) := by decide +kernel
abbrev cX5_init : ByteArray := prog_7_method_1_code
def yX5_init : MethodName := ⟨RX5, "<init>", "(I)V"⟩
abbrev cX5_size : ByteArray := prog_7_method_2_code
def yX5_size : MethodName := ⟨RX5, "size", "()I"⟩
abbrev cX5_isFull : ByteArray := prog_7_method_3_code
def yX5_isFull : MethodName := ⟨RX5, "isFull", "()Z"⟩
abbrev cX5_has : ByteArray := prog_7_method_4_code
def yX5_has : MethodName := ⟨RX5, "has", "(I)Z"⟩
abbrev cX5_get : ByteArray := prog_7_method_5_code
def yX5_get : MethodName := ⟨RX5, "get", "(I)I"⟩
abbrev cX5_add : ByteArray := prog_7_method_6_code
def yX5_add : MethodName := ⟨RX5, "add", "(I)I"⟩
abbrev cX5_empty : ByteArray := prog_7_method_7_code
def yX5_empty : MethodName := ⟨RX5, "empty", "()I"⟩
abbrev cX5_countOf : ByteArray := prog_7_method_8_code
def yX5_countOf : MethodName := ⟨RX5, "countOf", "(I)I"⟩
abbrev cX5_countBelow : ByteArray := prog_7_method_9_code
def yX5_countBelow : MethodName := ⟨RX5, "countBelow", "(I)I"⟩
def RX6 : String := "ExactTests$Results"
def TX6 : u_T := fun k => match k with
  | 0 => ("ExactTests$Results", "chances", "[LExactTests$Fraction;", true)
  | 1 => ("ExactTests$Results", "there", "Z", false)
  | 2 => ("ExactTests$Results", "test", "I", false)
  | 3 => ("ExactTests$Results", "statistic", "I", false)
  | _ => ("ExactTests$Results", "asked", "I", false)
def tyX6 : Nat → FieldType := fun k => match k with
  | 0 => .array (.object "ExactTests$Fraction")
  | 1 => .boolean
  | 2 => .int
  | 3 => .int
  | _ => .int
theorem nmX6 : ∀ a, a < 5 → ∀ b, b < 5 → a ≠ b → (TX6 a).2.1 ≠ (TX6 b).2.1 := by decide +kernel
theorem tyX6_ok : ∀ k, k < 5 → parseFieldDescriptor (TX6 k).2.2.1 = some (tyX6 k) := by decide +kernel
abbrev cX6_init : ByteArray := prog_8_method_1_code
def yX6_init : MethodName := ⟨RX6, "<init>", "()V"⟩
abbrev cX6_begin : ByteArray := prog_8_method_2_code
def yX6_begin : MethodName := ⟨RX6, "begin", "(III)V"⟩
abbrev cX6_areThere : ByteArray := prog_8_method_3_code
def yX6_areThere : MethodName := ⟨RX6, "areThere", "()Z"⟩
abbrev cX6_test : ByteArray := prog_8_method_4_code
def yX6_test : MethodName := ⟨RX6, "test", "()I"⟩
abbrev cX6_statistic : ByteArray := prog_8_method_5_code
def yX6_statistic : MethodName := ⟨RX6, "statistic", "()I"⟩
abbrev cX6_asked : ByteArray := prog_8_method_6_code
def yX6_asked : MethodName := ⟨RX6, "asked", "()I"⟩
abbrev cX6_chance : ByteArray := prog_8_method_7_code
def yX6_chance : MethodName := ⟨RX6, "chance", "(I)LExactTests$Fraction;"⟩
def RX7 : String := "ExactTests$Scale"
def TX7 : u_T := fun k => match k with
  | 0 => ("ExactTests$Scale", "left", "LExactTests$Whole;", true)
  | _ => ("ExactTests$Scale", "right", "LExactTests$Whole;", true)
def tyX7 : Nat → FieldType := fun k => match k with
  | 0 => .object "ExactTests$Whole"
  | _ => .object "ExactTests$Whole"
theorem nmX7 : ∀ a, a < 2 → ∀ b, b < 2 → a ≠ b → (TX7 a).2.1 ≠ (TX7 b).2.1 := by decide +kernel
theorem tyX7_ok : ∀ k, k < 2 → parseFieldDescriptor (TX7 k).2.2.1 = some (tyX7 k) := by decide +kernel
abbrev cX7_init : ByteArray := prog_9_method_1_code
def yX7_init : MethodName := ⟨RX7, "<init>", "()V"⟩
abbrev cX7_compareChances : ByteArray := prog_9_method_2_code
def yX7_compareChances : MethodName := ⟨RX7, "compareChances", "(LExactTests$Fraction;LExactTests$Fraction;)I"⟩
abbrev cX7_compareToLevel : ByteArray := prog_9_method_3_code
def yX7_compareToLevel : MethodName := ⟨RX7, "compareToLevel", "(LExactTests$Fraction;JJ)I"⟩
abbrev cX7_figureOf : ByteArray := prog_9_method_4_code
def yX7_figureOf : MethodName := ⟨RX7, "figureOf", "(LExactTests$Fraction;I)I"⟩
abbrev cX7_takeOut : ByteArray := prog_9_method_5_code
def yX7_takeOut : MethodName := ⟨RX7, "takeOut", "(LExactTests$Whole;LExactTests$Whole;)I"⟩
def RX8 : String := "ExactTests$Sums"
def TX8 : u_T := fun k => match k with
  | 0 => ("ExactTests$Sums", "one", "LExactTests$HalfSums;", true)
  | 1 => ("ExactTests$Sums", "other", "LExactTests$HalfSums;", true)
  | 2 => ("ExactTests$Sums", "oneIsNext", "Z", false)
  | 3 => ("ExactTests$Sums", "mark", "I", false)
  | 4 => ("ExactTests$Sums", "offset", "I", false)
  | 5 => ("ExactTests$Sums", "ahead", "J", false)
  | _ => ("ExactTests$Sums", "all", "J", false)
def tyX8 : Nat → FieldType := fun k => match k with
  | 0 => .object "ExactTests$HalfSums"
  | 1 => .object "ExactTests$HalfSums"
  | 2 => .boolean
  | 3 => .int
  | 4 => .int
  | 5 => .long
  | _ => .long
theorem nmX8 : ∀ a, a < 7 → ∀ b, b < 7 → a ≠ b → (TX8 a).2.1 ≠ (TX8 b).2.1 := by decide +kernel
theorem tyX8_ok : ∀ k, k < 7 → parseFieldDescriptor (TX8 k).2.2.1 = some (tyX8 k) := by decide +kernel
abbrev cX8_init : ByteArray := prog_10_method_1_code
def yX8_init : MethodName := ⟨RX8, "<init>", "()V"⟩
abbrev cX8_beginTaking : ByteArray := prog_10_method_2_code
def yX8_beginTaking : MethodName := ⟨RX8, "beginTaking", "(II)V"⟩
abbrev cX8_beginSigning : ByteArray := prog_10_method_3_code
def yX8_beginSigning : MethodName := ⟨RX8, "beginSigning", "(I)V"⟩
abbrev cX8_begin : ByteArray := prog_10_method_4_code
def yX8_begin : MethodName := ⟨RX8, "begin", "()V"⟩
abbrev cX8_take : ByteArray := prog_10_method_5_code
def yX8_take : MethodName := ⟨RX8, "take", "(I)V"⟩
abbrev cX8_countAll : ByteArray := prog_10_method_6_code
def yX8_countAll : MethodName := ⟨RX8, "countAll", "()J"⟩
abbrev cX8_upTo : ByteArray := prog_10_method_7_code
def yX8_upTo : MethodName := ⟨RX8, "upTo", "(I)J"⟩
abbrev cX8_exactly : ByteArray := prog_10_method_8_code
def yX8_exactly : MethodName := ⟨RX8, "exactly", "(I)J"⟩
def RX9 : String := "ExactTests$Walk"
def TX9 : u_T := fun k => match k with
  | 0 => ("ExactTests$Walk", "triangle", "[J", true)
  | 1 => ("ExactTests$Walk", "rowSums", "[I", true)
  | 2 => ("ExactTests$Walk", "columnLeft", "[I", true)
  | 3 => ("ExactTests$Walk", "cells", "[I", true)
  | 4 => ("ExactTests$Walk", "weights", "[LExactTests$Whole;", true)
  | 5 => ("ExactTests$Walk", "rows", "I", false)
  | 6 => ("ExactTests$Walk", "columns", "I", false)
  | 7 => ("ExactTests$Walk", "corner", "I", false)
  | 8 => ("ExactTests$Walk", "found", "I", false)
  | 9 => ("ExactTests$Walk", "cases", "LExactTests$Cases;", false)
  | 10 => ("ExactTests$Walk", "all", "LExactTests$Whole;", true)
  | 11 => ("ExactTests$Walk", "seen", "LExactTests$Whole;", true)
  | 12 => ("ExactTests$Walk", "far", "LExactTests$Whole;", true)
  | 13 => ("ExactTests$Walk", "low", "LExactTests$Whole;", true)
  | _ => ("ExactTests$Walk", "high", "LExactTests$Whole;", true)
def tyX9 : Nat → FieldType := fun k => match k with
  | 0 => .array .long
  | 1 => .array .int
  | 2 => .array .int
  | 3 => .array .int
  | 4 => .array (.object "ExactTests$Whole")
  | 5 => .int
  | 6 => .int
  | 7 => .int
  | 8 => .int
  | 9 => .object "ExactTests$Cases"
  | 10 => .object "ExactTests$Whole"
  | 11 => .object "ExactTests$Whole"
  | 12 => .object "ExactTests$Whole"
  | 13 => .object "ExactTests$Whole"
  | _ => .object "ExactTests$Whole"
theorem nmX9 : ∀ a, a < 15 → ∀ b, b < 15 → a ≠ b → (TX9 a).2.1 ≠ (TX9 b).2.1 := by decide +kernel
theorem tyX9_ok : ∀ k, k < 15 → parseFieldDescriptor (TX9 k).2.2.1 = some (tyX9 k) := by decide +kernel
abbrev cX9_init : ByteArray := prog_11_method_1_code
def yX9_init : MethodName := ⟨RX9, "<init>", "()V"⟩
abbrev cX9_choose : ByteArray := prog_11_method_2_code
def yX9_choose : MethodName := ⟨RX9, "choose", "(II)J"⟩
abbrev cX9_countCases : ByteArray := prog_11_method_3_code
def yX9_countCases : MethodName := ⟨RX9, "countCases", "(LExactTests$Grid;)I"⟩
abbrev cX9_weighCases : ByteArray := prog_11_method_4_code
def yX9_weighCases : MethodName := ⟨RX9, "weighCases", "(LExactTests$Grid;LExactTests$Cases;)V"⟩
abbrev cX9_begin : ByteArray := prog_11_method_5_code
def yX9_begin : MethodName := ⟨RX9, "begin", "(LExactTests$Grid;)V"⟩
abbrev cX9_weighAll : ByteArray := prog_11_method_6_code
def yX9_weighAll : MethodName := ⟨RX9, "weighAll", "(I)V"⟩
abbrev cX9_weighSeen : ByteArray := prog_11_method_7_code
def yX9_weighSeen : MethodName := ⟨RX9, "weighSeen", "(LExactTests$Grid;)V"⟩
abbrev cX9_sumOfColumnsLeft : ByteArray := prog_11_method_8_code
def yX9_sumOfColumnsLeft : MethodName := ⟨RX9, "sumOfColumnsLeft", "()I"⟩
abbrev cX9_countRow : ByteArray := prog_11_method_9_code
def yX9_countRow : MethodName := ⟨RX9, "countRow", "(I)V"⟩
abbrev cX9_countCell : ByteArray := prog_11_method_10_code
def yX9_countCell : MethodName := ⟨RX9, "countCell", "(IIII)V"⟩
abbrev cX9_fillRow : ByteArray := prog_11_method_11_code
def yX9_fillRow : MethodName := ⟨RX9, "fillRow", "(I)V"⟩
abbrev cX9_fillCell : ByteArray := prog_11_method_12_code
def yX9_fillCell : MethodName := ⟨RX9, "fillCell", "(IIII)V"⟩
abbrev cX9_fillLastRow : ByteArray := prog_11_method_13_code
def yX9_fillLastRow : MethodName := ⟨RX9, "fillLastRow", "(I)V"⟩
def RX10 : String := "ExactTests$Whole"
def TX10 : u_T := fun k => match k with
  | 0 => ("ExactTests$Whole", "limbs", "[J", true)
  | _ => ("ExactTests$Whole", "size", "I", false)
def tyX10 : Nat → FieldType := fun k => match k with
  | 0 => .array .long
  | _ => .int
theorem nmX10 : ∀ a, a < 2 → ∀ b, b < 2 → a ≠ b → (TX10 a).2.1 ≠ (TX10 b).2.1 := by decide +kernel
theorem tyX10_ok : ∀ k, k < 2 → parseFieldDescriptor (TX10 k).2.2.1 = some (tyX10 k) := by decide +kernel
abbrev cX10_init : ByteArray := prog_12_method_1_code
def yX10_init : MethodName := ⟨RX10, "<init>", "()V"⟩
abbrev cX10_set : ByteArray := prog_12_method_2_code
def yX10_set : MethodName := ⟨RX10, "set", "(J)V"⟩
abbrev cX10_copy : ByteArray := prog_12_method_3_code
def yX10_copy : MethodName := ⟨RX10, "copy", "(LExactTests$Whole;)V"⟩
abbrev cX10_compare : ByteArray := prog_12_method_4_code
def yX10_compare : MethodName := ⟨RX10, "compare", "(LExactTests$Whole;)I"⟩
abbrev cX10_add : ByteArray := prog_12_method_5_code
def yX10_add : MethodName := ⟨RX10, "add", "(LExactTests$Whole;)V"⟩
abbrev cX10_subtract : ByteArray := prog_12_method_6_code
def yX10_subtract : MethodName := ⟨RX10, "subtract", "(LExactTests$Whole;)V"⟩
abbrev cX10_setProduct : ByteArray := prog_12_method_7_code
def yX10_setProduct : MethodName := ⟨RX10, "setProduct", "(LExactTests$Whole;J)V"⟩
abbrev cX10_setProductOf : ByteArray := prog_12_method_8_code
def yX10_setProductOf : MethodName := ⟨RX10, "setProductOf", "(LExactTests$Whole;LExactTests$Whole;)V"⟩
abbrev cX10_addTimes : ByteArray := prog_12_method_9_code
def yX10_addTimes : MethodName := ⟨RX10, "addTimes", "(LExactTests$Whole;JI)V"⟩
abbrev cX10_remainder : ByteArray := prog_12_method_10_code
def yX10_remainder : MethodName := ⟨RX10, "remainder", "(I)I"⟩
abbrev cX10_divide : ByteArray := prog_12_method_11_code
def yX10_divide : MethodName := ⟨RX10, "divide", "(I)V"⟩
abbrev cX10_bitLength : ByteArray := prog_12_method_12_code
def yX10_bitLength : MethodName := ⟨RX10, "bitLength", "()I"⟩
abbrev cX10_countWords : ByteArray := prog_12_method_13_code
def yX10_countWords : MethodName := ⟨RX10, "countWords", "()I"⟩
abbrev cX10_sixteenBits : ByteArray := prog_12_method_14_code
def yX10_sixteenBits : MethodName := ⟨RX10, "sixteenBits", "(I)I"⟩
abbrev cX10_empty : ByteArray := prog_12_method_15_code
def yX10_empty : MethodName := ⟨RX10, "empty", "()V"⟩
abbrev cX10_trim : ByteArray := prog_12_method_16_code
def yX10_trim : MethodName := ⟨RX10, "trim", "(I)V"⟩
def RX11 : String := "ExactTests"
def TX11 : u_T := fun k => match k with
  | 0 => ("ExactTests", "grid", "LExactTests$Grid;", true)
  | 1 => ("ExactTests", "sampleA", "LExactTests$Numbers;", true)
  | 2 => ("ExactTests", "sampleB", "LExactTests$Numbers;", true)
  | 3 => ("ExactTests", "differences", "LExactTests$Numbers;", true)
  | 4 => ("ExactTests", "claimed", "LExactTests$Numbers;", true)
  | 5 => ("ExactTests", "walk", "LExactTests$Walk;", true)
  | 6 => ("ExactTests", "cases", "LExactTests$Cases;", true)
  | 7 => ("ExactTests", "sums", "LExactTests$Sums;", true)
  | 8 => ("ExactTests", "results", "LExactTests$Results;", true)
  | 9 => ("ExactTests", "scale", "LExactTests$Scale;", true)
  | _ => ("ExactTests", "chances", "LExactTests$Chances;", true)
def tyX11 : Nat → FieldType := fun k => match k with
  | 0 => .object "ExactTests$Grid"
  | 1 => .object "ExactTests$Numbers"
  | 2 => .object "ExactTests$Numbers"
  | 3 => .object "ExactTests$Numbers"
  | 4 => .object "ExactTests$Numbers"
  | 5 => .object "ExactTests$Walk"
  | 6 => .object "ExactTests$Cases"
  | 7 => .object "ExactTests$Sums"
  | 8 => .object "ExactTests$Results"
  | 9 => .object "ExactTests$Scale"
  | _ => .object "ExactTests$Chances"
theorem nmX11 : ∀ a, a < 11 → ∀ b, b < 11 → a ≠ b → (TX11 a).2.1 ≠ (TX11 b).2.1 := by decide +kernel
theorem tyX11_ok : ∀ k, k < 11 → parseFieldDescriptor (TX11 k).2.2.1 = some (tyX11 k) := by decide +kernel
abbrev cX11_init : ByteArray := prog_1_method_1_code
def yX11_init : MethodName := ⟨RX11, "<init>", "()V"⟩
abbrev cX11_table : ByteArray := prog_1_method_2_code
def yX11_table : MethodName := ⟨RX11, "table", "(II)I"⟩
abbrev cX11_cell : ByteArray := prog_1_method_3_code
def yX11_cell : MethodName := ⟨RX11, "cell", "(III)I"⟩
abbrev cX11_about : ByteArray := prog_1_method_4_code
def yX11_about : MethodName := ⟨RX11, "about", "(III)I"⟩
abbrev cX11_sample : ByteArray := prog_1_method_5_code
def yX11_sample : MethodName := ⟨RX11, "sample", "(II)I"⟩
abbrev cX11_pair : ByteArray := prog_1_method_6_code
def yX11_pair : MethodName := ⟨RX11, "pair", "(II)I"⟩
abbrev cX11_clear : ByteArray := prog_1_method_7_code
def yX11_clear : MethodName := ⟨RX11, "clear", "(I)I"⟩
abbrev cX11_tables : ByteArray := prog_1_method_8_code
def yX11_tables : MethodName := ⟨RX11, "tables", "()I"⟩
abbrev cX11_labels : ByteArray := prog_1_method_9_code
def yX11_labels : MethodName := ⟨RX11, "labels", "(I)I"⟩
abbrev cX11_signs : ByteArray := prog_1_method_10_code
def yX11_signs : MethodName := ⟨RX11, "signs", "(I)I"⟩
abbrev cX11_rank : ByteArray := prog_1_method_11_code
def yX11_rank : MethodName := ⟨RX11, "rank", "(II)I"⟩
abbrev cX11_caseAt : ByteArray := prog_1_method_12_code
def yX11_caseAt : MethodName := ⟨RX11, "caseAt", "(III)I"⟩
abbrev cX11_weighs : ByteArray := prog_1_method_13_code
def yX11_weighs : MethodName := ⟨RX11, "weighs", "(I)I"⟩
abbrev cX11_bits : ByteArray := prog_1_method_14_code
def yX11_bits : MethodName := ⟨RX11, "bits", "(II)I"⟩
abbrev cX11_word : ByteArray := prog_1_method_15_code
def yX11_word : MethodName := ⟨RX11, "word", "(III)I"⟩
abbrev cX11_figure : ByteArray := prog_1_method_16_code
def yX11_figure : MethodName := ⟨RX11, "figure", "(II)I"⟩
abbrev cX11_against : ByteArray := prog_1_method_17_code
def yX11_against : MethodName := ⟨RX11, "against", "(III)I"⟩
abbrev cX11_result : ByteArray := prog_1_method_18_code
def yX11_result : MethodName := ⟨RX11, "result", "(I)I"⟩
abbrev cX11_ways : ByteArray := prog_1_method_19_code
def yX11_ways : MethodName := ⟨RX11, "ways", "(I)J"⟩
abbrev cX11_note : ByteArray := prog_1_method_20_code
def yX11_note : MethodName := ⟨RX11, "note", "(I)I"⟩
abbrev cX11_rejected : ByteArray := prog_1_method_21_code
def yX11_rejected : MethodName := ⟨RX11, "rejected", "(II)I"⟩
abbrev cX11_isRejected : ByteArray := prog_1_method_22_code
def yX11_isRejected : MethodName := ⟨RX11, "isRejected", "(III)I"⟩
abbrev cX11_claim : ByteArray := prog_1_method_23_code
def yX11_claim : MethodName := ⟨RX11, "claim", "(I)I"⟩
abbrev cX11_check : ByteArray := prog_1_method_24_code
def yX11_check : MethodName := ⟨RX11, "check", "(I)I"⟩
abbrev cX11_shift : ByteArray := prog_1_method_25_code
def yX11_shift : MethodName := ⟨RX11, "shift", "()I"⟩
abbrev cX11_told : ByteArray := prog_1_method_26_code
def yX11_told : MethodName := ⟨RX11, "told", "(I)I"⟩
abbrev cX11_within : ByteArray := prog_1_method_27_code
def yX11_within : MethodName := ⟨RX11, "within", "(III)Z"⟩
abbrev cX11_isLevel : ByteArray := prog_1_method_28_code
def yX11_isLevel : MethodName := ⟨RX11, "isLevel", "(II)Z"⟩
abbrev cX11_refusal : ByteArray := prog_1_method_29_code
def yX11_refusal : MethodName := ⟨RX11, "refusal", "(I)I"⟩
abbrev cX11_takeScores : ByteArray := prog_1_method_30_code
def yX11_takeScores : MethodName := ⟨RX11, "takeScores", "(LExactTests$Numbers;I)I"⟩
abbrev cX11_scoreOfSize : ByteArray := prog_1_method_31_code
def yX11_scoreOfSize : MethodName := ⟨RX11, "scoreOfSize", "(II)I"⟩
abbrev cX11_rankOfNumber : ByteArray := prog_1_method_32_code
def yX11_rankOfNumber : MethodName := ⟨RX11, "rankOfNumber", "(I)I"⟩
abbrev cX11_rankOfSize : ByteArray := prog_1_method_33_code
def yX11_rankOfSize : MethodName := ⟨RX11, "rankOfSize", "(I)I"⟩
abbrev cX11_twiceMeanPlace : ByteArray := prog_1_method_34_code
def yX11_twiceMeanPlace : MethodName := ⟨RX11, "twiceMeanPlace", "(II)I"⟩
abbrev cX11_judge : ByteArray := prog_1_method_35_code
def yX11_judge : MethodName := ⟨RX11, "judge", "(III)V"⟩
abbrev cX11_shiftInPlace : ByteArray := prog_1_method_36_code
def yX11_shiftInPlace : MethodName := ⟨RX11, "shiftInPlace", "(I)I"⟩
abbrev cX11_countShiftsUpTo : ByteArray := prog_1_method_37_code
def yX11_countShiftsUpTo : MethodName := ⟨RX11, "countShiftsUpTo", "(I)I"⟩
def RX12 : String := "ExactTestsModel"
def TX12 : u_T := fun k => match k with
  | 0 => ("ExactTestsModel", "quotient", "[I", true)
  | 1 => ("ExactTestsModel", "left", "[I", true)
  | 2 => ("ExactTestsModel", "one", "[I", true)
  | 3 => ("ExactTestsModel", "two", "[I", true)
  | 4 => ("ExactTestsModel", "rows", "I", false)
  | 5 => ("ExactTestsModel", "columns", "I", false)
  | 6 => ("ExactTestsModel", "cells", "[I", true)
  | 7 => ("ExactTestsModel", "all", "I", false)
  | 8 => ("ExactTestsModel", "samples", "[I", true)
  | 9 => ("ExactTestsModel", "many", "[I", true)
  | 10 => ("ExactTestsModel", "differences", "[I", true)
  | 11 => ("ExactTestsModel", "pairs", "I", false)
  | 12 => ("ExactTestsModel", "kind", "I", false)
  | 13 => ("ExactTestsModel", "statistic", "I", false)
  | 14 => ("ExactTestsModel", "asked", "I", false)
  | 15 => ("ExactTestsModel", "upper", "[I", true)
  | 16 => ("ExactTestsModel", "lower", "[I", true)
  | 17 => ("ExactTestsModel", "bySum", "[J", true)
  | 18 => ("ExactTestsModel", "sums", "I", false)
  | 19 => ("ExactTestsModel", "base", "I", false)
  | 20 => ("ExactTestsModel", "value", "[I", true)
  | 21 => ("ExactTestsModel", "highest", "[I", true)
  | 22 => ("ExactTestsModel", "rowMargin", "[I", true)
  | 23 => ("ExactTestsModel", "columnMargin", "[I", true)
  | 24 => ("ExactTestsModel", "kept", "[B", true)
  | 25 => ("ExactTestsModel", "keptMany", "I", false)
  | 26 => ("ExactTestsModel", "keptRows", "I", false)
  | 27 => ("ExactTestsModel", "keptColumns", "I", false)
  | 28 => ("ExactTestsModel", "keptAgainst", "[B", true)
  | 29 => ("ExactTestsModel", "top", "[I", true)
  | 30 => ("ExactTestsModel", "weight", "[I", true)
  | 31 => ("ExactTestsModel", "seen", "[I", true)
  | 32 => ("ExactTestsModel", "whole", "[I", true)
  | 33 => ("ExactTestsModel", "numbers", "[I", true)
  | 34 => ("ExactTestsModel", "numbersMany", "I", false)
  | 35 => ("ExactTestsModel", "scores", "[I", true)
  | 36 => ("ExactTestsModel", "ways", "[J", true)
  | 37 => ("ExactTestsModel", "run", "[I", true)
  | 38 => ("ExactTestsModel", "notedUpper", "[I", true)
  | 39 => ("ExactTestsModel", "notedLower", "[I", true)
  | 40 => ("ExactTestsModel", "noted", "I", false)
  | 41 => ("ExactTestsModel", "order", "[I", true)
  | 42 => ("ExactTestsModel", "wideOne", "[I", true)
  | 43 => ("ExactTestsModel", "wideTwo", "[I", true)
  | 44 => ("ExactTestsModel", "claimed", "[I", true)
  | 45 => ("ExactTestsModel", "claims", "I", false)
  | _ => ("ExactTestsModel", "shifts", "[I", true)
def tyX12 : Nat → FieldType := fun k => match k with
  | 0 => .array .int
  | 1 => .array .int
  | 2 => .array .int
  | 3 => .array .int
  | 4 => .int
  | 5 => .int
  | 6 => .array .int
  | 7 => .int
  | 8 => .array .int
  | 9 => .array .int
  | 10 => .array .int
  | 11 => .int
  | 12 => .int
  | 13 => .int
  | 14 => .int
  | 15 => .array .int
  | 16 => .array .int
  | 17 => .array .long
  | 18 => .int
  | 19 => .int
  | 20 => .array .int
  | 21 => .array .int
  | 22 => .array .int
  | 23 => .array .int
  | 24 => .array .byte
  | 25 => .int
  | 26 => .int
  | 27 => .int
  | 28 => .array .byte
  | 29 => .array .int
  | 30 => .array .int
  | 31 => .array .int
  | 32 => .array .int
  | 33 => .array .int
  | 34 => .int
  | 35 => .array .int
  | 36 => .array .long
  | 37 => .array .int
  | 38 => .array .int
  | 39 => .array .int
  | 40 => .int
  | 41 => .array .int
  | 42 => .array .int
  | 43 => .array .int
  | 44 => .array .int
  | 45 => .int
  | _ => .array .int
theorem nmX12 : ∀ a, a < 47 → ∀ b, b < 47 → a ≠ b → (TX12 a).2.1 ≠ (TX12 b).2.1 := by decide +kernel
theorem tyX12_ok : ∀ k, k < 47 → parseFieldDescriptor (TX12 k).2.2.1 = some (tyX12 k) := by decide +kernel
abbrev cX12_init : ByteArray := prog_14_method_1_code
def yX12_init : MethodName := ⟨RX12, "<init>", "()V"⟩
abbrev cX12_in : ByteArray := prog_14_method_3_code
def yX12_in : MethodName := ⟨RX12, "in", "(JJJ)Z"⟩
abbrev cX12_set : ByteArray := prog_14_method_4_code
def yX12_set : MethodName := ⟨RX12, "set", "([IIJ)V"⟩
abbrev cX12_copy : ByteArray := prog_14_method_5_code
def yX12_copy : MethodName := ⟨RX12, "copy", "([II[II)V"⟩
abbrev cX12_compare : ByteArray := prog_14_method_6_code
def yX12_compare : MethodName := ⟨RX12, "compare", "([II[II)I"⟩
abbrev cX12_add : ByteArray := prog_14_method_7_code
def yX12_add : MethodName := ⟨RX12, "add", "([II[II)V"⟩
abbrev cX12_subtract : ByteArray := prog_14_method_8_code
def yX12_subtract : MethodName := ⟨RX12, "subtract", "([II[II)V"⟩
abbrev cX12_multiply : ByteArray := prog_14_method_9_code
def yX12_multiply : MethodName := ⟨RX12, "multiply", "([III)V"⟩
abbrev cX12_divide : ByteArray := prog_14_method_10_code
def yX12_divide : MethodName := ⟨RX12, "divide", "([III)V"⟩
abbrev cX12_bitsOf : ByteArray := prog_14_method_11_code
def yX12_bitsOf : MethodName := ⟨RX12, "bitsOf", "([II)I"⟩
abbrev cX12_bitAt : ByteArray := prog_14_method_12_code
def yX12_bitAt : MethodName := ⟨RX12, "bitAt", "([III)I"⟩
abbrev cX12_twice : ByteArray := prog_14_method_13_code
def yX12_twice : MethodName := ⟨RX12, "twice", "([III)V"⟩
abbrev cX12_part : ByteArray := prog_14_method_14_code
def yX12_part : MethodName := ⟨RX12, "part", "([II[II)V"⟩
abbrev cX12_findCommon : ByteArray := prog_14_method_15_code
def yX12_findCommon : MethodName := ⟨RX12, "findCommon", "([II[II)V"⟩
abbrev cX12_table : ByteArray := prog_14_method_16_code
def yX12_table : MethodName := ⟨RX12, "table", "(II)I"⟩
abbrev cX12_cell : ByteArray := prog_14_method_17_code
def yX12_cell : MethodName := ⟨RX12, "cell", "(III)I"⟩
abbrev cX12_marginOfRow : ByteArray := prog_14_method_18_code
def yX12_marginOfRow : MethodName := ⟨RX12, "marginOfRow", "(I)I"⟩
abbrev cX12_marginOfColumn : ByteArray := prog_14_method_19_code
def yX12_marginOfColumn : MethodName := ⟨RX12, "marginOfColumn", "(I)I"⟩
abbrev cX12_about : ByteArray := prog_14_method_20_code
def yX12_about : MethodName := ⟨RX12, "about", "(III)I"⟩
abbrev cX12_sample : ByteArray := prog_14_method_21_code
def yX12_sample : MethodName := ⟨RX12, "sample", "(II)I"⟩
abbrev cX12_pair : ByteArray := prog_14_method_22_code
def yX12_pair : MethodName := ⟨RX12, "pair", "(II)I"⟩
abbrev cX12_clear : ByteArray := prog_14_method_23_code
def yX12_clear : MethodName := ⟨RX12, "clear", "(I)I"⟩
abbrev cX12_shorten : ByteArray := prog_14_method_24_code
def yX12_shorten : MethodName := ⟨RX12, "shorten", "([I)V"⟩
abbrev cX12_open : ByteArray := prog_14_method_25_code
def yX12_open : MethodName := ⟨RX12, "open", "(I)V"⟩
abbrev cX12_columnLeft : ByteArray := prog_14_method_26_code
def yX12_columnLeft : MethodName := ⟨RX12, "columnLeft", "(II)I"⟩
abbrev cX12_firstTable : ByteArray := prog_14_method_27_code
def yX12_firstTable : MethodName := ⟨RX12, "firstTable", "()V"⟩
abbrev cX12_openFrom : ByteArray := prog_14_method_28_code
def yX12_openFrom : MethodName := ⟨RX12, "openFrom", "(I)V"⟩
abbrev cX12_nextTable : ByteArray := prog_14_method_29_code
def yX12_nextTable : MethodName := ⟨RX12, "nextTable", "()Z"⟩
abbrev cX12_timesFactorial : ByteArray := prog_14_method_30_code
def yX12_timesFactorial : MethodName := ⟨RX12, "timesFactorial", "([II)V"⟩
abbrev cX12_weigh : ByteArray := prog_14_method_31_code
def yX12_weigh : MethodName := ⟨RX12, "weigh", "([I[I)V"⟩
abbrev cX12_tables : ByteArray := prog_14_method_32_code
def yX12_tables : MethodName := ⟨RX12, "tables", "()I"⟩
abbrev cX12_keepCase : ByteArray := prog_14_method_33_code
def yX12_keepCase : MethodName := ⟨RX12, "keepCase", "(I)V"⟩
abbrev cX12_caseAt : ByteArray := prog_14_method_34_code
def yX12_caseAt : MethodName := ⟨RX12, "caseAt", "(III)I"⟩
abbrev cX12_weighs : ByteArray := prog_14_method_35_code
def yX12_weighs : MethodName := ⟨RX12, "weighs", "(I)I"⟩
abbrev cX12_rankOf : ByteArray := prog_14_method_36_code
def yX12_rankOf : MethodName := ⟨RX12, "rankOf", "(I)I"⟩
abbrev cX12_takeSamples : ByteArray := prog_14_method_37_code
def yX12_takeSamples : MethodName := ⟨RX12, "takeSamples", "()V"⟩
abbrev cX12_takeSizes : ByteArray := prog_14_method_38_code
def yX12_takeSizes : MethodName := ⟨RX12, "takeSizes", "()V"⟩
abbrev cX12_sizeOf : ByteArray := prog_14_method_39_code
def yX12_sizeOf : MethodName := ⟨RX12, "sizeOf", "(I)I"⟩
abbrev cX12_rank : ByteArray := prog_14_method_40_code
def yX12_rank : MethodName := ⟨RX12, "rank", "(II)I"⟩
abbrev cX12_labels : ByteArray := prog_14_method_41_code
def yX12_labels : MethodName := ⟨RX12, "labels", "(I)I"⟩
abbrev cX12_countWays : ByteArray := prog_14_method_42_code
def yX12_countWays : MethodName := ⟨RX12, "countWays", "(II)V"⟩
abbrev cX12_signs : ByteArray := prog_14_method_43_code
def yX12_signs : MethodName := ⟨RX12, "signs", "(I)I"⟩
abbrev cX12_findChances : ByteArray := prog_14_method_44_code
def yX12_findChances : MethodName := ⟨RX12, "findChances", "(II)V"⟩
abbrev cX12_ways : ByteArray := prog_14_method_45_code
def yX12_ways : MethodName := ⟨RX12, "ways", "(I)J"⟩
abbrev cX12_isTail : ByteArray := prog_14_method_46_code
def yX12_isTail : MethodName := ⟨RX12, "isTail", "(I)Z"⟩
abbrev cX12_bits : ByteArray := prog_14_method_47_code
def yX12_bits : MethodName := ⟨RX12, "bits", "(II)I"⟩
abbrev cX12_wordOf : ByteArray := prog_14_method_48_code
def yX12_wordOf : MethodName := ⟨RX12, "wordOf", "([IIJ)I"⟩
abbrev cX12_word : ByteArray := prog_14_method_49_code
def yX12_word : MethodName := ⟨RX12, "word", "(III)I"⟩
abbrev cX12_figure : ByteArray := prog_14_method_50_code
def yX12_figure : MethodName := ⟨RX12, "figure", "(II)I"⟩
abbrev cX12_isLevel : ByteArray := prog_14_method_51_code
def yX12_isLevel : MethodName := ⟨RX12, "isLevel", "(II)Z"⟩
abbrev cX12_stands : ByteArray := prog_14_method_52_code
def yX12_stands : MethodName := ⟨RX12, "stands", "([II[IIIII)I"⟩
abbrev cX12_against : ByteArray := prog_14_method_53_code
def yX12_against : MethodName := ⟨RX12, "against", "(III)I"⟩
abbrev cX12_result : ByteArray := prog_14_method_54_code
def yX12_result : MethodName := ⟨RX12, "result", "(I)I"⟩
abbrev cX12_note : ByteArray := prog_14_method_55_code
def yX12_note : MethodName := ⟨RX12, "note", "(I)I"⟩
abbrev cX12_product : ByteArray := prog_14_method_56_code
def yX12_product : MethodName := ⟨RX12, "product", "([II[II[I)V"⟩
abbrev cX12_isLess : ByteArray := prog_14_method_57_code
def yX12_isLess : MethodName := ⟨RX12, "isLess", "(II)Z"⟩
abbrev cX12_findRejected : ByteArray := prog_14_method_58_code
def yX12_findRejected : MethodName := ⟨RX12, "findRejected", "(II)I"⟩
abbrev cX12_rejected : ByteArray := prog_14_method_59_code
def yX12_rejected : MethodName := ⟨RX12, "rejected", "(II)I"⟩
abbrev cX12_isRejected : ByteArray := prog_14_method_60_code
def yX12_isRejected : MethodName := ⟨RX12, "isRejected", "(III)I"⟩
abbrev cX12_claim : ByteArray := prog_14_method_61_code
def yX12_claim : MethodName := ⟨RX12, "claim", "(I)I"⟩
abbrev cX12_check : ByteArray := prog_14_method_62_code
def yX12_check : MethodName := ⟨RX12, "check", "(I)I"⟩
abbrev cX12_shift : ByteArray := prog_14_method_63_code
def yX12_shift : MethodName := ⟨RX12, "shift", "()I"⟩
abbrev cX12_told : ByteArray := prog_14_method_64_code
def yX12_told : MethodName := ⟨RX12, "told", "(I)I"⟩
def RJ6 : String := "java/lang/Integer"
def TJ6 : u_T := fun k => match k with
  | _ => ("", "", "", false)
def tyJ6 : Nat → FieldType := fun k => match k with
  | _ => .int
theorem nmJ6 : ∀ a, a < 0 → ∀ b, b < 0 → a ≠ b → (TJ6 a).2.1 ≠ (TJ6 b).2.1 := by decide +kernel
theorem tyJ6_ok : ∀ k, k < 0 → parseFieldDescriptor (TJ6 k).2.2.1 = some (tyJ6 k) := by decide +kernel
abbrev cJ6_numberOfLeadingZeros_0f7a4 : ByteArray := prog_15_method_47_code
def yJ6_numberOfLeadingZeros_0f7a4 : MethodName := ⟨RJ6, "numberOfLeadingZeros", "(I)I"⟩
def RJ13 : String := "java/lang/Long"
def TJ13 : u_T := fun k => match k with
  | _ => ("", "", "", false)
def tyJ13 : Nat → FieldType := fun k => match k with
  | _ => .int
theorem nmJ13 : ∀ a, a < 0 → ∀ b, b < 0 → a ≠ b → (TJ13 a).2.1 ≠ (TJ13 b).2.1 := by decide +kernel
theorem tyJ13_ok : ∀ k, k < 0 → parseFieldDescriptor (TJ13 k).2.2.1 = some (tyJ13 k) := by decide +kernel
abbrev cJ13_numberOfLeadingZeros_95d88 : ByteArray := prog_16_method_48_code
def yJ13_numberOfLeadingZeros_95d88 : MethodName := ⟨RJ13, "numberOfLeadingZeros", "(J)I"⟩
def RJ9 : String := "java/lang/Math"
def TJ9 : u_T := fun k => match k with
  | _ => ("", "", "", false)
def tyJ9 : Nat → FieldType := fun k => match k with
  | _ => .int
theorem nmJ9 : ∀ a, a < 0 → ∀ b, b < 0 → a ≠ b → (TJ9 a).2.1 ≠ (TJ9 b).2.1 := by decide +kernel
theorem tyJ9_ok : ∀ k, k < 0 → parseFieldDescriptor (TJ9 k).2.2.1 = some (tyJ9 k) := by decide +kernel
abbrev cJ9_floorDiv_7cf53 : ByteArray := prog_17_method_47_code
def yJ9_floorDiv_7cf53 : MethodName := ⟨RJ9, "floorDiv", "(II)I"⟩
abbrev cJ9_abs_0f7a4 : ByteArray := prog_17_method_59_code
def yJ9_abs_0f7a4 : MethodName := ⟨RJ9, "abs", "(I)I"⟩
abbrev cJ9_max_7cf53 : ByteArray := prog_17_method_65_code
def yJ9_max_7cf53 : MethodName := ⟨RJ9, "max", "(II)I"⟩
abbrev cJ9_min_7cf53 : ByteArray := prog_17_method_69_code
def yJ9_min_7cf53 : MethodName := ⟨RJ9, "min", "(II)I"⟩
def RJ10 : String := "java/lang/System"
def TJ10 : u_T := fun k => match k with
  | _ => ("", "", "", false)
def tyJ10 : Nat → FieldType := fun k => match k with
  | _ => .int
theorem nmJ10 : ∀ a, a < 0 → ∀ b, b < 0 → a ≠ b → (TJ10 a).2.1 ≠ (TJ10 b).2.1 := by decide +kernel
theorem tyJ10_ok : ∀ k, k < 0 → parseFieldDescriptor (TJ10 k).2.2.1 = some (tyJ10 k) := by decide +kernel
def RL : String := "ExactTestsLaw"
abbrev cL_law : ByteArray := code
def yL_law : MethodName := ⟨RL, "law", "([I)Z"⟩
abbrev gcl : List vw_C := [(RX0, TX0, 5), (RX1, TX1, 4), (RX2, TX2, 2), (RX3, TX3, 3), (RX4, TX4, 3), (RX5, TX5, 2), (RX6, TX6, 5), (RX7, TX7, 2), (RX8, TX8, 7), (RX9, TX9, 15), (RX10, TX10, 2), (RX11, TX11, 11), (RX12, TX12, 47)]
def gT0 : List Cond := lw_tbl.filter (fun w => k2_isCode w || goodWord w)
theorem gT0_good : ∀ w ∈ gT0, w ∈ gT0 ∧ ((w.onTables && w.keeps) = true ∨ ∃ ty, w = .arrayClass ty) := by
  intro w hw
  have h1 := (List.mem_filter.mp hw).2
  refine ⟨hw, ?_⟩
  by_cases hc : k2_isCode w = true
  · cases w <;> first | (simp [k2_isCode] at hc; done) | exact Or.inl rfl
  · rw [Bool.or_eq_true] at h1
    exact good_of_word (h1.resolve_left hc)
theorem gT0_tb {w : Cond} (i : Nat) (h : tables_1[i]? = some w) (hg : (k2_isCode w || goodWord w) = true) : w ∈ gT0 := List.mem_filter.mpr ⟨List.mem_append_right _ (List.mem_of_getElem? h), hg⟩
theorem gT0_sl {w : Cond} (i : Nat) (h : (k2_sels lw_privs)[i]? = some w) (hg : (k2_isCode w || goodWord w) = true) : w ∈ gT0 := List.mem_filter.mpr ⟨List.mem_append_left _ (List.mem_of_getElem? h), hg⟩
/-- the words that are carried by themselves -/
def gN : List Cond := [.methodLinkNest "ExactTests" 9 ⟨"ExactTests$Grid", "<init>", "()V"⟩ "ExactTests", .arrayOver (.object "ExactTests$Whole"), .methodLinkNest "ExactTests$Walk" 31 ⟨"ExactTests$Whole", "<init>", "()V"⟩ "ExactTests", .methodLinkNest "ExactTests" 43 ⟨"ExactTests$Cases", "<init>", "()V"⟩ "ExactTests", .methodLinkNest "ExactTests" 50 ⟨"ExactTests$Sums", "<init>", "()V"⟩ "ExactTests", .methodLinkNest "ExactTests$Sums" 9 ⟨"ExactTests$HalfSums", "<init>", "()V"⟩ "ExactTests", .fieldLinkNest "ExactTests$Sums" 53 "ExactTests$HalfSums" "sums" "[I" "ExactTests", .fieldLinkNest "ExactTests$Sums" 49 "ExactTests$HalfSums" "times" "[I" "ExactTests", .fieldLinkNest "ExactTests$Sums" 46 "ExactTests$HalfSums" "size" "I" "ExactTests", .arrayOver (.object "ExactTests$Fraction"), .methodLinkNest "ExactTests$Results" 17 ⟨"ExactTests$Fraction", "<init>", "()V"⟩ "ExactTests", .methodLinkNest "ExactTests$Fraction" 9 ⟨"ExactTests$Whole", "<init>", "()V"⟩ "ExactTests", .fieldLinkNest "ExactTests$Scale" 19 "ExactTests$Fraction" "upper" "LExactTests$Whole;" "ExactTests", .fieldLinkNest "ExactTests$Scale" 24 "ExactTests$Fraction" "lower" "LExactTests$Whole;" "ExactTests", .methodLinkNest "ExactTests" 64 ⟨"ExactTests$Scale", "<init>", "()V"⟩ "ExactTests", .methodLinkNest "ExactTests$Scale" 9 ⟨"ExactTests$Whole", "<init>", "()V"⟩ "ExactTests", .methodLinkNest "ExactTests$Chances" 25 ⟨"ExactTests$Fraction", "<init>", "()V"⟩ "ExactTests"]
theorem gN_moved {s U : State} (hW : s.WarmedH U.vm) (h : ∀ w ∈ gN, va_Nw w s) : ∀ w ∈ gN, va_Nw w U := List.forall_mem_cons.mpr ⟨va_Nw.warmM hW (h _ (by decide +kernel)), List.forall_mem_cons.mpr ⟨va_AO.moved hW.alike (h _ (by decide +kernel)), List.forall_mem_cons.mpr ⟨va_Nw.warmM hW (h _ (by decide +kernel)), List.forall_mem_cons.mpr ⟨va_Nw.warmM hW (h _ (by decide +kernel)), List.forall_mem_cons.mpr ⟨va_Nw.warmM hW (h _ (by decide +kernel)), List.forall_mem_cons.mpr ⟨va_Nw.warmM hW (h _ (by decide +kernel)), List.forall_mem_cons.mpr ⟨va_Nw.warmF hW (h _ (by decide +kernel)), List.forall_mem_cons.mpr ⟨va_Nw.warmF hW (h _ (by decide +kernel)), List.forall_mem_cons.mpr ⟨va_Nw.warmF hW (h _ (by decide +kernel)), List.forall_mem_cons.mpr ⟨va_AO.moved hW.alike (h _ (by decide +kernel)), List.forall_mem_cons.mpr ⟨va_Nw.warmM hW (h _ (by decide +kernel)), List.forall_mem_cons.mpr ⟨va_Nw.warmM hW (h _ (by decide +kernel)), List.forall_mem_cons.mpr ⟨va_Nw.warmF hW (h _ (by decide +kernel)), List.forall_mem_cons.mpr ⟨va_Nw.warmF hW (h _ (by decide +kernel)), List.forall_mem_cons.mpr ⟨va_Nw.warmM hW (h _ (by decide +kernel)), List.forall_mem_cons.mpr ⟨va_Nw.warmM hW (h _ (by decide +kernel)), List.forall_mem_cons.mpr ⟨va_Nw.warmM hW (h _ (by decide +kernel)), fun _ hh => absurd hh List.not_mem_nil⟩⟩⟩⟩⟩⟩⟩⟩⟩⟩⟩⟩⟩⟩⟩⟩⟩
theorem gN_same {s U : State} (hV : s.vm = U.vm) (h : ∀ w ∈ gN, va_Nw w s) : ∀ w ∈ gN, va_Nw w U := List.forall_mem_cons.mpr ⟨va_Nw.same rfl hV (h _ (by decide +kernel)), List.forall_mem_cons.mpr ⟨va_AO.moved (by rw [← hV]; exact Vm.Alike.refl _) (h _ (by decide +kernel)), List.forall_mem_cons.mpr ⟨va_Nw.same rfl hV (h _ (by decide +kernel)), List.forall_mem_cons.mpr ⟨va_Nw.same rfl hV (h _ (by decide +kernel)), List.forall_mem_cons.mpr ⟨va_Nw.same rfl hV (h _ (by decide +kernel)), List.forall_mem_cons.mpr ⟨va_Nw.same rfl hV (h _ (by decide +kernel)), List.forall_mem_cons.mpr ⟨va_Nw.same rfl hV (h _ (by decide +kernel)), List.forall_mem_cons.mpr ⟨va_Nw.same rfl hV (h _ (by decide +kernel)), List.forall_mem_cons.mpr ⟨va_Nw.same rfl hV (h _ (by decide +kernel)), List.forall_mem_cons.mpr ⟨va_AO.moved (by rw [← hV]; exact Vm.Alike.refl _) (h _ (by decide +kernel)), List.forall_mem_cons.mpr ⟨va_Nw.same rfl hV (h _ (by decide +kernel)), List.forall_mem_cons.mpr ⟨va_Nw.same rfl hV (h _ (by decide +kernel)), List.forall_mem_cons.mpr ⟨va_Nw.same rfl hV (h _ (by decide +kernel)), List.forall_mem_cons.mpr ⟨va_Nw.same rfl hV (h _ (by decide +kernel)), List.forall_mem_cons.mpr ⟨va_Nw.same rfl hV (h _ (by decide +kernel)), List.forall_mem_cons.mpr ⟨va_Nw.same rfl hV (h _ (by decide +kernel)), List.forall_mem_cons.mpr ⟨va_Nw.same rfl hV (h _ (by decide +kernel)), fun _ hh => absurd hh List.not_mem_nil⟩⟩⟩⟩⟩⟩⟩⟩⟩⟩⟩⟩⟩⟩⟩⟩⟩
end
section
/-! THE ENGINE. A world is a row of n cells: cell k lies at the address 'ad k' and holds 'ct k'. -/
def gw (ad : Nat → Nat) (ct : Nat → va_E) (n : Nat) : va_W := (List.range n).map (fun k => (ad k, ct k))
theorem gw_at {ad : Nat → Nat} {ct : Nat → va_E} {n k : Nat} (h : k < n) : (gw ad ct n)[k]? = some (ad k, ct k) := by
  simp [gw, h]
theorem gw_in {ad : Nat → Nat} {ct : Nat → va_E} {n k : Nat} {q : Nat × va_E} (h : (gw ad ct n)[k]? = some q) : k < n ∧ q = (ad k, ct k) := by
  have hk : k < n := by
    have := (List.getElem?_eq_some_iff.mp h).1
    simpa [gw] using this
  rw [gw_at hk] at h
  exact ⟨hk, (Option.some.inj h).symm⟩
theorem gw_atE {ad : Nat → Nat} {ct : Nat → va_E} {n k : Nat} {e : va_E} (h : k < n) (he : ct k = e) : (gw ad ct n)[k]? = some (ad k, e) := by
  rw [← he]; exact gw_at h
theorem gw_set {ad : Nat → Nat} {ct : Nat → va_E} {n k : Nat} {e : va_E} : (gw ad ct n).set k (ad k, e) = gw ad (va_up ct k e) n := by
  apply List.ext_getElem?
  intro i
  rw [List.getElem?_set]
  by_cases hi : i < n
  · by_cases hk : k = i
    · subst hk
      simp [gw, hi, va_up]
    · rw [if_neg hk, gw_at hi, gw_at hi, va_up_ne _ _ (fun z => hk z.symm)]
  · have h1 : ∀ c : Nat → va_E, (gw ad c n)[i]? = none := fun c => by simp [gw]; omega
    by_cases hk : k = i
    · subst hk
      rw [if_pos rfl, if_neg (by simp [gw]; omega), h1]
    · rw [if_neg hk, h1, h1]
theorem gw_push {ad : Nat → Nat} {ct : Nat → va_E} {n q : Nat} {e : va_E} : gw ad ct n ++ [(q, e)] = gw (va_up ad n q) (va_up ct n e) (n + 1) := by
  unfold gw
  rw [List.range_succ, List.map_append]
  congr 1
  · apply List.map_congr_left
    intro a ha
    have : a ≠ n := by have := List.mem_range.mp ha; omega
    rw [va_up_ne _ _ this, va_up_ne _ _ this]
  · simp [va_up]
/-- which cells a method may change: its world's, and those that it makes -/
def gA (ad : Nat → Nat) (n sz : Nat) : Nat → Prop := fun q => (∃ k, k < n ∧ q = ad k) ∨ sz ≤ q
/-- what is the same for all: the classes' numbers and slots, the array classes, the launch, where the primes lie -/
abbrev gB : Type := va_G × (Nat → ClassId) × Launch × Nat
/-- the array classes: int, long, byte, Whole, Fraction -/
def gTy (k : Nat → ClassId) : List (ClassId × FieldType) := [(k 0, .int), (k 1, .long), (k 2, .byte), (k 3, .object "ExactTests$Whole"), (k 4, .object "ExactTests$Fraction")]
def gPr : Nat → Int32 := fun k => ([2, 3, 5, 7, 11, 13, 17, 19, 23, 29, 31, 37, 41, 43, 47, 53, 59] : List Int32).getD k 0
/-- the static row of primes, which lies outside of what may change -/
def gZ (B : gB) (A : Nat → Prop) (U : State) : Prop := va_Z "ExactTests$Fraction" "PRIMES" "[I" (.ref B.2.2.2) A U U.heap ∧ va_T .int B.2.2.2 17 (fun k => .int (gPr k)) A U U.heap ∧ ∀ w ∈ gN, va_Nw w U
/-- a run's fixed things -/
abbrev gE : Type := (Program × Env × Room × State) × (MethodId × Array Value × List Frame × Method × Code) × ((Nat → Prop) × (State → Prop))
abbrev gE.p (E : gE) : Program := E.1.1
abbrev gE.e (E : gE) : Env := E.1.2.1
abbrev gE.R (E : gE) : Room := E.1.2.2.1
abbrev gE.s (E : gE) : State := E.1.2.2.2
abbrev gE.m (E : gE) : MethodId := E.2.1.1
abbrev gE.args (E : gE) : Array Value := E.2.1.2.1
abbrev gE.below (E : gE) : List Frame := E.2.1.2.2.1
abbrev gE.meth (E : gE) : Method := E.2.1.2.2.2.1
abbrev gE.c (E : gE) : Code := E.2.1.2.2.2.2
abbrev gE.A (E : gE) : Nat → Prop := E.2.2.1
abbrev gE.Q (E : gE) : State → Prop := E.2.2.2
def gWd (B : gB) (E : gE) (ad : Nat → Nat) (ct : Nat → va_E) (n : Nat) (H : Heap) (locs : List Loc) : Prop := va_P B.1 gcl (gw ad ct n) H ∧ va_D E.A (gw ad ct n) ∧ va_S E.A E.s.heap H locs
/-- at pc, with locals L and the stack st, any heap that holds the world comes to E's end -/
def G (B : gB) (nL : Nat) (E : gE) (ad : Nat → Nat) (ct : Nat → va_E) (n : Nat) (k0 s0 : Nat) (L : List (Nat × Value)) (pc : Nat) (st : List Value) : Prop :=
  ∀ (ls : Array Slot) (H : Heap) (locs : List Loc), lv_has ls nL L → gWd B E ad ct n H locs → W E.p B.2.2.1 E.e E.R E.s E.m E.args E.below E.meth E.c H locs k0 s0 E.Q (F0 E.m pc ls st)
def gFx (B : gB) (cc : ByteArray) (own : String) (nL : Nat) (rm : Room) (E : gE) : Prop :=
  CallFix E.p E.m E.c cc nL E.s E.args gT0 own ∧ va_K B.1 gcl (gTy B.2.1) E.s ∧ (∀ q, E.s.heap.size ≤ q → E.A q) ∧ E.R = rm ∧ gZ B E.A E.s
abbrev gP : Type := Option Value → (Nat → Nat) → (Nat → va_E) → Nat → Prop
def gQ (B : gB) (post : gP) (A : Nat → Prop) : Array Value → State → Outcome → State → Prop := fun _ st oc t => (∃ (v : Option Value) (ad : Nat → Nat) (ct : Nat → va_E) (n : Nat), oc = .returned v ∧ post v ad ct n ∧ va_P B.1 gcl (gw ad ct n) t.heap ∧ va_K B.1 gcl (gTy B.2.1) t ∧ va_D A (gw ad ct n)) ∧ va_F A st t
/-- a run's end -/
def gRt (B : gB) (post : gP) (mc ms : Nat) (ret : Option FieldType) (E : gE) : Prop := E.Q = MQ E.below (gQ B post E.A) E.args E.s mc ms E.A ∧ E.meth.sig.returnType = ret ∧ E.meth.locks = false
/-- a contract: from any heap that holds the world (ad, ct, n), called with As, the method comes back, 'post' holds of its answer and of the world then -/
def Ctr (B : gB) (y : MethodName) (cc : ByteArray) (nL : Nat) (ret : Option FieldType) (fr lo mc ms : Nat) (ad : Nat → Nat) (ct : Nat → va_E) (n : Nat) (As : List Value) (post : gP) : Prop :=
  ∀ sz : Nat, Met B.2.2.1 y (Cond.code y cc nL ret :: gT0) { frames := fr, cells := mc, slots := ms, locals := lo } (va_Pc As (fun U => U.heap.size = sz ∧ va_P B.1 gcl (gw ad ct n) U.heap ∧ va_K B.1 gcl (gTy B.2.1) U ∧ va_D (fun _ => True) (gw ad ct n) ∧ gZ B (gA ad n sz) U)) (gQ B post (gA ad n sz)) mc ms (gA ad n sz)
section GR
variable {B : gB} {cc : ByteArray} {own : String} {nL : Nat} {rm : Room} {E : gE} {ad : Nat → Nat} {ct : Nat → va_E} {n k0 s0 : Nat} {L : List (Nat × Value)} {pc : Nat} {st : List Value}
theorem g_locals {L' : List (Nat × Value)} (ks : List Nat) (hl : lv_pick L ks = L') (k : G B nL E ad ct n k0 s0 L' pc st) : G B nL E ad ct n k0 s0 L pc st :=
  fun ls H locs h w => k ls H locs (lv_sub h ks hl) w
theorem g_widen {k1 s1 : Nat} (h1 : k0 ≤ k1) (h2 : s0 ≤ s1) (k : G B nL E ad ct n k1 s1 L pc st) : G B nL E ad ct n k0 s0 L pc st :=
  fun ls H locs h w => W.widen h1 h2 (k ls H locs h w)
theorem g_topi {x : Int32} (k : ∀ y : Int32, y = x → G B nL E ad ct n k0 s0 L pc (.int y :: st)) : G B nL E ad ct n k0 s0 L pc (.int x :: st) := k x rfl
theorem g_topl {x : Int64} (k : ∀ y : Int64, y = x → G B nL E ad ct n k0 s0 L pc (.long y :: st)) : G B nL E ad ct n k0 s0 L pc (.long x :: st) := k x rfl
theorem g_iconst (fx : gFx B cc own nL rm E) {z : Int} {v : Int32} (d : decode cc pc = .ok (.iconst z, 1)) (hv : Int32.ofInt z = v) (k : G B nL E ad ct n k0 s0 L (pc + 1) (.int v :: st)) : G B nL E ad ct n k0 s0 L pc st :=
  fun ls H locs h w => lv_iconst fx.1.1 fx.1.2.1 d hv (k ls H locs h w)
theorem g_bipush (fx : gFx B cc own nL rm E) {z : Int} {v : Int32} (d : decode cc pc = .ok (.bipush z, 2)) (hv : (Int8.ofInt z).toInt32 = v) (k : G B nL E ad ct n k0 s0 L (pc + 2) (.int v :: st)) : G B nL E ad ct n k0 s0 L pc st :=
  fun ls H locs h w => lv_bipush fx.1.1 fx.1.2.1 d hv (k ls H locs h w)
theorem g_sipush (fx : gFx B cc own nL rm E) {z : Int} {v : Int32} (d : decode cc pc = .ok (.sipush z, 3)) (hv : (Int16.ofInt z).toInt32 = v) (k : G B nL E ad ct n k0 s0 L (pc + 3) (.int v :: st)) : G B nL E ad ct n k0 s0 L pc st :=
  fun ls H locs h w => lv_sipush fx.1.1 fx.1.2.1 d hv (k ls H locs h w)
theorem g_lconst (fx : gFx B cc own nL rm E) {z : Fin 2} {v : Int64} (d : decode cc pc = .ok (.lconst z, 1)) (hv : Int64.ofNat (z : Nat) = v) (k : G B nL E ad ct n k0 s0 L (pc + 1) (.long v :: st)) : G B nL E ad ct n k0 s0 L pc st :=
  fun ls H locs h w => lv_lconst fx.1.1 fx.1.2.1 d hv (k ls H locs h w)
theorem g_ldc (fx : gFx B cc own nL rm E) {index : Nat} {v : Int32} (hc : Cond.constant own index v ∈ gT0) (d : decode cc pc = .ok (.ldc index, 2)) (k : G B nL E ad ct n k0 s0 L (pc + 2) (.int v :: st)) : G B nL E ad ct n k0 s0 L pc st :=
  fun ls H locs h w => lv_ldc fx.1.1 fx.1.2.1 fx.1.2.2.2.1 (fx.1.2.2.2.2 _ hc) d (k ls H locs h w)
theorem g_ldc2 (fx : gFx B cc own nL rm E) {index : Nat} {v : Int64} (hc : Cond.constantLong own index v ∈ gT0) (d : decode cc pc = .ok (.ldc2_w index, 3)) (k : G B nL E ad ct n k0 s0 L (pc + 3) (.long v :: st)) : G B nL E ad ct n k0 s0 L pc st :=
  fun ls H locs h w => W.ldc2 fx.1.1 fx.1.2.1 fx.1.2.2.2.1 (fx.1.2.2.2.2 _ hc) rfl d (k ls H locs h w)
theorem g_iload_n (fx : gFx B cc own nL rm E) {z : Fin 4} {x : Int32} (j : Nat) (d : decode cc pc = .ok (.iload_n z, 1)) (hj : L[j]? = some ((z : Nat), .int x)) (k : G B nL E ad ct n k0 s0 L (pc + 1) (.int x :: st)) : G B nL E ad ct n k0 s0 L pc st :=
  fun ls H locs h w => lv_iload_n fx.1.1 fx.1.2.1 d rfl (lv_at h j hj) (k ls H locs h w)
theorem g_iload (fx : gFx B cc own nL rm E) {z : Nat} {x : Int32} (j : Nat) (d : decode cc pc = .ok (.iload z, 2)) (hj : L[j]? = some (z, .int x)) (k : G B nL E ad ct n k0 s0 L (pc + 2) (.int x :: st)) : G B nL E ad ct n k0 s0 L pc st :=
  fun ls H locs h w => lv_iload fx.1.1 fx.1.2.1 d (lv_at h j hj) (k ls H locs h w)
theorem g_lload_n (fx : gFx B cc own nL rm E) {z : Fin 4} {x : Int64} (j : Nat) (d : decode cc pc = .ok (.lload_n z, 1)) (hj : L[j]? = some ((z : Nat), .long x)) (k : G B nL E ad ct n k0 s0 L (pc + 1) (.long x :: st)) : G B nL E ad ct n k0 s0 L pc st :=
  fun ls H locs h w => lv_lload_n fx.1.1 fx.1.2.1 d rfl (lv_at h j hj) (k ls H locs h w)
theorem g_lload (fx : gFx B cc own nL rm E) {z : Nat} {x : Int64} (j : Nat) (d : decode cc pc = .ok (.lload z, 2)) (hj : L[j]? = some (z, .long x)) (k : G B nL E ad ct n k0 s0 L (pc + 2) (.long x :: st)) : G B nL E ad ct n k0 s0 L pc st :=
  fun ls H locs h w => lv_lload fx.1.1 fx.1.2.1 d (lv_at h j hj) (k ls H locs h w)
theorem g_aload_n (fx : gFx B cc own nL rm E) {z : Fin 4} {x : Nat} (j : Nat) (d : decode cc pc = .ok (.aload_n z, 1)) (hj : L[j]? = some ((z : Nat), .ref x)) (k : G B nL E ad ct n k0 s0 L (pc + 1) (.ref x :: st)) : G B nL E ad ct n k0 s0 L pc st :=
  fun ls H locs h w => lv_aload_n fx.1.1 fx.1.2.1 d rfl (lv_at h j hj) (k ls H locs h w)
theorem g_aload (fx : gFx B cc own nL rm E) {z : Nat} {x : Nat} (j : Nat) (d : decode cc pc = .ok (.aload z, 2)) (hj : L[j]? = some (z, .ref x)) (k : G B nL E ad ct n k0 s0 L (pc + 2) (.ref x :: st)) : G B nL E ad ct n k0 s0 L pc st :=
  fun ls H locs h w => lv_aload fx.1.1 fx.1.2.1 d (lv_at h j hj) (k ls H locs h w)
theorem g_istore_n (fx : gFx B cc own nL rm E) {z : Fin 4} {x : Int32} {L' : List (Nat × Value)} (d : decode cc pc = .ok (.istore_n z, 1)) (hn : (z : Nat) < nL) (hl : ((z : Nat), Value.int x) :: L.filter (fun q => !(q.1 == (z : Nat)) && !(q.1 + 1 == (z : Nat) && q.2.category == 2)) = L') (k : G B nL E ad ct n k0 s0 L' (pc + 1) st) : G B nL E ad ct n k0 s0 L pc (.int x :: st) :=
  fun ls H locs h w => lv_istore_n fx.1.1 fx.1.2.1 d rfl h hn hl (fun ls h => k ls H locs h w)
theorem g_istore (fx : gFx B cc own nL rm E) {z : Nat} {x : Int32} {L' : List (Nat × Value)} (d : decode cc pc = .ok (.istore z, 2)) (hn : z < nL) (hl : (z, Value.int x) :: L.filter (fun q => !(q.1 == z) && !(q.1 + 1 == z && q.2.category == 2)) = L') (k : G B nL E ad ct n k0 s0 L' (pc + 2) st) : G B nL E ad ct n k0 s0 L pc (.int x :: st) :=
  fun ls H locs h w => lv_istore fx.1.1 fx.1.2.1 d h hn hl (fun ls h => k ls H locs h w)
theorem g_astore_n (fx : gFx B cc own nL rm E) {z : Fin 4} {x : Nat} {L' : List (Nat × Value)} (d : decode cc pc = .ok (.astore_n z, 1)) (hn : (z : Nat) < nL) (hl : ((z : Nat), Value.ref x) :: L.filter (fun q => !(q.1 == (z : Nat)) && !(q.1 + 1 == (z : Nat) && q.2.category == 2)) = L') (k : G B nL E ad ct n k0 s0 L' (pc + 1) st) : G B nL E ad ct n k0 s0 L pc (.ref x :: st) :=
  fun ls H locs h w => lv_astore_n fx.1.1 fx.1.2.1 d rfl h hn hl (fun ls h => k ls H locs h w)
theorem g_astore (fx : gFx B cc own nL rm E) {z : Nat} {x : Nat} {L' : List (Nat × Value)} (d : decode cc pc = .ok (.astore z, 2)) (hn : z < nL) (hl : (z, Value.ref x) :: L.filter (fun q => !(q.1 == z) && !(q.1 + 1 == z && q.2.category == 2)) = L') (k : G B nL E ad ct n k0 s0 L' (pc + 2) st) : G B nL E ad ct n k0 s0 L pc (.ref x :: st) :=
  fun ls H locs h w => lv_astore fx.1.1 fx.1.2.1 d h hn hl (fun ls h => k ls H locs h w)
theorem g_lstore_n (fx : gFx B cc own nL rm E) {z : Fin 4} {x : Int64} {L' : List (Nat × Value)} (d : decode cc pc = .ok (.lstore_n z, 1)) (hn : (z : Nat) + 1 < nL) (hl : ((z : Nat), Value.long x) :: L.filter (fun q => !(q.1 == (z : Nat)) && (!(q.1 == (z : Nat) + 1) && !(q.1 + 1 == (z : Nat) && q.2.category == 2))) = L') (k : G B nL E ad ct n k0 s0 L' (pc + 1) st) : G B nL E ad ct n k0 s0 L pc (.long x :: st) :=
  fun ls H locs h w => lv_lstore_n fx.1.1 fx.1.2.1 d rfl h hn hl (fun ls h => k ls H locs h w)
theorem g_lstore (fx : gFx B cc own nL rm E) {z : Nat} {x : Int64} {L' : List (Nat × Value)} (d : decode cc pc = .ok (.lstore z, 2)) (hn : z + 1 < nL) (hl : (z, Value.long x) :: L.filter (fun q => !(q.1 == z) && (!(q.1 == z + 1) && !(q.1 + 1 == z && q.2.category == 2))) = L') (k : G B nL E ad ct n k0 s0 L' (pc + 2) st) : G B nL E ad ct n k0 s0 L pc (.long x :: st) :=
  fun ls H locs h w => lv_lstore fx.1.1 fx.1.2.1 d h hn hl (fun ls h => k ls H locs h w)
theorem g_iinc (fx : gFx B cc own nL rm E) {z : Nat} {u : Int} {x : Int32} {L' : List (Nat × Value)} (v : Int32) (j : Nat) (d : decode cc pc = .ok (.iinc z u, 3)) (hj : L[j]? = some (z, .int x)) (hv : x + Int32.ofInt u = v) (hn : z < nL) (hl : (z, Value.int v) :: L.filter (fun q => !(q.1 == z) && !(q.1 + 1 == z && q.2.category == 2)) = L') (k : G B nL E ad ct n k0 s0 L' (pc + 3) st) : G B nL E ad ct n k0 s0 L pc st :=
  fun ls H locs h w => lv_iinc fx.1.1 fx.1.2.1 d h hj hv hn hl (fun ls h => k ls H locs h w)
theorem g_iadd (fx : gFx B cc own nL rm E) {x y : Int32} (d : decode cc pc = .ok (.iadd, 1))  (k : G B nL E ad ct n k0 s0 L (pc + 1) (.int (x + y) :: st)) : G B nL E ad ct n k0 s0 L pc (.int y :: .int x :: st) :=
  fun ls H locs h w => lv_iadd fx.1.1 fx.1.2.1 d (k ls H locs h w)
theorem g_isub (fx : gFx B cc own nL rm E) {x y : Int32} (d : decode cc pc = .ok (.isub, 1))  (k : G B nL E ad ct n k0 s0 L (pc + 1) (.int (x - y) :: st)) : G B nL E ad ct n k0 s0 L pc (.int y :: .int x :: st) :=
  fun ls H locs h w => lv_isub fx.1.1 fx.1.2.1 d (k ls H locs h w)
theorem g_imul (fx : gFx B cc own nL rm E) {x y : Int32} (d : decode cc pc = .ok (.imul, 1))  (k : G B nL E ad ct n k0 s0 L (pc + 1) (.int (x * y) :: st)) : G B nL E ad ct n k0 s0 L pc (.int y :: .int x :: st) :=
  fun ls H locs h w => lv_imul fx.1.1 fx.1.2.1 d (k ls H locs h w)
theorem g_iand (fx : gFx B cc own nL rm E) {x y : Int32} (d : decode cc pc = .ok (.iand, 1))  (k : G B nL E ad ct n k0 s0 L (pc + 1) (.int (x &&& y) :: st)) : G B nL E ad ct n k0 s0 L pc (.int y :: .int x :: st) :=
  fun ls H locs h w => lv_iand fx.1.1 fx.1.2.1 d (k ls H locs h w)
theorem g_ior (fx : gFx B cc own nL rm E) {x y : Int32} (d : decode cc pc = .ok (.ior, 1))  (k : G B nL E ad ct n k0 s0 L (pc + 1) (.int (x ||| y) :: st)) : G B nL E ad ct n k0 s0 L pc (.int y :: .int x :: st) :=
  fun ls H locs h w => lv_ior fx.1.1 fx.1.2.1 d (k ls H locs h w)
theorem g_ixor (fx : gFx B cc own nL rm E) {x y : Int32} (d : decode cc pc = .ok (.ixor, 1))  (k : G B nL E ad ct n k0 s0 L (pc + 1) (.int (x ^^^ y) :: st)) : G B nL E ad ct n k0 s0 L pc (.int y :: .int x :: st) :=
  fun ls H locs h w => lv_ixor fx.1.1 fx.1.2.1 d (k ls H locs h w)
theorem g_ishl (fx : gFx B cc own nL rm E) {x y : Int32} (d : decode cc pc = .ok (.ishl, 1))  (k : G B nL E ad ct n k0 s0 L (pc + 1) (.int (x <<< (y &&& 31)) :: st)) : G B nL E ad ct n k0 s0 L pc (.int y :: .int x :: st) :=
  fun ls H locs h w => lv_ishl fx.1.1 fx.1.2.1 d (k ls H locs h w)
theorem g_ishr (fx : gFx B cc own nL rm E) {x y : Int32} (d : decode cc pc = .ok (.ishr, 1))  (k : G B nL E ad ct n k0 s0 L (pc + 1) (.int (x >>> (y &&& 31)) :: st)) : G B nL E ad ct n k0 s0 L pc (.int y :: .int x :: st) :=
  fun ls H locs h w => lv_ishr fx.1.1 fx.1.2.1 d (k ls H locs h w)
theorem g_idiv (fx : gFx B cc own nL rm E) {x y : Int32} (d : decode cc pc = .ok (.idiv, 1)) (hne : ¬ y = 0) (k : G B nL E ad ct n k0 s0 L (pc + 1) (.int (x / y) :: st)) : G B nL E ad ct n k0 s0 L pc (.int y :: .int x :: st) :=
  fun ls H locs h w => lv_idiv fx.1.1 fx.1.2.1 d hne (k ls H locs h w)
theorem g_irem (fx : gFx B cc own nL rm E) {x y : Int32} (d : decode cc pc = .ok (.irem, 1)) (hne : ¬ y = 0) (k : G B nL E ad ct n k0 s0 L (pc + 1) (.int (x - x / y * y) :: st)) : G B nL E ad ct n k0 s0 L pc (.int y :: .int x :: st) :=
  fun ls H locs h w => lv_irem fx.1.1 fx.1.2.1 d hne (k ls H locs h w)
theorem g_ineg (fx : gFx B cc own nL rm E) {x : Int32} (d : decode cc pc = .ok (.ineg, 1))  (k : G B nL E ad ct n k0 s0 L (pc + 1) (.int (-x) :: st)) : G B nL E ad ct n k0 s0 L pc (.int x :: st) :=
  fun ls H locs h w => lv_ineg fx.1.1 fx.1.2.1 d (k ls H locs h w)
theorem g_lneg (fx : gFx B cc own nL rm E) {x : Int64} (d : decode cc pc = .ok (.lneg, 1))  (k : G B nL E ad ct n k0 s0 L (pc + 1) (.long (-x) :: st)) : G B nL E ad ct n k0 s0 L pc (.long x :: st) :=
  fun ls H locs h w => lv_lneg fx.1.1 fx.1.2.1 d (k ls H locs h w)
theorem g_ladd (fx : gFx B cc own nL rm E) {x y : Int64} (d : decode cc pc = .ok (.ladd, 1))  (k : G B nL E ad ct n k0 s0 L (pc + 1) (.long (x + y) :: st)) : G B nL E ad ct n k0 s0 L pc (.long y :: .long x :: st) :=
  fun ls H locs h w => lv_ladd fx.1.1 fx.1.2.1 d (k ls H locs h w)
theorem g_lsub (fx : gFx B cc own nL rm E) {x y : Int64} (d : decode cc pc = .ok (.lsub, 1))  (k : G B nL E ad ct n k0 s0 L (pc + 1) (.long (x - y) :: st)) : G B nL E ad ct n k0 s0 L pc (.long y :: .long x :: st) :=
  fun ls H locs h w => lv_lsub fx.1.1 fx.1.2.1 d (k ls H locs h w)
theorem g_lmul (fx : gFx B cc own nL rm E) {x y : Int64} (d : decode cc pc = .ok (.lmul, 1))  (k : G B nL E ad ct n k0 s0 L (pc + 1) (.long (x * y) :: st)) : G B nL E ad ct n k0 s0 L pc (.long y :: .long x :: st) :=
  fun ls H locs h w => lv_lmul fx.1.1 fx.1.2.1 d (k ls H locs h w)
theorem g_land (fx : gFx B cc own nL rm E) {x y : Int64} (d : decode cc pc = .ok (.land, 1))  (k : G B nL E ad ct n k0 s0 L (pc + 1) (.long (x &&& y) :: st)) : G B nL E ad ct n k0 s0 L pc (.long y :: .long x :: st) :=
  fun ls H locs h w => lv_land fx.1.1 fx.1.2.1 d (k ls H locs h w)
theorem g_lor (fx : gFx B cc own nL rm E) {x y : Int64} (d : decode cc pc = .ok (.lor, 1))  (k : G B nL E ad ct n k0 s0 L (pc + 1) (.long (x ||| y) :: st)) : G B nL E ad ct n k0 s0 L pc (.long y :: .long x :: st) :=
  fun ls H locs h w => lv_lor fx.1.1 fx.1.2.1 d (k ls H locs h w)
theorem g_lxor (fx : gFx B cc own nL rm E) {x y : Int64} (d : decode cc pc = .ok (.lxor, 1))  (k : G B nL E ad ct n k0 s0 L (pc + 1) (.long (x ^^^ y) :: st)) : G B nL E ad ct n k0 s0 L pc (.long y :: .long x :: st) :=
  fun ls H locs h w => lv_lxor fx.1.1 fx.1.2.1 d (k ls H locs h w)
theorem g_ldiv (fx : gFx B cc own nL rm E) {x y : Int64} (d : decode cc pc = .ok (.ldiv, 1)) (hne : ¬ y = 0) (k : G B nL E ad ct n k0 s0 L (pc + 1) (.long (x / y) :: st)) : G B nL E ad ct n k0 s0 L pc (.long y :: .long x :: st) :=
  fun ls H locs h w => lv_ldiv fx.1.1 fx.1.2.1 d hne (k ls H locs h w)
theorem g_lrem (fx : gFx B cc own nL rm E) {x y : Int64} (d : decode cc pc = .ok (.lrem, 1)) (hne : ¬ y = 0) (k : G B nL E ad ct n k0 s0 L (pc + 1) (.long (x - x / y * y) :: st)) : G B nL E ad ct n k0 s0 L pc (.long y :: .long x :: st) :=
  fun ls H locs h w => lv_lrem fx.1.1 fx.1.2.1 d hne (k ls H locs h w)
theorem g_i2l (fx : gFx B cc own nL rm E) {x : Int32} (d : decode cc pc = .ok (.i2l, 1))  (k : G B nL E ad ct n k0 s0 L (pc + 1) (.long x.toInt64 :: st)) : G B nL E ad ct n k0 s0 L pc (.int x :: st) :=
  fun ls H locs h w => lv_i2l fx.1.1 fx.1.2.1 d rfl (k ls H locs h w)
theorem g_l2i (fx : gFx B cc own nL rm E) {x : Int64} (d : decode cc pc = .ok (.l2i, 1))  (k : G B nL E ad ct n k0 s0 L (pc + 1) (.int x.toInt32 :: st)) : G B nL E ad ct n k0 s0 L pc (.long x :: st) :=
  fun ls H locs h w => lv_l2i fx.1.1 fx.1.2.1 d rfl (k ls H locs h w)
theorem g_iushr (fx : gFx B cc own nL rm E) {x y : Int32} (d : decode cc pc = .ok (.iushr, 1))  (k : G B nL E ad ct n k0 s0 L (pc + 1) (.int (x.toUInt32 >>> (y.toUInt32 &&& Int32.toUInt32 31)).toInt32 :: st)) : G B nL E ad ct n k0 s0 L pc (.int y :: .int x :: st) :=
  fun ls H locs h w => lv_iushr fx.1.1 fx.1.2.1 d rfl (k ls H locs h w)
theorem g_lushr (fx : gFx B cc own nL rm E) {x : Int64} {y : Int32} (d : decode cc pc = .ok (.lushr, 1))  (k : G B nL E ad ct n k0 s0 L (pc + 1) (.long (x.toUInt64 >>> (y.toInt64.toUInt64 &&& Int64.toUInt64 63)).toInt64 :: st)) : G B nL E ad ct n k0 s0 L pc (.int y :: .long x :: st) :=
  fun ls H locs h w => lv_lushr fx.1.1 fx.1.2.1 d rfl (k ls H locs h w)
theorem g_lshl (fx : gFx B cc own nL rm E) {x : Int64} {y : Int32} (d : decode cc pc = .ok (.lshl, 1))  (k : G B nL E ad ct n k0 s0 L (pc + 1) (.long (x <<< (y.toInt64 &&& 63)) :: st)) : G B nL E ad ct n k0 s0 L pc (.int y :: .long x :: st) :=
  fun ls H locs h w => lv_lshl fx.1.1 fx.1.2.1 d rfl (k ls H locs h w)
theorem g_lshr (fx : gFx B cc own nL rm E) {x : Int64} {y : Int32} (d : decode cc pc = .ok (.lshr, 1))  (k : G B nL E ad ct n k0 s0 L (pc + 1) (.long (x >>> (y.toInt64 &&& 63)) :: st)) : G B nL E ad ct n k0 s0 L pc (.int y :: .long x :: st) :=
  fun ls H locs h w => lv_lshr fx.1.1 fx.1.2.1 d rfl (k ls H locs h w)
theorem g_lcmp (fx : gFx B cc own nL rm E) {x y : Int64} (d : decode cc pc = .ok (.lcmp, 1))  (k : G B nL E ad ct n k0 s0 L (pc + 1) (.int (lg_cmp x y) :: st)) : G B nL E ad ct n k0 s0 L pc (.long y :: .long x :: st) :=
  fun ls H locs h w => W.lcmp fx.1.1 fx.1.2.1 d (k ls H locs h w)
theorem g_dup (fx : gFx B cc own nL rm E) {va : Value} (d : decode cc pc = .ok (.dup, 1)) (h1 : va.category = 1) (k : G B nL E ad ct n k0 s0 L (pc + 1) (va :: va :: st)) : G B nL E ad ct n k0 s0 L pc (va :: st) :=
  fun ls H locs h w => lv_dup fx.1.1 fx.1.2.1 d h1 (k ls H locs h w)
theorem g_pop (fx : gFx B cc own nL rm E) {va : Value} (d : decode cc pc = .ok (.pop, 1)) (h1 : va.category = 1) (k : G B nL E ad ct n k0 s0 L (pc + 1) st) : G B nL E ad ct n k0 s0 L pc (va :: st) :=
  fun ls H locs h w => lv_pop fx.1.1 fx.1.2.1 d h1 (k ls H locs h w)
theorem g_dup_x1 (fx : gFx B cc own nL rm E) {va vb : Value} (d : decode cc pc = .ok (.dup_x1, 1)) (h1 : va.category = 1) (h2 : vb.category = 1) (k : G B nL E ad ct n k0 s0 L (pc + 1) (va :: vb :: va :: st)) : G B nL E ad ct n k0 s0 L pc (va :: vb :: st) :=
  fun ls H locs h w => lv_dup_x1 fx.1.1 fx.1.2.1 d h1 h2 (k ls H locs h w)
theorem g_dup_x2 (fx : gFx B cc own nL rm E) {va vb vd : Value} (d : decode cc pc = .ok (.dup_x2, 1)) (h1 : va.category = 1) (h2 : vb.category = 1) (h3 : vd.category = 1) (k : G B nL E ad ct n k0 s0 L (pc + 1) (va :: vb :: vd :: va :: st)) : G B nL E ad ct n k0 s0 L pc (va :: vb :: vd :: st) :=
  fun ls H locs h w => lv_dup_x2 fx.1.1 fx.1.2.1 d h1 h2 h3 (k ls H locs h w)
theorem g_dup2_11 (fx : gFx B cc own nL rm E) {va vb : Value} (d : decode cc pc = .ok (.dup2, 1)) (h1 : va.category = 1) (h2 : vb.category = 1) (k : G B nL E ad ct n k0 s0 L (pc + 1) (va :: vb :: va :: vb :: st)) : G B nL E ad ct n k0 s0 L pc (va :: vb :: st) :=
  fun ls H locs h w => lv_dup2_11 fx.1.1 fx.1.2.1 d h1 h2 (k ls H locs h w)
theorem g_dup2_2 (fx : gFx B cc own nL rm E) {va : Value} (d : decode cc pc = .ok (.dup2, 1)) (h1 : va.category = 2) (k : G B nL E ad ct n k0 s0 L (pc + 1) (va :: va :: st)) : G B nL E ad ct n k0 s0 L pc (va :: st) :=
  fun ls H locs h w => lv_dup2_2 fx.1.1 fx.1.2.1 d h1 (k ls H locs h w)
theorem g_pop2_2 (fx : gFx B cc own nL rm E) {va : Value} (d : decode cc pc = .ok (.pop2, 1)) (h1 : va.category = 2) (k : G B nL E ad ct n k0 s0 L (pc + 1) st) : G B nL E ad ct n k0 s0 L pc (va :: st) :=
  fun ls H locs h w => lv_pop2_2 fx.1.1 fx.1.2.1 d h1 (k ls H locs h w)
theorem g_if_eq (fx : gFx B cc own nL rm E) {x : Int32} {off : Int} (t : Nat) (d : decode cc pc = .ok (.ifCond .eq off, 3)) (ht : (pc : Int) + off = (t : Int)) (kt : x = 0 → G B nL E ad ct n k0 s0 L t st) (kf : ¬ x = 0 → G B nL E ad ct n k0 s0 L (pc + 3) st) : G B nL E ad ct n k0 s0 L pc (.int x :: st) :=
  fun ls H locs h w => lv_if_eq fx.1.1 fx.1.2.1 d ht (fun q => kt q ls H locs h w) (fun q => kf q ls H locs h w)
theorem g_if_ne (fx : gFx B cc own nL rm E) {x : Int32} {off : Int} (t : Nat) (d : decode cc pc = .ok (.ifCond .ne off, 3)) (ht : (pc : Int) + off = (t : Int)) (kt : ¬ x = 0 → G B nL E ad ct n k0 s0 L t st) (kf : x = 0 → G B nL E ad ct n k0 s0 L (pc + 3) st) : G B nL E ad ct n k0 s0 L pc (.int x :: st) :=
  fun ls H locs h w => lv_if_ne fx.1.1 fx.1.2.1 d ht (fun q => kt q ls H locs h w) (fun q => kf q ls H locs h w)
theorem g_if_lt (fx : gFx B cc own nL rm E) {x : Int32} {off : Int} (t : Nat) (d : decode cc pc = .ok (.ifCond .lt off, 3)) (ht : (pc : Int) + off = (t : Int)) (kt : x < 0 → G B nL E ad ct n k0 s0 L t st) (kf : ¬ x < 0 → G B nL E ad ct n k0 s0 L (pc + 3) st) : G B nL E ad ct n k0 s0 L pc (.int x :: st) :=
  fun ls H locs h w => lv_if_lt fx.1.1 fx.1.2.1 d ht (fun q => kt q ls H locs h w) (fun q => kf q ls H locs h w)
theorem g_if_ge (fx : gFx B cc own nL rm E) {x : Int32} {off : Int} (t : Nat) (d : decode cc pc = .ok (.ifCond .ge off, 3)) (ht : (pc : Int) + off = (t : Int)) (kt : 0 ≤ x → G B nL E ad ct n k0 s0 L t st) (kf : ¬ 0 ≤ x → G B nL E ad ct n k0 s0 L (pc + 3) st) : G B nL E ad ct n k0 s0 L pc (.int x :: st) :=
  fun ls H locs h w => lv_if_ge fx.1.1 fx.1.2.1 d ht (fun q => kt q ls H locs h w) (fun q => kf q ls H locs h w)
theorem g_if_gt (fx : gFx B cc own nL rm E) {x : Int32} {off : Int} (t : Nat) (d : decode cc pc = .ok (.ifCond .gt off, 3)) (ht : (pc : Int) + off = (t : Int)) (kt : 0 < x → G B nL E ad ct n k0 s0 L t st) (kf : ¬ 0 < x → G B nL E ad ct n k0 s0 L (pc + 3) st) : G B nL E ad ct n k0 s0 L pc (.int x :: st) :=
  fun ls H locs h w => lv_if_gt fx.1.1 fx.1.2.1 d ht (fun q => kt q ls H locs h w) (fun q => kf q ls H locs h w)
theorem g_if_le (fx : gFx B cc own nL rm E) {x : Int32} {off : Int} (t : Nat) (d : decode cc pc = .ok (.ifCond .le off, 3)) (ht : (pc : Int) + off = (t : Int)) (kt : x ≤ 0 → G B nL E ad ct n k0 s0 L t st) (kf : ¬ x ≤ 0 → G B nL E ad ct n k0 s0 L (pc + 3) st) : G B nL E ad ct n k0 s0 L pc (.int x :: st) :=
  fun ls H locs h w => lv_if_le fx.1.1 fx.1.2.1 d ht (fun q => kt q ls H locs h w) (fun q => kf q ls H locs h w)
theorem g_icmp_eq (fx : gFx B cc own nL rm E) {x y : Int32} {off : Int} (t : Nat) (d : decode cc pc = .ok (.if_icmp .eq off, 3)) (ht : (pc : Int) + off = (t : Int)) (kt : x = y → G B nL E ad ct n k0 s0 L t st) (kf : ¬ x = y → G B nL E ad ct n k0 s0 L (pc + 3) st) : G B nL E ad ct n k0 s0 L pc (.int y :: .int x :: st) :=
  fun ls H locs h w => lv_icmp_eq fx.1.1 fx.1.2.1 d ht (fun q => kt q ls H locs h w) (fun q => kf q ls H locs h w)
theorem g_icmp_ne (fx : gFx B cc own nL rm E) {x y : Int32} {off : Int} (t : Nat) (d : decode cc pc = .ok (.if_icmp .ne off, 3)) (ht : (pc : Int) + off = (t : Int)) (kt : ¬ x = y → G B nL E ad ct n k0 s0 L t st) (kf : x = y → G B nL E ad ct n k0 s0 L (pc + 3) st) : G B nL E ad ct n k0 s0 L pc (.int y :: .int x :: st) :=
  fun ls H locs h w => lv_icmp_ne fx.1.1 fx.1.2.1 d ht (fun q => kt q ls H locs h w) (fun q => kf q ls H locs h w)
theorem g_icmp_lt (fx : gFx B cc own nL rm E) {x y : Int32} {off : Int} (t : Nat) (d : decode cc pc = .ok (.if_icmp .lt off, 3)) (ht : (pc : Int) + off = (t : Int)) (kt : x < y → G B nL E ad ct n k0 s0 L t st) (kf : ¬ x < y → G B nL E ad ct n k0 s0 L (pc + 3) st) : G B nL E ad ct n k0 s0 L pc (.int y :: .int x :: st) :=
  fun ls H locs h w => lv_icmp_lt fx.1.1 fx.1.2.1 d ht (fun q => kt q ls H locs h w) (fun q => kf q ls H locs h w)
theorem g_icmp_ge (fx : gFx B cc own nL rm E) {x y : Int32} {off : Int} (t : Nat) (d : decode cc pc = .ok (.if_icmp .ge off, 3)) (ht : (pc : Int) + off = (t : Int)) (kt : y ≤ x → G B nL E ad ct n k0 s0 L t st) (kf : ¬ y ≤ x → G B nL E ad ct n k0 s0 L (pc + 3) st) : G B nL E ad ct n k0 s0 L pc (.int y :: .int x :: st) :=
  fun ls H locs h w => lv_icmp_ge fx.1.1 fx.1.2.1 d ht (fun q => kt q ls H locs h w) (fun q => kf q ls H locs h w)
theorem g_icmp_gt (fx : gFx B cc own nL rm E) {x y : Int32} {off : Int} (t : Nat) (d : decode cc pc = .ok (.if_icmp .gt off, 3)) (ht : (pc : Int) + off = (t : Int)) (kt : y < x → G B nL E ad ct n k0 s0 L t st) (kf : ¬ y < x → G B nL E ad ct n k0 s0 L (pc + 3) st) : G B nL E ad ct n k0 s0 L pc (.int y :: .int x :: st) :=
  fun ls H locs h w => lv_icmp_gt fx.1.1 fx.1.2.1 d ht (fun q => kt q ls H locs h w) (fun q => kf q ls H locs h w)
theorem g_icmp_le (fx : gFx B cc own nL rm E) {x y : Int32} {off : Int} (t : Nat) (d : decode cc pc = .ok (.if_icmp .le off, 3)) (ht : (pc : Int) + off = (t : Int)) (kt : x ≤ y → G B nL E ad ct n k0 s0 L t st) (kf : ¬ x ≤ y → G B nL E ad ct n k0 s0 L (pc + 3) st) : G B nL E ad ct n k0 s0 L pc (.int y :: .int x :: st) :=
  fun ls H locs h w => lv_icmp_le fx.1.1 fx.1.2.1 d ht (fun q => kt q ls H locs h w) (fun q => kf q ls H locs h w)
theorem g_goto (fx : gFx B cc own nL rm E) {off : Int} (t : Nat) (d : decode cc pc = .ok (.goto off, 3)) (ht : (pc : Int) + off = (t : Int)) (k : G B nL E ad ct n k0 s0 L t st) : G B nL E ad ct n k0 s0 L pc st :=
  fun ls H locs h w => lv_goto fx.1.1 fx.1.2.1 d ht (k ls H locs h w)
theorem g_null (fx : gFx B cc own nL rm E) (d : decode cc pc = .ok (.aconst_null, 1)) (k : G B nL E ad ct n k0 s0 L (pc + 1) (.null :: st)) : G B nL E ad ct n k0 s0 L pc st :=
  fun ls H locs h w => lv_null fx.1.1 fx.1.2.1 d (k ls H locs h w)
theorem g_ifnull (fx : gFx B cc own nL rm E) {x : Nat} {off : Int} (d : decode cc pc = .ok (.ifnull off, 3)) (k : G B nL E ad ct n k0 s0 L (pc + 3) st) : G B nL E ad ct n k0 s0 L pc (.ref x :: st) :=
  fun ls H locs h w => lv_ifnull fx.1.1 fx.1.2.1 d (k ls H locs h w)
theorem g_tableIn (fx : gFx B cc own nL rm E) {dflt lo hi : Int} {offs : Array Int} {len : Nat} {x : Int32} {off : Int} (t : Nat) (d : decode cc pc = .ok (.tableswitch dflt lo hi offs, len)) (h1 : ¬ x.toInt < lo) (h2 : ¬ hi < x.toInt) (ho : offs[(x.toInt - lo).toNat]? = some off) (ht : (pc : Int) + off = (t : Int)) (k : G B nL E ad ct n k0 s0 L t st) : G B nL E ad ct n k0 s0 L pc (.int x :: st) :=
  fun ls H locs h w => lv_tableIn fx.1.1 fx.1.2.1 d h1 h2 ho ht (k ls H locs h w)
theorem g_tableOut (fx : gFx B cc own nL rm E) {dflt lo hi : Int} {offs : Array Int} {len : Nat} {x : Int32} (t : Nat) (d : decode cc pc = .ok (.tableswitch dflt lo hi offs, len)) (h1 : x.toInt < lo ∨ hi < x.toInt) (ht : (pc : Int) + dflt = (t : Int)) (k : G B nL E ad ct n k0 s0 L t st) : G B nL E ad ct n k0 s0 L pc (.int x :: st) :=
  fun ls H locs h w => lv_tableOut fx.1.1 fx.1.2.1 d h1 ht (k ls H locs h w)
/-- a field's link: from class 'own', pool number 'index', field k of class ci -/
def gLk (own : String) (index ci k : Nat) : Prop := ∃ (C : String) (T : u_T) (N : Nat), gcl[ci]? = some (C, T, N) ∧ k < N ∧ (∀ w ∈ u_ws C T N, w ∈ gT0) ∧ (Cond.fieldLink own index (T k).1 (T k).2.1 (T k).2.2.1 ∈ gT0 ∨ ∃ host, Cond.fieldLinkNest own index (T k).1 (T k).2.1 (T k).2.2.1 host ∈ gN)
def gLp (own : String) (index ci k : Nat) (ty : FieldType) (fin : Bool) : Prop := ∃ (C : String) (T : u_T) (N : Nat) (ty0 : Nat → FieldType), gcl[ci]? = some (C, T, N) ∧ k < N ∧ (∀ w ∈ u_ws C T N, w ∈ gT0) ∧ (∀ k, k < N → parseFieldDescriptor (T k).2.2.1 = some (ty0 k)) ∧ (∀ a, a < N → ∀ b, b < N → a ≠ b → (T a).2.1 ≠ (T b).2.1) ∧ (T k).2.2.2 = fin ∧ parseFieldDescriptor (T k).2.2.1 = some ty ∧ (T k).1 = own ∧ Cond.fieldLink own index (T k).1 (T k).2.1 (T k).2.2.1 ∈ gT0
theorem g_get (fx : gFx B cc own nL rm E) {index ci k r : Nat} {fs : List Value} {v : Value} (lk : gLk own index ci k) (hr : r < n) (hc : ct r = .inr (ci, fs)) (hv : fs[k]? = some v) (d : decode cc pc = .ok (.getfield index, 3)) (kk : G B nL E ad ct n k0 s0 L (pc + 3) (v :: st)) : G B nL E ad ct n k0 s0 L pc (.ref (ad r) :: st) := by
  intro ls H locs h w
  obtain ⟨C, T, N, h1, h2, h3, h4⟩ := lk
  rcases h4 with h4 | ⟨host, h4⟩
  · exact va_get fx.1.1 fx.1.2.1 fx.1.2.2.2.2 h3 fx.1.2.2.2.1 fx.2.1 w.1 r (gw_atE hr hc) h1 k h2 (fx.1.2.2.2.2 _ h4) (fun _ h9 => h9) hv d (kk ls H locs h w)
  · exact va_getN fx.1.1 fx.1.2.1 fx.1.2.2.2.2 h3 fx.1.2.2.2.1 fx.2.1 w.1 r (gw_atE hr hc) h1 k h2 (va_Nw.use rfl (fx.2.2.2.2.2.2 _ h4)) (fun _ h9 => h9) hv d (kk ls H locs h w)
theorem gWd_set {r : Nat} {e : va_E} {H1 : Heap} {locs1 : List Loc} (hP : va_P B.1 gcl ((gw ad ct n).set r (ad r, e)) H1) (hD : va_D E.A ((gw ad ct n).set r (ad r, e))) (hS : va_S E.A E.s.heap H1 locs1) : gWd B E ad (va_up ct r e) n H1 locs1 := by
  rw [gw_set] at hP hD
  exact ⟨hP, hD, hS⟩
theorem g_put (fx : gFx B cc own nL rm E) {index ci k r : Nat} {fs fs' : List Value} {v : Value} {ty : FieldType} (lk : gLp own index ci k ty false) (hr : r < n) (hc : ct r = .inr (ci, fs)) (hn : narrow ty v = v) (hfit : fits ty v = true) (hl : k < fs.length) (hfs : fs.set k v = fs') (d : decode cc pc = .ok (.putfield index, 3)) (kk : ∀ ct', ct' = va_up ct r (.inr (ci, fs')) → G B nL E ad ct' n k0 s0 L (pc + 3) st) : G B nL E ad ct n k0 s0 L pc (v :: .ref (ad r) :: st) := by
  intro ls H locs h w
  obtain ⟨C, T, N, ty0, h1, h2, h3, h5, h6, h7, h8, -, h4⟩ := lk
  subst hfs
  exact va_put fx.1.1 fx.1.2.1 fx.1.2.2.2.2 h3 ty0 h5 h6 fx.1.2.2.2.1 fx.2.1 w.1 w.2.1 w.2.2 r (gw_atE hr hc) h1 k h2 (fx.1.2.2.2.2 _ h4) (fun _ h9 => h9) h7 h8 hn hfit hl d (fun H1 l1 hP hD hS => kk _ rfl ls H1 l1 h (gWd_set hP hD hS))
theorem g_putF (fx : gFx B cc own nL rm E) {index ci k r : Nat} {fs fs' : List Value} {v : Value} {ty : FieldType} (hin : E.meth.name = "<init>") (lk : gLp own index ci k ty true) (hr : r < n) (hc : ct r = .inr (ci, fs)) (hn : narrow ty v = v) (hfit : fits ty v = true) (hl : k < fs.length) (hfs : fs.set k v = fs') (d : decode cc pc = .ok (.putfield index, 3)) (kk : ∀ ct', ct' = va_up ct r (.inr (ci, fs')) → G B nL E ad ct' n k0 s0 L (pc + 3) st) : G B nL E ad ct n k0 s0 L pc (v :: .ref (ad r) :: st) := by
  intro ls H locs h w
  obtain ⟨C, T, N, ty0, h1, h2, h3, h5, h6, h7, h8, h9, h4⟩ := lk
  subst hfs
  exact va_putF fx.1.1 fx.1.2.1 fx.1.2.2.2.2 h3 ty0 h5 h6 fx.1.2.2.2.1 fx.2.1 w.1 w.2.1 w.2.2 r (gw_atE hr hc) h1 k h2 (fx.1.2.2.2.2 _ h4) (fun _ h9 => h9) h7 hin h9 h8 hn hfit hl d (fun H1 l1 hP hD hS => kk _ rfl ls H1 l1 h (gWd_set hP hD hS))
theorem gIx {i : Int32} {j N : Nat} (hi : i.toInt = (j : Int)) (hj : j < N) : vp_in i N := vp_in_iff.mpr ⟨by omega, by omega⟩
theorem gCl {i : Int32} {j : Nat} (hi : i.toInt = (j : Int)) : i.toNatClampNeg = j := by
  show i.toInt.toNat = j
  omega
theorem g_iald (fx : gFx B cc own nL rm E) {r N j : Nat} {f : Nat → Int32} {i : Int32} (hr : r < n) (hc : ct r = .inl (B.2.1 0, N, .inl f)) (hi : i.toInt = (j : Int)) (hj : j < N) (d : decode cc pc = .ok (.iaload, 1)) (kk : G B nL E ad ct n k0 s0 L (pc + 1) (.int (f j) :: st)) : G B nL E ad ct n k0 s0 L pc (.int i :: .ref (ad r) :: st) := by
  intro ls H locs h w
  refine va_iald fx.1.1 fx.1.2.1 fx.2.1 w.1 r 0 (gw_atE hr hc) rfl (gIx hi hj) d ?_
  rw [gCl hi]
  exact kk ls H locs h w
theorem g_lald (fx : gFx B cc own nL rm E) {r N j : Nat} {f : Nat → Int64} {i : Int32} (hr : r < n) (hc : ct r = .inl (B.2.1 1, N, .inr (.inl f))) (hi : i.toInt = (j : Int)) (hj : j < N) (d : decode cc pc = .ok (.laload, 1)) (kk : G B nL E ad ct n k0 s0 L (pc + 1) (.long (f j) :: st)) : G B nL E ad ct n k0 s0 L pc (.int i :: .ref (ad r) :: st) := by
  intro ls H locs h w
  refine va_lald fx.1.1 fx.1.2.1 fx.2.1 w.1 r 1 (gw_atE hr hc) rfl (gIx hi hj) d ?_
  rw [gCl hi]
  exact kk ls H locs h w
theorem g_aald (fx : gFx B cc own nL rm E) {r t0 N j q : Nat} {cA : ClassId} {C : String} {f : Nat → Option Nat} {i : Int32} (ht : (gTy B.2.1)[t0]? = some (cA, .object C)) (hr : r < n) (hc : ct r = .inl (cA, N, .inr (.inr (.inr (.inr f))))) (hi : i.toInt = (j : Int)) (hj : j < N) (hq : f j = some q) (d : decode cc pc = .ok (.aaload, 1)) (kk : G B nL E ad ct n k0 s0 L (pc + 1) (.ref q :: st)) : G B nL E ad ct n k0 s0 L pc (.int i :: .ref (ad r) :: st) := by
  intro ls H locs h w
  refine va_aldq fx.1.1 fx.1.2.1 fx.2.1 w.1 r t0 (gw_atE hr hc) ht (gIx hi hj) d ?_
  rw [gCl hi, hq]
  exact kk ls H locs h w
theorem g_iast (fx : gFx B cc own nL rm E) {r N j : Nat} {f : Nat → Int32} {i x : Int32} (hr : r < n) (hc : ct r = .inl (B.2.1 0, N, .inl f)) (hi : i.toInt = (j : Int)) (hj : j < N) (d : decode cc pc = .ok (.iastore, 1)) (kk : ∀ ct', ct' = va_up ct r (.inl (B.2.1 0, N, .inl (va_up f j x))) → G B nL E ad ct' n k0 s0 L (pc + 1) st) : G B nL E ad ct n k0 s0 L pc (.int x :: .int i :: .ref (ad r) :: st) := by
  intro ls H locs h w
  refine va_iast fx.1.1 fx.1.2.1 fx.2.1 w.1 w.2.1 w.2.2 r 0 (gw_atE hr hc) rfl (gIx hi hj) d (fun H1 l1 hP hD hS => ?_)
  rw [gCl hi] at hP hD
  exact kk _ rfl ls H1 l1 h (gWd_set hP hD hS)
theorem g_last (fx : gFx B cc own nL rm E) {r N j : Nat} {f : Nat → Int64} {i : Int32} {x : Int64} (hr : r < n) (hc : ct r = .inl (B.2.1 1, N, .inr (.inl f))) (hi : i.toInt = (j : Int)) (hj : j < N) (d : decode cc pc = .ok (.lastore, 1)) (kk : ∀ ct', ct' = va_up ct r (.inl (B.2.1 1, N, .inr (.inl (va_up f j x)))) → G B nL E ad ct' n k0 s0 L (pc + 1) st) : G B nL E ad ct n k0 s0 L pc (.long x :: .int i :: .ref (ad r) :: st) := by
  intro ls H locs h w
  refine va_last fx.1.1 fx.1.2.1 fx.2.1 w.1 w.2.1 w.2.2 r 1 (gw_atE hr hc) rfl (gIx hi hj) d (fun H1 l1 hP hD hS => ?_)
  rw [gCl hi] at hP hD
  exact kk _ rfl ls H1 l1 h (gWd_set hP hD hS)
theorem g_alen (fx : gFx B cc own nL rm E) {r t0 : Nat} {cA : ClassId} {ty : FieldType} {x : vp_A} (ht : (gTy B.2.1)[t0]? = some (cA, ty)) (hr : r < n) (hc : ct r = .inl (cA, x)) (d : decode cc pc = .ok (.arraylength, 1)) (kk : G B nL E ad ct n k0 s0 L (pc + 1) (.int (nI x.1) :: st)) : G B nL E ad ct n k0 s0 L pc (.ref (ad r) :: st) := by
  intro ls H locs h w
  exact va_alen fx.1.1 fx.1.2.1 fx.2.1 w.1 r t0 (gw_atE hr hc) ht rfl d (kk ls H locs h w)
theorem gA_sub {H : Heap} {locs : List Loc} (fx : gFx B cc own nL rm E) (w : gWd B E ad ct n H locs) : ∀ q, gA ad n H.size q → E.A q := by
  intro q h
  rcases h with ⟨k, hk, rfl⟩ | h
  · exact w.2.1.2 k _ (gw_at hk)
  · exact fx.2.2.1 q (Nat.le_trans w.2.2.1 h)
theorem g_blind {As : List Value} {sz : Nat} : FrameBlind (va_Pc As (fun U => U.heap.size = sz ∧ va_P B.1 gcl (gw ad ct n) U.heap ∧ va_K B.1 gcl (gTy B.2.1) U ∧ va_D (fun _ => True) (gw ad ct n) ∧ gZ B (gA ad n sz) U)) := by
  intro a U g mk q
  obtain ⟨q0, q1, qP, qK, qD, qZ⟩ := q
  exact ⟨q0, q1, qP, va_K.moved (u := U) (U := U.calling g mk a) (Vm.Alike.refl U.vm) qK, qD, qZ.1.moved (u := U) (U := U.calling g mk a) (Vm.Alike.refl U.vm), qZ.2.1.moved (u := U) (U := U.calling g mk a) (Vm.Alike.refl U.vm), gN_same (s := U) (U := U.calling g mk a) rfl qZ.2.2⟩
theorem g_pre {As : List Value} {H : Heap} {locs : List Loc} (fx : gFx B cc own nL rm E) (w : gWd B E ad ct n H locs) : ∀ U : State, U.heap = H → E.s.WarmedH U.vm → va_Pc As (fun U => U.heap.size = H.size ∧ va_P B.1 gcl (gw ad ct n) U.heap ∧ va_K B.1 gcl (gTy B.2.1) U ∧ va_D (fun _ => True) (gw ad ct n) ∧ gZ B (gA ad n H.size) U) As.toArray U := by
  intro U hU hW
  have hs := gA_sub fx w
  have hz := fx.2.2.2.2
  refine ⟨rfl, by rw [hU], by rw [hU]; exact w.1, va_K.moved hW.alike fx.2.1, w.2.1.weaken (fun _ _ _ _ => trivial), ?_, ?_, gN_moved hW hz.2.2⟩
  · exact ((hz.1.kept (H1 := U.heap) (fun a h1 h2 => by rw [hU]; exact w.2.2.2.1 a h1 h2)).narrow hs).moved hW.alike
  · exact ((hz.2.1.kept (H1 := U.heap) (fun a h1 h2 => by rw [hU]; exact w.2.2.2.1 a h1 h2)).narrow hs).moved hW.alike
/-- behind a call -/
theorem g_back (fx : gFx B cc own nL rm E) {post : gP} {mc ms : Nat} {rest st0 : List Value} {a : Array Value} {ls : Array Slot} {H : Heap} {locs : List Loc} (h : lv_has ls nL L) (w : gWd B E ad ct n H locs)
    (hr : va_Run E.p B.2.2.1 E.e E.R E.s E.m E.args E.below E.meth E.c H locs k0 s0 mc ms (F0 E.m pc ls st0) rest (gQ B post (gA ad n H.size) a) (gA ad n H.size))
    (kk : ∀ v ad' ct' n', post v ad' ct' n' → G B nL E ad' ct' n' (k0 + mc) (s0 + ms) L (pc + 3) (v.toList ++ rest)) : W E.p B.2.2.1 E.e E.R E.s E.m E.args E.below E.meth E.c H locs k0 s0 E.Q (F0 E.m pc ls st0) := by
  intro T hT X
  obtain ⟨v, st₀, t, T', L', h0, X', hL, e1, e2, ⟨⟨v', ad', ct', n', hv, hp, hP', hK', hD'⟩, hz, hk⟩, st'⟩ := hr T hT X
  cases hv
  rw [h0] at hz hk
  have hsub := gA_sub fx w
  have w' : gWd B E ad' ct' n' T'.heap (locs ++ L') := by
    refine ⟨by rw [e1]; exact hP', hD'.weaken (fun _ q _ hq => hsub q.1 hq), ⟨Nat.le_trans w.2.2.1 (by rw [e1]; exact hz), fun q h1 h2 => ?_, fun q hq => ?_⟩⟩
    · rw [e1, hk q (Nat.lt_of_lt_of_le h1 w.2.2.1) (fun z => h2 (hsub q z))]
      exact w.2.2.2.1 q h1 h2
    · rcases List.mem_append.mp hq with h1 | h1
      · exact w.2.2.2.2 q h1
      · exact hsub _ (hL q h1)
  obtain ⟨t2, a1, b1⟩ := kk v ad' ct' n' hp ls T'.heap (locs ++ L') h w' T' rfl X'
  exact ⟨t2, st' t2 a1, b1⟩
/-- a call's site: what the tables say of the method that is called from 'own' by pool number 'index' -/
def gMl (own : String) (index : Nat) (y : MethodName) (bytes : ByteArray) (maxL : Nat) (ret : Option FieldType) (na : Nat) : Prop :=
  (Cond.methodLink own index y ∈ gT0 ∨ ∃ host, Cond.methodLinkNest own index y host ∈ gN) ∧ Cond.initialized y.cls ∈ gT0 ∧ Cond.code y bytes maxL ret ∈ gT0 ∧ (y.cls ≠ "java/lang/invoke/MethodHandle" ∧ y.cls ≠ "java/lang/invoke/VarHandle" ∧ (parseMethodDescriptor y.desc).map (fun d => d.parameters.length) = some na)
def gVl (own : String) (index : Nat) (y : MethodName) (bytes : ByteArray) (maxL : Nat) (ret : Option FieldType) (na : Nat) : Prop := gMl own index y bytes maxL ret na ∧ Cond.instanceMethod y ∈ gT0 ∧ Cond.selects y.cls y y ∈ gT0
def gSl (own : String) (index : Nat) (y : MethodName) (bytes : ByteArray) (maxL : Nat) (ret : Option FieldType) (na : Nat) : Prop := gMl own index y bytes maxL ret na ∧ Cond.static y ∈ gT0
def gIl (own : String) (index : Nat) (y : MethodName) (bytes : ByteArray) (maxL : Nat) (na : Nat) : Prop := gMl own index y bytes maxL none na ∧ y.name = "<init>" ∧ Cond.instanceMethod y ∈ gT0
theorem gGood {y : MethodName} {bytes : ByteArray} {maxL : Nat} {ret : Option FieldType} (h : Cond.code y bytes maxL ret ∈ gT0) : GoodIn gT0 (Cond.code y bytes maxL ret :: gT0) := by
  intro w hw
  rcases List.mem_cons.mp hw with rfl | hw
  · exact gT0_good _ h
  · exact gT0_good _ hw
theorem g_callV (fx : gFx B cc own nL rm E) {index maxL na fr lo mc ms ci r : Nat} {y : MethodName} {bytes : ByteArray} {ret : Option FieldType} {post : gP} {As rest st0 fs : List Value} {T : u_T} {N : Nat}
    (sl : gVl own index y bytes maxL ret na) (hM : Ctr B y bytes maxL ret fr lo mc ms ad ct n (.ref (ad r) :: As) post) (hr : r < n) (hc : ct r = .inr (ci, fs)) (hci : gcl[ci]? = some (y.cls, T, N))
    (hst : st0 = As.reverse ++ .ref (ad r) :: rest) (hna : As.length = na) (hW : (rest.map fun v => v.category).sum ≤ 8) (hR : fr + 1 ≤ rm.frames ∧ 8 + (maxL + 11) + lo ≤ rm.locals) (hf : k0 + mc ≤ rm.cells ∧ s0 + ms ≤ rm.slots) (d : decode cc pc = .ok (.invokevirtual index, 3))
    (kk : ∀ v ad' ct' n', post v ad' ct' n' → G B nL E ad' ct' n' (k0 + mc) (s0 + ms) L (pc + 3) (v.toList ++ rest)) : G B nL E ad ct n k0 s0 L pc st0 := by
  intro ls H locs h w
  obtain ⟨fx1, fx2, fx3, rfl, fx4⟩ := id fx
  obtain ⟨⟨s1, s2, s3, s4⟩, s5, s6⟩ := sl
  have hG := gGood s3
  have hts := fx1.2.2.2.2
  have hp : PreV E.s H y.cls (ad r) (va_Pc (.ref (ad r) :: As) (fun U => U.heap.size = H.size ∧ va_P B.1 gcl (gw ad ct n) U.heap ∧ va_K B.1 gcl (gTy B.2.1) U ∧ va_D (fun _ => True) (gw ad ct n) ∧ gZ B (gA ad n H.size) U)) As :=
    ⟨g_blind, va_recv fx2 w.1 hci (gw_atE hr hc), g_pre fx w⟩
  subst hst
  rcases s1 with s1 | ⟨host, s1⟩
  · refine g_back fx h w (va_runV (As := As) (rest := rest) fx1 (hM H.size) (C := y.cls) ⟨callB_of na hts hG rfl rfl rfl (hts _ s2) (hts _ s1) s4 hR, hts _ s5, hts _ s6⟩ hp rfl hna h.1 rfl (lv_room hW) d hf) kk
  · refine g_back fx h w (va_runVN (As := As) (rest := rest) fx1 (hM H.size) (C := y.cls) (host := host) ⟨va_cnB na hts hG rfl rfl rfl (fx4.2.2 _ s1) (hts _ s2) s4 hR, hts _ s5, hts _ s6⟩ hp rfl hna h.1 rfl (lv_room hW) d hf) kk
theorem g_callS (fx : gFx B cc own nL rm E) {index maxL na fr lo mc ms : Nat} {y : MethodName} {bytes : ByteArray} {ret : Option FieldType} {post : gP} {As rest st0 : List Value}
    (sl : gSl own index y bytes maxL ret na) (hM : Ctr B y bytes maxL ret fr lo mc ms ad ct n As post)
    (hst : st0 = As.reverse ++ rest) (hna : As.length = na) (hW : (rest.map fun v => v.category).sum ≤ 8) (hR : fr + 1 ≤ rm.frames ∧ 8 + (maxL + 11) + lo ≤ rm.locals) (hf : k0 + mc ≤ rm.cells ∧ s0 + ms ≤ rm.slots) (d : decode cc pc = .ok (.invokestatic index, 3))
    (kk : ∀ v ad' ct' n', post v ad' ct' n' → G B nL E ad' ct' n' (k0 + mc) (s0 + ms) L (pc + 3) (v.toList ++ rest)) : G B nL E ad ct n k0 s0 L pc st0 := by
  intro ls H locs h w
  obtain ⟨fx1, fx2, fx3, rfl, fx4⟩ := id fx
  obtain ⟨⟨s1, s2, s3, s4⟩, s5⟩ := sl
  have hG := gGood s3
  have hts := fx1.2.2.2.2
  have hp : PreS E.s H (va_Pc As (fun U => U.heap.size = H.size ∧ va_P B.1 gcl (gw ad ct n) U.heap ∧ va_K B.1 gcl (gTy B.2.1) U ∧ va_D (fun _ => True) (gw ad ct n) ∧ gZ B (gA ad n H.size) U)) As := ⟨g_blind, g_pre fx w⟩
  subst hst
  rcases s1 with s1 | ⟨host, s1⟩
  · refine g_back fx h w (va_runS (As := As) (rest := rest) fx1 (hM H.size) ⟨callB_of na hts hG rfl rfl rfl (hts _ s2) (hts _ s1) s4 hR, hts _ s5⟩ hp rfl hna h.1 rfl (lv_room hW) d hf) kk
  · refine g_back fx h w (va_runSN (As := As) (rest := rest) fx1 (hM H.size) (host := host) ⟨va_cnB na hts hG rfl rfl rfl (fx4.2.2 _ s1) (hts _ s2) s4 hR, hts _ s5, trivial⟩ hp rfl hna h.1 rfl (lv_room hW) d hf) kk
theorem g_callI (fx : gFx B cc own nL rm E) {index maxL na fr lo mc ms b : Nat} {y : MethodName} {bytes : ByteArray} {post : gP} {As rest st0 : List Value}
    (sl : gIl own index y bytes maxL na) (hM : Ctr B y bytes maxL none fr lo mc ms ad ct n (.ref b :: As) post)
    (hst : st0 = As.reverse ++ .ref b :: rest) (hna : As.length = na) (hW : (rest.map fun v => v.category).sum ≤ 8) (hR : fr + 1 ≤ rm.frames ∧ 8 + (maxL + 11) + lo ≤ rm.locals) (hf : k0 + mc ≤ rm.cells ∧ s0 + ms ≤ rm.slots) (d : decode cc pc = .ok (.invokespecial index, 3))
    (kk : ∀ v ad' ct' n', post v ad' ct' n' → G B nL E ad' ct' n' (k0 + mc) (s0 + ms) L (pc + 3) (v.toList ++ rest)) : G B nL E ad ct n k0 s0 L pc st0 := by
  intro ls H locs h w
  obtain ⟨fx1, fx2, fx3, rfl, fx4⟩ := id fx
  obtain ⟨⟨s1, s2, s3, s4⟩, s5, s6⟩ := sl
  have hG := gGood s3
  have hts := fx1.2.2.2.2
  have hp : PreS E.s H (va_Pc (.ref b :: As) (fun U => U.heap.size = H.size ∧ va_P B.1 gcl (gw ad ct n) U.heap ∧ va_K B.1 gcl (gTy B.2.1) U ∧ va_D (fun _ => True) (gw ad ct n) ∧ gZ B (gA ad n H.size) U)) (.ref b :: As) := ⟨g_blind, g_pre fx w⟩
  subst hst
  rcases s1 with s1 | ⟨host, s1⟩
  · refine g_back fx h w (va_runI (As := As) (rest := rest) fx1 (hM H.size) ⟨callB_of na hts hG rfl rfl rfl (hts _ s2) (hts _ s1) s4 hR, s5, hts _ s6⟩ hp rfl hna h.1 rfl (lv_room hW) d hf) kk
  · refine g_back fx h w (va_runIN (As := As) (rest := rest) fx1 (hM H.size) (host := host) ⟨va_cnB na hts hG rfl rfl rfl (fx4.2.2 _ s1) (hts _ s2) s4 hR, s5, hts _ s6⟩ hp rfl hna h.1 rfl (lv_room hW) d hf) kk
/-- ends -/
theorem g_end {post : gP} {mc ms : Nat} {ret : Option FieldType} (rt : gRt B post mc ms ret E) {H : Heap} {locs : List Loc} (fx : gFx B cc own nL rm E) (w : gWd B E ad ct n H locs) {v : Option Value} (hp : post v ad ct n) : ∀ t : State, t.heap = H → E.s.WarmedH t.vm → gQ B post E.A E.args E.s (.returned v) t := by
  intro t ht hW
  exact ⟨⟨v, ad, ct, n, rfl, hp, by rw [ht]; exact w.1, va_K.moved hW.alike fx.2.1, w.2.1⟩, w.2.2.F ht⟩
theorem g_iret (fx : gFx B cc own nL rm E) {post : gP} {mc ms : Nat} (rt : gRt B post mc ms (some .int) E) {v : Int32} (d : decode cc pc = .ok (.ireturn, 1)) (hp : post (some (.int v)) ad ct n) : G B nL E ad ct n mc ms L pc [.int v] := by
  intro ls H locs h w
  rw [rt.1]
  exact W.iret fx.1.1 fx.1.2.1 rt.2.1 (g_end rt fx w hp) w.2.2.2.2 d rt.2.2
theorem g_zret (fx : gFx B cc own nL rm E) {post : gP} {mc ms : Nat} (rt : gRt B post mc ms (some .boolean) E) {v : Int32} (d : decode cc pc = .ok (.ireturn, 1)) (hn : narrow .boolean (.int v) = .int v) (hp : post (some (.int v)) ad ct n) : G B nL E ad ct n mc ms L pc [.int v] := by
  intro ls H locs h w
  rw [rt.1]
  exact W.zret fx.1.1 fx.1.2.1 rt.2.1 hn (g_end rt fx w hp) w.2.2.2.2 d rt.2.2
theorem g_lret (fx : gFx B cc own nL rm E) {post : gP} {mc ms : Nat} (rt : gRt B post mc ms (some .long) E) {v : Int64} (d : decode cc pc = .ok (.lreturn, 1)) (hp : post (some (.long v)) ad ct n) : G B nL E ad ct n mc ms L pc [.long v] := by
  intro ls H locs h w
  rw [rt.1]
  exact W.lret fx.1.1 fx.1.2.1 rt.2.1 (g_end rt fx w hp) w.2.2.2.2 d rt.2.2
theorem g_vret (fx : gFx B cc own nL rm E) {post : gP} {mc ms : Nat} (rt : gRt B post mc ms none E) (d : decode cc pc = .ok (.return_, 1)) (hp : post none ad ct n) : G B nL E ad ct n mc ms L pc [] := by
  intro ls H locs h w
  rw [rt.1]
  exact W.vret fx.1.1 fx.1.2.1 rt.2.1 (g_end rt fx w hp) w.2.2.2.2 d rt.2.2
theorem g_aret (fx : gFx B cc own nL rm E) {post : gP} {mc ms : Nat} {C : String} (rt : gRt B post mc ms (some (.object C)) E) {a : Nat} (d : decode cc pc = .ok (.areturn, 1)) (hp : post (some (.ref a)) ad ct n) : G B nL E ad ct n mc ms L pc [.ref a] := by
  intro ls H locs h w
  rw [rt.1]
  exact W.aret fx.1.1 fx.1.2.1 rt.2.1 (Or.inl ⟨C, rfl⟩) (Or.inr ⟨a, rfl⟩) (g_end rt fx w hp) w.2.2.2.2 d rt.2.2
theorem g_objInit (fx : gFx B cc own nL rm E) {index b : Nat} (h1 : Cond.methodLink own index Lib.objectInit ∈ gT0) (h2 : Cond.instanceMethod Lib.objectInit ∈ gT0) (h3 : Cond.code Lib.objectInit ⟨#[0xb1]⟩ 1 none ∈ gT0) (hR : 1 ≤ rm.frames) (hR2 : (st.map fun v => v.category).sum + 12 ≤ rm.locals) (d : decode cc pc = .ok (.invokespecial index, 3)) (kk : G B nL E ad ct n k0 s0 L (pc + 3) st) : G B nL E ad ct n k0 s0 L pc (.ref b :: st) := by
  intro ls H locs h w
  obtain ⟨fx1, fx2, fx3, rfl, fx4⟩ := id fx
  have hts := fx1.2.2.2.2
  exact W.objInit fx1.1 fx1.2.1 fx1.2.2.2.1 (hts _ h1) (hts _ h2) (hts _ h3) rfl (by rw [fx1.2.2.1]; exact h.1) rfl d hR (by simpa [F0, JFrame.monitorRoom] using hR2) (kk ls H locs h w)
theorem g_ldcw (fx : gFx B cc own nL rm E) {index : Nat} {v : Int32} (hc : Cond.constant own index v ∈ gT0) (d : decode cc pc = .ok (.ldc_w index, 3)) (k : G B nL E ad ct n k0 s0 L (pc + 3) (.int v :: st)) : G B nL E ad ct n k0 s0 L pc st :=
  fun ls H locs h w => lv_ldcw fx.1.1 fx.1.2.1 fx.1.2.2.2.1 (fx.1.2.2.2.2 _ hc) d (k ls H locs h w)
theorem g_i2b (fx : gFx B cc own nL rm E) {x : Int32} (d : decode cc pc = .ok (.i2b, 1)) (k : G B nL E ad ct n k0 s0 L (pc + 1) (.int x.toInt8.toInt32 :: st)) : G B nL E ad ct n k0 s0 L pc (.int x :: st) :=
  fun ls H locs h w => lv_i2b fx.1.1 fx.1.2.1 d rfl (k ls H locs h w)
theorem g_bald (fx : gFx B cc own nL rm E) {r N j : Nat} {f : Nat → Int32} {i : Int32} (hr : r < n) (hc : ct r = .inl (B.2.1 2, N, .inl f)) (hi : i.toInt = (j : Int)) (hj : j < N) (d : decode cc pc = .ok (.baload, 1)) (kk : G B nL E ad ct n k0 s0 L (pc + 1) (.int (f j) :: st)) : G B nL E ad ct n k0 s0 L pc (.int i :: .ref (ad r) :: st) := by
  intro ls H locs h w
  refine va_bald fx.1.1 fx.1.2.1 fx.2.1 w.1 r 2 (gw_atE hr hc) rfl (gIx hi hj) d ?_
  rw [gCl hi]
  exact kk ls H locs h w
theorem g_primes (fx : gFx B cc own nL rm E) {index : Nat} (hl : Cond.fieldLink own index "ExactTests$Fraction" "PRIMES" "[I" ∈ gT0) (d : decode cc pc = .ok (.getstatic index, 3)) (k : G B nL E ad ct n k0 s0 L (pc + 3) (.ref B.2.2.2 :: st)) : G B nL E ad ct n k0 s0 L pc st :=
  fun ls H locs h w => va_gets fx.1.1 fx.1.2.1 fx.2.2.2.2.1 w.2.2 fx.1.2.2.2.1 (fx.1.2.2.2.2 _ hl) (fun _ h9 => h9) d (k ls H locs h w)
theorem g_primeAt (fx : gFx B cc own nL rm E) {j : Nat} {i : Int32} (hi : i.toInt = (j : Int)) (hj : j < 17) (d : decode cc pc = .ok (.iaload, 1)) (kk : G B nL E ad ct n k0 s0 L (pc + 1) (.int (gPr j) :: st)) : G B nL E ad ct n k0 s0 L pc (.int i :: .ref B.2.2.2 :: st) := by
  intro ls H locs h w
  exact va_ti fx.1.1 fx.1.2.1 fx.2.2.2.2.2.1 w.2.2 (gIx hi hj) (by rw [gCl hi]) d (kk ls H locs h w)
theorem g_primesLen (fx : gFx B cc own nL rm E) (d : decode cc pc = .ok (.arraylength, 1)) (kk : G B nL E ad ct n k0 s0 L (pc + 1) (.int 17 :: st)) : G B nL E ad ct n k0 s0 L pc (.ref B.2.2.2 :: st) := by
  intro ls H locs h w
  exact va_tlen fx.1.1 fx.1.2.1 fx.2.2.2.2.2.1 w.2.2 rfl d (kk ls H locs h w)
end GR
theorem Ctr.ofG {B : gB} {y : MethodName} {cc : ByteArray} {nL : Nat} {ret : Option FieldType} {fr lo mc ms : Nat} {ad : Nat → Nat} {ct : Nat → va_E} {n : Nat} {As : List Value} {post : gP} {L : List (Nat × Value)} (hy : plainName y.cls = true) (hL : lv_args 0 As = L) (hn : (lg_sl As).length ≤ nL)
    (body : ∀ E : gE, gFx B cc y.cls nL { frames := fr, cells := mc, slots := ms, locals := lo } E → gRt B post mc ms ret E → E.meth.name = y.name → G B nL E ad ct n 0 0 L 0 []) : Ctr B y cc nL ret fr lo mc ms ad ct n As post := by
  intro sz
  refine Met.ofW (cc := cc) (maxL := nL) (ret := ret) hy rfl ?_
  intro p e s m args below meth c s₁ X hml hv
  obtain ⟨rfl, hsz, hP, hK, hD0, hZ⟩ := hv
  have hts := atoms_spec (ws := Cond.code y cc nL ret :: gT0) X.pre
  have hown : s.vm.findClass y.cls = some m.cls := findClass_of_methodNamed X.named
  have hl := lv_entry As (n := nL) hn
  rw [lg_entry_eq]
  rw [hL] at hl
  subst hsz
  have hD : va_D (gA ad n s.heap.size) (gw ad ct n) := ⟨hD0.1, fun k q hk => by
    obtain ⟨h1, rfl⟩ := gw_in hk
    exact Or.inl ⟨k, h1, rfl⟩⟩
  exact body ((p, e, _, s), (m, _, below, meth, c), (gA ad n s.heap.size, _)) ⟨⟨X.exec, X.bytes, hml, hown, fun w hw => hts w (List.mem_cons_of_mem _ hw)⟩, hK, fun q h => Or.inr h, rfl, hZ⟩ ⟨rfl, X.returns, X.notSynchronized⟩ (name_of_methodNamed X.named X.method).1 _ s.heap [] hl ⟨hP, hD, va_S.rf⟩
end
section
set_option maxRecDepth 20000 in
theorem inX0 : ∀ w ∈ u_ws RX0 TX0 5, w ∈ gT0 := by
  intro w hw
  obtain ⟨k, hk, rfl⟩ := List.mem_map.mp hw
  have hk := List.mem_range.mp hk
  match k, hk with
  | 0, _ => exact (gT0_tb 142 (by decide +kernel) rfl)
  | 1, _ => exact (gT0_tb 144 (by decide +kernel) rfl)
  | 2, _ => exact (gT0_tb 146 (by decide +kernel) rfl)
  | 3, _ => exact (gT0_tb 148 (by decide +kernel) rfl)
  | 4, _ => exact (gT0_tb 150 (by decide +kernel) rfl)
set_option maxRecDepth 20000 in
theorem inX1 : ∀ w ∈ u_ws RX1 TX1 4, w ∈ gT0 := by
  intro w hw
  obtain ⟨k, hk, rfl⟩ := List.mem_map.mp hw
  have hk := List.mem_range.mp hk
  match k, hk with
  | 0, _ => exact (gT0_tb 267 (by decide +kernel) rfl)
  | 1, _ => exact (gT0_tb 269 (by decide +kernel) rfl)
  | 2, _ => exact (gT0_tb 271 (by decide +kernel) rfl)
  | 3, _ => exact (gT0_tb 273 (by decide +kernel) rfl)
set_option maxRecDepth 20000 in
theorem inX2 : ∀ w ∈ u_ws RX2 TX2 2, w ∈ gT0 := by
  intro w hw
  obtain ⟨k, hk, rfl⟩ := List.mem_map.mp hw
  have hk := List.mem_range.mp hk
  match k, hk with
  | 0, _ => exact (gT0_tb 219 (by decide +kernel) rfl)
  | 1, _ => exact (gT0_tb 221 (by decide +kernel) rfl)
set_option maxRecDepth 20000 in
theorem inX3 : ∀ w ∈ u_ws RX3 TX3 3, w ∈ gT0 := by
  intro w hw
  obtain ⟨k, hk, rfl⟩ := List.mem_map.mp hw
  have hk := List.mem_range.mp hk
  match k, hk with
  | 0, _ => exact (gT0_tb 35 (by decide +kernel) rfl)
  | 1, _ => exact (gT0_tb 37 (by decide +kernel) rfl)
  | 2, _ => exact (gT0_tb 39 (by decide +kernel) rfl)
set_option maxRecDepth 20000 in
theorem inX4 : ∀ w ∈ u_ws RX4 TX4 3, w ∈ gT0 := by
  intro w hw
  obtain ⟨k, hk, rfl⟩ := List.mem_map.mp hw
  have hk := List.mem_range.mp hk
  match k, hk with
  | 0, _ => exact (gT0_tb 171 (by decide +kernel) rfl)
  | 1, _ => exact (gT0_tb 173 (by decide +kernel) rfl)
  | 2, _ => exact (gT0_tb 175 (by decide +kernel) rfl)
set_option maxRecDepth 20000 in
theorem inX5 : ∀ w ∈ u_ws RX5 TX5 2, w ∈ gT0 := by
  intro w hw
  obtain ⟨k, hk, rfl⟩ := List.mem_map.mp hw
  have hk := List.mem_range.mp hk
  match k, hk with
  | 0, _ => exact (gT0_tb 54 (by decide +kernel) rfl)
  | 1, _ => exact (gT0_tb 56 (by decide +kernel) rfl)
set_option maxRecDepth 20000 in
theorem inX6 : ∀ w ∈ u_ws RX6 TX6 5, w ∈ gT0 := by
  intro w hw
  obtain ⟨k, hk, rfl⟩ := List.mem_map.mp hw
  have hk := List.mem_range.mp hk
  match k, hk with
  | 0, _ => exact (gT0_tb 229 (by decide +kernel) rfl)
  | 1, _ => exact (gT0_tb 231 (by decide +kernel) rfl)
  | 2, _ => exact (gT0_tb 233 (by decide +kernel) rfl)
  | 3, _ => exact (gT0_tb 235 (by decide +kernel) rfl)
  | 4, _ => exact (gT0_tb 237 (by decide +kernel) rfl)
set_option maxRecDepth 20000 in
theorem inX7 : ∀ w ∈ u_ws RX7 TX7 2, w ∈ gT0 := by
  intro w hw
  obtain ⟨k, hk, rfl⟩ := List.mem_map.mp hw
  have hk := List.mem_range.mp hk
  match k, hk with
  | 0, _ => exact (gT0_tb 250 (by decide +kernel) rfl)
  | 1, _ => exact (gT0_tb 252 (by decide +kernel) rfl)
set_option maxRecDepth 20000 in
theorem inX8 : ∀ w ∈ u_ws RX8 TX8 7, w ∈ gT0 := by
  intro w hw
  obtain ⟨k, hk, rfl⟩ := List.mem_map.mp hw
  have hk := List.mem_range.mp hk
  match k, hk with
  | 0, _ => exact (gT0_tb 185 (by decide +kernel) rfl)
  | 1, _ => exact (gT0_tb 187 (by decide +kernel) rfl)
  | 2, _ => exact (gT0_tb 189 (by decide +kernel) rfl)
  | 3, _ => exact (gT0_tb 191 (by decide +kernel) rfl)
  | 4, _ => exact (gT0_tb 193 (by decide +kernel) rfl)
  | 5, _ => exact (gT0_tb 195 (by decide +kernel) rfl)
  | 6, _ => exact (gT0_tb 197 (by decide +kernel) rfl)
set_option maxRecDepth 20000 in
theorem inX9 : ∀ w ∈ u_ws RX9 TX9 15, w ∈ gT0 := by
  intro w hw
  obtain ⟨k, hk, rfl⟩ := List.mem_map.mp hw
  have hk := List.mem_range.mp hk
  match k, hk with
  | 0, _ => exact (gT0_tb 100 (by decide +kernel) rfl)
  | 1, _ => exact (gT0_tb 102 (by decide +kernel) rfl)
  | 2, _ => exact (gT0_tb 104 (by decide +kernel) rfl)
  | 3, _ => exact (gT0_tb 106 (by decide +kernel) rfl)
  | 4, _ => exact (gT0_tb 108 (by decide +kernel) rfl)
  | 5, _ => exact (gT0_tb 110 (by decide +kernel) rfl)
  | 6, _ => exact (gT0_tb 112 (by decide +kernel) rfl)
  | 7, _ => exact (gT0_tb 114 (by decide +kernel) rfl)
  | 8, _ => exact (gT0_tb 116 (by decide +kernel) rfl)
  | 9, _ => exact (gT0_tb 118 (by decide +kernel) rfl)
  | 10, _ => exact (gT0_tb 120 (by decide +kernel) rfl)
  | 11, _ => exact (gT0_tb 122 (by decide +kernel) rfl)
  | 12, _ => exact (gT0_tb 124 (by decide +kernel) rfl)
  | 13, _ => exact (gT0_tb 126 (by decide +kernel) rfl)
  | 14, _ => exact (gT0_tb 128 (by decide +kernel) rfl)
set_option maxRecDepth 20000 in
theorem inX10 : ∀ w ∈ u_ws RX10 TX10 2, w ∈ gT0 := by
  intro w hw
  obtain ⟨k, hk, rfl⟩ := List.mem_map.mp hw
  have hk := List.mem_range.mp hk
  match k, hk with
  | 0, _ => exact (gT0_tb 74 (by decide +kernel) rfl)
  | 1, _ => exact (gT0_tb 76 (by decide +kernel) rfl)
set_option maxRecDepth 20000 in
theorem inX11 : ∀ w ∈ u_ws RX11 TX11 11, w ∈ gT0 := by
  intro w hw
  obtain ⟨k, hk, rfl⟩ := List.mem_map.mp hw
  have hk := List.mem_range.mp hk
  match k, hk with
  | 0, _ => exact (gT0_tb 287 (by decide +kernel) rfl)
  | 1, _ => exact (gT0_tb 289 (by decide +kernel) rfl)
  | 2, _ => exact (gT0_tb 291 (by decide +kernel) rfl)
  | 3, _ => exact (gT0_tb 293 (by decide +kernel) rfl)
  | 4, _ => exact (gT0_tb 295 (by decide +kernel) rfl)
  | 5, _ => exact (gT0_tb 297 (by decide +kernel) rfl)
  | 6, _ => exact (gT0_tb 299 (by decide +kernel) rfl)
  | 7, _ => exact (gT0_tb 301 (by decide +kernel) rfl)
  | 8, _ => exact (gT0_tb 303 (by decide +kernel) rfl)
  | 9, _ => exact (gT0_tb 305 (by decide +kernel) rfl)
  | 10, _ => exact (gT0_tb 307 (by decide +kernel) rfl)
set_option maxRecDepth 20000 in
theorem inX12 : ∀ w ∈ u_ws RX12 TX12 47, w ∈ gT0 := by
  intro w hw
  obtain ⟨k, hk, rfl⟩ := List.mem_map.mp hw
  have hk := List.mem_range.mp hk
  match k, hk with
  | 0, _ => exact (gT0_tb 918 (by decide +kernel) rfl)
  | 1, _ => exact (gT0_tb 920 (by decide +kernel) rfl)
  | 2, _ => exact (gT0_tb 922 (by decide +kernel) rfl)
  | 3, _ => exact (gT0_tb 924 (by decide +kernel) rfl)
  | 4, _ => exact (gT0_tb 926 (by decide +kernel) rfl)
  | 5, _ => exact (gT0_tb 928 (by decide +kernel) rfl)
  | 6, _ => exact (gT0_tb 930 (by decide +kernel) rfl)
  | 7, _ => exact (gT0_tb 932 (by decide +kernel) rfl)
  | 8, _ => exact (gT0_tb 934 (by decide +kernel) rfl)
  | 9, _ => exact (gT0_tb 936 (by decide +kernel) rfl)
  | 10, _ => exact (gT0_tb 938 (by decide +kernel) rfl)
  | 11, _ => exact (gT0_tb 940 (by decide +kernel) rfl)
  | 12, _ => exact (gT0_tb 942 (by decide +kernel) rfl)
  | 13, _ => exact (gT0_tb 944 (by decide +kernel) rfl)
  | 14, _ => exact (gT0_tb 946 (by decide +kernel) rfl)
  | 15, _ => exact (gT0_tb 948 (by decide +kernel) rfl)
  | 16, _ => exact (gT0_tb 950 (by decide +kernel) rfl)
  | 17, _ => exact (gT0_tb 952 (by decide +kernel) rfl)
  | 18, _ => exact (gT0_tb 954 (by decide +kernel) rfl)
  | 19, _ => exact (gT0_tb 956 (by decide +kernel) rfl)
  | 20, _ => exact (gT0_tb 958 (by decide +kernel) rfl)
  | 21, _ => exact (gT0_tb 960 (by decide +kernel) rfl)
  | 22, _ => exact (gT0_tb 962 (by decide +kernel) rfl)
  | 23, _ => exact (gT0_tb 964 (by decide +kernel) rfl)
  | 24, _ => exact (gT0_tb 966 (by decide +kernel) rfl)
  | 25, _ => exact (gT0_tb 968 (by decide +kernel) rfl)
  | 26, _ => exact (gT0_tb 970 (by decide +kernel) rfl)
  | 27, _ => exact (gT0_tb 972 (by decide +kernel) rfl)
  | 28, _ => exact (gT0_tb 974 (by decide +kernel) rfl)
  | 29, _ => exact (gT0_tb 976 (by decide +kernel) rfl)
  | 30, _ => exact (gT0_tb 978 (by decide +kernel) rfl)
  | 31, _ => exact (gT0_tb 980 (by decide +kernel) rfl)
  | 32, _ => exact (gT0_tb 982 (by decide +kernel) rfl)
  | 33, _ => exact (gT0_tb 984 (by decide +kernel) rfl)
  | 34, _ => exact (gT0_tb 986 (by decide +kernel) rfl)
  | 35, _ => exact (gT0_tb 988 (by decide +kernel) rfl)
  | 36, _ => exact (gT0_tb 990 (by decide +kernel) rfl)
  | 37, _ => exact (gT0_tb 992 (by decide +kernel) rfl)
  | 38, _ => exact (gT0_tb 994 (by decide +kernel) rfl)
  | 39, _ => exact (gT0_tb 996 (by decide +kernel) rfl)
  | 40, _ => exact (gT0_tb 998 (by decide +kernel) rfl)
  | 41, _ => exact (gT0_tb 1000 (by decide +kernel) rfl)
  | 42, _ => exact (gT0_tb 1002 (by decide +kernel) rfl)
  | 43, _ => exact (gT0_tb 1004 (by decide +kernel) rfl)
  | 44, _ => exact (gT0_tb 1006 (by decide +kernel) rfl)
  | 45, _ => exact (gT0_tb 1008 (by decide +kernel) rfl)
  | 46, _ => exact (gT0_tb 1010 (by decide +kernel) rfl)
  | k + 47, hk => exact absurd hk (by omega)
theorem oiX0_1 : Cond.methodLink RX0 1 Lib.objectInit ∈ gT0 := (gT0_tb 136 (by decide +kernel) rfl)
theorem lpX0_7 : gLp RX0 7 0 0 (.array .long) false := ⟨RX0, TX0, 5, tyX0, rfl, by decide, inX0, tyX0_ok, nmX0, rfl, tyX0_ok 0 (by decide), rfl, (gT0_tb 137 (by decide +kernel) rfl)⟩
theorem lpX0_13 : gLp RX0 13 0 1 (.int) false := ⟨RX0, TX0, 5, tyX0, rfl, by decide, inX0, tyX0_ok, nmX0, rfl, tyX0_ok 1 (by decide), rfl, (gT0_tb 138 (by decide +kernel) rfl)⟩
theorem lpX0_17 : gLp RX0 17 0 2 (.int) false := ⟨RX0, TX0, 5, tyX0, rfl, by decide, inX0, tyX0_ok, nmX0, rfl, tyX0_ok 2 (by decide), rfl, (gT0_tb 139 (by decide +kernel) rfl)⟩
theorem lkX0_13 : gLk RX0 13 0 1 := ⟨RX0, TX0, 5, rfl, by decide, inX0, Or.inl (gT0_tb 138 (by decide +kernel) rfl)⟩
theorem lkX0_17 : gLk RX0 17 0 2 := ⟨RX0, TX0, 5, rfl, by decide, inX0, Or.inl (gT0_tb 139 (by decide +kernel) rfl)⟩
theorem lpX0_20 : gLp RX0 20 0 3 (.int) false := ⟨RX0, TX0, 5, tyX0, rfl, by decide, inX0, tyX0_ok, nmX0, rfl, tyX0_ok 3 (by decide), rfl, (gT0_tb 140 (by decide +kernel) rfl)⟩
theorem lpX0_23 : gLp RX0 23 0 4 (.int) false := ⟨RX0, TX0, 5, tyX0, rfl, by decide, inX0, tyX0_ok, nmX0, rfl, tyX0_ok 4 (by decide), rfl, (gT0_tb 141 (by decide +kernel) rfl)⟩
theorem lkX0_20 : gLk RX0 20 0 3 := ⟨RX0, TX0, 5, rfl, by decide, inX0, Or.inl (gT0_tb 140 (by decide +kernel) rfl)⟩
theorem lkX0_7 : gLk RX0 7 0 0 := ⟨RX0, TX0, 5, rfl, by decide, inX0, Or.inl (gT0_tb 137 (by decide +kernel) rfl)⟩
set_option maxRecDepth 100000 in
theorem slX0_26 : gSl RX0 26 yJ9_max_7cf53 cJ9_max_7cf53 2 (some .int) 2 := ⟨⟨Or.inl (gT0_tb 434 (by decide +kernel) rfl), (gT0_tb 4 (by decide +kernel) rfl), (gT0_tb 51 rfl rfl), by decide +kernel⟩, (gT0_tb 50 (by decide +kernel) rfl)⟩
theorem lkX0_23 : gLk RX0 23 0 4 := ⟨RX0, TX0, 5, rfl, by decide, inX0, Or.inl (gT0_tb 141 (by decide +kernel) rfl)⟩
set_option maxRecDepth 100000 in
theorem slX0_32 : gSl RX0 32 yJ9_min_7cf53 cJ9_min_7cf53 2 (some .int) 2 := ⟨⟨Or.inl (gT0_tb 503 (by decide +kernel) rfl), (gT0_tb 4 (by decide +kernel) rfl), (gT0_tb 407 rfl rfl), by decide +kernel⟩, (gT0_tb 406 (by decide +kernel) rfl)⟩
set_option maxRecDepth 100000 in
theorem slX0_35 : gVl RX0 35 yX0_has cX0_has 2 (some .boolean) 1 := ⟨⟨Or.inl (gT0_tb 671 (by decide +kernel) rfl), (gT0_tb 7 (by decide +kernel) rfl), (gT0_tb 662 rfl rfl), by decide +kernel⟩, (gT0_tb 660 (by decide +kernel) rfl), (gT0_tb 661 (by decide +kernel) rfl)⟩
set_option maxRecDepth 100000 in
theorem slX0_39 : gVl RX0 39 yX0_hasCell cX0_hasCell 3 (some .boolean) 2 := ⟨⟨Or.inl (gT0_tb 672 (by decide +kernel) rfl), (gT0_tb 7 (by decide +kernel) rfl), (gT0_tb 666 rfl rfl), by decide +kernel⟩, (gT0_tb 664 (by decide +kernel) rfl), (gT0_tb 665 (by decide +kernel) rfl)⟩
theorem oiX1_3 : Cond.methodLink RX1 3 Lib.objectInit ∈ gT0 := (gT0_tb 260 (by decide +kernel) rfl)
theorem clX1_9 : Cond.classLink RX1 9 RX2 ∈ gT0 := (gT0_tb 261 (by decide +kernel) rfl)
theorem lpX1_11 : gLp RX1 11 1 0 (.array (.object "ExactTests$Fraction")) true := ⟨RX1, TX1, 4, tyX1, rfl, by decide, inX1, tyX1_ok, nmX1, rfl, tyX1_ok 0 (by decide), rfl, (gT0_tb 263 (by decide +kernel) rfl)⟩
theorem lpX1_17 : gLp RX1 17 1 1 (.array .int) true := ⟨RX1, TX1, 4, tyX1, rfl, by decide, inX1, tyX1_ok, nmX1, rfl, tyX1_ok 1 (by decide), rfl, (gT0_tb 264 (by decide +kernel) rfl)⟩
theorem lpX1_21 : gLp RX1 21 1 2 (.object "ExactTests$Scale") true := ⟨RX1, TX1, 4, tyX1, rfl, by decide, inX1, tyX1_ok, nmX1, rfl, tyX1_ok 2 (by decide), rfl, (gT0_tb 265 (by decide +kernel) rfl)⟩
theorem lkX1_11 : gLk RX1 11 1 0 := ⟨RX1, TX1, 4, rfl, by decide, inX1, Or.inl (gT0_tb 263 (by decide +kernel) rfl)⟩
set_option maxRecDepth 100000 in
theorem slX1_25 : gIl RX1 25 yX2_init cX2_init 1 0 := ⟨⟨Or.inr ⟨"ExactTests", by decide +kernel⟩, (gT0_tb 11 (by decide +kernel) rfl), (gT0_tb 211 rfl rfl), by decide +kernel⟩, rfl, (gT0_tb 210 (by decide +kernel) rfl)⟩
theorem lkX1_26 : gLk RX1 26 1 3 := ⟨RX1, TX1, 4, rfl, by decide, inX1, Or.inl (gT0_tb 266 (by decide +kernel) rfl)⟩
theorem lpX1_26 : gLp RX1 26 1 3 (.int) false := ⟨RX1, TX1, 4, tyX1, rfl, by decide, inX1, tyX1_ok, nmX1, rfl, tyX1_ok 3 (by decide), rfl, (gT0_tb 266 (by decide +kernel) rfl)⟩
set_option maxRecDepth 100000 in
theorem slX1_30 : gVl RX1 30 yX1_isFull cX1_isFull 1 (some .boolean) 0 := ⟨⟨Or.inl (gT0_tb 784 (by decide +kernel) rfl), (gT0_tb 13 (by decide +kernel) rfl), (gT0_tb 779 rfl rfl), by decide +kernel⟩, (gT0_tb 777 (by decide +kernel) rfl), (gT0_tb 778 (by decide +kernel) rfl)⟩
set_option maxRecDepth 100000 in
theorem slX1_34 : gVl RX1 34 yX2_copy cX2_copy 2 none 1 := ⟨⟨Or.inl (gT0_tb 785 (by decide +kernel) rfl), (gT0_tb 11 (by decide +kernel) rfl), (gT0_tb 788 rfl rfl), by decide +kernel⟩, (gT0_tb 786 (by decide +kernel) rfl), (gT0_tb 787 (by decide +kernel) rfl)⟩
theorem lkX1_21 : gLk RX1 21 1 2 := ⟨RX1, TX1, 4, rfl, by decide, inX1, Or.inl (gT0_tb 265 (by decide +kernel) rfl)⟩
theorem lkX1_17 : gLk RX1 17 1 1 := ⟨RX1, TX1, 4, rfl, by decide, inX1, Or.inl (gT0_tb 264 (by decide +kernel) rfl)⟩
set_option maxRecDepth 100000 in
theorem slX1_38 : gVl RX1 38 yX7_compareChances cX7_compareChances 3 (some .int) 2 := ⟨⟨Or.inl (gT0_tb 789 (by decide +kernel) rfl), (gT0_tb 12 (by decide +kernel) rfl), (gT0_tb 792 rfl rfl), by decide +kernel⟩, (gT0_tb 790 (by decide +kernel) rfl), (gT0_tb 791 (by decide +kernel) rfl)⟩
set_option maxRecDepth 100000 in
theorem slX1_44 : gVl RX1 44 yX7_compareToLevel cX7_compareToLevel 6 (some .int) 3 := ⟨⟨Or.inl (gT0_tb 805 (by decide +kernel) rfl), (gT0_tb 12 (by decide +kernel) rfl), (gT0_tb 747 rfl rfl), by decide +kernel⟩, (gT0_tb 745 (by decide +kernel) rfl), (gT0_tb 746 (by decide +kernel) rfl)⟩
theorem oiX2_1 : Cond.methodLink RX2 1 Lib.objectInit ∈ gT0 := (gT0_tb 212 (by decide +kernel) rfl)
theorem clX2_7 : Cond.classLink RX2 7 RX10 ∈ gT0 := (gT0_tb 213 (by decide +kernel) rfl)
set_option maxRecDepth 100000 in
theorem slX2_9 : gIl RX2 9 yX10_init cX10_init 1 0 := ⟨⟨Or.inr ⟨"ExactTests", by decide +kernel⟩, (gT0_tb 6 (by decide +kernel) rfl), (gT0_tb 70 rfl rfl), by decide +kernel⟩, rfl, (gT0_tb 69 (by decide +kernel) rfl)⟩
theorem lpX2_10 : gLp RX2 10 2 0 (.object "ExactTests$Whole") true := ⟨RX2, TX2, 2, tyX2, rfl, by decide, inX2, tyX2_ok, nmX2, rfl, tyX2_ok 0 (by decide), rfl, (gT0_tb 215 (by decide +kernel) rfl)⟩
theorem lpX2_16 : gLp RX2 16 2 1 (.object "ExactTests$Whole") true := ⟨RX2, TX2, 2, tyX2, rfl, by decide, inX2, tyX2_ok, nmX2, rfl, tyX2_ok 1 (by decide), rfl, (gT0_tb 217 (by decide +kernel) rfl)⟩
theorem lkX2_10 : gLk RX2 10 2 0 := ⟨RX2, TX2, 2, rfl, by decide, inX2, Or.inl (gT0_tb 215 (by decide +kernel) rfl)⟩
set_option maxRecDepth 100000 in
theorem slX2_19 : gVl RX2 19 yX10_copy cX10_copy 3 none 1 := ⟨⟨Or.inl (gT0_tb 516 (by decide +kernel) rfl), (gT0_tb 6 (by decide +kernel) rfl), (gT0_tb 461 rfl rfl), by decide +kernel⟩, (gT0_tb 459 (by decide +kernel) rfl), (gT0_tb 460 (by decide +kernel) rfl)⟩
theorem lkX2_16 : gLk RX2 16 2 1 := ⟨RX2, TX2, 2, rfl, by decide, inX2, Or.inl (gT0_tb 217 (by decide +kernel) rfl)⟩
set_option maxRecDepth 100000 in
theorem slX2_23 : gVl RX2 23 yX2_reduce cX2_reduce 4 none 0 := ⟨⟨Or.inl (gT0_tb 517 (by decide +kernel) rfl), (gT0_tb 11 (by decide +kernel) rfl), (gT0_tb 520 rfl rfl), by decide +kernel⟩, (gT0_tb 519 (by decide +kernel) rfl), (gT0_sl 13 (by decide +kernel) rfl)⟩
set_option maxRecDepth 100000 in
theorem slX2_26 : gVl RX2 26 yX10_set cX10_set 3 none 1 := ⟨⟨Or.inl (gT0_tb 623 (by decide +kernel) rfl), (gT0_tb 6 (by decide +kernel) rfl), (gT0_tb 447 rfl rfl), by decide +kernel⟩, (gT0_tb 445 (by decide +kernel) rfl), (gT0_tb 446 (by decide +kernel) rfl)⟩
set_option maxRecDepth 100000 in
theorem slX2_30 : gVl RX2 30 yX10_countWords cX10_countWords 1 (some .int) 0 := ⟨⟨Or.inl (gT0_tb 831 (by decide +kernel) rfl), (gT0_tb 6 (by decide +kernel) rfl), (gT0_tb 834 rfl rfl), by decide +kernel⟩, (gT0_tb 832 (by decide +kernel) rfl), (gT0_tb 833 (by decide +kernel) rfl)⟩
set_option maxRecDepth 100000 in
theorem slX2_34 : gVl RX2 34 yX10_sixteenBits cX10_sixteenBits 3 (some .int) 1 := ⟨⟨Or.inl (gT0_tb 841 (by decide +kernel) rfl), (gT0_tb 6 (by decide +kernel) rfl), (gT0_tb 715 rfl rfl), by decide +kernel⟩, (gT0_tb 713 (by decide +kernel) rfl), (gT0_tb 714 (by decide +kernel) rfl)⟩
theorem stX2_38 : Cond.fieldLink RX2 38 "ExactTests$Fraction" "PRIMES" "[I" ∈ gT0 := (gT0_tb 521 (by decide +kernel) rfl)
set_option maxRecDepth 100000 in
theorem slX2_42 : gVl RX2 42 yX2_isCommon cX2_isCommon 2 (some .boolean) 1 := ⟨⟨Or.inl (gT0_tb 523 (by decide +kernel) rfl), (gT0_tb 11 (by decide +kernel) rfl), (gT0_tb 526 rfl rfl), by decide +kernel⟩, (gT0_tb 525 (by decide +kernel) rfl), (gT0_sl 14 (by decide +kernel) rfl)⟩
set_option maxRecDepth 100000 in
theorem slX2_46 : gVl RX2 46 yX10_divide cX10_divide 7 none 1 := ⟨⟨Or.inl (gT0_tb 531 (by decide +kernel) rfl), (gT0_tb 6 (by decide +kernel) rfl), (gT0_tb 534 rfl rfl), by decide +kernel⟩, (gT0_tb 532 (by decide +kernel) rfl), (gT0_tb 533 (by decide +kernel) rfl)⟩
set_option maxRecDepth 100000 in
theorem slX2_50 : gVl RX2 50 yX10_remainder cX10_remainder 5 (some .int) 1 := ⟨⟨Or.inl (gT0_tb 527 (by decide +kernel) rfl), (gT0_tb 6 (by decide +kernel) rfl), (gT0_tb 530 rfl rfl), by decide +kernel⟩, (gT0_tb 528 (by decide +kernel) rfl), (gT0_tb 529 (by decide +kernel) rfl)⟩
theorem oiX3_3 : Cond.methodLink RX3 3 Lib.objectInit ∈ gT0 := (gT0_tb 31 (by decide +kernel) rfl)
theorem lpX3_9 : gLp RX3 9 3 0 (.array .int) true := ⟨RX3, TX3, 3, tyX3, rfl, by decide, inX3, tyX3_ok, nmX3, rfl, tyX3_ok 0 (by decide), rfl, (gT0_tb 32 (by decide +kernel) rfl)⟩
theorem lpX3_15 : gLp RX3 15 3 1 (.int) false := ⟨RX3, TX3, 3, tyX3, rfl, by decide, inX3, tyX3_ok, nmX3, rfl, tyX3_ok 1 (by decide), rfl, (gT0_tb 33 (by decide +kernel) rfl)⟩
theorem lpX3_19 : gLp RX3 19 3 2 (.int) false := ⟨RX3, TX3, 3, tyX3, rfl, by decide, inX3, tyX3_ok, nmX3, rfl, tyX3_ok 2 (by decide), rfl, (gT0_tb 34 (by decide +kernel) rfl)⟩
theorem lkX3_9 : gLk RX3 9 3 0 := ⟨RX3, TX3, 3, rfl, by decide, inX3, Or.inl (gT0_tb 32 (by decide +kernel) rfl)⟩
theorem lkX3_15 : gLk RX3 15 3 1 := ⟨RX3, TX3, 3, rfl, by decide, inX3, Or.inl (gT0_tb 33 (by decide +kernel) rfl)⟩
theorem lkX3_19 : gLk RX3 19 3 2 := ⟨RX3, TX3, 3, rfl, by decide, inX3, Or.inl (gT0_tb 34 (by decide +kernel) rfl)⟩
set_option maxRecDepth 100000 in
theorem slX3_22 : gVl RX3 22 yX3_hasRow cX3_hasRow 2 (some .boolean) 1 := ⟨⟨Or.inl (gT0_tb 337 (by decide +kernel) rfl), (gT0_tb 2 (by decide +kernel) rfl), (gT0_tb 328 rfl rfl), by decide +kernel⟩, (gT0_tb 326 (by decide +kernel) rfl), (gT0_tb 327 (by decide +kernel) rfl)⟩
set_option maxRecDepth 100000 in
theorem slX3_26 : gVl RX3 26 yX3_hasColumn cX3_hasColumn 2 (some .boolean) 1 := ⟨⟨Or.inl (gT0_tb 338 (by decide +kernel) rfl), (gT0_tb 2 (by decide +kernel) rfl), (gT0_tb 332 rfl rfl), by decide +kernel⟩, (gT0_tb 330 (by decide +kernel) rfl), (gT0_tb 331 (by decide +kernel) rfl)⟩
set_option maxRecDepth 100000 in
theorem slX3_29 : gVl RX3 29 yX3_at cX3_at 3 (some .int) 2 := ⟨⟨Or.inl (gT0_tb 355 (by decide +kernel) rfl), (gT0_tb 2 (by decide +kernel) rfl), (gT0_tb 336 rfl rfl), by decide +kernel⟩, (gT0_tb 334 (by decide +kernel) rfl), (gT0_tb 335 (by decide +kernel) rfl)⟩
theorem oiX4_1 : Cond.methodLink RX4 1 Lib.objectInit ∈ gT0 := (gT0_tb 164 (by decide +kernel) rfl)
theorem lpX4_7 : gLp RX4 7 4 0 (.array .int) false := ⟨RX4, TX4, 3, tyX4, rfl, by decide, inX4, tyX4_ok, nmX4, rfl, tyX4_ok 0 (by decide), rfl, (gT0_tb 165 (by decide +kernel) rfl)⟩
theorem lpX4_13 : gLp RX4 13 4 1 (.array .int) false := ⟨RX4, TX4, 3, tyX4, rfl, by decide, inX4, tyX4_ok, nmX4, rfl, tyX4_ok 1 (by decide), rfl, (gT0_tb 167 (by decide +kernel) rfl)⟩
theorem lkX4_7 : gLk RX4 7 4 0 := ⟨RX4, TX4, 3, rfl, by decide, inX4, Or.inl (gT0_tb 165 (by decide +kernel) rfl)⟩
theorem lkX4_13 : gLk RX4 13 4 1 := ⟨RX4, TX4, 3, rfl, by decide, inX4, Or.inl (gT0_tb 167 (by decide +kernel) rfl)⟩
theorem lpX4_16 : gLp RX4 16 4 2 (.int) false := ⟨RX4, TX4, 3, tyX4, rfl, by decide, inX4, tyX4_ok, nmX4, rfl, tyX4_ok 2 (by decide), rfl, (gT0_tb 169 (by decide +kernel) rfl)⟩
theorem lkX4_16 : gLk RX4 16 4 2 := ⟨RX4, TX4, 3, rfl, by decide, inX4, Or.inl (gT0_tb 169 (by decide +kernel) rfl)⟩
theorem kcX4_20 : Cond.constant RX4 20 (32768) ∈ gT0 := (gT0_tb 593 (by decide +kernel) rfl)
set_option maxRecDepth 100000 in
theorem slX4_21 : gVl RX4 21 yX4_makeRoom cX4_makeRoom 5 none 1 := ⟨⟨Or.inl (gT0_tb 594 (by decide +kernel) rfl), (gT0_tb 9 (by decide +kernel) rfl), (gT0_tb 597 rfl rfl), by decide +kernel⟩, (gT0_tb 596 (by decide +kernel) rfl), (gT0_sl 18 (by decide +kernel) rfl)⟩
theorem oiX4_25 : Cond.methodLink RX4 25 arraycopyName ∈ gT0 := (gT0_tb 600 (by decide +kernel) rfl)
set_option maxRecDepth 100000 in
theorem slX4_31 : gSl RX4 31 yJ9_min_7cf53 cJ9_min_7cf53 2 (some .int) 2 := ⟨⟨Or.inl (gT0_tb 598 (by decide +kernel) rfl), (gT0_tb 4 (by decide +kernel) rfl), (gT0_tb 407 rfl rfl), by decide +kernel⟩, (gT0_tb 406 (by decide +kernel) rfl)⟩
set_option maxRecDepth 100000 in
theorem slX4_37 : gSl RX4 37 yJ9_max_7cf53 cJ9_max_7cf53 2 (some .int) 2 := ⟨⟨Or.inl (gT0_tb 599 (by decide +kernel) rfl), (gT0_tb 4 (by decide +kernel) rfl), (gT0_tb 51 rfl rfl), by decide +kernel⟩, (gT0_tb 50 (by decide +kernel) rfl)⟩
theorem oiX5_1 : Cond.methodLink RX5 1 Lib.objectInit ∈ gT0 := (gT0_tb 48 (by decide +kernel) rfl)
set_option maxRecDepth 100000 in
theorem slX5_7 : gSl RX5 7 yJ9_max_7cf53 cJ9_max_7cf53 2 (some .int) 2 := ⟨⟨Or.inl (gT0_tb 49 (by decide +kernel) rfl), (gT0_tb 4 (by decide +kernel) rfl), (gT0_tb 51 rfl rfl), by decide +kernel⟩, (gT0_tb 50 (by decide +kernel) rfl)⟩
theorem lpX5_13 : gLp RX5 13 5 0 (.array .int) true := ⟨RX5, TX5, 2, tyX5, rfl, by decide, inX5, tyX5_ok, nmX5, rfl, tyX5_ok 0 (by decide), rfl, (gT0_tb 52 (by decide +kernel) rfl)⟩
theorem lkX5_19 : gLk RX5 19 5 1 := ⟨RX5, TX5, 2, rfl, by decide, inX5, Or.inl (gT0_tb 53 (by decide +kernel) rfl)⟩
theorem lkX5_13 : gLk RX5 13 5 0 := ⟨RX5, TX5, 2, rfl, by decide, inX5, Or.inl (gT0_tb 52 (by decide +kernel) rfl)⟩
set_option maxRecDepth 100000 in
theorem slX5_23 : gVl RX5 23 yX5_has cX5_has 2 (some .boolean) 1 := ⟨⟨Or.inl (gT0_tb 566 (by decide +kernel) rfl), (gT0_tb 3 (by decide +kernel) rfl), (gT0_tb 569 rfl rfl), by decide +kernel⟩, (gT0_tb 567 (by decide +kernel) rfl), (gT0_tb 568 (by decide +kernel) rfl)⟩
set_option maxRecDepth 100000 in
theorem slX5_27 : gVl RX5 27 yX5_isFull cX5_isFull 1 (some .boolean) 0 := ⟨⟨Or.inl (gT0_tb 372 (by decide +kernel) rfl), (gT0_tb 3 (by decide +kernel) rfl), (gT0_tb 367 rfl rfl), by decide +kernel⟩, (gT0_tb 365 (by decide +kernel) rfl), (gT0_tb 366 (by decide +kernel) rfl)⟩
theorem lpX5_19 : gLp RX5 19 5 1 (.int) false := ⟨RX5, TX5, 2, tyX5, rfl, by decide, inX5, tyX5_ok, nmX5, rfl, tyX5_ok 1 (by decide), rfl, (gT0_tb 53 (by decide +kernel) rfl)⟩
theorem oiX6_3 : Cond.methodLink RX6 3 Lib.objectInit ∈ gT0 := (gT0_tb 205 (by decide +kernel) rfl)
theorem clX6_9 : Cond.classLink RX6 9 RX2 ∈ gT0 := (gT0_tb 206 (by decide +kernel) rfl)
theorem lpX6_11 : gLp RX6 11 6 0 (.array (.object "ExactTests$Fraction")) true := ⟨RX6, TX6, 5, tyX6, rfl, by decide, inX6, tyX6_ok, nmX6, rfl, tyX6_ok 0 (by decide), rfl, (gT0_tb 224 (by decide +kernel) rfl)⟩
theorem lkX6_11 : gLk RX6 11 6 0 := ⟨RX6, TX6, 5, rfl, by decide, inX6, Or.inl (gT0_tb 224 (by decide +kernel) rfl)⟩
set_option maxRecDepth 100000 in
theorem slX6_17 : gIl RX6 17 yX2_init cX2_init 1 0 := ⟨⟨Or.inr ⟨"ExactTests", by decide +kernel⟩, (gT0_tb 11 (by decide +kernel) rfl), (gT0_tb 211 rfl rfl), by decide +kernel⟩, rfl, (gT0_tb 210 (by decide +kernel) rfl)⟩
theorem lpX6_18 : gLp RX6 18 6 1 (.boolean) false := ⟨RX6, TX6, 5, tyX6, rfl, by decide, inX6, tyX6_ok, nmX6, rfl, tyX6_ok 1 (by decide), rfl, (gT0_tb 225 (by decide +kernel) rfl)⟩
theorem lpX6_22 : gLp RX6 22 6 2 (.int) false := ⟨RX6, TX6, 5, tyX6, rfl, by decide, inX6, tyX6_ok, nmX6, rfl, tyX6_ok 2 (by decide), rfl, (gT0_tb 226 (by decide +kernel) rfl)⟩
theorem lpX6_26 : gLp RX6 26 6 3 (.int) false := ⟨RX6, TX6, 5, tyX6, rfl, by decide, inX6, tyX6_ok, nmX6, rfl, tyX6_ok 3 (by decide), rfl, (gT0_tb 227 (by decide +kernel) rfl)⟩
theorem lpX6_29 : gLp RX6 29 6 4 (.int) false := ⟨RX6, TX6, 5, tyX6, rfl, by decide, inX6, tyX6_ok, nmX6, rfl, tyX6_ok 4 (by decide), rfl, (gT0_tb 228 (by decide +kernel) rfl)⟩
theorem lkX6_18 : gLk RX6 18 6 1 := ⟨RX6, TX6, 5, rfl, by decide, inX6, Or.inl (gT0_tb 225 (by decide +kernel) rfl)⟩
theorem lkX6_22 : gLk RX6 22 6 2 := ⟨RX6, TX6, 5, rfl, by decide, inX6, Or.inl (gT0_tb 226 (by decide +kernel) rfl)⟩
theorem lkX6_26 : gLk RX6 26 6 3 := ⟨RX6, TX6, 5, rfl, by decide, inX6, Or.inl (gT0_tb 227 (by decide +kernel) rfl)⟩
theorem lkX6_29 : gLk RX6 29 6 4 := ⟨RX6, TX6, 5, rfl, by decide, inX6, Or.inl (gT0_tb 228 (by decide +kernel) rfl)⟩
theorem oiX7_1 : Cond.methodLink RX7 1 Lib.objectInit ∈ gT0 := (gT0_tb 245 (by decide +kernel) rfl)
theorem clX7_7 : Cond.classLink RX7 7 RX10 ∈ gT0 := (gT0_tb 246 (by decide +kernel) rfl)
set_option maxRecDepth 100000 in
theorem slX7_9 : gIl RX7 9 yX10_init cX10_init 1 0 := ⟨⟨Or.inr ⟨"ExactTests", by decide +kernel⟩, (gT0_tb 6 (by decide +kernel) rfl), (gT0_tb 70 rfl rfl), by decide +kernel⟩, rfl, (gT0_tb 69 (by decide +kernel) rfl)⟩
theorem lpX7_10 : gLp RX7 10 7 0 (.object "ExactTests$Whole") true := ⟨RX7, TX7, 2, tyX7, rfl, by decide, inX7, tyX7_ok, nmX7, rfl, tyX7_ok 0 (by decide), rfl, (gT0_tb 248 (by decide +kernel) rfl)⟩
theorem lpX7_16 : gLp RX7 16 7 1 (.object "ExactTests$Whole") true := ⟨RX7, TX7, 2, tyX7, rfl, by decide, inX7, tyX7_ok, nmX7, rfl, tyX7_ok 1 (by decide), rfl, (gT0_tb 249 (by decide +kernel) rfl)⟩
theorem lkX7_10 : gLk RX7 10 7 0 := ⟨RX7, TX7, 2, rfl, by decide, inX7, Or.inl (gT0_tb 248 (by decide +kernel) rfl)⟩
theorem lkX7_19 : gLk RX7 19 2 0 := ⟨RX2, TX2, 2, rfl, by decide, inX2, Or.inr ⟨_, (by decide +kernel : Cond.fieldLinkNest "ExactTests$Scale" 19 "ExactTests$Fraction" "upper" "LExactTests$Whole;" "ExactTests" ∈ gN)⟩⟩
theorem lkX7_24 : gLk RX7 24 2 1 := ⟨RX2, TX2, 2, rfl, by decide, inX2, Or.inr ⟨_, (by decide +kernel : Cond.fieldLinkNest "ExactTests$Scale" 24 "ExactTests$Fraction" "lower" "LExactTests$Whole;" "ExactTests" ∈ gN)⟩⟩
set_option maxRecDepth 100000 in
theorem slX7_27 : gVl RX7 27 yX10_setProductOf cX10_setProductOf 4 none 2 := ⟨⟨Or.inl (gT0_tb 793 (by decide +kernel) rfl), (gT0_tb 6 (by decide +kernel) rfl), (gT0_tb 796 rfl rfl), by decide +kernel⟩, (gT0_tb 794 (by decide +kernel) rfl), (gT0_tb 795 (by decide +kernel) rfl)⟩
theorem lkX7_16 : gLk RX7 16 7 1 := ⟨RX7, TX7, 2, rfl, by decide, inX7, Or.inl (gT0_tb 249 (by decide +kernel) rfl)⟩
set_option maxRecDepth 100000 in
theorem slX7_31 : gVl RX7 31 yX10_compare cX10_compare 3 (some .int) 1 := ⟨⟨Or.inl (gT0_tb 729 (by decide +kernel) rfl), (gT0_tb 6 (by decide +kernel) rfl), (gT0_tb 493 rfl rfl), by decide +kernel⟩, (gT0_tb 491 (by decide +kernel) rfl), (gT0_tb 492 (by decide +kernel) rfl)⟩
set_option maxRecDepth 100000 in
theorem slX7_35 : gVl RX7 35 yX10_setProduct cX10_setProduct 6 none 2 := ⟨⟨Or.inl (gT0_tb 735 (by decide +kernel) rfl), (gT0_tb 6 (by decide +kernel) rfl), (gT0_tb 469 rfl rfl), by decide +kernel⟩, (gT0_tb 467 (by decide +kernel) rfl), (gT0_tb 468 (by decide +kernel) rfl)⟩
set_option maxRecDepth 100000 in
theorem slX7_39 : gVl RX7 39 yX10_copy cX10_copy 3 none 1 := ⟨⟨Or.inl (gT0_tb 725 (by decide +kernel) rfl), (gT0_tb 6 (by decide +kernel) rfl), (gT0_tb 461 rfl rfl), by decide +kernel⟩, (gT0_tb 459 (by decide +kernel) rfl), (gT0_tb 460 (by decide +kernel) rfl)⟩
set_option maxRecDepth 100000 in
theorem slX7_43 : gSl RX7 43 yX7_takeOut cX7_takeOut 3 (some .int) 2 := ⟨⟨Or.inl (gT0_tb 726 (by decide +kernel) rfl), (gT0_tb 12 (by decide +kernel) rfl), (gT0_tb 728 rfl rfl), by decide +kernel⟩, (gT0_tb 727 (by decide +kernel) rfl)⟩
theorem kcX7_47 : Cond.constantLong RX7 47 (10) ∈ gT0 := (gT0_tb 734 (by decide +kernel) rfl)
set_option maxRecDepth 100000 in
theorem slX7_49 : gVl RX7 49 yX10_subtract cX10_subtract 7 none 1 := ⟨⟨Or.inl (gT0_tb 730 (by decide +kernel) rfl), (gT0_tb 6 (by decide +kernel) rfl), (gT0_tb 733 rfl rfl), by decide +kernel⟩, (gT0_tb 731 (by decide +kernel) rfl), (gT0_tb 732 (by decide +kernel) rfl)⟩
theorem oiX8_1 : Cond.methodLink RX8 1 Lib.objectInit ∈ gT0 := (gT0_tb 158 (by decide +kernel) rfl)
theorem clX8_7 : Cond.classLink RX8 7 RX4 ∈ gT0 := (gT0_tb 159 (by decide +kernel) rfl)
set_option maxRecDepth 100000 in
theorem slX8_9 : gIl RX8 9 yX4_init cX4_init 1 0 := ⟨⟨Or.inr ⟨"ExactTests", by decide +kernel⟩, (gT0_tb 9 (by decide +kernel) rfl), (gT0_tb 163 rfl rfl), by decide +kernel⟩, rfl, (gT0_tb 162 (by decide +kernel) rfl)⟩
theorem lpX8_10 : gLp RX8 10 8 0 (.object "ExactTests$HalfSums") true := ⟨RX8, TX8, 7, tyX8, rfl, by decide, inX8, tyX8_ok, nmX8, rfl, tyX8_ok 0 (by decide), rfl, (gT0_tb 178 (by decide +kernel) rfl)⟩
theorem lpX8_16 : gLp RX8 16 8 1 (.object "ExactTests$HalfSums") true := ⟨RX8, TX8, 7, tyX8, rfl, by decide, inX8, tyX8_ok, nmX8, rfl, tyX8_ok 1 (by decide), rfl, (gT0_tb 179 (by decide +kernel) rfl)⟩
set_option maxRecDepth 100000 in
theorem slX8_19 : gVl RX8 19 yX8_begin cX8_begin 1 none 0 := ⟨⟨Or.inl (gT0_tb 549 (by decide +kernel) rfl), (gT0_tb 8 (by decide +kernel) rfl), (gT0_tb 552 rfl rfl), by decide +kernel⟩, (gT0_tb 551 (by decide +kernel) rfl), (gT0_sl 15 (by decide +kernel) rfl)⟩
theorem kcX8_22 : Cond.constant RX8 22 (131072) ∈ gT0 := (gT0_tb 557 (by decide +kernel) rfl)
theorem lpX8_23 : gLp RX8 23 8 3 (.int) false := ⟨RX8, TX8, 7, tyX8, rfl, by decide, inX8, tyX8_ok, nmX8, rfl, tyX8_ok 3 (by decide), rfl, (gT0_tb 181 (by decide +kernel) rfl)⟩
theorem lpX8_27 : gLp RX8 27 8 4 (.int) false := ⟨RX8, TX8, 7, tyX8, rfl, by decide, inX8, tyX8_ok, nmX8, rfl, tyX8_ok 4 (by decide), rfl, (gT0_tb 182 (by decide +kernel) rfl)⟩
theorem lpX8_30 : gLp RX8 30 8 5 (.long) false := ⟨RX8, TX8, 7, tyX8, rfl, by decide, inX8, tyX8_ok, nmX8, rfl, tyX8_ok 5 (by decide), rfl, (gT0_tb 183 (by decide +kernel) rfl)⟩
theorem lpX8_34 : gLp RX8 34 8 6 (.long) false := ⟨RX8, TX8, 7, tyX8, rfl, by decide, inX8, tyX8_ok, nmX8, rfl, tyX8_ok 6 (by decide), rfl, (gT0_tb 184 (by decide +kernel) rfl)⟩
theorem lkX8_30 : gLk RX8 30 8 5 := ⟨RX8, TX8, 7, rfl, by decide, inX8, Or.inl (gT0_tb 183 (by decide +kernel) rfl)⟩
theorem lkX8_34 : gLk RX8 34 8 6 := ⟨RX8, TX8, 7, rfl, by decide, inX8, Or.inl (gT0_tb 184 (by decide +kernel) rfl)⟩
theorem lkX8_10 : gLk RX8 10 8 0 := ⟨RX8, TX8, 7, rfl, by decide, inX8, Or.inl (gT0_tb 178 (by decide +kernel) rfl)⟩
set_option maxRecDepth 100000 in
theorem slX8_37 : gVl RX8 37 yX4_begin cX4_begin 1 none 0 := ⟨⟨Or.inl (gT0_tb 553 (by decide +kernel) rfl), (gT0_tb 9 (by decide +kernel) rfl), (gT0_tb 556 rfl rfl), by decide +kernel⟩, (gT0_tb 554 (by decide +kernel) rfl), (gT0_tb 555 (by decide +kernel) rfl)⟩
theorem lkX8_16 : gLk RX8 16 8 1 := ⟨RX8, TX8, 7, rfl, by decide, inX8, Or.inl (gT0_tb 179 (by decide +kernel) rfl)⟩
theorem lpX8_38 : gLp RX8 38 8 2 (.boolean) false := ⟨RX8, TX8, 7, tyX8, rfl, by decide, inX8, tyX8_ok, nmX8, rfl, tyX8_ok 2 (by decide), rfl, (gT0_tb 180 (by decide +kernel) rfl)⟩
theorem lkX8_38 : gLk RX8 38 8 2 := ⟨RX8, TX8, 7, rfl, by decide, inX8, Or.inl (gT0_tb 180 (by decide +kernel) rfl)⟩
theorem lkX8_23 : gLk RX8 23 8 3 := ⟨RX8, TX8, 7, rfl, by decide, inX8, Or.inl (gT0_tb 181 (by decide +kernel) rfl)⟩
set_option maxRecDepth 100000 in
theorem slX8_42 : gVl RX8 42 yX4_take cX4_take 10 none 1 := ⟨⟨Or.inl (gT0_tb 589 (by decide +kernel) rfl), (gT0_tb 9 (by decide +kernel) rfl), (gT0_tb 592 rfl rfl), by decide +kernel⟩, (gT0_tb 590 (by decide +kernel) rfl), (gT0_tb 591 (by decide +kernel) rfl)⟩
theorem lkX8_27 : gLk RX8 27 8 4 := ⟨RX8, TX8, 7, rfl, by decide, inX8, Or.inl (gT0_tb 182 (by decide +kernel) rfl)⟩
theorem lkX8_46 : gLk RX8 46 4 2 := ⟨RX4, TX4, 3, rfl, by decide, inX4, Or.inr ⟨_, (by decide +kernel : Cond.fieldLinkNest "ExactTests$Sums" 46 "ExactTests$HalfSums" "size" "I" "ExactTests" ∈ gN)⟩⟩
theorem lkX8_49 : gLk RX8 49 4 1 := ⟨RX4, TX4, 3, rfl, by decide, inX4, Or.inr ⟨_, (by decide +kernel : Cond.fieldLinkNest "ExactTests$Sums" 49 "ExactTests$HalfSums" "times" "[I" "ExactTests" ∈ gN)⟩⟩
theorem lkX8_53 : gLk RX8 53 4 0 := ⟨RX4, TX4, 3, rfl, by decide, inX4, Or.inr ⟨_, (by decide +kernel : Cond.fieldLinkNest "ExactTests$Sums" 53 "ExactTests$HalfSums" "sums" "[I" "ExactTests" ∈ gN)⟩⟩
theorem oiX9_3 : Cond.methodLink RX9 3 Lib.objectInit ∈ gT0 := (gT0_tb 64 (by decide +kernel) rfl)
theorem lpX9_9 : gLp RX9 9 9 0 (.array .long) true := ⟨RX9, TX9, 15, tyX9, rfl, by decide, inX9, tyX9_ok, nmX9, rfl, tyX9_ok 0 (by decide), rfl, (gT0_tb 80 (by decide +kernel) rfl)⟩
theorem lpX9_15 : gLp RX9 15 9 1 (.array .int) true := ⟨RX9, TX9, 15, tyX9, rfl, by decide, inX9, tyX9_ok, nmX9, rfl, tyX9_ok 1 (by decide), rfl, (gT0_tb 81 (by decide +kernel) rfl)⟩
theorem lpX9_19 : gLp RX9 19 9 2 (.array .int) true := ⟨RX9, TX9, 15, tyX9, rfl, by decide, inX9, tyX9_ok, nmX9, rfl, tyX9_ok 2 (by decide), rfl, (gT0_tb 82 (by decide +kernel) rfl)⟩
theorem lpX9_22 : gLp RX9 22 9 3 (.array .int) true := ⟨RX9, TX9, 15, tyX9, rfl, by decide, inX9, tyX9_ok, nmX9, rfl, tyX9_ok 3 (by decide), rfl, (gT0_tb 83 (by decide +kernel) rfl)⟩
theorem clX9_25 : Cond.classLink RX9 25 RX10 ∈ gT0 := (gT0_tb 65 (by decide +kernel) rfl)
theorem lpX9_27 : gLp RX9 27 9 4 (.array (.object "ExactTests$Whole")) true := ⟨RX9, TX9, 15, tyX9, rfl, by decide, inX9, tyX9_ok, nmX9, rfl, tyX9_ok 4 (by decide), rfl, (gT0_tb 84 (by decide +kernel) rfl)⟩
set_option maxRecDepth 100000 in
theorem slX9_31 : gIl RX9 31 yX10_init cX10_init 1 0 := ⟨⟨Or.inr ⟨"ExactTests", by decide +kernel⟩, (gT0_tb 6 (by decide +kernel) rfl), (gT0_tb 70 rfl rfl), by decide +kernel⟩, rfl, (gT0_tb 69 (by decide +kernel) rfl)⟩
theorem lpX9_32 : gLp RX9 32 9 10 (.object "ExactTests$Whole") true := ⟨RX9, TX9, 15, tyX9, rfl, by decide, inX9, tyX9_ok, nmX9, rfl, tyX9_ok 10 (by decide), rfl, (gT0_tb 90 (by decide +kernel) rfl)⟩
theorem lpX9_36 : gLp RX9 36 9 11 (.object "ExactTests$Whole") true := ⟨RX9, TX9, 15, tyX9, rfl, by decide, inX9, tyX9_ok, nmX9, rfl, tyX9_ok 11 (by decide), rfl, (gT0_tb 92 (by decide +kernel) rfl)⟩
theorem lpX9_39 : gLp RX9 39 9 12 (.object "ExactTests$Whole") true := ⟨RX9, TX9, 15, tyX9, rfl, by decide, inX9, tyX9_ok, nmX9, rfl, tyX9_ok 12 (by decide), rfl, (gT0_tb 94 (by decide +kernel) rfl)⟩
theorem lpX9_42 : gLp RX9 42 9 13 (.object "ExactTests$Whole") true := ⟨RX9, TX9, 15, tyX9, rfl, by decide, inX9, tyX9_ok, nmX9, rfl, tyX9_ok 13 (by decide), rfl, (gT0_tb 96 (by decide +kernel) rfl)⟩
theorem lpX9_45 : gLp RX9 45 9 14 (.object "ExactTests$Whole") true := ⟨RX9, TX9, 15, tyX9, rfl, by decide, inX9, tyX9_ok, nmX9, rfl, tyX9_ok 14 (by decide), rfl, (gT0_tb 98 (by decide +kernel) rfl)⟩
theorem lkX9_27 : gLk RX9 27 9 4 := ⟨RX9, TX9, 15, rfl, by decide, inX9, Or.inl (gT0_tb 84 (by decide +kernel) rfl)⟩
theorem lkX9_9 : gLk RX9 9 9 0 := ⟨RX9, TX9, 15, rfl, by decide, inX9, Or.inl (gT0_tb 80 (by decide +kernel) rfl)⟩
set_option maxRecDepth 100000 in
theorem slX9_48 : gVl RX9 48 yX9_begin cX9_begin 3 none 1 := ⟨⟨Or.inl (gT0_tb 397 (by decide +kernel) rfl), (gT0_tb 5 (by decide +kernel) rfl), (gT0_tb 400 rfl rfl), by decide +kernel⟩, (gT0_tb 399 (by decide +kernel) rfl), (gT0_sl 0 (by decide +kernel) rfl)⟩
theorem lpX9_52 : gLp RX9 52 9 8 (.int) false := ⟨RX9, TX9, 15, tyX9, rfl, by decide, inX9, tyX9_ok, nmX9, rfl, tyX9_ok 8 (by decide), rfl, (gT0_tb 88 (by decide +kernel) rfl)⟩
set_option maxRecDepth 100000 in
theorem slX9_56 : gVl RX9 56 yX9_countRow cX9_countRow 2 none 1 := ⟨⟨Or.inl (gT0_tb 415 (by decide +kernel) rfl), (gT0_tb 5 (by decide +kernel) rfl), (gT0_tb 418 rfl rfl), by decide +kernel⟩, (gT0_tb 417 (by decide +kernel) rfl), (gT0_sl 1 (by decide +kernel) rfl)⟩
theorem lkX9_52 : gLk RX9 52 9 8 := ⟨RX9, TX9, 15, rfl, by decide, inX9, Or.inl (gT0_tb 88 (by decide +kernel) rfl)⟩
set_option maxRecDepth 100000 in
theorem slX9_60 : gVl RX9 60 yX3_inAll cX3_inAll 3 (some .int) 0 := ⟨⟨Or.inl (gT0_tb 439 (by decide +kernel) rfl), (gT0_tb 2 (by decide +kernel) rfl), (gT0_tb 342 rfl rfl), by decide +kernel⟩, (gT0_tb 340 (by decide +kernel) rfl), (gT0_tb 341 (by decide +kernel) rfl)⟩
set_option maxRecDepth 100000 in
theorem slX9_66 : gVl RX9 66 yX9_weighAll cX9_weighAll 4 none 1 := ⟨⟨Or.inl (gT0_tb 440 (by decide +kernel) rfl), (gT0_tb 5 (by decide +kernel) rfl), (gT0_tb 443 rfl rfl), by decide +kernel⟩, (gT0_tb 442 (by decide +kernel) rfl), (gT0_sl 4 (by decide +kernel) rfl)⟩
set_option maxRecDepth 100000 in
theorem slX9_69 : gVl RX9 69 yX9_weighSeen cX9_weighSeen 5 none 1 := ⟨⟨Or.inl (gT0_tb 474 (by decide +kernel) rfl), (gT0_tb 5 (by decide +kernel) rfl), (gT0_tb 477 rfl rfl), by decide +kernel⟩, (gT0_tb 476 (by decide +kernel) rfl), (gT0_sl 9 (by decide +kernel) rfl)⟩
theorem lkX9_39 : gLk RX9 39 9 12 := ⟨RX9, TX9, 15, rfl, by decide, inX9, Or.inl (gT0_tb 94 (by decide +kernel) rfl)⟩
set_option maxRecDepth 100000 in
theorem slX9_72 : gVl RX9 72 yX10_set cX10_set 3 none 1 := ⟨⟨Or.inl (gT0_tb 444 (by decide +kernel) rfl), (gT0_tb 6 (by decide +kernel) rfl), (gT0_tb 447 rfl rfl), by decide +kernel⟩, (gT0_tb 445 (by decide +kernel) rfl), (gT0_tb 446 (by decide +kernel) rfl)⟩
theorem lkX9_42 : gLk RX9 42 9 13 := ⟨RX9, TX9, 15, rfl, by decide, inX9, Or.inl (gT0_tb 96 (by decide +kernel) rfl)⟩
theorem lkX9_45 : gLk RX9 45 9 14 := ⟨RX9, TX9, 15, rfl, by decide, inX9, Or.inl (gT0_tb 98 (by decide +kernel) rfl)⟩
theorem lpX9_76 : gLp RX9 76 9 9 (.object "ExactTests$Cases") false := ⟨RX9, TX9, 15, tyX9, rfl, by decide, inX9, tyX9_ok, nmX9, rfl, tyX9_ok 9 (by decide), rfl, (gT0_tb 89 (by decide +kernel) rfl)⟩
set_option maxRecDepth 100000 in
theorem slX9_80 : gVl RX9 80 yX9_fillRow cX9_fillRow 2 none 1 := ⟨⟨Or.inl (gT0_tb 478 (by decide +kernel) rfl), (gT0_tb 5 (by decide +kernel) rfl), (gT0_tb 481 rfl rfl), by decide +kernel⟩, (gT0_tb 480 (by decide +kernel) rfl), (gT0_sl 10 (by decide +kernel) rfl)⟩
set_option maxRecDepth 100000 in
theorem slX9_83 : gVl RX9 83 yX3_rows cX3_rows 1 (some .int) 0 := ⟨⟨Or.inl (gT0_tb 401 (by decide +kernel) rfl), (gT0_tb 2 (by decide +kernel) rfl), (gT0_tb 404 rfl rfl), by decide +kernel⟩, (gT0_tb 402 (by decide +kernel) rfl), (gT0_tb 403 (by decide +kernel) rfl)⟩
set_option maxRecDepth 100000 in
theorem slX9_86 : gSl RX9 86 yJ9_min_7cf53 cJ9_min_7cf53 2 (some .int) 2 := ⟨⟨Or.inl (gT0_tb 405 (by decide +kernel) rfl), (gT0_tb 4 (by decide +kernel) rfl), (gT0_tb 407 rfl rfl), by decide +kernel⟩, (gT0_tb 406 (by decide +kernel) rfl)⟩
theorem lpX9_92 : gLp RX9 92 9 5 (.int) false := ⟨RX9, TX9, 15, tyX9, rfl, by decide, inX9, tyX9_ok, nmX9, rfl, tyX9_ok 5 (by decide), rfl, (gT0_tb 85 (by decide +kernel) rfl)⟩
set_option maxRecDepth 100000 in
theorem slX9_94 : gVl RX9 94 yX3_columns cX3_columns 1 (some .int) 0 := ⟨⟨Or.inl (gT0_tb 408 (by decide +kernel) rfl), (gT0_tb 2 (by decide +kernel) rfl), (gT0_tb 411 rfl rfl), by decide +kernel⟩, (gT0_tb 409 (by decide +kernel) rfl), (gT0_tb 410 (by decide +kernel) rfl)⟩
theorem lpX9_97 : gLp RX9 97 9 6 (.int) false := ⟨RX9, TX9, 15, tyX9, rfl, by decide, inX9, tyX9_ok, nmX9, rfl, tyX9_ok 6 (by decide), rfl, (gT0_tb 86 (by decide +kernel) rfl)⟩
set_option maxRecDepth 100000 in
theorem slX9_99 : gVl RX9 99 yX3_at cX3_at 3 (some .int) 2 := ⟨⟨Or.inl (gT0_tb 412 (by decide +kernel) rfl), (gT0_tb 2 (by decide +kernel) rfl), (gT0_tb 336 rfl rfl), by decide +kernel⟩, (gT0_tb 334 (by decide +kernel) rfl), (gT0_tb 335 (by decide +kernel) rfl)⟩
theorem lpX9_102 : gLp RX9 102 9 7 (.int) false := ⟨RX9, TX9, 15, tyX9, rfl, by decide, inX9, tyX9_ok, nmX9, rfl, tyX9_ok 7 (by decide), rfl, (gT0_tb 87 (by decide +kernel) rfl)⟩
theorem lkX9_92 : gLk RX9 92 9 5 := ⟨RX9, TX9, 15, rfl, by decide, inX9, Or.inl (gT0_tb 85 (by decide +kernel) rfl)⟩
theorem lkX9_15 : gLk RX9 15 9 1 := ⟨RX9, TX9, 15, rfl, by decide, inX9, Or.inl (gT0_tb 81 (by decide +kernel) rfl)⟩
set_option maxRecDepth 100000 in
theorem slX9_105 : gVl RX9 105 yX3_rowSum cX3_rowSum 4 (some .int) 1 := ⟨⟨Or.inl (gT0_tb 413 (by decide +kernel) rfl), (gT0_tb 2 (by decide +kernel) rfl), (gT0_tb 354 rfl rfl), by decide +kernel⟩, (gT0_tb 352 (by decide +kernel) rfl), (gT0_tb 353 (by decide +kernel) rfl)⟩
theorem lkX9_97 : gLk RX9 97 9 6 := ⟨RX9, TX9, 15, rfl, by decide, inX9, Or.inl (gT0_tb 86 (by decide +kernel) rfl)⟩
theorem lkX9_19 : gLk RX9 19 9 2 := ⟨RX9, TX9, 15, rfl, by decide, inX9, Or.inl (gT0_tb 82 (by decide +kernel) rfl)⟩
set_option maxRecDepth 100000 in
theorem slX9_109 : gVl RX9 109 yX3_columnSum cX3_columnSum 4 (some .int) 1 := ⟨⟨Or.inl (gT0_tb 414 (by decide +kernel) rfl), (gT0_tb 2 (by decide +kernel) rfl), (gT0_tb 359 rfl rfl), by decide +kernel⟩, (gT0_tb 357 (by decide +kernel) rfl), (gT0_tb 358 (by decide +kernel) rfl)⟩
theorem lkX9_32 : gLk RX9 32 9 10 := ⟨RX9, TX9, 15, rfl, by decide, inX9, Or.inl (gT0_tb 90 (by decide +kernel) rfl)⟩
set_option maxRecDepth 100000 in
theorem slX9_112 : gVl RX9 112 yX10_copy cX10_copy 3 none 1 := ⟨⟨Or.inl (gT0_tb 458 (by decide +kernel) rfl), (gT0_tb 6 (by decide +kernel) rfl), (gT0_tb 461 rfl rfl), by decide +kernel⟩, (gT0_tb 459 (by decide +kernel) rfl), (gT0_tb 460 (by decide +kernel) rfl)⟩
set_option maxRecDepth 100000 in
theorem slX9_116 : gVl RX9 116 yX9_choose cX9_choose 3 (some .long) 2 := ⟨⟨Or.inl (gT0_tb 462 (by decide +kernel) rfl), (gT0_tb 5 (by decide +kernel) rfl), (gT0_tb 465 rfl rfl), by decide +kernel⟩, (gT0_tb 464 (by decide +kernel) rfl), (gT0_sl 7 (by decide +kernel) rfl)⟩
set_option maxRecDepth 100000 in
theorem slX9_120 : gVl RX9 120 yX10_setProduct cX10_setProduct 6 none 2 := ⟨⟨Or.inl (gT0_tb 466 (by decide +kernel) rfl), (gT0_tb 6 (by decide +kernel) rfl), (gT0_tb 469 rfl rfl), by decide +kernel⟩, (gT0_tb 467 (by decide +kernel) rfl), (gT0_tb 468 (by decide +kernel) rfl)⟩
theorem lkX9_36 : gLk RX9 36 9 11 := ⟨RX9, TX9, 15, rfl, by decide, inX9, Or.inl (gT0_tb 92 (by decide +kernel) rfl)⟩
set_option maxRecDepth 100000 in
theorem slX9_124 : gVl RX9 124 yX9_sumOfColumnsLeft cX9_sumOfColumnsLeft 3 (some .int) 0 := ⟨⟨Or.inl (gT0_tb 419 (by decide +kernel) rfl), (gT0_tb 5 (by decide +kernel) rfl), (gT0_tb 422 rfl rfl), by decide +kernel⟩, (gT0_tb 421 (by decide +kernel) rfl), (gT0_sl 2 (by decide +kernel) rfl)⟩
set_option maxRecDepth 100000 in
theorem slX9_127 : gVl RX9 127 yX9_countCell cX9_countCell 10 none 4 := ⟨⟨Or.inl (gT0_tb 423 (by decide +kernel) rfl), (gT0_tb 5 (by decide +kernel) rfl), (gT0_tb 426 rfl rfl), by decide +kernel⟩, (gT0_tb 425 (by decide +kernel) rfl), (gT0_sl 3 (by decide +kernel) rfl)⟩
set_option maxRecDepth 100000 in
theorem slX9_131 : gSl RX9 131 yJ9_max_7cf53 cJ9_max_7cf53 2 (some .int) 2 := ⟨⟨Or.inl (gT0_tb 427 (by decide +kernel) rfl), (gT0_tb 4 (by decide +kernel) rfl), (gT0_tb 51 rfl rfl), by decide +kernel⟩, (gT0_tb 50 (by decide +kernel) rfl)⟩
set_option maxRecDepth 100000 in
theorem slX9_134 : gVl RX9 134 yX9_fillCell cX9_fillCell 10 none 4 := ⟨⟨Or.inl (gT0_tb 482 (by decide +kernel) rfl), (gT0_tb 5 (by decide +kernel) rfl), (gT0_tb 485 rfl rfl), by decide +kernel⟩, (gT0_tb 484 (by decide +kernel) rfl), (gT0_sl 11 (by decide +kernel) rfl)⟩
set_option maxRecDepth 100000 in
theorem slX9_137 : gVl RX9 137 yX9_fillLastRow cX9_fillLastRow 4 none 1 := ⟨⟨Or.inl (gT0_tb 486 (by decide +kernel) rfl), (gT0_tb 5 (by decide +kernel) rfl), (gT0_tb 489 rfl rfl), by decide +kernel⟩, (gT0_tb 488 (by decide +kernel) rfl), (gT0_sl 12 (by decide +kernel) rfl)⟩
theorem lkX9_22 : gLk RX9 22 9 3 := ⟨RX9, TX9, 15, rfl, by decide, inX9, Or.inl (gT0_tb 83 (by decide +kernel) rfl)⟩
set_option maxRecDepth 100000 in
theorem slX9_140 : gVl RX9 140 yX10_compare cX10_compare 3 (some .int) 1 := ⟨⟨Or.inl (gT0_tb 490 (by decide +kernel) rfl), (gT0_tb 6 (by decide +kernel) rfl), (gT0_tb 493 rfl rfl), by decide +kernel⟩, (gT0_tb 491 (by decide +kernel) rfl), (gT0_tb 492 (by decide +kernel) rfl)⟩
set_option maxRecDepth 100000 in
theorem slX9_144 : gVl RX9 144 yX10_add cX10_add 8 none 1 := ⟨⟨Or.inl (gT0_tb 494 (by decide +kernel) rfl), (gT0_tb 6 (by decide +kernel) rfl), (gT0_tb 497 rfl rfl), by decide +kernel⟩, (gT0_tb 495 (by decide +kernel) rfl), (gT0_tb 496 (by decide +kernel) rfl)⟩
theorem lkX9_102 : gLk RX9 102 9 7 := ⟨RX9, TX9, 15, rfl, by decide, inX9, Or.inl (gT0_tb 87 (by decide +kernel) rfl)⟩
theorem lkX9_76 : gLk RX9 76 9 9 := ⟨RX9, TX9, 15, rfl, by decide, inX9, Or.inl (gT0_tb 89 (by decide +kernel) rfl)⟩
set_option maxRecDepth 100000 in
theorem slX9_147 : gVl RX9 147 yX0_keep cX0_keep 10 none 2 := ⟨⟨Or.inl (gT0_tb 499 (by decide +kernel) rfl), (gT0_tb 7 (by decide +kernel) rfl), (gT0_tb 502 rfl rfl), by decide +kernel⟩, (gT0_tb 500 (by decide +kernel) rfl), (gT0_tb 501 (by decide +kernel) rfl)⟩
theorem oiX10_3 : Cond.methodLink RX10 3 Lib.objectInit ∈ gT0 := (gT0_tb 71 (by decide +kernel) rfl)
theorem lpX10_11 : gLp RX10 11 10 0 (.array .long) true := ⟨RX10, TX10, 2, tyX10, rfl, by decide, inX10, tyX10_ok, nmX10, rfl, tyX10_ok 0 (by decide), rfl, (gT0_tb 72 (by decide +kernel) rfl)⟩
set_option maxRecDepth 100000 in
theorem slX10_15 : gVl RX10 15 yX10_empty cX10_empty 2 none 0 := ⟨⟨Or.inl (gT0_tb 448 (by decide +kernel) rfl), (gT0_tb 6 (by decide +kernel) rfl), (gT0_tb 451 rfl rfl), by decide +kernel⟩, (gT0_tb 450 (by decide +kernel) rfl), (gT0_sl 5 (by decide +kernel) rfl)⟩
theorem lkX10_11 : gLk RX10 11 10 0 := ⟨RX10, TX10, 2, rfl, by decide, inX10, Or.inl (gT0_tb 72 (by decide +kernel) rfl)⟩
theorem kcX10_18 : Cond.constantLong RX10 18 (4294967295) ∈ gT0 := (gT0_tb 452 (by decide +kernel) rfl)
set_option maxRecDepth 100000 in
theorem slX10_20 : gVl RX10 20 yX10_trim cX10_trim 2 none 1 := ⟨⟨Or.inl (gT0_tb 453 (by decide +kernel) rfl), (gT0_tb 6 (by decide +kernel) rfl), (gT0_tb 456 rfl rfl), by decide +kernel⟩, (gT0_tb 455 (by decide +kernel) rfl), (gT0_sl 6 (by decide +kernel) rfl)⟩
theorem lkX10_24 : gLk RX10 24 10 1 := ⟨RX10, TX10, 2, rfl, by decide, inX10, Or.inl (gT0_tb 73 (by decide +kernel) rfl)⟩
theorem lpX10_24 : gLp RX10 24 10 1 (.int) false := ⟨RX10, TX10, 2, tyX10, rfl, by decide, inX10, tyX10_ok, nmX10, rfl, tyX10_ok 1 (by decide), rfl, (gT0_tb 73 (by decide +kernel) rfl)⟩
set_option maxRecDepth 100000 in
theorem slX10_28 : gSl RX10 28 yJ9_max_7cf53 cJ9_max_7cf53 2 (some .int) 2 := ⟨⟨Or.inl (gT0_tb 498 (by decide +kernel) rfl), (gT0_tb 4 (by decide +kernel) rfl), (gT0_tb 51 rfl rfl), by decide +kernel⟩, (gT0_tb 50 (by decide +kernel) rfl)⟩
set_option maxRecDepth 100000 in
theorem slX10_34 : gVl RX10 34 yX10_addTimes cX10_addTimes 11 none 3 := ⟨⟨Or.inl (gT0_tb 470 (by decide +kernel) rfl), (gT0_tb 6 (by decide +kernel) rfl), (gT0_tb 473 rfl rfl), by decide +kernel⟩, (gT0_tb 472 (by decide +kernel) rfl), (gT0_sl 8 (by decide +kernel) rfl)⟩
set_option maxRecDepth 100000 in
theorem slX10_38 : gSl RX10 38 yJ9_min_7cf53 cJ9_min_7cf53 2 (some .int) 2 := ⟨⟨Or.inl (gT0_tb 457 (by decide +kernel) rfl), (gT0_tb 4 (by decide +kernel) rfl), (gT0_tb 407 rfl rfl), by decide +kernel⟩, (gT0_tb 406 (by decide +kernel) rfl)⟩
set_option maxRecDepth 100000 in
theorem slX10_41 : gSl RX10 41 yJ13_numberOfLeadingZeros_95d88 cJ13_numberOfLeadingZeros_95d88 3 (some .int) 1 := ⟨⟨Or.inl (gT0_tb 701 (by decide +kernel) rfl), (gT0_tb 16 (by decide +kernel) rfl), (gT0_tb 703 rfl rfl), by decide +kernel⟩, (gT0_tb 702 (by decide +kernel) rfl)⟩
set_option maxRecDepth 100000 in
theorem slX10_47 : gVl RX10 47 yX10_bitLength cX10_bitLength 1 (some .int) 0 := ⟨⟨Or.inl (gT0_tb 835 (by decide +kernel) rfl), (gT0_tb 6 (by decide +kernel) rfl), (gT0_tb 700 rfl rfl), by decide +kernel⟩, (gT0_tb 698 (by decide +kernel) rfl), (gT0_tb 699 (by decide +kernel) rfl)⟩
theorem kcX10_51 : Cond.constant RX10 51 (65535) ∈ gT0 := (gT0_tb 716 (by decide +kernel) rfl)
theorem oiX11_1 : Cond.methodLink RX11 1 Lib.objectInit ∈ gT0 := (gT0_tb 23 (by decide +kernel) rfl)
theorem clX11_7 : Cond.classLink RX11 7 RX3 ∈ gT0 := (gT0_tb 26 (by decide +kernel) rfl)
set_option maxRecDepth 100000 in
theorem slX11_9 : gIl RX11 9 yX3_init cX3_init 1 0 := ⟨⟨Or.inr ⟨"ExactTests", by decide +kernel⟩, (gT0_tb 2 (by decide +kernel) rfl), (gT0_tb 30 rfl rfl), by decide +kernel⟩, rfl, (gT0_tb 29 (by decide +kernel) rfl)⟩
theorem lpX11_10 : gLp RX11 10 11 0 (.object "ExactTests$Grid") true := ⟨RX11, TX11, 11, tyX11, rfl, by decide, inX11, tyX11_ok, nmX11, rfl, tyX11_ok 0 (by decide), rfl, (gT0_tb 276 (by decide +kernel) rfl)⟩
theorem clX11_16 : Cond.classLink RX11 16 RX5 ∈ gT0 := (gT0_tb 43 (by decide +kernel) rfl)
set_option maxRecDepth 100000 in
theorem slX11_18 : gIl RX11 18 yX5_init cX5_init 2 1 := ⟨⟨Or.inl (gT0_tb 45 (by decide +kernel) rfl), (gT0_tb 3 (by decide +kernel) rfl), (gT0_tb 47 rfl rfl), by decide +kernel⟩, rfl, (gT0_tb 46 (by decide +kernel) rfl)⟩
theorem lpX11_21 : gLp RX11 21 11 1 (.object "ExactTests$Numbers") true := ⟨RX11, TX11, 11, tyX11, rfl, by decide, inX11, tyX11_ok, nmX11, rfl, tyX11_ok 1 (by decide), rfl, (gT0_tb 277 (by decide +kernel) rfl)⟩
theorem lpX11_25 : gLp RX11 25 11 2 (.object "ExactTests$Numbers") true := ⟨RX11, TX11, 11, tyX11, rfl, by decide, inX11, tyX11_ok, nmX11, rfl, tyX11_ok 2 (by decide), rfl, (gT0_tb 278 (by decide +kernel) rfl)⟩
theorem lpX11_28 : gLp RX11 28 11 3 (.object "ExactTests$Numbers") true := ⟨RX11, TX11, 11, tyX11, rfl, by decide, inX11, tyX11_ok, nmX11, rfl, tyX11_ok 3 (by decide), rfl, (gT0_tb 279 (by decide +kernel) rfl)⟩
theorem lpX11_31 : gLp RX11 31 11 4 (.object "ExactTests$Numbers") true := ⟨RX11, TX11, 11, tyX11, rfl, by decide, inX11, tyX11_ok, nmX11, rfl, tyX11_ok 4 (by decide), rfl, (gT0_tb 280 (by decide +kernel) rfl)⟩
theorem clX11_34 : Cond.classLink RX11 34 RX9 ∈ gT0 := (gT0_tb 59 (by decide +kernel) rfl)
set_option maxRecDepth 100000 in
theorem slX11_36 : gIl RX11 36 yX9_init cX9_init 5 0 := ⟨⟨Or.inl (gT0_tb 61 (by decide +kernel) rfl), (gT0_tb 5 (by decide +kernel) rfl), (gT0_tb 63 rfl rfl), by decide +kernel⟩, rfl, (gT0_tb 62 (by decide +kernel) rfl)⟩
theorem lpX11_37 : gLp RX11 37 11 5 (.object "ExactTests$Walk") true := ⟨RX11, TX11, 11, tyX11, rfl, by decide, inX11, tyX11_ok, nmX11, rfl, tyX11_ok 5 (by decide), rfl, (gT0_tb 281 (by decide +kernel) rfl)⟩
theorem clX11_41 : Cond.classLink RX11 41 RX0 ∈ gT0 := (gT0_tb 131 (by decide +kernel) rfl)
set_option maxRecDepth 100000 in
theorem slX11_43 : gIl RX11 43 yX0_init cX0_init 1 0 := ⟨⟨Or.inr ⟨"ExactTests", by decide +kernel⟩, (gT0_tb 7 (by decide +kernel) rfl), (gT0_tb 135 rfl rfl), by decide +kernel⟩, rfl, (gT0_tb 134 (by decide +kernel) rfl)⟩
theorem lpX11_44 : gLp RX11 44 11 6 (.object "ExactTests$Cases") true := ⟨RX11, TX11, 11, tyX11, rfl, by decide, inX11, tyX11_ok, nmX11, rfl, tyX11_ok 6 (by decide), rfl, (gT0_tb 282 (by decide +kernel) rfl)⟩
theorem clX11_48 : Cond.classLink RX11 48 RX8 ∈ gT0 := (gT0_tb 153 (by decide +kernel) rfl)
set_option maxRecDepth 100000 in
theorem slX11_50 : gIl RX11 50 yX8_init cX8_init 1 0 := ⟨⟨Or.inr ⟨"ExactTests", by decide +kernel⟩, (gT0_tb 8 (by decide +kernel) rfl), (gT0_tb 157 rfl rfl), by decide +kernel⟩, rfl, (gT0_tb 156 (by decide +kernel) rfl)⟩
theorem lpX11_51 : gLp RX11 51 11 7 (.object "ExactTests$Sums") true := ⟨RX11, TX11, 11, tyX11, rfl, by decide, inX11, tyX11_ok, nmX11, rfl, tyX11_ok 7 (by decide), rfl, (gT0_tb 283 (by decide +kernel) rfl)⟩
theorem clX11_55 : Cond.classLink RX11 55 RX6 ∈ gT0 := (gT0_tb 200 (by decide +kernel) rfl)
set_option maxRecDepth 100000 in
theorem slX11_57 : gIl RX11 57 yX6_init cX6_init 2 0 := ⟨⟨Or.inl (gT0_tb 202 (by decide +kernel) rfl), (gT0_tb 10 (by decide +kernel) rfl), (gT0_tb 204 rfl rfl), by decide +kernel⟩, rfl, (gT0_tb 203 (by decide +kernel) rfl)⟩
theorem lpX11_58 : gLp RX11 58 11 8 (.object "ExactTests$Results") true := ⟨RX11, TX11, 11, tyX11, rfl, by decide, inX11, tyX11_ok, nmX11, rfl, tyX11_ok 8 (by decide), rfl, (gT0_tb 284 (by decide +kernel) rfl)⟩
theorem clX11_62 : Cond.classLink RX11 62 RX7 ∈ gT0 := (gT0_tb 240 (by decide +kernel) rfl)
set_option maxRecDepth 100000 in
theorem slX11_64 : gIl RX11 64 yX7_init cX7_init 1 0 := ⟨⟨Or.inr ⟨"ExactTests", by decide +kernel⟩, (gT0_tb 12 (by decide +kernel) rfl), (gT0_tb 244 rfl rfl), by decide +kernel⟩, rfl, (gT0_tb 243 (by decide +kernel) rfl)⟩
theorem lpX11_65 : gLp RX11 65 11 9 (.object "ExactTests$Scale") true := ⟨RX11, TX11, 11, tyX11, rfl, by decide, inX11, tyX11_ok, nmX11, rfl, tyX11_ok 9 (by decide), rfl, (gT0_tb 285 (by decide +kernel) rfl)⟩
theorem clX11_69 : Cond.classLink RX11 69 RX1 ∈ gT0 := (gT0_tb 255 (by decide +kernel) rfl)
theorem lkX11_65 : gLk RX11 65 11 9 := ⟨RX11, TX11, 11, rfl, by decide, inX11, Or.inl (gT0_tb 285 (by decide +kernel) rfl)⟩
set_option maxRecDepth 100000 in
theorem slX11_71 : gIl RX11 71 yX1_init cX1_init 3 1 := ⟨⟨Or.inl (gT0_tb 257 (by decide +kernel) rfl), (gT0_tb 13 (by decide +kernel) rfl), (gT0_tb 259 rfl rfl), by decide +kernel⟩, rfl, (gT0_tb 258 (by decide +kernel) rfl)⟩
theorem lpX11_74 : gLp RX11 74 11 10 (.object "ExactTests$Chances") true := ⟨RX11, TX11, 11, tyX11, rfl, by decide, inX11, tyX11_ok, nmX11, rfl, tyX11_ok 10 (by decide), rfl, (gT0_tb 286 (by decide +kernel) rfl)⟩
set_option maxRecDepth 100000 in
theorem slX11_78 : gSl RX11 78 yX11_within cX11_within 3 (some .boolean) 3 := ⟨⟨Or.inl (gT0_tb 314 (by decide +kernel) rfl), (gT0_tb 1 (by decide +kernel) rfl), (gT0_tb 316 rfl rfl), by decide +kernel⟩, (gT0_tb 315 (by decide +kernel) rfl)⟩
theorem lkX11_10 : gLk RX11 10 11 0 := ⟨RX11, TX11, 11, rfl, by decide, inX11, Or.inl (gT0_tb 276 (by decide +kernel) rfl)⟩
set_option maxRecDepth 100000 in
theorem slX11_82 : gVl RX11 82 yX3_renew cX3_renew 4 none 2 := ⟨⟨Or.inl (gT0_tb 317 (by decide +kernel) rfl), (gT0_tb 2 (by decide +kernel) rfl), (gT0_tb 320 rfl rfl), by decide +kernel⟩, (gT0_tb 318 (by decide +kernel) rfl), (gT0_tb 319 (by decide +kernel) rfl)⟩
set_option maxRecDepth 100000 in
theorem slX11_86 : gVl RX11 86 yX3_hasRow cX3_hasRow 2 (some .boolean) 1 := ⟨⟨Or.inl (gT0_tb 325 (by decide +kernel) rfl), (gT0_tb 2 (by decide +kernel) rfl), (gT0_tb 328 rfl rfl), by decide +kernel⟩, (gT0_tb 326 (by decide +kernel) rfl), (gT0_tb 327 (by decide +kernel) rfl)⟩
set_option maxRecDepth 100000 in
theorem slX11_90 : gVl RX11 90 yX3_hasColumn cX3_hasColumn 2 (some .boolean) 1 := ⟨⟨Or.inl (gT0_tb 329 (by decide +kernel) rfl), (gT0_tb 2 (by decide +kernel) rfl), (gT0_tb 332 rfl rfl), by decide +kernel⟩, (gT0_tb 330 (by decide +kernel) rfl), (gT0_tb 331 (by decide +kernel) rfl)⟩
set_option maxRecDepth 100000 in
theorem slX11_93 : gVl RX11 93 yX3_at cX3_at 3 (some .int) 2 := ⟨⟨Or.inl (gT0_tb 333 (by decide +kernel) rfl), (gT0_tb 2 (by decide +kernel) rfl), (gT0_tb 336 rfl rfl), by decide +kernel⟩, (gT0_tb 334 (by decide +kernel) rfl), (gT0_tb 335 (by decide +kernel) rfl)⟩
set_option maxRecDepth 100000 in
theorem slX11_97 : gVl RX11 97 yX3_inAll cX3_inAll 3 (some .int) 0 := ⟨⟨Or.inl (gT0_tb 339 (by decide +kernel) rfl), (gT0_tb 2 (by decide +kernel) rfl), (gT0_tb 342 rfl rfl), by decide +kernel⟩, (gT0_tb 340 (by decide +kernel) rfl), (gT0_tb 341 (by decide +kernel) rfl)⟩
set_option maxRecDepth 100000 in
theorem slX11_101 : gVl RX11 101 yX3_put cX3_put 4 none 3 := ⟨⟨Or.inl (gT0_tb 343 (by decide +kernel) rfl), (gT0_tb 2 (by decide +kernel) rfl), (gT0_tb 346 rfl rfl), by decide +kernel⟩, (gT0_tb 344 (by decide +kernel) rfl), (gT0_tb 345 (by decide +kernel) rfl)⟩
set_option maxRecDepth 100000 in
theorem slX11_105 : gVl RX11 105 yX3_rowSum cX3_rowSum 4 (some .int) 1 := ⟨⟨Or.inl (gT0_tb 351 (by decide +kernel) rfl), (gT0_tb 2 (by decide +kernel) rfl), (gT0_tb 354 rfl rfl), by decide +kernel⟩, (gT0_tb 352 (by decide +kernel) rfl), (gT0_tb 353 (by decide +kernel) rfl)⟩
set_option maxRecDepth 100000 in
theorem slX11_109 : gVl RX11 109 yX3_columnSum cX3_columnSum 4 (some .int) 1 := ⟨⟨Or.inl (gT0_tb 356 (by decide +kernel) rfl), (gT0_tb 2 (by decide +kernel) rfl), (gT0_tb 359 rfl rfl), by decide +kernel⟩, (gT0_tb 357 (by decide +kernel) rfl), (gT0_tb 358 (by decide +kernel) rfl)⟩
theorem lkX11_21 : gLk RX11 21 11 1 := ⟨RX11, TX11, 11, rfl, by decide, inX11, Or.inl (gT0_tb 277 (by decide +kernel) rfl)⟩
theorem lkX11_25 : gLk RX11 25 11 2 := ⟨RX11, TX11, 11, rfl, by decide, inX11, Or.inl (gT0_tb 278 (by decide +kernel) rfl)⟩
set_option maxRecDepth 100000 in
theorem slX11_112 : gVl RX11 112 yX5_isFull cX5_isFull 1 (some .boolean) 0 := ⟨⟨Or.inl (gT0_tb 364 (by decide +kernel) rfl), (gT0_tb 3 (by decide +kernel) rfl), (gT0_tb 367 rfl rfl), by decide +kernel⟩, (gT0_tb 365 (by decide +kernel) rfl), (gT0_tb 366 (by decide +kernel) rfl)⟩
set_option maxRecDepth 100000 in
theorem slX11_116 : gVl RX11 116 yX5_add cX5_add 2 (some .int) 1 := ⟨⟨Or.inl (gT0_tb 368 (by decide +kernel) rfl), (gT0_tb 3 (by decide +kernel) rfl), (gT0_tb 371 rfl rfl), by decide +kernel⟩, (gT0_tb 369 (by decide +kernel) rfl), (gT0_tb 370 (by decide +kernel) rfl)⟩
theorem lkX11_28 : gLk RX11 28 11 3 := ⟨RX11, TX11, 11, rfl, by decide, inX11, Or.inl (gT0_tb 279 (by decide +kernel) rfl)⟩
set_option maxRecDepth 100000 in
theorem slX11_119 : gVl RX11 119 yX5_empty cX5_empty 2 (some .int) 0 := ⟨⟨Or.inl (gT0_tb 381 (by decide +kernel) rfl), (gT0_tb 3 (by decide +kernel) rfl), (gT0_tb 384 rfl rfl), by decide +kernel⟩, (gT0_tb 382 (by decide +kernel) rfl), (gT0_tb 383 (by decide +kernel) rfl)⟩
theorem lkX11_74 : gLk RX11 74 11 10 := ⟨RX11, TX11, 11, rfl, by decide, inX11, Or.inl (gT0_tb 286 (by decide +kernel) rfl)⟩
set_option maxRecDepth 100000 in
theorem slX11_122 : gVl RX11 122 yX1_empty cX1_empty 2 (some .int) 0 := ⟨⟨Or.inl (gT0_tb 385 (by decide +kernel) rfl), (gT0_tb 13 (by decide +kernel) rfl), (gT0_tb 388 rfl rfl), by decide +kernel⟩, (gT0_tb 386 (by decide +kernel) rfl), (gT0_tb 387 (by decide +kernel) rfl)⟩
theorem lkX11_31 : gLk RX11 31 11 4 := ⟨RX11, TX11, 11, rfl, by decide, inX11, Or.inl (gT0_tb 280 (by decide +kernel) rfl)⟩
theorem lkX11_37 : gLk RX11 37 11 5 := ⟨RX11, TX11, 11, rfl, by decide, inX11, Or.inl (gT0_tb 281 (by decide +kernel) rfl)⟩
set_option maxRecDepth 100000 in
theorem slX11_123 : gVl RX11 123 yX9_countCases cX9_countCases 2 (some .int) 1 := ⟨⟨Or.inl (gT0_tb 393 (by decide +kernel) rfl), (gT0_tb 5 (by decide +kernel) rfl), (gT0_tb 396 rfl rfl), by decide +kernel⟩, (gT0_tb 394 (by decide +kernel) rfl), (gT0_tb 395 (by decide +kernel) rfl)⟩
theorem lkX11_44 : gLk RX11 44 11 6 := ⟨RX11, TX11, 11, rfl, by decide, inX11, Or.inl (gT0_tb 282 (by decide +kernel) rfl)⟩
set_option maxRecDepth 100000 in
theorem slX11_127 : gVl RX11 127 yX3_rows cX3_rows 1 (some .int) 0 := ⟨⟨Or.inl (gT0_tb 428 (by decide +kernel) rfl), (gT0_tb 2 (by decide +kernel) rfl), (gT0_tb 404 rfl rfl), by decide +kernel⟩, (gT0_tb 402 (by decide +kernel) rfl), (gT0_tb 403 (by decide +kernel) rfl)⟩
set_option maxRecDepth 100000 in
theorem slX11_130 : gVl RX11 130 yX3_columns cX3_columns 1 (some .int) 0 := ⟨⟨Or.inl (gT0_tb 429 (by decide +kernel) rfl), (gT0_tb 2 (by decide +kernel) rfl), (gT0_tb 411 rfl rfl), by decide +kernel⟩, (gT0_tb 409 (by decide +kernel) rfl), (gT0_tb 410 (by decide +kernel) rfl)⟩
set_option maxRecDepth 100000 in
theorem slX11_133 : gVl RX11 133 yX0_renew cX0_renew 5 none 3 := ⟨⟨Or.inl (gT0_tb 430 (by decide +kernel) rfl), (gT0_tb 7 (by decide +kernel) rfl), (gT0_tb 433 rfl rfl), by decide +kernel⟩, (gT0_tb 431 (by decide +kernel) rfl), (gT0_tb 432 (by decide +kernel) rfl)⟩
set_option maxRecDepth 100000 in
theorem slX11_135 : gVl RX11 135 yX9_weighCases cX9_weighCases 3 none 2 := ⟨⟨Or.inl (gT0_tb 435 (by decide +kernel) rfl), (gT0_tb 5 (by decide +kernel) rfl), (gT0_tb 438 rfl rfl), by decide +kernel⟩, (gT0_tb 436 (by decide +kernel) rfl), (gT0_tb 437 (by decide +kernel) rfl)⟩
theorem lkX11_58 : gLk RX11 58 11 8 := ⟨RX11, TX11, 11, rfl, by decide, inX11, Or.inl (gT0_tb 284 (by decide +kernel) rfl)⟩
set_option maxRecDepth 100000 in
theorem slX11_139 : gVl RX11 139 yX6_begin cX6_begin 4 none 3 := ⟨⟨Or.inl (gT0_tb 504 (by decide +kernel) rfl), (gT0_tb 10 (by decide +kernel) rfl), (gT0_tb 507 rfl rfl), by decide +kernel⟩, (gT0_tb 505 (by decide +kernel) rfl), (gT0_tb 506 (by decide +kernel) rfl)⟩
set_option maxRecDepth 100000 in
theorem slX11_142 : gVl RX11 142 yX6_chance cX6_chance 2 (some (.object "ExactTests$Fraction")) 1 := ⟨⟨Or.inl (gT0_tb 508 (by decide +kernel) rfl), (gT0_tb 10 (by decide +kernel) rfl), (gT0_tb 511 rfl rfl), by decide +kernel⟩, (gT0_tb 509 (by decide +kernel) rfl), (gT0_tb 510 (by decide +kernel) rfl)⟩
theorem lkX11_146 : gLk RX11 146 9 12 := ⟨RX9, TX9, 15, rfl, by decide, inX9, Or.inl (gT0_tb 95 (by decide +kernel) rfl)⟩
theorem lkX11_150 : gLk RX11 150 9 10 := ⟨RX9, TX9, 15, rfl, by decide, inX9, Or.inl (gT0_tb 91 (by decide +kernel) rfl)⟩
set_option maxRecDepth 100000 in
theorem slX11_153 : gVl RX11 153 yX2_setWholes cX2_setWholes 3 none 2 := ⟨⟨Or.inl (gT0_tb 512 (by decide +kernel) rfl), (gT0_tb 11 (by decide +kernel) rfl), (gT0_tb 515 rfl rfl), by decide +kernel⟩, (gT0_tb 513 (by decide +kernel) rfl), (gT0_tb 514 (by decide +kernel) rfl)⟩
theorem lkX11_159 : gLk RX11 159 9 13 := ⟨RX9, TX9, 15, rfl, by decide, inX9, Or.inl (gT0_tb 97 (by decide +kernel) rfl)⟩
theorem lkX11_162 : gLk RX11 162 9 14 := ⟨RX9, TX9, 15, rfl, by decide, inX9, Or.inl (gT0_tb 99 (by decide +kernel) rfl)⟩
theorem lkX11_165 : gLk RX11 165 9 11 := ⟨RX9, TX9, 15, rfl, by decide, inX9, Or.inl (gT0_tb 93 (by decide +kernel) rfl)⟩
theorem kcX11_168 : Cond.constant RX11 168 (-1000000001) ∈ gT0 := (gT0_tb 539 (by decide +kernel) rfl)
set_option maxRecDepth 100000 in
theorem slX11_169 : gVl RX11 169 yX5_size cX5_size 1 (some .int) 0 := ⟨⟨Or.inl (gT0_tb 540 (by decide +kernel) rfl), (gT0_tb 3 (by decide +kernel) rfl), (gT0_tb 543 rfl rfl), by decide +kernel⟩, (gT0_tb 541 (by decide +kernel) rfl), (gT0_tb 542 (by decide +kernel) rfl)⟩
theorem kcX11_172 : Cond.constant RX11 172 (-1000000003) ∈ gT0 := (gT0_tb 544 (by decide +kernel) rfl)
theorem lkX11_51 : gLk RX11 51 11 7 := ⟨RX11, TX11, 11, rfl, by decide, inX11, Or.inl (gT0_tb 283 (by decide +kernel) rfl)⟩
set_option maxRecDepth 100000 in
theorem slX11_173 : gVl RX11 173 yX8_beginTaking cX8_beginTaking 4 none 2 := ⟨⟨Or.inl (gT0_tb 545 (by decide +kernel) rfl), (gT0_tb 8 (by decide +kernel) rfl), (gT0_tb 548 rfl rfl), by decide +kernel⟩, (gT0_tb 546 (by decide +kernel) rfl), (gT0_tb 547 (by decide +kernel) rfl)⟩
set_option maxRecDepth 100000 in
theorem slX11_176 : gVl RX11 176 yX11_takeScores cX11_takeScores 7 (some .int) 2 := ⟨⟨Or.inl (gT0_tb 558 (by decide +kernel) rfl), (gT0_tb 1 (by decide +kernel) rfl), (gT0_tb 561 rfl rfl), by decide +kernel⟩, (gT0_tb 560 (by decide +kernel) rfl), (gT0_sl 16 (by decide +kernel) rfl)⟩
set_option maxRecDepth 100000 in
theorem slX11_180 : gVl RX11 180 yX11_judge cX11_judge 16 none 3 := ⟨⟨Or.inl (gT0_tb 603 (by decide +kernel) rfl), (gT0_tb 1 (by decide +kernel) rfl), (gT0_tb 606 rfl rfl), by decide +kernel⟩, (gT0_tb 605 (by decide +kernel) rfl), (gT0_sl 19 (by decide +kernel) rfl)⟩
set_option maxRecDepth 100000 in
theorem slX11_183 : gVl RX11 183 yX5_countOf cX5_countOf 4 (some .int) 1 := ⟨⟨Or.inl (gT0_tb 578 (by decide +kernel) rfl), (gT0_tb 3 (by decide +kernel) rfl), (gT0_tb 581 rfl rfl), by decide +kernel⟩, (gT0_tb 579 (by decide +kernel) rfl), (gT0_tb 580 (by decide +kernel) rfl)⟩
set_option maxRecDepth 100000 in
theorem slX11_186 : gVl RX11 186 yX8_beginSigning cX8_beginSigning 2 none 1 := ⟨⟨Or.inl (gT0_tb 631 (by decide +kernel) rfl), (gT0_tb 8 (by decide +kernel) rfl), (gT0_tb 634 rfl rfl), by decide +kernel⟩, (gT0_tb 632 (by decide +kernel) rfl), (gT0_tb 633 (by decide +kernel) rfl)⟩
set_option maxRecDepth 100000 in
theorem slX11_189 : gVl RX11 189 yX5_get cX5_get 2 (some .int) 1 := ⟨⟨Or.inl (gT0_tb 562 (by decide +kernel) rfl), (gT0_tb 3 (by decide +kernel) rfl), (gT0_tb 565 rfl rfl), by decide +kernel⟩, (gT0_tb 563 (by decide +kernel) rfl), (gT0_tb 564 (by decide +kernel) rfl)⟩
set_option maxRecDepth 100000 in
theorem slX11_192 : gSl RX11 192 yJ9_abs_0f7a4 cJ9_abs_0f7a4 1 (some .int) 1 := ⟨⟨Or.inl (gT0_tb 635 (by decide +kernel) rfl), (gT0_tb 4 (by decide +kernel) rfl), (gT0_tb 637 rfl rfl), by decide +kernel⟩, (gT0_tb 636 (by decide +kernel) rfl)⟩
set_option maxRecDepth 100000 in
theorem slX11_197 : gVl RX11 197 yX11_scoreOfSize cX11_scoreOfSize 3 (some .int) 2 := ⟨⟨Or.inl (gT0_tb 638 (by decide +kernel) rfl), (gT0_tb 1 (by decide +kernel) rfl), (gT0_tb 641 rfl rfl), by decide +kernel⟩, (gT0_tb 640 (by decide +kernel) rfl), (gT0_sl 20 (by decide +kernel) rfl)⟩
set_option maxRecDepth 100000 in
theorem slX11_200 : gVl RX11 200 yX8_take cX8_take 3 none 1 := ⟨⟨Or.inl (gT0_tb 585 (by decide +kernel) rfl), (gT0_tb 8 (by decide +kernel) rfl), (gT0_tb 588 rfl rfl), by decide +kernel⟩, (gT0_tb 586 (by decide +kernel) rfl), (gT0_tb 587 (by decide +kernel) rfl)⟩
set_option maxRecDepth 100000 in
theorem slX11_203 : gVl RX11 203 yX5_has cX5_has 2 (some .boolean) 1 := ⟨⟨Or.inl (gT0_tb 650 (by decide +kernel) rfl), (gT0_tb 3 (by decide +kernel) rfl), (gT0_tb 569 rfl rfl), by decide +kernel⟩, (gT0_tb 567 (by decide +kernel) rfl), (gT0_tb 568 (by decide +kernel) rfl)⟩
set_option maxRecDepth 100000 in
theorem slX11_206 : gVl RX11 206 yX11_rankOfSize cX11_rankOfSize 5 (some .int) 1 := ⟨⟨Or.inl (gT0_tb 642 (by decide +kernel) rfl), (gT0_tb 1 (by decide +kernel) rfl), (gT0_tb 645 rfl rfl), by decide +kernel⟩, (gT0_tb 644 (by decide +kernel) rfl), (gT0_sl 21 (by decide +kernel) rfl)⟩
set_option maxRecDepth 100000 in
theorem slX11_209 : gVl RX11 209 yX11_rankOfNumber cX11_rankOfNumber 4 (some .int) 1 := ⟨⟨Or.inl (gT0_tb 570 (by decide +kernel) rfl), (gT0_tb 1 (by decide +kernel) rfl), (gT0_tb 573 rfl rfl), by decide +kernel⟩, (gT0_tb 572 (by decide +kernel) rfl), (gT0_sl 17 (by decide +kernel) rfl)⟩
set_option maxRecDepth 100000 in
theorem slX11_212 : gVl RX11 212 yX0_count cX0_count 1 (some .int) 0 := ⟨⟨Or.inl (gT0_tb 655 (by decide +kernel) rfl), (gT0_tb 7 (by decide +kernel) rfl), (gT0_tb 658 rfl rfl), by decide +kernel⟩, (gT0_tb 656 (by decide +kernel) rfl), (gT0_tb 657 (by decide +kernel) rfl)⟩
set_option maxRecDepth 100000 in
theorem slX11_215 : gVl RX11 215 yX0_has cX0_has 2 (some .boolean) 1 := ⟨⟨Or.inl (gT0_tb 659 (by decide +kernel) rfl), (gT0_tb 7 (by decide +kernel) rfl), (gT0_tb 662 rfl rfl), by decide +kernel⟩, (gT0_tb 660 (by decide +kernel) rfl), (gT0_tb 661 (by decide +kernel) rfl)⟩
set_option maxRecDepth 100000 in
theorem slX11_216 : gVl RX11 216 yX0_hasCell cX0_hasCell 3 (some .boolean) 2 := ⟨⟨Or.inl (gT0_tb 663 (by decide +kernel) rfl), (gT0_tb 7 (by decide +kernel) rfl), (gT0_tb 666 rfl rfl), by decide +kernel⟩, (gT0_tb 664 (by decide +kernel) rfl), (gT0_tb 665 (by decide +kernel) rfl)⟩
set_option maxRecDepth 100000 in
theorem slX11_220 : gVl RX11 220 yX0_numberAt cX0_numberAt 5 (some .int) 3 := ⟨⟨Or.inl (gT0_tb 667 (by decide +kernel) rfl), (gT0_tb 7 (by decide +kernel) rfl), (gT0_tb 670 rfl rfl), by decide +kernel⟩, (gT0_tb 668 (by decide +kernel) rfl), (gT0_tb 669 (by decide +kernel) rfl)⟩
set_option maxRecDepth 100000 in
theorem slX11_224 : gVl RX11 224 yX0_orderOf cX0_orderOf 2 (some .int) 1 := ⟨⟨Or.inl (gT0_tb 677 (by decide +kernel) rfl), (gT0_tb 7 (by decide +kernel) rfl), (gT0_tb 680 rfl rfl), by decide +kernel⟩, (gT0_tb 678 (by decide +kernel) rfl), (gT0_tb 679 (by decide +kernel) rfl)⟩
set_option maxRecDepth 100000 in
theorem slX11_227 : gVl RX11 227 yX11_refusal cX11_refusal 2 (some .int) 1 := ⟨⟨Or.inl (gT0_tb 685 (by decide +kernel) rfl), (gT0_tb 1 (by decide +kernel) rfl), (gT0_tb 688 rfl rfl), by decide +kernel⟩, (gT0_tb 687 (by decide +kernel) rfl), (gT0_sl 22 (by decide +kernel) rfl)⟩
set_option maxRecDepth 100000 in
theorem slX11_230 : gVl RX11 230 yX2_part cX2_part 2 (some (.object "ExactTests$Whole")) 1 := ⟨⟨Or.inl (gT0_tb 693 (by decide +kernel) rfl), (gT0_tb 11 (by decide +kernel) rfl), (gT0_tb 696 rfl rfl), by decide +kernel⟩, (gT0_tb 694 (by decide +kernel) rfl), (gT0_tb 695 (by decide +kernel) rfl)⟩
set_option maxRecDepth 100000 in
theorem slX11_234 : gVl RX11 234 yX10_bitLength cX10_bitLength 1 (some .int) 0 := ⟨⟨Or.inl (gT0_tb 697 (by decide +kernel) rfl), (gT0_tb 6 (by decide +kernel) rfl), (gT0_tb 700 rfl rfl), by decide +kernel⟩, (gT0_tb 698 (by decide +kernel) rfl), (gT0_tb 699 (by decide +kernel) rfl)⟩
set_option maxRecDepth 100000 in
theorem slX11_239 : gVl RX11 239 yX10_sixteenBits cX10_sixteenBits 3 (some .int) 1 := ⟨⟨Or.inl (gT0_tb 712 (by decide +kernel) rfl), (gT0_tb 6 (by decide +kernel) rfl), (gT0_tb 715 rfl rfl), by decide +kernel⟩, (gT0_tb 713 (by decide +kernel) rfl), (gT0_tb 714 (by decide +kernel) rfl)⟩
set_option maxRecDepth 100000 in
theorem slX11_242 : gVl RX11 242 yX7_figureOf cX7_figureOf 6 (some .int) 2 := ⟨⟨Or.inl (gT0_tb 721 (by decide +kernel) rfl), (gT0_tb 12 (by decide +kernel) rfl), (gT0_tb 724 rfl rfl), by decide +kernel⟩, (gT0_tb 722 (by decide +kernel) rfl), (gT0_tb 723 (by decide +kernel) rfl)⟩
set_option maxRecDepth 100000 in
theorem slX11_246 : gSl RX11 246 yX11_isLevel cX11_isLevel 2 (some .boolean) 2 := ⟨⟨Or.inl (gT0_tb 740 (by decide +kernel) rfl), (gT0_tb 1 (by decide +kernel) rfl), (gT0_tb 742 rfl rfl), by decide +kernel⟩, (gT0_tb 741 (by decide +kernel) rfl)⟩
set_option maxRecDepth 100000 in
theorem slX11_249 : gVl RX11 249 yX7_compareToLevel cX7_compareToLevel 6 (some .int) 3 := ⟨⟨Or.inl (gT0_tb 744 (by decide +kernel) rfl), (gT0_tb 12 (by decide +kernel) rfl), (gT0_tb 747 rfl rfl), by decide +kernel⟩, (gT0_tb 745 (by decide +kernel) rfl), (gT0_tb 746 (by decide +kernel) rfl)⟩
set_option maxRecDepth 100000 in
theorem slX11_253 : gVl RX11 253 yX6_areThere cX6_areThere 1 (some .boolean) 0 := ⟨⟨Or.inl (gT0_tb 689 (by decide +kernel) rfl), (gT0_tb 10 (by decide +kernel) rfl), (gT0_tb 692 rfl rfl), by decide +kernel⟩, (gT0_tb 690 (by decide +kernel) rfl), (gT0_tb 691 (by decide +kernel) rfl)⟩
set_option maxRecDepth 100000 in
theorem slX11_256 : gVl RX11 256 yX6_test cX6_test 1 (some .int) 0 := ⟨⟨Or.inl (gT0_tb 752 (by decide +kernel) rfl), (gT0_tb 10 (by decide +kernel) rfl), (gT0_tb 755 rfl rfl), by decide +kernel⟩, (gT0_tb 753 (by decide +kernel) rfl), (gT0_tb 754 (by decide +kernel) rfl)⟩
set_option maxRecDepth 100000 in
theorem slX11_259 : gVl RX11 259 yX6_statistic cX6_statistic 1 (some .int) 0 := ⟨⟨Or.inl (gT0_tb 756 (by decide +kernel) rfl), (gT0_tb 10 (by decide +kernel) rfl), (gT0_tb 759 rfl rfl), by decide +kernel⟩, (gT0_tb 757 (by decide +kernel) rfl), (gT0_tb 758 (by decide +kernel) rfl)⟩
set_option maxRecDepth 100000 in
theorem slX11_262 : gVl RX11 262 yX6_asked cX6_asked 1 (some .int) 0 := ⟨⟨Or.inl (gT0_tb 760 (by decide +kernel) rfl), (gT0_tb 10 (by decide +kernel) rfl), (gT0_tb 763 rfl rfl), by decide +kernel⟩, (gT0_tb 761 (by decide +kernel) rfl), (gT0_tb 762 (by decide +kernel) rfl)⟩
theorem kcX11_265 : Cond.constant RX11 265 (-1000000002) ∈ gT0 := (gT0_tb 764 (by decide +kernel) rfl)
theorem kcX11_266 : Cond.constantLong RX11 266 (-3) ∈ gT0 := (gT0_tb 769 (by decide +kernel) rfl)
theorem kcX11_268 : Cond.constant RX11 268 (-60000) ∈ gT0 := (gT0_tb 770 (by decide +kernel) rfl)
theorem kcX11_269 : Cond.constant RX11 269 (60000) ∈ gT0 := (gT0_tb 771 (by decide +kernel) rfl)
set_option maxRecDepth 100000 in
theorem slX11_270 : gVl RX11 270 yX8_exactly cX8_exactly 8 (some .long) 1 := ⟨⟨Or.inl (gT0_tb 615 (by decide +kernel) rfl), (gT0_tb 8 (by decide +kernel) rfl), (gT0_tb 618 rfl rfl), by decide +kernel⟩, (gT0_tb 616 (by decide +kernel) rfl), (gT0_tb 617 (by decide +kernel) rfl)⟩
set_option maxRecDepth 100000 in
theorem slX11_274 : gVl RX11 274 yX1_isFull cX1_isFull 1 (some .boolean) 0 := ⟨⟨Or.inl (gT0_tb 776 (by decide +kernel) rfl), (gT0_tb 13 (by decide +kernel) rfl), (gT0_tb 779 rfl rfl), by decide +kernel⟩, (gT0_tb 777 (by decide +kernel) rfl), (gT0_tb 778 (by decide +kernel) rfl)⟩
set_option maxRecDepth 100000 in
theorem slX11_275 : gVl RX11 275 yX1_add cX1_add 3 (some .int) 1 := ⟨⟨Or.inl (gT0_tb 780 (by decide +kernel) rfl), (gT0_tb 13 (by decide +kernel) rfl), (gT0_tb 783 rfl rfl), by decide +kernel⟩, (gT0_tb 781 (by decide +kernel) rfl), (gT0_tb 782 (by decide +kernel) rfl)⟩
set_option maxRecDepth 100000 in
theorem slX11_278 : gVl RX11 278 yX1_countRejected cX1_countRejected 6 (some .int) 2 := ⟨⟨Or.inl (gT0_tb 801 (by decide +kernel) rfl), (gT0_tb 13 (by decide +kernel) rfl), (gT0_tb 804 rfl rfl), by decide +kernel⟩, (gT0_tb 802 (by decide +kernel) rfl), (gT0_tb 803 (by decide +kernel) rfl)⟩
set_option maxRecDepth 100000 in
theorem slX11_281 : gVl RX11 281 yX1_has cX1_has 2 (some .boolean) 1 := ⟨⟨Or.inl (gT0_tb 810 (by decide +kernel) rfl), (gT0_tb 13 (by decide +kernel) rfl), (gT0_tb 813 rfl rfl), by decide +kernel⟩, (gT0_tb 811 (by decide +kernel) rfl), (gT0_tb 812 (by decide +kernel) rfl)⟩
set_option maxRecDepth 100000 in
theorem slX11_282 : gVl RX11 282 yX1_placeOf cX1_placeOf 3 (some .int) 1 := ⟨⟨Or.inl (gT0_tb 814 (by decide +kernel) rfl), (gT0_tb 13 (by decide +kernel) rfl), (gT0_tb 817 rfl rfl), by decide +kernel⟩, (gT0_tb 815 (by decide +kernel) rfl), (gT0_tb 816 (by decide +kernel) rfl)⟩
theorem kcX11_285 : Cond.constant RX11 285 (65535) ∈ gT0 := (gT0_tb 822 (by decide +kernel) rfl)
set_option maxRecDepth 100000 in
theorem slX11_286 : gVl RX11 286 yX2_countWords cX2_countWords 1 (some .int) 0 := ⟨⟨Or.inl (gT0_tb 827 (by decide +kernel) rfl), (gT0_tb 11 (by decide +kernel) rfl), (gT0_tb 830 rfl rfl), by decide +kernel⟩, (gT0_tb 828 (by decide +kernel) rfl), (gT0_tb 829 (by decide +kernel) rfl)⟩
set_option maxRecDepth 100000 in
theorem slX11_289 : gSl RX11 289 yJ9_min_7cf53 cJ9_min_7cf53 2 (some .int) 2 := ⟨⟨Or.inl (gT0_tb 836 (by decide +kernel) rfl), (gT0_tb 4 (by decide +kernel) rfl), (gT0_tb 407 rfl rfl), by decide +kernel⟩, (gT0_tb 406 (by decide +kernel) rfl)⟩
set_option maxRecDepth 100000 in
theorem slX11_292 : gVl RX11 292 yX2_wordInTurn cX2_wordInTurn 3 (some .int) 1 := ⟨⟨Or.inl (gT0_tb 837 (by decide +kernel) rfl), (gT0_tb 11 (by decide +kernel) rfl), (gT0_tb 840 rfl rfl), by decide +kernel⟩, (gT0_tb 838 (by decide +kernel) rfl), (gT0_tb 839 (by decide +kernel) rfl)⟩
set_option maxRecDepth 100000 in
theorem slX11_295 : gVl RX11 295 yX11_shiftInPlace cX11_shiftInPlace 5 (some .int) 1 := ⟨⟨Or.inl (gT0_tb 846 (by decide +kernel) rfl), (gT0_tb 1 (by decide +kernel) rfl), (gT0_tb 849 rfl rfl), by decide +kernel⟩, (gT0_tb 848 (by decide +kernel) rfl), (gT0_sl 23 (by decide +kernel) rfl)⟩
set_option maxRecDepth 100000 in
theorem slX11_298 : gVl RX11 298 yX1_size cX1_size 1 (some .int) 0 := ⟨⟨Or.inl (gT0_tb 858 (by decide +kernel) rfl), (gT0_tb 13 (by decide +kernel) rfl), (gT0_tb 861 rfl rfl), by decide +kernel⟩, (gT0_tb 859 (by decide +kernel) rfl), (gT0_tb 860 (by decide +kernel) rfl)⟩
theorem kcX11_299 : Cond.constant RX11 299 (1000000) ∈ gT0 := (gT0_tb 743 (by decide +kernel) rfl)
set_option maxRecDepth 100000 in
theorem slX11_300 : gVl RX11 300 yX5_countBelow cX5_countBelow 4 (some .int) 1 := ⟨⟨Or.inl (gT0_tb 574 (by decide +kernel) rfl), (gT0_tb 3 (by decide +kernel) rfl), (gT0_tb 577 rfl rfl), by decide +kernel⟩, (gT0_tb 575 (by decide +kernel) rfl), (gT0_tb 576 (by decide +kernel) rfl)⟩
set_option maxRecDepth 100000 in
theorem slX11_303 : gSl RX11 303 yX11_twiceMeanPlace cX11_twiceMeanPlace 2 (some .int) 2 := ⟨⟨Or.inl (gT0_tb 582 (by decide +kernel) rfl), (gT0_tb 1 (by decide +kernel) rfl), (gT0_tb 584 rfl rfl), by decide +kernel⟩, (gT0_tb 583 (by decide +kernel) rfl)⟩
set_option maxRecDepth 100000 in
theorem slX11_306 : gVl RX11 306 yX8_countAll cX8_countAll 1 (some .long) 0 := ⟨⟨Or.inl (gT0_tb 607 (by decide +kernel) rfl), (gT0_tb 8 (by decide +kernel) rfl), (gT0_tb 610 rfl rfl), by decide +kernel⟩, (gT0_tb 608 (by decide +kernel) rfl), (gT0_tb 609 (by decide +kernel) rfl)⟩
set_option maxRecDepth 100000 in
theorem slX11_310 : gVl RX11 310 yX8_upTo cX8_upTo 10 (some .long) 1 := ⟨⟨Or.inl (gT0_tb 611 (by decide +kernel) rfl), (gT0_tb 8 (by decide +kernel) rfl), (gT0_tb 614 rfl rfl), by decide +kernel⟩, (gT0_tb 612 (by decide +kernel) rfl), (gT0_tb 613 (by decide +kernel) rfl)⟩
set_option maxRecDepth 100000 in
theorem slX11_313 : gVl RX11 313 yX2_setLongs cX2_setLongs 5 none 2 := ⟨⟨Or.inl (gT0_tb 619 (by decide +kernel) rfl), (gT0_tb 11 (by decide +kernel) rfl), (gT0_tb 622 rfl rfl), by decide +kernel⟩, (gT0_tb 620 (by decide +kernel) rfl), (gT0_tb 621 (by decide +kernel) rfl)⟩
set_option maxRecDepth 100000 in
theorem slX11_317 : gSl RX11 317 yJ9_floorDiv_7cf53 cJ9_floorDiv_7cf53 3 (some .int) 2 := ⟨⟨Or.inl (gT0_tb 624 (by decide +kernel) rfl), (gT0_tb 4 (by decide +kernel) rfl), (gT0_tb 626 rfl rfl), by decide +kernel⟩, (gT0_tb 625 (by decide +kernel) rfl)⟩
set_option maxRecDepth 100000 in
theorem slX11_320 : gVl RX11 320 yX11_countShiftsUpTo cX11_countShiftsUpTo 4 (some .int) 1 := ⟨⟨Or.inl (gT0_tb 850 (by decide +kernel) rfl), (gT0_tb 1 (by decide +kernel) rfl), (gT0_tb 853 rfl rfl), by decide +kernel⟩, (gT0_tb 852 (by decide +kernel) rfl), (gT0_sl 24 (by decide +kernel) rfl)⟩
theorem oiX12_1 : Cond.methodLink RX12 1 Lib.objectInit ∈ gT0 := (gT0_tb 867 (by decide +kernel) rfl)
theorem lpX12_7 : gLp RX12 7 12 0 (.array .int) true := ⟨RX12, TX12, 47, tyX12, rfl, by decide, inX12, tyX12_ok, nmX12, rfl, tyX12_ok 0 (by decide), rfl, (gT0_tb 871 (by decide +kernel) rfl)⟩
theorem lpX12_13 : gLp RX12 13 12 1 (.array .int) true := ⟨RX12, TX12, 47, tyX12, rfl, by decide, inX12, tyX12_ok, nmX12, rfl, tyX12_ok 1 (by decide), rfl, (gT0_tb 872 (by decide +kernel) rfl)⟩
theorem lpX12_16 : gLp RX12 16 12 2 (.array .int) true := ⟨RX12, TX12, 47, tyX12, rfl, by decide, inX12, tyX12_ok, nmX12, rfl, tyX12_ok 2 (by decide), rfl, (gT0_tb 873 (by decide +kernel) rfl)⟩
theorem lpX12_19 : gLp RX12 19 12 3 (.array .int) true := ⟨RX12, TX12, 47, tyX12, rfl, by decide, inX12, tyX12_ok, nmX12, rfl, tyX12_ok 3 (by decide), rfl, (gT0_tb 874 (by decide +kernel) rfl)⟩
theorem lpX12_22 : gLp RX12 22 12 6 (.array .int) true := ⟨RX12, TX12, 47, tyX12, rfl, by decide, inX12, tyX12_ok, nmX12, rfl, tyX12_ok 6 (by decide), rfl, (gT0_tb 877 (by decide +kernel) rfl)⟩
theorem lpX12_25 : gLp RX12 25 12 8 (.array .int) true := ⟨RX12, TX12, 47, tyX12, rfl, by decide, inX12, tyX12_ok, nmX12, rfl, tyX12_ok 8 (by decide), rfl, (gT0_tb 879 (by decide +kernel) rfl)⟩
theorem lpX12_28 : gLp RX12 28 12 9 (.array .int) true := ⟨RX12, TX12, 47, tyX12, rfl, by decide, inX12, tyX12_ok, nmX12, rfl, tyX12_ok 9 (by decide), rfl, (gT0_tb 880 (by decide +kernel) rfl)⟩
theorem lpX12_31 : gLp RX12 31 12 10 (.array .int) true := ⟨RX12, TX12, 47, tyX12, rfl, by decide, inX12, tyX12_ok, nmX12, rfl, tyX12_ok 10 (by decide), rfl, (gT0_tb 881 (by decide +kernel) rfl)⟩
theorem lpX12_34 : gLp RX12 34 12 12 (.int) false := ⟨RX12, TX12, 47, tyX12, rfl, by decide, inX12, tyX12_ok, nmX12, rfl, tyX12_ok 12 (by decide), rfl, (gT0_tb 883 (by decide +kernel) rfl)⟩
theorem lpX12_38 : gLp RX12 38 12 15 (.array .int) true := ⟨RX12, TX12, 47, tyX12, rfl, by decide, inX12, tyX12_ok, nmX12, rfl, tyX12_ok 15 (by decide), rfl, (gT0_tb 886 (by decide +kernel) rfl)⟩
theorem lpX12_41 : gLp RX12 41 12 16 (.array .int) true := ⟨RX12, TX12, 47, tyX12, rfl, by decide, inX12, tyX12_ok, nmX12, rfl, tyX12_ok 16 (by decide), rfl, (gT0_tb 887 (by decide +kernel) rfl)⟩
theorem kcX12_44 : Cond.constant RX12 44 (60001) ∈ gT0 := (gT0_tb 868 (by decide +kernel) rfl)
theorem lpX12_45 : gLp RX12 45 12 17 (.array .long) true := ⟨RX12, TX12, 47, tyX12, rfl, by decide, inX12, tyX12_ok, nmX12, rfl, tyX12_ok 17 (by decide), rfl, (gT0_tb 888 (by decide +kernel) rfl)⟩
theorem lpX12_49 : gLp RX12 49 12 20 (.array .int) true := ⟨RX12, TX12, 47, tyX12, rfl, by decide, inX12, tyX12_ok, nmX12, rfl, tyX12_ok 20 (by decide), rfl, (gT0_tb 891 (by decide +kernel) rfl)⟩
theorem lpX12_52 : gLp RX12 52 12 21 (.array .int) true := ⟨RX12, TX12, 47, tyX12, rfl, by decide, inX12, tyX12_ok, nmX12, rfl, tyX12_ok 21 (by decide), rfl, (gT0_tb 892 (by decide +kernel) rfl)⟩
theorem lpX12_55 : gLp RX12 55 12 22 (.array .int) true := ⟨RX12, TX12, 47, tyX12, rfl, by decide, inX12, tyX12_ok, nmX12, rfl, tyX12_ok 22 (by decide), rfl, (gT0_tb 893 (by decide +kernel) rfl)⟩
theorem lpX12_58 : gLp RX12 58 12 23 (.array .int) true := ⟨RX12, TX12, 47, tyX12, rfl, by decide, inX12, tyX12_ok, nmX12, rfl, tyX12_ok 23 (by decide), rfl, (gT0_tb 894 (by decide +kernel) rfl)⟩
theorem kcX12_61 : Cond.constant RX12 61 (500000) ∈ gT0 := (gT0_tb 869 (by decide +kernel) rfl)
theorem lpX12_62 : gLp RX12 62 12 24 (.array .byte) true := ⟨RX12, TX12, 47, tyX12, rfl, by decide, inX12, tyX12_ok, nmX12, rfl, tyX12_ok 24 (by decide), rfl, (gT0_tb 895 (by decide +kernel) rfl)⟩
theorem lpX12_66 : gLp RX12 66 12 28 (.array .byte) true := ⟨RX12, TX12, 47, tyX12, rfl, by decide, inX12, tyX12_ok, nmX12, rfl, tyX12_ok 28 (by decide), rfl, (gT0_tb 899 (by decide +kernel) rfl)⟩
theorem lpX12_69 : gLp RX12 69 12 29 (.array .int) true := ⟨RX12, TX12, 47, tyX12, rfl, by decide, inX12, tyX12_ok, nmX12, rfl, tyX12_ok 29 (by decide), rfl, (gT0_tb 900 (by decide +kernel) rfl)⟩
theorem lpX12_72 : gLp RX12 72 12 30 (.array .int) true := ⟨RX12, TX12, 47, tyX12, rfl, by decide, inX12, tyX12_ok, nmX12, rfl, tyX12_ok 30 (by decide), rfl, (gT0_tb 901 (by decide +kernel) rfl)⟩
theorem lpX12_75 : gLp RX12 75 12 31 (.array .int) true := ⟨RX12, TX12, 47, tyX12, rfl, by decide, inX12, tyX12_ok, nmX12, rfl, tyX12_ok 31 (by decide), rfl, (gT0_tb 902 (by decide +kernel) rfl)⟩
theorem lpX12_78 : gLp RX12 78 12 32 (.array .int) true := ⟨RX12, TX12, 47, tyX12, rfl, by decide, inX12, tyX12_ok, nmX12, rfl, tyX12_ok 32 (by decide), rfl, (gT0_tb 903 (by decide +kernel) rfl)⟩
theorem lpX12_81 : gLp RX12 81 12 33 (.array .int) true := ⟨RX12, TX12, 47, tyX12, rfl, by decide, inX12, tyX12_ok, nmX12, rfl, tyX12_ok 33 (by decide), rfl, (gT0_tb 904 (by decide +kernel) rfl)⟩
theorem lpX12_84 : gLp RX12 84 12 35 (.array .int) true := ⟨RX12, TX12, 47, tyX12, rfl, by decide, inX12, tyX12_ok, nmX12, rfl, tyX12_ok 35 (by decide), rfl, (gT0_tb 906 (by decide +kernel) rfl)⟩
theorem kcX12_87 : Cond.constant RX12 87 (480016) ∈ gT0 := (gT0_tb 870 (by decide +kernel) rfl)
theorem lpX12_88 : gLp RX12 88 12 36 (.array .long) true := ⟨RX12, TX12, 47, tyX12, rfl, by decide, inX12, tyX12_ok, nmX12, rfl, tyX12_ok 36 (by decide), rfl, (gT0_tb 907 (by decide +kernel) rfl)⟩
theorem lpX12_91 : gLp RX12 91 12 37 (.array .int) true := ⟨RX12, TX12, 47, tyX12, rfl, by decide, inX12, tyX12_ok, nmX12, rfl, tyX12_ok 37 (by decide), rfl, (gT0_tb 908 (by decide +kernel) rfl)⟩
theorem lpX12_94 : gLp RX12 94 12 38 (.array .int) true := ⟨RX12, TX12, 47, tyX12, rfl, by decide, inX12, tyX12_ok, nmX12, rfl, tyX12_ok 38 (by decide), rfl, (gT0_tb 909 (by decide +kernel) rfl)⟩
theorem lpX12_97 : gLp RX12 97 12 39 (.array .int) true := ⟨RX12, TX12, 47, tyX12, rfl, by decide, inX12, tyX12_ok, nmX12, rfl, tyX12_ok 39 (by decide), rfl, (gT0_tb 910 (by decide +kernel) rfl)⟩
theorem lpX12_100 : gLp RX12 100 12 41 (.array .int) true := ⟨RX12, TX12, 47, tyX12, rfl, by decide, inX12, tyX12_ok, nmX12, rfl, tyX12_ok 41 (by decide), rfl, (gT0_tb 912 (by decide +kernel) rfl)⟩
theorem lpX12_103 : gLp RX12 103 12 42 (.array .int) true := ⟨RX12, TX12, 47, tyX12, rfl, by decide, inX12, tyX12_ok, nmX12, rfl, tyX12_ok 42 (by decide), rfl, (gT0_tb 913 (by decide +kernel) rfl)⟩
theorem lpX12_106 : gLp RX12 106 12 43 (.array .int) true := ⟨RX12, TX12, 47, tyX12, rfl, by decide, inX12, tyX12_ok, nmX12, rfl, tyX12_ok 43 (by decide), rfl, (gT0_tb 914 (by decide +kernel) rfl)⟩
theorem lpX12_109 : gLp RX12 109 12 44 (.array .int) true := ⟨RX12, TX12, 47, tyX12, rfl, by decide, inX12, tyX12_ok, nmX12, rfl, tyX12_ok 44 (by decide), rfl, (gT0_tb 915 (by decide +kernel) rfl)⟩
theorem lpX12_112 : gLp RX12 112 12 46 (.array .int) true := ⟨RX12, TX12, 47, tyX12, rfl, by decide, inX12, tyX12_ok, nmX12, rfl, tyX12_ok 46 (by decide), rfl, (gT0_tb 917 (by decide +kernel) rfl)⟩
theorem lpX12_115 : gLp RX12 115 12 4 (.int) false := ⟨RX12, TX12, 47, tyX12, rfl, by decide, inX12, tyX12_ok, nmX12, rfl, tyX12_ok 4 (by decide), rfl, (gT0_tb 875 (by decide +kernel) rfl)⟩
theorem lpX12_118 : gLp RX12 118 12 5 (.int) false := ⟨RX12, TX12, 47, tyX12, rfl, by decide, inX12, tyX12_ok, nmX12, rfl, tyX12_ok 5 (by decide), rfl, (gT0_tb 876 (by decide +kernel) rfl)⟩
theorem kcX12_121 : Cond.constantLong RX12 121 (16777215) ∈ gT0 := (gT0_tb 1081 (by decide +kernel) rfl)
theorem kcX12_123 : Cond.constant RX12 123 (16777215) ∈ gT0 := (gT0_tb 1110 (by decide +kernel) rfl)
theorem kcX12_124 : Cond.constant RX12 124 (16777216) ∈ gT0 := (gT0_tb 1135 (by decide +kernel) rfl)
theorem kcX12_125 : Cond.constantLong RX12 125 (16777216) ∈ gT0 := (gT0_tb 1099 (by decide +kernel) rfl)
theorem lkX12_7 : gLk RX12 7 12 0 := ⟨RX12, TX12, 47, rfl, by decide, inX12, Or.inl (gT0_tb 871 (by decide +kernel) rfl)⟩
set_option maxRecDepth 100000 in
theorem slX12_127 : gSl RX12 127 yX12_set cX12_set 7 none 3 := ⟨⟨Or.inl (gT0_tb 1078 (by decide +kernel) rfl), (gT0_tb 14 (by decide +kernel) rfl), (gT0_tb 1080 rfl rfl), by decide +kernel⟩, (gT0_tb 1079 (by decide +kernel) rfl)⟩
theorem lkX12_13 : gLk RX12 13 12 1 := ⟨RX12, TX12, 47, rfl, by decide, inX12, Or.inl (gT0_tb 872 (by decide +kernel) rfl)⟩
set_option maxRecDepth 100000 in
theorem slX12_131 : gSl RX12 131 yX12_bitsOf cX12_bitsOf 4 (some .int) 2 := ⟨⟨Or.inl (gT0_tb 1119 (by decide +kernel) rfl), (gT0_tb 14 (by decide +kernel) rfl), (gT0_tb 1121 rfl rfl), by decide +kernel⟩, (gT0_tb 1120 (by decide +kernel) rfl)⟩
set_option maxRecDepth 100000 in
theorem slX12_135 : gSl RX12 135 yX12_bitAt cX12_bitAt 3 (some .int) 3 := ⟨⟨Or.inl (gT0_tb 1126 (by decide +kernel) rfl), (gT0_tb 14 (by decide +kernel) rfl), (gT0_tb 1128 rfl rfl), by decide +kernel⟩, (gT0_tb 1127 (by decide +kernel) rfl)⟩
set_option maxRecDepth 100000 in
theorem slX12_139 : gSl RX12 139 yX12_twice cX12_twice 6 none 3 := ⟨⟨Or.inl (gT0_tb 1129 (by decide +kernel) rfl), (gT0_tb 14 (by decide +kernel) rfl), (gT0_tb 1131 rfl rfl), by decide +kernel⟩, (gT0_tb 1130 (by decide +kernel) rfl)⟩
set_option maxRecDepth 100000 in
theorem slX12_143 : gSl RX12 143 yX12_compare cX12_compare 5 (some .int) 4 := ⟨⟨Or.inl (gT0_tb 1104 (by decide +kernel) rfl), (gT0_tb 14 (by decide +kernel) rfl), (gT0_tb 1106 rfl rfl), by decide +kernel⟩, (gT0_tb 1105 (by decide +kernel) rfl)⟩
set_option maxRecDepth 100000 in
theorem slX12_147 : gSl RX12 147 yX12_subtract cX12_subtract 7 none 4 := ⟨⟨Or.inl (gT0_tb 1132 (by decide +kernel) rfl), (gT0_tb 14 (by decide +kernel) rfl), (gT0_tb 1134 rfl rfl), by decide +kernel⟩, (gT0_tb 1133 (by decide +kernel) rfl)⟩
theorem lkX12_16 : gLk RX12 16 12 2 := ⟨RX12, TX12, 47, rfl, by decide, inX12, Or.inl (gT0_tb 873 (by decide +kernel) rfl)⟩
set_option maxRecDepth 100000 in
theorem slX12_151 : gSl RX12 151 yX12_copy cX12_copy 5 none 4 := ⟨⟨Or.inl (gT0_tb 1093 (by decide +kernel) rfl), (gT0_tb 14 (by decide +kernel) rfl), (gT0_tb 1095 rfl rfl), by decide +kernel⟩, (gT0_tb 1094 (by decide +kernel) rfl)⟩
theorem lkX12_19 : gLk RX12 19 12 3 := ⟨RX12, TX12, 47, rfl, by decide, inX12, Or.inl (gT0_tb 874 (by decide +kernel) rfl)⟩
set_option maxRecDepth 100000 in
theorem slX12_154 : gVl RX12 154 yX12_part cX12_part 6 none 4 := ⟨⟨Or.inl (gT0_tb 1122 (by decide +kernel) rfl), (gT0_tb 14 (by decide +kernel) rfl), (gT0_tb 1125 rfl rfl), by decide +kernel⟩, (gT0_tb 1124 (by decide +kernel) rfl), (gT0_sl 37 (by decide +kernel) rfl)⟩
theorem kcX12_157 : Cond.constantLong RX12 157 (5) ∈ gT0 := (gT0_tb 1018 (by decide +kernel) rfl)
set_option maxRecDepth 100000 in
theorem slX12_159 : gSl RX12 159 yX12_in cX12_in 6 (some .boolean) 3 := ⟨⟨Or.inl (gT0_tb 1019 (by decide +kernel) rfl), (gT0_tb 14 (by decide +kernel) rfl), (gT0_tb 1021 rfl rfl), by decide +kernel⟩, (gT0_tb 1020 (by decide +kernel) rfl)⟩
theorem lkX12_22 : gLk RX12 22 12 6 := ⟨RX12, TX12, 47, rfl, by decide, inX12, Or.inl (gT0_tb 877 (by decide +kernel) rfl)⟩
theorem lpX12_163 : gLp RX12 163 12 7 (.int) false := ⟨RX12, TX12, 47, tyX12, rfl, by decide, inX12, tyX12_ok, nmX12, rfl, tyX12_ok 7 (by decide), rfl, (gT0_tb 878 (by decide +kernel) rfl)⟩
theorem lkX12_115 : gLk RX12 115 12 4 := ⟨RX12, TX12, 47, rfl, by decide, inX12, Or.inl (gT0_tb 875 (by decide +kernel) rfl)⟩
theorem lkX12_118 : gLk RX12 118 12 5 := ⟨RX12, TX12, 47, rfl, by decide, inX12, Or.inl (gT0_tb 876 (by decide +kernel) rfl)⟩
theorem kcX12_166 : Cond.constantLong RX12 166 (60) ∈ gT0 := (gT0_tb 1026 (by decide +kernel) rfl)
theorem lkX12_163 : gLk RX12 163 12 7 := ⟨RX12, TX12, 47, rfl, by decide, inX12, Or.inl (gT0_tb 878 (by decide +kernel) rfl)⟩
theorem kcX12_168 : Cond.constantLong RX12 168 (3) ∈ gT0 := (gT0_tb 1031 (by decide +kernel) rfl)
set_option maxRecDepth 100000 in
theorem slX12_170 : gVl RX12 170 yX12_marginOfRow cX12_marginOfRow 4 (some .int) 1 := ⟨⟨Or.inl (gT0_tb 1032 (by decide +kernel) rfl), (gT0_tb 14 (by decide +kernel) rfl), (gT0_tb 1035 rfl rfl), by decide +kernel⟩, (gT0_tb 1034 (by decide +kernel) rfl), (gT0_sl 25 (by decide +kernel) rfl)⟩
set_option maxRecDepth 100000 in
theorem slX12_174 : gVl RX12 174 yX12_marginOfColumn cX12_marginOfColumn 4 (some .int) 1 := ⟨⟨Or.inl (gT0_tb 1036 (by decide +kernel) rfl), (gT0_tb 14 (by decide +kernel) rfl), (gT0_tb 1039 rfl rfl), by decide +kernel⟩, (gT0_tb 1038 (by decide +kernel) rfl), (gT0_sl 26 (by decide +kernel) rfl)⟩
theorem kcX12_177 : Cond.constantLong RX12 177 (-1000) ∈ gT0 := (gT0_tb 1044 (by decide +kernel) rfl)
theorem kcX12_179 : Cond.constantLong RX12 179 (1000) ∈ gT0 := (gT0_tb 1045 (by decide +kernel) rfl)
theorem lkX12_28 : gLk RX12 28 12 9 := ⟨RX12, TX12, 47, rfl, by decide, inX12, Or.inl (gT0_tb 880 (by decide +kernel) rfl)⟩
theorem lkX12_25 : gLk RX12 25 12 8 := ⟨RX12, TX12, 47, rfl, by decide, inX12, Or.inl (gT0_tb 879 (by decide +kernel) rfl)⟩
theorem lkX12_181 : gLk RX12 181 12 11 := ⟨RX12, TX12, 47, rfl, by decide, inX12, Or.inl (gT0_tb 882 (by decide +kernel) rfl)⟩
theorem lkX12_31 : gLk RX12 31 12 10 := ⟨RX12, TX12, 47, rfl, by decide, inX12, Or.inl (gT0_tb 881 (by decide +kernel) rfl)⟩
theorem lpX12_181 : gLp RX12 181 12 11 (.int) false := ⟨RX12, TX12, 47, tyX12, rfl, by decide, inX12, tyX12_ok, nmX12, rfl, tyX12_ok 11 (by decide), rfl, (gT0_tb 882 (by decide +kernel) rfl)⟩
theorem lkX12_184 : gLk RX12 184 12 40 := ⟨RX12, TX12, 47, rfl, by decide, inX12, Or.inl (gT0_tb 911 (by decide +kernel) rfl)⟩
theorem lpX12_184 : gLp RX12 184 12 40 (.int) false := ⟨RX12, TX12, 47, tyX12, rfl, by decide, inX12, tyX12_ok, nmX12, rfl, tyX12_ok 40 (by decide), rfl, (gT0_tb 911 (by decide +kernel) rfl)⟩
theorem lkX12_187 : gLk RX12 187 12 45 := ⟨RX12, TX12, 47, rfl, by decide, inX12, Or.inl (gT0_tb 916 (by decide +kernel) rfl)⟩
theorem lpX12_187 : gLp RX12 187 12 45 (.int) false := ⟨RX12, TX12, 47, tyX12, rfl, by decide, inX12, tyX12_ok, nmX12, rfl, tyX12_ok 45 (by decide), rfl, (gT0_tb 916 (by decide +kernel) rfl)⟩
theorem lkX12_38 : gLk RX12 38 12 15 := ⟨RX12, TX12, 47, rfl, by decide, inX12, Or.inl (gT0_tb 886 (by decide +kernel) rfl)⟩
set_option maxRecDepth 100000 in
theorem slX12_190 : gVl RX12 190 yX12_findCommon cX12_findCommon 5 none 4 := ⟨⟨Or.inl (gT0_tb 1115 (by decide +kernel) rfl), (gT0_tb 14 (by decide +kernel) rfl), (gT0_tb 1118 rfl rfl), by decide +kernel⟩, (gT0_tb 1117 (by decide +kernel) rfl), (gT0_sl 36 (by decide +kernel) rfl)⟩
theorem lkX12_41 : gLk RX12 41 12 16 := ⟨RX12, TX12, 47, rfl, by decide, inX12, Or.inl (gT0_tb 887 (by decide +kernel) rfl)⟩
theorem lkX12_55 : gLk RX12 55 12 22 := ⟨RX12, TX12, 47, rfl, by decide, inX12, Or.inl (gT0_tb 893 (by decide +kernel) rfl)⟩
theorem lkX12_49 : gLk RX12 49 12 20 := ⟨RX12, TX12, 47, rfl, by decide, inX12, Or.inl (gT0_tb 891 (by decide +kernel) rfl)⟩
set_option maxRecDepth 100000 in
theorem slX12_193 : gVl RX12 193 yX12_columnLeft cX12_columnLeft 5 (some .int) 2 := ⟨⟨Or.inl (gT0_tb 1070 (by decide +kernel) rfl), (gT0_tb 14 (by decide +kernel) rfl), (gT0_tb 1073 rfl rfl), by decide +kernel⟩, (gT0_tb 1072 (by decide +kernel) rfl), (gT0_sl 30 (by decide +kernel) rfl)⟩
theorem lkX12_52 : gLk RX12 52 12 21 := ⟨RX12, TX12, 47, rfl, by decide, inX12, Or.inl (gT0_tb 892 (by decide +kernel) rfl)⟩
theorem lkX12_58 : gLk RX12 58 12 23 := ⟨RX12, TX12, 47, rfl, by decide, inX12, Or.inl (gT0_tb 894 (by decide +kernel) rfl)⟩
set_option maxRecDepth 100000 in
theorem slX12_197 : gVl RX12 197 yX12_openFrom cX12_openFrom 3 none 1 := ⟨⟨Or.inl (gT0_tb 1062 (by decide +kernel) rfl), (gT0_tb 14 (by decide +kernel) rfl), (gT0_tb 1065 rfl rfl), by decide +kernel⟩, (gT0_tb 1064 (by decide +kernel) rfl), (gT0_sl 28 (by decide +kernel) rfl)⟩
set_option maxRecDepth 100000 in
theorem slX12_201 : gVl RX12 201 yX12_open cX12_open 7 none 1 := ⟨⟨Or.inl (gT0_tb 1066 (by decide +kernel) rfl), (gT0_tb 14 (by decide +kernel) rfl), (gT0_tb 1069 rfl rfl), by decide +kernel⟩, (gT0_tb 1068 (by decide +kernel) rfl), (gT0_sl 29 (by decide +kernel) rfl)⟩
set_option maxRecDepth 100000 in
theorem slX12_204 : gSl RX12 204 yX12_multiply cX12_multiply 6 none 3 := ⟨⟨Or.inl (gT0_tb 1086 (by decide +kernel) rfl), (gT0_tb 14 (by decide +kernel) rfl), (gT0_tb 1088 rfl rfl), by decide +kernel⟩, (gT0_tb 1087 (by decide +kernel) rfl)⟩
theorem lkX12_69 : gLk RX12 69 12 29 := ⟨RX12, TX12, 47, rfl, by decide, inX12, Or.inl (gT0_tb 900 (by decide +kernel) rfl)⟩
set_option maxRecDepth 100000 in
theorem slX12_207 : gSl RX12 207 yX12_divide cX12_divide 6 none 3 := ⟨⟨Or.inl (gT0_tb 1096 (by decide +kernel) rfl), (gT0_tb 14 (by decide +kernel) rfl), (gT0_tb 1098 rfl rfl), by decide +kernel⟩, (gT0_tb 1097 (by decide +kernel) rfl)⟩
set_option maxRecDepth 100000 in
theorem slX12_210 : gVl RX12 210 yX12_firstTable cX12_firstTable 2 none 0 := ⟨⟨Or.inl (gT0_tb 1058 (by decide +kernel) rfl), (gT0_tb 14 (by decide +kernel) rfl), (gT0_tb 1061 rfl rfl), by decide +kernel⟩, (gT0_tb 1060 (by decide +kernel) rfl), (gT0_sl 27 (by decide +kernel) rfl)⟩
set_option maxRecDepth 100000 in
theorem slX12_213 : gVl RX12 213 yX12_nextTable cX12_nextTable 2 (some .boolean) 0 := ⟨⟨Or.inl (gT0_tb 1074 (by decide +kernel) rfl), (gT0_tb 14 (by decide +kernel) rfl), (gT0_tb 1077 rfl rfl), by decide +kernel⟩, (gT0_tb 1076 (by decide +kernel) rfl), (gT0_sl 31 (by decide +kernel) rfl)⟩
set_option maxRecDepth 100000 in
theorem slX12_217 : gVl RX12 217 yX12_timesFactorial cX12_timesFactorial 4 none 2 := ⟨⟨Or.inl (gT0_tb 1082 (by decide +kernel) rfl), (gT0_tb 14 (by decide +kernel) rfl), (gT0_tb 1085 rfl rfl), by decide +kernel⟩, (gT0_tb 1084 (by decide +kernel) rfl), (gT0_sl 32 (by decide +kernel) rfl)⟩
theorem lkX12_75 : gLk RX12 75 12 31 := ⟨RX12, TX12, 47, rfl, by decide, inX12, Or.inl (gT0_tb 902 (by decide +kernel) rfl)⟩
set_option maxRecDepth 100000 in
theorem slX12_221 : gVl RX12 221 yX12_weigh cX12_weigh 5 none 2 := ⟨⟨Or.inl (gT0_tb 1089 (by decide +kernel) rfl), (gT0_tb 14 (by decide +kernel) rfl), (gT0_tb 1092 rfl rfl), by decide +kernel⟩, (gT0_tb 1091 (by decide +kernel) rfl), (gT0_sl 33 (by decide +kernel) rfl)⟩
theorem lkX12_78 : gLk RX12 78 12 32 := ⟨RX12, TX12, 47, rfl, by decide, inX12, Or.inl (gT0_tb 903 (by decide +kernel) rfl)⟩
theorem lkX12_72 : gLk RX12 72 12 30 := ⟨RX12, TX12, 47, rfl, by decide, inX12, Or.inl (gT0_tb 901 (by decide +kernel) rfl)⟩
set_option maxRecDepth 100000 in
theorem slX12_225 : gVl RX12 225 yX12_keepCase cX12_keepCase 3 none 1 := ⟨⟨Or.inl (gT0_tb 1100 (by decide +kernel) rfl), (gT0_tb 14 (by decide +kernel) rfl), (gT0_tb 1103 rfl rfl), by decide +kernel⟩, (gT0_tb 1102 (by decide +kernel) rfl), (gT0_sl 34 (by decide +kernel) rfl)⟩
theorem lpX12_228 : gLp RX12 228 12 25 (.int) false := ⟨RX12, TX12, 47, tyX12, rfl, by decide, inX12, tyX12_ok, nmX12, rfl, tyX12_ok 25 (by decide), rfl, (gT0_tb 896 (by decide +kernel) rfl)⟩
theorem lpX12_231 : gLp RX12 231 12 26 (.int) false := ⟨RX12, TX12, 47, tyX12, rfl, by decide, inX12, tyX12_ok, nmX12, rfl, tyX12_ok 26 (by decide), rfl, (gT0_tb 897 (by decide +kernel) rfl)⟩
theorem lpX12_234 : gLp RX12 234 12 27 (.int) false := ⟨RX12, TX12, 47, tyX12, rfl, by decide, inX12, tyX12_ok, nmX12, rfl, tyX12_ok 27 (by decide), rfl, (gT0_tb 898 (by decide +kernel) rfl)⟩
theorem lpX12_237 : gLp RX12 237 12 13 (.int) false := ⟨RX12, TX12, 47, tyX12, rfl, by decide, inX12, tyX12_ok, nmX12, rfl, tyX12_ok 13 (by decide), rfl, (gT0_tb 884 (by decide +kernel) rfl)⟩
theorem lpX12_240 : gLp RX12 240 12 14 (.int) false := ⟨RX12, TX12, 47, tyX12, rfl, by decide, inX12, tyX12_ok, nmX12, rfl, tyX12_ok 14 (by decide), rfl, (gT0_tb 885 (by decide +kernel) rfl)⟩
set_option maxRecDepth 100000 in
theorem slX12_243 : gVl RX12 243 yX12_shorten cX12_shorten 3 none 1 := ⟨⟨Or.inl (gT0_tb 1111 (by decide +kernel) rfl), (gT0_tb 14 (by decide +kernel) rfl), (gT0_tb 1114 rfl rfl), by decide +kernel⟩, (gT0_tb 1113 (by decide +kernel) rfl), (gT0_sl 35 (by decide +kernel) rfl)⟩
theorem lkX12_62 : gLk RX12 62 12 24 := ⟨RX12, TX12, 47, rfl, by decide, inX12, Or.inl (gT0_tb 895 (by decide +kernel) rfl)⟩
theorem lkX12_66 : gLk RX12 66 12 28 := ⟨RX12, TX12, 47, rfl, by decide, inX12, Or.inl (gT0_tb 899 (by decide +kernel) rfl)⟩
set_option maxRecDepth 100000 in
theorem slX12_247 : gSl RX12 247 yX12_add cX12_add 7 none 4 := ⟨⟨Or.inl (gT0_tb 1107 (by decide +kernel) rfl), (gT0_tb 14 (by decide +kernel) rfl), (gT0_tb 1109 rfl rfl), by decide +kernel⟩, (gT0_tb 1108 (by decide +kernel) rfl)⟩
theorem lkX12_228 : gLk RX12 228 12 25 := ⟨RX12, TX12, 47, rfl, by decide, inX12, Or.inl (gT0_tb 896 (by decide +kernel) rfl)⟩
theorem lkX12_231 : gLk RX12 231 12 26 := ⟨RX12, TX12, 47, rfl, by decide, inX12, Or.inl (gT0_tb 897 (by decide +kernel) rfl)⟩
theorem lkX12_234 : gLk RX12 234 12 27 := ⟨RX12, TX12, 47, rfl, by decide, inX12, Or.inl (gT0_tb 898 (by decide +kernel) rfl)⟩
theorem lkX12_250 : gLk RX12 250 12 34 := ⟨RX12, TX12, 47, rfl, by decide, inX12, Or.inl (gT0_tb 905 (by decide +kernel) rfl)⟩
theorem lkX12_81 : gLk RX12 81 12 33 := ⟨RX12, TX12, 47, rfl, by decide, inX12, Or.inl (gT0_tb 904 (by decide +kernel) rfl)⟩
theorem lpX12_250 : gLp RX12 250 12 34 (.int) false := ⟨RX12, TX12, 47, tyX12, rfl, by decide, inX12, tyX12_ok, nmX12, rfl, tyX12_ok 34 (by decide), rfl, (gT0_tb 905 (by decide +kernel) rfl)⟩
set_option maxRecDepth 100000 in
theorem slX12_253 : gSl RX12 253 yX12_sizeOf cX12_sizeOf 1 (some .int) 1 := ⟨⟨Or.inl (gT0_tb 1153 (by decide +kernel) rfl), (gT0_tb 14 (by decide +kernel) rfl), (gT0_tb 1155 rfl rfl), by decide +kernel⟩, (gT0_tb 1154 (by decide +kernel) rfl)⟩
theorem kcX12_256 : Cond.constantLong RX12 256 (2) ∈ gT0 := (gT0_tb 1148 (by decide +kernel) rfl)
set_option maxRecDepth 100000 in
theorem slX12_258 : gVl RX12 258 yX12_takeSizes cX12_takeSizes 2 none 0 := ⟨⟨Or.inl (gT0_tb 1149 (by decide +kernel) rfl), (gT0_tb 14 (by decide +kernel) rfl), (gT0_tb 1152 rfl rfl), by decide +kernel⟩, (gT0_tb 1151 (by decide +kernel) rfl), (gT0_sl 38 (by decide +kernel) rfl)⟩
set_option maxRecDepth 100000 in
theorem slX12_261 : gVl RX12 261 yX12_rankOf cX12_rankOf 5 (some .int) 1 := ⟨⟨Or.inl (gT0_tb 1156 (by decide +kernel) rfl), (gT0_tb 14 (by decide +kernel) rfl), (gT0_tb 1159 rfl rfl), by decide +kernel⟩, (gT0_tb 1158 (by decide +kernel) rfl), (gT0_sl 39 (by decide +kernel) rfl)⟩
set_option maxRecDepth 100000 in
theorem slX12_264 : gVl RX12 264 yX12_takeSamples cX12_takeSamples 3 none 0 := ⟨⟨Or.inl (gT0_tb 1160 (by decide +kernel) rfl), (gT0_tb 14 (by decide +kernel) rfl), (gT0_tb 1163 rfl rfl), by decide +kernel⟩, (gT0_tb 1162 (by decide +kernel) rfl), (gT0_sl 40 (by decide +kernel) rfl)⟩
theorem kcX12_267 : Cond.constant RX12 267 (-1000000001) ∈ gT0 := (gT0_tb 1168 (by decide +kernel) rfl)
theorem kcX12_268 : Cond.constant RX12 268 (-1000000003) ∈ gT0 := (gT0_tb 1169 (by decide +kernel) rfl)
theorem lkX12_84 : gLk RX12 84 12 35 := ⟨RX12, TX12, 47, rfl, by decide, inX12, Or.inl (gT0_tb 906 (by decide +kernel) rfl)⟩
set_option maxRecDepth 100000 in
theorem slX12_269 : gVl RX12 269 yX12_countWays cX12_countWays 7 none 2 := ⟨⟨Or.inl (gT0_tb 1170 (by decide +kernel) rfl), (gT0_tb 14 (by decide +kernel) rfl), (gT0_tb 1173 rfl rfl), by decide +kernel⟩, (gT0_tb 1172 (by decide +kernel) rfl), (gT0_sl 41 (by decide +kernel) rfl)⟩
theorem lpX12_273 : gLp RX12 273 12 18 (.int) false := ⟨RX12, TX12, 47, tyX12, rfl, by decide, inX12, tyX12_ok, nmX12, rfl, tyX12_ok 18 (by decide), rfl, (gT0_tb 889 (by decide +kernel) rfl)⟩
theorem lpX12_276 : gLp RX12 276 12 19 (.int) false := ⟨RX12, TX12, 47, tyX12, rfl, by decide, inX12, tyX12_ok, nmX12, rfl, tyX12_ok 19 (by decide), rfl, (gT0_tb 890 (by decide +kernel) rfl)⟩
theorem lkX12_273 : gLk RX12 273 12 18 := ⟨RX12, TX12, 47, rfl, by decide, inX12, Or.inl (gT0_tb 889 (by decide +kernel) rfl)⟩
theorem lkX12_45 : gLk RX12 45 12 17 := ⟨RX12, TX12, 47, rfl, by decide, inX12, Or.inl (gT0_tb 888 (by decide +kernel) rfl)⟩
theorem lkX12_88 : gLk RX12 88 12 36 := ⟨RX12, TX12, 47, rfl, by decide, inX12, Or.inl (gT0_tb 907 (by decide +kernel) rfl)⟩
set_option maxRecDepth 100000 in
theorem slX12_279 : gVl RX12 279 yX12_findChances cX12_findChances 18 none 2 := ⟨⟨Or.inl (gT0_tb 1174 (by decide +kernel) rfl), (gT0_tb 14 (by decide +kernel) rfl), (gT0_tb 1177 rfl rfl), by decide +kernel⟩, (gT0_tb 1176 (by decide +kernel) rfl), (gT0_sl 42 (by decide +kernel) rfl)⟩
theorem kcX12_282 : Cond.constant RX12 282 (60000) ∈ gT0 := (gT0_tb 1182 (by decide +kernel) rfl)
theorem lkX12_237 : gLk RX12 237 12 13 := ⟨RX12, TX12, 47, rfl, by decide, inX12, Or.inl (gT0_tb 884 (by decide +kernel) rfl)⟩
theorem lkX12_276 : gLk RX12 276 12 19 := ⟨RX12, TX12, 47, rfl, by decide, inX12, Or.inl (gT0_tb 890 (by decide +kernel) rfl)⟩
theorem lkX12_34 : gLk RX12 34 12 12 := ⟨RX12, TX12, 47, rfl, by decide, inX12, Or.inl (gT0_tb 883 (by decide +kernel) rfl)⟩
theorem kcX12_283 : Cond.constantLong RX12 283 (-3) ∈ gT0 := (gT0_tb 1187 (by decide +kernel) rfl)
set_option maxRecDepth 100000 in
theorem slX12_285 : gSl RX12 285 yX12_isTail cX12_isTail 1 (some .boolean) 1 := ⟨⟨Or.inl (gT0_tb 1192 (by decide +kernel) rfl), (gT0_tb 14 (by decide +kernel) rfl), (gT0_tb 1194 rfl rfl), by decide +kernel⟩, (gT0_tb 1193 (by decide +kernel) rfl)⟩
theorem kcX12_289 : Cond.constantLong RX12 289 (16) ∈ gT0 := (gT0_tb 1202 (by decide +kernel) rfl)
theorem kcX12_291 : Cond.constantLong RX12 291 (960) ∈ gT0 := (gT0_tb 1203 (by decide +kernel) rfl)
set_option maxRecDepth 100000 in
theorem slX12_293 : gSl RX12 293 yX12_wordOf cX12_wordOf 8 (some .int) 3 := ⟨⟨Or.inl (gT0_tb 1199 (by decide +kernel) rfl), (gT0_tb 14 (by decide +kernel) rfl), (gT0_tb 1201 rfl rfl), by decide +kernel⟩, (gT0_tb 1200 (by decide +kernel) rfl)⟩
theorem lkX12_91 : gLk RX12 91 12 37 := ⟨RX12, TX12, 47, rfl, by decide, inX12, Or.inl (gT0_tb 908 (by decide +kernel) rfl)⟩
theorem kcX12_297 : Cond.constantLong RX12 297 (1000000) ∈ gT0 := (gT0_tb 1215 (by decide +kernel) rfl)
set_option maxRecDepth 100000 in
theorem slX12_299 : gSl RX12 299 yX12_isLevel cX12_isLevel 2 (some .boolean) 2 := ⟨⟨Or.inl (gT0_tb 1212 (by decide +kernel) rfl), (gT0_tb 14 (by decide +kernel) rfl), (gT0_tb 1214 rfl rfl), by decide +kernel⟩, (gT0_tb 1213 (by decide +kernel) rfl)⟩
set_option maxRecDepth 100000 in
theorem slX12_303 : gVl RX12 303 yX12_stands cX12_stands 8 (some .int) 7 := ⟨⟨Or.inl (gT0_tb 1216 (by decide +kernel) rfl), (gT0_tb 14 (by decide +kernel) rfl), (gT0_tb 1219 rfl rfl), by decide +kernel⟩, (gT0_tb 1218 (by decide +kernel) rfl), (gT0_sl 43 (by decide +kernel) rfl)⟩
theorem lkX12_240 : gLk RX12 240 12 14 := ⟨RX12, TX12, 47, rfl, by decide, inX12, Or.inl (gT0_tb 885 (by decide +kernel) rfl)⟩
theorem kcX12_307 : Cond.constant RX12 307 (-1000000002) ∈ gT0 := (gT0_tb 1224 (by decide +kernel) rfl)
theorem lkX12_94 : gLk RX12 94 12 38 := ⟨RX12, TX12, 47, rfl, by decide, inX12, Or.inl (gT0_tb 909 (by decide +kernel) rfl)⟩
theorem lkX12_97 : gLk RX12 97 12 39 := ⟨RX12, TX12, 47, rfl, by decide, inX12, Or.inl (gT0_tb 910 (by decide +kernel) rfl)⟩
theorem lkX12_103 : gLk RX12 103 12 42 := ⟨RX12, TX12, 47, rfl, by decide, inX12, Or.inl (gT0_tb 913 (by decide +kernel) rfl)⟩
set_option maxRecDepth 100000 in
theorem slX12_308 : gSl RX12 308 yX12_product cX12_product 9 none 5 := ⟨⟨Or.inl (gT0_tb 1241 (by decide +kernel) rfl), (gT0_tb 14 (by decide +kernel) rfl), (gT0_tb 1243 rfl rfl), by decide +kernel⟩, (gT0_tb 1242 (by decide +kernel) rfl)⟩
theorem lkX12_106 : gLk RX12 106 12 43 := ⟨RX12, TX12, 47, rfl, by decide, inX12, Or.inl (gT0_tb 914 (by decide +kernel) rfl)⟩
theorem lkX12_100 : gLk RX12 100 12 41 := ⟨RX12, TX12, 47, rfl, by decide, inX12, Or.inl (gT0_tb 912 (by decide +kernel) rfl)⟩
set_option maxRecDepth 100000 in
theorem slX12_312 : gVl RX12 312 yX12_isLess cX12_isLess 4 (some .boolean) 2 := ⟨⟨Or.inl (gT0_tb 1237 (by decide +kernel) rfl), (gT0_tb 14 (by decide +kernel) rfl), (gT0_tb 1240 rfl rfl), by decide +kernel⟩, (gT0_tb 1239 (by decide +kernel) rfl), (gT0_sl 45 (by decide +kernel) rfl)⟩
set_option maxRecDepth 100000 in
theorem slX12_315 : gVl RX12 315 yX12_findRejected cX12_findRejected 5 (some .int) 2 := ⟨⟨Or.inl (gT0_tb 1233 (by decide +kernel) rfl), (gT0_tb 14 (by decide +kernel) rfl), (gT0_tb 1236 rfl rfl), by decide +kernel⟩, (gT0_tb 1235 (by decide +kernel) rfl), (gT0_sl 44 (by decide +kernel) rfl)⟩
theorem kcX12_318 : Cond.constantLong RX12 318 (65535) ∈ gT0 := (gT0_tb 1252 (by decide +kernel) rfl)
theorem lkX12_109 : gLk RX12 109 12 44 := ⟨RX12, TX12, 47, rfl, by decide, inX12, Or.inl (gT0_tb 915 (by decide +kernel) rfl)⟩
theorem lkX12_112 : gLk RX12 112 12 46 := ⟨RX12, TX12, 47, rfl, by decide, inX12, Or.inl (gT0_tb 917 (by decide +kernel) rfl)⟩
theorem kcJ6_264 : Cond.constant RJ6 264 (65536) ∈ gT0 := (gT0_tb 707 (by decide +kernel) rfl)
set_option maxRecDepth 100000 in
theorem slJ13_308 : gSl RJ13 308 yJ6_numberOfLeadingZeros_0f7a4 cJ6_numberOfLeadingZeros_0f7a4 2 (some .int) 1 := ⟨⟨Or.inl (gT0_tb 704 (by decide +kernel) rfl), (gT0_tb 17 (by decide +kernel) rfl), (gT0_tb 706 rfl rfl), by decide +kernel⟩, (gT0_tb 705 (by decide +kernel) rfl)⟩
theorem clL_7 : Cond.classLink RL 7 RX11 ∈ gT0 := (gT0_tb 18 (by decide +kernel) rfl)
set_option maxRecDepth 100000 in
theorem slL_9 : gIl RL 9 yX11_init cX11_init 1 0 := ⟨⟨Or.inl (gT0_tb 20 (by decide +kernel) rfl), (gT0_tb 1 (by decide +kernel) rfl), (gT0_tb 22 rfl rfl), by decide +kernel⟩, rfl, (gT0_tb 21 (by decide +kernel) rfl)⟩
theorem clL_10 : Cond.classLink RL 10 RX12 ∈ gT0 := (gT0_tb 862 (by decide +kernel) rfl)
set_option maxRecDepth 100000 in
theorem slL_12 : gIl RL 12 yX12_init cX12_init 1 0 := ⟨⟨Or.inl (gT0_tb 864 (by decide +kernel) rfl), (gT0_tb 14 (by decide +kernel) rfl), (gT0_tb 866 rfl rfl), by decide +kernel⟩, rfl, (gT0_tb 865 (by decide +kernel) rfl)⟩
set_option maxRecDepth 100000 in
theorem slL_13 : gVl RL 13 yX11_table cX11_table 3 (some .int) 2 := ⟨⟨Or.inl (gT0_tb 310 (by decide +kernel) rfl), (gT0_tb 1 (by decide +kernel) rfl), (gT0_tb 313 rfl rfl), by decide +kernel⟩, (gT0_tb 311 (by decide +kernel) rfl), (gT0_tb 312 (by decide +kernel) rfl)⟩
set_option maxRecDepth 100000 in
theorem slL_17 : gVl RL 17 yX12_table cX12_table 4 (some .int) 2 := ⟨⟨Or.inl (gT0_tb 1014 (by decide +kernel) rfl), (gT0_tb 14 (by decide +kernel) rfl), (gT0_tb 1017 rfl rfl), by decide +kernel⟩, (gT0_tb 1015 (by decide +kernel) rfl), (gT0_tb 1016 (by decide +kernel) rfl)⟩
set_option maxRecDepth 100000 in
theorem slL_18 : gVl RL 18 yX11_cell cX11_cell 5 (some .int) 3 := ⟨⟨Or.inl (gT0_tb 321 (by decide +kernel) rfl), (gT0_tb 1 (by decide +kernel) rfl), (gT0_tb 324 rfl rfl), by decide +kernel⟩, (gT0_tb 322 (by decide +kernel) rfl), (gT0_tb 323 (by decide +kernel) rfl)⟩
set_option maxRecDepth 100000 in
theorem slL_22 : gVl RL 22 yX12_cell cX12_cell 6 (some .int) 3 := ⟨⟨Or.inl (gT0_tb 1022 (by decide +kernel) rfl), (gT0_tb 14 (by decide +kernel) rfl), (gT0_tb 1025 rfl rfl), by decide +kernel⟩, (gT0_tb 1023 (by decide +kernel) rfl), (gT0_tb 1024 (by decide +kernel) rfl)⟩
set_option maxRecDepth 100000 in
theorem slL_23 : gVl RL 23 yX11_about cX11_about 6 (some .int) 3 := ⟨⟨Or.inl (gT0_tb 347 (by decide +kernel) rfl), (gT0_tb 1 (by decide +kernel) rfl), (gT0_tb 350 rfl rfl), by decide +kernel⟩, (gT0_tb 348 (by decide +kernel) rfl), (gT0_tb 349 (by decide +kernel) rfl)⟩
set_option maxRecDepth 100000 in
theorem slL_26 : gVl RL 26 yX12_about cX12_about 4 (some .int) 3 := ⟨⟨Or.inl (gT0_tb 1027 (by decide +kernel) rfl), (gT0_tb 14 (by decide +kernel) rfl), (gT0_tb 1030 rfl rfl), by decide +kernel⟩, (gT0_tb 1028 (by decide +kernel) rfl), (gT0_tb 1029 (by decide +kernel) rfl)⟩
set_option maxRecDepth 100000 in
theorem slL_27 : gVl RL 27 yX11_sample cX11_sample 4 (some .int) 2 := ⟨⟨Or.inl (gT0_tb 360 (by decide +kernel) rfl), (gT0_tb 1 (by decide +kernel) rfl), (gT0_tb 363 rfl rfl), by decide +kernel⟩, (gT0_tb 361 (by decide +kernel) rfl), (gT0_tb 362 (by decide +kernel) rfl)⟩
set_option maxRecDepth 100000 in
theorem slL_30 : gVl RL 30 yX12_sample cX12_sample 3 (some .int) 2 := ⟨⟨Or.inl (gT0_tb 1040 (by decide +kernel) rfl), (gT0_tb 14 (by decide +kernel) rfl), (gT0_tb 1043 rfl rfl), by decide +kernel⟩, (gT0_tb 1041 (by decide +kernel) rfl), (gT0_tb 1042 (by decide +kernel) rfl)⟩
set_option maxRecDepth 100000 in
theorem slL_31 : gVl RL 31 yX11_pair cX11_pair 3 (some .int) 2 := ⟨⟨Or.inl (gT0_tb 373 (by decide +kernel) rfl), (gT0_tb 1 (by decide +kernel) rfl), (gT0_tb 376 rfl rfl), by decide +kernel⟩, (gT0_tb 374 (by decide +kernel) rfl), (gT0_tb 375 (by decide +kernel) rfl)⟩
set_option maxRecDepth 100000 in
theorem slL_34 : gVl RL 34 yX12_pair cX12_pair 3 (some .int) 2 := ⟨⟨Or.inl (gT0_tb 1046 (by decide +kernel) rfl), (gT0_tb 14 (by decide +kernel) rfl), (gT0_tb 1049 rfl rfl), by decide +kernel⟩, (gT0_tb 1047 (by decide +kernel) rfl), (gT0_tb 1048 (by decide +kernel) rfl)⟩
set_option maxRecDepth 100000 in
theorem slL_35 : gVl RL 35 yX11_clear cX11_clear 2 (some .int) 1 := ⟨⟨Or.inl (gT0_tb 377 (by decide +kernel) rfl), (gT0_tb 1 (by decide +kernel) rfl), (gT0_tb 380 rfl rfl), by decide +kernel⟩, (gT0_tb 378 (by decide +kernel) rfl), (gT0_tb 379 (by decide +kernel) rfl)⟩
set_option maxRecDepth 100000 in
theorem slL_39 : gVl RL 39 yX12_clear cX12_clear 3 (some .int) 1 := ⟨⟨Or.inl (gT0_tb 1050 (by decide +kernel) rfl), (gT0_tb 14 (by decide +kernel) rfl), (gT0_tb 1053 rfl rfl), by decide +kernel⟩, (gT0_tb 1051 (by decide +kernel) rfl), (gT0_tb 1052 (by decide +kernel) rfl)⟩
set_option maxRecDepth 100000 in
theorem slL_40 : gVl RL 40 yX11_tables cX11_tables 2 (some .int) 0 := ⟨⟨Or.inl (gT0_tb 389 (by decide +kernel) rfl), (gT0_tb 1 (by decide +kernel) rfl), (gT0_tb 392 rfl rfl), by decide +kernel⟩, (gT0_tb 390 (by decide +kernel) rfl), (gT0_tb 391 (by decide +kernel) rfl)⟩
set_option maxRecDepth 100000 in
theorem slL_44 : gVl RL 44 yX12_tables cX12_tables 4 (some .int) 0 := ⟨⟨Or.inl (gT0_tb 1054 (by decide +kernel) rfl), (gT0_tb 14 (by decide +kernel) rfl), (gT0_tb 1057 rfl rfl), by decide +kernel⟩, (gT0_tb 1055 (by decide +kernel) rfl), (gT0_tb 1056 (by decide +kernel) rfl)⟩
set_option maxRecDepth 100000 in
theorem slL_45 : gVl RL 45 yX11_labels cX11_labels 6 (some .int) 1 := ⟨⟨Or.inl (gT0_tb 535 (by decide +kernel) rfl), (gT0_tb 1 (by decide +kernel) rfl), (gT0_tb 538 rfl rfl), by decide +kernel⟩, (gT0_tb 536 (by decide +kernel) rfl), (gT0_tb 537 (by decide +kernel) rfl)⟩
set_option maxRecDepth 100000 in
theorem slL_48 : gVl RL 48 yX12_labels cX12_labels 9 (some .int) 1 := ⟨⟨Or.inl (gT0_tb 1164 (by decide +kernel) rfl), (gT0_tb 14 (by decide +kernel) rfl), (gT0_tb 1167 rfl rfl), by decide +kernel⟩, (gT0_tb 1165 (by decide +kernel) rfl), (gT0_tb 1166 (by decide +kernel) rfl)⟩
set_option maxRecDepth 100000 in
theorem slL_49 : gVl RL 49 yX11_signs cX11_signs 8 (some .int) 1 := ⟨⟨Or.inl (gT0_tb 627 (by decide +kernel) rfl), (gT0_tb 1 (by decide +kernel) rfl), (gT0_tb 630 rfl rfl), by decide +kernel⟩, (gT0_tb 628 (by decide +kernel) rfl), (gT0_tb 629 (by decide +kernel) rfl)⟩
set_option maxRecDepth 100000 in
theorem slL_52 : gVl RL 52 yX12_signs cX12_signs 8 (some .int) 1 := ⟨⟨Or.inl (gT0_tb 1178 (by decide +kernel) rfl), (gT0_tb 14 (by decide +kernel) rfl), (gT0_tb 1181 rfl rfl), by decide +kernel⟩, (gT0_tb 1179 (by decide +kernel) rfl), (gT0_tb 1180 (by decide +kernel) rfl)⟩
set_option maxRecDepth 100000 in
theorem slL_53 : gVl RL 53 yX11_rank cX11_rank 4 (some .int) 2 := ⟨⟨Or.inl (gT0_tb 646 (by decide +kernel) rfl), (gT0_tb 1 (by decide +kernel) rfl), (gT0_tb 649 rfl rfl), by decide +kernel⟩, (gT0_tb 647 (by decide +kernel) rfl), (gT0_tb 648 (by decide +kernel) rfl)⟩
set_option maxRecDepth 100000 in
theorem slL_56 : gVl RL 56 yX12_rank cX12_rank 3 (some .int) 2 := ⟨⟨Or.inl (gT0_tb 1144 (by decide +kernel) rfl), (gT0_tb 14 (by decide +kernel) rfl), (gT0_tb 1147 rfl rfl), by decide +kernel⟩, (gT0_tb 1145 (by decide +kernel) rfl), (gT0_tb 1146 (by decide +kernel) rfl)⟩
set_option maxRecDepth 100000 in
theorem slL_57 : gVl RL 57 yX11_caseAt cX11_caseAt 4 (some .int) 3 := ⟨⟨Or.inl (gT0_tb 651 (by decide +kernel) rfl), (gT0_tb 1 (by decide +kernel) rfl), (gT0_tb 654 rfl rfl), by decide +kernel⟩, (gT0_tb 652 (by decide +kernel) rfl), (gT0_tb 653 (by decide +kernel) rfl)⟩
set_option maxRecDepth 100000 in
theorem slL_60 : gVl RL 60 yX12_caseAt cX12_caseAt 4 (some .int) 3 := ⟨⟨Or.inl (gT0_tb 1136 (by decide +kernel) rfl), (gT0_tb 14 (by decide +kernel) rfl), (gT0_tb 1139 rfl rfl), by decide +kernel⟩, (gT0_tb 1137 (by decide +kernel) rfl), (gT0_tb 1138 (by decide +kernel) rfl)⟩
set_option maxRecDepth 100000 in
theorem slL_61 : gVl RL 61 yX11_weighs cX11_weighs 2 (some .int) 1 := ⟨⟨Or.inl (gT0_tb 673 (by decide +kernel) rfl), (gT0_tb 1 (by decide +kernel) rfl), (gT0_tb 676 rfl rfl), by decide +kernel⟩, (gT0_tb 674 (by decide +kernel) rfl), (gT0_tb 675 (by decide +kernel) rfl)⟩
set_option maxRecDepth 100000 in
theorem slL_64 : gVl RL 64 yX12_weighs cX12_weighs 2 (some .int) 1 := ⟨⟨Or.inl (gT0_tb 1140 (by decide +kernel) rfl), (gT0_tb 14 (by decide +kernel) rfl), (gT0_tb 1143 rfl rfl), by decide +kernel⟩, (gT0_tb 1141 (by decide +kernel) rfl), (gT0_tb 1142 (by decide +kernel) rfl)⟩
set_option maxRecDepth 100000 in
theorem slL_65 : gVl RL 65 yX11_bits cX11_bits 4 (some .int) 2 := ⟨⟨Or.inl (gT0_tb 681 (by decide +kernel) rfl), (gT0_tb 1 (by decide +kernel) rfl), (gT0_tb 684 rfl rfl), by decide +kernel⟩, (gT0_tb 682 (by decide +kernel) rfl), (gT0_tb 683 (by decide +kernel) rfl)⟩
set_option maxRecDepth 100000 in
theorem slL_68 : gVl RL 68 yX12_bits cX12_bits 3 (some .int) 2 := ⟨⟨Or.inl (gT0_tb 1188 (by decide +kernel) rfl), (gT0_tb 14 (by decide +kernel) rfl), (gT0_tb 1191 rfl rfl), by decide +kernel⟩, (gT0_tb 1189 (by decide +kernel) rfl), (gT0_tb 1190 (by decide +kernel) rfl)⟩
set_option maxRecDepth 100000 in
theorem slL_69 : gVl RL 69 yX11_word cX11_word 5 (some .int) 3 := ⟨⟨Or.inl (gT0_tb 708 (by decide +kernel) rfl), (gT0_tb 1 (by decide +kernel) rfl), (gT0_tb 711 rfl rfl), by decide +kernel⟩, (gT0_tb 709 (by decide +kernel) rfl), (gT0_tb 710 (by decide +kernel) rfl)⟩
set_option maxRecDepth 100000 in
theorem slL_72 : gVl RL 72 yX12_word cX12_word 4 (some .int) 3 := ⟨⟨Or.inl (gT0_tb 1195 (by decide +kernel) rfl), (gT0_tb 14 (by decide +kernel) rfl), (gT0_tb 1198 rfl rfl), by decide +kernel⟩, (gT0_tb 1196 (by decide +kernel) rfl), (gT0_tb 1197 (by decide +kernel) rfl)⟩
set_option maxRecDepth 100000 in
theorem slL_73 : gVl RL 73 yX11_figure cX11_figure 4 (some .int) 2 := ⟨⟨Or.inl (gT0_tb 717 (by decide +kernel) rfl), (gT0_tb 1 (by decide +kernel) rfl), (gT0_tb 720 rfl rfl), by decide +kernel⟩, (gT0_tb 718 (by decide +kernel) rfl), (gT0_tb 719 (by decide +kernel) rfl)⟩
set_option maxRecDepth 100000 in
theorem slL_76 : gVl RL 76 yX12_figure cX12_figure 4 (some .int) 2 := ⟨⟨Or.inl (gT0_tb 1204 (by decide +kernel) rfl), (gT0_tb 14 (by decide +kernel) rfl), (gT0_tb 1207 rfl rfl), by decide +kernel⟩, (gT0_tb 1205 (by decide +kernel) rfl), (gT0_tb 1206 (by decide +kernel) rfl)⟩
set_option maxRecDepth 100000 in
theorem slL_77 : gVl RL 77 yX11_against cX11_against 5 (some .int) 3 := ⟨⟨Or.inl (gT0_tb 736 (by decide +kernel) rfl), (gT0_tb 1 (by decide +kernel) rfl), (gT0_tb 739 rfl rfl), by decide +kernel⟩, (gT0_tb 737 (by decide +kernel) rfl), (gT0_tb 738 (by decide +kernel) rfl)⟩
set_option maxRecDepth 100000 in
theorem slL_80 : gVl RL 80 yX12_against cX12_against 4 (some .int) 3 := ⟨⟨Or.inl (gT0_tb 1208 (by decide +kernel) rfl), (gT0_tb 14 (by decide +kernel) rfl), (gT0_tb 1211 rfl rfl), by decide +kernel⟩, (gT0_tb 1209 (by decide +kernel) rfl), (gT0_tb 1210 (by decide +kernel) rfl)⟩
set_option maxRecDepth 100000 in
theorem slL_81 : gVl RL 81 yX11_result cX11_result 2 (some .int) 1 := ⟨⟨Or.inl (gT0_tb 748 (by decide +kernel) rfl), (gT0_tb 1 (by decide +kernel) rfl), (gT0_tb 751 rfl rfl), by decide +kernel⟩, (gT0_tb 749 (by decide +kernel) rfl), (gT0_tb 750 (by decide +kernel) rfl)⟩
set_option maxRecDepth 100000 in
theorem slL_84 : gVl RL 84 yX12_result cX12_result 2 (some .int) 1 := ⟨⟨Or.inl (gT0_tb 1220 (by decide +kernel) rfl), (gT0_tb 14 (by decide +kernel) rfl), (gT0_tb 1223 rfl rfl), by decide +kernel⟩, (gT0_tb 1221 (by decide +kernel) rfl), (gT0_tb 1222 (by decide +kernel) rfl)⟩
set_option maxRecDepth 100000 in
theorem slL_85 : gVl RL 85 yX11_ways cX11_ways 2 (some .long) 1 := ⟨⟨Or.inl (gT0_tb 765 (by decide +kernel) rfl), (gT0_tb 1 (by decide +kernel) rfl), (gT0_tb 768 rfl rfl), by decide +kernel⟩, (gT0_tb 766 (by decide +kernel) rfl), (gT0_tb 767 (by decide +kernel) rfl)⟩
set_option maxRecDepth 100000 in
theorem slL_89 : gVl RL 89 yX12_ways cX12_ways 2 (some .long) 1 := ⟨⟨Or.inl (gT0_tb 1183 (by decide +kernel) rfl), (gT0_tb 14 (by decide +kernel) rfl), (gT0_tb 1186 rfl rfl), by decide +kernel⟩, (gT0_tb 1184 (by decide +kernel) rfl), (gT0_tb 1185 (by decide +kernel) rfl)⟩
set_option maxRecDepth 100000 in
theorem slL_90 : gVl RL 90 yX11_note cX11_note 3 (some .int) 1 := ⟨⟨Or.inl (gT0_tb 772 (by decide +kernel) rfl), (gT0_tb 1 (by decide +kernel) rfl), (gT0_tb 775 rfl rfl), by decide +kernel⟩, (gT0_tb 773 (by decide +kernel) rfl), (gT0_tb 774 (by decide +kernel) rfl)⟩
set_option maxRecDepth 100000 in
theorem slL_93 : gVl RL 93 yX12_note cX12_note 2 (some .int) 1 := ⟨⟨Or.inl (gT0_tb 1225 (by decide +kernel) rfl), (gT0_tb 14 (by decide +kernel) rfl), (gT0_tb 1228 rfl rfl), by decide +kernel⟩, (gT0_tb 1226 (by decide +kernel) rfl), (gT0_tb 1227 (by decide +kernel) rfl)⟩
set_option maxRecDepth 100000 in
theorem slL_94 : gVl RL 94 yX11_rejected cX11_rejected 3 (some .int) 2 := ⟨⟨Or.inl (gT0_tb 797 (by decide +kernel) rfl), (gT0_tb 1 (by decide +kernel) rfl), (gT0_tb 800 rfl rfl), by decide +kernel⟩, (gT0_tb 798 (by decide +kernel) rfl), (gT0_tb 799 (by decide +kernel) rfl)⟩
set_option maxRecDepth 100000 in
theorem slL_97 : gVl RL 97 yX12_rejected cX12_rejected 3 (some .int) 2 := ⟨⟨Or.inl (gT0_tb 1229 (by decide +kernel) rfl), (gT0_tb 14 (by decide +kernel) rfl), (gT0_tb 1232 rfl rfl), by decide +kernel⟩, (gT0_tb 1230 (by decide +kernel) rfl), (gT0_tb 1231 (by decide +kernel) rfl)⟩
set_option maxRecDepth 100000 in
theorem slL_98 : gVl RL 98 yX11_isRejected cX11_isRejected 4 (some .int) 3 := ⟨⟨Or.inl (gT0_tb 806 (by decide +kernel) rfl), (gT0_tb 1 (by decide +kernel) rfl), (gT0_tb 809 rfl rfl), by decide +kernel⟩, (gT0_tb 807 (by decide +kernel) rfl), (gT0_tb 808 (by decide +kernel) rfl)⟩
set_option maxRecDepth 100000 in
theorem slL_101 : gVl RL 101 yX12_isRejected cX12_isRejected 7 (some .int) 3 := ⟨⟨Or.inl (gT0_tb 1244 (by decide +kernel) rfl), (gT0_tb 14 (by decide +kernel) rfl), (gT0_tb 1247 rfl rfl), by decide +kernel⟩, (gT0_tb 1245 (by decide +kernel) rfl), (gT0_tb 1246 (by decide +kernel) rfl)⟩
set_option maxRecDepth 100000 in
theorem slL_102 : gVl RL 102 yX11_claim cX11_claim 2 (some .int) 1 := ⟨⟨Or.inl (gT0_tb 818 (by decide +kernel) rfl), (gT0_tb 1 (by decide +kernel) rfl), (gT0_tb 821 rfl rfl), by decide +kernel⟩, (gT0_tb 819 (by decide +kernel) rfl), (gT0_tb 820 (by decide +kernel) rfl)⟩
set_option maxRecDepth 100000 in
theorem slL_105 : gVl RL 105 yX12_claim cX12_claim 2 (some .int) 1 := ⟨⟨Or.inl (gT0_tb 1248 (by decide +kernel) rfl), (gT0_tb 14 (by decide +kernel) rfl), (gT0_tb 1251 rfl rfl), by decide +kernel⟩, (gT0_tb 1249 (by decide +kernel) rfl), (gT0_tb 1250 (by decide +kernel) rfl)⟩
set_option maxRecDepth 100000 in
theorem slL_106 : gVl RL 106 yX11_check cX11_check 7 (some .int) 1 := ⟨⟨Or.inl (gT0_tb 823 (by decide +kernel) rfl), (gT0_tb 1 (by decide +kernel) rfl), (gT0_tb 826 rfl rfl), by decide +kernel⟩, (gT0_tb 824 (by decide +kernel) rfl), (gT0_tb 825 (by decide +kernel) rfl)⟩
set_option maxRecDepth 100000 in
theorem slL_109 : gVl RL 109 yX12_check cX12_check 6 (some .int) 1 := ⟨⟨Or.inl (gT0_tb 1253 (by decide +kernel) rfl), (gT0_tb 14 (by decide +kernel) rfl), (gT0_tb 1256 rfl rfl), by decide +kernel⟩, (gT0_tb 1254 (by decide +kernel) rfl), (gT0_tb 1255 (by decide +kernel) rfl)⟩
set_option maxRecDepth 100000 in
theorem slL_110 : gVl RL 110 yX11_shift cX11_shift 2 (some .int) 0 := ⟨⟨Or.inl (gT0_tb 842 (by decide +kernel) rfl), (gT0_tb 1 (by decide +kernel) rfl), (gT0_tb 845 rfl rfl), by decide +kernel⟩, (gT0_tb 843 (by decide +kernel) rfl), (gT0_tb 844 (by decide +kernel) rfl)⟩
set_option maxRecDepth 100000 in
theorem slL_113 : gVl RL 113 yX12_shift cX12_shift 6 (some .int) 0 := ⟨⟨Or.inl (gT0_tb 1257 (by decide +kernel) rfl), (gT0_tb 14 (by decide +kernel) rfl), (gT0_tb 1260 rfl rfl), by decide +kernel⟩, (gT0_tb 1258 (by decide +kernel) rfl), (gT0_tb 1259 (by decide +kernel) rfl)⟩
set_option maxRecDepth 100000 in
theorem slL_114 : gVl RL 114 yX11_told cX11_told 2 (some .int) 1 := ⟨⟨Or.inl (gT0_tb 854 (by decide +kernel) rfl), (gT0_tb 1 (by decide +kernel) rfl), (gT0_tb 857 rfl rfl), by decide +kernel⟩, (gT0_tb 855 (by decide +kernel) rfl), (gT0_tb 856 (by decide +kernel) rfl)⟩
set_option maxRecDepth 100000 in
theorem slL_117 : gVl RL 117 yX12_told cX12_told 2 (some .int) 1 := ⟨⟨Or.inl (gT0_tb 1261 (by decide +kernel) rfl), (gT0_tb 14 (by decide +kernel) rfl), (gT0_tb 1264 rfl rfl), by decide +kernel⟩, (gT0_tb 1262 (by decide +kernel) rfl), (gT0_tb 1263 (by decide +kernel) rfl)⟩
theorem isX0 : Cond.instantiable RX0 5 ∈ gT0 ∧ Cond.initialized RX0 ∈ gT0 := ⟨(gT0_tb 132 (by decide +kernel) rfl), (gT0_tb 7 (by decide +kernel) rfl)⟩
theorem isX1 : Cond.instantiable RX1 4 ∈ gT0 ∧ Cond.initialized RX1 ∈ gT0 := ⟨(gT0_tb 256 (by decide +kernel) rfl), (gT0_tb 13 (by decide +kernel) rfl)⟩
theorem isX2 : Cond.instantiable RX2 2 ∈ gT0 ∧ Cond.initialized RX2 ∈ gT0 := ⟨(gT0_tb 208 (by decide +kernel) rfl), (gT0_tb 11 (by decide +kernel) rfl)⟩
theorem isX3 : Cond.instantiable RX3 3 ∈ gT0 ∧ Cond.initialized RX3 ∈ gT0 := ⟨(gT0_tb 27 (by decide +kernel) rfl), (gT0_tb 2 (by decide +kernel) rfl)⟩
theorem isX4 : Cond.instantiable RX4 3 ∈ gT0 ∧ Cond.initialized RX4 ∈ gT0 := ⟨(gT0_tb 160 (by decide +kernel) rfl), (gT0_tb 9 (by decide +kernel) rfl)⟩
theorem isX5 : Cond.instantiable RX5 2 ∈ gT0 ∧ Cond.initialized RX5 ∈ gT0 := ⟨(gT0_tb 44 (by decide +kernel) rfl), (gT0_tb 3 (by decide +kernel) rfl)⟩
theorem isX6 : Cond.instantiable RX6 5 ∈ gT0 ∧ Cond.initialized RX6 ∈ gT0 := ⟨(gT0_tb 201 (by decide +kernel) rfl), (gT0_tb 10 (by decide +kernel) rfl)⟩
theorem isX7 : Cond.instantiable RX7 2 ∈ gT0 ∧ Cond.initialized RX7 ∈ gT0 := ⟨(gT0_tb 241 (by decide +kernel) rfl), (gT0_tb 12 (by decide +kernel) rfl)⟩
theorem isX8 : Cond.instantiable RX8 7 ∈ gT0 ∧ Cond.initialized RX8 ∈ gT0 := ⟨(gT0_tb 154 (by decide +kernel) rfl), (gT0_tb 8 (by decide +kernel) rfl)⟩
theorem isX9 : Cond.instantiable RX9 15 ∈ gT0 ∧ Cond.initialized RX9 ∈ gT0 := ⟨(gT0_tb 60 (by decide +kernel) rfl), (gT0_tb 5 (by decide +kernel) rfl)⟩
theorem isX10 : Cond.instantiable RX10 2 ∈ gT0 ∧ Cond.initialized RX10 ∈ gT0 := ⟨(gT0_tb 67 (by decide +kernel) rfl), (gT0_tb 6 (by decide +kernel) rfl)⟩
theorem isX11 : Cond.instantiable RX11 11 ∈ gT0 ∧ Cond.initialized RX11 ∈ gT0 := ⟨(gT0_tb 19 (by decide +kernel) rfl), (gT0_tb 1 (by decide +kernel) rfl)⟩
theorem isX12 : Cond.instantiable RX12 47 ∈ gT0 ∧ Cond.initialized RX12 ∈ gT0 := ⟨(gT0_tb 863 (by decide +kernel) rfl), (gT0_tb 14 (by decide +kernel) rfl)⟩
theorem ojI : Cond.instanceMethod Lib.objectInit ∈ gT0 := (gT0_tb 24 (by decide +kernel) rfl)
theorem ojC : Cond.code Lib.objectInit ⟨#[0xb1]⟩ 1 none ∈ gT0 := (gT0_tb 25 rfl rfl)
theorem ac_int : Cond.arrayClass .int ∈ gT0 := (gT0_tb 42 (by decide +kernel) rfl)
theorem ac_long : Cond.arrayClass .long ∈ gT0 := (gT0_tb 79 (by decide +kernel) rfl)
theorem ac_byte : Cond.arrayClass .byte ∈ gT0 := (gT0_tb 1013 (by decide +kernel) rfl)
end
