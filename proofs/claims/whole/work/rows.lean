section
-- ===== PART A: goes FIRST, ahead of the names: the tables' words, and 'selects' of the private methods out of them =====
/-- a private method of a class that the tables say can be made, by its rows of tables_1 -/
def lw_okq (q : MethodName × Nat) : Prop := (q.1.cls ≠ "java/lang/invoke/MethodHandle" ∧ q.1.cls ≠ "java/lang/invoke/VarHandle") ∧ Cond.instantiable q.1.cls q.2 ∈ tables_1 ∧ Cond.privateMethod q.1 ∈ tables_1 ∧ Cond.instanceMethod q.1 ∈ tables_1
theorem lw_p0 : lw_okq (⟨"ExactTests$Walk", "begin", "(LExactTests$Grid;)V"⟩, 15) := ⟨⟨by decide +kernel, by decide +kernel⟩, List.mem_of_getElem? (i := 60) (by decide +kernel), List.mem_of_getElem? (i := 398) (by decide +kernel), List.mem_of_getElem? (i := 399) (by decide +kernel)⟩
theorem lw_p1 : lw_okq (⟨"ExactTests$Walk", "countRow", "(I)V"⟩, 15) := ⟨⟨by decide +kernel, by decide +kernel⟩, List.mem_of_getElem? (i := 60) (by decide +kernel), List.mem_of_getElem? (i := 416) (by decide +kernel), List.mem_of_getElem? (i := 417) (by decide +kernel)⟩
theorem lw_p2 : lw_okq (⟨"ExactTests$Walk", "sumOfColumnsLeft", "()I"⟩, 15) := ⟨⟨by decide +kernel, by decide +kernel⟩, List.mem_of_getElem? (i := 60) (by decide +kernel), List.mem_of_getElem? (i := 420) (by decide +kernel), List.mem_of_getElem? (i := 421) (by decide +kernel)⟩
theorem lw_p3 : lw_okq (⟨"ExactTests$Walk", "countCell", "(IIII)V"⟩, 15) := ⟨⟨by decide +kernel, by decide +kernel⟩, List.mem_of_getElem? (i := 60) (by decide +kernel), List.mem_of_getElem? (i := 424) (by decide +kernel), List.mem_of_getElem? (i := 425) (by decide +kernel)⟩
theorem lw_p4 : lw_okq (⟨"ExactTests$Walk", "weighAll", "(I)V"⟩, 15) := ⟨⟨by decide +kernel, by decide +kernel⟩, List.mem_of_getElem? (i := 60) (by decide +kernel), List.mem_of_getElem? (i := 441) (by decide +kernel), List.mem_of_getElem? (i := 442) (by decide +kernel)⟩
theorem lw_p5 : lw_okq (⟨"ExactTests$Whole", "empty", "()V"⟩, 2) := ⟨⟨by decide +kernel, by decide +kernel⟩, List.mem_of_getElem? (i := 67) (by decide +kernel), List.mem_of_getElem? (i := 449) (by decide +kernel), List.mem_of_getElem? (i := 450) (by decide +kernel)⟩
theorem lw_p6 : lw_okq (⟨"ExactTests$Whole", "trim", "(I)V"⟩, 2) := ⟨⟨by decide +kernel, by decide +kernel⟩, List.mem_of_getElem? (i := 67) (by decide +kernel), List.mem_of_getElem? (i := 454) (by decide +kernel), List.mem_of_getElem? (i := 455) (by decide +kernel)⟩
theorem lw_p7 : lw_okq (⟨"ExactTests$Walk", "choose", "(II)J"⟩, 15) := ⟨⟨by decide +kernel, by decide +kernel⟩, List.mem_of_getElem? (i := 60) (by decide +kernel), List.mem_of_getElem? (i := 463) (by decide +kernel), List.mem_of_getElem? (i := 464) (by decide +kernel)⟩
theorem lw_p8 : lw_okq (⟨"ExactTests$Whole", "addTimes", "(LExactTests$Whole;JI)V"⟩, 2) := ⟨⟨by decide +kernel, by decide +kernel⟩, List.mem_of_getElem? (i := 67) (by decide +kernel), List.mem_of_getElem? (i := 471) (by decide +kernel), List.mem_of_getElem? (i := 472) (by decide +kernel)⟩
theorem lw_p9 : lw_okq (⟨"ExactTests$Walk", "weighSeen", "(LExactTests$Grid;)V"⟩, 15) := ⟨⟨by decide +kernel, by decide +kernel⟩, List.mem_of_getElem? (i := 60) (by decide +kernel), List.mem_of_getElem? (i := 475) (by decide +kernel), List.mem_of_getElem? (i := 476) (by decide +kernel)⟩
theorem lw_p10 : lw_okq (⟨"ExactTests$Walk", "fillRow", "(I)V"⟩, 15) := ⟨⟨by decide +kernel, by decide +kernel⟩, List.mem_of_getElem? (i := 60) (by decide +kernel), List.mem_of_getElem? (i := 479) (by decide +kernel), List.mem_of_getElem? (i := 480) (by decide +kernel)⟩
theorem lw_p11 : lw_okq (⟨"ExactTests$Walk", "fillCell", "(IIII)V"⟩, 15) := ⟨⟨by decide +kernel, by decide +kernel⟩, List.mem_of_getElem? (i := 60) (by decide +kernel), List.mem_of_getElem? (i := 483) (by decide +kernel), List.mem_of_getElem? (i := 484) (by decide +kernel)⟩
theorem lw_p12 : lw_okq (⟨"ExactTests$Walk", "fillLastRow", "(I)V"⟩, 15) := ⟨⟨by decide +kernel, by decide +kernel⟩, List.mem_of_getElem? (i := 60) (by decide +kernel), List.mem_of_getElem? (i := 487) (by decide +kernel), List.mem_of_getElem? (i := 488) (by decide +kernel)⟩
theorem lw_p13 : lw_okq (⟨"ExactTests$Fraction", "reduce", "()V"⟩, 2) := ⟨⟨by decide +kernel, by decide +kernel⟩, List.mem_of_getElem? (i := 208) (by decide +kernel), List.mem_of_getElem? (i := 518) (by decide +kernel), List.mem_of_getElem? (i := 519) (by decide +kernel)⟩
theorem lw_p14 : lw_okq (⟨"ExactTests$Fraction", "isCommon", "(I)Z"⟩, 2) := ⟨⟨by decide +kernel, by decide +kernel⟩, List.mem_of_getElem? (i := 208) (by decide +kernel), List.mem_of_getElem? (i := 524) (by decide +kernel), List.mem_of_getElem? (i := 525) (by decide +kernel)⟩
theorem lw_p15 : lw_okq (⟨"ExactTests$Sums", "begin", "()V"⟩, 7) := ⟨⟨by decide +kernel, by decide +kernel⟩, List.mem_of_getElem? (i := 154) (by decide +kernel), List.mem_of_getElem? (i := 550) (by decide +kernel), List.mem_of_getElem? (i := 551) (by decide +kernel)⟩
def lw_privs_1 : List (MethodName × Nat) := [(⟨"ExactTests$Walk", "begin", "(LExactTests$Grid;)V"⟩, 15), (⟨"ExactTests$Walk", "countRow", "(I)V"⟩, 15), (⟨"ExactTests$Walk", "sumOfColumnsLeft", "()I"⟩, 15), (⟨"ExactTests$Walk", "countCell", "(IIII)V"⟩, 15), (⟨"ExactTests$Walk", "weighAll", "(I)V"⟩, 15), (⟨"ExactTests$Whole", "empty", "()V"⟩, 2), (⟨"ExactTests$Whole", "trim", "(I)V"⟩, 2), (⟨"ExactTests$Walk", "choose", "(II)J"⟩, 15), (⟨"ExactTests$Whole", "addTimes", "(LExactTests$Whole;JI)V"⟩, 2), (⟨"ExactTests$Walk", "weighSeen", "(LExactTests$Grid;)V"⟩, 15), (⟨"ExactTests$Walk", "fillRow", "(I)V"⟩, 15), (⟨"ExactTests$Walk", "fillCell", "(IIII)V"⟩, 15), (⟨"ExactTests$Walk", "fillLastRow", "(I)V"⟩, 15), (⟨"ExactTests$Fraction", "reduce", "()V"⟩, 2), (⟨"ExactTests$Fraction", "isCommon", "(I)Z"⟩, 2), (⟨"ExactTests$Sums", "begin", "()V"⟩, 7)]
theorem lw_r1 : ∀ q ∈ lw_privs_1, lw_okq q := List.forall_mem_cons.mpr ⟨lw_p0, List.forall_mem_cons.mpr ⟨lw_p1, List.forall_mem_cons.mpr ⟨lw_p2, List.forall_mem_cons.mpr ⟨lw_p3, List.forall_mem_cons.mpr ⟨lw_p4, List.forall_mem_cons.mpr ⟨lw_p5, List.forall_mem_cons.mpr ⟨lw_p6, List.forall_mem_cons.mpr ⟨lw_p7, List.forall_mem_cons.mpr ⟨lw_p8, List.forall_mem_cons.mpr ⟨lw_p9, List.forall_mem_cons.mpr ⟨lw_p10, List.forall_mem_cons.mpr ⟨lw_p11, List.forall_mem_cons.mpr ⟨lw_p12, List.forall_mem_cons.mpr ⟨lw_p13, List.forall_mem_cons.mpr ⟨lw_p14, List.forall_mem_cons.mpr ⟨lw_p15, fun _ h => absurd h List.not_mem_nil⟩⟩⟩⟩⟩⟩⟩⟩⟩⟩⟩⟩⟩⟩⟩⟩
theorem lw_p16 : lw_okq (⟨"ExactTests", "takeScores", "(LExactTests$Numbers;I)I"⟩, 11) := ⟨⟨by decide +kernel, by decide +kernel⟩, List.mem_of_getElem? (i := 19) (by decide +kernel), List.mem_of_getElem? (i := 559) (by decide +kernel), List.mem_of_getElem? (i := 560) (by decide +kernel)⟩
theorem lw_p17 : lw_okq (⟨"ExactTests", "rankOfNumber", "(I)I"⟩, 11) := ⟨⟨by decide +kernel, by decide +kernel⟩, List.mem_of_getElem? (i := 19) (by decide +kernel), List.mem_of_getElem? (i := 571) (by decide +kernel), List.mem_of_getElem? (i := 572) (by decide +kernel)⟩
theorem lw_p18 : lw_okq (⟨"ExactTests$HalfSums", "makeRoom", "(I)V"⟩, 3) := ⟨⟨by decide +kernel, by decide +kernel⟩, List.mem_of_getElem? (i := 160) (by decide +kernel), List.mem_of_getElem? (i := 595) (by decide +kernel), List.mem_of_getElem? (i := 596) (by decide +kernel)⟩
theorem lw_p19 : lw_okq (⟨"ExactTests", "judge", "(III)V"⟩, 11) := ⟨⟨by decide +kernel, by decide +kernel⟩, List.mem_of_getElem? (i := 19) (by decide +kernel), List.mem_of_getElem? (i := 604) (by decide +kernel), List.mem_of_getElem? (i := 605) (by decide +kernel)⟩
theorem lw_p20 : lw_okq (⟨"ExactTests", "scoreOfSize", "(II)I"⟩, 11) := ⟨⟨by decide +kernel, by decide +kernel⟩, List.mem_of_getElem? (i := 19) (by decide +kernel), List.mem_of_getElem? (i := 639) (by decide +kernel), List.mem_of_getElem? (i := 640) (by decide +kernel)⟩
theorem lw_p21 : lw_okq (⟨"ExactTests", "rankOfSize", "(I)I"⟩, 11) := ⟨⟨by decide +kernel, by decide +kernel⟩, List.mem_of_getElem? (i := 19) (by decide +kernel), List.mem_of_getElem? (i := 643) (by decide +kernel), List.mem_of_getElem? (i := 644) (by decide +kernel)⟩
theorem lw_p22 : lw_okq (⟨"ExactTests", "refusal", "(I)I"⟩, 11) := ⟨⟨by decide +kernel, by decide +kernel⟩, List.mem_of_getElem? (i := 19) (by decide +kernel), List.mem_of_getElem? (i := 686) (by decide +kernel), List.mem_of_getElem? (i := 687) (by decide +kernel)⟩
theorem lw_p23 : lw_okq (⟨"ExactTests", "shiftInPlace", "(I)I"⟩, 11) := ⟨⟨by decide +kernel, by decide +kernel⟩, List.mem_of_getElem? (i := 19) (by decide +kernel), List.mem_of_getElem? (i := 847) (by decide +kernel), List.mem_of_getElem? (i := 848) (by decide +kernel)⟩
theorem lw_p24 : lw_okq (⟨"ExactTests", "countShiftsUpTo", "(I)I"⟩, 11) := ⟨⟨by decide +kernel, by decide +kernel⟩, List.mem_of_getElem? (i := 19) (by decide +kernel), List.mem_of_getElem? (i := 851) (by decide +kernel), List.mem_of_getElem? (i := 852) (by decide +kernel)⟩
theorem lw_p25 : lw_okq (⟨"ExactTestsModel", "marginOfRow", "(I)I"⟩, 47) := ⟨⟨by decide +kernel, by decide +kernel⟩, List.mem_of_getElem? (i := 863) (by decide +kernel), List.mem_of_getElem? (i := 1033) (by decide +kernel), List.mem_of_getElem? (i := 1034) (by decide +kernel)⟩
theorem lw_p26 : lw_okq (⟨"ExactTestsModel", "marginOfColumn", "(I)I"⟩, 47) := ⟨⟨by decide +kernel, by decide +kernel⟩, List.mem_of_getElem? (i := 863) (by decide +kernel), List.mem_of_getElem? (i := 1037) (by decide +kernel), List.mem_of_getElem? (i := 1038) (by decide +kernel)⟩
theorem lw_p27 : lw_okq (⟨"ExactTestsModel", "firstTable", "()V"⟩, 47) := ⟨⟨by decide +kernel, by decide +kernel⟩, List.mem_of_getElem? (i := 863) (by decide +kernel), List.mem_of_getElem? (i := 1059) (by decide +kernel), List.mem_of_getElem? (i := 1060) (by decide +kernel)⟩
theorem lw_p28 : lw_okq (⟨"ExactTestsModel", "openFrom", "(I)V"⟩, 47) := ⟨⟨by decide +kernel, by decide +kernel⟩, List.mem_of_getElem? (i := 863) (by decide +kernel), List.mem_of_getElem? (i := 1063) (by decide +kernel), List.mem_of_getElem? (i := 1064) (by decide +kernel)⟩
theorem lw_p29 : lw_okq (⟨"ExactTestsModel", "open", "(I)V"⟩, 47) := ⟨⟨by decide +kernel, by decide +kernel⟩, List.mem_of_getElem? (i := 863) (by decide +kernel), List.mem_of_getElem? (i := 1067) (by decide +kernel), List.mem_of_getElem? (i := 1068) (by decide +kernel)⟩
theorem lw_p30 : lw_okq (⟨"ExactTestsModel", "columnLeft", "(II)I"⟩, 47) := ⟨⟨by decide +kernel, by decide +kernel⟩, List.mem_of_getElem? (i := 863) (by decide +kernel), List.mem_of_getElem? (i := 1071) (by decide +kernel), List.mem_of_getElem? (i := 1072) (by decide +kernel)⟩
theorem lw_p31 : lw_okq (⟨"ExactTestsModel", "nextTable", "()Z"⟩, 47) := ⟨⟨by decide +kernel, by decide +kernel⟩, List.mem_of_getElem? (i := 863) (by decide +kernel), List.mem_of_getElem? (i := 1075) (by decide +kernel), List.mem_of_getElem? (i := 1076) (by decide +kernel)⟩
def lw_privs_2 : List (MethodName × Nat) := [(⟨"ExactTests", "takeScores", "(LExactTests$Numbers;I)I"⟩, 11), (⟨"ExactTests", "rankOfNumber", "(I)I"⟩, 11), (⟨"ExactTests$HalfSums", "makeRoom", "(I)V"⟩, 3), (⟨"ExactTests", "judge", "(III)V"⟩, 11), (⟨"ExactTests", "scoreOfSize", "(II)I"⟩, 11), (⟨"ExactTests", "rankOfSize", "(I)I"⟩, 11), (⟨"ExactTests", "refusal", "(I)I"⟩, 11), (⟨"ExactTests", "shiftInPlace", "(I)I"⟩, 11), (⟨"ExactTests", "countShiftsUpTo", "(I)I"⟩, 11), (⟨"ExactTestsModel", "marginOfRow", "(I)I"⟩, 47), (⟨"ExactTestsModel", "marginOfColumn", "(I)I"⟩, 47), (⟨"ExactTestsModel", "firstTable", "()V"⟩, 47), (⟨"ExactTestsModel", "openFrom", "(I)V"⟩, 47), (⟨"ExactTestsModel", "open", "(I)V"⟩, 47), (⟨"ExactTestsModel", "columnLeft", "(II)I"⟩, 47), (⟨"ExactTestsModel", "nextTable", "()Z"⟩, 47)]
theorem lw_r2 : ∀ q ∈ lw_privs_2, lw_okq q := List.forall_mem_cons.mpr ⟨lw_p16, List.forall_mem_cons.mpr ⟨lw_p17, List.forall_mem_cons.mpr ⟨lw_p18, List.forall_mem_cons.mpr ⟨lw_p19, List.forall_mem_cons.mpr ⟨lw_p20, List.forall_mem_cons.mpr ⟨lw_p21, List.forall_mem_cons.mpr ⟨lw_p22, List.forall_mem_cons.mpr ⟨lw_p23, List.forall_mem_cons.mpr ⟨lw_p24, List.forall_mem_cons.mpr ⟨lw_p25, List.forall_mem_cons.mpr ⟨lw_p26, List.forall_mem_cons.mpr ⟨lw_p27, List.forall_mem_cons.mpr ⟨lw_p28, List.forall_mem_cons.mpr ⟨lw_p29, List.forall_mem_cons.mpr ⟨lw_p30, List.forall_mem_cons.mpr ⟨lw_p31, fun _ h => absurd h List.not_mem_nil⟩⟩⟩⟩⟩⟩⟩⟩⟩⟩⟩⟩⟩⟩⟩⟩
theorem lw_p32 : lw_okq (⟨"ExactTestsModel", "timesFactorial", "([II)V"⟩, 47) := ⟨⟨by decide +kernel, by decide +kernel⟩, List.mem_of_getElem? (i := 863) (by decide +kernel), List.mem_of_getElem? (i := 1083) (by decide +kernel), List.mem_of_getElem? (i := 1084) (by decide +kernel)⟩
theorem lw_p33 : lw_okq (⟨"ExactTestsModel", "weigh", "([I[I)V"⟩, 47) := ⟨⟨by decide +kernel, by decide +kernel⟩, List.mem_of_getElem? (i := 863) (by decide +kernel), List.mem_of_getElem? (i := 1090) (by decide +kernel), List.mem_of_getElem? (i := 1091) (by decide +kernel)⟩
theorem lw_p34 : lw_okq (⟨"ExactTestsModel", "keepCase", "(I)V"⟩, 47) := ⟨⟨by decide +kernel, by decide +kernel⟩, List.mem_of_getElem? (i := 863) (by decide +kernel), List.mem_of_getElem? (i := 1101) (by decide +kernel), List.mem_of_getElem? (i := 1102) (by decide +kernel)⟩
theorem lw_p35 : lw_okq (⟨"ExactTestsModel", "shorten", "([I)V"⟩, 47) := ⟨⟨by decide +kernel, by decide +kernel⟩, List.mem_of_getElem? (i := 863) (by decide +kernel), List.mem_of_getElem? (i := 1112) (by decide +kernel), List.mem_of_getElem? (i := 1113) (by decide +kernel)⟩
theorem lw_p36 : lw_okq (⟨"ExactTestsModel", "findCommon", "([II[II)V"⟩, 47) := ⟨⟨by decide +kernel, by decide +kernel⟩, List.mem_of_getElem? (i := 863) (by decide +kernel), List.mem_of_getElem? (i := 1116) (by decide +kernel), List.mem_of_getElem? (i := 1117) (by decide +kernel)⟩
theorem lw_p37 : lw_okq (⟨"ExactTestsModel", "part", "([II[II)V"⟩, 47) := ⟨⟨by decide +kernel, by decide +kernel⟩, List.mem_of_getElem? (i := 863) (by decide +kernel), List.mem_of_getElem? (i := 1123) (by decide +kernel), List.mem_of_getElem? (i := 1124) (by decide +kernel)⟩
theorem lw_p38 : lw_okq (⟨"ExactTestsModel", "takeSizes", "()V"⟩, 47) := ⟨⟨by decide +kernel, by decide +kernel⟩, List.mem_of_getElem? (i := 863) (by decide +kernel), List.mem_of_getElem? (i := 1150) (by decide +kernel), List.mem_of_getElem? (i := 1151) (by decide +kernel)⟩
theorem lw_p39 : lw_okq (⟨"ExactTestsModel", "rankOf", "(I)I"⟩, 47) := ⟨⟨by decide +kernel, by decide +kernel⟩, List.mem_of_getElem? (i := 863) (by decide +kernel), List.mem_of_getElem? (i := 1157) (by decide +kernel), List.mem_of_getElem? (i := 1158) (by decide +kernel)⟩
theorem lw_p40 : lw_okq (⟨"ExactTestsModel", "takeSamples", "()V"⟩, 47) := ⟨⟨by decide +kernel, by decide +kernel⟩, List.mem_of_getElem? (i := 863) (by decide +kernel), List.mem_of_getElem? (i := 1161) (by decide +kernel), List.mem_of_getElem? (i := 1162) (by decide +kernel)⟩
theorem lw_p41 : lw_okq (⟨"ExactTestsModel", "countWays", "(II)V"⟩, 47) := ⟨⟨by decide +kernel, by decide +kernel⟩, List.mem_of_getElem? (i := 863) (by decide +kernel), List.mem_of_getElem? (i := 1171) (by decide +kernel), List.mem_of_getElem? (i := 1172) (by decide +kernel)⟩
theorem lw_p42 : lw_okq (⟨"ExactTestsModel", "findChances", "(II)V"⟩, 47) := ⟨⟨by decide +kernel, by decide +kernel⟩, List.mem_of_getElem? (i := 863) (by decide +kernel), List.mem_of_getElem? (i := 1175) (by decide +kernel), List.mem_of_getElem? (i := 1176) (by decide +kernel)⟩
theorem lw_p43 : lw_okq (⟨"ExactTestsModel", "stands", "([II[IIIII)I"⟩, 47) := ⟨⟨by decide +kernel, by decide +kernel⟩, List.mem_of_getElem? (i := 863) (by decide +kernel), List.mem_of_getElem? (i := 1217) (by decide +kernel), List.mem_of_getElem? (i := 1218) (by decide +kernel)⟩
theorem lw_p44 : lw_okq (⟨"ExactTestsModel", "findRejected", "(II)I"⟩, 47) := ⟨⟨by decide +kernel, by decide +kernel⟩, List.mem_of_getElem? (i := 863) (by decide +kernel), List.mem_of_getElem? (i := 1234) (by decide +kernel), List.mem_of_getElem? (i := 1235) (by decide +kernel)⟩
theorem lw_p45 : lw_okq (⟨"ExactTestsModel", "isLess", "(II)Z"⟩, 47) := ⟨⟨by decide +kernel, by decide +kernel⟩, List.mem_of_getElem? (i := 863) (by decide +kernel), List.mem_of_getElem? (i := 1238) (by decide +kernel), List.mem_of_getElem? (i := 1239) (by decide +kernel)⟩
def lw_privs_3 : List (MethodName × Nat) := [(⟨"ExactTestsModel", "timesFactorial", "([II)V"⟩, 47), (⟨"ExactTestsModel", "weigh", "([I[I)V"⟩, 47), (⟨"ExactTestsModel", "keepCase", "(I)V"⟩, 47), (⟨"ExactTestsModel", "shorten", "([I)V"⟩, 47), (⟨"ExactTestsModel", "findCommon", "([II[II)V"⟩, 47), (⟨"ExactTestsModel", "part", "([II[II)V"⟩, 47), (⟨"ExactTestsModel", "takeSizes", "()V"⟩, 47), (⟨"ExactTestsModel", "rankOf", "(I)I"⟩, 47), (⟨"ExactTestsModel", "takeSamples", "()V"⟩, 47), (⟨"ExactTestsModel", "countWays", "(II)V"⟩, 47), (⟨"ExactTestsModel", "findChances", "(II)V"⟩, 47), (⟨"ExactTestsModel", "stands", "([II[IIIII)I"⟩, 47), (⟨"ExactTestsModel", "findRejected", "(II)I"⟩, 47), (⟨"ExactTestsModel", "isLess", "(II)Z"⟩, 47)]
theorem lw_r3 : ∀ q ∈ lw_privs_3, lw_okq q := List.forall_mem_cons.mpr ⟨lw_p32, List.forall_mem_cons.mpr ⟨lw_p33, List.forall_mem_cons.mpr ⟨lw_p34, List.forall_mem_cons.mpr ⟨lw_p35, List.forall_mem_cons.mpr ⟨lw_p36, List.forall_mem_cons.mpr ⟨lw_p37, List.forall_mem_cons.mpr ⟨lw_p38, List.forall_mem_cons.mpr ⟨lw_p39, List.forall_mem_cons.mpr ⟨lw_p40, List.forall_mem_cons.mpr ⟨lw_p41, List.forall_mem_cons.mpr ⟨lw_p42, List.forall_mem_cons.mpr ⟨lw_p43, List.forall_mem_cons.mpr ⟨lw_p44, List.forall_mem_cons.mpr ⟨lw_p45, fun _ h => absurd h List.not_mem_nil⟩⟩⟩⟩⟩⟩⟩⟩⟩⟩⟩⟩⟩⟩
def lw_privs : List (MethodName × Nat) := lw_privs_1 ++ (lw_privs_2 ++ (lw_privs_3))
def lw_tbl : List Cond := k2_sels lw_privs ++ tables_1
theorem lw_privs_ok : ∀ q ∈ lw_privs, lw_okq q := by
  show ∀ q ∈ lw_privs_1 ++ (lw_privs_2 ++ (lw_privs_3)), lw_okq q
  exact List.forall_mem_append.mpr ⟨lw_r1, List.forall_mem_append.mpr ⟨lw_r2, lw_r3⟩⟩
end
section
def RX0 : String := "ExactTests$Cases"
def TX0 : u_T := fun k => match k with
  | 0 => ("ExactTests$Cases", "kept", "[J", false)
  | 1 => ("ExactTests$Cases", "rows", "I", false)
  | 2 => ("ExactTests$Cases", "columns", "I", false)
  | 3 => ("ExactTests$Cases", "stride", "I", false)
  | _ => ("ExactTests$Cases", "count", "I", false)
def tyX0 : Nat → FieldType := fun k => match k with
  | 0 => .array .long
  | 1 => .int
  | 2 => .int
  | 3 => .int
  | _ => .int
theorem nmX0 : ∀ a, a < 5 → ∀ b, b < 5 → a ≠ b → (TX0 a).2.1 ≠ (TX0 b).2.1 := by decide +kernel
theorem tyX0_ok : ∀ k, k < 5 → parseFieldDescriptor (TX0 k).2.2.1 = some (tyX0 k) := by decide +kernel
abbrev cX0_init : ByteArray := prog_2_method_1_code
def yX0_init : MethodName := ⟨RX0, "<init>", "()V"⟩
abbrev cX0_renew : ByteArray := prog_2_method_2_code
def yX0_renew : MethodName := ⟨RX0, "renew", "(III)V"⟩
abbrev cX0_keep : ByteArray := prog_2_method_3_code
def yX0_keep : MethodName := ⟨RX0, "keep", "([II)V"⟩
abbrev cX0_count : ByteArray := prog_2_method_4_code
def yX0_count : MethodName := ⟨RX0, "count", "()I"⟩
abbrev cX0_has : ByteArray := prog_2_method_5_code
def yX0_has : MethodName := ⟨RX0, "has", "(I)Z"⟩
abbrev cX0_hasCell : ByteArray := prog_2_method_6_code
def yX0_hasCell : MethodName := ⟨RX0, "hasCell", "(II)Z"⟩
abbrev cX0_numberAt : ByteArray := prog_2_method_7_code
def yX0_numberAt : MethodName := ⟨RX0, "numberAt", "(III)I"⟩
abbrev cX0_orderOf : ByteArray := prog_2_method_8_code
def yX0_orderOf : MethodName := ⟨RX0, "orderOf", "(I)I"⟩
def RX1 : String := "ExactTests$Chances"
def TX1 : u_T := fun k => match k with
  | 0 => ("ExactTests$Chances", "noted", "[LExactTests$Fraction;", true)
  | 1 => ("ExactTests$Chances", "order", "[I", true)
  | 2 => ("ExactTests$Chances", "scale", "LExactTests$Scale;", true)
  | _ => ("ExactTests$Chances", "size", "I", false)
def tyX1 : Nat → FieldType := fun k => match k with
  | 0 => .array (.object "ExactTests$Fraction")
  | 1 => .array .int
  | 2 => .object "ExactTests$Scale"
  | _ => .int
theorem nmX1 : ∀ a, a < 4 → ∀ b, b < 4 → a ≠ b → (TX1 a).2.1 ≠ (TX1 b).2.1 := by decide +kernel
theorem tyX1_ok : ∀ k, k < 4 → parseFieldDescriptor (TX1 k).2.2.1 = some (tyX1 k) := by decide +kernel
abbrev cX1_init : ByteArray := prog_3_method_1_code
def yX1_init : MethodName := ⟨RX1, "<init>", "(LExactTests$Scale;)V"⟩
abbrev cX1_size : ByteArray := prog_3_method_2_code
def yX1_size : MethodName := ⟨RX1, "size", "()I"⟩
abbrev cX1_isFull : ByteArray := prog_3_method_3_code
def yX1_isFull : MethodName := ⟨RX1, "isFull", "()Z"⟩
abbrev cX1_has : ByteArray := prog_3_method_4_code
def yX1_has : MethodName := ⟨RX1, "has", "(I)Z"⟩
abbrev cX1_empty : ByteArray := prog_3_method_5_code
def yX1_empty : MethodName := ⟨RX1, "empty", "()I"⟩
abbrev cX1_add : ByteArray := prog_3_method_6_code
def yX1_add : MethodName := ⟨RX1, "add", "(LExactTests$Fraction;)I"⟩
abbrev cX1_placeOf : ByteArray := prog_3_method_7_code
def yX1_placeOf : MethodName := ⟨RX1, "placeOf", "(I)I"⟩
abbrev cX1_countRejected : ByteArray := prog_3_method_8_code
def yX1_countRejected : MethodName := ⟨RX1, "countRejected", "(II)I"⟩
def RX2 : String := "ExactTests$Fraction"
def TX2 : u_T := fun k => match k with
  | 0 => ("ExactTests$Fraction", "upper", "LExactTests$Whole;", true)
  | _ => ("ExactTests$Fraction", "lower", "LExactTests$Whole;", true)
def tyX2 : Nat → FieldType := fun k => match k with
  | 0 => .object "ExactTests$Whole"
  | _ => .object "ExactTests$Whole"
theorem nmX2 : ∀ a, a < 2 → ∀ b, b < 2 → a ≠ b → (TX2 a).2.1 ≠ (TX2 b).2.1 := by decide +kernel
theorem tyX2_ok : ∀ k, k < 2 → parseFieldDescriptor (TX2 k).2.2.1 = some (tyX2 k) := by decide +kernel
abbrev cX2_init : ByteArray := prog_4_method_1_code
def yX2_init : MethodName := ⟨RX2, "<init>", "()V"⟩
abbrev cX2_setWholes : ByteArray := prog_4_method_2_code
def yX2_setWholes : MethodName := ⟨RX2, "setWholes", "(LExactTests$Whole;LExactTests$Whole;)V"⟩
abbrev cX2_setLongs : ByteArray := prog_4_method_3_code
def yX2_setLongs : MethodName := ⟨RX2, "setLongs", "(JJ)V"⟩
abbrev cX2_copy : ByteArray := prog_4_method_4_code
def yX2_copy : MethodName := ⟨RX2, "copy", "(LExactTests$Fraction;)V"⟩
abbrev cX2_part : ByteArray := prog_4_method_5_code
def yX2_part : MethodName := ⟨RX2, "part", "(I)LExactTests$Whole;"⟩
abbrev cX2_countWords : ByteArray := prog_4_method_6_code
def yX2_countWords : MethodName := ⟨RX2, "countWords", "()I"⟩
abbrev cX2_wordInTurn : ByteArray := prog_4_method_7_code
def yX2_wordInTurn : MethodName := ⟨RX2, "wordInTurn", "(I)I"⟩
abbrev cX2_reduce : ByteArray := prog_4_method_8_code
def yX2_reduce : MethodName := ⟨RX2, "reduce", "()V"⟩
abbrev cX2_isCommon : ByteArray := prog_4_method_9_code
def yX2_isCommon : MethodName := ⟨RX2, "isCommon", "(I)Z"⟩
def RX3 : String := "ExactTests$Grid"
def TX3 : u_T := fun k => match k with
  | 0 => ("ExactTests$Grid", "cells", "[I", true)
  | 1 => ("ExactTests$Grid", "rows", "I", false)
  | _ => ("ExactTests$Grid", "columns", "I", false)
def tyX3 : Nat → FieldType := fun k => match k with
  | 0 => .array .int
  | 1 => .int
  | _ => .int
theorem nmX3 : ∀ a, a < 3 → ∀ b, b < 3 → a ≠ b → (TX3 a).2.1 ≠ (TX3 b).2.1 := by decide +kernel
theorem tyX3_ok : ∀ k, k < 3 → parseFieldDescriptor (TX3 k).2.2.1 = some (tyX3 k) := by decide +kernel
abbrev cX3_init : ByteArray := prog_5_method_1_code
def yX3_init : MethodName := ⟨RX3, "<init>", "()V"⟩
abbrev cX3_renew : ByteArray := prog_5_method_2_code
def yX3_renew : MethodName := ⟨RX3, "renew", "(II)V"⟩
abbrev cX3_rows : ByteArray := prog_5_method_3_code
def yX3_rows : MethodName := ⟨RX3, "rows", "()I"⟩
abbrev cX3_columns : ByteArray := prog_5_method_4_code
def yX3_columns : MethodName := ⟨RX3, "columns", "()I"⟩
abbrev cX3_hasRow : ByteArray := prog_5_method_5_code
def yX3_hasRow : MethodName := ⟨RX3, "hasRow", "(I)Z"⟩
abbrev cX3_hasColumn : ByteArray := prog_5_method_6_code
def yX3_hasColumn : MethodName := ⟨RX3, "hasColumn", "(I)Z"⟩
abbrev cX3_at : ByteArray := prog_5_method_7_code
def yX3_at : MethodName := ⟨RX3, "at", "(II)I"⟩
abbrev cX3_put : ByteArray := prog_5_method_8_code
def yX3_put : MethodName := ⟨RX3, "put", "(III)V"⟩
abbrev cX3_rowSum : ByteArray := prog_5_method_9_code
def yX3_rowSum : MethodName := ⟨RX3, "rowSum", "(I)I"⟩
abbrev cX3_columnSum : ByteArray := prog_5_method_10_code
def yX3_columnSum : MethodName := ⟨RX3, "columnSum", "(I)I"⟩
abbrev cX3_inAll : ByteArray := prog_5_method_11_code
def yX3_inAll : MethodName := ⟨RX3, "inAll", "()I"⟩
def RX4 : String := "ExactTests$HalfSums"
def TX4 : u_T := fun k => match k with
  | 0 => ("ExactTests$HalfSums", "sums", "[I", false)
  | 1 => ("ExactTests$HalfSums", "times", "[I", false)
  | _ => ("ExactTests$HalfSums", "size", "I", false)
def tyX4 : Nat → FieldType := fun k => match k with
  | 0 => .array .int
  | 1 => .array .int
  | _ => .int
theorem nmX4 : ∀ a, a < 3 → ∀ b, b < 3 → a ≠ b → (TX4 a).2.1 ≠ (TX4 b).2.1 := by decide +kernel
theorem tyX4_ok : ∀ k, k < 3 → parseFieldDescriptor (TX4 k).2.2.1 = some (tyX4 k) := by decide +kernel
abbrev cX4_init : ByteArray := prog_6_method_1_code
def yX4_init : MethodName := ⟨RX4, "<init>", "()V"⟩
abbrev cX4_begin : ByteArray := prog_6_method_2_code
def yX4_begin : MethodName := ⟨RX4, "begin", "()V"⟩
abbrev cX4_take : ByteArray := prog_6_method_3_code
def yX4_take : MethodName := ⟨RX4, "take", "(I)V"⟩
abbrev cX4_makeRoom : ByteArray := prog_6_method_4_code
def yX4_makeRoom : MethodName := ⟨RX4, "makeRoom", "(I)V"⟩
def RX5 : String := "ExactTests$Numbers"
def TX5 : u_T := fun k => match k with
  | 0 => ("ExactTests$Numbers", "values", "[I", true)
  | _ => ("ExactTests$Numbers", "size", "I", false)
def tyX5 : Nat → FieldType := fun k => match k with
  | 0 => .array .int
  | _ => .int
theorem nmX5 : ∀ a, a < 2 → ∀ b, b < 2 → a ≠ b → (TX5 a).2.1 ≠ (TX5 b).2.1 := by decide +kernel
theorem tyX5_ok : ∀ k, k < 2 → parseFieldDescriptor (TX5 k).2.2.1 = some (tyX5 k) := by decide +kernel
abbrev cX5_init : ByteArray := prog_7_method_1_code
def yX5_init : MethodName := ⟨RX5, "<init>", "(I)V"⟩
abbrev cX5_size : ByteArray := prog_7_method_2_code
def yX5_size : MethodName := ⟨RX5, "size", "()I"⟩
abbrev cX5_isFull : ByteArray := prog_7_method_3_code
def yX5_isFull : MethodName := ⟨RX5, "isFull", "()Z"⟩
abbrev cX5_has : ByteArray := prog_7_method_4_code
def yX5_has : MethodName := ⟨RX5, "has", "(I)Z"⟩
abbrev cX5_get : ByteArray := prog_7_method_5_code
def yX5_get : MethodName := ⟨RX5, "get", "(I)I"⟩
abbrev cX5_add : ByteArray := prog_7_method_6_code
def yX5_add : MethodName := ⟨RX5, "add", "(I)I"⟩
abbrev cX5_empty : ByteArray := prog_7_method_7_code
def yX5_empty : MethodName := ⟨RX5, "empty", "()I"⟩
abbrev cX5_countOf : ByteArray := prog_7_method_8_code
def yX5_countOf : MethodName := ⟨RX5, "countOf", "(I)I"⟩
abbrev cX5_countBelow : ByteArray := prog_7_method_9_code
def yX5_countBelow : MethodName := ⟨RX5, "countBelow", "(I)I"⟩
def RX6 : String := "ExactTests$Results"
def TX6 : u_T := fun k => match k with
  | 0 => ("ExactTests$Results", "chances", "[LExactTests$Fraction;", true)
  | 1 => ("ExactTests$Results", "there", "Z", false)
  | 2 => ("ExactTests$Results", "test", "I", false)
  | 3 => ("ExactTests$Results", "statistic", "I", false)
  | _ => ("ExactTests$Results", "asked", "I", false)
def tyX6 : Nat → FieldType := fun k => match k with
  | 0 => .array (.object "ExactTests$Fraction")
  | 1 => .boolean
  | 2 => .int
  | 3 => .int
  | _ => .int
theorem nmX6 : ∀ a, a < 5 → ∀ b, b < 5 → a ≠ b → (TX6 a).2.1 ≠ (TX6 b).2.1 := by decide +kernel
theorem tyX6_ok : ∀ k, k < 5 → parseFieldDescriptor (TX6 k).2.2.1 = some (tyX6 k) := by decide +kernel
abbrev cX6_init : ByteArray := prog_8_method_1_code
def yX6_init : MethodName := ⟨RX6, "<init>", "()V"⟩
abbrev cX6_begin : ByteArray := prog_8_method_2_code
def yX6_begin : MethodName := ⟨RX6, "begin", "(III)V"⟩
abbrev cX6_areThere : ByteArray := prog_8_method_3_code
def yX6_areThere : MethodName := ⟨RX6, "areThere", "()Z"⟩
abbrev cX6_test : ByteArray := prog_8_method_4_code
def yX6_test : MethodName := ⟨RX6, "test", "()I"⟩
abbrev cX6_statistic : ByteArray := prog_8_method_5_code
def yX6_statistic : MethodName := ⟨RX6, "statistic", "()I"⟩
abbrev cX6_asked : ByteArray := prog_8_method_6_code
def yX6_asked : MethodName := ⟨RX6, "asked", "()I"⟩
abbrev cX6_chance : ByteArray := prog_8_method_7_code
def yX6_chance : MethodName := ⟨RX6, "chance", "(I)LExactTests$Fraction;"⟩
def RX7 : String := "ExactTests$Scale"
def TX7 : u_T := fun k => match k with
  | 0 => ("ExactTests$Scale", "left", "LExactTests$Whole;", true)
  | _ => ("ExactTests$Scale", "right", "LExactTests$Whole;", true)
def tyX7 : Nat → FieldType := fun k => match k with
  | 0 => .object "ExactTests$Whole"
  | _ => .object "ExactTests$Whole"
theorem nmX7 : ∀ a, a < 2 → ∀ b, b < 2 → a ≠ b → (TX7 a).2.1 ≠ (TX7 b).2.1 := by decide +kernel
theorem tyX7_ok : ∀ k, k < 2 → parseFieldDescriptor (TX7 k).2.2.1 = some (tyX7 k) := by decide +kernel
abbrev cX7_init : ByteArray := prog_9_method_1_code
def yX7_init : MethodName := ⟨RX7, "<init>", "()V"⟩
abbrev cX7_compareChances : ByteArray := prog_9_method_2_code
def yX7_compareChances : MethodName := ⟨RX7, "compareChances", "(LExactTests$Fraction;LExactTests$Fraction;)I"⟩
abbrev cX7_compareToLevel : ByteArray := prog_9_method_3_code
def yX7_compareToLevel : MethodName := ⟨RX7, "compareToLevel", "(LExactTests$Fraction;JJ)I"⟩
abbrev cX7_figureOf : ByteArray := prog_9_method_4_code
def yX7_figureOf : MethodName := ⟨RX7, "figureOf", "(LExactTests$Fraction;I)I"⟩
abbrev cX7_takeOut : ByteArray := prog_9_method_5_code
def yX7_takeOut : MethodName := ⟨RX7, "takeOut", "(LExactTests$Whole;LExactTests$Whole;)I"⟩
def RX8 : String := "ExactTests$Sums"
def TX8 : u_T := fun k => match k with
  | 0 => ("ExactTests$Sums", "one", "LExactTests$HalfSums;", true)
  | 1 => ("ExactTests$Sums", "other", "LExactTests$HalfSums;", true)
  | 2 => ("ExactTests$Sums", "oneIsNext", "Z", false)
  | 3 => ("ExactTests$Sums", "mark", "I", false)
  | 4 => ("ExactTests$Sums", "offset", "I", false)
  | 5 => ("ExactTests$Sums", "ahead", "J", false)
  | _ => ("ExactTests$Sums", "all", "J", false)
def tyX8 : Nat → FieldType := fun k => match k with
  | 0 => .object "ExactTests$HalfSums"
  | 1 => .object "ExactTests$HalfSums"
  | 2 => .boolean
  | 3 => .int
  | 4 => .int
  | 5 => .long
  | _ => .long
theorem nmX8 : ∀ a, a < 7 → ∀ b, b < 7 → a ≠ b → (TX8 a).2.1 ≠ (TX8 b).2.1 := by decide +kernel
theorem tyX8_ok : ∀ k, k < 7 → parseFieldDescriptor (TX8 k).2.2.1 = some (tyX8 k) := by decide +kernel
abbrev cX8_init : ByteArray := prog_10_method_1_code
def yX8_init : MethodName := ⟨RX8, "<init>", "()V"⟩
abbrev cX8_beginTaking : ByteArray := prog_10_method_2_code
def yX8_beginTaking : MethodName := ⟨RX8, "beginTaking", "(II)V"⟩
abbrev cX8_beginSigning : ByteArray := prog_10_method_3_code
def yX8_beginSigning : MethodName := ⟨RX8, "beginSigning", "(I)V"⟩
abbrev cX8_begin : ByteArray := prog_10_method_4_code
def yX8_begin : MethodName := ⟨RX8, "begin", "()V"⟩
abbrev cX8_take : ByteArray := prog_10_method_5_code
def yX8_take : MethodName := ⟨RX8, "take", "(I)V"⟩
abbrev cX8_countAll : ByteArray := prog_10_method_6_code
def yX8_countAll : MethodName := ⟨RX8, "countAll", "()J"⟩
abbrev cX8_upTo : ByteArray := prog_10_method_7_code
def yX8_upTo : MethodName := ⟨RX8, "upTo", "(I)J"⟩
abbrev cX8_exactly : ByteArray := prog_10_method_8_code
def yX8_exactly : MethodName := ⟨RX8, "exactly", "(I)J"⟩
def RX9 : String := "ExactTests$Walk"
def TX9 : u_T := fun k => match k with
  | 0 => ("ExactTests$Walk", "triangle", "[J", true)
  | 1 => ("ExactTests$Walk", "rowSums", "[I", true)
  | 2 => ("ExactTests$Walk", "columnLeft", "[I", true)
  | 3 => ("ExactTests$Walk", "cells", "[I", true)
  | 4 => ("ExactTests$Walk", "weights", "[LExactTests$Whole;", true)
  | 5 => ("ExactTests$Walk", "rows", "I", false)
  | 6 => ("ExactTests$Walk", "columns", "I", false)
  | 7 => ("ExactTests$Walk", "corner", "I", false)
  | 8 => ("ExactTests$Walk", "found", "I", false)
  | 9 => ("ExactTests$Walk", "cases", "LExactTests$Cases;", false)
  | 10 => ("ExactTests$Walk", "all", "LExactTests$Whole;", true)
  | 11 => ("ExactTests$Walk", "seen", "LExactTests$Whole;", true)
  | 12 => ("ExactTests$Walk", "far", "LExactTests$Whole;", true)
  | 13 => ("ExactTests$Walk", "low", "LExactTests$Whole;", true)
  | _ => ("ExactTests$Walk", "high", "LExactTests$Whole;", true)
def tyX9 : Nat → FieldType := fun k => match k with
  | 0 => .array .long
  | 1 => .array .int
  | 2 => .array .int
  | 3 => .array .int
  | 4 => .array (.object "ExactTests$Whole")
  | 5 => .int
  | 6 => .int
  | 7 => .int
  | 8 => .int
  | 9 => .object "ExactTests$Cases"
  | 10 => .object "ExactTests$Whole"
  | 11 => .object "ExactTests$Whole"
  | 12 => .object "ExactTests$Whole"
  | 13 => .object "ExactTests$Whole"
  | _ => .object "ExactTests$Whole"
theorem nmX9 : ∀ a, a < 15 → ∀ b, b < 15 → a ≠ b → (TX9 a).2.1 ≠ (TX9 b).2.1 := by decide +kernel
theorem tyX9_ok : ∀ k, k < 15 → parseFieldDescriptor (TX9 k).2.2.1 = some (tyX9 k) := by decide +kernel
abbrev cX9_init : ByteArray := prog_11_method_1_code
def yX9_init : MethodName := ⟨RX9, "<init>", "()V"⟩
abbrev cX9_choose : ByteArray := prog_11_method_2_code
def yX9_choose : MethodName := ⟨RX9, "choose", "(II)J"⟩
abbrev cX9_countCases : ByteArray := prog_11_method_3_code
def yX9_countCases : MethodName := ⟨RX9, "countCases", "(LExactTests$Grid;)I"⟩
abbrev cX9_weighCases : ByteArray := prog_11_method_4_code
def yX9_weighCases : MethodName := ⟨RX9, "weighCases", "(LExactTests$Grid;LExactTests$Cases;)V"⟩
abbrev cX9_begin : ByteArray := prog_11_method_5_code
def yX9_begin : MethodName := ⟨RX9, "begin", "(LExactTests$Grid;)V"⟩
abbrev cX9_weighAll : ByteArray := prog_11_method_6_code
def yX9_weighAll : MethodName := ⟨RX9, "weighAll", "(I)V"⟩
abbrev cX9_weighSeen : ByteArray := prog_11_method_7_code
def yX9_weighSeen : MethodName := ⟨RX9, "weighSeen", "(LExactTests$Grid;)V"⟩
abbrev cX9_sumOfColumnsLeft : ByteArray := prog_11_method_8_code
def yX9_sumOfColumnsLeft : MethodName := ⟨RX9, "sumOfColumnsLeft", "()I"⟩
abbrev cX9_countRow : ByteArray := prog_11_method_9_code
def yX9_countRow : MethodName := ⟨RX9, "countRow", "(I)V"⟩
abbrev cX9_countCell : ByteArray := prog_11_method_10_code
def yX9_countCell : MethodName := ⟨RX9, "countCell", "(IIII)V"⟩
abbrev cX9_fillRow : ByteArray := prog_11_method_11_code
def yX9_fillRow : MethodName := ⟨RX9, "fillRow", "(I)V"⟩
abbrev cX9_fillCell : ByteArray := prog_11_method_12_code
def yX9_fillCell : MethodName := ⟨RX9, "fillCell", "(IIII)V"⟩
abbrev cX9_fillLastRow : ByteArray := prog_11_method_13_code
def yX9_fillLastRow : MethodName := ⟨RX9, "fillLastRow", "(I)V"⟩
def RX10 : String := "ExactTests$Whole"
def TX10 : u_T := fun k => match k with
  | 0 => ("ExactTests$Whole", "limbs", "[J", true)
  | _ => ("ExactTests$Whole", "size", "I", false)
def tyX10 : Nat → FieldType := fun k => match k with
  | 0 => .array .long
  | _ => .int
theorem nmX10 : ∀ a, a < 2 → ∀ b, b < 2 → a ≠ b → (TX10 a).2.1 ≠ (TX10 b).2.1 := by decide +kernel
theorem tyX10_ok : ∀ k, k < 2 → parseFieldDescriptor (TX10 k).2.2.1 = some (tyX10 k) := by decide +kernel
abbrev cX10_init : ByteArray := prog_12_method_1_code
def yX10_init : MethodName := ⟨RX10, "<init>", "()V"⟩
abbrev cX10_set : ByteArray := prog_12_method_2_code
def yX10_set : MethodName := ⟨RX10, "set", "(J)V"⟩
abbrev cX10_copy : ByteArray := prog_12_method_3_code
def yX10_copy : MethodName := ⟨RX10, "copy", "(LExactTests$Whole;)V"⟩
abbrev cX10_compare : ByteArray := prog_12_method_4_code
def yX10_compare : MethodName := ⟨RX10, "compare", "(LExactTests$Whole;)I"⟩
abbrev cX10_add : ByteArray := prog_12_method_5_code
def yX10_add : MethodName := ⟨RX10, "add", "(LExactTests$Whole;)V"⟩
abbrev cX10_subtract : ByteArray := prog_12_method_6_code
def yX10_subtract : MethodName := ⟨RX10, "subtract", "(LExactTests$Whole;)V"⟩
abbrev cX10_setProduct : ByteArray := prog_12_method_7_code
def yX10_setProduct : MethodName := ⟨RX10, "setProduct", "(LExactTests$Whole;J)V"⟩
abbrev cX10_setProductOf : ByteArray := prog_12_method_8_code
def yX10_setProductOf : MethodName := ⟨RX10, "setProductOf", "(LExactTests$Whole;LExactTests$Whole;)V"⟩
abbrev cX10_addTimes : ByteArray := prog_12_method_9_code
def yX10_addTimes : MethodName := ⟨RX10, "addTimes", "(LExactTests$Whole;JI)V"⟩
abbrev cX10_remainder : ByteArray := prog_12_method_10_code
def yX10_remainder : MethodName := ⟨RX10, "remainder", "(I)I"⟩
abbrev cX10_divide : ByteArray := prog_12_method_11_code
def yX10_divide : MethodName := ⟨RX10, "divide", "(I)V"⟩
abbrev cX10_bitLength : ByteArray := prog_12_method_12_code
def yX10_bitLength : MethodName := ⟨RX10, "bitLength", "()I"⟩
abbrev cX10_countWords : ByteArray := prog_12_method_13_code
def yX10_countWords : MethodName := ⟨RX10, "countWords", "()I"⟩
abbrev cX10_sixteenBits : ByteArray := prog_12_method_14_code
def yX10_sixteenBits : MethodName := ⟨RX10, "sixteenBits", "(I)I"⟩
abbrev cX10_empty : ByteArray := prog_12_method_15_code
def yX10_empty : MethodName := ⟨RX10, "empty", "()V"⟩
abbrev cX10_trim : ByteArray := prog_12_method_16_code
def yX10_trim : MethodName := ⟨RX10, "trim", "(I)V"⟩
def RX11 : String := "ExactTests"
def TX11 : u_T := fun k => match k with
  | 0 => ("ExactTests", "grid", "LExactTests$Grid;", true)
  | 1 => ("ExactTests", "sampleA", "LExactTests$Numbers;", true)
  | 2 => ("ExactTests", "sampleB", "LExactTests$Numbers;", true)
  | 3 => ("ExactTests", "differences", "LExactTests$Numbers;", true)
  | 4 => ("ExactTests", "claimed", "LExactTests$Numbers;", true)
  | 5 => ("ExactTests", "walk", "LExactTests$Walk;", true)
  | 6 => ("ExactTests", "cases", "LExactTests$Cases;", true)
  | 7 => ("ExactTests", "sums", "LExactTests$Sums;", true)
  | 8 => ("ExactTests", "results", "LExactTests$Results;", true)
  | 9 => ("ExactTests", "scale", "LExactTests$Scale;", true)
  | _ => ("ExactTests", "chances", "LExactTests$Chances;", true)
def tyX11 : Nat → FieldType := fun k => match k with
  | 0 => .object "ExactTests$Grid"
  | 1 => .object "ExactTests$Numbers"
  | 2 => .object "ExactTests$Numbers"
  | 3 => .object "ExactTests$Numbers"
  | 4 => .object "ExactTests$Numbers"
  | 5 => .object "ExactTests$Walk"
  | 6 => .object "ExactTests$Cases"
  | 7 => .object "ExactTests$Sums"
  | 8 => .object "ExactTests$Results"
  | 9 => .object "ExactTests$Scale"
  | _ => .object "ExactTests$Chances"
theorem nmX11 : ∀ a, a < 11 → ∀ b, b < 11 → a ≠ b → (TX11 a).2.1 ≠ (TX11 b).2.1 := by decide +kernel
theorem tyX11_ok : ∀ k, k < 11 → parseFieldDescriptor (TX11 k).2.2.1 = some (tyX11 k) := by decide +kernel
abbrev cX11_init : ByteArray := prog_1_method_1_code
def yX11_init : MethodName := ⟨RX11, "<init>", "()V"⟩
abbrev cX11_table : ByteArray := prog_1_method_2_code
def yX11_table : MethodName := ⟨RX11, "table", "(II)I"⟩
abbrev cX11_cell : ByteArray := prog_1_method_3_code
def yX11_cell : MethodName := ⟨RX11, "cell", "(III)I"⟩
abbrev cX11_about : ByteArray := prog_1_method_4_code
def yX11_about : MethodName := ⟨RX11, "about", "(III)I"⟩
abbrev cX11_sample : ByteArray := prog_1_method_5_code
def yX11_sample : MethodName := ⟨RX11, "sample", "(II)I"⟩
abbrev cX11_pair : ByteArray := prog_1_method_6_code
def yX11_pair : MethodName := ⟨RX11, "pair", "(II)I"⟩
abbrev cX11_clear : ByteArray := prog_1_method_7_code
def yX11_clear : MethodName := ⟨RX11, "clear", "(I)I"⟩
abbrev cX11_tables : ByteArray := prog_1_method_8_code
def yX11_tables : MethodName := ⟨RX11, "tables", "()I"⟩
abbrev cX11_labels : ByteArray := prog_1_method_9_code
def yX11_labels : MethodName := ⟨RX11, "labels", "(I)I"⟩
abbrev cX11_signs : ByteArray := prog_1_method_10_code
def yX11_signs : MethodName := ⟨RX11, "signs", "(I)I"⟩
abbrev cX11_rank : ByteArray := prog_1_method_11_code
def yX11_rank : MethodName := ⟨RX11, "rank", "(II)I"⟩
abbrev cX11_caseAt : ByteArray := prog_1_method_12_code
def yX11_caseAt : MethodName := ⟨RX11, "caseAt", "(III)I"⟩
abbrev cX11_weighs : ByteArray := prog_1_method_13_code
def yX11_weighs : MethodName := ⟨RX11, "weighs", "(I)I"⟩
abbrev cX11_bits : ByteArray := prog_1_method_14_code
def yX11_bits : MethodName := ⟨RX11, "bits", "(II)I"⟩
abbrev cX11_word : ByteArray := prog_1_method_15_code
def yX11_word : MethodName := ⟨RX11, "word", "(III)I"⟩
abbrev cX11_figure : ByteArray := prog_1_method_16_code
def yX11_figure : MethodName := ⟨RX11, "figure", "(II)I"⟩
abbrev cX11_against : ByteArray := prog_1_method_17_code
def yX11_against : MethodName := ⟨RX11, "against", "(III)I"⟩
abbrev cX11_result : ByteArray := prog_1_method_18_code
def yX11_result : MethodName := ⟨RX11, "result", "(I)I"⟩
abbrev cX11_ways : ByteArray := prog_1_method_19_code
def yX11_ways : MethodName := ⟨RX11, "ways", "(I)J"⟩
abbrev cX11_note : ByteArray := prog_1_method_20_code
def yX11_note : MethodName := ⟨RX11, "note", "(I)I"⟩
abbrev cX11_rejected : ByteArray := prog_1_method_21_code
def yX11_rejected : MethodName := ⟨RX11, "rejected", "(II)I"⟩
abbrev cX11_isRejected : ByteArray := prog_1_method_22_code
def yX11_isRejected : MethodName := ⟨RX11, "isRejected", "(III)I"⟩
abbrev cX11_claim : ByteArray := prog_1_method_23_code
def yX11_claim : MethodName := ⟨RX11, "claim", "(I)I"⟩
abbrev cX11_check : ByteArray := prog_1_method_24_code
def yX11_check : MethodName := ⟨RX11, "check", "(I)I"⟩
abbrev cX11_shift : ByteArray := prog_1_method_25_code
def yX11_shift : MethodName := ⟨RX11, "shift", "()I"⟩
abbrev cX11_told : ByteArray := prog_1_method_26_code
def yX11_told : MethodName := ⟨RX11, "told", "(I)I"⟩
abbrev cX11_within : ByteArray := prog_1_method_27_code
def yX11_within : MethodName := ⟨RX11, "within", "(III)Z"⟩
abbrev cX11_isLevel : ByteArray := prog_1_method_28_code
def yX11_isLevel : MethodName := ⟨RX11, "isLevel", "(II)Z"⟩
abbrev cX11_refusal : ByteArray := prog_1_method_29_code
def yX11_refusal : MethodName := ⟨RX11, "refusal", "(I)I"⟩
abbrev cX11_takeScores : ByteArray := prog_1_method_30_code
def yX11_takeScores : MethodName := ⟨RX11, "takeScores", "(LExactTests$Numbers;I)I"⟩
abbrev cX11_scoreOfSize : ByteArray := prog_1_method_31_code
def yX11_scoreOfSize : MethodName := ⟨RX11, "scoreOfSize", "(II)I"⟩
abbrev cX11_rankOfNumber : ByteArray := prog_1_method_32_code
def yX11_rankOfNumber : MethodName := ⟨RX11, "rankOfNumber", "(I)I"⟩
abbrev cX11_rankOfSize : ByteArray := prog_1_method_33_code
def yX11_rankOfSize : MethodName := ⟨RX11, "rankOfSize", "(I)I"⟩
abbrev cX11_twiceMeanPlace : ByteArray := prog_1_method_34_code
def yX11_twiceMeanPlace : MethodName := ⟨RX11, "twiceMeanPlace", "(II)I"⟩
abbrev cX11_judge : ByteArray := prog_1_method_35_code
def yX11_judge : MethodName := ⟨RX11, "judge", "(III)V"⟩
abbrev cX11_shiftInPlace : ByteArray := prog_1_method_36_code
def yX11_shiftInPlace : MethodName := ⟨RX11, "shiftInPlace", "(I)I"⟩
abbrev cX11_countShiftsUpTo : ByteArray := prog_1_method_37_code
def yX11_countShiftsUpTo : MethodName := ⟨RX11, "countShiftsUpTo", "(I)I"⟩
def RX12 : String := "ExactTestsModel"
def TX12 : u_T := fun k => match k with
  | 0 => ("ExactTestsModel", "quotient", "[I", true)
  | 1 => ("ExactTestsModel", "left", "[I", true)
  | 2 => ("ExactTestsModel", "one", "[I", true)
  | 3 => ("ExactTestsModel", "two", "[I", true)
  | 4 => ("ExactTestsModel", "rows", "I", false)
  | 5 => ("ExactTestsModel", "columns", "I", false)
  | 6 => ("ExactTestsModel", "cells", "[I", true)
  | 7 => ("ExactTestsModel", "all", "I", false)
  | 8 => ("ExactTestsModel", "samples", "[I", true)
  | 9 => ("ExactTestsModel", "many", "[I", true)
  | 10 => ("ExactTestsModel", "differences", "[I", true)
  | 11 => ("ExactTestsModel", "pairs", "I", false)
  | 12 => ("ExactTestsModel", "kind", "I", false)
  | 13 => ("ExactTestsModel", "statistic", "I", false)
  | 14 => ("ExactTestsModel", "asked", "I", false)
  | 15 => ("ExactTestsModel", "upper", "[I", true)
  | 16 => ("ExactTestsModel", "lower", "[I", true)
  | 17 => ("ExactTestsModel", "bySum", "[J", true)
  | 18 => ("ExactTestsModel", "sums", "I", false)
  | 19 => ("ExactTestsModel", "base", "I", false)
  | 20 => ("ExactTestsModel", "value", "[I", true)
  | 21 => ("ExactTestsModel", "highest", "[I", true)
  | 22 => ("ExactTestsModel", "rowMargin", "[I", true)
  | 23 => ("ExactTestsModel", "columnMargin", "[I", true)
  | 24 => ("ExactTestsModel", "kept", "[B", true)
  | 25 => ("ExactTestsModel", "keptMany", "I", false)
  | 26 => ("ExactTestsModel", "keptRows", "I", false)
  | 27 => ("ExactTestsModel", "keptColumns", "I", false)
  | 28 => ("ExactTestsModel", "keptAgainst", "[B", true)
  | 29 => ("ExactTestsModel", "top", "[I", true)
  | 30 => ("ExactTestsModel", "weight", "[I", true)
  | 31 => ("ExactTestsModel", "seen", "[I", true)
  | 32 => ("ExactTestsModel", "whole", "[I", true)
  | 33 => ("ExactTestsModel", "numbers", "[I", true)
  | 34 => ("ExactTestsModel", "numbersMany", "I", false)
  | 35 => ("ExactTestsModel", "scores", "[I", true)
  | 36 => ("ExactTestsModel", "ways", "[J", true)
  | 37 => ("ExactTestsModel", "run", "[I", true)
  | 38 => ("ExactTestsModel", "notedUpper", "[I", true)
  | 39 => ("ExactTestsModel", "notedLower", "[I", true)
  | 40 => ("ExactTestsModel", "noted", "I", false)
  | 41 => ("ExactTestsModel", "order", "[I", true)
  | 42 => ("ExactTestsModel", "wideOne", "[I", true)
  | 43 => ("ExactTestsModel", "wideTwo", "[I", true)
  | 44 => ("ExactTestsModel", "claimed", "[I", true)
  | 45 => ("ExactTestsModel", "claims", "I", false)
  | _ => ("ExactTestsModel", "shifts", "[I", true)
def tyX12 : Nat → FieldType := fun k => match k with
  | 0 => .array .int
  | 1 => .array .int
  | 2 => .array .int
  | 3 => .array .int
  | 4 => .int
  | 5 => .int
  | 6 => .array .int
  | 7 => .int
  | 8 => .array .int
  | 9 => .array .int
  | 10 => .array .int
  | 11 => .int
  | 12 => .int
  | 13 => .int
  | 14 => .int
  | 15 => .array .int
  | 16 => .array .int
  | 17 => .array .long
  | 18 => .int
  | 19 => .int
  | 20 => .array .int
  | 21 => .array .int
  | 22 => .array .int
  | 23 => .array .int
  | 24 => .array .byte
  | 25 => .int
  | 26 => .int
  | 27 => .int
  | 28 => .array .byte
  | 29 => .array .int
  | 30 => .array .int
  | 31 => .array .int
  | 32 => .array .int
  | 33 => .array .int
  | 34 => .int
  | 35 => .array .int
  | 36 => .array .long
  | 37 => .array .int
  | 38 => .array .int
  | 39 => .array .int
  | 40 => .int
  | 41 => .array .int
  | 42 => .array .int
  | 43 => .array .int
  | 44 => .array .int
  | 45 => .int
  | _ => .array .int
theorem nmX12 : ∀ a, a < 47 → ∀ b, b < 47 → a ≠ b → (TX12 a).2.1 ≠ (TX12 b).2.1 := by decide +kernel
theorem tyX12_ok : ∀ k, k < 47 → parseFieldDescriptor (TX12 k).2.2.1 = some (tyX12 k) := by decide +kernel
abbrev cX12_init : ByteArray := prog_14_method_1_code
def yX12_init : MethodName := ⟨RX12, "<init>", "()V"⟩
abbrev cX12_in : ByteArray := prog_14_method_3_code
def yX12_in : MethodName := ⟨RX12, "in", "(JJJ)Z"⟩
abbrev cX12_set : ByteArray := prog_14_method_4_code
def yX12_set : MethodName := ⟨RX12, "set", "([IIJ)V"⟩
abbrev cX12_copy : ByteArray := prog_14_method_5_code
def yX12_copy : MethodName := ⟨RX12, "copy", "([II[II)V"⟩
abbrev cX12_compare : ByteArray := prog_14_method_6_code
def yX12_compare : MethodName := ⟨RX12, "compare", "([II[II)I"⟩
abbrev cX12_add : ByteArray := prog_14_method_7_code
def yX12_add : MethodName := ⟨RX12, "add", "([II[II)V"⟩
abbrev cX12_subtract : ByteArray := prog_14_method_8_code
def yX12_subtract : MethodName := ⟨RX12, "subtract", "([II[II)V"⟩
abbrev cX12_multiply : ByteArray := prog_14_method_9_code
def yX12_multiply : MethodName := ⟨RX12, "multiply", "([III)V"⟩
abbrev cX12_divide : ByteArray := prog_14_method_10_code
def yX12_divide : MethodName := ⟨RX12, "divide", "([III)V"⟩
abbrev cX12_bitsOf : ByteArray := prog_14_method_11_code
def yX12_bitsOf : MethodName := ⟨RX12, "bitsOf", "([II)I"⟩
abbrev cX12_bitAt : ByteArray := prog_14_method_12_code
def yX12_bitAt : MethodName := ⟨RX12, "bitAt", "([III)I"⟩
abbrev cX12_twice : ByteArray := prog_14_method_13_code
def yX12_twice : MethodName := ⟨RX12, "twice", "([III)V"⟩
abbrev cX12_part : ByteArray := prog_14_method_14_code
def yX12_part : MethodName := ⟨RX12, "part", "([II[II)V"⟩
abbrev cX12_findCommon : ByteArray := prog_14_method_15_code
def yX12_findCommon : MethodName := ⟨RX12, "findCommon", "([II[II)V"⟩
abbrev cX12_table : ByteArray := prog_14_method_16_code
def yX12_table : MethodName := ⟨RX12, "table", "(II)I"⟩
abbrev cX12_cell : ByteArray := prog_14_method_17_code
def yX12_cell : MethodName := ⟨RX12, "cell", "(III)I"⟩
abbrev cX12_marginOfRow : ByteArray := prog_14_method_18_code
def yX12_marginOfRow : MethodName := ⟨RX12, "marginOfRow", "(I)I"⟩
abbrev cX12_marginOfColumn : ByteArray := prog_14_method_19_code
def yX12_marginOfColumn : MethodName := ⟨RX12, "marginOfColumn", "(I)I"⟩
abbrev cX12_about : ByteArray := prog_14_method_20_code
def yX12_about : MethodName := ⟨RX12, "about", "(III)I"⟩
abbrev cX12_sample : ByteArray := prog_14_method_21_code
def yX12_sample : MethodName := ⟨RX12, "sample", "(II)I"⟩
abbrev cX12_pair : ByteArray := prog_14_method_22_code
def yX12_pair : MethodName := ⟨RX12, "pair", "(II)I"⟩
abbrev cX12_clear : ByteArray := prog_14_method_23_code
def yX12_clear : MethodName := ⟨RX12, "clear", "(I)I"⟩
abbrev cX12_shorten : ByteArray := prog_14_method_24_code
def yX12_shorten : MethodName := ⟨RX12, "shorten", "([I)V"⟩
abbrev cX12_open : ByteArray := prog_14_method_25_code
def yX12_open : MethodName := ⟨RX12, "open", "(I)V"⟩
abbrev cX12_columnLeft : ByteArray := prog_14_method_26_code
def yX12_columnLeft : MethodName := ⟨RX12, "columnLeft", "(II)I"⟩
abbrev cX12_firstTable : ByteArray := prog_14_method_27_code
def yX12_firstTable : MethodName := ⟨RX12, "firstTable", "()V"⟩
abbrev cX12_openFrom : ByteArray := prog_14_method_28_code
def yX12_openFrom : MethodName := ⟨RX12, "openFrom", "(I)V"⟩
abbrev cX12_nextTable : ByteArray := prog_14_method_29_code
def yX12_nextTable : MethodName := ⟨RX12, "nextTable", "()Z"⟩
abbrev cX12_timesFactorial : ByteArray := prog_14_method_30_code
def yX12_timesFactorial : MethodName := ⟨RX12, "timesFactorial", "([II)V"⟩
abbrev cX12_weigh : ByteArray := prog_14_method_31_code
def yX12_weigh : MethodName := ⟨RX12, "weigh", "([I[I)V"⟩
abbrev cX12_tables : ByteArray := prog_14_method_32_code
def yX12_tables : MethodName := ⟨RX12, "tables", "()I"⟩
abbrev cX12_keepCase : ByteArray := prog_14_method_33_code
def yX12_keepCase : MethodName := ⟨RX12, "keepCase", "(I)V"⟩
abbrev cX12_caseAt : ByteArray := prog_14_method_34_code
def yX12_caseAt : MethodName := ⟨RX12, "caseAt", "(III)I"⟩
abbrev cX12_weighs : ByteArray := prog_14_method_35_code
def yX12_weighs : MethodName := ⟨RX12, "weighs", "(I)I"⟩
abbrev cX12_rankOf : ByteArray := prog_14_method_36_code
def yX12_rankOf : MethodName := ⟨RX12, "rankOf", "(I)I"⟩
abbrev cX12_takeSamples : ByteArray := prog_14_method_37_code
def yX12_takeSamples : MethodName := ⟨RX12, "takeSamples", "()V"⟩
abbrev cX12_takeSizes : ByteArray := prog_14_method_38_code
def yX12_takeSizes : MethodName := ⟨RX12, "takeSizes", "()V"⟩
abbrev cX12_sizeOf : ByteArray := prog_14_method_39_code
def yX12_sizeOf : MethodName := ⟨RX12, "sizeOf", "(I)I"⟩
abbrev cX12_rank : ByteArray := prog_14_method_40_code
def yX12_rank : MethodName := ⟨RX12, "rank", "(II)I"⟩
abbrev cX12_labels : ByteArray := prog_14_method_41_code
def yX12_labels : MethodName := ⟨RX12, "labels", "(I)I"⟩
abbrev cX12_countWays : ByteArray := prog_14_method_42_code
def yX12_countWays : MethodName := ⟨RX12, "countWays", "(II)V"⟩
abbrev cX12_signs : ByteArray := prog_14_method_43_code
def yX12_signs : MethodName := ⟨RX12, "signs", "(I)I"⟩
abbrev cX12_findChances : ByteArray := prog_14_method_44_code
def yX12_findChances : MethodName := ⟨RX12, "findChances", "(II)V"⟩
abbrev cX12_ways : ByteArray := prog_14_method_45_code
def yX12_ways : MethodName := ⟨RX12, "ways", "(I)J"⟩
abbrev cX12_isTail : ByteArray := prog_14_method_46_code
def yX12_isTail : MethodName := ⟨RX12, "isTail", "(I)Z"⟩
abbrev cX12_bits : ByteArray := prog_14_method_47_code
def yX12_bits : MethodName := ⟨RX12, "bits", "(II)I"⟩
abbrev cX12_wordOf : ByteArray := prog_14_method_48_code
def yX12_wordOf : MethodName := ⟨RX12, "wordOf", "([IIJ)I"⟩
abbrev cX12_word : ByteArray := prog_14_method_49_code
def yX12_word : MethodName := ⟨RX12, "word", "(III)I"⟩
abbrev cX12_figure : ByteArray := prog_14_method_50_code
def yX12_figure : MethodName := ⟨RX12, "figure", "(II)I"⟩
abbrev cX12_isLevel : ByteArray := prog_14_method_51_code
def yX12_isLevel : MethodName := ⟨RX12, "isLevel", "(II)Z"⟩
abbrev cX12_stands : ByteArray := prog_14_method_52_code
def yX12_stands : MethodName := ⟨RX12, "stands", "([II[IIIII)I"⟩
abbrev cX12_against : ByteArray := prog_14_method_53_code
def yX12_against : MethodName := ⟨RX12, "against", "(III)I"⟩
abbrev cX12_result : ByteArray := prog_14_method_54_code
def yX12_result : MethodName := ⟨RX12, "result", "(I)I"⟩
abbrev cX12_note : ByteArray := prog_14_method_55_code
def yX12_note : MethodName := ⟨RX12, "note", "(I)I"⟩
abbrev cX12_product : ByteArray := prog_14_method_56_code
def yX12_product : MethodName := ⟨RX12, "product", "([II[II[I)V"⟩
abbrev cX12_isLess : ByteArray := prog_14_method_57_code
def yX12_isLess : MethodName := ⟨RX12, "isLess", "(II)Z"⟩
abbrev cX12_findRejected : ByteArray := prog_14_method_58_code
def yX12_findRejected : MethodName := ⟨RX12, "findRejected", "(II)I"⟩
abbrev cX12_rejected : ByteArray := prog_14_method_59_code
def yX12_rejected : MethodName := ⟨RX12, "rejected", "(II)I"⟩
abbrev cX12_isRejected : ByteArray := prog_14_method_60_code
def yX12_isRejected : MethodName := ⟨RX12, "isRejected", "(III)I"⟩
abbrev cX12_claim : ByteArray := prog_14_method_61_code
def yX12_claim : MethodName := ⟨RX12, "claim", "(I)I"⟩
abbrev cX12_check : ByteArray := prog_14_method_62_code
def yX12_check : MethodName := ⟨RX12, "check", "(I)I"⟩
abbrev cX12_shift : ByteArray := prog_14_method_63_code
def yX12_shift : MethodName := ⟨RX12, "shift", "()I"⟩
abbrev cX12_told : ByteArray := prog_14_method_64_code
def yX12_told : MethodName := ⟨RX12, "told", "(I)I"⟩
def RJ6 : String := "java/lang/Integer"
def TJ6 : u_T := fun k => match k with
  | _ => ("", "", "", false)
def tyJ6 : Nat → FieldType := fun k => match k with
  | _ => .int
theorem nmJ6 : ∀ a, a < 0 → ∀ b, b < 0 → a ≠ b → (TJ6 a).2.1 ≠ (TJ6 b).2.1 := by decide +kernel
theorem tyJ6_ok : ∀ k, k < 0 → parseFieldDescriptor (TJ6 k).2.2.1 = some (tyJ6 k) := by decide +kernel
abbrev cJ6_numberOfLeadingZeros_0f7a4 : ByteArray := prog_15_method_47_code
def yJ6_numberOfLeadingZeros_0f7a4 : MethodName := ⟨RJ6, "numberOfLeadingZeros", "(I)I"⟩
def RJ13 : String := "java/lang/Long"
def TJ13 : u_T := fun k => match k with
  | _ => ("", "", "", false)
def tyJ13 : Nat → FieldType := fun k => match k with
  | _ => .int
theorem nmJ13 : ∀ a, a < 0 → ∀ b, b < 0 → a ≠ b → (TJ13 a).2.1 ≠ (TJ13 b).2.1 := by decide +kernel
theorem tyJ13_ok : ∀ k, k < 0 → parseFieldDescriptor (TJ13 k).2.2.1 = some (tyJ13 k) := by decide +kernel
abbrev cJ13_numberOfLeadingZeros_95d88 : ByteArray := prog_16_method_48_code
def yJ13_numberOfLeadingZeros_95d88 : MethodName := ⟨RJ13, "numberOfLeadingZeros", "(J)I"⟩
def RJ9 : String := "java/lang/Math"
def TJ9 : u_T := fun k => match k with
  | _ => ("", "", "", false)
def tyJ9 : Nat → FieldType := fun k => match k with
  | _ => .int
theorem nmJ9 : ∀ a, a < 0 → ∀ b, b < 0 → a ≠ b → (TJ9 a).2.1 ≠ (TJ9 b).2.1 := by decide +kernel
theorem tyJ9_ok : ∀ k, k < 0 → parseFieldDescriptor (TJ9 k).2.2.1 = some (tyJ9 k) := by decide +kernel
abbrev cJ9_floorDiv_7cf53 : ByteArray := prog_17_method_47_code
def yJ9_floorDiv_7cf53 : MethodName := ⟨RJ9, "floorDiv", "(II)I"⟩
abbrev cJ9_abs_0f7a4 : ByteArray := prog_17_method_59_code
def yJ9_abs_0f7a4 : MethodName := ⟨RJ9, "abs", "(I)I"⟩
abbrev cJ9_max_7cf53 : ByteArray := prog_17_method_65_code
def yJ9_max_7cf53 : MethodName := ⟨RJ9, "max", "(II)I"⟩
abbrev cJ9_min_7cf53 : ByteArray := prog_17_method_69_code
def yJ9_min_7cf53 : MethodName := ⟨RJ9, "min", "(II)I"⟩
def RJ10 : String := "java/lang/System"
def TJ10 : u_T := fun k => match k with
  | _ => ("", "", "", false)
def tyJ10 : Nat → FieldType := fun k => match k with
  | _ => .int
theorem nmJ10 : ∀ a, a < 0 → ∀ b, b < 0 → a ≠ b → (TJ10 a).2.1 ≠ (TJ10 b).2.1 := by decide +kernel
theorem tyJ10_ok : ∀ k, k < 0 → parseFieldDescriptor (TJ10 k).2.2.1 = some (tyJ10 k) := by decide +kernel
def RL : String := "ExactTestsLaw"
abbrev cL_law : ByteArray := code
def yL_law : MethodName := ⟨RL, "law", "([I)Z"⟩
abbrev gcl : List vw_C := [(RX0, TX0, 5), (RX1, TX1, 4), (RX2, TX2, 2), (RX3, TX3, 3), (RX4, TX4, 3), (RX5, TX5, 2), (RX6, TX6, 5), (RX7, TX7, 2), (RX8, TX8, 7), (RX9, TX9, 15), (RX10, TX10, 2), (RX11, TX11, 11), (RX12, TX12, 47)]
def gT0 : List Cond := lw_tbl.filter (fun w => k2_isCode w || goodWord w)
theorem gT0_good : ∀ w ∈ gT0, w ∈ gT0 ∧ ((w.onTables && w.keeps) = true ∨ ∃ ty, w = .arrayClass ty) := by
  intro w hw
  have h1 := (List.mem_filter.mp hw).2
  refine ⟨hw, ?_⟩
  by_cases hc : k2_isCode w = true
  · cases w <;> first | (simp [k2_isCode] at hc; done) | exact Or.inl rfl
  · rw [Bool.or_eq_true] at h1
    exact good_of_word (h1.resolve_left hc)
theorem gT0_tb {w : Cond} (i : Nat) (h : tables_1[i]? = some w) (hg : (k2_isCode w || goodWord w) = true) : w ∈ gT0 := List.mem_filter.mpr ⟨List.mem_append_right _ (List.mem_of_getElem? h), hg⟩
theorem gT0_sl {w : Cond} (i : Nat) (h : (k2_sels lw_privs)[i]? = some w) (hg : (k2_isCode w || goodWord w) = true) : w ∈ gT0 := List.mem_filter.mpr ⟨List.mem_append_left _ (List.mem_of_getElem? h), hg⟩
/-- the words that are carried by themselves -/
def gN : List Cond := [.methodLinkNest "ExactTests" 9 ⟨"ExactTests$Grid", "<init>", "()V"⟩ "ExactTests", .arrayOver (.object "ExactTests$Whole"), .methodLinkNest "ExactTests$Walk" 31 ⟨"ExactTests$Whole", "<init>", "()V"⟩ "ExactTests", .methodLinkNest "ExactTests" 43 ⟨"ExactTests$Cases", "<init>", "()V"⟩ "ExactTests", .methodLinkNest "ExactTests" 50 ⟨"ExactTests$Sums", "<init>", "()V"⟩ "ExactTests", .methodLinkNest "ExactTests$Sums" 9 ⟨"ExactTests$HalfSums", "<init>", "()V"⟩ "ExactTests", .fieldLinkNest "ExactTests$Sums" 53 "ExactTests$HalfSums" "sums" "[I" "ExactTests", .fieldLinkNest "ExactTests$Sums" 49 "ExactTests$HalfSums" "times" "[I" "ExactTests", .fieldLinkNest "ExactTests$Sums" 46 "ExactTests$HalfSums" "size" "I" "ExactTests", .arrayOver (.object "ExactTests$Fraction"), .methodLinkNest "ExactTests$Results" 17 ⟨"ExactTests$Fraction", "<init>", "()V"⟩ "ExactTests", .methodLinkNest "ExactTests$Fraction" 9 ⟨"ExactTests$Whole", "<init>", "()V"⟩ "ExactTests", .fieldLinkNest "ExactTests$Scale" 19 "ExactTests$Fraction" "upper" "LExactTests$Whole;" "ExactTests", .fieldLinkNest "ExactTests$Scale" 24 "ExactTests$Fraction" "lower" "LExactTests$Whole;" "ExactTests", .methodLinkNest "ExactTests" 64 ⟨"ExactTests$Scale", "<init>", "()V"⟩ "ExactTests", .methodLinkNest "ExactTests$Scale" 9 ⟨"ExactTests$Whole", "<init>", "()V"⟩ "ExactTests", .methodLinkNest "ExactTests$Chances" 25 ⟨"ExactTests$Fraction", "<init>", "()V"⟩ "ExactTests"]
theorem gN_moved {s U : State} (hW : s.WarmedH U.vm) (h : ∀ w ∈ gN, va_Nw w s) : ∀ w ∈ gN, va_Nw w U := List.forall_mem_cons.mpr ⟨va_Nw.warmM hW (h _ (by decide +kernel)), List.forall_mem_cons.mpr ⟨va_AO.moved hW.alike (h _ (by decide +kernel)), List.forall_mem_cons.mpr ⟨va_Nw.warmM hW (h _ (by decide +kernel)), List.forall_mem_cons.mpr ⟨va_Nw.warmM hW (h _ (by decide +kernel)), List.forall_mem_cons.mpr ⟨va_Nw.warmM hW (h _ (by decide +kernel)), List.forall_mem_cons.mpr ⟨va_Nw.warmM hW (h _ (by decide +kernel)), List.forall_mem_cons.mpr ⟨va_Nw.warmF hW (h _ (by decide +kernel)), List.forall_mem_cons.mpr ⟨va_Nw.warmF hW (h _ (by decide +kernel)), List.forall_mem_cons.mpr ⟨va_Nw.warmF hW (h _ (by decide +kernel)), List.forall_mem_cons.mpr ⟨va_AO.moved hW.alike (h _ (by decide +kernel)), List.forall_mem_cons.mpr ⟨va_Nw.warmM hW (h _ (by decide +kernel)), List.forall_mem_cons.mpr ⟨va_Nw.warmM hW (h _ (by decide +kernel)), List.forall_mem_cons.mpr ⟨va_Nw.warmF hW (h _ (by decide +kernel)), List.forall_mem_cons.mpr ⟨va_Nw.warmF hW (h _ (by decide +kernel)), List.forall_mem_cons.mpr ⟨va_Nw.warmM hW (h _ (by decide +kernel)), List.forall_mem_cons.mpr ⟨va_Nw.warmM hW (h _ (by decide +kernel)), List.forall_mem_cons.mpr ⟨va_Nw.warmM hW (h _ (by decide +kernel)), fun _ hh => absurd hh List.not_mem_nil⟩⟩⟩⟩⟩⟩⟩⟩⟩⟩⟩⟩⟩⟩⟩⟩⟩
theorem gN_same {s U : State} (hV : s.vm = U.vm) (h : ∀ w ∈ gN, va_Nw w s) : ∀ w ∈ gN, va_Nw w U := List.forall_mem_cons.mpr ⟨va_Nw.same rfl hV (h _ (by decide +kernel)), List.forall_mem_cons.mpr ⟨va_AO.moved (by rw [← hV]; exact Vm.Alike.refl _) (h _ (by decide +kernel)), List.forall_mem_cons.mpr ⟨va_Nw.same rfl hV (h _ (by decide +kernel)), List.forall_mem_cons.mpr ⟨va_Nw.same rfl hV (h _ (by decide +kernel)), List.forall_mem_cons.mpr ⟨va_Nw.same rfl hV (h _ (by decide +kernel)), List.forall_mem_cons.mpr ⟨va_Nw.same rfl hV (h _ (by decide +kernel)), List.forall_mem_cons.mpr ⟨va_Nw.same rfl hV (h _ (by decide +kernel)), List.forall_mem_cons.mpr ⟨va_Nw.same rfl hV (h _ (by decide +kernel)), List.forall_mem_cons.mpr ⟨va_Nw.same rfl hV (h _ (by decide +kernel)), List.forall_mem_cons.mpr ⟨va_AO.moved (by rw [← hV]; exact Vm.Alike.refl _) (h _ (by decide +kernel)), List.forall_mem_cons.mpr ⟨va_Nw.same rfl hV (h _ (by decide +kernel)), List.forall_mem_cons.mpr ⟨va_Nw.same rfl hV (h _ (by decide +kernel)), List.forall_mem_cons.mpr ⟨va_Nw.same rfl hV (h _ (by decide +kernel)), List.forall_mem_cons.mpr ⟨va_Nw.same rfl hV (h _ (by decide +kernel)), List.forall_mem_cons.mpr ⟨va_Nw.same rfl hV (h _ (by decide +kernel)), List.forall_mem_cons.mpr ⟨va_Nw.same rfl hV (h _ (by decide +kernel)), List.forall_mem_cons.mpr ⟨va_Nw.same rfl hV (h _ (by decide +kernel)), fun _ hh => absurd hh List.not_mem_nil⟩⟩⟩⟩⟩⟩⟩⟩⟩⟩⟩⟩⟩⟩⟩⟩⟩
end
section
/-! THE ENGINE. A world is a row of n cells: cell k lies at the address 'ad k' and holds 'ct k'. -/
def gw (ad : Nat → Nat) (ct : Nat → va_E) (n : Nat) : va_W := (List.range n).map (fun k => (ad k, ct k))
theorem gw_at {ad : Nat → Nat} {ct : Nat → va_E} {n k : Nat} (h : k < n) : (gw ad ct n)[k]? = some (ad k, ct k) := by
  simp [gw, h]
theorem gw_in {ad : Nat → Nat} {ct : Nat → va_E} {n k : Nat} {q : Nat × va_E} (h : (gw ad ct n)[k]? = some q) : k < n ∧ q = (ad k, ct k) := by
  have hk : k < n := by
    have := (List.getElem?_eq_some_iff.mp h).1
    simpa [gw] using this
  rw [gw_at hk] at h
  exact ⟨hk, (Option.some.inj h).symm⟩
theorem gw_atE {ad : Nat → Nat} {ct : Nat → va_E} {n k : Nat} {e : va_E} (h : k < n) (he : ct k = e) : (gw ad ct n)[k]? = some (ad k, e) := by
  rw [← he]; exact gw_at h
theorem gw_set {ad : Nat → Nat} {ct : Nat → va_E} {n k : Nat} {e : va_E} : (gw ad ct n).set k (ad k, e) = gw ad (va_up ct k e) n := by
  apply List.ext_getElem?
  intro i
  rw [List.getElem?_set]
  by_cases hi : i < n
  · by_cases hk : k = i
    · subst hk
      simp [gw, hi, va_up]
    · rw [if_neg hk, gw_at hi, gw_at hi, va_up_ne _ _ (fun z => hk z.symm)]
  · have h1 : ∀ c : Nat → va_E, (gw ad c n)[i]? = none := fun c => by simp [gw]; omega
    by_cases hk : k = i
    · subst hk
      rw [if_pos rfl, if_neg (by simp [gw]; omega), h1]
    · rw [if_neg hk, h1, h1]
theorem gw_push {ad : Nat → Nat} {ct : Nat → va_E} {n q : Nat} {e : va_E} : gw ad ct n ++ [(q, e)] = gw (va_up ad n q) (va_up ct n e) (n + 1) := by
  unfold gw
  rw [List.range_succ, List.map_append]
  congr 1
  · apply List.map_congr_left
    intro a ha
    have : a ≠ n := by have := List.mem_range.mp ha; omega
    rw [va_up_ne _ _ this, va_up_ne _ _ this]
  · simp [va_up]
/-- which cells a method may change: its world's, and those that it makes -/
def gA (ad : Nat → Nat) (n sz : Nat) : Nat → Prop := fun q => (∃ k, k < n ∧ q = ad k) ∨ sz ≤ q
/-- what is the same for all: the classes' numbers and slots, the array classes, the launch, where the primes lie -/
abbrev gB : Type := va_G × (Nat → ClassId) × Launch × Nat
/-- the array classes: int, long, byte, Whole, Fraction -/
def gTy (k : Nat → ClassId) : List (ClassId × FieldType) := [(k 0, .int), (k 1, .long), (k 2, .byte), (k 3, .object "ExactTests$Whole"), (k 4, .object "ExactTests$Fraction")]
def gPr : Nat → Int32 := fun k => ([2, 3, 5, 7, 11, 13, 17, 19, 23, 29, 31, 37, 41, 43, 47, 53, 59] : List Int32).getD k 0
/-- the static row of primes, which lies outside of what may change -/
def gZ (B : gB) (A : Nat → Prop) (U : State) : Prop := va_Z "ExactTests$Fraction" "PRIMES" "[I" (.ref B.2.2.2) A U U.heap ∧ va_T .int B.2.2.2 17 (fun k => .int (gPr k)) A U U.heap ∧ ∀ w ∈ gN, va_Nw w U
/-- a run's fixed things -/
abbrev gE : Type := (Program × Env × Room × State) × (MethodId × Array Value × List Frame × Method × Code) × ((Nat → Prop) × (State → Prop))
abbrev gE.p (E : gE) : Program := E.1.1
abbrev gE.e (E : gE) : Env := E.1.2.1
abbrev gE.R (E : gE) : Room := E.1.2.2.1
abbrev gE.s (E : gE) : State := E.1.2.2.2
abbrev gE.m (E : gE) : MethodId := E.2.1.1
abbrev gE.args (E : gE) : Array Value := E.2.1.2.1
abbrev gE.below (E : gE) : List Frame := E.2.1.2.2.1
abbrev gE.meth (E : gE) : Method := E.2.1.2.2.2.1
abbrev gE.c (E : gE) : Code := E.2.1.2.2.2.2
abbrev gE.A (E : gE) : Nat → Prop := E.2.2.1
abbrev gE.Q (E : gE) : State → Prop := E.2.2.2
def gWd (B : gB) (E : gE) (ad : Nat → Nat) (ct : Nat → va_E) (n : Nat) (H : Heap) (locs : List Loc) : Prop := va_P B.1 gcl (gw ad ct n) H ∧ va_D E.A (gw ad ct n) ∧ va_S E.A E.s.heap H locs
/-- at pc, with locals L and the stack st, any heap that holds the world comes to E's end -/
def G (B : gB) (nL : Nat) (E : gE) (ad : Nat → Nat) (ct : Nat → va_E) (n : Nat) (k0 s0 : Nat) (L : List (Nat × Value)) (pc : Nat) (st : List Value) : Prop :=
  ∀ (ls : Array Slot) (H : Heap) (locs : List Loc), lv_has ls nL L → gWd B E ad ct n H locs → W E.p B.2.2.1 E.e E.R E.s E.m E.args E.below E.meth E.c H locs k0 s0 E.Q (F0 E.m pc ls st)
def gFx (B : gB) (cc : ByteArray) (own : String) (nL : Nat) (rm : Room) (E : gE) : Prop :=
  CallFix E.p E.m E.c cc nL E.s E.args gT0 own ∧ va_K B.1 gcl (gTy B.2.1) E.s ∧ (∀ q, E.s.heap.size ≤ q → E.A q) ∧ E.R = rm ∧ gZ B E.A E.s
abbrev gP : Type := Option Value → (Nat → Nat) → (Nat → va_E) → Nat → Prop
def gQ (B : gB) (post : gP) (A : Nat → Prop) : Array Value → State → Outcome → State → Prop := fun _ st oc t => (∃ (v : Option Value) (ad : Nat → Nat) (ct : Nat → va_E) (n : Nat), oc = .returned v ∧ post v ad ct n ∧ va_P B.1 gcl (gw ad ct n) t.heap ∧ va_K B.1 gcl (gTy B.2.1) t ∧ va_D A (gw ad ct n)) ∧ va_F A st t
/-- a run's end -/
def gRt (B : gB) (post : gP) (mc ms : Nat) (ret : Option FieldType) (E : gE) : Prop := E.Q = MQ E.below (gQ B post E.A) E.args E.s mc ms E.A ∧ E.meth.sig.returnType = ret ∧ E.meth.locks = false
/-- a contract: from any heap that holds the world (ad, ct, n), called with As, the method comes back, 'post' holds of its answer and of the world then -/
def Ctr (B : gB) (y : MethodName) (cc : ByteArray) (nL : Nat) (ret : Option FieldType) (fr lo mc ms : Nat) (ad : Nat → Nat) (ct : Nat → va_E) (n : Nat) (As : List Value) (post : gP) : Prop :=
  ∀ sz : Nat, Met B.2.2.1 y (Cond.code y cc nL ret :: gT0) { frames := fr, cells := mc, slots := ms, locals := lo } (va_Pc As (fun U => U.heap.size = sz ∧ va_P B.1 gcl (gw ad ct n) U.heap ∧ va_K B.1 gcl (gTy B.2.1) U ∧ va_D (fun _ => True) (gw ad ct n) ∧ gZ B (gA ad n sz) U)) (gQ B post (gA ad n sz)) mc ms (gA ad n sz)
section GR
variable {B : gB} {cc : ByteArray} {own : String} {nL : Nat} {rm : Room} {E : gE} {ad : Nat → Nat} {ct : Nat → va_E} {n k0 s0 : Nat} {L : List (Nat × Value)} {pc : Nat} {st : List Value}
theorem g_locals {L' : List (Nat × Value)} (ks : List Nat) (hl : lv_pick L ks = L') (k : G B nL E ad ct n k0 s0 L' pc st) : G B nL E ad ct n k0 s0 L pc st :=
  fun ls H locs h w => k ls H locs (lv_sub h ks hl) w
theorem g_widen {k1 s1 : Nat} (h1 : k0 ≤ k1) (h2 : s0 ≤ s1) (k : G B nL E ad ct n k1 s1 L pc st) : G B nL E ad ct n k0 s0 L pc st :=
  fun ls H locs h w => W.widen h1 h2 (k ls H locs h w)
theorem g_topi {x : Int32} (k : ∀ y : Int32, y = x → G B nL E ad ct n k0 s0 L pc (.int y :: st)) : G B nL E ad ct n k0 s0 L pc (.int x :: st) := k x rfl
theorem g_topl {x : Int64} (k : ∀ y : Int64, y = x → G B nL E ad ct n k0 s0 L pc (.long y :: st)) : G B nL E ad ct n k0 s0 L pc (.long x :: st) := k x rfl
theorem g_iconst (fx : gFx B cc own nL rm E) {z : Int} {v : Int32} (d : decode cc pc = .ok (.iconst z, 1)) (hv : Int32.ofInt z = v) (k : G B nL E ad ct n k0 s0 L (pc + 1) (.int v :: st)) : G B nL E ad ct n k0 s0 L pc st :=
  fun ls H locs h w => lv_iconst fx.1.1 fx.1.2.1 d hv (k ls H locs h w)
theorem g_bipush (fx : gFx B cc own nL rm E) {z : Int} {v : Int32} (d : decode cc pc = .ok (.bipush z, 2)) (hv : (Int8.ofInt z).toInt32 = v) (k : G B nL E ad ct n k0 s0 L (pc + 2) (.int v :: st)) : G B nL E ad ct n k0 s0 L pc st :=
  fun ls H locs h w => lv_bipush fx.1.1 fx.1.2.1 d hv (k ls H locs h w)
theorem g_sipush (fx : gFx B cc own nL rm E) {z : Int} {v : Int32} (d : decode cc pc = .ok (.sipush z, 3)) (hv : (Int16.ofInt z).toInt32 = v) (k : G B nL E ad ct n k0 s0 L (pc + 3) (.int v :: st)) : G B nL E ad ct n k0 s0 L pc st :=
  fun ls H locs h w => lv_sipush fx.1.1 fx.1.2.1 d hv (k ls H locs h w)
theorem g_lconst (fx : gFx B cc own nL rm E) {z : Fin 2} {v : Int64} (d : decode cc pc = .ok (.lconst z, 1)) (hv : Int64.ofNat (z : Nat) = v) (k : G B nL E ad ct n k0 s0 L (pc + 1) (.long v :: st)) : G B nL E ad ct n k0 s0 L pc st :=
  fun ls H locs h w => lv_lconst fx.1.1 fx.1.2.1 d hv (k ls H locs h w)
theorem g_ldc (fx : gFx B cc own nL rm E) {index : Nat} {v : Int32} (hc : Cond.constant own index v ∈ gT0) (d : decode cc pc = .ok (.ldc index, 2)) (k : G B nL E ad ct n k0 s0 L (pc + 2) (.int v :: st)) : G B nL E ad ct n k0 s0 L pc st :=
  fun ls H locs h w => lv_ldc fx.1.1 fx.1.2.1 fx.1.2.2.2.1 (fx.1.2.2.2.2 _ hc) d (k ls H locs h w)
theorem g_ldc2 (fx : gFx B cc own nL rm E) {index : Nat} {v : Int64} (hc : Cond.constantLong own index v ∈ gT0) (d : decode cc pc = .ok (.ldc2_w index, 3)) (k : G B nL E ad ct n k0 s0 L (pc + 3) (.long v :: st)) : G B nL E ad ct n k0 s0 L pc st :=
  fun ls H locs h w => W.ldc2 fx.1.1 fx.1.2.1 fx.1.2.2.2.1 (fx.1.2.2.2.2 _ hc) rfl d (k ls H locs h w)
theorem g_iload_n (fx : gFx B cc own nL rm E) {z : Fin 4} {x : Int32} (j : Nat) (d : decode cc pc = .ok (.iload_n z, 1)) (hj : L[j]? = some ((z : Nat), .int x)) (k : G B nL E ad ct n k0 s0 L (pc + 1) (.int x :: st)) : G B nL E ad ct n k0 s0 L pc st :=
  fun ls H locs h w => lv_iload_n fx.1.1 fx.1.2.1 d rfl (lv_at h j hj) (k ls H locs h w)
theorem g_iload (fx : gFx B cc own nL rm E) {z : Nat} {x : Int32} (j : Nat) (d : decode cc pc = .ok (.iload z, 2)) (hj : L[j]? = some (z, .int x)) (k : G B nL E ad ct n k0 s0 L (pc + 2) (.int x :: st)) : G B nL E ad ct n k0 s0 L pc st :=
  fun ls H locs h w => lv_iload fx.1.1 fx.1.2.1 d (lv_at h j hj) (k ls H locs h w)
theorem g_lload_n (fx : gFx B cc own nL rm E) {z : Fin 4} {x : Int64} (j : Nat) (d : decode cc pc = .ok (.lload_n z, 1)) (hj : L[j]? = some ((z : Nat), .long x)) (k : G B nL E ad ct n k0 s0 L (pc + 1) (.long x :: st)) : G B nL E ad ct n k0 s0 L pc st :=
  fun ls H locs h w => lv_lload_n fx.1.1 fx.1.2.1 d rfl (lv_at h j hj) (k ls H locs h w)
theorem g_lload (fx : gFx B cc own nL rm E) {z : Nat} {x : Int64} (j : Nat) (d : decode cc pc = .ok (.lload z, 2)) (hj : L[j]? = some (z, .long x)) (k : G B nL E ad ct n k0 s0 L (pc + 2) (.long x :: st)) : G B nL E ad ct n k0 s0 L pc st :=
  fun ls H locs h w => lv_lload fx.1.1 fx.1.2.1 d (lv_at h j hj) (k ls H locs h w)
theorem g_aload_n (fx : gFx B cc own nL rm E) {z : Fin 4} {x : Nat} (j : Nat) (d : decode cc pc = .ok (.aload_n z, 1)) (hj : L[j]? = some ((z : Nat), .ref x)) (k : G B nL E ad ct n k0 s0 L (pc + 1) (.ref x :: st)) : G B nL E ad ct n k0 s0 L pc st :=
  fun ls H locs h w => lv_aload_n fx.1.1 fx.1.2.1 d rfl (lv_at h j hj) (k ls H locs h w)
theorem g_aload (fx : gFx B cc own nL rm E) {z : Nat} {x : Nat} (j : Nat) (d : decode cc pc = .ok (.aload z, 2)) (hj : L[j]? = some (z, .ref x)) (k : G B nL E ad ct n k0 s0 L (pc + 2) (.ref x :: st)) : G B nL E ad ct n k0 s0 L pc st :=
  fun ls H locs h w => lv_aload fx.1.1 fx.1.2.1 d (lv_at h j hj) (k ls H locs h w)
theorem g_istore_n (fx : gFx B cc own nL rm E) {z : Fin 4} {x : Int32} {L' : List (Nat × Value)} (d : decode cc pc = .ok (.istore_n z, 1)) (hn : (z : Nat) < nL) (hl : ((z : Nat), Value.int x) :: L.filter (fun q => !(q.1 == (z : Nat)) && !(q.1 + 1 == (z : Nat) && q.2.category == 2)) = L') (k : G B nL E ad ct n k0 s0 L' (pc + 1) st) : G B nL E ad ct n k0 s0 L pc (.int x :: st) :=
  fun ls H locs h w => lv_istore_n fx.1.1 fx.1.2.1 d rfl h hn hl (fun ls h => k ls H locs h w)
theorem g_istore (fx : gFx B cc own nL rm E) {z : Nat} {x : Int32} {L' : List (Nat × Value)} (d : decode cc pc = .ok (.istore z, 2)) (hn : z < nL) (hl : (z, Value.int x) :: L.filter (fun q => !(q.1 == z) && !(q.1 + 1 == z && q.2.category == 2)) = L') (k : G B nL E ad ct n k0 s0 L' (pc + 2) st) : G B nL E ad ct n k0 s0 L pc (.int x :: st) :=
  fun ls H locs h w => lv_istore fx.1.1 fx.1.2.1 d h hn hl (fun ls h => k ls H locs h w)
theorem g_astore_n (fx : gFx B cc own nL rm E) {z : Fin 4} {x : Nat} {L' : List (Nat × Value)} (d : decode cc pc = .ok (.astore_n z, 1)) (hn : (z : Nat) < nL) (hl : ((z : Nat), Value.ref x) :: L.filter (fun q => !(q.1 == (z : Nat)) && !(q.1 + 1 == (z : Nat) && q.2.category == 2)) = L') (k : G B nL E ad ct n k0 s0 L' (pc + 1) st) : G B nL E ad ct n k0 s0 L pc (.ref x :: st) :=
  fun ls H locs h w => lv_astore_n fx.1.1 fx.1.2.1 d rfl h hn hl (fun ls h => k ls H locs h w)
theorem g_astore (fx : gFx B cc own nL rm E) {z : Nat} {x : Nat} {L' : List (Nat × Value)} (d : decode cc pc = .ok (.astore z, 2)) (hn : z < nL) (hl : (z, Value.ref x) :: L.filter (fun q => !(q.1 == z) && !(q.1 + 1 == z && q.2.category == 2)) = L') (k : G B nL E ad ct n k0 s0 L' (pc + 2) st) : G B nL E ad ct n k0 s0 L pc (.ref x :: st) :=
  fun ls H locs h w => lv_astore fx.1.1 fx.1.2.1 d h hn hl (fun ls h => k ls H locs h w)
theorem g_lstore_n (fx : gFx B cc own nL rm E) {z : Fin 4} {x : Int64} {L' : List (Nat × Value)} (d : decode cc pc = .ok (.lstore_n z, 1)) (hn : (z : Nat) + 1 < nL) (hl : ((z : Nat), Value.long x) :: L.filter (fun q => !(q.1 == (z : Nat)) && (!(q.1 == (z : Nat) + 1) && !(q.1 + 1 == (z : Nat) && q.2.category == 2))) = L') (k : G B nL E ad ct n k0 s0 L' (pc + 1) st) : G B nL E ad ct n k0 s0 L pc (.long x :: st) :=
  fun ls H locs h w => lv_lstore_n fx.1.1 fx.1.2.1 d rfl h hn hl (fun ls h => k ls H locs h w)
theorem g_lstore (fx : gFx B cc own nL rm E) {z : Nat} {x : Int64} {L' : List (Nat × Value)} (d : decode cc pc = .ok (.lstore z, 2)) (hn : z + 1 < nL) (hl : (z, Value.long x) :: L.filter (fun q => !(q.1 == z) && (!(q.1 == z + 1) && !(q.1 + 1 == z && q.2.category == 2))) = L') (k : G B nL E ad ct n k0 s0 L' (pc + 2) st) : G B nL E ad ct n k0 s0 L pc (.long x :: st) :=
  fun ls H locs h w => lv_lstore fx.1.1 fx.1.2.1 d h hn hl (fun ls h => k ls H locs h w)
theorem g_iinc (fx : gFx B cc own nL rm E) {z : Nat} {u : Int} {x : Int32} {L' : List (Nat × Value)} (v : Int32) (j : Nat) (d : decode cc pc = .ok (.iinc z u, 3)) (hj : L[j]? = some (z, .int x)) (hv : x + Int32.ofInt u = v) (hn : z < nL) (hl : (z, Value.int v) :: L.filter (fun q => !(q.1 == z) && !(q.1 + 1 == z && q.2.category == 2)) = L') (k : G B nL E ad ct n k0 s0 L' (pc + 3) st) : G B nL E ad ct n k0 s0 L pc st :=
  fun ls H locs h w => lv_iinc fx.1.1 fx.1.2.1 d h hj hv hn hl (fun ls h => k ls H locs h w)
theorem g_iadd (fx : gFx B cc own nL rm E) {x y : Int32} (d : decode cc pc = .ok (.iadd, 1))  (k : G B nL E ad ct n k0 s0 L (pc + 1) (.int (x + y) :: st)) : G B nL E ad ct n k0 s0 L pc (.int y :: .int x :: st) :=
  fun ls H locs h w => lv_iadd fx.1.1 fx.1.2.1 d (k ls H locs h w)
theorem g_isub (fx : gFx B cc own nL rm E) {x y : Int32} (d : decode cc pc = .ok (.isub, 1))  (k : G B nL E ad ct n k0 s0 L (pc + 1) (.int (x - y) :: st)) : G B nL E ad ct n k0 s0 L pc (.int y :: .int x :: st) :=
  fun ls H locs h w => lv_isub fx.1.1 fx.1.2.1 d (k ls H locs h w)
theorem g_imul (fx : gFx B cc own nL rm E) {x y : Int32} (d : decode cc pc = .ok (.imul, 1))  (k : G B nL E ad ct n k0 s0 L (pc + 1) (.int (x * y) :: st)) : G B nL E ad ct n k0 s0 L pc (.int y :: .int x :: st) :=
  fun ls H locs h w => lv_imul fx.1.1 fx.1.2.1 d (k ls H locs h w)
theorem g_iand (fx : gFx B cc own nL rm E) {x y : Int32} (d : decode cc pc = .ok (.iand, 1))  (k : G B nL E ad ct n k0 s0 L (pc + 1) (.int (x &&& y) :: st)) : G B nL E ad ct n k0 s0 L pc (.int y :: .int x :: st) :=
  fun ls H locs h w => lv_iand fx.1.1 fx.1.2.1 d (k ls H locs h w)
theorem g_ior (fx : gFx B cc own nL rm E) {x y : Int32} (d : decode cc pc = .ok (.ior, 1))  (k : G B nL E ad ct n k0 s0 L (pc + 1) (.int (x ||| y) :: st)) : G B nL E ad ct n k0 s0 L pc (.int y :: .int x :: st) :=
  fun ls H locs h w => lv_ior fx.1.1 fx.1.2.1 d (k ls H locs h w)
theorem g_ixor (fx : gFx B cc own nL rm E) {x y : Int32} (d : decode cc pc = .ok (.ixor, 1))  (k : G B nL E ad ct n k0 s0 L (pc + 1) (.int (x ^^^ y) :: st)) : G B nL E ad ct n k0 s0 L pc (.int y :: .int x :: st) :=
  fun ls H locs h w => lv_ixor fx.1.1 fx.1.2.1 d (k ls H locs h w)
theorem g_ishl (fx : gFx B cc own nL rm E) {x y : Int32} (d : decode cc pc = .ok (.ishl, 1))  (k : G B nL E ad ct n k0 s0 L (pc + 1) (.int (x <<< (y &&& 31)) :: st)) : G B nL E ad ct n k0 s0 L pc (.int y :: .int x :: st) :=
  fun ls H locs h w => lv_ishl fx.1.1 fx.1.2.1 d (k ls H locs h w)
theorem g_ishr (fx : gFx B cc own nL rm E) {x y : Int32} (d : decode cc pc = .ok (.ishr, 1))  (k : G B nL E ad ct n k0 s0 L (pc + 1) (.int (x >>> (y &&& 31)) :: st)) : G B nL E ad ct n k0 s0 L pc (.int y :: .int x :: st) :=
  fun ls H locs h w => lv_ishr fx.1.1 fx.1.2.1 d (k ls H locs h w)
theorem g_idiv (fx : gFx B cc own nL rm E) {x y : Int32} (d : decode cc pc = .ok (.idiv, 1)) (hne : ¬ y = 0) (k : G B nL E ad ct n k0 s0 L (pc + 1) (.int (x / y) :: st)) : G B nL E ad ct n k0 s0 L pc (.int y :: .int x :: st) :=
  fun ls H locs h w => lv_idiv fx.1.1 fx.1.2.1 d hne (k ls H locs h w)
theorem g_irem (fx : gFx B cc own nL rm E) {x y : Int32} (d : decode cc pc = .ok (.irem, 1)) (hne : ¬ y = 0) (k : G B nL E ad ct n k0 s0 L (pc + 1) (.int (x - x / y * y) :: st)) : G B nL E ad ct n k0 s0 L pc (.int y :: .int x :: st) :=
  fun ls H locs h w => lv_irem fx.1.1 fx.1.2.1 d hne (k ls H locs h w)
theorem g_ineg (fx : gFx B cc own nL rm E) {x : Int32} (d : decode cc pc = .ok (.ineg, 1))  (k : G B nL E ad ct n k0 s0 L (pc + 1) (.int (-x) :: st)) : G B nL E ad ct n k0 s0 L pc (.int x :: st) :=
  fun ls H locs h w => lv_ineg fx.1.1 fx.1.2.1 d (k ls H locs h w)
theorem g_lneg (fx : gFx B cc own nL rm E) {x : Int64} (d : decode cc pc = .ok (.lneg, 1))  (k : G B nL E ad ct n k0 s0 L (pc + 1) (.long (-x) :: st)) : G B nL E ad ct n k0 s0 L pc (.long x :: st) :=
  fun ls H locs h w => lv_lneg fx.1.1 fx.1.2.1 d (k ls H locs h w)
theorem g_ladd (fx : gFx B cc own nL rm E) {x y : Int64} (d : decode cc pc = .ok (.ladd, 1))  (k : G B nL E ad ct n k0 s0 L (pc + 1) (.long (x + y) :: st)) : G B nL E ad ct n k0 s0 L pc (.long y :: .long x :: st) :=
  fun ls H locs h w => lv_ladd fx.1.1 fx.1.2.1 d (k ls H locs h w)
theorem g_lsub (fx : gFx B cc own nL rm E) {x y : Int64} (d : decode cc pc = .ok (.lsub, 1))  (k : G B nL E ad ct n k0 s0 L (pc + 1) (.long (x - y) :: st)) : G B nL E ad ct n k0 s0 L pc (.long y :: .long x :: st) :=
  fun ls H locs h w => lv_lsub fx.1.1 fx.1.2.1 d (k ls H locs h w)
theorem g_lmul (fx : gFx B cc own nL rm E) {x y : Int64} (d : decode cc pc = .ok (.lmul, 1))  (k : G B nL E ad ct n k0 s0 L (pc + 1) (.long (x * y) :: st)) : G B nL E ad ct n k0 s0 L pc (.long y :: .long x :: st) :=
  fun ls H locs h w => lv_lmul fx.1.1 fx.1.2.1 d (k ls H locs h w)
theorem g_land (fx : gFx B cc own nL rm E) {x y : Int64} (d : decode cc pc = .ok (.land, 1))  (k : G B nL E ad ct n k0 s0 L (pc + 1) (.long (x &&& y) :: st)) : G B nL E ad ct n k0 s0 L pc (.long y :: .long x :: st) :=
  fun ls H locs h w => lv_land fx.1.1 fx.1.2.1 d (k ls H locs h w)
theorem g_lor (fx : gFx B cc own nL rm E) {x y : Int64} (d : decode cc pc = .ok (.lor, 1))  (k : G B nL E ad ct n k0 s0 L (pc + 1) (.long (x ||| y) :: st)) : G B nL E ad ct n k0 s0 L pc (.long y :: .long x :: st) :=
  fun ls H locs h w => lv_lor fx.1.1 fx.1.2.1 d (k ls H locs h w)
theorem g_lxor (fx : gFx B cc own nL rm E) {x y : Int64} (d : decode cc pc = .ok (.lxor, 1))  (k : G B nL E ad ct n k0 s0 L (pc + 1) (.long (x ^^^ y) :: st)) : G B nL E ad ct n k0 s0 L pc (.long y :: .long x :: st) :=
  fun ls H locs h w => lv_lxor fx.1.1 fx.1.2.1 d (k ls H locs h w)
theorem g_ldiv (fx : gFx B cc own nL rm E) {x y : Int64} (d : decode cc pc = .ok (.ldiv, 1)) (hne : ¬ y = 0) (k : G B nL E ad ct n k0 s0 L (pc + 1) (.long (x / y) :: st)) : G B nL E ad ct n k0 s0 L pc (.long y :: .long x :: st) :=
  fun ls H locs h w => lv_ldiv fx.1.1 fx.1.2.1 d hne (k ls H locs h w)
theorem g_lrem (fx : gFx B cc own nL rm E) {x y : Int64} (d : decode cc pc = .ok (.lrem, 1)) (hne : ¬ y = 0) (k : G B nL E ad ct n k0 s0 L (pc + 1) (.long (x - x / y * y) :: st)) : G B nL E ad ct n k0 s0 L pc (.long y :: .long x :: st) :=
  fun ls H locs h w => lv_lrem fx.1.1 fx.1.2.1 d hne (k ls H locs h w)
theorem g_i2l (fx : gFx B cc own nL rm E) {x : Int32} (d : decode cc pc = .ok (.i2l, 1))  (k : G B nL E ad ct n k0 s0 L (pc + 1) (.long x.toInt64 :: st)) : G B nL E ad ct n k0 s0 L pc (.int x :: st) :=
  fun ls H locs h w => lv_i2l fx.1.1 fx.1.2.1 d rfl (k ls H locs h w)
theorem g_l2i (fx : gFx B cc own nL rm E) {x : Int64} (d : decode cc pc = .ok (.l2i, 1))  (k : G B nL E ad ct n k0 s0 L (pc + 1) (.int x.toInt32 :: st)) : G B nL E ad ct n k0 s0 L pc (.long x :: st) :=
  fun ls H locs h w => lv_l2i fx.1.1 fx.1.2.1 d rfl (k ls H locs h w)
theorem g_iushr (fx : gFx B cc own nL rm E) {x y : Int32} (d : decode cc pc = .ok (.iushr, 1))  (k : G B nL E ad ct n k0 s0 L (pc + 1) (.int (x.toUInt32 >>> (y.toUInt32 &&& Int32.toUInt32 31)).toInt32 :: st)) : G B nL E ad ct n k0 s0 L pc (.int y :: .int x :: st) :=
  fun ls H locs h w => lv_iushr fx.1.1 fx.1.2.1 d rfl (k ls H locs h w)
theorem g_lushr (fx : gFx B cc own nL rm E) {x : Int64} {y : Int32} (d : decode cc pc = .ok (.lushr, 1))  (k : G B nL E ad ct n k0 s0 L (pc + 1) (.long (x.toUInt64 >>> (y.toInt64.toUInt64 &&& Int64.toUInt64 63)).toInt64 :: st)) : G B nL E ad ct n k0 s0 L pc (.int y :: .long x :: st) :=
  fun ls H locs h w => lv_lushr fx.1.1 fx.1.2.1 d rfl (k ls H locs h w)
theorem g_lshl (fx : gFx B cc own nL rm E) {x : Int64} {y : Int32} (d : decode cc pc = .ok (.lshl, 1))  (k : G B nL E ad ct n k0 s0 L (pc + 1) (.long (x <<< (y.toInt64 &&& 63)) :: st)) : G B nL E ad ct n k0 s0 L pc (.int y :: .long x :: st) :=
  fun ls H locs h w => lv_lshl fx.1.1 fx.1.2.1 d rfl (k ls H locs h w)
theorem g_lshr (fx : gFx B cc own nL rm E) {x : Int64} {y : Int32} (d : decode cc pc = .ok (.lshr, 1))  (k : G B nL E ad ct n k0 s0 L (pc + 1) (.long (x >>> (y.toInt64 &&& 63)) :: st)) : G B nL E ad ct n k0 s0 L pc (.int y :: .long x :: st) :=
  fun ls H locs h w => lv_lshr fx.1.1 fx.1.2.1 d rfl (k ls H locs h w)
theorem g_lcmp (fx : gFx B cc own nL rm E) {x y : Int64} (d : decode cc pc = .ok (.lcmp, 1))  (k : G B nL E ad ct n k0 s0 L (pc + 1) (.int (lg_cmp x y) :: st)) : G B nL E ad ct n k0 s0 L pc (.long y :: .long x :: st) :=
  fun ls H locs h w => W.lcmp fx.1.1 fx.1.2.1 d (k ls H locs h w)
theorem g_dup (fx : gFx B cc own nL rm E) {va : Value} (d : decode cc pc = .ok (.dup, 1)) (h1 : va.category = 1) (k : G B nL E ad ct n k0 s0 L (pc + 1) (va :: va :: st)) : G B nL E ad ct n k0 s0 L pc (va :: st) :=
  fun ls H locs h w => lv_dup fx.1.1 fx.1.2.1 d h1 (k ls H locs h w)
theorem g_pop (fx : gFx B cc own nL rm E) {va : Value} (d : decode cc pc = .ok (.pop, 1)) (h1 : va.category = 1) (k : G B nL E ad ct n k0 s0 L (pc + 1) st) : G B nL E ad ct n k0 s0 L pc (va :: st) :=
  fun ls H locs h w => lv_pop fx.1.1 fx.1.2.1 d h1 (k ls H locs h w)
theorem g_dup_x1 (fx : gFx B cc own nL rm E) {va vb : Value} (d : decode cc pc = .ok (.dup_x1, 1)) (h1 : va.category = 1) (h2 : vb.category = 1) (k : G B nL E ad ct n k0 s0 L (pc + 1) (va :: vb :: va :: st)) : G B nL E ad ct n k0 s0 L pc (va :: vb :: st) :=
  fun ls H locs h w => lv_dup_x1 fx.1.1 fx.1.2.1 d h1 h2 (k ls H locs h w)
theorem g_dup_x2 (fx : gFx B cc own nL rm E) {va vb vd : Value} (d : decode cc pc = .ok (.dup_x2, 1)) (h1 : va.category = 1) (h2 : vb.category = 1) (h3 : vd.category = 1) (k : G B nL E ad ct n k0 s0 L (pc + 1) (va :: vb :: vd :: va :: st)) : G B nL E ad ct n k0 s0 L pc (va :: vb :: vd :: st) :=
  fun ls H locs h w => lv_dup_x2 fx.1.1 fx.1.2.1 d h1 h2 h3 (k ls H locs h w)
theorem g_dup2_11 (fx : gFx B cc own nL rm E) {va vb : Value} (d : decode cc pc = .ok (.dup2, 1)) (h1 : va.category = 1) (h2 : vb.category = 1) (k : G B nL E ad ct n k0 s0 L (pc + 1) (va :: vb :: va :: vb :: st)) : G B nL E ad ct n k0 s0 L pc (va :: vb :: st) :=
  fun ls H locs h w => lv_dup2_11 fx.1.1 fx.1.2.1 d h1 h2 (k ls H locs h w)
theorem g_dup2_2 (fx : gFx B cc own nL rm E) {va : Value} (d : decode cc pc = .ok (.dup2, 1)) (h1 : va.category = 2) (k : G B nL E ad ct n k0 s0 L (pc + 1) (va :: va :: st)) : G B nL E ad ct n k0 s0 L pc (va :: st) :=
  fun ls H locs h w => lv_dup2_2 fx.1.1 fx.1.2.1 d h1 (k ls H locs h w)
theorem g_pop2_2 (fx : gFx B cc own nL rm E) {va : Value} (d : decode cc pc = .ok (.pop2, 1)) (h1 : va.category = 2) (k : G B nL E ad ct n k0 s0 L (pc + 1) st) : G B nL E ad ct n k0 s0 L pc (va :: st) :=
  fun ls H locs h w => lv_pop2_2 fx.1.1 fx.1.2.1 d h1 (k ls H locs h w)
theorem g_if_eq (fx : gFx B cc own nL rm E) {x : Int32} {off : Int} (t : Nat) (d : decode cc pc = .ok (.ifCond .eq off, 3)) (ht : (pc : Int) + off = (t : Int)) (kt : x = 0 → G B nL E ad ct n k0 s0 L t st) (kf : ¬ x = 0 → G B nL E ad ct n k0 s0 L (pc + 3) st) : G B nL E ad ct n k0 s0 L pc (.int x :: st) :=
  fun ls H locs h w => lv_if_eq fx.1.1 fx.1.2.1 d ht (fun q => kt q ls H locs h w) (fun q => kf q ls H locs h w)
theorem g_if_ne (fx : gFx B cc own nL rm E) {x : Int32} {off : Int} (t : Nat) (d : decode cc pc = .ok (.ifCond .ne off, 3)) (ht : (pc : Int) + off = (t : Int)) (kt : ¬ x = 0 → G B nL E ad ct n k0 s0 L t st) (kf : x = 0 → G B nL E ad ct n k0 s0 L (pc + 3) st) : G B nL E ad ct n k0 s0 L pc (.int x :: st) :=
  fun ls H locs h w => lv_if_ne fx.1.1 fx.1.2.1 d ht (fun q => kt q ls H locs h w) (fun q => kf q ls H locs h w)
theorem g_if_lt (fx : gFx B cc own nL rm E) {x : Int32} {off : Int} (t : Nat) (d : decode cc pc = .ok (.ifCond .lt off, 3)) (ht : (pc : Int) + off = (t : Int)) (kt : x < 0 → G B nL E ad ct n k0 s0 L t st) (kf : ¬ x < 0 → G B nL E ad ct n k0 s0 L (pc + 3) st) : G B nL E ad ct n k0 s0 L pc (.int x :: st) :=
  fun ls H locs h w => lv_if_lt fx.1.1 fx.1.2.1 d ht (fun q => kt q ls H locs h w) (fun q => kf q ls H locs h w)
theorem g_if_ge (fx : gFx B cc own nL rm E) {x : Int32} {off : Int} (t : Nat) (d : decode cc pc = .ok (.ifCond .ge off, 3)) (ht : (pc : Int) + off = (t : Int)) (kt : 0 ≤ x → G B nL E ad ct n k0 s0 L t st) (kf : ¬ 0 ≤ x → G B nL E ad ct n k0 s0 L (pc + 3) st) : G B nL E ad ct n k0 s0 L pc (.int x :: st) :=
  fun ls H locs h w => lv_if_ge fx.1.1 fx.1.2.1 d ht (fun q => kt q ls H locs h w) (fun q => kf q ls H locs h w)
theorem g_if_gt (fx : gFx B cc own nL rm E) {x : Int32} {off : Int} (t : Nat) (d : decode cc pc = .ok (.ifCond .gt off, 3)) (ht : (pc : Int) + off = (t : Int)) (kt : 0 < x → G B nL E ad ct n k0 s0 L t st) (kf : ¬ 0 < x → G B nL E ad ct n k0 s0 L (pc + 3) st) : G B nL E ad ct n k0 s0 L pc (.int x :: st) :=
  fun ls H locs h w => lv_if_gt fx.1.1 fx.1.2.1 d ht (fun q => kt q ls H locs h w) (fun q => kf q ls H locs h w)
theorem g_if_le (fx : gFx B cc own nL rm E) {x : Int32} {off : Int} (t : Nat) (d : decode cc pc = .ok (.ifCond .le off, 3)) (ht : (pc : Int) + off = (t : Int)) (kt : x ≤ 0 → G B nL E ad ct n k0 s0 L t st) (kf : ¬ x ≤ 0 → G B nL E ad ct n k0 s0 L (pc + 3) st) : G B nL E ad ct n k0 s0 L pc (.int x :: st) :=
  fun ls H locs h w => lv_if_le fx.1.1 fx.1.2.1 d ht (fun q => kt q ls H locs h w) (fun q => kf q ls H locs h w)
theorem g_icmp_eq (fx : gFx B cc own nL rm E) {x y : Int32} {off : Int} (t : Nat) (d : decode cc pc = .ok (.if_icmp .eq off, 3)) (ht : (pc : Int) + off = (t : Int)) (kt : x = y → G B nL E ad ct n k0 s0 L t st) (kf : ¬ x = y → G B nL E ad ct n k0 s0 L (pc + 3) st) : G B nL E ad ct n k0 s0 L pc (.int y :: .int x :: st) :=
  fun ls H locs h w => lv_icmp_eq fx.1.1 fx.1.2.1 d ht (fun q => kt q ls H locs h w) (fun q => kf q ls H locs h w)
theorem g_icmp_ne (fx : gFx B cc own nL rm E) {x y : Int32} {off : Int} (t : Nat) (d : decode cc pc = .ok (.if_icmp .ne off, 3)) (ht : (pc : Int) + off = (t : Int)) (kt : ¬ x = y → G B nL E ad ct n k0 s0 L t st) (kf : x = y → G B nL E ad ct n k0 s0 L (pc + 3) st) : G B nL E ad ct n k0 s0 L pc (.int y :: .int x :: st) :=
  fun ls H locs h w => lv_icmp_ne fx.1.1 fx.1.2.1 d ht (fun q => kt q ls H locs h w) (fun q => kf q ls H locs h w)
theorem g_icmp_lt (fx : gFx B cc own nL rm E) {x y : Int32} {off : Int} (t : Nat) (d : decode cc pc = .ok (.if_icmp .lt off, 3)) (ht : (pc : Int) + off = (t : Int)) (kt : x < y → G B nL E ad ct n k0 s0 L t st) (kf : ¬ x < y → G B nL E ad ct n k0 s0 L (pc + 3) st) : G B nL E ad ct n k0 s0 L pc (.int y :: .int x :: st) :=
  fun ls H locs h w => lv_icmp_lt fx.1.1 fx.1.2.1 d ht (fun q => kt q ls H locs h w) (fun q => kf q ls H locs h w)
theorem g_icmp_ge (fx : gFx B cc own nL rm E) {x y : Int32} {off : Int} (t : Nat) (d : decode cc pc = .ok (.if_icmp .ge off, 3)) (ht : (pc : Int) + off = (t : Int)) (kt : y ≤ x → G B nL E ad ct n k0 s0 L t st) (kf : ¬ y ≤ x → G B nL E ad ct n k0 s0 L (pc + 3) st) : G B nL E ad ct n k0 s0 L pc (.int y :: .int x :: st) :=
  fun ls H locs h w => lv_icmp_ge fx.1.1 fx.1.2.1 d ht (fun q => kt q ls H locs h w) (fun q => kf q ls H locs h w)
theorem g_icmp_gt (fx : gFx B cc own nL rm E) {x y : Int32} {off : Int} (t : Nat) (d : decode cc pc = .ok (.if_icmp .gt off, 3)) (ht : (pc : Int) + off = (t : Int)) (kt : y < x → G B nL E ad ct n k0 s0 L t st) (kf : ¬ y < x → G B nL E ad ct n k0 s0 L (pc + 3) st) : G B nL E ad ct n k0 s0 L pc (.int y :: .int x :: st) :=
  fun ls H locs h w => lv_icmp_gt fx.1.1 fx.1.2.1 d ht (fun q => kt q ls H locs h w) (fun q => kf q ls H locs h w)
theorem g_icmp_le (fx : gFx B cc own nL rm E) {x y : Int32} {off : Int} (t : Nat) (d : decode cc pc = .ok (.if_icmp .le off, 3)) (ht : (pc : Int) + off = (t : Int)) (kt : x ≤ y → G B nL E ad ct n k0 s0 L t st) (kf : ¬ x ≤ y → G B nL E ad ct n k0 s0 L (pc + 3) st) : G B nL E ad ct n k0 s0 L pc (.int y :: .int x :: st) :=
  fun ls H locs h w => lv_icmp_le fx.1.1 fx.1.2.1 d ht (fun q => kt q ls H locs h w) (fun q => kf q ls H locs h w)
theorem g_goto (fx : gFx B cc own nL rm E) {off : Int} (t : Nat) (d : decode cc pc = .ok (.goto off, 3)) (ht : (pc : Int) + off = (t : Int)) (k : G B nL E ad ct n k0 s0 L t st) : G B nL E ad ct n k0 s0 L pc st :=
  fun ls H locs h w => lv_goto fx.1.1 fx.1.2.1 d ht (k ls H locs h w)
theorem g_null (fx : gFx B cc own nL rm E) (d : decode cc pc = .ok (.aconst_null, 1)) (k : G B nL E ad ct n k0 s0 L (pc + 1) (.null :: st)) : G B nL E ad ct n k0 s0 L pc st :=
  fun ls H locs h w => lv_null fx.1.1 fx.1.2.1 d (k ls H locs h w)
theorem g_ifnull (fx : gFx B cc own nL rm E) {x : Nat} {off : Int} (d : decode cc pc = .ok (.ifnull off, 3)) (k : G B nL E ad ct n k0 s0 L (pc + 3) st) : G B nL E ad ct n k0 s0 L pc (.ref x :: st) :=
  fun ls H locs h w => lv_ifnull fx.1.1 fx.1.2.1 d (k ls H locs h w)
theorem g_tableIn (fx : gFx B cc own nL rm E) {dflt lo hi : Int} {offs : Array Int} {len : Nat} {x : Int32} {off : Int} (t : Nat) (d : decode cc pc = .ok (.tableswitch dflt lo hi offs, len)) (h1 : ¬ x.toInt < lo) (h2 : ¬ hi < x.toInt) (ho : offs[(x.toInt - lo).toNat]? = some off) (ht : (pc : Int) + off = (t : Int)) (k : G B nL E ad ct n k0 s0 L t st) : G B nL E ad ct n k0 s0 L pc (.int x :: st) :=
  fun ls H locs h w => lv_tableIn fx.1.1 fx.1.2.1 d h1 h2 ho ht (k ls H locs h w)
theorem g_tableOut (fx : gFx B cc own nL rm E) {dflt lo hi : Int} {offs : Array Int} {len : Nat} {x : Int32} (t : Nat) (d : decode cc pc = .ok (.tableswitch dflt lo hi offs, len)) (h1 : x.toInt < lo ∨ hi < x.toInt) (ht : (pc : Int) + dflt = (t : Int)) (k : G B nL E ad ct n k0 s0 L t st) : G B nL E ad ct n k0 s0 L pc (.int x :: st) :=
  fun ls H locs h w => lv_tableOut fx.1.1 fx.1.2.1 d h1 ht (k ls H locs h w)
/-- a field's link: from class 'own', pool number 'index', field k of class ci -/
def gLk (own : String) (index ci k : Nat) : Prop := ∃ (C : String) (T : u_T) (N : Nat), gcl[ci]? = some (C, T, N) ∧ k < N ∧ (∀ w ∈ u_ws C T N, w ∈ gT0) ∧ (Cond.fieldLink own index (T k).1 (T k).2.1 (T k).2.2.1 ∈ gT0 ∨ ∃ host, Cond.fieldLinkNest own index (T k).1 (T k).2.1 (T k).2.2.1 host ∈ gN)
def gLp (own : String) (index ci k : Nat) (ty : FieldType) (fin : Bool) : Prop := ∃ (C : String) (T : u_T) (N : Nat) (ty0 : Nat → FieldType), gcl[ci]? = some (C, T, N) ∧ k < N ∧ (∀ w ∈ u_ws C T N, w ∈ gT0) ∧ (∀ k, k < N → parseFieldDescriptor (T k).2.2.1 = some (ty0 k)) ∧ (∀ a, a < N → ∀ b, b < N → a ≠ b → (T a).2.1 ≠ (T b).2.1) ∧ (T k).2.2.2 = fin ∧ parseFieldDescriptor (T k).2.2.1 = some ty ∧ (T k).1 = own ∧ Cond.fieldLink own index (T k).1 (T k).2.1 (T k).2.2.1 ∈ gT0
theorem g_get (fx : gFx B cc own nL rm E) {index ci k r : Nat} {fs : List Value} {v : Value} (lk : gLk own index ci k) (hr : r < n) (hc : ct r = .inr (ci, fs)) (hv : fs[k]? = some v) (d : decode cc pc = .ok (.getfield index, 3)) (kk : G B nL E ad ct n k0 s0 L (pc + 3) (v :: st)) : G B nL E ad ct n k0 s0 L pc (.ref (ad r) :: st) := by
  intro ls H locs h w
  obtain ⟨C, T, N, h1, h2, h3, h4⟩ := lk
  rcases h4 with h4 | ⟨host, h4⟩
  · exact va_get fx.1.1 fx.1.2.1 fx.1.2.2.2.2 h3 fx.1.2.2.2.1 fx.2.1 w.1 r (gw_atE hr hc) h1 k h2 (fx.1.2.2.2.2 _ h4) (fun _ h9 => h9) hv d (kk ls H locs h w)
  · exact va_getN fx.1.1 fx.1.2.1 fx.1.2.2.2.2 h3 fx.1.2.2.2.1 fx.2.1 w.1 r (gw_atE hr hc) h1 k h2 (va_Nw.use rfl (fx.2.2.2.2.2.2 _ h4)) (fun _ h9 => h9) hv d (kk ls H locs h w)
theorem gWd_set {r : Nat} {e : va_E} {H1 : Heap} {locs1 : List Loc} (hP : va_P B.1 gcl ((gw ad ct n).set r (ad r, e)) H1) (hD : va_D E.A ((gw ad ct n).set r (ad r, e))) (hS : va_S E.A E.s.heap H1 locs1) : gWd B E ad (va_up ct r e) n H1 locs1 := by
  rw [gw_set] at hP hD
  exact ⟨hP, hD, hS⟩
theorem g_put (fx : gFx B cc own nL rm E) {index ci k r : Nat} {fs fs' : List Value} {v : Value} {ty : FieldType} (lk : gLp own index ci k ty false) (hr : r < n) (hc : ct r = .inr (ci, fs)) (hn : narrow ty v = v) (hfit : fits ty v = true) (hl : k < fs.length) (hfs : fs.set k v = fs') (d : decode cc pc = .ok (.putfield index, 3)) (kk : ∀ ct', ct' = va_up ct r (.inr (ci, fs')) → G B nL E ad ct' n k0 s0 L (pc + 3) st) : G B nL E ad ct n k0 s0 L pc (v :: .ref (ad r) :: st) := by
  intro ls H locs h w
  obtain ⟨C, T, N, ty0, h1, h2, h3, h5, h6, h7, h8, -, h4⟩ := lk
  subst hfs
  exact va_put fx.1.1 fx.1.2.1 fx.1.2.2.2.2 h3 ty0 h5 h6 fx.1.2.2.2.1 fx.2.1 w.1 w.2.1 w.2.2 r (gw_atE hr hc) h1 k h2 (fx.1.2.2.2.2 _ h4) (fun _ h9 => h9) h7 h8 hn hfit hl d (fun H1 l1 hP hD hS => kk _ rfl ls H1 l1 h (gWd_set hP hD hS))
theorem g_putF (fx : gFx B cc own nL rm E) {index ci k r : Nat} {fs fs' : List Value} {v : Value} {ty : FieldType} (hin : E.meth.name = "<init>") (lk : gLp own index ci k ty true) (hr : r < n) (hc : ct r = .inr (ci, fs)) (hn : narrow ty v = v) (hfit : fits ty v = true) (hl : k < fs.length) (hfs : fs.set k v = fs') (d : decode cc pc = .ok (.putfield index, 3)) (kk : ∀ ct', ct' = va_up ct r (.inr (ci, fs')) → G B nL E ad ct' n k0 s0 L (pc + 3) st) : G B nL E ad ct n k0 s0 L pc (v :: .ref (ad r) :: st) := by
  intro ls H locs h w
  obtain ⟨C, T, N, ty0, h1, h2, h3, h5, h6, h7, h8, h9, h4⟩ := lk
  subst hfs
  exact va_putF fx.1.1 fx.1.2.1 fx.1.2.2.2.2 h3 ty0 h5 h6 fx.1.2.2.2.1 fx.2.1 w.1 w.2.1 w.2.2 r (gw_atE hr hc) h1 k h2 (fx.1.2.2.2.2 _ h4) (fun _ h9 => h9) h7 hin h9 h8 hn hfit hl d (fun H1 l1 hP hD hS => kk _ rfl ls H1 l1 h (gWd_set hP hD hS))
theorem gIx {i : Int32} {j N : Nat} (hi : i.toInt = (j : Int)) (hj : j < N) : vp_in i N := vp_in_iff.mpr ⟨by omega, by omega⟩
theorem gCl {i : Int32} {j : Nat} (hi : i.toInt = (j : Int)) : i.toNatClampNeg = j := by
  show i.toInt.toNat = j
  omega
theorem g_iald (fx : gFx B cc own nL rm E) {r N j : Nat} {f : Nat → Int32} {i : Int32} (hr : r < n) (hc : ct r = .inl (B.2.1 0, N, .inl f)) (hi : i.toInt = (j : Int)) (hj : j < N) (d : decode cc pc = .ok (.iaload, 1)) (kk : G B nL E ad ct n k0 s0 L (pc + 1) (.int (f j) :: st)) : G B nL E ad ct n k0 s0 L pc (.int i :: .ref (ad r) :: st) := by
  intro ls H locs h w
  refine va_iald fx.1.1 fx.1.2.1 fx.2.1 w.1 r 0 (gw_atE hr hc) rfl (gIx hi hj) d ?_
  rw [gCl hi]
  exact kk ls H locs h w
theorem g_lald (fx : gFx B cc own nL rm E) {r N j : Nat} {f : Nat → Int64} {i : Int32} (hr : r < n) (hc : ct r = .inl (B.2.1 1, N, .inr (.inl f))) (hi : i.toInt = (j : Int)) (hj : j < N) (d : decode cc pc = .ok (.laload, 1)) (kk : G B nL E ad ct n k0 s0 L (pc + 1) (.long (f j) :: st)) : G B nL E ad ct n k0 s0 L pc (.int i :: .ref (ad r) :: st) := by
  intro ls H locs h w
  refine va_lald fx.1.1 fx.1.2.1 fx.2.1 w.1 r 1 (gw_atE hr hc) rfl (gIx hi hj) d ?_
  rw [gCl hi]
  exact kk ls H locs h w
theorem g_aald (fx : gFx B cc own nL rm E) {r t0 N j q : Nat} {cA : ClassId} {C : String} {f : Nat → Option Nat} {i : Int32} (ht : (gTy B.2.1)[t0]? = some (cA, .object C)) (hr : r < n) (hc : ct r = .inl (cA, N, .inr (.inr (.inr (.inr f))))) (hi : i.toInt = (j : Int)) (hj : j < N) (hq : f j = some q) (d : decode cc pc = .ok (.aaload, 1)) (kk : G B nL E ad ct n k0 s0 L (pc + 1) (.ref q :: st)) : G B nL E ad ct n k0 s0 L pc (.int i :: .ref (ad r) :: st) := by
  intro ls H locs h w
  refine va_aldq fx.1.1 fx.1.2.1 fx.2.1 w.1 r t0 (gw_atE hr hc) ht (gIx hi hj) d ?_
  rw [gCl hi, hq]
  exact kk ls H locs h w
theorem g_iast (fx : gFx B cc own nL rm E) {r N j : Nat} {f : Nat → Int32} {i x : Int32} (hr : r < n) (hc : ct r = .inl (B.2.1 0, N, .inl f)) (hi : i.toInt = (j : Int)) (hj : j < N) (d : decode cc pc = .ok (.iastore, 1)) (kk : ∀ ct', ct' = va_up ct r (.inl (B.2.1 0, N, .inl (va_up f j x))) → G B nL E ad ct' n k0 s0 L (pc + 1) st) : G B nL E ad ct n k0 s0 L pc (.int x :: .int i :: .ref (ad r) :: st) := by
  intro ls H locs h w
  refine va_iast fx.1.1 fx.1.2.1 fx.2.1 w.1 w.2.1 w.2.2 r 0 (gw_atE hr hc) rfl (gIx hi hj) d (fun H1 l1 hP hD hS => ?_)
  rw [gCl hi] at hP hD
  exact kk _ rfl ls H1 l1 h (gWd_set hP hD hS)
theorem g_last (fx : gFx B cc own nL rm E) {r N j : Nat} {f : Nat → Int64} {i : Int32} {x : Int64} (hr : r < n) (hc : ct r = .inl (B.2.1 1, N, .inr (.inl f))) (hi : i.toInt = (j : Int)) (hj : j < N) (d : decode cc pc = .ok (.lastore, 1)) (kk : ∀ ct', ct' = va_up ct r (.inl (B.2.1 1, N, .inr (.inl (va_up f j x)))) → G B nL E ad ct' n k0 s0 L (pc + 1) st) : G B nL E ad ct n k0 s0 L pc (.long x :: .int i :: .ref (ad r) :: st) := by
  intro ls H locs h w
  refine va_last fx.1.1 fx.1.2.1 fx.2.1 w.1 w.2.1 w.2.2 r 1 (gw_atE hr hc) rfl (gIx hi hj) d (fun H1 l1 hP hD hS => ?_)
  rw [gCl hi] at hP hD
  exact kk _ rfl ls H1 l1 h (gWd_set hP hD hS)
theorem g_alen (fx : gFx B cc own nL rm E) {r t0 : Nat} {cA : ClassId} {ty : FieldType} {x : vp_A} (ht : (gTy B.2.1)[t0]? = some (cA, ty)) (hr : r < n) (hc : ct r = .inl (cA, x)) (d : decode cc pc = .ok (.arraylength, 1)) (kk : G B nL E ad ct n k0 s0 L (pc + 1) (.int (nI x.1) :: st)) : G B nL E ad ct n k0 s0 L pc (.ref (ad r) :: st) := by
  intro ls H locs h w
  exact va_alen fx.1.1 fx.1.2.1 fx.2.1 w.1 r t0 (gw_atE hr hc) ht rfl d (kk ls H locs h w)
theorem gA_sub {H : Heap} {locs : List Loc} (fx : gFx B cc own nL rm E) (w : gWd B E ad ct n H locs) : ∀ q, gA ad n H.size q → E.A q := by
  intro q h
  rcases h with ⟨k, hk, rfl⟩ | h
  · exact w.2.1.2 k _ (gw_at hk)
  · exact fx.2.2.1 q (Nat.le_trans w.2.2.1 h)
theorem g_blind {As : List Value} {sz : Nat} : FrameBlind (va_Pc As (fun U => U.heap.size = sz ∧ va_P B.1 gcl (gw ad ct n) U.heap ∧ va_K B.1 gcl (gTy B.2.1) U ∧ va_D (fun _ => True) (gw ad ct n) ∧ gZ B (gA ad n sz) U)) := by
  intro a U g mk q
  obtain ⟨q0, q1, qP, qK, qD, qZ⟩ := q
  exact ⟨q0, q1, qP, va_K.moved (u := U) (U := U.calling g mk a) (Vm.Alike.refl U.vm) qK, qD, qZ.1.moved (u := U) (U := U.calling g mk a) (Vm.Alike.refl U.vm), qZ.2.1.moved (u := U) (U := U.calling g mk a) (Vm.Alike.refl U.vm), gN_same (s := U) (U := U.calling g mk a) rfl qZ.2.2⟩
theorem g_pre {As : List Value} {H : Heap} {locs : List Loc} (fx : gFx B cc own nL rm E) (w : gWd B E ad ct n H locs) : ∀ U : State, U.heap = H → E.s.WarmedH U.vm → va_Pc As (fun U => U.heap.size = H.size ∧ va_P B.1 gcl (gw ad ct n) U.heap ∧ va_K B.1 gcl (gTy B.2.1) U ∧ va_D (fun _ => True) (gw ad ct n) ∧ gZ B (gA ad n H.size) U) As.toArray U := by
  intro U hU hW
  have hs := gA_sub fx w
  have hz := fx.2.2.2.2
  refine ⟨rfl, by rw [hU], by rw [hU]; exact w.1, va_K.moved hW.alike fx.2.1, w.2.1.weaken (fun _ _ _ _ => trivial), ?_, ?_, gN_moved hW hz.2.2⟩
  · exact ((hz.1.kept (H1 := U.heap) (fun a h1 h2 => by rw [hU]; exact w.2.2.2.1 a h1 h2)).narrow hs).moved hW.alike
  · exact ((hz.2.1.kept (H1 := U.heap) (fun a h1 h2 => by rw [hU]; exact w.2.2.2.1 a h1 h2)).narrow hs).moved hW.alike
/-- behind a call -/
theorem g_back (fx : gFx B cc own nL rm E) {post : gP} {mc ms : Nat} {rest st0 : List Value} {a : Array Value} {ls : Array Slot} {H : Heap} {locs : List Loc} (h : lv_has ls nL L) (w : gWd B E ad ct n H locs)
    (hr : va_Run E.p B.2.2.1 E.e E.R E.s E.m E.args E.below E.meth E.c H locs k0 s0 mc ms (F0 E.m pc ls st0) rest (gQ B post (gA ad n H.size) a) (gA ad n H.size))
    (kk : ∀ v ad' ct' n', post v ad' ct' n' → G B nL E ad' ct' n' (k0 + mc) (s0 + ms) L (pc + 3) (v.toList ++ rest)) : W E.p B.2.2.1 E.e E.R E.s E.m E.args E.below E.meth E.c H locs k0 s0 E.Q (F0 E.m pc ls st0) := by
  intro T hT X
  obtain ⟨v, st₀, t, T', L', h0, X', hL, e1, e2, ⟨⟨v', ad', ct', n', hv, hp, hP', hK', hD'⟩, hz, hk⟩, st'⟩ := hr T hT X
  cases hv
  rw [h0] at hz hk
  have hsub := gA_sub fx w
  have w' : gWd B E ad' ct' n' T'.heap (locs ++ L') := by
    refine ⟨by rw [e1]; exact hP', hD'.weaken (fun _ q _ hq => hsub q.1 hq), ⟨Nat.le_trans w.2.2.1 (by rw [e1]; exact hz), fun q h1 h2 => ?_, fun q hq => ?_⟩⟩
    · rw [e1, hk q (Nat.lt_of_lt_of_le h1 w.2.2.1) (fun z => h2 (hsub q z))]
      exact w.2.2.2.1 q h1 h2
    · rcases List.mem_append.mp hq with h1 | h1
      · exact w.2.2.2.2 q h1
      · exact hsub _ (hL q h1)
  obtain ⟨t2, a1, b1⟩ := kk v ad' ct' n' hp ls T'.heap (locs ++ L') h w' T' rfl X'
  exact ⟨t2, st' t2 a1, b1⟩
/-- a call's site: what the tables say of the method that is called from 'own' by pool number 'index' -/
def gMl (own : String) (index : Nat) (y : MethodName) (bytes : ByteArray) (maxL : Nat) (ret : Option FieldType) (na : Nat) : Prop :=
  (Cond.methodLink own index y ∈ gT0 ∨ ∃ host, Cond.methodLinkNest own index y host ∈ gN) ∧ Cond.initialized y.cls ∈ gT0 ∧ Cond.code y bytes maxL ret ∈ gT0 ∧ (y.cls ≠ "java/lang/invoke/MethodHandle" ∧ y.cls ≠ "java/lang/invoke/VarHandle" ∧ (parseMethodDescriptor y.desc).map (fun d => d.parameters.length) = some na)
def gVl (own : String) (index : Nat) (y : MethodName) (bytes : ByteArray) (maxL : Nat) (ret : Option FieldType) (na : Nat) : Prop := gMl own index y bytes maxL ret na ∧ Cond.instanceMethod y ∈ gT0 ∧ Cond.selects y.cls y y ∈ gT0
def gSl (own : String) (index : Nat) (y : MethodName) (bytes : ByteArray) (maxL : Nat) (ret : Option FieldType) (na : Nat) : Prop := gMl own index y bytes maxL ret na ∧ Cond.static y ∈ gT0
def gIl (own : String) (index : Nat) (y : MethodName) (bytes : ByteArray) (maxL : Nat) (na : Nat) : Prop := gMl own index y bytes maxL none na ∧ y.name = "<init>" ∧ Cond.instanceMethod y ∈ gT0
theorem gGood {y : MethodName} {bytes : ByteArray} {maxL : Nat} {ret : Option FieldType} (h : Cond.code y bytes maxL ret ∈ gT0) : GoodIn gT0 (Cond.code y bytes maxL ret :: gT0) := by
  intro w hw
  rcases List.mem_cons.mp hw with rfl | hw
  · exact gT0_good _ h
  · exact gT0_good _ hw
theorem g_callV (fx : gFx B cc own nL rm E) {index maxL na fr lo mc ms ci r : Nat} {y : MethodName} {bytes : ByteArray} {ret : Option FieldType} {post : gP} {As rest st0 fs : List Value} {T : u_T} {N : Nat}
    (sl : gVl own index y bytes maxL ret na) (hM : Ctr B y bytes maxL ret fr lo mc ms ad ct n (.ref (ad r) :: As) post) (hr : r < n) (hc : ct r = .inr (ci, fs)) (hci : gcl[ci]? = some (y.cls, T, N))
    (hst : st0 = As.reverse ++ .ref (ad r) :: rest) (hna : As.length = na) (hW : (rest.map fun v => v.category).sum ≤ 8) (hR : fr + 1 ≤ rm.frames ∧ 8 + (maxL + 11) + lo ≤ rm.locals) (hf : k0 + mc ≤ rm.cells ∧ s0 + ms ≤ rm.slots) (d : decode cc pc = .ok (.invokevirtual index, 3))
    (kk : ∀ v ad' ct' n', post v ad' ct' n' → G B nL E ad' ct' n' (k0 + mc) (s0 + ms) L (pc + 3) (v.toList ++ rest)) : G B nL E ad ct n k0 s0 L pc st0 := by
  intro ls H locs h w
  obtain ⟨fx1, fx2, fx3, rfl, fx4⟩ := id fx
  obtain ⟨⟨s1, s2, s3, s4⟩, s5, s6⟩ := sl
  have hG := gGood s3
  have hts := fx1.2.2.2.2
  have hp : PreV E.s H y.cls (ad r) (va_Pc (.ref (ad r) :: As) (fun U => U.heap.size = H.size ∧ va_P B.1 gcl (gw ad ct n) U.heap ∧ va_K B.1 gcl (gTy B.2.1) U ∧ va_D (fun _ => True) (gw ad ct n) ∧ gZ B (gA ad n H.size) U)) As :=
    ⟨g_blind, va_recv fx2 w.1 hci (gw_atE hr hc), g_pre fx w⟩
  subst hst
  rcases s1 with s1 | ⟨host, s1⟩
  · refine g_back fx h w (va_runV (As := As) (rest := rest) fx1 (hM H.size) (C := y.cls) ⟨callB_of na hts hG rfl rfl rfl (hts _ s2) (hts _ s1) s4 hR, hts _ s5, hts _ s6⟩ hp rfl hna h.1 rfl (lv_room hW) d hf) kk
  · refine g_back fx h w (va_runVN (As := As) (rest := rest) fx1 (hM H.size) (C := y.cls) (host := host) ⟨va_cnB na hts hG rfl rfl rfl (fx4.2.2 _ s1) (hts _ s2) s4 hR, hts _ s5, hts _ s6⟩ hp rfl hna h.1 rfl (lv_room hW) d hf) kk
theorem g_callS (fx : gFx B cc own nL rm E) {index maxL na fr lo mc ms : Nat} {y : MethodName} {bytes : ByteArray} {ret : Option FieldType} {post : gP} {As rest st0 : List Value}
    (sl : gSl own index y bytes maxL ret na) (hM : Ctr B y bytes maxL ret fr lo mc ms ad ct n As post)
    (hst : st0 = As.reverse ++ rest) (hna : As.length = na) (hW : (rest.map fun v => v.category).sum ≤ 8) (hR : fr + 1 ≤ rm.frames ∧ 8 + (maxL + 11) + lo ≤ rm.locals) (hf : k0 + mc ≤ rm.cells ∧ s0 + ms ≤ rm.slots) (d : decode cc pc = .ok (.invokestatic index, 3))
    (kk : ∀ v ad' ct' n', post v ad' ct' n' → G B nL E ad' ct' n' (k0 + mc) (s0 + ms) L (pc + 3) (v.toList ++ rest)) : G B nL E ad ct n k0 s0 L pc st0 := by
  intro ls H locs h w
  obtain ⟨fx1, fx2, fx3, rfl, fx4⟩ := id fx
  obtain ⟨⟨s1, s2, s3, s4⟩, s5⟩ := sl
  have hG := gGood s3
  have hts := fx1.2.2.2.2
  have hp : PreS E.s H (va_Pc As (fun U => U.heap.size = H.size ∧ va_P B.1 gcl (gw ad ct n) U.heap ∧ va_K B.1 gcl (gTy B.2.1) U ∧ va_D (fun _ => True) (gw ad ct n) ∧ gZ B (gA ad n H.size) U)) As := ⟨g_blind, g_pre fx w⟩
  subst hst
  rcases s1 with s1 | ⟨host, s1⟩
  · refine g_back fx h w (va_runS (As := As) (rest := rest) fx1 (hM H.size) ⟨callB_of na hts hG rfl rfl rfl (hts _ s2) (hts _ s1) s4 hR, hts _ s5⟩ hp rfl hna h.1 rfl (lv_room hW) d hf) kk
  · refine g_back fx h w (va_runSN (As := As) (rest := rest) fx1 (hM H.size) (host := host) ⟨va_cnB na hts hG rfl rfl rfl (fx4.2.2 _ s1) (hts _ s2) s4 hR, hts _ s5, trivial⟩ hp rfl hna h.1 rfl (lv_room hW) d hf) kk
theorem g_callI (fx : gFx B cc own nL rm E) {index maxL na fr lo mc ms b : Nat} {y : MethodName} {bytes : ByteArray} {post : gP} {As rest st0 : List Value}
    (sl : gIl own index y bytes maxL na) (hM : Ctr B y bytes maxL none fr lo mc ms ad ct n (.ref b :: As) post)
    (hst : st0 = As.reverse ++ .ref b :: rest) (hna : As.length = na) (hW : (rest.map fun v => v.category).sum ≤ 8) (hR : fr + 1 ≤ rm.frames ∧ 8 + (maxL + 11) + lo ≤ rm.locals) (hf : k0 + mc ≤ rm.cells ∧ s0 + ms ≤ rm.slots) (d : decode cc pc = .ok (.invokespecial index, 3))
    (kk : ∀ v ad' ct' n', post v ad' ct' n' → G B nL E ad' ct' n' (k0 + mc) (s0 + ms) L (pc + 3) (v.toList ++ rest)) : G B nL E ad ct n k0 s0 L pc st0 := by
  intro ls H locs h w
  obtain ⟨fx1, fx2, fx3, rfl, fx4⟩ := id fx
  obtain ⟨⟨s1, s2, s3, s4⟩, s5, s6⟩ := sl
  have hG := gGood s3
  have hts := fx1.2.2.2.2
  have hp : PreS E.s H (va_Pc (.ref b :: As) (fun U => U.heap.size = H.size ∧ va_P B.1 gcl (gw ad ct n) U.heap ∧ va_K B.1 gcl (gTy B.2.1) U ∧ va_D (fun _ => True) (gw ad ct n) ∧ gZ B (gA ad n H.size) U)) (.ref b :: As) := ⟨g_blind, g_pre fx w⟩
  subst hst
  rcases s1 with s1 | ⟨host, s1⟩
  · refine g_back fx h w (va_runI (As := As) (rest := rest) fx1 (hM H.size) ⟨callB_of na hts hG rfl rfl rfl (hts _ s2) (hts _ s1) s4 hR, s5, hts _ s6⟩ hp rfl hna h.1 rfl (lv_room hW) d hf) kk
  · refine g_back fx h w (va_runIN (As := As) (rest := rest) fx1 (hM H.size) (host := host) ⟨va_cnB na hts hG rfl rfl rfl (fx4.2.2 _ s1) (hts _ s2) s4 hR, s5, hts _ s6⟩ hp rfl hna h.1 rfl (lv_room hW) d hf) kk
/-- ends -/
theorem g_end {post : gP} {mc ms : Nat} {ret : Option FieldType} (rt : gRt B post mc ms ret E) {H : Heap} {locs : List Loc} (fx : gFx B cc own nL rm E) (w : gWd B E ad ct n H locs) {v : Option Value} (hp : post v ad ct n) : ∀ t : State, t.heap = H → E.s.WarmedH t.vm → gQ B post E.A E.args E.s (.returned v) t := by
  intro t ht hW
  exact ⟨⟨v, ad, ct, n, rfl, hp, by rw [ht]; exact w.1, va_K.moved hW.alike fx.2.1, w.2.1⟩, w.2.2.F ht⟩
theorem g_iret (fx : gFx B cc own nL rm E) {post : gP} {mc ms : Nat} (rt : gRt B post mc ms (some .int) E) {v : Int32} (d : decode cc pc = .ok (.ireturn, 1)) (hp : post (some (.int v)) ad ct n) : G B nL E ad ct n mc ms L pc [.int v] := by
  intro ls H locs h w
  rw [rt.1]
  exact W.iret fx.1.1 fx.1.2.1 rt.2.1 (g_end rt fx w hp) w.2.2.2.2 d rt.2.2
theorem g_zret (fx : gFx B cc own nL rm E) {post : gP} {mc ms : Nat} (rt : gRt B post mc ms (some .boolean) E) {v : Int32} (d : decode cc pc = .ok (.ireturn, 1)) (hn : narrow .boolean (.int v) = .int v) (hp : post (some (.int v)) ad ct n) : G B nL E ad ct n mc ms L pc [.int v] := by
  intro ls H locs h w
  rw [rt.1]
  exact W.zret fx.1.1 fx.1.2.1 rt.2.1 hn (g_end rt fx w hp) w.2.2.2.2 d rt.2.2
theorem g_lret (fx : gFx B cc own nL rm E) {post : gP} {mc ms : Nat} (rt : gRt B post mc ms (some .long) E) {v : Int64} (d : decode cc pc = .ok (.lreturn, 1)) (hp : post (some (.long v)) ad ct n) : G B nL E ad ct n mc ms L pc [.long v] := by
  intro ls H locs h w
  rw [rt.1]
  exact W.lret fx.1.1 fx.1.2.1 rt.2.1 (g_end rt fx w hp) w.2.2.2.2 d rt.2.2
theorem g_vret (fx : gFx B cc own nL rm E) {post : gP} {mc ms : Nat} (rt : gRt B post mc ms none E) (d : decode cc pc = .ok (.return_, 1)) (hp : post none ad ct n) : G B nL E ad ct n mc ms L pc [] := by
  intro ls H locs h w
  rw [rt.1]
  exact W.vret fx.1.1 fx.1.2.1 rt.2.1 (g_end rt fx w hp) w.2.2.2.2 d rt.2.2
theorem g_aret (fx : gFx B cc own nL rm E) {post : gP} {mc ms : Nat} {C : String} (rt : gRt B post mc ms (some (.object C)) E) {a : Nat} (d : decode cc pc = .ok (.areturn, 1)) (hp : post (some (.ref a)) ad ct n) : G B nL E ad ct n mc ms L pc [.ref a] := by
  intro ls H locs h w
  rw [rt.1]
  exact W.aret fx.1.1 fx.1.2.1 rt.2.1 (Or.inl ⟨C, rfl⟩) (Or.inr ⟨a, rfl⟩) (g_end rt fx w hp) w.2.2.2.2 d rt.2.2
theorem g_objInit (fx : gFx B cc own nL rm E) {index b : Nat} (h1 : Cond.methodLink own index Lib.objectInit ∈ gT0) (h2 : Cond.instanceMethod Lib.objectInit ∈ gT0) (h3 : Cond.code Lib.objectInit ⟨#[0xb1]⟩ 1 none ∈ gT0) (hR : 1 ≤ rm.frames) (hR2 : (st.map fun v => v.category).sum + 12 ≤ rm.locals) (d : decode cc pc = .ok (.invokespecial index, 3)) (kk : G B nL E ad ct n k0 s0 L (pc + 3) st) : G B nL E ad ct n k0 s0 L pc (.ref b :: st) := by
  intro ls H locs h w
  obtain ⟨fx1, fx2, fx3, rfl, fx4⟩ := id fx
  have hts := fx1.2.2.2.2
  exact W.objInit fx1.1 fx1.2.1 fx1.2.2.2.1 (hts _ h1) (hts _ h2) (hts _ h3) rfl (by rw [fx1.2.2.1]; exact h.1) rfl d hR (by simpa [F0, JFrame.monitorRoom] using hR2) (kk ls H locs h w)
theorem g_ldcw (fx : gFx B cc own nL rm E) {index : Nat} {v : Int32} (hc : Cond.constant own index v ∈ gT0) (d : decode cc pc = .ok (.ldc_w index, 3)) (k : G B nL E ad ct n k0 s0 L (pc + 3) (.int v :: st)) : G B nL E ad ct n k0 s0 L pc st :=
  fun ls H locs h w => lv_ldcw fx.1.1 fx.1.2.1 fx.1.2.2.2.1 (fx.1.2.2.2.2 _ hc) d (k ls H locs h w)
theorem g_i2b (fx : gFx B cc own nL rm E) {x : Int32} (d : decode cc pc = .ok (.i2b, 1)) (k : G B nL E ad ct n k0 s0 L (pc + 1) (.int x.toInt8.toInt32 :: st)) : G B nL E ad ct n k0 s0 L pc (.int x :: st) :=
  fun ls H locs h w => lv_i2b fx.1.1 fx.1.2.1 d rfl (k ls H locs h w)
theorem g_bald (fx : gFx B cc own nL rm E) {r N j : Nat} {f : Nat → Int32} {i : Int32} (hr : r < n) (hc : ct r = .inl (B.2.1 2, N, .inl f)) (hi : i.toInt = (j : Int)) (hj : j < N) (d : decode cc pc = .ok (.baload, 1)) (kk : G B nL E ad ct n k0 s0 L (pc + 1) (.int (f j) :: st)) : G B nL E ad ct n k0 s0 L pc (.int i :: .ref (ad r) :: st) := by
  intro ls H locs h w
  refine va_bald fx.1.1 fx.1.2.1 fx.2.1 w.1 r 2 (gw_atE hr hc) rfl (gIx hi hj) d ?_
  rw [gCl hi]
  exact kk ls H locs h w
theorem g_primes (fx : gFx B cc own nL rm E) {index : Nat} (hl : Cond.fieldLink own index "ExactTests$Fraction" "PRIMES" "[I" ∈ gT0) (d : decode cc pc = .ok (.getstatic index, 3)) (k : G B nL E ad ct n k0 s0 L (pc + 3) (.ref B.2.2.2 :: st)) : G B nL E ad ct n k0 s0 L pc st :=
  fun ls H locs h w => va_gets fx.1.1 fx.1.2.1 fx.2.2.2.2.1 w.2.2 fx.1.2.2.2.1 (fx.1.2.2.2.2 _ hl) (fun _ h9 => h9) d (k ls H locs h w)
theorem g_primeAt (fx : gFx B cc own nL rm E) {j : Nat} {i : Int32} (hi : i.toInt = (j : Int)) (hj : j < 17) (d : decode cc pc = .ok (.iaload, 1)) (kk : G B nL E ad ct n k0 s0 L (pc + 1) (.int (gPr j) :: st)) : G B nL E ad ct n k0 s0 L pc (.int i :: .ref B.2.2.2 :: st) := by
  intro ls H locs h w
  exact va_ti fx.1.1 fx.1.2.1 fx.2.2.2.2.2.1 w.2.2 (gIx hi hj) (by rw [gCl hi]) d (kk ls H locs h w)
theorem g_primesLen (fx : gFx B cc own nL rm E) (d : decode cc pc = .ok (.arraylength, 1)) (kk : G B nL E ad ct n k0 s0 L (pc + 1) (.int 17 :: st)) : G B nL E ad ct n k0 s0 L pc (.ref B.2.2.2 :: st) := by
  intro ls H locs h w
  exact va_tlen fx.1.1 fx.1.2.1 fx.2.2.2.2.2.1 w.2.2 rfl d (kk ls H locs h w)
end GR
theorem Ctr.ofG {B : gB} {y : MethodName} {cc : ByteArray} {nL : Nat} {ret : Option FieldType} {fr lo mc ms : Nat} {ad : Nat → Nat} {ct : Nat → va_E} {n : Nat} {As : List Value} {post : gP} {L : List (Nat × Value)} (hy : plainName y.cls = true) (hL : lv_args 0 As = L) (hn : (lg_sl As).length ≤ nL)
    (body : ∀ E : gE, gFx B cc y.cls nL { frames := fr, cells := mc, slots := ms, locals := lo } E → gRt B post mc ms ret E → E.meth.name = y.name → G B nL E ad ct n 0 0 L 0 []) : Ctr B y cc nL ret fr lo mc ms ad ct n As post := by
  intro sz
  refine Met.ofW (cc := cc) (maxL := nL) (ret := ret) hy rfl ?_
  intro p e s m args below meth c s₁ X hml hv
  obtain ⟨rfl, hsz, hP, hK, hD0, hZ⟩ := hv
  have hts := atoms_spec (ws := Cond.code y cc nL ret :: gT0) X.pre
  have hown : s.vm.findClass y.cls = some m.cls := findClass_of_methodNamed X.named
  have hl := lv_entry As (n := nL) hn
  rw [lg_entry_eq]
  rw [hL] at hl
  subst hsz
  have hD : va_D (gA ad n s.heap.size) (gw ad ct n) := ⟨hD0.1, fun k q hk => by
    obtain ⟨h1, rfl⟩ := gw_in hk
    exact Or.inl ⟨k, h1, rfl⟩⟩
  exact body ((p, e, _, s), (m, _, below, meth, c), (gA ad n s.heap.size, _)) ⟨⟨X.exec, X.bytes, hml, hown, fun w hw => hts w (List.mem_cons_of_mem _ hw)⟩, hK, fun q h => Or.inr h, rfl, hZ⟩ ⟨rfl, X.returns, X.notSynchronized⟩ (name_of_methodNamed X.named X.method).1 _ s.heap [] hl ⟨hP, hD, va_S.rf⟩
end
section
/-! Contracts by their kinds: the world's cells stay where they are; the answer is an int, a long, nothing, a reference; 'p': nothing changes. -/
def gPi (ad : Nat → Nat) (n : Nat) (P : Int32 → (Nat → va_E) → Prop) : gP := fun v ad' ct' n' => ad' = ad ∧ n' = n ∧ ∃ r : Int32, v = some (.int r) ∧ P r ct'
def gPl (ad : Nat → Nat) (n : Nat) (P : Int64 → (Nat → va_E) → Prop) : gP := fun v ad' ct' n' => ad' = ad ∧ n' = n ∧ ∃ r : Int64, v = some (.long r) ∧ P r ct'
def gPv (ad : Nat → Nat) (n : Nat) (P : (Nat → va_E) → Prop) : gP := fun v ad' ct' n' => ad' = ad ∧ n' = n ∧ v = none ∧ P ct'
def gPip (ad : Nat → Nat) (ct : Nat → va_E) (n : Nat) (P : Int32 → Prop) : gP := gPi ad n (fun r ct' => ct' = ct ∧ P r)
def gPlp (ad : Nat → Nat) (ct : Nat → va_E) (n : Nat) (P : Int64 → Prop) : gP := gPl ad n (fun r ct' => ct' = ct ∧ P r)
def gPrp (ad : Nat → Nat) (ct : Nat → va_E) (n : Nat) (P : Nat → Prop) : gP := fun v ad' ct' n' => ad' = ad ∧ n' = n ∧ ct' = ct ∧ ∃ r : Nat, v = some (.ref r) ∧ P r
theorem gPi.mk {ad : Nat → Nat} {ct : Nat → va_E} {n : Nat} {P : Int32 → (Nat → va_E) → Prop} {r : Int32} (h : P r ct) : gPi ad n P (some (.int r)) ad ct n := ⟨rfl, rfl, r, rfl, h⟩
theorem gPl.mk {ad : Nat → Nat} {ct : Nat → va_E} {n : Nat} {P : Int64 → (Nat → va_E) → Prop} {r : Int64} (h : P r ct) : gPl ad n P (some (.long r)) ad ct n := ⟨rfl, rfl, r, rfl, h⟩
theorem gPv.mk {ad : Nat → Nat} {ct : Nat → va_E} {n : Nat} {P : (Nat → va_E) → Prop} (h : P ct) : gPv ad n P none ad ct n := ⟨rfl, rfl, rfl, h⟩
theorem gPip.mk {ad : Nat → Nat} {ct : Nat → va_E} {n : Nat} {P : Int32 → Prop} {r : Int32} (h : P r) : gPip ad ct n P (some (.int r)) ad ct n := ⟨rfl, rfl, r, rfl, rfl, h⟩
theorem gPlp.mk {ad : Nat → Nat} {ct : Nat → va_E} {n : Nat} {P : Int64 → Prop} {r : Int64} (h : P r) : gPlp ad ct n P (some (.long r)) ad ct n := ⟨rfl, rfl, r, rfl, rfl, h⟩
theorem gPrp.mk {ad : Nat → Nat} {ct : Nat → va_E} {n : Nat} {P : Nat → Prop} {r : Nat} (h : P r) : gPrp ad ct n P (some (.ref r)) ad ct n := ⟨rfl, rfl, rfl, r, rfl, h⟩
theorem gInc (a : Nat) : nI a + Int32.ofInt 1 = nI (a + 1) := nI_1 a
theorem gDec (a : Nat) : nI (a + 1) + Int32.ofInt (-1) = nI a := by
  show nI (a + 1) + (-1) = nI a
  exact pk_m1 a
section GR2
variable {B : gB} {cc : ByteArray} {own : String} {nL : Nat} {rm : Room} {E : gE} {ad : Nat → Nat} {ct : Nat → va_E} {n k0 s0 : Nat} {L : List (Nat × Value)} {pc : Nat} {st : List Value}
theorem g_isi {x : Int32} (y : Int32) (h : x = y) (k : G B nL E ad ct n k0 s0 L pc (.int y :: st)) : G B nL E ad ct n k0 s0 L pc (.int x :: st) := by rw [h]; exact k
theorem g_isl {x : Int64} (y : Int64) (h : x = y) (k : G B nL E ad ct n k0 s0 L pc (.long y :: st)) : G B nL E ad ct n k0 s0 L pc (.long x :: st) := by rw [h]; exact k
theorem g_iaddN (fx : gFx B cc own nL rm E) {x y : Nat} (d : decode cc pc = .ok (.iadd, 1)) (k : G B nL E ad ct n k0 s0 L (pc + 1) (.int (nI (x + y)) :: st)) : G B nL E ad ct n k0 s0 L pc (.int (nI y) :: .int (nI x) :: st) := g_iadd fx d (by rw [nI_add]; exact k)
theorem g_imulN (fx : gFx B cc own nL rm E) {x y : Nat} (d : decode cc pc = .ok (.imul, 1)) (k : G B nL E ad ct n k0 s0 L (pc + 1) (.int (nI (x * y)) :: st)) : G B nL E ad ct n k0 s0 L pc (.int (nI y) :: .int (nI x) :: st) := g_imul fx d (by rw [pk_mul]; exact k)
theorem g_isubN (fx : gFx B cc own nL rm E) {x y : Nat} (d : decode cc pc = .ok (.isub, 1)) (h : y ≤ x) (k : G B nL E ad ct n k0 s0 L (pc + 1) (.int (nI (x - y)) :: st)) : G B nL E ad ct n k0 s0 L pc (.int (nI y) :: .int (nI x) :: st) := g_isub fx d (by rw [pk_sub h]; exact k)
theorem g_callVip (fx : gFx B cc own nL rm E) {index maxL na fr lo ci r : Nat} {y : MethodName} {bytes : ByteArray} {ret : Option FieldType} {As rest st0 fs : List Value} {T : u_T} {N : Nat} {P : Int32 → Prop}
    (sl : gVl own index y bytes maxL ret na) (hM : Ctr B y bytes maxL ret fr lo 0 0 ad ct n (.ref (ad r) :: As) (gPip ad ct n P)) (hr : r < n) (hc : ct r = .inr (ci, fs)) (hci : gcl[ci]? = some (y.cls, T, N)) (hst : st0 = As.reverse ++ .ref (ad r) :: rest) (hna : As.length = na) (hW : (rest.map fun v => v.category).sum ≤ 8) (hR : fr + 1 ≤ rm.frames ∧ 8 + (maxL + 11) + lo ≤ rm.locals) (hf : k0 ≤ rm.cells ∧ s0 ≤ rm.slots) (d : decode cc pc = .ok (.invokevirtual index, 3))
    (kk : ∀ r, P r → G B nL E ad ct n k0 s0 L (pc + 3) (.int r :: rest)) : G B nL E ad ct n k0 s0 L pc st0 := by
  refine g_callV fx sl hM hr hc hci hst hna hW hR hf d (fun v ad' ct' n' h => ?_)
  obtain ⟨rfl, rfl, r, rfl, rfl, h⟩ := h
  exact kk r h
theorem g_callVlp (fx : gFx B cc own nL rm E) {index maxL na fr lo ci r : Nat} {y : MethodName} {bytes : ByteArray} {ret : Option FieldType} {As rest st0 fs : List Value} {T : u_T} {N : Nat} {P : Int64 → Prop}
    (sl : gVl own index y bytes maxL ret na) (hM : Ctr B y bytes maxL ret fr lo 0 0 ad ct n (.ref (ad r) :: As) (gPlp ad ct n P)) (hr : r < n) (hc : ct r = .inr (ci, fs)) (hci : gcl[ci]? = some (y.cls, T, N)) (hst : st0 = As.reverse ++ .ref (ad r) :: rest) (hna : As.length = na) (hW : (rest.map fun v => v.category).sum ≤ 8) (hR : fr + 1 ≤ rm.frames ∧ 8 + (maxL + 11) + lo ≤ rm.locals) (hf : k0 ≤ rm.cells ∧ s0 ≤ rm.slots) (d : decode cc pc = .ok (.invokevirtual index, 3))
    (kk : ∀ r, P r → G B nL E ad ct n k0 s0 L (pc + 3) (.long r :: rest)) : G B nL E ad ct n k0 s0 L pc st0 := by
  refine g_callV fx sl hM hr hc hci hst hna hW hR hf d (fun v ad' ct' n' h => ?_)
  obtain ⟨rfl, rfl, r, rfl, rfl, h⟩ := h
  exact kk r h
theorem g_callVi (fx : gFx B cc own nL rm E) {index maxL na fr lo ci r : Nat} {y : MethodName} {bytes : ByteArray} {ret : Option FieldType} {As rest st0 fs : List Value} {T : u_T} {N : Nat} {P : Int32 → (Nat → va_E) → Prop}
    (sl : gVl own index y bytes maxL ret na) (hM : Ctr B y bytes maxL ret fr lo 0 0 ad ct n (.ref (ad r) :: As) (gPi ad n P)) (hr : r < n) (hc : ct r = .inr (ci, fs)) (hci : gcl[ci]? = some (y.cls, T, N)) (hst : st0 = As.reverse ++ .ref (ad r) :: rest) (hna : As.length = na) (hW : (rest.map fun v => v.category).sum ≤ 8) (hR : fr + 1 ≤ rm.frames ∧ 8 + (maxL + 11) + lo ≤ rm.locals) (hf : k0 ≤ rm.cells ∧ s0 ≤ rm.slots) (d : decode cc pc = .ok (.invokevirtual index, 3))
    (kk : ∀ r ct', P r ct' → G B nL E ad ct' n k0 s0 L (pc + 3) (.int r :: rest)) : G B nL E ad ct n k0 s0 L pc st0 := by
  refine g_callV fx sl hM hr hc hci hst hna hW hR hf d (fun v ad' ct' n' h => ?_)
  obtain ⟨rfl, rfl, r, rfl, h⟩ := h
  exact kk r _ h
theorem g_callVl (fx : gFx B cc own nL rm E) {index maxL na fr lo ci r : Nat} {y : MethodName} {bytes : ByteArray} {ret : Option FieldType} {As rest st0 fs : List Value} {T : u_T} {N : Nat} {P : Int64 → (Nat → va_E) → Prop}
    (sl : gVl own index y bytes maxL ret na) (hM : Ctr B y bytes maxL ret fr lo 0 0 ad ct n (.ref (ad r) :: As) (gPl ad n P)) (hr : r < n) (hc : ct r = .inr (ci, fs)) (hci : gcl[ci]? = some (y.cls, T, N)) (hst : st0 = As.reverse ++ .ref (ad r) :: rest) (hna : As.length = na) (hW : (rest.map fun v => v.category).sum ≤ 8) (hR : fr + 1 ≤ rm.frames ∧ 8 + (maxL + 11) + lo ≤ rm.locals) (hf : k0 ≤ rm.cells ∧ s0 ≤ rm.slots) (d : decode cc pc = .ok (.invokevirtual index, 3))
    (kk : ∀ r ct', P r ct' → G B nL E ad ct' n k0 s0 L (pc + 3) (.long r :: rest)) : G B nL E ad ct n k0 s0 L pc st0 := by
  refine g_callV fx sl hM hr hc hci hst hna hW hR hf d (fun v ad' ct' n' h => ?_)
  obtain ⟨rfl, rfl, r, rfl, h⟩ := h
  exact kk r _ h
theorem g_callVv (fx : gFx B cc own nL rm E) {index maxL na fr lo ci r : Nat} {y : MethodName} {bytes : ByteArray} {ret : Option FieldType} {As rest st0 fs : List Value} {T : u_T} {N : Nat} {P : (Nat → va_E) → Prop}
    (sl : gVl own index y bytes maxL ret na) (hM : Ctr B y bytes maxL ret fr lo 0 0 ad ct n (.ref (ad r) :: As) (gPv ad n P)) (hr : r < n) (hc : ct r = .inr (ci, fs)) (hci : gcl[ci]? = some (y.cls, T, N)) (hst : st0 = As.reverse ++ .ref (ad r) :: rest) (hna : As.length = na) (hW : (rest.map fun v => v.category).sum ≤ 8) (hR : fr + 1 ≤ rm.frames ∧ 8 + (maxL + 11) + lo ≤ rm.locals) (hf : k0 ≤ rm.cells ∧ s0 ≤ rm.slots) (d : decode cc pc = .ok (.invokevirtual index, 3))
    (kk : ∀ ct', P ct' → G B nL E ad ct' n k0 s0 L (pc + 3) rest) : G B nL E ad ct n k0 s0 L pc st0 := by
  refine g_callV fx sl hM hr hc hci hst hna hW hR hf d (fun v ad' ct' n' h => ?_)
  obtain ⟨rfl, rfl, rfl, h⟩ := h
  exact kk _ h
theorem g_callVrp (fx : gFx B cc own nL rm E) {index maxL na fr lo ci r : Nat} {y : MethodName} {bytes : ByteArray} {ret : Option FieldType} {As rest st0 fs : List Value} {T : u_T} {N : Nat} {P : Nat → Prop}
    (sl : gVl own index y bytes maxL ret na) (hM : Ctr B y bytes maxL ret fr lo 0 0 ad ct n (.ref (ad r) :: As) (gPrp ad ct n P)) (hr : r < n) (hc : ct r = .inr (ci, fs)) (hci : gcl[ci]? = some (y.cls, T, N)) (hst : st0 = As.reverse ++ .ref (ad r) :: rest) (hna : As.length = na) (hW : (rest.map fun v => v.category).sum ≤ 8) (hR : fr + 1 ≤ rm.frames ∧ 8 + (maxL + 11) + lo ≤ rm.locals) (hf : k0 ≤ rm.cells ∧ s0 ≤ rm.slots) (d : decode cc pc = .ok (.invokevirtual index, 3))
    (kk : ∀ r, P r → G B nL E ad ct n k0 s0 L (pc + 3) (.ref r :: rest)) : G B nL E ad ct n k0 s0 L pc st0 := by
  refine g_callV fx sl hM hr hc hci hst hna hW hR hf d (fun v ad' ct' n' h => ?_)
  obtain ⟨rfl, rfl, rfl, r, rfl, h⟩ := h
  exact kk r h
theorem g_callSip (fx : gFx B cc own nL rm E) {index maxL na fr lo : Nat} {y : MethodName} {bytes : ByteArray} {ret : Option FieldType} {As rest st0 : List Value} {P : Int32 → Prop}
    (sl : gSl own index y bytes maxL ret na) (hM : Ctr B y bytes maxL ret fr lo 0 0 ad ct n As (gPip ad ct n P)) (hst : st0 = As.reverse ++ rest) (hna : As.length = na) (hW : (rest.map fun v => v.category).sum ≤ 8) (hR : fr + 1 ≤ rm.frames ∧ 8 + (maxL + 11) + lo ≤ rm.locals) (hf : k0 ≤ rm.cells ∧ s0 ≤ rm.slots) (d : decode cc pc = .ok (.invokestatic index, 3))
    (kk : ∀ r, P r → G B nL E ad ct n k0 s0 L (pc + 3) (.int r :: rest)) : G B nL E ad ct n k0 s0 L pc st0 := by
  refine g_callS fx sl hM hst hna hW hR hf d (fun v ad' ct' n' h => ?_)
  obtain ⟨rfl, rfl, r, rfl, rfl, h⟩ := h
  exact kk r h
theorem g_callSlp (fx : gFx B cc own nL rm E) {index maxL na fr lo : Nat} {y : MethodName} {bytes : ByteArray} {ret : Option FieldType} {As rest st0 : List Value} {P : Int64 → Prop}
    (sl : gSl own index y bytes maxL ret na) (hM : Ctr B y bytes maxL ret fr lo 0 0 ad ct n As (gPlp ad ct n P)) (hst : st0 = As.reverse ++ rest) (hna : As.length = na) (hW : (rest.map fun v => v.category).sum ≤ 8) (hR : fr + 1 ≤ rm.frames ∧ 8 + (maxL + 11) + lo ≤ rm.locals) (hf : k0 ≤ rm.cells ∧ s0 ≤ rm.slots) (d : decode cc pc = .ok (.invokestatic index, 3))
    (kk : ∀ r, P r → G B nL E ad ct n k0 s0 L (pc + 3) (.long r :: rest)) : G B nL E ad ct n k0 s0 L pc st0 := by
  refine g_callS fx sl hM hst hna hW hR hf d (fun v ad' ct' n' h => ?_)
  obtain ⟨rfl, rfl, r, rfl, rfl, h⟩ := h
  exact kk r h
theorem g_callSi (fx : gFx B cc own nL rm E) {index maxL na fr lo : Nat} {y : MethodName} {bytes : ByteArray} {ret : Option FieldType} {As rest st0 : List Value} {P : Int32 → (Nat → va_E) → Prop}
    (sl : gSl own index y bytes maxL ret na) (hM : Ctr B y bytes maxL ret fr lo 0 0 ad ct n As (gPi ad n P)) (hst : st0 = As.reverse ++ rest) (hna : As.length = na) (hW : (rest.map fun v => v.category).sum ≤ 8) (hR : fr + 1 ≤ rm.frames ∧ 8 + (maxL + 11) + lo ≤ rm.locals) (hf : k0 ≤ rm.cells ∧ s0 ≤ rm.slots) (d : decode cc pc = .ok (.invokestatic index, 3))
    (kk : ∀ r ct', P r ct' → G B nL E ad ct' n k0 s0 L (pc + 3) (.int r :: rest)) : G B nL E ad ct n k0 s0 L pc st0 := by
  refine g_callS fx sl hM hst hna hW hR hf d (fun v ad' ct' n' h => ?_)
  obtain ⟨rfl, rfl, r, rfl, h⟩ := h
  exact kk r _ h
theorem g_callSl (fx : gFx B cc own nL rm E) {index maxL na fr lo : Nat} {y : MethodName} {bytes : ByteArray} {ret : Option FieldType} {As rest st0 : List Value} {P : Int64 → (Nat → va_E) → Prop}
    (sl : gSl own index y bytes maxL ret na) (hM : Ctr B y bytes maxL ret fr lo 0 0 ad ct n As (gPl ad n P)) (hst : st0 = As.reverse ++ rest) (hna : As.length = na) (hW : (rest.map fun v => v.category).sum ≤ 8) (hR : fr + 1 ≤ rm.frames ∧ 8 + (maxL + 11) + lo ≤ rm.locals) (hf : k0 ≤ rm.cells ∧ s0 ≤ rm.slots) (d : decode cc pc = .ok (.invokestatic index, 3))
    (kk : ∀ r ct', P r ct' → G B nL E ad ct' n k0 s0 L (pc + 3) (.long r :: rest)) : G B nL E ad ct n k0 s0 L pc st0 := by
  refine g_callS fx sl hM hst hna hW hR hf d (fun v ad' ct' n' h => ?_)
  obtain ⟨rfl, rfl, r, rfl, h⟩ := h
  exact kk r _ h
theorem g_callSv (fx : gFx B cc own nL rm E) {index maxL na fr lo : Nat} {y : MethodName} {bytes : ByteArray} {ret : Option FieldType} {As rest st0 : List Value} {P : (Nat → va_E) → Prop}
    (sl : gSl own index y bytes maxL ret na) (hM : Ctr B y bytes maxL ret fr lo 0 0 ad ct n As (gPv ad n P)) (hst : st0 = As.reverse ++ rest) (hna : As.length = na) (hW : (rest.map fun v => v.category).sum ≤ 8) (hR : fr + 1 ≤ rm.frames ∧ 8 + (maxL + 11) + lo ≤ rm.locals) (hf : k0 ≤ rm.cells ∧ s0 ≤ rm.slots) (d : decode cc pc = .ok (.invokestatic index, 3))
    (kk : ∀ ct', P ct' → G B nL E ad ct' n k0 s0 L (pc + 3) rest) : G B nL E ad ct n k0 s0 L pc st0 := by
  refine g_callS fx sl hM hst hna hW hR hf d (fun v ad' ct' n' h => ?_)
  obtain ⟨rfl, rfl, rfl, h⟩ := h
  exact kk _ h
theorem g_callSrp (fx : gFx B cc own nL rm E) {index maxL na fr lo : Nat} {y : MethodName} {bytes : ByteArray} {ret : Option FieldType} {As rest st0 : List Value} {P : Nat → Prop}
    (sl : gSl own index y bytes maxL ret na) (hM : Ctr B y bytes maxL ret fr lo 0 0 ad ct n As (gPrp ad ct n P)) (hst : st0 = As.reverse ++ rest) (hna : As.length = na) (hW : (rest.map fun v => v.category).sum ≤ 8) (hR : fr + 1 ≤ rm.frames ∧ 8 + (maxL + 11) + lo ≤ rm.locals) (hf : k0 ≤ rm.cells ∧ s0 ≤ rm.slots) (d : decode cc pc = .ok (.invokestatic index, 3))
    (kk : ∀ r, P r → G B nL E ad ct n k0 s0 L (pc + 3) (.ref r :: rest)) : G B nL E ad ct n k0 s0 L pc st0 := by
  refine g_callS fx sl hM hst hna hW hR hf d (fun v ad' ct' n' h => ?_)
  obtain ⟨rfl, rfl, rfl, r, rfl, h⟩ := h
  exact kk r h
end GR2
end
section
set_option maxRecDepth 20000 in
theorem inX0 : ∀ w ∈ u_ws RX0 TX0 5, w ∈ gT0 := by
  intro w hw
  obtain ⟨k, hk, rfl⟩ := List.mem_map.mp hw
  have hk := List.mem_range.mp hk
  match k, hk with
  | 0, _ => exact (gT0_tb 142 (by decide +kernel) rfl)
  | 1, _ => exact (gT0_tb 144 (by decide +kernel) rfl)
  | 2, _ => exact (gT0_tb 146 (by decide +kernel) rfl)
  | 3, _ => exact (gT0_tb 148 (by decide +kernel) rfl)
  | 4, _ => exact (gT0_tb 150 (by decide +kernel) rfl)
set_option maxRecDepth 20000 in
theorem inX1 : ∀ w ∈ u_ws RX1 TX1 4, w ∈ gT0 := by
  intro w hw
  obtain ⟨k, hk, rfl⟩ := List.mem_map.mp hw
  have hk := List.mem_range.mp hk
  match k, hk with
  | 0, _ => exact (gT0_tb 267 (by decide +kernel) rfl)
  | 1, _ => exact (gT0_tb 269 (by decide +kernel) rfl)
  | 2, _ => exact (gT0_tb 271 (by decide +kernel) rfl)
  | 3, _ => exact (gT0_tb 273 (by decide +kernel) rfl)
set_option maxRecDepth 20000 in
theorem inX2 : ∀ w ∈ u_ws RX2 TX2 2, w ∈ gT0 := by
  intro w hw
  obtain ⟨k, hk, rfl⟩ := List.mem_map.mp hw
  have hk := List.mem_range.mp hk
  match k, hk with
  | 0, _ => exact (gT0_tb 219 (by decide +kernel) rfl)
  | 1, _ => exact (gT0_tb 221 (by decide +kernel) rfl)
set_option maxRecDepth 20000 in
theorem inX3 : ∀ w ∈ u_ws RX3 TX3 3, w ∈ gT0 := by
  intro w hw
  obtain ⟨k, hk, rfl⟩ := List.mem_map.mp hw
  have hk := List.mem_range.mp hk
  match k, hk with
  | 0, _ => exact (gT0_tb 35 (by decide +kernel) rfl)
  | 1, _ => exact (gT0_tb 37 (by decide +kernel) rfl)
  | 2, _ => exact (gT0_tb 39 (by decide +kernel) rfl)
set_option maxRecDepth 20000 in
theorem inX4 : ∀ w ∈ u_ws RX4 TX4 3, w ∈ gT0 := by
  intro w hw
  obtain ⟨k, hk, rfl⟩ := List.mem_map.mp hw
  have hk := List.mem_range.mp hk
  match k, hk with
  | 0, _ => exact (gT0_tb 171 (by decide +kernel) rfl)
  | 1, _ => exact (gT0_tb 173 (by decide +kernel) rfl)
  | 2, _ => exact (gT0_tb 175 (by decide +kernel) rfl)
set_option maxRecDepth 20000 in
theorem inX5 : ∀ w ∈ u_ws RX5 TX5 2, w ∈ gT0 := by
  intro w hw
  obtain ⟨k, hk, rfl⟩ := List.mem_map.mp hw
  have hk := List.mem_range.mp hk
  match k, hk with
  | 0, _ => exact (gT0_tb 54 (by decide +kernel) rfl)
  | 1, _ => exact (gT0_tb 56 (by decide +kernel) rfl)
set_option maxRecDepth 20000 in
theorem inX6 : ∀ w ∈ u_ws RX6 TX6 5, w ∈ gT0 := by
  intro w hw
  obtain ⟨k, hk, rfl⟩ := List.mem_map.mp hw
  have hk := List.mem_range.mp hk
  match k, hk with
  | 0, _ => exact (gT0_tb 229 (by decide +kernel) rfl)
  | 1, _ => exact (gT0_tb 231 (by decide +kernel) rfl)
  | 2, _ => exact (gT0_tb 233 (by decide +kernel) rfl)
  | 3, _ => exact (gT0_tb 235 (by decide +kernel) rfl)
  | 4, _ => exact (gT0_tb 237 (by decide +kernel) rfl)
set_option maxRecDepth 20000 in
theorem inX7 : ∀ w ∈ u_ws RX7 TX7 2, w ∈ gT0 := by
  intro w hw
  obtain ⟨k, hk, rfl⟩ := List.mem_map.mp hw
  have hk := List.mem_range.mp hk
  match k, hk with
  | 0, _ => exact (gT0_tb 250 (by decide +kernel) rfl)
  | 1, _ => exact (gT0_tb 252 (by decide +kernel) rfl)
set_option maxRecDepth 20000 in
theorem inX8 : ∀ w ∈ u_ws RX8 TX8 7, w ∈ gT0 := by
  intro w hw
  obtain ⟨k, hk, rfl⟩ := List.mem_map.mp hw
  have hk := List.mem_range.mp hk
  match k, hk with
  | 0, _ => exact (gT0_tb 185 (by decide +kernel) rfl)
  | 1, _ => exact (gT0_tb 187 (by decide +kernel) rfl)
  | 2, _ => exact (gT0_tb 189 (by decide +kernel) rfl)
  | 3, _ => exact (gT0_tb 191 (by decide +kernel) rfl)
  | 4, _ => exact (gT0_tb 193 (by decide +kernel) rfl)
  | 5, _ => exact (gT0_tb 195 (by decide +kernel) rfl)
  | 6, _ => exact (gT0_tb 197 (by decide +kernel) rfl)
set_option maxRecDepth 20000 in
theorem inX9 : ∀ w ∈ u_ws RX9 TX9 15, w ∈ gT0 := by
  intro w hw
  obtain ⟨k, hk, rfl⟩ := List.mem_map.mp hw
  have hk := List.mem_range.mp hk
  match k, hk with
  | 0, _ => exact (gT0_tb 100 (by decide +kernel) rfl)
  | 1, _ => exact (gT0_tb 102 (by decide +kernel) rfl)
  | 2, _ => exact (gT0_tb 104 (by decide +kernel) rfl)
  | 3, _ => exact (gT0_tb 106 (by decide +kernel) rfl)
  | 4, _ => exact (gT0_tb 108 (by decide +kernel) rfl)
  | 5, _ => exact (gT0_tb 110 (by decide +kernel) rfl)
  | 6, _ => exact (gT0_tb 112 (by decide +kernel) rfl)
  | 7, _ => exact (gT0_tb 114 (by decide +kernel) rfl)
  | 8, _ => exact (gT0_tb 116 (by decide +kernel) rfl)
  | 9, _ => exact (gT0_tb 118 (by decide +kernel) rfl)
  | 10, _ => exact (gT0_tb 120 (by decide +kernel) rfl)
  | 11, _ => exact (gT0_tb 122 (by decide +kernel) rfl)
  | 12, _ => exact (gT0_tb 124 (by decide +kernel) rfl)
  | 13, _ => exact (gT0_tb 126 (by decide +kernel) rfl)
  | 14, _ => exact (gT0_tb 128 (by decide +kernel) rfl)
set_option maxRecDepth 20000 in
theorem inX10 : ∀ w ∈ u_ws RX10 TX10 2, w ∈ gT0 := by
  intro w hw
  obtain ⟨k, hk, rfl⟩ := List.mem_map.mp hw
  have hk := List.mem_range.mp hk
  match k, hk with
  | 0, _ => exact (gT0_tb 74 (by decide +kernel) rfl)
  | 1, _ => exact (gT0_tb 76 (by decide +kernel) rfl)
set_option maxRecDepth 20000 in
theorem inX11 : ∀ w ∈ u_ws RX11 TX11 11, w ∈ gT0 := by
  intro w hw
  obtain ⟨k, hk, rfl⟩ := List.mem_map.mp hw
  have hk := List.mem_range.mp hk
  match k, hk with
  | 0, _ => exact (gT0_tb 287 (by decide +kernel) rfl)
  | 1, _ => exact (gT0_tb 289 (by decide +kernel) rfl)
  | 2, _ => exact (gT0_tb 291 (by decide +kernel) rfl)
  | 3, _ => exact (gT0_tb 293 (by decide +kernel) rfl)
  | 4, _ => exact (gT0_tb 295 (by decide +kernel) rfl)
  | 5, _ => exact (gT0_tb 297 (by decide +kernel) rfl)
  | 6, _ => exact (gT0_tb 299 (by decide +kernel) rfl)
  | 7, _ => exact (gT0_tb 301 (by decide +kernel) rfl)
  | 8, _ => exact (gT0_tb 303 (by decide +kernel) rfl)
  | 9, _ => exact (gT0_tb 305 (by decide +kernel) rfl)
  | 10, _ => exact (gT0_tb 307 (by decide +kernel) rfl)
set_option maxRecDepth 20000 in
theorem inX12 : ∀ w ∈ u_ws RX12 TX12 47, w ∈ gT0 := by
  intro w hw
  obtain ⟨k, hk, rfl⟩ := List.mem_map.mp hw
  have hk := List.mem_range.mp hk
  match k, hk with
  | 0, _ => exact (gT0_tb 918 (by decide +kernel) rfl)
  | 1, _ => exact (gT0_tb 920 (by decide +kernel) rfl)
  | 2, _ => exact (gT0_tb 922 (by decide +kernel) rfl)
  | 3, _ => exact (gT0_tb 924 (by decide +kernel) rfl)
  | 4, _ => exact (gT0_tb 926 (by decide +kernel) rfl)
  | 5, _ => exact (gT0_tb 928 (by decide +kernel) rfl)
  | 6, _ => exact (gT0_tb 930 (by decide +kernel) rfl)
  | 7, _ => exact (gT0_tb 932 (by decide +kernel) rfl)
  | 8, _ => exact (gT0_tb 934 (by decide +kernel) rfl)
  | 9, _ => exact (gT0_tb 936 (by decide +kernel) rfl)
  | 10, _ => exact (gT0_tb 938 (by decide +kernel) rfl)
  | 11, _ => exact (gT0_tb 940 (by decide +kernel) rfl)
  | 12, _ => exact (gT0_tb 942 (by decide +kernel) rfl)
  | 13, _ => exact (gT0_tb 944 (by decide +kernel) rfl)
  | 14, _ => exact (gT0_tb 946 (by decide +kernel) rfl)
  | 15, _ => exact (gT0_tb 948 (by decide +kernel) rfl)
  | 16, _ => exact (gT0_tb 950 (by decide +kernel) rfl)
  | 17, _ => exact (gT0_tb 952 (by decide +kernel) rfl)
  | 18, _ => exact (gT0_tb 954 (by decide +kernel) rfl)
  | 19, _ => exact (gT0_tb 956 (by decide +kernel) rfl)
  | 20, _ => exact (gT0_tb 958 (by decide +kernel) rfl)
  | 21, _ => exact (gT0_tb 960 (by decide +kernel) rfl)
  | 22, _ => exact (gT0_tb 962 (by decide +kernel) rfl)
  | 23, _ => exact (gT0_tb 964 (by decide +kernel) rfl)
  | 24, _ => exact (gT0_tb 966 (by decide +kernel) rfl)
  | 25, _ => exact (gT0_tb 968 (by decide +kernel) rfl)
  | 26, _ => exact (gT0_tb 970 (by decide +kernel) rfl)
  | 27, _ => exact (gT0_tb 972 (by decide +kernel) rfl)
  | 28, _ => exact (gT0_tb 974 (by decide +kernel) rfl)
  | 29, _ => exact (gT0_tb 976 (by decide +kernel) rfl)
  | 30, _ => exact (gT0_tb 978 (by decide +kernel) rfl)
  | 31, _ => exact (gT0_tb 980 (by decide +kernel) rfl)
  | 32, _ => exact (gT0_tb 982 (by decide +kernel) rfl)
  | 33, _ => exact (gT0_tb 984 (by decide +kernel) rfl)
  | 34, _ => exact (gT0_tb 986 (by decide +kernel) rfl)
  | 35, _ => exact (gT0_tb 988 (by decide +kernel) rfl)
  | 36, _ => exact (gT0_tb 990 (by decide +kernel) rfl)
  | 37, _ => exact (gT0_tb 992 (by decide +kernel) rfl)
  | 38, _ => exact (gT0_tb 994 (by decide +kernel) rfl)
  | 39, _ => exact (gT0_tb 996 (by decide +kernel) rfl)
  | 40, _ => exact (gT0_tb 998 (by decide +kernel) rfl)
  | 41, _ => exact (gT0_tb 1000 (by decide +kernel) rfl)
  | 42, _ => exact (gT0_tb 1002 (by decide +kernel) rfl)
  | 43, _ => exact (gT0_tb 1004 (by decide +kernel) rfl)
  | 44, _ => exact (gT0_tb 1006 (by decide +kernel) rfl)
  | 45, _ => exact (gT0_tb 1008 (by decide +kernel) rfl)
  | 46, _ => exact (gT0_tb 1010 (by decide +kernel) rfl)
  | k + 47, hk => exact absurd hk (by omega)
theorem oiX0_1 : Cond.methodLink RX0 1 Lib.objectInit ∈ gT0 := (gT0_tb 136 (by decide +kernel) rfl)
theorem lpX0_7 : gLp RX0 7 0 0 (.array .long) false := ⟨RX0, TX0, 5, tyX0, rfl, by decide, inX0, tyX0_ok, nmX0, rfl, tyX0_ok 0 (by decide), rfl, (gT0_tb 137 (by decide +kernel) rfl)⟩
theorem lpX0_13 : gLp RX0 13 0 1 (.int) false := ⟨RX0, TX0, 5, tyX0, rfl, by decide, inX0, tyX0_ok, nmX0, rfl, tyX0_ok 1 (by decide), rfl, (gT0_tb 138 (by decide +kernel) rfl)⟩
theorem lpX0_17 : gLp RX0 17 0 2 (.int) false := ⟨RX0, TX0, 5, tyX0, rfl, by decide, inX0, tyX0_ok, nmX0, rfl, tyX0_ok 2 (by decide), rfl, (gT0_tb 139 (by decide +kernel) rfl)⟩
theorem lkX0_13 : gLk RX0 13 0 1 := ⟨RX0, TX0, 5, rfl, by decide, inX0, Or.inl (gT0_tb 138 (by decide +kernel) rfl)⟩
theorem lkX0_17 : gLk RX0 17 0 2 := ⟨RX0, TX0, 5, rfl, by decide, inX0, Or.inl (gT0_tb 139 (by decide +kernel) rfl)⟩
theorem lpX0_20 : gLp RX0 20 0 3 (.int) false := ⟨RX0, TX0, 5, tyX0, rfl, by decide, inX0, tyX0_ok, nmX0, rfl, tyX0_ok 3 (by decide), rfl, (gT0_tb 140 (by decide +kernel) rfl)⟩
theorem lpX0_23 : gLp RX0 23 0 4 (.int) false := ⟨RX0, TX0, 5, tyX0, rfl, by decide, inX0, tyX0_ok, nmX0, rfl, tyX0_ok 4 (by decide), rfl, (gT0_tb 141 (by decide +kernel) rfl)⟩
theorem lkX0_20 : gLk RX0 20 0 3 := ⟨RX0, TX0, 5, rfl, by decide, inX0, Or.inl (gT0_tb 140 (by decide +kernel) rfl)⟩
theorem lkX0_7 : gLk RX0 7 0 0 := ⟨RX0, TX0, 5, rfl, by decide, inX0, Or.inl (gT0_tb 137 (by decide +kernel) rfl)⟩
set_option maxRecDepth 100000 in
theorem slX0_26 : gSl RX0 26 yJ9_max_7cf53 cJ9_max_7cf53 2 (some .int) 2 := ⟨⟨Or.inl (gT0_tb 434 (by decide +kernel) rfl), (gT0_tb 4 (by decide +kernel) rfl), (gT0_tb 51 rfl rfl), by decide +kernel⟩, (gT0_tb 50 (by decide +kernel) rfl)⟩
theorem lkX0_23 : gLk RX0 23 0 4 := ⟨RX0, TX0, 5, rfl, by decide, inX0, Or.inl (gT0_tb 141 (by decide +kernel) rfl)⟩
set_option maxRecDepth 100000 in
theorem slX0_32 : gSl RX0 32 yJ9_min_7cf53 cJ9_min_7cf53 2 (some .int) 2 := ⟨⟨Or.inl (gT0_tb 503 (by decide +kernel) rfl), (gT0_tb 4 (by decide +kernel) rfl), (gT0_tb 407 rfl rfl), by decide +kernel⟩, (gT0_tb 406 (by decide +kernel) rfl)⟩
set_option maxRecDepth 100000 in
theorem slX0_35 : gVl RX0 35 yX0_has cX0_has 2 (some .boolean) 1 := ⟨⟨Or.inl (gT0_tb 671 (by decide +kernel) rfl), (gT0_tb 7 (by decide +kernel) rfl), (gT0_tb 662 rfl rfl), by decide +kernel⟩, (gT0_tb 660 (by decide +kernel) rfl), (gT0_tb 661 (by decide +kernel) rfl)⟩
set_option maxRecDepth 100000 in
theorem slX0_39 : gVl RX0 39 yX0_hasCell cX0_hasCell 3 (some .boolean) 2 := ⟨⟨Or.inl (gT0_tb 672 (by decide +kernel) rfl), (gT0_tb 7 (by decide +kernel) rfl), (gT0_tb 666 rfl rfl), by decide +kernel⟩, (gT0_tb 664 (by decide +kernel) rfl), (gT0_tb 665 (by decide +kernel) rfl)⟩
theorem oiX1_3 : Cond.methodLink RX1 3 Lib.objectInit ∈ gT0 := (gT0_tb 260 (by decide +kernel) rfl)
theorem clX1_9 : Cond.classLink RX1 9 RX2 ∈ gT0 := (gT0_tb 261 (by decide +kernel) rfl)
theorem lpX1_11 : gLp RX1 11 1 0 (.array (.object "ExactTests$Fraction")) true := ⟨RX1, TX1, 4, tyX1, rfl, by decide, inX1, tyX1_ok, nmX1, rfl, tyX1_ok 0 (by decide), rfl, (gT0_tb 263 (by decide +kernel) rfl)⟩
theorem lpX1_17 : gLp RX1 17 1 1 (.array .int) true := ⟨RX1, TX1, 4, tyX1, rfl, by decide, inX1, tyX1_ok, nmX1, rfl, tyX1_ok 1 (by decide), rfl, (gT0_tb 264 (by decide +kernel) rfl)⟩
theorem lpX1_21 : gLp RX1 21 1 2 (.object "ExactTests$Scale") true := ⟨RX1, TX1, 4, tyX1, rfl, by decide, inX1, tyX1_ok, nmX1, rfl, tyX1_ok 2 (by decide), rfl, (gT0_tb 265 (by decide +kernel) rfl)⟩
theorem lkX1_11 : gLk RX1 11 1 0 := ⟨RX1, TX1, 4, rfl, by decide, inX1, Or.inl (gT0_tb 263 (by decide +kernel) rfl)⟩
set_option maxRecDepth 100000 in
theorem slX1_25 : gIl RX1 25 yX2_init cX2_init 1 0 := ⟨⟨Or.inr ⟨"ExactTests", by decide +kernel⟩, (gT0_tb 11 (by decide +kernel) rfl), (gT0_tb 211 rfl rfl), by decide +kernel⟩, rfl, (gT0_tb 210 (by decide +kernel) rfl)⟩
theorem lkX1_26 : gLk RX1 26 1 3 := ⟨RX1, TX1, 4, rfl, by decide, inX1, Or.inl (gT0_tb 266 (by decide +kernel) rfl)⟩
theorem lpX1_26 : gLp RX1 26 1 3 (.int) false := ⟨RX1, TX1, 4, tyX1, rfl, by decide, inX1, tyX1_ok, nmX1, rfl, tyX1_ok 3 (by decide), rfl, (gT0_tb 266 (by decide +kernel) rfl)⟩
set_option maxRecDepth 100000 in
theorem slX1_30 : gVl RX1 30 yX1_isFull cX1_isFull 1 (some .boolean) 0 := ⟨⟨Or.inl (gT0_tb 784 (by decide +kernel) rfl), (gT0_tb 13 (by decide +kernel) rfl), (gT0_tb 779 rfl rfl), by decide +kernel⟩, (gT0_tb 777 (by decide +kernel) rfl), (gT0_tb 778 (by decide +kernel) rfl)⟩
set_option maxRecDepth 100000 in
theorem slX1_34 : gVl RX1 34 yX2_copy cX2_copy 2 none 1 := ⟨⟨Or.inl (gT0_tb 785 (by decide +kernel) rfl), (gT0_tb 11 (by decide +kernel) rfl), (gT0_tb 788 rfl rfl), by decide +kernel⟩, (gT0_tb 786 (by decide +kernel) rfl), (gT0_tb 787 (by decide +kernel) rfl)⟩
theorem lkX1_21 : gLk RX1 21 1 2 := ⟨RX1, TX1, 4, rfl, by decide, inX1, Or.inl (gT0_tb 265 (by decide +kernel) rfl)⟩
theorem lkX1_17 : gLk RX1 17 1 1 := ⟨RX1, TX1, 4, rfl, by decide, inX1, Or.inl (gT0_tb 264 (by decide +kernel) rfl)⟩
set_option maxRecDepth 100000 in
theorem slX1_38 : gVl RX1 38 yX7_compareChances cX7_compareChances 3 (some .int) 2 := ⟨⟨Or.inl (gT0_tb 789 (by decide +kernel) rfl), (gT0_tb 12 (by decide +kernel) rfl), (gT0_tb 792 rfl rfl), by decide +kernel⟩, (gT0_tb 790 (by decide +kernel) rfl), (gT0_tb 791 (by decide +kernel) rfl)⟩
set_option maxRecDepth 100000 in
theorem slX1_44 : gVl RX1 44 yX7_compareToLevel cX7_compareToLevel 6 (some .int) 3 := ⟨⟨Or.inl (gT0_tb 805 (by decide +kernel) rfl), (gT0_tb 12 (by decide +kernel) rfl), (gT0_tb 747 rfl rfl), by decide +kernel⟩, (gT0_tb 745 (by decide +kernel) rfl), (gT0_tb 746 (by decide +kernel) rfl)⟩
theorem oiX2_1 : Cond.methodLink RX2 1 Lib.objectInit ∈ gT0 := (gT0_tb 212 (by decide +kernel) rfl)
theorem clX2_7 : Cond.classLink RX2 7 RX10 ∈ gT0 := (gT0_tb 213 (by decide +kernel) rfl)
set_option maxRecDepth 100000 in
theorem slX2_9 : gIl RX2 9 yX10_init cX10_init 1 0 := ⟨⟨Or.inr ⟨"ExactTests", by decide +kernel⟩, (gT0_tb 6 (by decide +kernel) rfl), (gT0_tb 70 rfl rfl), by decide +kernel⟩, rfl, (gT0_tb 69 (by decide +kernel) rfl)⟩
theorem lpX2_10 : gLp RX2 10 2 0 (.object "ExactTests$Whole") true := ⟨RX2, TX2, 2, tyX2, rfl, by decide, inX2, tyX2_ok, nmX2, rfl, tyX2_ok 0 (by decide), rfl, (gT0_tb 215 (by decide +kernel) rfl)⟩
theorem lpX2_16 : gLp RX2 16 2 1 (.object "ExactTests$Whole") true := ⟨RX2, TX2, 2, tyX2, rfl, by decide, inX2, tyX2_ok, nmX2, rfl, tyX2_ok 1 (by decide), rfl, (gT0_tb 217 (by decide +kernel) rfl)⟩
theorem lkX2_10 : gLk RX2 10 2 0 := ⟨RX2, TX2, 2, rfl, by decide, inX2, Or.inl (gT0_tb 215 (by decide +kernel) rfl)⟩
set_option maxRecDepth 100000 in
theorem slX2_19 : gVl RX2 19 yX10_copy cX10_copy 3 none 1 := ⟨⟨Or.inl (gT0_tb 516 (by decide +kernel) rfl), (gT0_tb 6 (by decide +kernel) rfl), (gT0_tb 461 rfl rfl), by decide +kernel⟩, (gT0_tb 459 (by decide +kernel) rfl), (gT0_tb 460 (by decide +kernel) rfl)⟩
theorem lkX2_16 : gLk RX2 16 2 1 := ⟨RX2, TX2, 2, rfl, by decide, inX2, Or.inl (gT0_tb 217 (by decide +kernel) rfl)⟩
set_option maxRecDepth 100000 in
theorem slX2_23 : gVl RX2 23 yX2_reduce cX2_reduce 4 none 0 := ⟨⟨Or.inl (gT0_tb 517 (by decide +kernel) rfl), (gT0_tb 11 (by decide +kernel) rfl), (gT0_tb 520 rfl rfl), by decide +kernel⟩, (gT0_tb 519 (by decide +kernel) rfl), (gT0_sl 13 (by decide +kernel) rfl)⟩
set_option maxRecDepth 100000 in
theorem slX2_26 : gVl RX2 26 yX10_set cX10_set 3 none 1 := ⟨⟨Or.inl (gT0_tb 623 (by decide +kernel) rfl), (gT0_tb 6 (by decide +kernel) rfl), (gT0_tb 447 rfl rfl), by decide +kernel⟩, (gT0_tb 445 (by decide +kernel) rfl), (gT0_tb 446 (by decide +kernel) rfl)⟩
set_option maxRecDepth 100000 in
theorem slX2_30 : gVl RX2 30 yX10_countWords cX10_countWords 1 (some .int) 0 := ⟨⟨Or.inl (gT0_tb 831 (by decide +kernel) rfl), (gT0_tb 6 (by decide +kernel) rfl), (gT0_tb 834 rfl rfl), by decide +kernel⟩, (gT0_tb 832 (by decide +kernel) rfl), (gT0_tb 833 (by decide +kernel) rfl)⟩
set_option maxRecDepth 100000 in
theorem slX2_34 : gVl RX2 34 yX10_sixteenBits cX10_sixteenBits 3 (some .int) 1 := ⟨⟨Or.inl (gT0_tb 841 (by decide +kernel) rfl), (gT0_tb 6 (by decide +kernel) rfl), (gT0_tb 715 rfl rfl), by decide +kernel⟩, (gT0_tb 713 (by decide +kernel) rfl), (gT0_tb 714 (by decide +kernel) rfl)⟩
theorem stX2_38 : Cond.fieldLink RX2 38 "ExactTests$Fraction" "PRIMES" "[I" ∈ gT0 := (gT0_tb 521 (by decide +kernel) rfl)
set_option maxRecDepth 100000 in
theorem slX2_42 : gVl RX2 42 yX2_isCommon cX2_isCommon 2 (some .boolean) 1 := ⟨⟨Or.inl (gT0_tb 523 (by decide +kernel) rfl), (gT0_tb 11 (by decide +kernel) rfl), (gT0_tb 526 rfl rfl), by decide +kernel⟩, (gT0_tb 525 (by decide +kernel) rfl), (gT0_sl 14 (by decide +kernel) rfl)⟩
set_option maxRecDepth 100000 in
theorem slX2_46 : gVl RX2 46 yX10_divide cX10_divide 7 none 1 := ⟨⟨Or.inl (gT0_tb 531 (by decide +kernel) rfl), (gT0_tb 6 (by decide +kernel) rfl), (gT0_tb 534 rfl rfl), by decide +kernel⟩, (gT0_tb 532 (by decide +kernel) rfl), (gT0_tb 533 (by decide +kernel) rfl)⟩
set_option maxRecDepth 100000 in
theorem slX2_50 : gVl RX2 50 yX10_remainder cX10_remainder 5 (some .int) 1 := ⟨⟨Or.inl (gT0_tb 527 (by decide +kernel) rfl), (gT0_tb 6 (by decide +kernel) rfl), (gT0_tb 530 rfl rfl), by decide +kernel⟩, (gT0_tb 528 (by decide +kernel) rfl), (gT0_tb 529 (by decide +kernel) rfl)⟩
theorem oiX3_3 : Cond.methodLink RX3 3 Lib.objectInit ∈ gT0 := (gT0_tb 31 (by decide +kernel) rfl)
theorem lpX3_9 : gLp RX3 9 3 0 (.array .int) true := ⟨RX3, TX3, 3, tyX3, rfl, by decide, inX3, tyX3_ok, nmX3, rfl, tyX3_ok 0 (by decide), rfl, (gT0_tb 32 (by decide +kernel) rfl)⟩
theorem lpX3_15 : gLp RX3 15 3 1 (.int) false := ⟨RX3, TX3, 3, tyX3, rfl, by decide, inX3, tyX3_ok, nmX3, rfl, tyX3_ok 1 (by decide), rfl, (gT0_tb 33 (by decide +kernel) rfl)⟩
theorem lpX3_19 : gLp RX3 19 3 2 (.int) false := ⟨RX3, TX3, 3, tyX3, rfl, by decide, inX3, tyX3_ok, nmX3, rfl, tyX3_ok 2 (by decide), rfl, (gT0_tb 34 (by decide +kernel) rfl)⟩
theorem lkX3_9 : gLk RX3 9 3 0 := ⟨RX3, TX3, 3, rfl, by decide, inX3, Or.inl (gT0_tb 32 (by decide +kernel) rfl)⟩
theorem lkX3_15 : gLk RX3 15 3 1 := ⟨RX3, TX3, 3, rfl, by decide, inX3, Or.inl (gT0_tb 33 (by decide +kernel) rfl)⟩
theorem lkX3_19 : gLk RX3 19 3 2 := ⟨RX3, TX3, 3, rfl, by decide, inX3, Or.inl (gT0_tb 34 (by decide +kernel) rfl)⟩
set_option maxRecDepth 100000 in
theorem slX3_22 : gVl RX3 22 yX3_hasRow cX3_hasRow 2 (some .boolean) 1 := ⟨⟨Or.inl (gT0_tb 337 (by decide +kernel) rfl), (gT0_tb 2 (by decide +kernel) rfl), (gT0_tb 328 rfl rfl), by decide +kernel⟩, (gT0_tb 326 (by decide +kernel) rfl), (gT0_tb 327 (by decide +kernel) rfl)⟩
set_option maxRecDepth 100000 in
theorem slX3_26 : gVl RX3 26 yX3_hasColumn cX3_hasColumn 2 (some .boolean) 1 := ⟨⟨Or.inl (gT0_tb 338 (by decide +kernel) rfl), (gT0_tb 2 (by decide +kernel) rfl), (gT0_tb 332 rfl rfl), by decide +kernel⟩, (gT0_tb 330 (by decide +kernel) rfl), (gT0_tb 331 (by decide +kernel) rfl)⟩
set_option maxRecDepth 100000 in
theorem slX3_29 : gVl RX3 29 yX3_at cX3_at 3 (some .int) 2 := ⟨⟨Or.inl (gT0_tb 355 (by decide +kernel) rfl), (gT0_tb 2 (by decide +kernel) rfl), (gT0_tb 336 rfl rfl), by decide +kernel⟩, (gT0_tb 334 (by decide +kernel) rfl), (gT0_tb 335 (by decide +kernel) rfl)⟩
theorem oiX4_1 : Cond.methodLink RX4 1 Lib.objectInit ∈ gT0 := (gT0_tb 164 (by decide +kernel) rfl)
theorem lpX4_7 : gLp RX4 7 4 0 (.array .int) false := ⟨RX4, TX4, 3, tyX4, rfl, by decide, inX4, tyX4_ok, nmX4, rfl, tyX4_ok 0 (by decide), rfl, (gT0_tb 165 (by decide +kernel) rfl)⟩
theorem lpX4_13 : gLp RX4 13 4 1 (.array .int) false := ⟨RX4, TX4, 3, tyX4, rfl, by decide, inX4, tyX4_ok, nmX4, rfl, tyX4_ok 1 (by decide), rfl, (gT0_tb 167 (by decide +kernel) rfl)⟩
theorem lkX4_7 : gLk RX4 7 4 0 := ⟨RX4, TX4, 3, rfl, by decide, inX4, Or.inl (gT0_tb 165 (by decide +kernel) rfl)⟩
theorem lkX4_13 : gLk RX4 13 4 1 := ⟨RX4, TX4, 3, rfl, by decide, inX4, Or.inl (gT0_tb 167 (by decide +kernel) rfl)⟩
theorem lpX4_16 : gLp RX4 16 4 2 (.int) false := ⟨RX4, TX4, 3, tyX4, rfl, by decide, inX4, tyX4_ok, nmX4, rfl, tyX4_ok 2 (by decide), rfl, (gT0_tb 169 (by decide +kernel) rfl)⟩
theorem lkX4_16 : gLk RX4 16 4 2 := ⟨RX4, TX4, 3, rfl, by decide, inX4, Or.inl (gT0_tb 169 (by decide +kernel) rfl)⟩
theorem kcX4_20 : Cond.constant RX4 20 (32768) ∈ gT0 := (gT0_tb 593 (by decide +kernel) rfl)
set_option maxRecDepth 100000 in
theorem slX4_21 : gVl RX4 21 yX4_makeRoom cX4_makeRoom 5 none 1 := ⟨⟨Or.inl (gT0_tb 594 (by decide +kernel) rfl), (gT0_tb 9 (by decide +kernel) rfl), (gT0_tb 597 rfl rfl), by decide +kernel⟩, (gT0_tb 596 (by decide +kernel) rfl), (gT0_sl 18 (by decide +kernel) rfl)⟩
theorem oiX4_25 : Cond.methodLink RX4 25 arraycopyName ∈ gT0 := (gT0_tb 600 (by decide +kernel) rfl)
set_option maxRecDepth 100000 in
theorem slX4_31 : gSl RX4 31 yJ9_min_7cf53 cJ9_min_7cf53 2 (some .int) 2 := ⟨⟨Or.inl (gT0_tb 598 (by decide +kernel) rfl), (gT0_tb 4 (by decide +kernel) rfl), (gT0_tb 407 rfl rfl), by decide +kernel⟩, (gT0_tb 406 (by decide +kernel) rfl)⟩
set_option maxRecDepth 100000 in
theorem slX4_37 : gSl RX4 37 yJ9_max_7cf53 cJ9_max_7cf53 2 (some .int) 2 := ⟨⟨Or.inl (gT0_tb 599 (by decide +kernel) rfl), (gT0_tb 4 (by decide +kernel) rfl), (gT0_tb 51 rfl rfl), by decide +kernel⟩, (gT0_tb 50 (by decide +kernel) rfl)⟩
theorem oiX5_1 : Cond.methodLink RX5 1 Lib.objectInit ∈ gT0 := (gT0_tb 48 (by decide +kernel) rfl)
set_option maxRecDepth 100000 in
theorem slX5_7 : gSl RX5 7 yJ9_max_7cf53 cJ9_max_7cf53 2 (some .int) 2 := ⟨⟨Or.inl (gT0_tb 49 (by decide +kernel) rfl), (gT0_tb 4 (by decide +kernel) rfl), (gT0_tb 51 rfl rfl), by decide +kernel⟩, (gT0_tb 50 (by decide +kernel) rfl)⟩
theorem lpX5_13 : gLp RX5 13 5 0 (.array .int) true := ⟨RX5, TX5, 2, tyX5, rfl, by decide, inX5, tyX5_ok, nmX5, rfl, tyX5_ok 0 (by decide), rfl, (gT0_tb 52 (by decide +kernel) rfl)⟩
theorem lkX5_19 : gLk RX5 19 5 1 := ⟨RX5, TX5, 2, rfl, by decide, inX5, Or.inl (gT0_tb 53 (by decide +kernel) rfl)⟩
theorem lkX5_13 : gLk RX5 13 5 0 := ⟨RX5, TX5, 2, rfl, by decide, inX5, Or.inl (gT0_tb 52 (by decide +kernel) rfl)⟩
set_option maxRecDepth 100000 in
theorem slX5_23 : gVl RX5 23 yX5_has cX5_has 2 (some .boolean) 1 := ⟨⟨Or.inl (gT0_tb 566 (by decide +kernel) rfl), (gT0_tb 3 (by decide +kernel) rfl), (gT0_tb 569 rfl rfl), by decide +kernel⟩, (gT0_tb 567 (by decide +kernel) rfl), (gT0_tb 568 (by decide +kernel) rfl)⟩
set_option maxRecDepth 100000 in
theorem slX5_27 : gVl RX5 27 yX5_isFull cX5_isFull 1 (some .boolean) 0 := ⟨⟨Or.inl (gT0_tb 372 (by decide +kernel) rfl), (gT0_tb 3 (by decide +kernel) rfl), (gT0_tb 367 rfl rfl), by decide +kernel⟩, (gT0_tb 365 (by decide +kernel) rfl), (gT0_tb 366 (by decide +kernel) rfl)⟩
theorem lpX5_19 : gLp RX5 19 5 1 (.int) false := ⟨RX5, TX5, 2, tyX5, rfl, by decide, inX5, tyX5_ok, nmX5, rfl, tyX5_ok 1 (by decide), rfl, (gT0_tb 53 (by decide +kernel) rfl)⟩
theorem oiX6_3 : Cond.methodLink RX6 3 Lib.objectInit ∈ gT0 := (gT0_tb 205 (by decide +kernel) rfl)
theorem clX6_9 : Cond.classLink RX6 9 RX2 ∈ gT0 := (gT0_tb 206 (by decide +kernel) rfl)
theorem lpX6_11 : gLp RX6 11 6 0 (.array (.object "ExactTests$Fraction")) true := ⟨RX6, TX6, 5, tyX6, rfl, by decide, inX6, tyX6_ok, nmX6, rfl, tyX6_ok 0 (by decide), rfl, (gT0_tb 224 (by decide +kernel) rfl)⟩
theorem lkX6_11 : gLk RX6 11 6 0 := ⟨RX6, TX6, 5, rfl, by decide, inX6, Or.inl (gT0_tb 224 (by decide +kernel) rfl)⟩
set_option maxRecDepth 100000 in
theorem slX6_17 : gIl RX6 17 yX2_init cX2_init 1 0 := ⟨⟨Or.inr ⟨"ExactTests", by decide +kernel⟩, (gT0_tb 11 (by decide +kernel) rfl), (gT0_tb 211 rfl rfl), by decide +kernel⟩, rfl, (gT0_tb 210 (by decide +kernel) rfl)⟩
theorem lpX6_18 : gLp RX6 18 6 1 (.boolean) false := ⟨RX6, TX6, 5, tyX6, rfl, by decide, inX6, tyX6_ok, nmX6, rfl, tyX6_ok 1 (by decide), rfl, (gT0_tb 225 (by decide +kernel) rfl)⟩
theorem lpX6_22 : gLp RX6 22 6 2 (.int) false := ⟨RX6, TX6, 5, tyX6, rfl, by decide, inX6, tyX6_ok, nmX6, rfl, tyX6_ok 2 (by decide), rfl, (gT0_tb 226 (by decide +kernel) rfl)⟩
theorem lpX6_26 : gLp RX6 26 6 3 (.int) false := ⟨RX6, TX6, 5, tyX6, rfl, by decide, inX6, tyX6_ok, nmX6, rfl, tyX6_ok 3 (by decide), rfl, (gT0_tb 227 (by decide +kernel) rfl)⟩
theorem lpX6_29 : gLp RX6 29 6 4 (.int) false := ⟨RX6, TX6, 5, tyX6, rfl, by decide, inX6, tyX6_ok, nmX6, rfl, tyX6_ok 4 (by decide), rfl, (gT0_tb 228 (by decide +kernel) rfl)⟩
theorem lkX6_18 : gLk RX6 18 6 1 := ⟨RX6, TX6, 5, rfl, by decide, inX6, Or.inl (gT0_tb 225 (by decide +kernel) rfl)⟩
theorem lkX6_22 : gLk RX6 22 6 2 := ⟨RX6, TX6, 5, rfl, by decide, inX6, Or.inl (gT0_tb 226 (by decide +kernel) rfl)⟩
theorem lkX6_26 : gLk RX6 26 6 3 := ⟨RX6, TX6, 5, rfl, by decide, inX6, Or.inl (gT0_tb 227 (by decide +kernel) rfl)⟩
theorem lkX6_29 : gLk RX6 29 6 4 := ⟨RX6, TX6, 5, rfl, by decide, inX6, Or.inl (gT0_tb 228 (by decide +kernel) rfl)⟩
theorem oiX7_1 : Cond.methodLink RX7 1 Lib.objectInit ∈ gT0 := (gT0_tb 245 (by decide +kernel) rfl)
theorem clX7_7 : Cond.classLink RX7 7 RX10 ∈ gT0 := (gT0_tb 246 (by decide +kernel) rfl)
set_option maxRecDepth 100000 in
theorem slX7_9 : gIl RX7 9 yX10_init cX10_init 1 0 := ⟨⟨Or.inr ⟨"ExactTests", by decide +kernel⟩, (gT0_tb 6 (by decide +kernel) rfl), (gT0_tb 70 rfl rfl), by decide +kernel⟩, rfl, (gT0_tb 69 (by decide +kernel) rfl)⟩
theorem lpX7_10 : gLp RX7 10 7 0 (.object "ExactTests$Whole") true := ⟨RX7, TX7, 2, tyX7, rfl, by decide, inX7, tyX7_ok, nmX7, rfl, tyX7_ok 0 (by decide), rfl, (gT0_tb 248 (by decide +kernel) rfl)⟩
theorem lpX7_16 : gLp RX7 16 7 1 (.object "ExactTests$Whole") true := ⟨RX7, TX7, 2, tyX7, rfl, by decide, inX7, tyX7_ok, nmX7, rfl, tyX7_ok 1 (by decide), rfl, (gT0_tb 249 (by decide +kernel) rfl)⟩
theorem lkX7_10 : gLk RX7 10 7 0 := ⟨RX7, TX7, 2, rfl, by decide, inX7, Or.inl (gT0_tb 248 (by decide +kernel) rfl)⟩
theorem lkX7_19 : gLk RX7 19 2 0 := ⟨RX2, TX2, 2, rfl, by decide, inX2, Or.inr ⟨_, (by decide +kernel : Cond.fieldLinkNest "ExactTests$Scale" 19 "ExactTests$Fraction" "upper" "LExactTests$Whole;" "ExactTests" ∈ gN)⟩⟩
theorem lkX7_24 : gLk RX7 24 2 1 := ⟨RX2, TX2, 2, rfl, by decide, inX2, Or.inr ⟨_, (by decide +kernel : Cond.fieldLinkNest "ExactTests$Scale" 24 "ExactTests$Fraction" "lower" "LExactTests$Whole;" "ExactTests" ∈ gN)⟩⟩
set_option maxRecDepth 100000 in
theorem slX7_27 : gVl RX7 27 yX10_setProductOf cX10_setProductOf 4 none 2 := ⟨⟨Or.inl (gT0_tb 793 (by decide +kernel) rfl), (gT0_tb 6 (by decide +kernel) rfl), (gT0_tb 796 rfl rfl), by decide +kernel⟩, (gT0_tb 794 (by decide +kernel) rfl), (gT0_tb 795 (by decide +kernel) rfl)⟩
theorem lkX7_16 : gLk RX7 16 7 1 := ⟨RX7, TX7, 2, rfl, by decide, inX7, Or.inl (gT0_tb 249 (by decide +kernel) rfl)⟩
set_option maxRecDepth 100000 in
theorem slX7_31 : gVl RX7 31 yX10_compare cX10_compare 3 (some .int) 1 := ⟨⟨Or.inl (gT0_tb 729 (by decide +kernel) rfl), (gT0_tb 6 (by decide +kernel) rfl), (gT0_tb 493 rfl rfl), by decide +kernel⟩, (gT0_tb 491 (by decide +kernel) rfl), (gT0_tb 492 (by decide +kernel) rfl)⟩
set_option maxRecDepth 100000 in
theorem slX7_35 : gVl RX7 35 yX10_setProduct cX10_setProduct 6 none 2 := ⟨⟨Or.inl (gT0_tb 735 (by decide +kernel) rfl), (gT0_tb 6 (by decide +kernel) rfl), (gT0_tb 469 rfl rfl), by decide +kernel⟩, (gT0_tb 467 (by decide +kernel) rfl), (gT0_tb 468 (by decide +kernel) rfl)⟩
set_option maxRecDepth 100000 in
theorem slX7_39 : gVl RX7 39 yX10_copy cX10_copy 3 none 1 := ⟨⟨Or.inl (gT0_tb 725 (by decide +kernel) rfl), (gT0_tb 6 (by decide +kernel) rfl), (gT0_tb 461 rfl rfl), by decide +kernel⟩, (gT0_tb 459 (by decide +kernel) rfl), (gT0_tb 460 (by decide +kernel) rfl)⟩
set_option maxRecDepth 100000 in
theorem slX7_43 : gSl RX7 43 yX7_takeOut cX7_takeOut 3 (some .int) 2 := ⟨⟨Or.inl (gT0_tb 726 (by decide +kernel) rfl), (gT0_tb 12 (by decide +kernel) rfl), (gT0_tb 728 rfl rfl), by decide +kernel⟩, (gT0_tb 727 (by decide +kernel) rfl)⟩
theorem kcX7_47 : Cond.constantLong RX7 47 (10) ∈ gT0 := (gT0_tb 734 (by decide +kernel) rfl)
set_option maxRecDepth 100000 in
theorem slX7_49 : gVl RX7 49 yX10_subtract cX10_subtract 7 none 1 := ⟨⟨Or.inl (gT0_tb 730 (by decide +kernel) rfl), (gT0_tb 6 (by decide +kernel) rfl), (gT0_tb 733 rfl rfl), by decide +kernel⟩, (gT0_tb 731 (by decide +kernel) rfl), (gT0_tb 732 (by decide +kernel) rfl)⟩
theorem oiX8_1 : Cond.methodLink RX8 1 Lib.objectInit ∈ gT0 := (gT0_tb 158 (by decide +kernel) rfl)
theorem clX8_7 : Cond.classLink RX8 7 RX4 ∈ gT0 := (gT0_tb 159 (by decide +kernel) rfl)
set_option maxRecDepth 100000 in
theorem slX8_9 : gIl RX8 9 yX4_init cX4_init 1 0 := ⟨⟨Or.inr ⟨"ExactTests", by decide +kernel⟩, (gT0_tb 9 (by decide +kernel) rfl), (gT0_tb 163 rfl rfl), by decide +kernel⟩, rfl, (gT0_tb 162 (by decide +kernel) rfl)⟩
theorem lpX8_10 : gLp RX8 10 8 0 (.object "ExactTests$HalfSums") true := ⟨RX8, TX8, 7, tyX8, rfl, by decide, inX8, tyX8_ok, nmX8, rfl, tyX8_ok 0 (by decide), rfl, (gT0_tb 178 (by decide +kernel) rfl)⟩
theorem lpX8_16 : gLp RX8 16 8 1 (.object "ExactTests$HalfSums") true := ⟨RX8, TX8, 7, tyX8, rfl, by decide, inX8, tyX8_ok, nmX8, rfl, tyX8_ok 1 (by decide), rfl, (gT0_tb 179 (by decide +kernel) rfl)⟩
set_option maxRecDepth 100000 in
theorem slX8_19 : gVl RX8 19 yX8_begin cX8_begin 1 none 0 := ⟨⟨Or.inl (gT0_tb 549 (by decide +kernel) rfl), (gT0_tb 8 (by decide +kernel) rfl), (gT0_tb 552 rfl rfl), by decide +kernel⟩, (gT0_tb 551 (by decide +kernel) rfl), (gT0_sl 15 (by decide +kernel) rfl)⟩
theorem kcX8_22 : Cond.constant RX8 22 (131072) ∈ gT0 := (gT0_tb 557 (by decide +kernel) rfl)
theorem lpX8_23 : gLp RX8 23 8 3 (.int) false := ⟨RX8, TX8, 7, tyX8, rfl, by decide, inX8, tyX8_ok, nmX8, rfl, tyX8_ok 3 (by decide), rfl, (gT0_tb 181 (by decide +kernel) rfl)⟩
theorem lpX8_27 : gLp RX8 27 8 4 (.int) false := ⟨RX8, TX8, 7, tyX8, rfl, by decide, inX8, tyX8_ok, nmX8, rfl, tyX8_ok 4 (by decide), rfl, (gT0_tb 182 (by decide +kernel) rfl)⟩
theorem lpX8_30 : gLp RX8 30 8 5 (.long) false := ⟨RX8, TX8, 7, tyX8, rfl, by decide, inX8, tyX8_ok, nmX8, rfl, tyX8_ok 5 (by decide), rfl, (gT0_tb 183 (by decide +kernel) rfl)⟩
theorem lpX8_34 : gLp RX8 34 8 6 (.long) false := ⟨RX8, TX8, 7, tyX8, rfl, by decide, inX8, tyX8_ok, nmX8, rfl, tyX8_ok 6 (by decide), rfl, (gT0_tb 184 (by decide +kernel) rfl)⟩
theorem lkX8_30 : gLk RX8 30 8 5 := ⟨RX8, TX8, 7, rfl, by decide, inX8, Or.inl (gT0_tb 183 (by decide +kernel) rfl)⟩
theorem lkX8_34 : gLk RX8 34 8 6 := ⟨RX8, TX8, 7, rfl, by decide, inX8, Or.inl (gT0_tb 184 (by decide +kernel) rfl)⟩
theorem lkX8_10 : gLk RX8 10 8 0 := ⟨RX8, TX8, 7, rfl, by decide, inX8, Or.inl (gT0_tb 178 (by decide +kernel) rfl)⟩
set_option maxRecDepth 100000 in
theorem slX8_37 : gVl RX8 37 yX4_begin cX4_begin 1 none 0 := ⟨⟨Or.inl (gT0_tb 553 (by decide +kernel) rfl), (gT0_tb 9 (by decide +kernel) rfl), (gT0_tb 556 rfl rfl), by decide +kernel⟩, (gT0_tb 554 (by decide +kernel) rfl), (gT0_tb 555 (by decide +kernel) rfl)⟩
theorem lkX8_16 : gLk RX8 16 8 1 := ⟨RX8, TX8, 7, rfl, by decide, inX8, Or.inl (gT0_tb 179 (by decide +kernel) rfl)⟩
theorem lpX8_38 : gLp RX8 38 8 2 (.boolean) false := ⟨RX8, TX8, 7, tyX8, rfl, by decide, inX8, tyX8_ok, nmX8, rfl, tyX8_ok 2 (by decide), rfl, (gT0_tb 180 (by decide +kernel) rfl)⟩
theorem lkX8_38 : gLk RX8 38 8 2 := ⟨RX8, TX8, 7, rfl, by decide, inX8, Or.inl (gT0_tb 180 (by decide +kernel) rfl)⟩
theorem lkX8_23 : gLk RX8 23 8 3 := ⟨RX8, TX8, 7, rfl, by decide, inX8, Or.inl (gT0_tb 181 (by decide +kernel) rfl)⟩
set_option maxRecDepth 100000 in
theorem slX8_42 : gVl RX8 42 yX4_take cX4_take 10 none 1 := ⟨⟨Or.inl (gT0_tb 589 (by decide +kernel) rfl), (gT0_tb 9 (by decide +kernel) rfl), (gT0_tb 592 rfl rfl), by decide +kernel⟩, (gT0_tb 590 (by decide +kernel) rfl), (gT0_tb 591 (by decide +kernel) rfl)⟩
theorem lkX8_27 : gLk RX8 27 8 4 := ⟨RX8, TX8, 7, rfl, by decide, inX8, Or.inl (gT0_tb 182 (by decide +kernel) rfl)⟩
theorem lkX8_46 : gLk RX8 46 4 2 := ⟨RX4, TX4, 3, rfl, by decide, inX4, Or.inr ⟨_, (by decide +kernel : Cond.fieldLinkNest "ExactTests$Sums" 46 "ExactTests$HalfSums" "size" "I" "ExactTests" ∈ gN)⟩⟩
theorem lkX8_49 : gLk RX8 49 4 1 := ⟨RX4, TX4, 3, rfl, by decide, inX4, Or.inr ⟨_, (by decide +kernel : Cond.fieldLinkNest "ExactTests$Sums" 49 "ExactTests$HalfSums" "times" "[I" "ExactTests" ∈ gN)⟩⟩
theorem lkX8_53 : gLk RX8 53 4 0 := ⟨RX4, TX4, 3, rfl, by decide, inX4, Or.inr ⟨_, (by decide +kernel : Cond.fieldLinkNest "ExactTests$Sums" 53 "ExactTests$HalfSums" "sums" "[I" "ExactTests" ∈ gN)⟩⟩
theorem oiX9_3 : Cond.methodLink RX9 3 Lib.objectInit ∈ gT0 := (gT0_tb 64 (by decide +kernel) rfl)
theorem lpX9_9 : gLp RX9 9 9 0 (.array .long) true := ⟨RX9, TX9, 15, tyX9, rfl, by decide, inX9, tyX9_ok, nmX9, rfl, tyX9_ok 0 (by decide), rfl, (gT0_tb 80 (by decide +kernel) rfl)⟩
theorem lpX9_15 : gLp RX9 15 9 1 (.array .int) true := ⟨RX9, TX9, 15, tyX9, rfl, by decide, inX9, tyX9_ok, nmX9, rfl, tyX9_ok 1 (by decide), rfl, (gT0_tb 81 (by decide +kernel) rfl)⟩
theorem lpX9_19 : gLp RX9 19 9 2 (.array .int) true := ⟨RX9, TX9, 15, tyX9, rfl, by decide, inX9, tyX9_ok, nmX9, rfl, tyX9_ok 2 (by decide), rfl, (gT0_tb 82 (by decide +kernel) rfl)⟩
theorem lpX9_22 : gLp RX9 22 9 3 (.array .int) true := ⟨RX9, TX9, 15, tyX9, rfl, by decide, inX9, tyX9_ok, nmX9, rfl, tyX9_ok 3 (by decide), rfl, (gT0_tb 83 (by decide +kernel) rfl)⟩
theorem clX9_25 : Cond.classLink RX9 25 RX10 ∈ gT0 := (gT0_tb 65 (by decide +kernel) rfl)
theorem lpX9_27 : gLp RX9 27 9 4 (.array (.object "ExactTests$Whole")) true := ⟨RX9, TX9, 15, tyX9, rfl, by decide, inX9, tyX9_ok, nmX9, rfl, tyX9_ok 4 (by decide), rfl, (gT0_tb 84 (by decide +kernel) rfl)⟩
set_option maxRecDepth 100000 in
theorem slX9_31 : gIl RX9 31 yX10_init cX10_init 1 0 := ⟨⟨Or.inr ⟨"ExactTests", by decide +kernel⟩, (gT0_tb 6 (by decide +kernel) rfl), (gT0_tb 70 rfl rfl), by decide +kernel⟩, rfl, (gT0_tb 69 (by decide +kernel) rfl)⟩
theorem lpX9_32 : gLp RX9 32 9 10 (.object "ExactTests$Whole") true := ⟨RX9, TX9, 15, tyX9, rfl, by decide, inX9, tyX9_ok, nmX9, rfl, tyX9_ok 10 (by decide), rfl, (gT0_tb 90 (by decide +kernel) rfl)⟩
theorem lpX9_36 : gLp RX9 36 9 11 (.object "ExactTests$Whole") true := ⟨RX9, TX9, 15, tyX9, rfl, by decide, inX9, tyX9_ok, nmX9, rfl, tyX9_ok 11 (by decide), rfl, (gT0_tb 92 (by decide +kernel) rfl)⟩
theorem lpX9_39 : gLp RX9 39 9 12 (.object "ExactTests$Whole") true := ⟨RX9, TX9, 15, tyX9, rfl, by decide, inX9, tyX9_ok, nmX9, rfl, tyX9_ok 12 (by decide), rfl, (gT0_tb 94 (by decide +kernel) rfl)⟩
theorem lpX9_42 : gLp RX9 42 9 13 (.object "ExactTests$Whole") true := ⟨RX9, TX9, 15, tyX9, rfl, by decide, inX9, tyX9_ok, nmX9, rfl, tyX9_ok 13 (by decide), rfl, (gT0_tb 96 (by decide +kernel) rfl)⟩
theorem lpX9_45 : gLp RX9 45 9 14 (.object "ExactTests$Whole") true := ⟨RX9, TX9, 15, tyX9, rfl, by decide, inX9, tyX9_ok, nmX9, rfl, tyX9_ok 14 (by decide), rfl, (gT0_tb 98 (by decide +kernel) rfl)⟩
theorem lkX9_27 : gLk RX9 27 9 4 := ⟨RX9, TX9, 15, rfl, by decide, inX9, Or.inl (gT0_tb 84 (by decide +kernel) rfl)⟩
theorem lkX9_9 : gLk RX9 9 9 0 := ⟨RX9, TX9, 15, rfl, by decide, inX9, Or.inl (gT0_tb 80 (by decide +kernel) rfl)⟩
set_option maxRecDepth 100000 in
theorem slX9_48 : gVl RX9 48 yX9_begin cX9_begin 3 none 1 := ⟨⟨Or.inl (gT0_tb 397 (by decide +kernel) rfl), (gT0_tb 5 (by decide +kernel) rfl), (gT0_tb 400 rfl rfl), by decide +kernel⟩, (gT0_tb 399 (by decide +kernel) rfl), (gT0_sl 0 (by decide +kernel) rfl)⟩
theorem lpX9_52 : gLp RX9 52 9 8 (.int) false := ⟨RX9, TX9, 15, tyX9, rfl, by decide, inX9, tyX9_ok, nmX9, rfl, tyX9_ok 8 (by decide), rfl, (gT0_tb 88 (by decide +kernel) rfl)⟩
set_option maxRecDepth 100000 in
theorem slX9_56 : gVl RX9 56 yX9_countRow cX9_countRow 2 none 1 := ⟨⟨Or.inl (gT0_tb 415 (by decide +kernel) rfl), (gT0_tb 5 (by decide +kernel) rfl), (gT0_tb 418 rfl rfl), by decide +kernel⟩, (gT0_tb 417 (by decide +kernel) rfl), (gT0_sl 1 (by decide +kernel) rfl)⟩
theorem lkX9_52 : gLk RX9 52 9 8 := ⟨RX9, TX9, 15, rfl, by decide, inX9, Or.inl (gT0_tb 88 (by decide +kernel) rfl)⟩
set_option maxRecDepth 100000 in
theorem slX9_60 : gVl RX9 60 yX3_inAll cX3_inAll 3 (some .int) 0 := ⟨⟨Or.inl (gT0_tb 439 (by decide +kernel) rfl), (gT0_tb 2 (by decide +kernel) rfl), (gT0_tb 342 rfl rfl), by decide +kernel⟩, (gT0_tb 340 (by decide +kernel) rfl), (gT0_tb 341 (by decide +kernel) rfl)⟩
set_option maxRecDepth 100000 in
theorem slX9_66 : gVl RX9 66 yX9_weighAll cX9_weighAll 4 none 1 := ⟨⟨Or.inl (gT0_tb 440 (by decide +kernel) rfl), (gT0_tb 5 (by decide +kernel) rfl), (gT0_tb 443 rfl rfl), by decide +kernel⟩, (gT0_tb 442 (by decide +kernel) rfl), (gT0_sl 4 (by decide +kernel) rfl)⟩
set_option maxRecDepth 100000 in
theorem slX9_69 : gVl RX9 69 yX9_weighSeen cX9_weighSeen 5 none 1 := ⟨⟨Or.inl (gT0_tb 474 (by decide +kernel) rfl), (gT0_tb 5 (by decide +kernel) rfl), (gT0_tb 477 rfl rfl), by decide +kernel⟩, (gT0_tb 476 (by decide +kernel) rfl), (gT0_sl 9 (by decide +kernel) rfl)⟩
theorem lkX9_39 : gLk RX9 39 9 12 := ⟨RX9, TX9, 15, rfl, by decide, inX9, Or.inl (gT0_tb 94 (by decide +kernel) rfl)⟩
set_option maxRecDepth 100000 in
theorem slX9_72 : gVl RX9 72 yX10_set cX10_set 3 none 1 := ⟨⟨Or.inl (gT0_tb 444 (by decide +kernel) rfl), (gT0_tb 6 (by decide +kernel) rfl), (gT0_tb 447 rfl rfl), by decide +kernel⟩, (gT0_tb 445 (by decide +kernel) rfl), (gT0_tb 446 (by decide +kernel) rfl)⟩
theorem lkX9_42 : gLk RX9 42 9 13 := ⟨RX9, TX9, 15, rfl, by decide, inX9, Or.inl (gT0_tb 96 (by decide +kernel) rfl)⟩
theorem lkX9_45 : gLk RX9 45 9 14 := ⟨RX9, TX9, 15, rfl, by decide, inX9, Or.inl (gT0_tb 98 (by decide +kernel) rfl)⟩
theorem lpX9_76 : gLp RX9 76 9 9 (.object "ExactTests$Cases") false := ⟨RX9, TX9, 15, tyX9, rfl, by decide, inX9, tyX9_ok, nmX9, rfl, tyX9_ok 9 (by decide), rfl, (gT0_tb 89 (by decide +kernel) rfl)⟩
set_option maxRecDepth 100000 in
theorem slX9_80 : gVl RX9 80 yX9_fillRow cX9_fillRow 2 none 1 := ⟨⟨Or.inl (gT0_tb 478 (by decide +kernel) rfl), (gT0_tb 5 (by decide +kernel) rfl), (gT0_tb 481 rfl rfl), by decide +kernel⟩, (gT0_tb 480 (by decide +kernel) rfl), (gT0_sl 10 (by decide +kernel) rfl)⟩
set_option maxRecDepth 100000 in
theorem slX9_83 : gVl RX9 83 yX3_rows cX3_rows 1 (some .int) 0 := ⟨⟨Or.inl (gT0_tb 401 (by decide +kernel) rfl), (gT0_tb 2 (by decide +kernel) rfl), (gT0_tb 404 rfl rfl), by decide +kernel⟩, (gT0_tb 402 (by decide +kernel) rfl), (gT0_tb 403 (by decide +kernel) rfl)⟩
set_option maxRecDepth 100000 in
theorem slX9_86 : gSl RX9 86 yJ9_min_7cf53 cJ9_min_7cf53 2 (some .int) 2 := ⟨⟨Or.inl (gT0_tb 405 (by decide +kernel) rfl), (gT0_tb 4 (by decide +kernel) rfl), (gT0_tb 407 rfl rfl), by decide +kernel⟩, (gT0_tb 406 (by decide +kernel) rfl)⟩
theorem lpX9_92 : gLp RX9 92 9 5 (.int) false := ⟨RX9, TX9, 15, tyX9, rfl, by decide, inX9, tyX9_ok, nmX9, rfl, tyX9_ok 5 (by decide), rfl, (gT0_tb 85 (by decide +kernel) rfl)⟩
set_option maxRecDepth 100000 in
theorem slX9_94 : gVl RX9 94 yX3_columns cX3_columns 1 (some .int) 0 := ⟨⟨Or.inl (gT0_tb 408 (by decide +kernel) rfl), (gT0_tb 2 (by decide +kernel) rfl), (gT0_tb 411 rfl rfl), by decide +kernel⟩, (gT0_tb 409 (by decide +kernel) rfl), (gT0_tb 410 (by decide +kernel) rfl)⟩
theorem lpX9_97 : gLp RX9 97 9 6 (.int) false := ⟨RX9, TX9, 15, tyX9, rfl, by decide, inX9, tyX9_ok, nmX9, rfl, tyX9_ok 6 (by decide), rfl, (gT0_tb 86 (by decide +kernel) rfl)⟩
set_option maxRecDepth 100000 in
theorem slX9_99 : gVl RX9 99 yX3_at cX3_at 3 (some .int) 2 := ⟨⟨Or.inl (gT0_tb 412 (by decide +kernel) rfl), (gT0_tb 2 (by decide +kernel) rfl), (gT0_tb 336 rfl rfl), by decide +kernel⟩, (gT0_tb 334 (by decide +kernel) rfl), (gT0_tb 335 (by decide +kernel) rfl)⟩
theorem lpX9_102 : gLp RX9 102 9 7 (.int) false := ⟨RX9, TX9, 15, tyX9, rfl, by decide, inX9, tyX9_ok, nmX9, rfl, tyX9_ok 7 (by decide), rfl, (gT0_tb 87 (by decide +kernel) rfl)⟩
theorem lkX9_92 : gLk RX9 92 9 5 := ⟨RX9, TX9, 15, rfl, by decide, inX9, Or.inl (gT0_tb 85 (by decide +kernel) rfl)⟩
theorem lkX9_15 : gLk RX9 15 9 1 := ⟨RX9, TX9, 15, rfl, by decide, inX9, Or.inl (gT0_tb 81 (by decide +kernel) rfl)⟩
set_option maxRecDepth 100000 in
theorem slX9_105 : gVl RX9 105 yX3_rowSum cX3_rowSum 4 (some .int) 1 := ⟨⟨Or.inl (gT0_tb 413 (by decide +kernel) rfl), (gT0_tb 2 (by decide +kernel) rfl), (gT0_tb 354 rfl rfl), by decide +kernel⟩, (gT0_tb 352 (by decide +kernel) rfl), (gT0_tb 353 (by decide +kernel) rfl)⟩
theorem lkX9_97 : gLk RX9 97 9 6 := ⟨RX9, TX9, 15, rfl, by decide, inX9, Or.inl (gT0_tb 86 (by decide +kernel) rfl)⟩
theorem lkX9_19 : gLk RX9 19 9 2 := ⟨RX9, TX9, 15, rfl, by decide, inX9, Or.inl (gT0_tb 82 (by decide +kernel) rfl)⟩
set_option maxRecDepth 100000 in
theorem slX9_109 : gVl RX9 109 yX3_columnSum cX3_columnSum 4 (some .int) 1 := ⟨⟨Or.inl (gT0_tb 414 (by decide +kernel) rfl), (gT0_tb 2 (by decide +kernel) rfl), (gT0_tb 359 rfl rfl), by decide +kernel⟩, (gT0_tb 357 (by decide +kernel) rfl), (gT0_tb 358 (by decide +kernel) rfl)⟩
theorem lkX9_32 : gLk RX9 32 9 10 := ⟨RX9, TX9, 15, rfl, by decide, inX9, Or.inl (gT0_tb 90 (by decide +kernel) rfl)⟩
set_option maxRecDepth 100000 in
theorem slX9_112 : gVl RX9 112 yX10_copy cX10_copy 3 none 1 := ⟨⟨Or.inl (gT0_tb 458 (by decide +kernel) rfl), (gT0_tb 6 (by decide +kernel) rfl), (gT0_tb 461 rfl rfl), by decide +kernel⟩, (gT0_tb 459 (by decide +kernel) rfl), (gT0_tb 460 (by decide +kernel) rfl)⟩
set_option maxRecDepth 100000 in
theorem slX9_116 : gVl RX9 116 yX9_choose cX9_choose 3 (some .long) 2 := ⟨⟨Or.inl (gT0_tb 462 (by decide +kernel) rfl), (gT0_tb 5 (by decide +kernel) rfl), (gT0_tb 465 rfl rfl), by decide +kernel⟩, (gT0_tb 464 (by decide +kernel) rfl), (gT0_sl 7 (by decide +kernel) rfl)⟩
set_option maxRecDepth 100000 in
theorem slX9_120 : gVl RX9 120 yX10_setProduct cX10_setProduct 6 none 2 := ⟨⟨Or.inl (gT0_tb 466 (by decide +kernel) rfl), (gT0_tb 6 (by decide +kernel) rfl), (gT0_tb 469 rfl rfl), by decide +kernel⟩, (gT0_tb 467 (by decide +kernel) rfl), (gT0_tb 468 (by decide +kernel) rfl)⟩
theorem lkX9_36 : gLk RX9 36 9 11 := ⟨RX9, TX9, 15, rfl, by decide, inX9, Or.inl (gT0_tb 92 (by decide +kernel) rfl)⟩
set_option maxRecDepth 100000 in
theorem slX9_124 : gVl RX9 124 yX9_sumOfColumnsLeft cX9_sumOfColumnsLeft 3 (some .int) 0 := ⟨⟨Or.inl (gT0_tb 419 (by decide +kernel) rfl), (gT0_tb 5 (by decide +kernel) rfl), (gT0_tb 422 rfl rfl), by decide +kernel⟩, (gT0_tb 421 (by decide +kernel) rfl), (gT0_sl 2 (by decide +kernel) rfl)⟩
set_option maxRecDepth 100000 in
theorem slX9_127 : gVl RX9 127 yX9_countCell cX9_countCell 10 none 4 := ⟨⟨Or.inl (gT0_tb 423 (by decide +kernel) rfl), (gT0_tb 5 (by decide +kernel) rfl), (gT0_tb 426 rfl rfl), by decide +kernel⟩, (gT0_tb 425 (by decide +kernel) rfl), (gT0_sl 3 (by decide +kernel) rfl)⟩
set_option maxRecDepth 100000 in
theorem slX9_131 : gSl RX9 131 yJ9_max_7cf53 cJ9_max_7cf53 2 (some .int) 2 := ⟨⟨Or.inl (gT0_tb 427 (by decide +kernel) rfl), (gT0_tb 4 (by decide +kernel) rfl), (gT0_tb 51 rfl rfl), by decide +kernel⟩, (gT0_tb 50 (by decide +kernel) rfl)⟩
set_option maxRecDepth 100000 in
theorem slX9_134 : gVl RX9 134 yX9_fillCell cX9_fillCell 10 none 4 := ⟨⟨Or.inl (gT0_tb 482 (by decide +kernel) rfl), (gT0_tb 5 (by decide +kernel) rfl), (gT0_tb 485 rfl rfl), by decide +kernel⟩, (gT0_tb 484 (by decide +kernel) rfl), (gT0_sl 11 (by decide +kernel) rfl)⟩
set_option maxRecDepth 100000 in
theorem slX9_137 : gVl RX9 137 yX9_fillLastRow cX9_fillLastRow 4 none 1 := ⟨⟨Or.inl (gT0_tb 486 (by decide +kernel) rfl), (gT0_tb 5 (by decide +kernel) rfl), (gT0_tb 489 rfl rfl), by decide +kernel⟩, (gT0_tb 488 (by decide +kernel) rfl), (gT0_sl 12 (by decide +kernel) rfl)⟩
theorem lkX9_22 : gLk RX9 22 9 3 := ⟨RX9, TX9, 15, rfl, by decide, inX9, Or.inl (gT0_tb 83 (by decide +kernel) rfl)⟩
set_option maxRecDepth 100000 in
theorem slX9_140 : gVl RX9 140 yX10_compare cX10_compare 3 (some .int) 1 := ⟨⟨Or.inl (gT0_tb 490 (by decide +kernel) rfl), (gT0_tb 6 (by decide +kernel) rfl), (gT0_tb 493 rfl rfl), by decide +kernel⟩, (gT0_tb 491 (by decide +kernel) rfl), (gT0_tb 492 (by decide +kernel) rfl)⟩
set_option maxRecDepth 100000 in
theorem slX9_144 : gVl RX9 144 yX10_add cX10_add 8 none 1 := ⟨⟨Or.inl (gT0_tb 494 (by decide +kernel) rfl), (gT0_tb 6 (by decide +kernel) rfl), (gT0_tb 497 rfl rfl), by decide +kernel⟩, (gT0_tb 495 (by decide +kernel) rfl), (gT0_tb 496 (by decide +kernel) rfl)⟩
theorem lkX9_102 : gLk RX9 102 9 7 := ⟨RX9, TX9, 15, rfl, by decide, inX9, Or.inl (gT0_tb 87 (by decide +kernel) rfl)⟩
theorem lkX9_76 : gLk RX9 76 9 9 := ⟨RX9, TX9, 15, rfl, by decide, inX9, Or.inl (gT0_tb 89 (by decide +kernel) rfl)⟩
set_option maxRecDepth 100000 in
theorem slX9_147 : gVl RX9 147 yX0_keep cX0_keep 10 none 2 := ⟨⟨Or.inl (gT0_tb 499 (by decide +kernel) rfl), (gT0_tb 7 (by decide +kernel) rfl), (gT0_tb 502 rfl rfl), by decide +kernel⟩, (gT0_tb 500 (by decide +kernel) rfl), (gT0_tb 501 (by decide +kernel) rfl)⟩
theorem oiX10_3 : Cond.methodLink RX10 3 Lib.objectInit ∈ gT0 := (gT0_tb 71 (by decide +kernel) rfl)
theorem lpX10_11 : gLp RX10 11 10 0 (.array .long) true := ⟨RX10, TX10, 2, tyX10, rfl, by decide, inX10, tyX10_ok, nmX10, rfl, tyX10_ok 0 (by decide), rfl, (gT0_tb 72 (by decide +kernel) rfl)⟩
set_option maxRecDepth 100000 in
theorem slX10_15 : gVl RX10 15 yX10_empty cX10_empty 2 none 0 := ⟨⟨Or.inl (gT0_tb 448 (by decide +kernel) rfl), (gT0_tb 6 (by decide +kernel) rfl), (gT0_tb 451 rfl rfl), by decide +kernel⟩, (gT0_tb 450 (by decide +kernel) rfl), (gT0_sl 5 (by decide +kernel) rfl)⟩
theorem lkX10_11 : gLk RX10 11 10 0 := ⟨RX10, TX10, 2, rfl, by decide, inX10, Or.inl (gT0_tb 72 (by decide +kernel) rfl)⟩
theorem kcX10_18 : Cond.constantLong RX10 18 (4294967295) ∈ gT0 := (gT0_tb 452 (by decide +kernel) rfl)
set_option maxRecDepth 100000 in
theorem slX10_20 : gVl RX10 20 yX10_trim cX10_trim 2 none 1 := ⟨⟨Or.inl (gT0_tb 453 (by decide +kernel) rfl), (gT0_tb 6 (by decide +kernel) rfl), (gT0_tb 456 rfl rfl), by decide +kernel⟩, (gT0_tb 455 (by decide +kernel) rfl), (gT0_sl 6 (by decide +kernel) rfl)⟩
theorem lkX10_24 : gLk RX10 24 10 1 := ⟨RX10, TX10, 2, rfl, by decide, inX10, Or.inl (gT0_tb 73 (by decide +kernel) rfl)⟩
theorem lpX10_24 : gLp RX10 24 10 1 (.int) false := ⟨RX10, TX10, 2, tyX10, rfl, by decide, inX10, tyX10_ok, nmX10, rfl, tyX10_ok 1 (by decide), rfl, (gT0_tb 73 (by decide +kernel) rfl)⟩
set_option maxRecDepth 100000 in
theorem slX10_28 : gSl RX10 28 yJ9_max_7cf53 cJ9_max_7cf53 2 (some .int) 2 := ⟨⟨Or.inl (gT0_tb 498 (by decide +kernel) rfl), (gT0_tb 4 (by decide +kernel) rfl), (gT0_tb 51 rfl rfl), by decide +kernel⟩, (gT0_tb 50 (by decide +kernel) rfl)⟩
set_option maxRecDepth 100000 in
theorem slX10_34 : gVl RX10 34 yX10_addTimes cX10_addTimes 11 none 3 := ⟨⟨Or.inl (gT0_tb 470 (by decide +kernel) rfl), (gT0_tb 6 (by decide +kernel) rfl), (gT0_tb 473 rfl rfl), by decide +kernel⟩, (gT0_tb 472 (by decide +kernel) rfl), (gT0_sl 8 (by decide +kernel) rfl)⟩
set_option maxRecDepth 100000 in
theorem slX10_38 : gSl RX10 38 yJ9_min_7cf53 cJ9_min_7cf53 2 (some .int) 2 := ⟨⟨Or.inl (gT0_tb 457 (by decide +kernel) rfl), (gT0_tb 4 (by decide +kernel) rfl), (gT0_tb 407 rfl rfl), by decide +kernel⟩, (gT0_tb 406 (by decide +kernel) rfl)⟩
set_option maxRecDepth 100000 in
theorem slX10_41 : gSl RX10 41 yJ13_numberOfLeadingZeros_95d88 cJ13_numberOfLeadingZeros_95d88 3 (some .int) 1 := ⟨⟨Or.inl (gT0_tb 701 (by decide +kernel) rfl), (gT0_tb 16 (by decide +kernel) rfl), (gT0_tb 703 rfl rfl), by decide +kernel⟩, (gT0_tb 702 (by decide +kernel) rfl)⟩
set_option maxRecDepth 100000 in
theorem slX10_47 : gVl RX10 47 yX10_bitLength cX10_bitLength 1 (some .int) 0 := ⟨⟨Or.inl (gT0_tb 835 (by decide +kernel) rfl), (gT0_tb 6 (by decide +kernel) rfl), (gT0_tb 700 rfl rfl), by decide +kernel⟩, (gT0_tb 698 (by decide +kernel) rfl), (gT0_tb 699 (by decide +kernel) rfl)⟩
theorem kcX10_51 : Cond.constant RX10 51 (65535) ∈ gT0 := (gT0_tb 716 (by decide +kernel) rfl)
theorem oiX11_1 : Cond.methodLink RX11 1 Lib.objectInit ∈ gT0 := (gT0_tb 23 (by decide +kernel) rfl)
theorem clX11_7 : Cond.classLink RX11 7 RX3 ∈ gT0 := (gT0_tb 26 (by decide +kernel) rfl)
set_option maxRecDepth 100000 in
theorem slX11_9 : gIl RX11 9 yX3_init cX3_init 1 0 := ⟨⟨Or.inr ⟨"ExactTests", by decide +kernel⟩, (gT0_tb 2 (by decide +kernel) rfl), (gT0_tb 30 rfl rfl), by decide +kernel⟩, rfl, (gT0_tb 29 (by decide +kernel) rfl)⟩
theorem lpX11_10 : gLp RX11 10 11 0 (.object "ExactTests$Grid") true := ⟨RX11, TX11, 11, tyX11, rfl, by decide, inX11, tyX11_ok, nmX11, rfl, tyX11_ok 0 (by decide), rfl, (gT0_tb 276 (by decide +kernel) rfl)⟩
theorem clX11_16 : Cond.classLink RX11 16 RX5 ∈ gT0 := (gT0_tb 43 (by decide +kernel) rfl)
set_option maxRecDepth 100000 in
theorem slX11_18 : gIl RX11 18 yX5_init cX5_init 2 1 := ⟨⟨Or.inl (gT0_tb 45 (by decide +kernel) rfl), (gT0_tb 3 (by decide +kernel) rfl), (gT0_tb 47 rfl rfl), by decide +kernel⟩, rfl, (gT0_tb 46 (by decide +kernel) rfl)⟩
theorem lpX11_21 : gLp RX11 21 11 1 (.object "ExactTests$Numbers") true := ⟨RX11, TX11, 11, tyX11, rfl, by decide, inX11, tyX11_ok, nmX11, rfl, tyX11_ok 1 (by decide), rfl, (gT0_tb 277 (by decide +kernel) rfl)⟩
theorem lpX11_25 : gLp RX11 25 11 2 (.object "ExactTests$Numbers") true := ⟨RX11, TX11, 11, tyX11, rfl, by decide, inX11, tyX11_ok, nmX11, rfl, tyX11_ok 2 (by decide), rfl, (gT0_tb 278 (by decide +kernel) rfl)⟩
theorem lpX11_28 : gLp RX11 28 11 3 (.object "ExactTests$Numbers") true := ⟨RX11, TX11, 11, tyX11, rfl, by decide, inX11, tyX11_ok, nmX11, rfl, tyX11_ok 3 (by decide), rfl, (gT0_tb 279 (by decide +kernel) rfl)⟩
theorem lpX11_31 : gLp RX11 31 11 4 (.object "ExactTests$Numbers") true := ⟨RX11, TX11, 11, tyX11, rfl, by decide, inX11, tyX11_ok, nmX11, rfl, tyX11_ok 4 (by decide), rfl, (gT0_tb 280 (by decide +kernel) rfl)⟩
theorem clX11_34 : Cond.classLink RX11 34 RX9 ∈ gT0 := (gT0_tb 59 (by decide +kernel) rfl)
set_option maxRecDepth 100000 in
theorem slX11_36 : gIl RX11 36 yX9_init cX9_init 5 0 := ⟨⟨Or.inl (gT0_tb 61 (by decide +kernel) rfl), (gT0_tb 5 (by decide +kernel) rfl), (gT0_tb 63 rfl rfl), by decide +kernel⟩, rfl, (gT0_tb 62 (by decide +kernel) rfl)⟩
theorem lpX11_37 : gLp RX11 37 11 5 (.object "ExactTests$Walk") true := ⟨RX11, TX11, 11, tyX11, rfl, by decide, inX11, tyX11_ok, nmX11, rfl, tyX11_ok 5 (by decide), rfl, (gT0_tb 281 (by decide +kernel) rfl)⟩
theorem clX11_41 : Cond.classLink RX11 41 RX0 ∈ gT0 := (gT0_tb 131 (by decide +kernel) rfl)
set_option maxRecDepth 100000 in
theorem slX11_43 : gIl RX11 43 yX0_init cX0_init 1 0 := ⟨⟨Or.inr ⟨"ExactTests", by decide +kernel⟩, (gT0_tb 7 (by decide +kernel) rfl), (gT0_tb 135 rfl rfl), by decide +kernel⟩, rfl, (gT0_tb 134 (by decide +kernel) rfl)⟩
theorem lpX11_44 : gLp RX11 44 11 6 (.object "ExactTests$Cases") true := ⟨RX11, TX11, 11, tyX11, rfl, by decide, inX11, tyX11_ok, nmX11, rfl, tyX11_ok 6 (by decide), rfl, (gT0_tb 282 (by decide +kernel) rfl)⟩
theorem clX11_48 : Cond.classLink RX11 48 RX8 ∈ gT0 := (gT0_tb 153 (by decide +kernel) rfl)
set_option maxRecDepth 100000 in
theorem slX11_50 : gIl RX11 50 yX8_init cX8_init 1 0 := ⟨⟨Or.inr ⟨"ExactTests", by decide +kernel⟩, (gT0_tb 8 (by decide +kernel) rfl), (gT0_tb 157 rfl rfl), by decide +kernel⟩, rfl, (gT0_tb 156 (by decide +kernel) rfl)⟩
theorem lpX11_51 : gLp RX11 51 11 7 (.object "ExactTests$Sums") true := ⟨RX11, TX11, 11, tyX11, rfl, by decide, inX11, tyX11_ok, nmX11, rfl, tyX11_ok 7 (by decide), rfl, (gT0_tb 283 (by decide +kernel) rfl)⟩
theorem clX11_55 : Cond.classLink RX11 55 RX6 ∈ gT0 := (gT0_tb 200 (by decide +kernel) rfl)
set_option maxRecDepth 100000 in
theorem slX11_57 : gIl RX11 57 yX6_init cX6_init 2 0 := ⟨⟨Or.inl (gT0_tb 202 (by decide +kernel) rfl), (gT0_tb 10 (by decide +kernel) rfl), (gT0_tb 204 rfl rfl), by decide +kernel⟩, rfl, (gT0_tb 203 (by decide +kernel) rfl)⟩
theorem lpX11_58 : gLp RX11 58 11 8 (.object "ExactTests$Results") true := ⟨RX11, TX11, 11, tyX11, rfl, by decide, inX11, tyX11_ok, nmX11, rfl, tyX11_ok 8 (by decide), rfl, (gT0_tb 284 (by decide +kernel) rfl)⟩
theorem clX11_62 : Cond.classLink RX11 62 RX7 ∈ gT0 := (gT0_tb 240 (by decide +kernel) rfl)
set_option maxRecDepth 100000 in
theorem slX11_64 : gIl RX11 64 yX7_init cX7_init 1 0 := ⟨⟨Or.inr ⟨"ExactTests", by decide +kernel⟩, (gT0_tb 12 (by decide +kernel) rfl), (gT0_tb 244 rfl rfl), by decide +kernel⟩, rfl, (gT0_tb 243 (by decide +kernel) rfl)⟩
theorem lpX11_65 : gLp RX11 65 11 9 (.object "ExactTests$Scale") true := ⟨RX11, TX11, 11, tyX11, rfl, by decide, inX11, tyX11_ok, nmX11, rfl, tyX11_ok 9 (by decide), rfl, (gT0_tb 285 (by decide +kernel) rfl)⟩
theorem clX11_69 : Cond.classLink RX11 69 RX1 ∈ gT0 := (gT0_tb 255 (by decide +kernel) rfl)
theorem lkX11_65 : gLk RX11 65 11 9 := ⟨RX11, TX11, 11, rfl, by decide, inX11, Or.inl (gT0_tb 285 (by decide +kernel) rfl)⟩
set_option maxRecDepth 100000 in
theorem slX11_71 : gIl RX11 71 yX1_init cX1_init 3 1 := ⟨⟨Or.inl (gT0_tb 257 (by decide +kernel) rfl), (gT0_tb 13 (by decide +kernel) rfl), (gT0_tb 259 rfl rfl), by decide +kernel⟩, rfl, (gT0_tb 258 (by decide +kernel) rfl)⟩
theorem lpX11_74 : gLp RX11 74 11 10 (.object "ExactTests$Chances") true := ⟨RX11, TX11, 11, tyX11, rfl, by decide, inX11, tyX11_ok, nmX11, rfl, tyX11_ok 10 (by decide), rfl, (gT0_tb 286 (by decide +kernel) rfl)⟩
set_option maxRecDepth 100000 in
theorem slX11_78 : gSl RX11 78 yX11_within cX11_within 3 (some .boolean) 3 := ⟨⟨Or.inl (gT0_tb 314 (by decide +kernel) rfl), (gT0_tb 1 (by decide +kernel) rfl), (gT0_tb 316 rfl rfl), by decide +kernel⟩, (gT0_tb 315 (by decide +kernel) rfl)⟩
theorem lkX11_10 : gLk RX11 10 11 0 := ⟨RX11, TX11, 11, rfl, by decide, inX11, Or.inl (gT0_tb 276 (by decide +kernel) rfl)⟩
set_option maxRecDepth 100000 in
theorem slX11_82 : gVl RX11 82 yX3_renew cX3_renew 4 none 2 := ⟨⟨Or.inl (gT0_tb 317 (by decide +kernel) rfl), (gT0_tb 2 (by decide +kernel) rfl), (gT0_tb 320 rfl rfl), by decide +kernel⟩, (gT0_tb 318 (by decide +kernel) rfl), (gT0_tb 319 (by decide +kernel) rfl)⟩
set_option maxRecDepth 100000 in
theorem slX11_86 : gVl RX11 86 yX3_hasRow cX3_hasRow 2 (some .boolean) 1 := ⟨⟨Or.inl (gT0_tb 325 (by decide +kernel) rfl), (gT0_tb 2 (by decide +kernel) rfl), (gT0_tb 328 rfl rfl), by decide +kernel⟩, (gT0_tb 326 (by decide +kernel) rfl), (gT0_tb 327 (by decide +kernel) rfl)⟩
set_option maxRecDepth 100000 in
theorem slX11_90 : gVl RX11 90 yX3_hasColumn cX3_hasColumn 2 (some .boolean) 1 := ⟨⟨Or.inl (gT0_tb 329 (by decide +kernel) rfl), (gT0_tb 2 (by decide +kernel) rfl), (gT0_tb 332 rfl rfl), by decide +kernel⟩, (gT0_tb 330 (by decide +kernel) rfl), (gT0_tb 331 (by decide +kernel) rfl)⟩
set_option maxRecDepth 100000 in
theorem slX11_93 : gVl RX11 93 yX3_at cX3_at 3 (some .int) 2 := ⟨⟨Or.inl (gT0_tb 333 (by decide +kernel) rfl), (gT0_tb 2 (by decide +kernel) rfl), (gT0_tb 336 rfl rfl), by decide +kernel⟩, (gT0_tb 334 (by decide +kernel) rfl), (gT0_tb 335 (by decide +kernel) rfl)⟩
set_option maxRecDepth 100000 in
theorem slX11_97 : gVl RX11 97 yX3_inAll cX3_inAll 3 (some .int) 0 := ⟨⟨Or.inl (gT0_tb 339 (by decide +kernel) rfl), (gT0_tb 2 (by decide +kernel) rfl), (gT0_tb 342 rfl rfl), by decide +kernel⟩, (gT0_tb 340 (by decide +kernel) rfl), (gT0_tb 341 (by decide +kernel) rfl)⟩
set_option maxRecDepth 100000 in
theorem slX11_101 : gVl RX11 101 yX3_put cX3_put 4 none 3 := ⟨⟨Or.inl (gT0_tb 343 (by decide +kernel) rfl), (gT0_tb 2 (by decide +kernel) rfl), (gT0_tb 346 rfl rfl), by decide +kernel⟩, (gT0_tb 344 (by decide +kernel) rfl), (gT0_tb 345 (by decide +kernel) rfl)⟩
set_option maxRecDepth 100000 in
theorem slX11_105 : gVl RX11 105 yX3_rowSum cX3_rowSum 4 (some .int) 1 := ⟨⟨Or.inl (gT0_tb 351 (by decide +kernel) rfl), (gT0_tb 2 (by decide +kernel) rfl), (gT0_tb 354 rfl rfl), by decide +kernel⟩, (gT0_tb 352 (by decide +kernel) rfl), (gT0_tb 353 (by decide +kernel) rfl)⟩
set_option maxRecDepth 100000 in
theorem slX11_109 : gVl RX11 109 yX3_columnSum cX3_columnSum 4 (some .int) 1 := ⟨⟨Or.inl (gT0_tb 356 (by decide +kernel) rfl), (gT0_tb 2 (by decide +kernel) rfl), (gT0_tb 359 rfl rfl), by decide +kernel⟩, (gT0_tb 357 (by decide +kernel) rfl), (gT0_tb 358 (by decide +kernel) rfl)⟩
theorem lkX11_21 : gLk RX11 21 11 1 := ⟨RX11, TX11, 11, rfl, by decide, inX11, Or.inl (gT0_tb 277 (by decide +kernel) rfl)⟩
theorem lkX11_25 : gLk RX11 25 11 2 := ⟨RX11, TX11, 11, rfl, by decide, inX11, Or.inl (gT0_tb 278 (by decide +kernel) rfl)⟩
set_option maxRecDepth 100000 in
theorem slX11_112 : gVl RX11 112 yX5_isFull cX5_isFull 1 (some .boolean) 0 := ⟨⟨Or.inl (gT0_tb 364 (by decide +kernel) rfl), (gT0_tb 3 (by decide +kernel) rfl), (gT0_tb 367 rfl rfl), by decide +kernel⟩, (gT0_tb 365 (by decide +kernel) rfl), (gT0_tb 366 (by decide +kernel) rfl)⟩
set_option maxRecDepth 100000 in
theorem slX11_116 : gVl RX11 116 yX5_add cX5_add 2 (some .int) 1 := ⟨⟨Or.inl (gT0_tb 368 (by decide +kernel) rfl), (gT0_tb 3 (by decide +kernel) rfl), (gT0_tb 371 rfl rfl), by decide +kernel⟩, (gT0_tb 369 (by decide +kernel) rfl), (gT0_tb 370 (by decide +kernel) rfl)⟩
theorem lkX11_28 : gLk RX11 28 11 3 := ⟨RX11, TX11, 11, rfl, by decide, inX11, Or.inl (gT0_tb 279 (by decide +kernel) rfl)⟩
set_option maxRecDepth 100000 in
theorem slX11_119 : gVl RX11 119 yX5_empty cX5_empty 2 (some .int) 0 := ⟨⟨Or.inl (gT0_tb 381 (by decide +kernel) rfl), (gT0_tb 3 (by decide +kernel) rfl), (gT0_tb 384 rfl rfl), by decide +kernel⟩, (gT0_tb 382 (by decide +kernel) rfl), (gT0_tb 383 (by decide +kernel) rfl)⟩
theorem lkX11_74 : gLk RX11 74 11 10 := ⟨RX11, TX11, 11, rfl, by decide, inX11, Or.inl (gT0_tb 286 (by decide +kernel) rfl)⟩
set_option maxRecDepth 100000 in
theorem slX11_122 : gVl RX11 122 yX1_empty cX1_empty 2 (some .int) 0 := ⟨⟨Or.inl (gT0_tb 385 (by decide +kernel) rfl), (gT0_tb 13 (by decide +kernel) rfl), (gT0_tb 388 rfl rfl), by decide +kernel⟩, (gT0_tb 386 (by decide +kernel) rfl), (gT0_tb 387 (by decide +kernel) rfl)⟩
theorem lkX11_31 : gLk RX11 31 11 4 := ⟨RX11, TX11, 11, rfl, by decide, inX11, Or.inl (gT0_tb 280 (by decide +kernel) rfl)⟩
theorem lkX11_37 : gLk RX11 37 11 5 := ⟨RX11, TX11, 11, rfl, by decide, inX11, Or.inl (gT0_tb 281 (by decide +kernel) rfl)⟩
set_option maxRecDepth 100000 in
theorem slX11_123 : gVl RX11 123 yX9_countCases cX9_countCases 2 (some .int) 1 := ⟨⟨Or.inl (gT0_tb 393 (by decide +kernel) rfl), (gT0_tb 5 (by decide +kernel) rfl), (gT0_tb 396 rfl rfl), by decide +kernel⟩, (gT0_tb 394 (by decide +kernel) rfl), (gT0_tb 395 (by decide +kernel) rfl)⟩
theorem lkX11_44 : gLk RX11 44 11 6 := ⟨RX11, TX11, 11, rfl, by decide, inX11, Or.inl (gT0_tb 282 (by decide +kernel) rfl)⟩
set_option maxRecDepth 100000 in
theorem slX11_127 : gVl RX11 127 yX3_rows cX3_rows 1 (some .int) 0 := ⟨⟨Or.inl (gT0_tb 428 (by decide +kernel) rfl), (gT0_tb 2 (by decide +kernel) rfl), (gT0_tb 404 rfl rfl), by decide +kernel⟩, (gT0_tb 402 (by decide +kernel) rfl), (gT0_tb 403 (by decide +kernel) rfl)⟩
set_option maxRecDepth 100000 in
theorem slX11_130 : gVl RX11 130 yX3_columns cX3_columns 1 (some .int) 0 := ⟨⟨Or.inl (gT0_tb 429 (by decide +kernel) rfl), (gT0_tb 2 (by decide +kernel) rfl), (gT0_tb 411 rfl rfl), by decide +kernel⟩, (gT0_tb 409 (by decide +kernel) rfl), (gT0_tb 410 (by decide +kernel) rfl)⟩
set_option maxRecDepth 100000 in
theorem slX11_133 : gVl RX11 133 yX0_renew cX0_renew 5 none 3 := ⟨⟨Or.inl (gT0_tb 430 (by decide +kernel) rfl), (gT0_tb 7 (by decide +kernel) rfl), (gT0_tb 433 rfl rfl), by decide +kernel⟩, (gT0_tb 431 (by decide +kernel) rfl), (gT0_tb 432 (by decide +kernel) rfl)⟩
set_option maxRecDepth 100000 in
theorem slX11_135 : gVl RX11 135 yX9_weighCases cX9_weighCases 3 none 2 := ⟨⟨Or.inl (gT0_tb 435 (by decide +kernel) rfl), (gT0_tb 5 (by decide +kernel) rfl), (gT0_tb 438 rfl rfl), by decide +kernel⟩, (gT0_tb 436 (by decide +kernel) rfl), (gT0_tb 437 (by decide +kernel) rfl)⟩
theorem lkX11_58 : gLk RX11 58 11 8 := ⟨RX11, TX11, 11, rfl, by decide, inX11, Or.inl (gT0_tb 284 (by decide +kernel) rfl)⟩
set_option maxRecDepth 100000 in
theorem slX11_139 : gVl RX11 139 yX6_begin cX6_begin 4 none 3 := ⟨⟨Or.inl (gT0_tb 504 (by decide +kernel) rfl), (gT0_tb 10 (by decide +kernel) rfl), (gT0_tb 507 rfl rfl), by decide +kernel⟩, (gT0_tb 505 (by decide +kernel) rfl), (gT0_tb 506 (by decide +kernel) rfl)⟩
set_option maxRecDepth 100000 in
theorem slX11_142 : gVl RX11 142 yX6_chance cX6_chance 2 (some (.object "ExactTests$Fraction")) 1 := ⟨⟨Or.inl (gT0_tb 508 (by decide +kernel) rfl), (gT0_tb 10 (by decide +kernel) rfl), (gT0_tb 511 rfl rfl), by decide +kernel⟩, (gT0_tb 509 (by decide +kernel) rfl), (gT0_tb 510 (by decide +kernel) rfl)⟩
theorem lkX11_146 : gLk RX11 146 9 12 := ⟨RX9, TX9, 15, rfl, by decide, inX9, Or.inl (gT0_tb 95 (by decide +kernel) rfl)⟩
theorem lkX11_150 : gLk RX11 150 9 10 := ⟨RX9, TX9, 15, rfl, by decide, inX9, Or.inl (gT0_tb 91 (by decide +kernel) rfl)⟩
set_option maxRecDepth 100000 in
theorem slX11_153 : gVl RX11 153 yX2_setWholes cX2_setWholes 3 none 2 := ⟨⟨Or.inl (gT0_tb 512 (by decide +kernel) rfl), (gT0_tb 11 (by decide +kernel) rfl), (gT0_tb 515 rfl rfl), by decide +kernel⟩, (gT0_tb 513 (by decide +kernel) rfl), (gT0_tb 514 (by decide +kernel) rfl)⟩
theorem lkX11_159 : gLk RX11 159 9 13 := ⟨RX9, TX9, 15, rfl, by decide, inX9, Or.inl (gT0_tb 97 (by decide +kernel) rfl)⟩
theorem lkX11_162 : gLk RX11 162 9 14 := ⟨RX9, TX9, 15, rfl, by decide, inX9, Or.inl (gT0_tb 99 (by decide +kernel) rfl)⟩
theorem lkX11_165 : gLk RX11 165 9 11 := ⟨RX9, TX9, 15, rfl, by decide, inX9, Or.inl (gT0_tb 93 (by decide +kernel) rfl)⟩
theorem kcX11_168 : Cond.constant RX11 168 (-1000000001) ∈ gT0 := (gT0_tb 539 (by decide +kernel) rfl)
set_option maxRecDepth 100000 in
theorem slX11_169 : gVl RX11 169 yX5_size cX5_size 1 (some .int) 0 := ⟨⟨Or.inl (gT0_tb 540 (by decide +kernel) rfl), (gT0_tb 3 (by decide +kernel) rfl), (gT0_tb 543 rfl rfl), by decide +kernel⟩, (gT0_tb 541 (by decide +kernel) rfl), (gT0_tb 542 (by decide +kernel) rfl)⟩
theorem kcX11_172 : Cond.constant RX11 172 (-1000000003) ∈ gT0 := (gT0_tb 544 (by decide +kernel) rfl)
theorem lkX11_51 : gLk RX11 51 11 7 := ⟨RX11, TX11, 11, rfl, by decide, inX11, Or.inl (gT0_tb 283 (by decide +kernel) rfl)⟩
set_option maxRecDepth 100000 in
theorem slX11_173 : gVl RX11 173 yX8_beginTaking cX8_beginTaking 4 none 2 := ⟨⟨Or.inl (gT0_tb 545 (by decide +kernel) rfl), (gT0_tb 8 (by decide +kernel) rfl), (gT0_tb 548 rfl rfl), by decide +kernel⟩, (gT0_tb 546 (by decide +kernel) rfl), (gT0_tb 547 (by decide +kernel) rfl)⟩
set_option maxRecDepth 100000 in
theorem slX11_176 : gVl RX11 176 yX11_takeScores cX11_takeScores 7 (some .int) 2 := ⟨⟨Or.inl (gT0_tb 558 (by decide +kernel) rfl), (gT0_tb 1 (by decide +kernel) rfl), (gT0_tb 561 rfl rfl), by decide +kernel⟩, (gT0_tb 560 (by decide +kernel) rfl), (gT0_sl 16 (by decide +kernel) rfl)⟩
set_option maxRecDepth 100000 in
theorem slX11_180 : gVl RX11 180 yX11_judge cX11_judge 16 none 3 := ⟨⟨Or.inl (gT0_tb 603 (by decide +kernel) rfl), (gT0_tb 1 (by decide +kernel) rfl), (gT0_tb 606 rfl rfl), by decide +kernel⟩, (gT0_tb 605 (by decide +kernel) rfl), (gT0_sl 19 (by decide +kernel) rfl)⟩
set_option maxRecDepth 100000 in
theorem slX11_183 : gVl RX11 183 yX5_countOf cX5_countOf 4 (some .int) 1 := ⟨⟨Or.inl (gT0_tb 578 (by decide +kernel) rfl), (gT0_tb 3 (by decide +kernel) rfl), (gT0_tb 581 rfl rfl), by decide +kernel⟩, (gT0_tb 579 (by decide +kernel) rfl), (gT0_tb 580 (by decide +kernel) rfl)⟩
set_option maxRecDepth 100000 in
theorem slX11_186 : gVl RX11 186 yX8_beginSigning cX8_beginSigning 2 none 1 := ⟨⟨Or.inl (gT0_tb 631 (by decide +kernel) rfl), (gT0_tb 8 (by decide +kernel) rfl), (gT0_tb 634 rfl rfl), by decide +kernel⟩, (gT0_tb 632 (by decide +kernel) rfl), (gT0_tb 633 (by decide +kernel) rfl)⟩
set_option maxRecDepth 100000 in
theorem slX11_189 : gVl RX11 189 yX5_get cX5_get 2 (some .int) 1 := ⟨⟨Or.inl (gT0_tb 562 (by decide +kernel) rfl), (gT0_tb 3 (by decide +kernel) rfl), (gT0_tb 565 rfl rfl), by decide +kernel⟩, (gT0_tb 563 (by decide +kernel) rfl), (gT0_tb 564 (by decide +kernel) rfl)⟩
set_option maxRecDepth 100000 in
theorem slX11_192 : gSl RX11 192 yJ9_abs_0f7a4 cJ9_abs_0f7a4 1 (some .int) 1 := ⟨⟨Or.inl (gT0_tb 635 (by decide +kernel) rfl), (gT0_tb 4 (by decide +kernel) rfl), (gT0_tb 637 rfl rfl), by decide +kernel⟩, (gT0_tb 636 (by decide +kernel) rfl)⟩
set_option maxRecDepth 100000 in
theorem slX11_197 : gVl RX11 197 yX11_scoreOfSize cX11_scoreOfSize 3 (some .int) 2 := ⟨⟨Or.inl (gT0_tb 638 (by decide +kernel) rfl), (gT0_tb 1 (by decide +kernel) rfl), (gT0_tb 641 rfl rfl), by decide +kernel⟩, (gT0_tb 640 (by decide +kernel) rfl), (gT0_sl 20 (by decide +kernel) rfl)⟩
set_option maxRecDepth 100000 in
theorem slX11_200 : gVl RX11 200 yX8_take cX8_take 3 none 1 := ⟨⟨Or.inl (gT0_tb 585 (by decide +kernel) rfl), (gT0_tb 8 (by decide +kernel) rfl), (gT0_tb 588 rfl rfl), by decide +kernel⟩, (gT0_tb 586 (by decide +kernel) rfl), (gT0_tb 587 (by decide +kernel) rfl)⟩
set_option maxRecDepth 100000 in
theorem slX11_203 : gVl RX11 203 yX5_has cX5_has 2 (some .boolean) 1 := ⟨⟨Or.inl (gT0_tb 650 (by decide +kernel) rfl), (gT0_tb 3 (by decide +kernel) rfl), (gT0_tb 569 rfl rfl), by decide +kernel⟩, (gT0_tb 567 (by decide +kernel) rfl), (gT0_tb 568 (by decide +kernel) rfl)⟩
set_option maxRecDepth 100000 in
theorem slX11_206 : gVl RX11 206 yX11_rankOfSize cX11_rankOfSize 5 (some .int) 1 := ⟨⟨Or.inl (gT0_tb 642 (by decide +kernel) rfl), (gT0_tb 1 (by decide +kernel) rfl), (gT0_tb 645 rfl rfl), by decide +kernel⟩, (gT0_tb 644 (by decide +kernel) rfl), (gT0_sl 21 (by decide +kernel) rfl)⟩
set_option maxRecDepth 100000 in
theorem slX11_209 : gVl RX11 209 yX11_rankOfNumber cX11_rankOfNumber 4 (some .int) 1 := ⟨⟨Or.inl (gT0_tb 570 (by decide +kernel) rfl), (gT0_tb 1 (by decide +kernel) rfl), (gT0_tb 573 rfl rfl), by decide +kernel⟩, (gT0_tb 572 (by decide +kernel) rfl), (gT0_sl 17 (by decide +kernel) rfl)⟩
set_option maxRecDepth 100000 in
theorem slX11_212 : gVl RX11 212 yX0_count cX0_count 1 (some .int) 0 := ⟨⟨Or.inl (gT0_tb 655 (by decide +kernel) rfl), (gT0_tb 7 (by decide +kernel) rfl), (gT0_tb 658 rfl rfl), by decide +kernel⟩, (gT0_tb 656 (by decide +kernel) rfl), (gT0_tb 657 (by decide +kernel) rfl)⟩
set_option maxRecDepth 100000 in
theorem slX11_215 : gVl RX11 215 yX0_has cX0_has 2 (some .boolean) 1 := ⟨⟨Or.inl (gT0_tb 659 (by decide +kernel) rfl), (gT0_tb 7 (by decide +kernel) rfl), (gT0_tb 662 rfl rfl), by decide +kernel⟩, (gT0_tb 660 (by decide +kernel) rfl), (gT0_tb 661 (by decide +kernel) rfl)⟩
set_option maxRecDepth 100000 in
theorem slX11_216 : gVl RX11 216 yX0_hasCell cX0_hasCell 3 (some .boolean) 2 := ⟨⟨Or.inl (gT0_tb 663 (by decide +kernel) rfl), (gT0_tb 7 (by decide +kernel) rfl), (gT0_tb 666 rfl rfl), by decide +kernel⟩, (gT0_tb 664 (by decide +kernel) rfl), (gT0_tb 665 (by decide +kernel) rfl)⟩
set_option maxRecDepth 100000 in
theorem slX11_220 : gVl RX11 220 yX0_numberAt cX0_numberAt 5 (some .int) 3 := ⟨⟨Or.inl (gT0_tb 667 (by decide +kernel) rfl), (gT0_tb 7 (by decide +kernel) rfl), (gT0_tb 670 rfl rfl), by decide +kernel⟩, (gT0_tb 668 (by decide +kernel) rfl), (gT0_tb 669 (by decide +kernel) rfl)⟩
set_option maxRecDepth 100000 in
theorem slX11_224 : gVl RX11 224 yX0_orderOf cX0_orderOf 2 (some .int) 1 := ⟨⟨Or.inl (gT0_tb 677 (by decide +kernel) rfl), (gT0_tb 7 (by decide +kernel) rfl), (gT0_tb 680 rfl rfl), by decide +kernel⟩, (gT0_tb 678 (by decide +kernel) rfl), (gT0_tb 679 (by decide +kernel) rfl)⟩
set_option maxRecDepth 100000 in
theorem slX11_227 : gVl RX11 227 yX11_refusal cX11_refusal 2 (some .int) 1 := ⟨⟨Or.inl (gT0_tb 685 (by decide +kernel) rfl), (gT0_tb 1 (by decide +kernel) rfl), (gT0_tb 688 rfl rfl), by decide +kernel⟩, (gT0_tb 687 (by decide +kernel) rfl), (gT0_sl 22 (by decide +kernel) rfl)⟩
set_option maxRecDepth 100000 in
theorem slX11_230 : gVl RX11 230 yX2_part cX2_part 2 (some (.object "ExactTests$Whole")) 1 := ⟨⟨Or.inl (gT0_tb 693 (by decide +kernel) rfl), (gT0_tb 11 (by decide +kernel) rfl), (gT0_tb 696 rfl rfl), by decide +kernel⟩, (gT0_tb 694 (by decide +kernel) rfl), (gT0_tb 695 (by decide +kernel) rfl)⟩
set_option maxRecDepth 100000 in
theorem slX11_234 : gVl RX11 234 yX10_bitLength cX10_bitLength 1 (some .int) 0 := ⟨⟨Or.inl (gT0_tb 697 (by decide +kernel) rfl), (gT0_tb 6 (by decide +kernel) rfl), (gT0_tb 700 rfl rfl), by decide +kernel⟩, (gT0_tb 698 (by decide +kernel) rfl), (gT0_tb 699 (by decide +kernel) rfl)⟩
set_option maxRecDepth 100000 in
theorem slX11_239 : gVl RX11 239 yX10_sixteenBits cX10_sixteenBits 3 (some .int) 1 := ⟨⟨Or.inl (gT0_tb 712 (by decide +kernel) rfl), (gT0_tb 6 (by decide +kernel) rfl), (gT0_tb 715 rfl rfl), by decide +kernel⟩, (gT0_tb 713 (by decide +kernel) rfl), (gT0_tb 714 (by decide +kernel) rfl)⟩
set_option maxRecDepth 100000 in
theorem slX11_242 : gVl RX11 242 yX7_figureOf cX7_figureOf 6 (some .int) 2 := ⟨⟨Or.inl (gT0_tb 721 (by decide +kernel) rfl), (gT0_tb 12 (by decide +kernel) rfl), (gT0_tb 724 rfl rfl), by decide +kernel⟩, (gT0_tb 722 (by decide +kernel) rfl), (gT0_tb 723 (by decide +kernel) rfl)⟩
set_option maxRecDepth 100000 in
theorem slX11_246 : gSl RX11 246 yX11_isLevel cX11_isLevel 2 (some .boolean) 2 := ⟨⟨Or.inl (gT0_tb 740 (by decide +kernel) rfl), (gT0_tb 1 (by decide +kernel) rfl), (gT0_tb 742 rfl rfl), by decide +kernel⟩, (gT0_tb 741 (by decide +kernel) rfl)⟩
set_option maxRecDepth 100000 in
theorem slX11_249 : gVl RX11 249 yX7_compareToLevel cX7_compareToLevel 6 (some .int) 3 := ⟨⟨Or.inl (gT0_tb 744 (by decide +kernel) rfl), (gT0_tb 12 (by decide +kernel) rfl), (gT0_tb 747 rfl rfl), by decide +kernel⟩, (gT0_tb 745 (by decide +kernel) rfl), (gT0_tb 746 (by decide +kernel) rfl)⟩
set_option maxRecDepth 100000 in
theorem slX11_253 : gVl RX11 253 yX6_areThere cX6_areThere 1 (some .boolean) 0 := ⟨⟨Or.inl (gT0_tb 689 (by decide +kernel) rfl), (gT0_tb 10 (by decide +kernel) rfl), (gT0_tb 692 rfl rfl), by decide +kernel⟩, (gT0_tb 690 (by decide +kernel) rfl), (gT0_tb 691 (by decide +kernel) rfl)⟩
set_option maxRecDepth 100000 in
theorem slX11_256 : gVl RX11 256 yX6_test cX6_test 1 (some .int) 0 := ⟨⟨Or.inl (gT0_tb 752 (by decide +kernel) rfl), (gT0_tb 10 (by decide +kernel) rfl), (gT0_tb 755 rfl rfl), by decide +kernel⟩, (gT0_tb 753 (by decide +kernel) rfl), (gT0_tb 754 (by decide +kernel) rfl)⟩
set_option maxRecDepth 100000 in
theorem slX11_259 : gVl RX11 259 yX6_statistic cX6_statistic 1 (some .int) 0 := ⟨⟨Or.inl (gT0_tb 756 (by decide +kernel) rfl), (gT0_tb 10 (by decide +kernel) rfl), (gT0_tb 759 rfl rfl), by decide +kernel⟩, (gT0_tb 757 (by decide +kernel) rfl), (gT0_tb 758 (by decide +kernel) rfl)⟩
set_option maxRecDepth 100000 in
theorem slX11_262 : gVl RX11 262 yX6_asked cX6_asked 1 (some .int) 0 := ⟨⟨Or.inl (gT0_tb 760 (by decide +kernel) rfl), (gT0_tb 10 (by decide +kernel) rfl), (gT0_tb 763 rfl rfl), by decide +kernel⟩, (gT0_tb 761 (by decide +kernel) rfl), (gT0_tb 762 (by decide +kernel) rfl)⟩
theorem kcX11_265 : Cond.constant RX11 265 (-1000000002) ∈ gT0 := (gT0_tb 764 (by decide +kernel) rfl)
theorem kcX11_266 : Cond.constantLong RX11 266 (-3) ∈ gT0 := (gT0_tb 769 (by decide +kernel) rfl)
theorem kcX11_268 : Cond.constant RX11 268 (-60000) ∈ gT0 := (gT0_tb 770 (by decide +kernel) rfl)
theorem kcX11_269 : Cond.constant RX11 269 (60000) ∈ gT0 := (gT0_tb 771 (by decide +kernel) rfl)
set_option maxRecDepth 100000 in
theorem slX11_270 : gVl RX11 270 yX8_exactly cX8_exactly 8 (some .long) 1 := ⟨⟨Or.inl (gT0_tb 615 (by decide +kernel) rfl), (gT0_tb 8 (by decide +kernel) rfl), (gT0_tb 618 rfl rfl), by decide +kernel⟩, (gT0_tb 616 (by decide +kernel) rfl), (gT0_tb 617 (by decide +kernel) rfl)⟩
set_option maxRecDepth 100000 in
theorem slX11_274 : gVl RX11 274 yX1_isFull cX1_isFull 1 (some .boolean) 0 := ⟨⟨Or.inl (gT0_tb 776 (by decide +kernel) rfl), (gT0_tb 13 (by decide +kernel) rfl), (gT0_tb 779 rfl rfl), by decide +kernel⟩, (gT0_tb 777 (by decide +kernel) rfl), (gT0_tb 778 (by decide +kernel) rfl)⟩
set_option maxRecDepth 100000 in
theorem slX11_275 : gVl RX11 275 yX1_add cX1_add 3 (some .int) 1 := ⟨⟨Or.inl (gT0_tb 780 (by decide +kernel) rfl), (gT0_tb 13 (by decide +kernel) rfl), (gT0_tb 783 rfl rfl), by decide +kernel⟩, (gT0_tb 781 (by decide +kernel) rfl), (gT0_tb 782 (by decide +kernel) rfl)⟩
set_option maxRecDepth 100000 in
theorem slX11_278 : gVl RX11 278 yX1_countRejected cX1_countRejected 6 (some .int) 2 := ⟨⟨Or.inl (gT0_tb 801 (by decide +kernel) rfl), (gT0_tb 13 (by decide +kernel) rfl), (gT0_tb 804 rfl rfl), by decide +kernel⟩, (gT0_tb 802 (by decide +kernel) rfl), (gT0_tb 803 (by decide +kernel) rfl)⟩
set_option maxRecDepth 100000 in
theorem slX11_281 : gVl RX11 281 yX1_has cX1_has 2 (some .boolean) 1 := ⟨⟨Or.inl (gT0_tb 810 (by decide +kernel) rfl), (gT0_tb 13 (by decide +kernel) rfl), (gT0_tb 813 rfl rfl), by decide +kernel⟩, (gT0_tb 811 (by decide +kernel) rfl), (gT0_tb 812 (by decide +kernel) rfl)⟩
set_option maxRecDepth 100000 in
theorem slX11_282 : gVl RX11 282 yX1_placeOf cX1_placeOf 3 (some .int) 1 := ⟨⟨Or.inl (gT0_tb 814 (by decide +kernel) rfl), (gT0_tb 13 (by decide +kernel) rfl), (gT0_tb 817 rfl rfl), by decide +kernel⟩, (gT0_tb 815 (by decide +kernel) rfl), (gT0_tb 816 (by decide +kernel) rfl)⟩
theorem kcX11_285 : Cond.constant RX11 285 (65535) ∈ gT0 := (gT0_tb 822 (by decide +kernel) rfl)
set_option maxRecDepth 100000 in
theorem slX11_286 : gVl RX11 286 yX2_countWords cX2_countWords 1 (some .int) 0 := ⟨⟨Or.inl (gT0_tb 827 (by decide +kernel) rfl), (gT0_tb 11 (by decide +kernel) rfl), (gT0_tb 830 rfl rfl), by decide +kernel⟩, (gT0_tb 828 (by decide +kernel) rfl), (gT0_tb 829 (by decide +kernel) rfl)⟩
set_option maxRecDepth 100000 in
theorem slX11_289 : gSl RX11 289 yJ9_min_7cf53 cJ9_min_7cf53 2 (some .int) 2 := ⟨⟨Or.inl (gT0_tb 836 (by decide +kernel) rfl), (gT0_tb 4 (by decide +kernel) rfl), (gT0_tb 407 rfl rfl), by decide +kernel⟩, (gT0_tb 406 (by decide +kernel) rfl)⟩
set_option maxRecDepth 100000 in
theorem slX11_292 : gVl RX11 292 yX2_wordInTurn cX2_wordInTurn 3 (some .int) 1 := ⟨⟨Or.inl (gT0_tb 837 (by decide +kernel) rfl), (gT0_tb 11 (by decide +kernel) rfl), (gT0_tb 840 rfl rfl), by decide +kernel⟩, (gT0_tb 838 (by decide +kernel) rfl), (gT0_tb 839 (by decide +kernel) rfl)⟩
set_option maxRecDepth 100000 in
theorem slX11_295 : gVl RX11 295 yX11_shiftInPlace cX11_shiftInPlace 5 (some .int) 1 := ⟨⟨Or.inl (gT0_tb 846 (by decide +kernel) rfl), (gT0_tb 1 (by decide +kernel) rfl), (gT0_tb 849 rfl rfl), by decide +kernel⟩, (gT0_tb 848 (by decide +kernel) rfl), (gT0_sl 23 (by decide +kernel) rfl)⟩
set_option maxRecDepth 100000 in
theorem slX11_298 : gVl RX11 298 yX1_size cX1_size 1 (some .int) 0 := ⟨⟨Or.inl (gT0_tb 858 (by decide +kernel) rfl), (gT0_tb 13 (by decide +kernel) rfl), (gT0_tb 861 rfl rfl), by decide +kernel⟩, (gT0_tb 859 (by decide +kernel) rfl), (gT0_tb 860 (by decide +kernel) rfl)⟩
theorem kcX11_299 : Cond.constant RX11 299 (1000000) ∈ gT0 := (gT0_tb 743 (by decide +kernel) rfl)
set_option maxRecDepth 100000 in
theorem slX11_300 : gVl RX11 300 yX5_countBelow cX5_countBelow 4 (some .int) 1 := ⟨⟨Or.inl (gT0_tb 574 (by decide +kernel) rfl), (gT0_tb 3 (by decide +kernel) rfl), (gT0_tb 577 rfl rfl), by decide +kernel⟩, (gT0_tb 575 (by decide +kernel) rfl), (gT0_tb 576 (by decide +kernel) rfl)⟩
set_option maxRecDepth 100000 in
theorem slX11_303 : gSl RX11 303 yX11_twiceMeanPlace cX11_twiceMeanPlace 2 (some .int) 2 := ⟨⟨Or.inl (gT0_tb 582 (by decide +kernel) rfl), (gT0_tb 1 (by decide +kernel) rfl), (gT0_tb 584 rfl rfl), by decide +kernel⟩, (gT0_tb 583 (by decide +kernel) rfl)⟩
set_option maxRecDepth 100000 in
theorem slX11_306 : gVl RX11 306 yX8_countAll cX8_countAll 1 (some .long) 0 := ⟨⟨Or.inl (gT0_tb 607 (by decide +kernel) rfl), (gT0_tb 8 (by decide +kernel) rfl), (gT0_tb 610 rfl rfl), by decide +kernel⟩, (gT0_tb 608 (by decide +kernel) rfl), (gT0_tb 609 (by decide +kernel) rfl)⟩
set_option maxRecDepth 100000 in
theorem slX11_310 : gVl RX11 310 yX8_upTo cX8_upTo 10 (some .long) 1 := ⟨⟨Or.inl (gT0_tb 611 (by decide +kernel) rfl), (gT0_tb 8 (by decide +kernel) rfl), (gT0_tb 614 rfl rfl), by decide +kernel⟩, (gT0_tb 612 (by decide +kernel) rfl), (gT0_tb 613 (by decide +kernel) rfl)⟩
set_option maxRecDepth 100000 in
theorem slX11_313 : gVl RX11 313 yX2_setLongs cX2_setLongs 5 none 2 := ⟨⟨Or.inl (gT0_tb 619 (by decide +kernel) rfl), (gT0_tb 11 (by decide +kernel) rfl), (gT0_tb 622 rfl rfl), by decide +kernel⟩, (gT0_tb 620 (by decide +kernel) rfl), (gT0_tb 621 (by decide +kernel) rfl)⟩
set_option maxRecDepth 100000 in
theorem slX11_317 : gSl RX11 317 yJ9_floorDiv_7cf53 cJ9_floorDiv_7cf53 3 (some .int) 2 := ⟨⟨Or.inl (gT0_tb 624 (by decide +kernel) rfl), (gT0_tb 4 (by decide +kernel) rfl), (gT0_tb 626 rfl rfl), by decide +kernel⟩, (gT0_tb 625 (by decide +kernel) rfl)⟩
set_option maxRecDepth 100000 in
theorem slX11_320 : gVl RX11 320 yX11_countShiftsUpTo cX11_countShiftsUpTo 4 (some .int) 1 := ⟨⟨Or.inl (gT0_tb 850 (by decide +kernel) rfl), (gT0_tb 1 (by decide +kernel) rfl), (gT0_tb 853 rfl rfl), by decide +kernel⟩, (gT0_tb 852 (by decide +kernel) rfl), (gT0_sl 24 (by decide +kernel) rfl)⟩
theorem oiX12_1 : Cond.methodLink RX12 1 Lib.objectInit ∈ gT0 := (gT0_tb 867 (by decide +kernel) rfl)
theorem lpX12_7 : gLp RX12 7 12 0 (.array .int) true := ⟨RX12, TX12, 47, tyX12, rfl, by decide, inX12, tyX12_ok, nmX12, rfl, tyX12_ok 0 (by decide), rfl, (gT0_tb 871 (by decide +kernel) rfl)⟩
theorem lpX12_13 : gLp RX12 13 12 1 (.array .int) true := ⟨RX12, TX12, 47, tyX12, rfl, by decide, inX12, tyX12_ok, nmX12, rfl, tyX12_ok 1 (by decide), rfl, (gT0_tb 872 (by decide +kernel) rfl)⟩
theorem lpX12_16 : gLp RX12 16 12 2 (.array .int) true := ⟨RX12, TX12, 47, tyX12, rfl, by decide, inX12, tyX12_ok, nmX12, rfl, tyX12_ok 2 (by decide), rfl, (gT0_tb 873 (by decide +kernel) rfl)⟩
theorem lpX12_19 : gLp RX12 19 12 3 (.array .int) true := ⟨RX12, TX12, 47, tyX12, rfl, by decide, inX12, tyX12_ok, nmX12, rfl, tyX12_ok 3 (by decide), rfl, (gT0_tb 874 (by decide +kernel) rfl)⟩
theorem lpX12_22 : gLp RX12 22 12 6 (.array .int) true := ⟨RX12, TX12, 47, tyX12, rfl, by decide, inX12, tyX12_ok, nmX12, rfl, tyX12_ok 6 (by decide), rfl, (gT0_tb 877 (by decide +kernel) rfl)⟩
theorem lpX12_25 : gLp RX12 25 12 8 (.array .int) true := ⟨RX12, TX12, 47, tyX12, rfl, by decide, inX12, tyX12_ok, nmX12, rfl, tyX12_ok 8 (by decide), rfl, (gT0_tb 879 (by decide +kernel) rfl)⟩
theorem lpX12_28 : gLp RX12 28 12 9 (.array .int) true := ⟨RX12, TX12, 47, tyX12, rfl, by decide, inX12, tyX12_ok, nmX12, rfl, tyX12_ok 9 (by decide), rfl, (gT0_tb 880 (by decide +kernel) rfl)⟩
theorem lpX12_31 : gLp RX12 31 12 10 (.array .int) true := ⟨RX12, TX12, 47, tyX12, rfl, by decide, inX12, tyX12_ok, nmX12, rfl, tyX12_ok 10 (by decide), rfl, (gT0_tb 881 (by decide +kernel) rfl)⟩
theorem lpX12_34 : gLp RX12 34 12 12 (.int) false := ⟨RX12, TX12, 47, tyX12, rfl, by decide, inX12, tyX12_ok, nmX12, rfl, tyX12_ok 12 (by decide), rfl, (gT0_tb 883 (by decide +kernel) rfl)⟩
theorem lpX12_38 : gLp RX12 38 12 15 (.array .int) true := ⟨RX12, TX12, 47, tyX12, rfl, by decide, inX12, tyX12_ok, nmX12, rfl, tyX12_ok 15 (by decide), rfl, (gT0_tb 886 (by decide +kernel) rfl)⟩
theorem lpX12_41 : gLp RX12 41 12 16 (.array .int) true := ⟨RX12, TX12, 47, tyX12, rfl, by decide, inX12, tyX12_ok, nmX12, rfl, tyX12_ok 16 (by decide), rfl, (gT0_tb 887 (by decide +kernel) rfl)⟩
theorem kcX12_44 : Cond.constant RX12 44 (60001) ∈ gT0 := (gT0_tb 868 (by decide +kernel) rfl)
theorem lpX12_45 : gLp RX12 45 12 17 (.array .long) true := ⟨RX12, TX12, 47, tyX12, rfl, by decide, inX12, tyX12_ok, nmX12, rfl, tyX12_ok 17 (by decide), rfl, (gT0_tb 888 (by decide +kernel) rfl)⟩
theorem lpX12_49 : gLp RX12 49 12 20 (.array .int) true := ⟨RX12, TX12, 47, tyX12, rfl, by decide, inX12, tyX12_ok, nmX12, rfl, tyX12_ok 20 (by decide), rfl, (gT0_tb 891 (by decide +kernel) rfl)⟩
theorem lpX12_52 : gLp RX12 52 12 21 (.array .int) true := ⟨RX12, TX12, 47, tyX12, rfl, by decide, inX12, tyX12_ok, nmX12, rfl, tyX12_ok 21 (by decide), rfl, (gT0_tb 892 (by decide +kernel) rfl)⟩
theorem lpX12_55 : gLp RX12 55 12 22 (.array .int) true := ⟨RX12, TX12, 47, tyX12, rfl, by decide, inX12, tyX12_ok, nmX12, rfl, tyX12_ok 22 (by decide), rfl, (gT0_tb 893 (by decide +kernel) rfl)⟩
theorem lpX12_58 : gLp RX12 58 12 23 (.array .int) true := ⟨RX12, TX12, 47, tyX12, rfl, by decide, inX12, tyX12_ok, nmX12, rfl, tyX12_ok 23 (by decide), rfl, (gT0_tb 894 (by decide +kernel) rfl)⟩
theorem kcX12_61 : Cond.constant RX12 61 (500000) ∈ gT0 := (gT0_tb 869 (by decide +kernel) rfl)
theorem lpX12_62 : gLp RX12 62 12 24 (.array .byte) true := ⟨RX12, TX12, 47, tyX12, rfl, by decide, inX12, tyX12_ok, nmX12, rfl, tyX12_ok 24 (by decide), rfl, (gT0_tb 895 (by decide +kernel) rfl)⟩
theorem lpX12_66 : gLp RX12 66 12 28 (.array .byte) true := ⟨RX12, TX12, 47, tyX12, rfl, by decide, inX12, tyX12_ok, nmX12, rfl, tyX12_ok 28 (by decide), rfl, (gT0_tb 899 (by decide +kernel) rfl)⟩
theorem lpX12_69 : gLp RX12 69 12 29 (.array .int) true := ⟨RX12, TX12, 47, tyX12, rfl, by decide, inX12, tyX12_ok, nmX12, rfl, tyX12_ok 29 (by decide), rfl, (gT0_tb 900 (by decide +kernel) rfl)⟩
theorem lpX12_72 : gLp RX12 72 12 30 (.array .int) true := ⟨RX12, TX12, 47, tyX12, rfl, by decide, inX12, tyX12_ok, nmX12, rfl, tyX12_ok 30 (by decide), rfl, (gT0_tb 901 (by decide +kernel) rfl)⟩
theorem lpX12_75 : gLp RX12 75 12 31 (.array .int) true := ⟨RX12, TX12, 47, tyX12, rfl, by decide, inX12, tyX12_ok, nmX12, rfl, tyX12_ok 31 (by decide), rfl, (gT0_tb 902 (by decide +kernel) rfl)⟩
theorem lpX12_78 : gLp RX12 78 12 32 (.array .int) true := ⟨RX12, TX12, 47, tyX12, rfl, by decide, inX12, tyX12_ok, nmX12, rfl, tyX12_ok 32 (by decide), rfl, (gT0_tb 903 (by decide +kernel) rfl)⟩
theorem lpX12_81 : gLp RX12 81 12 33 (.array .int) true := ⟨RX12, TX12, 47, tyX12, rfl, by decide, inX12, tyX12_ok, nmX12, rfl, tyX12_ok 33 (by decide), rfl, (gT0_tb 904 (by decide +kernel) rfl)⟩
theorem lpX12_84 : gLp RX12 84 12 35 (.array .int) true := ⟨RX12, TX12, 47, tyX12, rfl, by decide, inX12, tyX12_ok, nmX12, rfl, tyX12_ok 35 (by decide), rfl, (gT0_tb 906 (by decide +kernel) rfl)⟩
theorem kcX12_87 : Cond.constant RX12 87 (480016) ∈ gT0 := (gT0_tb 870 (by decide +kernel) rfl)
theorem lpX12_88 : gLp RX12 88 12 36 (.array .long) true := ⟨RX12, TX12, 47, tyX12, rfl, by decide, inX12, tyX12_ok, nmX12, rfl, tyX12_ok 36 (by decide), rfl, (gT0_tb 907 (by decide +kernel) rfl)⟩
theorem lpX12_91 : gLp RX12 91 12 37 (.array .int) true := ⟨RX12, TX12, 47, tyX12, rfl, by decide, inX12, tyX12_ok, nmX12, rfl, tyX12_ok 37 (by decide), rfl, (gT0_tb 908 (by decide +kernel) rfl)⟩
theorem lpX12_94 : gLp RX12 94 12 38 (.array .int) true := ⟨RX12, TX12, 47, tyX12, rfl, by decide, inX12, tyX12_ok, nmX12, rfl, tyX12_ok 38 (by decide), rfl, (gT0_tb 909 (by decide +kernel) rfl)⟩
theorem lpX12_97 : gLp RX12 97 12 39 (.array .int) true := ⟨RX12, TX12, 47, tyX12, rfl, by decide, inX12, tyX12_ok, nmX12, rfl, tyX12_ok 39 (by decide), rfl, (gT0_tb 910 (by decide +kernel) rfl)⟩
theorem lpX12_100 : gLp RX12 100 12 41 (.array .int) true := ⟨RX12, TX12, 47, tyX12, rfl, by decide, inX12, tyX12_ok, nmX12, rfl, tyX12_ok 41 (by decide), rfl, (gT0_tb 912 (by decide +kernel) rfl)⟩
theorem lpX12_103 : gLp RX12 103 12 42 (.array .int) true := ⟨RX12, TX12, 47, tyX12, rfl, by decide, inX12, tyX12_ok, nmX12, rfl, tyX12_ok 42 (by decide), rfl, (gT0_tb 913 (by decide +kernel) rfl)⟩
theorem lpX12_106 : gLp RX12 106 12 43 (.array .int) true := ⟨RX12, TX12, 47, tyX12, rfl, by decide, inX12, tyX12_ok, nmX12, rfl, tyX12_ok 43 (by decide), rfl, (gT0_tb 914 (by decide +kernel) rfl)⟩
theorem lpX12_109 : gLp RX12 109 12 44 (.array .int) true := ⟨RX12, TX12, 47, tyX12, rfl, by decide, inX12, tyX12_ok, nmX12, rfl, tyX12_ok 44 (by decide), rfl, (gT0_tb 915 (by decide +kernel) rfl)⟩
theorem lpX12_112 : gLp RX12 112 12 46 (.array .int) true := ⟨RX12, TX12, 47, tyX12, rfl, by decide, inX12, tyX12_ok, nmX12, rfl, tyX12_ok 46 (by decide), rfl, (gT0_tb 917 (by decide +kernel) rfl)⟩
theorem lpX12_115 : gLp RX12 115 12 4 (.int) false := ⟨RX12, TX12, 47, tyX12, rfl, by decide, inX12, tyX12_ok, nmX12, rfl, tyX12_ok 4 (by decide), rfl, (gT0_tb 875 (by decide +kernel) rfl)⟩
theorem lpX12_118 : gLp RX12 118 12 5 (.int) false := ⟨RX12, TX12, 47, tyX12, rfl, by decide, inX12, tyX12_ok, nmX12, rfl, tyX12_ok 5 (by decide), rfl, (gT0_tb 876 (by decide +kernel) rfl)⟩
theorem kcX12_121 : Cond.constantLong RX12 121 (16777215) ∈ gT0 := (gT0_tb 1081 (by decide +kernel) rfl)
theorem kcX12_123 : Cond.constant RX12 123 (16777215) ∈ gT0 := (gT0_tb 1110 (by decide +kernel) rfl)
theorem kcX12_124 : Cond.constant RX12 124 (16777216) ∈ gT0 := (gT0_tb 1135 (by decide +kernel) rfl)
theorem kcX12_125 : Cond.constantLong RX12 125 (16777216) ∈ gT0 := (gT0_tb 1099 (by decide +kernel) rfl)
theorem lkX12_7 : gLk RX12 7 12 0 := ⟨RX12, TX12, 47, rfl, by decide, inX12, Or.inl (gT0_tb 871 (by decide +kernel) rfl)⟩
set_option maxRecDepth 100000 in
theorem slX12_127 : gSl RX12 127 yX12_set cX12_set 7 none 3 := ⟨⟨Or.inl (gT0_tb 1078 (by decide +kernel) rfl), (gT0_tb 14 (by decide +kernel) rfl), (gT0_tb 1080 rfl rfl), by decide +kernel⟩, (gT0_tb 1079 (by decide +kernel) rfl)⟩
theorem lkX12_13 : gLk RX12 13 12 1 := ⟨RX12, TX12, 47, rfl, by decide, inX12, Or.inl (gT0_tb 872 (by decide +kernel) rfl)⟩
set_option maxRecDepth 100000 in
theorem slX12_131 : gSl RX12 131 yX12_bitsOf cX12_bitsOf 4 (some .int) 2 := ⟨⟨Or.inl (gT0_tb 1119 (by decide +kernel) rfl), (gT0_tb 14 (by decide +kernel) rfl), (gT0_tb 1121 rfl rfl), by decide +kernel⟩, (gT0_tb 1120 (by decide +kernel) rfl)⟩
set_option maxRecDepth 100000 in
theorem slX12_135 : gSl RX12 135 yX12_bitAt cX12_bitAt 3 (some .int) 3 := ⟨⟨Or.inl (gT0_tb 1126 (by decide +kernel) rfl), (gT0_tb 14 (by decide +kernel) rfl), (gT0_tb 1128 rfl rfl), by decide +kernel⟩, (gT0_tb 1127 (by decide +kernel) rfl)⟩
set_option maxRecDepth 100000 in
theorem slX12_139 : gSl RX12 139 yX12_twice cX12_twice 6 none 3 := ⟨⟨Or.inl (gT0_tb 1129 (by decide +kernel) rfl), (gT0_tb 14 (by decide +kernel) rfl), (gT0_tb 1131 rfl rfl), by decide +kernel⟩, (gT0_tb 1130 (by decide +kernel) rfl)⟩
set_option maxRecDepth 100000 in
theorem slX12_143 : gSl RX12 143 yX12_compare cX12_compare 5 (some .int) 4 := ⟨⟨Or.inl (gT0_tb 1104 (by decide +kernel) rfl), (gT0_tb 14 (by decide +kernel) rfl), (gT0_tb 1106 rfl rfl), by decide +kernel⟩, (gT0_tb 1105 (by decide +kernel) rfl)⟩
set_option maxRecDepth 100000 in
theorem slX12_147 : gSl RX12 147 yX12_subtract cX12_subtract 7 none 4 := ⟨⟨Or.inl (gT0_tb 1132 (by decide +kernel) rfl), (gT0_tb 14 (by decide +kernel) rfl), (gT0_tb 1134 rfl rfl), by decide +kernel⟩, (gT0_tb 1133 (by decide +kernel) rfl)⟩
theorem lkX12_16 : gLk RX12 16 12 2 := ⟨RX12, TX12, 47, rfl, by decide, inX12, Or.inl (gT0_tb 873 (by decide +kernel) rfl)⟩
set_option maxRecDepth 100000 in
theorem slX12_151 : gSl RX12 151 yX12_copy cX12_copy 5 none 4 := ⟨⟨Or.inl (gT0_tb 1093 (by decide +kernel) rfl), (gT0_tb 14 (by decide +kernel) rfl), (gT0_tb 1095 rfl rfl), by decide +kernel⟩, (gT0_tb 1094 (by decide +kernel) rfl)⟩
theorem lkX12_19 : gLk RX12 19 12 3 := ⟨RX12, TX12, 47, rfl, by decide, inX12, Or.inl (gT0_tb 874 (by decide +kernel) rfl)⟩
set_option maxRecDepth 100000 in
theorem slX12_154 : gVl RX12 154 yX12_part cX12_part 6 none 4 := ⟨⟨Or.inl (gT0_tb 1122 (by decide +kernel) rfl), (gT0_tb 14 (by decide +kernel) rfl), (gT0_tb 1125 rfl rfl), by decide +kernel⟩, (gT0_tb 1124 (by decide +kernel) rfl), (gT0_sl 37 (by decide +kernel) rfl)⟩
theorem kcX12_157 : Cond.constantLong RX12 157 (5) ∈ gT0 := (gT0_tb 1018 (by decide +kernel) rfl)
set_option maxRecDepth 100000 in
theorem slX12_159 : gSl RX12 159 yX12_in cX12_in 6 (some .boolean) 3 := ⟨⟨Or.inl (gT0_tb 1019 (by decide +kernel) rfl), (gT0_tb 14 (by decide +kernel) rfl), (gT0_tb 1021 rfl rfl), by decide +kernel⟩, (gT0_tb 1020 (by decide +kernel) rfl)⟩
theorem lkX12_22 : gLk RX12 22 12 6 := ⟨RX12, TX12, 47, rfl, by decide, inX12, Or.inl (gT0_tb 877 (by decide +kernel) rfl)⟩
theorem lpX12_163 : gLp RX12 163 12 7 (.int) false := ⟨RX12, TX12, 47, tyX12, rfl, by decide, inX12, tyX12_ok, nmX12, rfl, tyX12_ok 7 (by decide), rfl, (gT0_tb 878 (by decide +kernel) rfl)⟩
theorem lkX12_115 : gLk RX12 115 12 4 := ⟨RX12, TX12, 47, rfl, by decide, inX12, Or.inl (gT0_tb 875 (by decide +kernel) rfl)⟩
theorem lkX12_118 : gLk RX12 118 12 5 := ⟨RX12, TX12, 47, rfl, by decide, inX12, Or.inl (gT0_tb 876 (by decide +kernel) rfl)⟩
theorem kcX12_166 : Cond.constantLong RX12 166 (60) ∈ gT0 := (gT0_tb 1026 (by decide +kernel) rfl)
theorem lkX12_163 : gLk RX12 163 12 7 := ⟨RX12, TX12, 47, rfl, by decide, inX12, Or.inl (gT0_tb 878 (by decide +kernel) rfl)⟩
theorem kcX12_168 : Cond.constantLong RX12 168 (3) ∈ gT0 := (gT0_tb 1031 (by decide +kernel) rfl)
set_option maxRecDepth 100000 in
theorem slX12_170 : gVl RX12 170 yX12_marginOfRow cX12_marginOfRow 4 (some .int) 1 := ⟨⟨Or.inl (gT0_tb 1032 (by decide +kernel) rfl), (gT0_tb 14 (by decide +kernel) rfl), (gT0_tb 1035 rfl rfl), by decide +kernel⟩, (gT0_tb 1034 (by decide +kernel) rfl), (gT0_sl 25 (by decide +kernel) rfl)⟩
set_option maxRecDepth 100000 in
theorem slX12_174 : gVl RX12 174 yX12_marginOfColumn cX12_marginOfColumn 4 (some .int) 1 := ⟨⟨Or.inl (gT0_tb 1036 (by decide +kernel) rfl), (gT0_tb 14 (by decide +kernel) rfl), (gT0_tb 1039 rfl rfl), by decide +kernel⟩, (gT0_tb 1038 (by decide +kernel) rfl), (gT0_sl 26 (by decide +kernel) rfl)⟩
theorem kcX12_177 : Cond.constantLong RX12 177 (-1000) ∈ gT0 := (gT0_tb 1044 (by decide +kernel) rfl)
theorem kcX12_179 : Cond.constantLong RX12 179 (1000) ∈ gT0 := (gT0_tb 1045 (by decide +kernel) rfl)
theorem lkX12_28 : gLk RX12 28 12 9 := ⟨RX12, TX12, 47, rfl, by decide, inX12, Or.inl (gT0_tb 880 (by decide +kernel) rfl)⟩
theorem lkX12_25 : gLk RX12 25 12 8 := ⟨RX12, TX12, 47, rfl, by decide, inX12, Or.inl (gT0_tb 879 (by decide +kernel) rfl)⟩
theorem lkX12_181 : gLk RX12 181 12 11 := ⟨RX12, TX12, 47, rfl, by decide, inX12, Or.inl (gT0_tb 882 (by decide +kernel) rfl)⟩
theorem lkX12_31 : gLk RX12 31 12 10 := ⟨RX12, TX12, 47, rfl, by decide, inX12, Or.inl (gT0_tb 881 (by decide +kernel) rfl)⟩
theorem lpX12_181 : gLp RX12 181 12 11 (.int) false := ⟨RX12, TX12, 47, tyX12, rfl, by decide, inX12, tyX12_ok, nmX12, rfl, tyX12_ok 11 (by decide), rfl, (gT0_tb 882 (by decide +kernel) rfl)⟩
theorem lkX12_184 : gLk RX12 184 12 40 := ⟨RX12, TX12, 47, rfl, by decide, inX12, Or.inl (gT0_tb 911 (by decide +kernel) rfl)⟩
theorem lpX12_184 : gLp RX12 184 12 40 (.int) false := ⟨RX12, TX12, 47, tyX12, rfl, by decide, inX12, tyX12_ok, nmX12, rfl, tyX12_ok 40 (by decide), rfl, (gT0_tb 911 (by decide +kernel) rfl)⟩
theorem lkX12_187 : gLk RX12 187 12 45 := ⟨RX12, TX12, 47, rfl, by decide, inX12, Or.inl (gT0_tb 916 (by decide +kernel) rfl)⟩
theorem lpX12_187 : gLp RX12 187 12 45 (.int) false := ⟨RX12, TX12, 47, tyX12, rfl, by decide, inX12, tyX12_ok, nmX12, rfl, tyX12_ok 45 (by decide), rfl, (gT0_tb 916 (by decide +kernel) rfl)⟩
theorem lkX12_38 : gLk RX12 38 12 15 := ⟨RX12, TX12, 47, rfl, by decide, inX12, Or.inl (gT0_tb 886 (by decide +kernel) rfl)⟩
set_option maxRecDepth 100000 in
theorem slX12_190 : gVl RX12 190 yX12_findCommon cX12_findCommon 5 none 4 := ⟨⟨Or.inl (gT0_tb 1115 (by decide +kernel) rfl), (gT0_tb 14 (by decide +kernel) rfl), (gT0_tb 1118 rfl rfl), by decide +kernel⟩, (gT0_tb 1117 (by decide +kernel) rfl), (gT0_sl 36 (by decide +kernel) rfl)⟩
theorem lkX12_41 : gLk RX12 41 12 16 := ⟨RX12, TX12, 47, rfl, by decide, inX12, Or.inl (gT0_tb 887 (by decide +kernel) rfl)⟩
theorem lkX12_55 : gLk RX12 55 12 22 := ⟨RX12, TX12, 47, rfl, by decide, inX12, Or.inl (gT0_tb 893 (by decide +kernel) rfl)⟩
theorem lkX12_49 : gLk RX12 49 12 20 := ⟨RX12, TX12, 47, rfl, by decide, inX12, Or.inl (gT0_tb 891 (by decide +kernel) rfl)⟩
set_option maxRecDepth 100000 in
theorem slX12_193 : gVl RX12 193 yX12_columnLeft cX12_columnLeft 5 (some .int) 2 := ⟨⟨Or.inl (gT0_tb 1070 (by decide +kernel) rfl), (gT0_tb 14 (by decide +kernel) rfl), (gT0_tb 1073 rfl rfl), by decide +kernel⟩, (gT0_tb 1072 (by decide +kernel) rfl), (gT0_sl 30 (by decide +kernel) rfl)⟩
theorem lkX12_52 : gLk RX12 52 12 21 := ⟨RX12, TX12, 47, rfl, by decide, inX12, Or.inl (gT0_tb 892 (by decide +kernel) rfl)⟩
theorem lkX12_58 : gLk RX12 58 12 23 := ⟨RX12, TX12, 47, rfl, by decide, inX12, Or.inl (gT0_tb 894 (by decide +kernel) rfl)⟩
set_option maxRecDepth 100000 in
theorem slX12_197 : gVl RX12 197 yX12_openFrom cX12_openFrom 3 none 1 := ⟨⟨Or.inl (gT0_tb 1062 (by decide +kernel) rfl), (gT0_tb 14 (by decide +kernel) rfl), (gT0_tb 1065 rfl rfl), by decide +kernel⟩, (gT0_tb 1064 (by decide +kernel) rfl), (gT0_sl 28 (by decide +kernel) rfl)⟩
set_option maxRecDepth 100000 in
theorem slX12_201 : gVl RX12 201 yX12_open cX12_open 7 none 1 := ⟨⟨Or.inl (gT0_tb 1066 (by decide +kernel) rfl), (gT0_tb 14 (by decide +kernel) rfl), (gT0_tb 1069 rfl rfl), by decide +kernel⟩, (gT0_tb 1068 (by decide +kernel) rfl), (gT0_sl 29 (by decide +kernel) rfl)⟩
set_option maxRecDepth 100000 in
theorem slX12_204 : gSl RX12 204 yX12_multiply cX12_multiply 6 none 3 := ⟨⟨Or.inl (gT0_tb 1086 (by decide +kernel) rfl), (gT0_tb 14 (by decide +kernel) rfl), (gT0_tb 1088 rfl rfl), by decide +kernel⟩, (gT0_tb 1087 (by decide +kernel) rfl)⟩
theorem lkX12_69 : gLk RX12 69 12 29 := ⟨RX12, TX12, 47, rfl, by decide, inX12, Or.inl (gT0_tb 900 (by decide +kernel) rfl)⟩
set_option maxRecDepth 100000 in
theorem slX12_207 : gSl RX12 207 yX12_divide cX12_divide 6 none 3 := ⟨⟨Or.inl (gT0_tb 1096 (by decide +kernel) rfl), (gT0_tb 14 (by decide +kernel) rfl), (gT0_tb 1098 rfl rfl), by decide +kernel⟩, (gT0_tb 1097 (by decide +kernel) rfl)⟩
set_option maxRecDepth 100000 in
theorem slX12_210 : gVl RX12 210 yX12_firstTable cX12_firstTable 2 none 0 := ⟨⟨Or.inl (gT0_tb 1058 (by decide +kernel) rfl), (gT0_tb 14 (by decide +kernel) rfl), (gT0_tb 1061 rfl rfl), by decide +kernel⟩, (gT0_tb 1060 (by decide +kernel) rfl), (gT0_sl 27 (by decide +kernel) rfl)⟩
set_option maxRecDepth 100000 in
theorem slX12_213 : gVl RX12 213 yX12_nextTable cX12_nextTable 2 (some .boolean) 0 := ⟨⟨Or.inl (gT0_tb 1074 (by decide +kernel) rfl), (gT0_tb 14 (by decide +kernel) rfl), (gT0_tb 1077 rfl rfl), by decide +kernel⟩, (gT0_tb 1076 (by decide +kernel) rfl), (gT0_sl 31 (by decide +kernel) rfl)⟩
set_option maxRecDepth 100000 in
theorem slX12_217 : gVl RX12 217 yX12_timesFactorial cX12_timesFactorial 4 none 2 := ⟨⟨Or.inl (gT0_tb 1082 (by decide +kernel) rfl), (gT0_tb 14 (by decide +kernel) rfl), (gT0_tb 1085 rfl rfl), by decide +kernel⟩, (gT0_tb 1084 (by decide +kernel) rfl), (gT0_sl 32 (by decide +kernel) rfl)⟩
theorem lkX12_75 : gLk RX12 75 12 31 := ⟨RX12, TX12, 47, rfl, by decide, inX12, Or.inl (gT0_tb 902 (by decide +kernel) rfl)⟩
set_option maxRecDepth 100000 in
theorem slX12_221 : gVl RX12 221 yX12_weigh cX12_weigh 5 none 2 := ⟨⟨Or.inl (gT0_tb 1089 (by decide +kernel) rfl), (gT0_tb 14 (by decide +kernel) rfl), (gT0_tb 1092 rfl rfl), by decide +kernel⟩, (gT0_tb 1091 (by decide +kernel) rfl), (gT0_sl 33 (by decide +kernel) rfl)⟩
theorem lkX12_78 : gLk RX12 78 12 32 := ⟨RX12, TX12, 47, rfl, by decide, inX12, Or.inl (gT0_tb 903 (by decide +kernel) rfl)⟩
theorem lkX12_72 : gLk RX12 72 12 30 := ⟨RX12, TX12, 47, rfl, by decide, inX12, Or.inl (gT0_tb 901 (by decide +kernel) rfl)⟩
set_option maxRecDepth 100000 in
theorem slX12_225 : gVl RX12 225 yX12_keepCase cX12_keepCase 3 none 1 := ⟨⟨Or.inl (gT0_tb 1100 (by decide +kernel) rfl), (gT0_tb 14 (by decide +kernel) rfl), (gT0_tb 1103 rfl rfl), by decide +kernel⟩, (gT0_tb 1102 (by decide +kernel) rfl), (gT0_sl 34 (by decide +kernel) rfl)⟩
theorem lpX12_228 : gLp RX12 228 12 25 (.int) false := ⟨RX12, TX12, 47, tyX12, rfl, by decide, inX12, tyX12_ok, nmX12, rfl, tyX12_ok 25 (by decide), rfl, (gT0_tb 896 (by decide +kernel) rfl)⟩
theorem lpX12_231 : gLp RX12 231 12 26 (.int) false := ⟨RX12, TX12, 47, tyX12, rfl, by decide, inX12, tyX12_ok, nmX12, rfl, tyX12_ok 26 (by decide), rfl, (gT0_tb 897 (by decide +kernel) rfl)⟩
theorem lpX12_234 : gLp RX12 234 12 27 (.int) false := ⟨RX12, TX12, 47, tyX12, rfl, by decide, inX12, tyX12_ok, nmX12, rfl, tyX12_ok 27 (by decide), rfl, (gT0_tb 898 (by decide +kernel) rfl)⟩
theorem lpX12_237 : gLp RX12 237 12 13 (.int) false := ⟨RX12, TX12, 47, tyX12, rfl, by decide, inX12, tyX12_ok, nmX12, rfl, tyX12_ok 13 (by decide), rfl, (gT0_tb 884 (by decide +kernel) rfl)⟩
theorem lpX12_240 : gLp RX12 240 12 14 (.int) false := ⟨RX12, TX12, 47, tyX12, rfl, by decide, inX12, tyX12_ok, nmX12, rfl, tyX12_ok 14 (by decide), rfl, (gT0_tb 885 (by decide +kernel) rfl)⟩
set_option maxRecDepth 100000 in
theorem slX12_243 : gVl RX12 243 yX12_shorten cX12_shorten 3 none 1 := ⟨⟨Or.inl (gT0_tb 1111 (by decide +kernel) rfl), (gT0_tb 14 (by decide +kernel) rfl), (gT0_tb 1114 rfl rfl), by decide +kernel⟩, (gT0_tb 1113 (by decide +kernel) rfl), (gT0_sl 35 (by decide +kernel) rfl)⟩
theorem lkX12_62 : gLk RX12 62 12 24 := ⟨RX12, TX12, 47, rfl, by decide, inX12, Or.inl (gT0_tb 895 (by decide +kernel) rfl)⟩
theorem lkX12_66 : gLk RX12 66 12 28 := ⟨RX12, TX12, 47, rfl, by decide, inX12, Or.inl (gT0_tb 899 (by decide +kernel) rfl)⟩
set_option maxRecDepth 100000 in
theorem slX12_247 : gSl RX12 247 yX12_add cX12_add 7 none 4 := ⟨⟨Or.inl (gT0_tb 1107 (by decide +kernel) rfl), (gT0_tb 14 (by decide +kernel) rfl), (gT0_tb 1109 rfl rfl), by decide +kernel⟩, (gT0_tb 1108 (by decide +kernel) rfl)⟩
theorem lkX12_228 : gLk RX12 228 12 25 := ⟨RX12, TX12, 47, rfl, by decide, inX12, Or.inl (gT0_tb 896 (by decide +kernel) rfl)⟩
theorem lkX12_231 : gLk RX12 231 12 26 := ⟨RX12, TX12, 47, rfl, by decide, inX12, Or.inl (gT0_tb 897 (by decide +kernel) rfl)⟩
theorem lkX12_234 : gLk RX12 234 12 27 := ⟨RX12, TX12, 47, rfl, by decide, inX12, Or.inl (gT0_tb 898 (by decide +kernel) rfl)⟩
theorem lkX12_250 : gLk RX12 250 12 34 := ⟨RX12, TX12, 47, rfl, by decide, inX12, Or.inl (gT0_tb 905 (by decide +kernel) rfl)⟩
theorem lkX12_81 : gLk RX12 81 12 33 := ⟨RX12, TX12, 47, rfl, by decide, inX12, Or.inl (gT0_tb 904 (by decide +kernel) rfl)⟩
theorem lpX12_250 : gLp RX12 250 12 34 (.int) false := ⟨RX12, TX12, 47, tyX12, rfl, by decide, inX12, tyX12_ok, nmX12, rfl, tyX12_ok 34 (by decide), rfl, (gT0_tb 905 (by decide +kernel) rfl)⟩
set_option maxRecDepth 100000 in
theorem slX12_253 : gSl RX12 253 yX12_sizeOf cX12_sizeOf 1 (some .int) 1 := ⟨⟨Or.inl (gT0_tb 1153 (by decide +kernel) rfl), (gT0_tb 14 (by decide +kernel) rfl), (gT0_tb 1155 rfl rfl), by decide +kernel⟩, (gT0_tb 1154 (by decide +kernel) rfl)⟩
theorem kcX12_256 : Cond.constantLong RX12 256 (2) ∈ gT0 := (gT0_tb 1148 (by decide +kernel) rfl)
set_option maxRecDepth 100000 in
theorem slX12_258 : gVl RX12 258 yX12_takeSizes cX12_takeSizes 2 none 0 := ⟨⟨Or.inl (gT0_tb 1149 (by decide +kernel) rfl), (gT0_tb 14 (by decide +kernel) rfl), (gT0_tb 1152 rfl rfl), by decide +kernel⟩, (gT0_tb 1151 (by decide +kernel) rfl), (gT0_sl 38 (by decide +kernel) rfl)⟩
set_option maxRecDepth 100000 in
theorem slX12_261 : gVl RX12 261 yX12_rankOf cX12_rankOf 5 (some .int) 1 := ⟨⟨Or.inl (gT0_tb 1156 (by decide +kernel) rfl), (gT0_tb 14 (by decide +kernel) rfl), (gT0_tb 1159 rfl rfl), by decide +kernel⟩, (gT0_tb 1158 (by decide +kernel) rfl), (gT0_sl 39 (by decide +kernel) rfl)⟩
set_option maxRecDepth 100000 in
theorem slX12_264 : gVl RX12 264 yX12_takeSamples cX12_takeSamples 3 none 0 := ⟨⟨Or.inl (gT0_tb 1160 (by decide +kernel) rfl), (gT0_tb 14 (by decide +kernel) rfl), (gT0_tb 1163 rfl rfl), by decide +kernel⟩, (gT0_tb 1162 (by decide +kernel) rfl), (gT0_sl 40 (by decide +kernel) rfl)⟩
theorem kcX12_267 : Cond.constant RX12 267 (-1000000001) ∈ gT0 := (gT0_tb 1168 (by decide +kernel) rfl)
theorem kcX12_268 : Cond.constant RX12 268 (-1000000003) ∈ gT0 := (gT0_tb 1169 (by decide +kernel) rfl)
theorem lkX12_84 : gLk RX12 84 12 35 := ⟨RX12, TX12, 47, rfl, by decide, inX12, Or.inl (gT0_tb 906 (by decide +kernel) rfl)⟩
set_option maxRecDepth 100000 in
theorem slX12_269 : gVl RX12 269 yX12_countWays cX12_countWays 7 none 2 := ⟨⟨Or.inl (gT0_tb 1170 (by decide +kernel) rfl), (gT0_tb 14 (by decide +kernel) rfl), (gT0_tb 1173 rfl rfl), by decide +kernel⟩, (gT0_tb 1172 (by decide +kernel) rfl), (gT0_sl 41 (by decide +kernel) rfl)⟩
theorem lpX12_273 : gLp RX12 273 12 18 (.int) false := ⟨RX12, TX12, 47, tyX12, rfl, by decide, inX12, tyX12_ok, nmX12, rfl, tyX12_ok 18 (by decide), rfl, (gT0_tb 889 (by decide +kernel) rfl)⟩
theorem lpX12_276 : gLp RX12 276 12 19 (.int) false := ⟨RX12, TX12, 47, tyX12, rfl, by decide, inX12, tyX12_ok, nmX12, rfl, tyX12_ok 19 (by decide), rfl, (gT0_tb 890 (by decide +kernel) rfl)⟩
theorem lkX12_273 : gLk RX12 273 12 18 := ⟨RX12, TX12, 47, rfl, by decide, inX12, Or.inl (gT0_tb 889 (by decide +kernel) rfl)⟩
theorem lkX12_45 : gLk RX12 45 12 17 := ⟨RX12, TX12, 47, rfl, by decide, inX12, Or.inl (gT0_tb 888 (by decide +kernel) rfl)⟩
theorem lkX12_88 : gLk RX12 88 12 36 := ⟨RX12, TX12, 47, rfl, by decide, inX12, Or.inl (gT0_tb 907 (by decide +kernel) rfl)⟩
set_option maxRecDepth 100000 in
theorem slX12_279 : gVl RX12 279 yX12_findChances cX12_findChances 18 none 2 := ⟨⟨Or.inl (gT0_tb 1174 (by decide +kernel) rfl), (gT0_tb 14 (by decide +kernel) rfl), (gT0_tb 1177 rfl rfl), by decide +kernel⟩, (gT0_tb 1176 (by decide +kernel) rfl), (gT0_sl 42 (by decide +kernel) rfl)⟩
theorem kcX12_282 : Cond.constant RX12 282 (60000) ∈ gT0 := (gT0_tb 1182 (by decide +kernel) rfl)
theorem lkX12_237 : gLk RX12 237 12 13 := ⟨RX12, TX12, 47, rfl, by decide, inX12, Or.inl (gT0_tb 884 (by decide +kernel) rfl)⟩
theorem lkX12_276 : gLk RX12 276 12 19 := ⟨RX12, TX12, 47, rfl, by decide, inX12, Or.inl (gT0_tb 890 (by decide +kernel) rfl)⟩
theorem lkX12_34 : gLk RX12 34 12 12 := ⟨RX12, TX12, 47, rfl, by decide, inX12, Or.inl (gT0_tb 883 (by decide +kernel) rfl)⟩
theorem kcX12_283 : Cond.constantLong RX12 283 (-3) ∈ gT0 := (gT0_tb 1187 (by decide +kernel) rfl)
set_option maxRecDepth 100000 in
theorem slX12_285 : gSl RX12 285 yX12_isTail cX12_isTail 1 (some .boolean) 1 := ⟨⟨Or.inl (gT0_tb 1192 (by decide +kernel) rfl), (gT0_tb 14 (by decide +kernel) rfl), (gT0_tb 1194 rfl rfl), by decide +kernel⟩, (gT0_tb 1193 (by decide +kernel) rfl)⟩
theorem kcX12_289 : Cond.constantLong RX12 289 (16) ∈ gT0 := (gT0_tb 1202 (by decide +kernel) rfl)
theorem kcX12_291 : Cond.constantLong RX12 291 (960) ∈ gT0 := (gT0_tb 1203 (by decide +kernel) rfl)
set_option maxRecDepth 100000 in
theorem slX12_293 : gSl RX12 293 yX12_wordOf cX12_wordOf 8 (some .int) 3 := ⟨⟨Or.inl (gT0_tb 1199 (by decide +kernel) rfl), (gT0_tb 14 (by decide +kernel) rfl), (gT0_tb 1201 rfl rfl), by decide +kernel⟩, (gT0_tb 1200 (by decide +kernel) rfl)⟩
theorem lkX12_91 : gLk RX12 91 12 37 := ⟨RX12, TX12, 47, rfl, by decide, inX12, Or.inl (gT0_tb 908 (by decide +kernel) rfl)⟩
theorem kcX12_297 : Cond.constantLong RX12 297 (1000000) ∈ gT0 := (gT0_tb 1215 (by decide +kernel) rfl)
set_option maxRecDepth 100000 in
theorem slX12_299 : gSl RX12 299 yX12_isLevel cX12_isLevel 2 (some .boolean) 2 := ⟨⟨Or.inl (gT0_tb 1212 (by decide +kernel) rfl), (gT0_tb 14 (by decide +kernel) rfl), (gT0_tb 1214 rfl rfl), by decide +kernel⟩, (gT0_tb 1213 (by decide +kernel) rfl)⟩
set_option maxRecDepth 100000 in
theorem slX12_303 : gVl RX12 303 yX12_stands cX12_stands 8 (some .int) 7 := ⟨⟨Or.inl (gT0_tb 1216 (by decide +kernel) rfl), (gT0_tb 14 (by decide +kernel) rfl), (gT0_tb 1219 rfl rfl), by decide +kernel⟩, (gT0_tb 1218 (by decide +kernel) rfl), (gT0_sl 43 (by decide +kernel) rfl)⟩
theorem lkX12_240 : gLk RX12 240 12 14 := ⟨RX12, TX12, 47, rfl, by decide, inX12, Or.inl (gT0_tb 885 (by decide +kernel) rfl)⟩
theorem kcX12_307 : Cond.constant RX12 307 (-1000000002) ∈ gT0 := (gT0_tb 1224 (by decide +kernel) rfl)
theorem lkX12_94 : gLk RX12 94 12 38 := ⟨RX12, TX12, 47, rfl, by decide, inX12, Or.inl (gT0_tb 909 (by decide +kernel) rfl)⟩
theorem lkX12_97 : gLk RX12 97 12 39 := ⟨RX12, TX12, 47, rfl, by decide, inX12, Or.inl (gT0_tb 910 (by decide +kernel) rfl)⟩
theorem lkX12_103 : gLk RX12 103 12 42 := ⟨RX12, TX12, 47, rfl, by decide, inX12, Or.inl (gT0_tb 913 (by decide +kernel) rfl)⟩
set_option maxRecDepth 100000 in
theorem slX12_308 : gSl RX12 308 yX12_product cX12_product 9 none 5 := ⟨⟨Or.inl (gT0_tb 1241 (by decide +kernel) rfl), (gT0_tb 14 (by decide +kernel) rfl), (gT0_tb 1243 rfl rfl), by decide +kernel⟩, (gT0_tb 1242 (by decide +kernel) rfl)⟩
theorem lkX12_106 : gLk RX12 106 12 43 := ⟨RX12, TX12, 47, rfl, by decide, inX12, Or.inl (gT0_tb 914 (by decide +kernel) rfl)⟩
theorem lkX12_100 : gLk RX12 100 12 41 := ⟨RX12, TX12, 47, rfl, by decide, inX12, Or.inl (gT0_tb 912 (by decide +kernel) rfl)⟩
set_option maxRecDepth 100000 in
theorem slX12_312 : gVl RX12 312 yX12_isLess cX12_isLess 4 (some .boolean) 2 := ⟨⟨Or.inl (gT0_tb 1237 (by decide +kernel) rfl), (gT0_tb 14 (by decide +kernel) rfl), (gT0_tb 1240 rfl rfl), by decide +kernel⟩, (gT0_tb 1239 (by decide +kernel) rfl), (gT0_sl 45 (by decide +kernel) rfl)⟩
set_option maxRecDepth 100000 in
theorem slX12_315 : gVl RX12 315 yX12_findRejected cX12_findRejected 5 (some .int) 2 := ⟨⟨Or.inl (gT0_tb 1233 (by decide +kernel) rfl), (gT0_tb 14 (by decide +kernel) rfl), (gT0_tb 1236 rfl rfl), by decide +kernel⟩, (gT0_tb 1235 (by decide +kernel) rfl), (gT0_sl 44 (by decide +kernel) rfl)⟩
theorem kcX12_318 : Cond.constantLong RX12 318 (65535) ∈ gT0 := (gT0_tb 1252 (by decide +kernel) rfl)
theorem lkX12_109 : gLk RX12 109 12 44 := ⟨RX12, TX12, 47, rfl, by decide, inX12, Or.inl (gT0_tb 915 (by decide +kernel) rfl)⟩
theorem lkX12_112 : gLk RX12 112 12 46 := ⟨RX12, TX12, 47, rfl, by decide, inX12, Or.inl (gT0_tb 917 (by decide +kernel) rfl)⟩
theorem kcJ6_264 : Cond.constant RJ6 264 (65536) ∈ gT0 := (gT0_tb 707 (by decide +kernel) rfl)
set_option maxRecDepth 100000 in
theorem slJ13_308 : gSl RJ13 308 yJ6_numberOfLeadingZeros_0f7a4 cJ6_numberOfLeadingZeros_0f7a4 2 (some .int) 1 := ⟨⟨Or.inl (gT0_tb 704 (by decide +kernel) rfl), (gT0_tb 17 (by decide +kernel) rfl), (gT0_tb 706 rfl rfl), by decide +kernel⟩, (gT0_tb 705 (by decide +kernel) rfl)⟩
theorem clL_7 : Cond.classLink RL 7 RX11 ∈ gT0 := (gT0_tb 18 (by decide +kernel) rfl)
set_option maxRecDepth 100000 in
theorem slL_9 : gIl RL 9 yX11_init cX11_init 1 0 := ⟨⟨Or.inl (gT0_tb 20 (by decide +kernel) rfl), (gT0_tb 1 (by decide +kernel) rfl), (gT0_tb 22 rfl rfl), by decide +kernel⟩, rfl, (gT0_tb 21 (by decide +kernel) rfl)⟩
theorem clL_10 : Cond.classLink RL 10 RX12 ∈ gT0 := (gT0_tb 862 (by decide +kernel) rfl)
set_option maxRecDepth 100000 in
theorem slL_12 : gIl RL 12 yX12_init cX12_init 1 0 := ⟨⟨Or.inl (gT0_tb 864 (by decide +kernel) rfl), (gT0_tb 14 (by decide +kernel) rfl), (gT0_tb 866 rfl rfl), by decide +kernel⟩, rfl, (gT0_tb 865 (by decide +kernel) rfl)⟩
set_option maxRecDepth 100000 in
theorem slL_13 : gVl RL 13 yX11_table cX11_table 3 (some .int) 2 := ⟨⟨Or.inl (gT0_tb 310 (by decide +kernel) rfl), (gT0_tb 1 (by decide +kernel) rfl), (gT0_tb 313 rfl rfl), by decide +kernel⟩, (gT0_tb 311 (by decide +kernel) rfl), (gT0_tb 312 (by decide +kernel) rfl)⟩
set_option maxRecDepth 100000 in
theorem slL_17 : gVl RL 17 yX12_table cX12_table 4 (some .int) 2 := ⟨⟨Or.inl (gT0_tb 1014 (by decide +kernel) rfl), (gT0_tb 14 (by decide +kernel) rfl), (gT0_tb 1017 rfl rfl), by decide +kernel⟩, (gT0_tb 1015 (by decide +kernel) rfl), (gT0_tb 1016 (by decide +kernel) rfl)⟩
set_option maxRecDepth 100000 in
theorem slL_18 : gVl RL 18 yX11_cell cX11_cell 5 (some .int) 3 := ⟨⟨Or.inl (gT0_tb 321 (by decide +kernel) rfl), (gT0_tb 1 (by decide +kernel) rfl), (gT0_tb 324 rfl rfl), by decide +kernel⟩, (gT0_tb 322 (by decide +kernel) rfl), (gT0_tb 323 (by decide +kernel) rfl)⟩
set_option maxRecDepth 100000 in
theorem slL_22 : gVl RL 22 yX12_cell cX12_cell 6 (some .int) 3 := ⟨⟨Or.inl (gT0_tb 1022 (by decide +kernel) rfl), (gT0_tb 14 (by decide +kernel) rfl), (gT0_tb 1025 rfl rfl), by decide +kernel⟩, (gT0_tb 1023 (by decide +kernel) rfl), (gT0_tb 1024 (by decide +kernel) rfl)⟩
set_option maxRecDepth 100000 in
theorem slL_23 : gVl RL 23 yX11_about cX11_about 6 (some .int) 3 := ⟨⟨Or.inl (gT0_tb 347 (by decide +kernel) rfl), (gT0_tb 1 (by decide +kernel) rfl), (gT0_tb 350 rfl rfl), by decide +kernel⟩, (gT0_tb 348 (by decide +kernel) rfl), (gT0_tb 349 (by decide +kernel) rfl)⟩
set_option maxRecDepth 100000 in
theorem slL_26 : gVl RL 26 yX12_about cX12_about 4 (some .int) 3 := ⟨⟨Or.inl (gT0_tb 1027 (by decide +kernel) rfl), (gT0_tb 14 (by decide +kernel) rfl), (gT0_tb 1030 rfl rfl), by decide +kernel⟩, (gT0_tb 1028 (by decide +kernel) rfl), (gT0_tb 1029 (by decide +kernel) rfl)⟩
set_option maxRecDepth 100000 in
theorem slL_27 : gVl RL 27 yX11_sample cX11_sample 4 (some .int) 2 := ⟨⟨Or.inl (gT0_tb 360 (by decide +kernel) rfl), (gT0_tb 1 (by decide +kernel) rfl), (gT0_tb 363 rfl rfl), by decide +kernel⟩, (gT0_tb 361 (by decide +kernel) rfl), (gT0_tb 362 (by decide +kernel) rfl)⟩
set_option maxRecDepth 100000 in
theorem slL_30 : gVl RL 30 yX12_sample cX12_sample 3 (some .int) 2 := ⟨⟨Or.inl (gT0_tb 1040 (by decide +kernel) rfl), (gT0_tb 14 (by decide +kernel) rfl), (gT0_tb 1043 rfl rfl), by decide +kernel⟩, (gT0_tb 1041 (by decide +kernel) rfl), (gT0_tb 1042 (by decide +kernel) rfl)⟩
set_option maxRecDepth 100000 in
theorem slL_31 : gVl RL 31 yX11_pair cX11_pair 3 (some .int) 2 := ⟨⟨Or.inl (gT0_tb 373 (by decide +kernel) rfl), (gT0_tb 1 (by decide +kernel) rfl), (gT0_tb 376 rfl rfl), by decide +kernel⟩, (gT0_tb 374 (by decide +kernel) rfl), (gT0_tb 375 (by decide +kernel) rfl)⟩
set_option maxRecDepth 100000 in
theorem slL_34 : gVl RL 34 yX12_pair cX12_pair 3 (some .int) 2 := ⟨⟨Or.inl (gT0_tb 1046 (by decide +kernel) rfl), (gT0_tb 14 (by decide +kernel) rfl), (gT0_tb 1049 rfl rfl), by decide +kernel⟩, (gT0_tb 1047 (by decide +kernel) rfl), (gT0_tb 1048 (by decide +kernel) rfl)⟩
set_option maxRecDepth 100000 in
theorem slL_35 : gVl RL 35 yX11_clear cX11_clear 2 (some .int) 1 := ⟨⟨Or.inl (gT0_tb 377 (by decide +kernel) rfl), (gT0_tb 1 (by decide +kernel) rfl), (gT0_tb 380 rfl rfl), by decide +kernel⟩, (gT0_tb 378 (by decide +kernel) rfl), (gT0_tb 379 (by decide +kernel) rfl)⟩
set_option maxRecDepth 100000 in
theorem slL_39 : gVl RL 39 yX12_clear cX12_clear 3 (some .int) 1 := ⟨⟨Or.inl (gT0_tb 1050 (by decide +kernel) rfl), (gT0_tb 14 (by decide +kernel) rfl), (gT0_tb 1053 rfl rfl), by decide +kernel⟩, (gT0_tb 1051 (by decide +kernel) rfl), (gT0_tb 1052 (by decide +kernel) rfl)⟩
set_option maxRecDepth 100000 in
theorem slL_40 : gVl RL 40 yX11_tables cX11_tables 2 (some .int) 0 := ⟨⟨Or.inl (gT0_tb 389 (by decide +kernel) rfl), (gT0_tb 1 (by decide +kernel) rfl), (gT0_tb 392 rfl rfl), by decide +kernel⟩, (gT0_tb 390 (by decide +kernel) rfl), (gT0_tb 391 (by decide +kernel) rfl)⟩
set_option maxRecDepth 100000 in
theorem slL_44 : gVl RL 44 yX12_tables cX12_tables 4 (some .int) 0 := ⟨⟨Or.inl (gT0_tb 1054 (by decide +kernel) rfl), (gT0_tb 14 (by decide +kernel) rfl), (gT0_tb 1057 rfl rfl), by decide +kernel⟩, (gT0_tb 1055 (by decide +kernel) rfl), (gT0_tb 1056 (by decide +kernel) rfl)⟩
set_option maxRecDepth 100000 in
theorem slL_45 : gVl RL 45 yX11_labels cX11_labels 6 (some .int) 1 := ⟨⟨Or.inl (gT0_tb 535 (by decide +kernel) rfl), (gT0_tb 1 (by decide +kernel) rfl), (gT0_tb 538 rfl rfl), by decide +kernel⟩, (gT0_tb 536 (by decide +kernel) rfl), (gT0_tb 537 (by decide +kernel) rfl)⟩
set_option maxRecDepth 100000 in
theorem slL_48 : gVl RL 48 yX12_labels cX12_labels 9 (some .int) 1 := ⟨⟨Or.inl (gT0_tb 1164 (by decide +kernel) rfl), (gT0_tb 14 (by decide +kernel) rfl), (gT0_tb 1167 rfl rfl), by decide +kernel⟩, (gT0_tb 1165 (by decide +kernel) rfl), (gT0_tb 1166 (by decide +kernel) rfl)⟩
set_option maxRecDepth 100000 in
theorem slL_49 : gVl RL 49 yX11_signs cX11_signs 8 (some .int) 1 := ⟨⟨Or.inl (gT0_tb 627 (by decide +kernel) rfl), (gT0_tb 1 (by decide +kernel) rfl), (gT0_tb 630 rfl rfl), by decide +kernel⟩, (gT0_tb 628 (by decide +kernel) rfl), (gT0_tb 629 (by decide +kernel) rfl)⟩
set_option maxRecDepth 100000 in
theorem slL_52 : gVl RL 52 yX12_signs cX12_signs 8 (some .int) 1 := ⟨⟨Or.inl (gT0_tb 1178 (by decide +kernel) rfl), (gT0_tb 14 (by decide +kernel) rfl), (gT0_tb 1181 rfl rfl), by decide +kernel⟩, (gT0_tb 1179 (by decide +kernel) rfl), (gT0_tb 1180 (by decide +kernel) rfl)⟩
set_option maxRecDepth 100000 in
theorem slL_53 : gVl RL 53 yX11_rank cX11_rank 4 (some .int) 2 := ⟨⟨Or.inl (gT0_tb 646 (by decide +kernel) rfl), (gT0_tb 1 (by decide +kernel) rfl), (gT0_tb 649 rfl rfl), by decide +kernel⟩, (gT0_tb 647 (by decide +kernel) rfl), (gT0_tb 648 (by decide +kernel) rfl)⟩
set_option maxRecDepth 100000 in
theorem slL_56 : gVl RL 56 yX12_rank cX12_rank 3 (some .int) 2 := ⟨⟨Or.inl (gT0_tb 1144 (by decide +kernel) rfl), (gT0_tb 14 (by decide +kernel) rfl), (gT0_tb 1147 rfl rfl), by decide +kernel⟩, (gT0_tb 1145 (by decide +kernel) rfl), (gT0_tb 1146 (by decide +kernel) rfl)⟩
set_option maxRecDepth 100000 in
theorem slL_57 : gVl RL 57 yX11_caseAt cX11_caseAt 4 (some .int) 3 := ⟨⟨Or.inl (gT0_tb 651 (by decide +kernel) rfl), (gT0_tb 1 (by decide +kernel) rfl), (gT0_tb 654 rfl rfl), by decide +kernel⟩, (gT0_tb 652 (by decide +kernel) rfl), (gT0_tb 653 (by decide +kernel) rfl)⟩
set_option maxRecDepth 100000 in
theorem slL_60 : gVl RL 60 yX12_caseAt cX12_caseAt 4 (some .int) 3 := ⟨⟨Or.inl (gT0_tb 1136 (by decide +kernel) rfl), (gT0_tb 14 (by decide +kernel) rfl), (gT0_tb 1139 rfl rfl), by decide +kernel⟩, (gT0_tb 1137 (by decide +kernel) rfl), (gT0_tb 1138 (by decide +kernel) rfl)⟩
set_option maxRecDepth 100000 in
theorem slL_61 : gVl RL 61 yX11_weighs cX11_weighs 2 (some .int) 1 := ⟨⟨Or.inl (gT0_tb 673 (by decide +kernel) rfl), (gT0_tb 1 (by decide +kernel) rfl), (gT0_tb 676 rfl rfl), by decide +kernel⟩, (gT0_tb 674 (by decide +kernel) rfl), (gT0_tb 675 (by decide +kernel) rfl)⟩
set_option maxRecDepth 100000 in
theorem slL_64 : gVl RL 64 yX12_weighs cX12_weighs 2 (some .int) 1 := ⟨⟨Or.inl (gT0_tb 1140 (by decide +kernel) rfl), (gT0_tb 14 (by decide +kernel) rfl), (gT0_tb 1143 rfl rfl), by decide +kernel⟩, (gT0_tb 1141 (by decide +kernel) rfl), (gT0_tb 1142 (by decide +kernel) rfl)⟩
set_option maxRecDepth 100000 in
theorem slL_65 : gVl RL 65 yX11_bits cX11_bits 4 (some .int) 2 := ⟨⟨Or.inl (gT0_tb 681 (by decide +kernel) rfl), (gT0_tb 1 (by decide +kernel) rfl), (gT0_tb 684 rfl rfl), by decide +kernel⟩, (gT0_tb 682 (by decide +kernel) rfl), (gT0_tb 683 (by decide +kernel) rfl)⟩
set_option maxRecDepth 100000 in
theorem slL_68 : gVl RL 68 yX12_bits cX12_bits 3 (some .int) 2 := ⟨⟨Or.inl (gT0_tb 1188 (by decide +kernel) rfl), (gT0_tb 14 (by decide +kernel) rfl), (gT0_tb 1191 rfl rfl), by decide +kernel⟩, (gT0_tb 1189 (by decide +kernel) rfl), (gT0_tb 1190 (by decide +kernel) rfl)⟩
set_option maxRecDepth 100000 in
theorem slL_69 : gVl RL 69 yX11_word cX11_word 5 (some .int) 3 := ⟨⟨Or.inl (gT0_tb 708 (by decide +kernel) rfl), (gT0_tb 1 (by decide +kernel) rfl), (gT0_tb 711 rfl rfl), by decide +kernel⟩, (gT0_tb 709 (by decide +kernel) rfl), (gT0_tb 710 (by decide +kernel) rfl)⟩
set_option maxRecDepth 100000 in
theorem slL_72 : gVl RL 72 yX12_word cX12_word 4 (some .int) 3 := ⟨⟨Or.inl (gT0_tb 1195 (by decide +kernel) rfl), (gT0_tb 14 (by decide +kernel) rfl), (gT0_tb 1198 rfl rfl), by decide +kernel⟩, (gT0_tb 1196 (by decide +kernel) rfl), (gT0_tb 1197 (by decide +kernel) rfl)⟩
set_option maxRecDepth 100000 in
theorem slL_73 : gVl RL 73 yX11_figure cX11_figure 4 (some .int) 2 := ⟨⟨Or.inl (gT0_tb 717 (by decide +kernel) rfl), (gT0_tb 1 (by decide +kernel) rfl), (gT0_tb 720 rfl rfl), by decide +kernel⟩, (gT0_tb 718 (by decide +kernel) rfl), (gT0_tb 719 (by decide +kernel) rfl)⟩
set_option maxRecDepth 100000 in
theorem slL_76 : gVl RL 76 yX12_figure cX12_figure 4 (some .int) 2 := ⟨⟨Or.inl (gT0_tb 1204 (by decide +kernel) rfl), (gT0_tb 14 (by decide +kernel) rfl), (gT0_tb 1207 rfl rfl), by decide +kernel⟩, (gT0_tb 1205 (by decide +kernel) rfl), (gT0_tb 1206 (by decide +kernel) rfl)⟩
set_option maxRecDepth 100000 in
theorem slL_77 : gVl RL 77 yX11_against cX11_against 5 (some .int) 3 := ⟨⟨Or.inl (gT0_tb 736 (by decide +kernel) rfl), (gT0_tb 1 (by decide +kernel) rfl), (gT0_tb 739 rfl rfl), by decide +kernel⟩, (gT0_tb 737 (by decide +kernel) rfl), (gT0_tb 738 (by decide +kernel) rfl)⟩
set_option maxRecDepth 100000 in
theorem slL_80 : gVl RL 80 yX12_against cX12_against 4 (some .int) 3 := ⟨⟨Or.inl (gT0_tb 1208 (by decide +kernel) rfl), (gT0_tb 14 (by decide +kernel) rfl), (gT0_tb 1211 rfl rfl), by decide +kernel⟩, (gT0_tb 1209 (by decide +kernel) rfl), (gT0_tb 1210 (by decide +kernel) rfl)⟩
set_option maxRecDepth 100000 in
theorem slL_81 : gVl RL 81 yX11_result cX11_result 2 (some .int) 1 := ⟨⟨Or.inl (gT0_tb 748 (by decide +kernel) rfl), (gT0_tb 1 (by decide +kernel) rfl), (gT0_tb 751 rfl rfl), by decide +kernel⟩, (gT0_tb 749 (by decide +kernel) rfl), (gT0_tb 750 (by decide +kernel) rfl)⟩
set_option maxRecDepth 100000 in
theorem slL_84 : gVl RL 84 yX12_result cX12_result 2 (some .int) 1 := ⟨⟨Or.inl (gT0_tb 1220 (by decide +kernel) rfl), (gT0_tb 14 (by decide +kernel) rfl), (gT0_tb 1223 rfl rfl), by decide +kernel⟩, (gT0_tb 1221 (by decide +kernel) rfl), (gT0_tb 1222 (by decide +kernel) rfl)⟩
set_option maxRecDepth 100000 in
theorem slL_85 : gVl RL 85 yX11_ways cX11_ways 2 (some .long) 1 := ⟨⟨Or.inl (gT0_tb 765 (by decide +kernel) rfl), (gT0_tb 1 (by decide +kernel) rfl), (gT0_tb 768 rfl rfl), by decide +kernel⟩, (gT0_tb 766 (by decide +kernel) rfl), (gT0_tb 767 (by decide +kernel) rfl)⟩
set_option maxRecDepth 100000 in
theorem slL_89 : gVl RL 89 yX12_ways cX12_ways 2 (some .long) 1 := ⟨⟨Or.inl (gT0_tb 1183 (by decide +kernel) rfl), (gT0_tb 14 (by decide +kernel) rfl), (gT0_tb 1186 rfl rfl), by decide +kernel⟩, (gT0_tb 1184 (by decide +kernel) rfl), (gT0_tb 1185 (by decide +kernel) rfl)⟩
set_option maxRecDepth 100000 in
theorem slL_90 : gVl RL 90 yX11_note cX11_note 3 (some .int) 1 := ⟨⟨Or.inl (gT0_tb 772 (by decide +kernel) rfl), (gT0_tb 1 (by decide +kernel) rfl), (gT0_tb 775 rfl rfl), by decide +kernel⟩, (gT0_tb 773 (by decide +kernel) rfl), (gT0_tb 774 (by decide +kernel) rfl)⟩
set_option maxRecDepth 100000 in
theorem slL_93 : gVl RL 93 yX12_note cX12_note 2 (some .int) 1 := ⟨⟨Or.inl (gT0_tb 1225 (by decide +kernel) rfl), (gT0_tb 14 (by decide +kernel) rfl), (gT0_tb 1228 rfl rfl), by decide +kernel⟩, (gT0_tb 1226 (by decide +kernel) rfl), (gT0_tb 1227 (by decide +kernel) rfl)⟩
set_option maxRecDepth 100000 in
theorem slL_94 : gVl RL 94 yX11_rejected cX11_rejected 3 (some .int) 2 := ⟨⟨Or.inl (gT0_tb 797 (by decide +kernel) rfl), (gT0_tb 1 (by decide +kernel) rfl), (gT0_tb 800 rfl rfl), by decide +kernel⟩, (gT0_tb 798 (by decide +kernel) rfl), (gT0_tb 799 (by decide +kernel) rfl)⟩
set_option maxRecDepth 100000 in
theorem slL_97 : gVl RL 97 yX12_rejected cX12_rejected 3 (some .int) 2 := ⟨⟨Or.inl (gT0_tb 1229 (by decide +kernel) rfl), (gT0_tb 14 (by decide +kernel) rfl), (gT0_tb 1232 rfl rfl), by decide +kernel⟩, (gT0_tb 1230 (by decide +kernel) rfl), (gT0_tb 1231 (by decide +kernel) rfl)⟩
set_option maxRecDepth 100000 in
theorem slL_98 : gVl RL 98 yX11_isRejected cX11_isRejected 4 (some .int) 3 := ⟨⟨Or.inl (gT0_tb 806 (by decide +kernel) rfl), (gT0_tb 1 (by decide +kernel) rfl), (gT0_tb 809 rfl rfl), by decide +kernel⟩, (gT0_tb 807 (by decide +kernel) rfl), (gT0_tb 808 (by decide +kernel) rfl)⟩
set_option maxRecDepth 100000 in
theorem slL_101 : gVl RL 101 yX12_isRejected cX12_isRejected 7 (some .int) 3 := ⟨⟨Or.inl (gT0_tb 1244 (by decide +kernel) rfl), (gT0_tb 14 (by decide +kernel) rfl), (gT0_tb 1247 rfl rfl), by decide +kernel⟩, (gT0_tb 1245 (by decide +kernel) rfl), (gT0_tb 1246 (by decide +kernel) rfl)⟩
set_option maxRecDepth 100000 in
theorem slL_102 : gVl RL 102 yX11_claim cX11_claim 2 (some .int) 1 := ⟨⟨Or.inl (gT0_tb 818 (by decide +kernel) rfl), (gT0_tb 1 (by decide +kernel) rfl), (gT0_tb 821 rfl rfl), by decide +kernel⟩, (gT0_tb 819 (by decide +kernel) rfl), (gT0_tb 820 (by decide +kernel) rfl)⟩
set_option maxRecDepth 100000 in
theorem slL_105 : gVl RL 105 yX12_claim cX12_claim 2 (some .int) 1 := ⟨⟨Or.inl (gT0_tb 1248 (by decide +kernel) rfl), (gT0_tb 14 (by decide +kernel) rfl), (gT0_tb 1251 rfl rfl), by decide +kernel⟩, (gT0_tb 1249 (by decide +kernel) rfl), (gT0_tb 1250 (by decide +kernel) rfl)⟩
set_option maxRecDepth 100000 in
theorem slL_106 : gVl RL 106 yX11_check cX11_check 7 (some .int) 1 := ⟨⟨Or.inl (gT0_tb 823 (by decide +kernel) rfl), (gT0_tb 1 (by decide +kernel) rfl), (gT0_tb 826 rfl rfl), by decide +kernel⟩, (gT0_tb 824 (by decide +kernel) rfl), (gT0_tb 825 (by decide +kernel) rfl)⟩
set_option maxRecDepth 100000 in
theorem slL_109 : gVl RL 109 yX12_check cX12_check 6 (some .int) 1 := ⟨⟨Or.inl (gT0_tb 1253 (by decide +kernel) rfl), (gT0_tb 14 (by decide +kernel) rfl), (gT0_tb 1256 rfl rfl), by decide +kernel⟩, (gT0_tb 1254 (by decide +kernel) rfl), (gT0_tb 1255 (by decide +kernel) rfl)⟩
set_option maxRecDepth 100000 in
theorem slL_110 : gVl RL 110 yX11_shift cX11_shift 2 (some .int) 0 := ⟨⟨Or.inl (gT0_tb 842 (by decide +kernel) rfl), (gT0_tb 1 (by decide +kernel) rfl), (gT0_tb 845 rfl rfl), by decide +kernel⟩, (gT0_tb 843 (by decide +kernel) rfl), (gT0_tb 844 (by decide +kernel) rfl)⟩
set_option maxRecDepth 100000 in
theorem slL_113 : gVl RL 113 yX12_shift cX12_shift 6 (some .int) 0 := ⟨⟨Or.inl (gT0_tb 1257 (by decide +kernel) rfl), (gT0_tb 14 (by decide +kernel) rfl), (gT0_tb 1260 rfl rfl), by decide +kernel⟩, (gT0_tb 1258 (by decide +kernel) rfl), (gT0_tb 1259 (by decide +kernel) rfl)⟩
set_option maxRecDepth 100000 in
theorem slL_114 : gVl RL 114 yX11_told cX11_told 2 (some .int) 1 := ⟨⟨Or.inl (gT0_tb 854 (by decide +kernel) rfl), (gT0_tb 1 (by decide +kernel) rfl), (gT0_tb 857 rfl rfl), by decide +kernel⟩, (gT0_tb 855 (by decide +kernel) rfl), (gT0_tb 856 (by decide +kernel) rfl)⟩
set_option maxRecDepth 100000 in
theorem slL_117 : gVl RL 117 yX12_told cX12_told 2 (some .int) 1 := ⟨⟨Or.inl (gT0_tb 1261 (by decide +kernel) rfl), (gT0_tb 14 (by decide +kernel) rfl), (gT0_tb 1264 rfl rfl), by decide +kernel⟩, (gT0_tb 1262 (by decide +kernel) rfl), (gT0_tb 1263 (by decide +kernel) rfl)⟩
theorem isX0 : Cond.instantiable RX0 5 ∈ gT0 ∧ Cond.initialized RX0 ∈ gT0 := ⟨(gT0_tb 132 (by decide +kernel) rfl), (gT0_tb 7 (by decide +kernel) rfl)⟩
theorem isX1 : Cond.instantiable RX1 4 ∈ gT0 ∧ Cond.initialized RX1 ∈ gT0 := ⟨(gT0_tb 256 (by decide +kernel) rfl), (gT0_tb 13 (by decide +kernel) rfl)⟩
theorem isX2 : Cond.instantiable RX2 2 ∈ gT0 ∧ Cond.initialized RX2 ∈ gT0 := ⟨(gT0_tb 208 (by decide +kernel) rfl), (gT0_tb 11 (by decide +kernel) rfl)⟩
theorem isX3 : Cond.instantiable RX3 3 ∈ gT0 ∧ Cond.initialized RX3 ∈ gT0 := ⟨(gT0_tb 27 (by decide +kernel) rfl), (gT0_tb 2 (by decide +kernel) rfl)⟩
theorem isX4 : Cond.instantiable RX4 3 ∈ gT0 ∧ Cond.initialized RX4 ∈ gT0 := ⟨(gT0_tb 160 (by decide +kernel) rfl), (gT0_tb 9 (by decide +kernel) rfl)⟩
theorem isX5 : Cond.instantiable RX5 2 ∈ gT0 ∧ Cond.initialized RX5 ∈ gT0 := ⟨(gT0_tb 44 (by decide +kernel) rfl), (gT0_tb 3 (by decide +kernel) rfl)⟩
theorem isX6 : Cond.instantiable RX6 5 ∈ gT0 ∧ Cond.initialized RX6 ∈ gT0 := ⟨(gT0_tb 201 (by decide +kernel) rfl), (gT0_tb 10 (by decide +kernel) rfl)⟩
theorem isX7 : Cond.instantiable RX7 2 ∈ gT0 ∧ Cond.initialized RX7 ∈ gT0 := ⟨(gT0_tb 241 (by decide +kernel) rfl), (gT0_tb 12 (by decide +kernel) rfl)⟩
theorem isX8 : Cond.instantiable RX8 7 ∈ gT0 ∧ Cond.initialized RX8 ∈ gT0 := ⟨(gT0_tb 154 (by decide +kernel) rfl), (gT0_tb 8 (by decide +kernel) rfl)⟩
theorem isX9 : Cond.instantiable RX9 15 ∈ gT0 ∧ Cond.initialized RX9 ∈ gT0 := ⟨(gT0_tb 60 (by decide +kernel) rfl), (gT0_tb 5 (by decide +kernel) rfl)⟩
theorem isX10 : Cond.instantiable RX10 2 ∈ gT0 ∧ Cond.initialized RX10 ∈ gT0 := ⟨(gT0_tb 67 (by decide +kernel) rfl), (gT0_tb 6 (by decide +kernel) rfl)⟩
theorem isX11 : Cond.instantiable RX11 11 ∈ gT0 ∧ Cond.initialized RX11 ∈ gT0 := ⟨(gT0_tb 19 (by decide +kernel) rfl), (gT0_tb 1 (by decide +kernel) rfl)⟩
theorem isX12 : Cond.instantiable RX12 47 ∈ gT0 ∧ Cond.initialized RX12 ∈ gT0 := ⟨(gT0_tb 863 (by decide +kernel) rfl), (gT0_tb 14 (by decide +kernel) rfl)⟩
theorem ojI : Cond.instanceMethod Lib.objectInit ∈ gT0 := (gT0_tb 24 (by decide +kernel) rfl)
theorem ojC : Cond.code Lib.objectInit ⟨#[0xb1]⟩ 1 none ∈ gT0 := (gT0_tb 25 rfl rfl)
theorem ac_int : Cond.arrayClass .int ∈ gT0 := (gT0_tb 42 (by decide +kernel) rfl)
theorem ac_long : Cond.arrayClass .long ∈ gT0 := (gT0_tb 79 (by decide +kernel) rfl)
theorem ac_byte : Cond.arrayClass .byte ∈ gT0 := (gT0_tb 1013 (by decide +kernel) rfl)
end
section
theorem dJ6_numberOfLeadingZeros_0f7a4_0 : decode cJ6_numberOfLeadingZeros_0f7a4 0 = .ok (.iload_n 0, 1) := by decide +kernel
theorem dJ6_numberOfLeadingZeros_0f7a4_1 : decode cJ6_numberOfLeadingZeros_0f7a4 1 = .ok (.ifCond .gt 14, 3) := by decide +kernel
theorem dJ6_numberOfLeadingZeros_0f7a4_4 : decode cJ6_numberOfLeadingZeros_0f7a4 4 = .ok (.iload_n 0, 1) := by decide +kernel
theorem dJ6_numberOfLeadingZeros_0f7a4_5 : decode cJ6_numberOfLeadingZeros_0f7a4 5 = .ok (.ifCond .ne 8, 3) := by decide +kernel
theorem dJ6_numberOfLeadingZeros_0f7a4_8 : decode cJ6_numberOfLeadingZeros_0f7a4 8 = .ok (.bipush 32, 2) := by decide +kernel
theorem dJ6_numberOfLeadingZeros_0f7a4_10 : decode cJ6_numberOfLeadingZeros_0f7a4 10 = .ok (.goto 4, 3) := by decide +kernel
theorem dJ6_numberOfLeadingZeros_0f7a4_13 : decode cJ6_numberOfLeadingZeros_0f7a4 13 = .ok (.iconst 0, 1) := by decide +kernel
theorem dJ6_numberOfLeadingZeros_0f7a4_14 : decode cJ6_numberOfLeadingZeros_0f7a4 14 = .ok (.ireturn, 1) := by decide +kernel
theorem dJ6_numberOfLeadingZeros_0f7a4_15 : decode cJ6_numberOfLeadingZeros_0f7a4 15 = .ok (.bipush 31, 2) := by decide +kernel
theorem dJ6_numberOfLeadingZeros_0f7a4_17 : decode cJ6_numberOfLeadingZeros_0f7a4 17 = .ok (.istore_n 1, 1) := by decide +kernel
theorem dJ6_numberOfLeadingZeros_0f7a4_18 : decode cJ6_numberOfLeadingZeros_0f7a4 18 = .ok (.iload_n 0, 1) := by decide +kernel
theorem dJ6_numberOfLeadingZeros_0f7a4_19 : decode cJ6_numberOfLeadingZeros_0f7a4 19 = .ok (.ldc_w 264, 3) := by decide +kernel
theorem dJ6_numberOfLeadingZeros_0f7a4_22 : decode cJ6_numberOfLeadingZeros_0f7a4 22 = .ok (.if_icmp .lt 11, 3) := by decide +kernel
theorem dJ6_numberOfLeadingZeros_0f7a4_25 : decode cJ6_numberOfLeadingZeros_0f7a4 25 = .ok (.iinc 1 (-16), 3) := by decide +kernel
theorem dJ6_numberOfLeadingZeros_0f7a4_28 : decode cJ6_numberOfLeadingZeros_0f7a4 28 = .ok (.iload_n 0, 1) := by decide +kernel
theorem dJ6_numberOfLeadingZeros_0f7a4_29 : decode cJ6_numberOfLeadingZeros_0f7a4 29 = .ok (.bipush 16, 2) := by decide +kernel
theorem dJ6_numberOfLeadingZeros_0f7a4_31 : decode cJ6_numberOfLeadingZeros_0f7a4 31 = .ok (.iushr, 1) := by decide +kernel
theorem dJ6_numberOfLeadingZeros_0f7a4_32 : decode cJ6_numberOfLeadingZeros_0f7a4 32 = .ok (.istore_n 0, 1) := by decide +kernel
theorem dJ6_numberOfLeadingZeros_0f7a4_33 : decode cJ6_numberOfLeadingZeros_0f7a4 33 = .ok (.iload_n 0, 1) := by decide +kernel
theorem dJ6_numberOfLeadingZeros_0f7a4_34 : decode cJ6_numberOfLeadingZeros_0f7a4 34 = .ok (.sipush 256, 3) := by decide +kernel
theorem dJ6_numberOfLeadingZeros_0f7a4_37 : decode cJ6_numberOfLeadingZeros_0f7a4 37 = .ok (.if_icmp .lt 11, 3) := by decide +kernel
theorem dJ6_numberOfLeadingZeros_0f7a4_40 : decode cJ6_numberOfLeadingZeros_0f7a4 40 = .ok (.iinc 1 (-8), 3) := by decide +kernel
theorem dJ6_numberOfLeadingZeros_0f7a4_43 : decode cJ6_numberOfLeadingZeros_0f7a4 43 = .ok (.iload_n 0, 1) := by decide +kernel
theorem dJ6_numberOfLeadingZeros_0f7a4_44 : decode cJ6_numberOfLeadingZeros_0f7a4 44 = .ok (.bipush 8, 2) := by decide +kernel
theorem dJ6_numberOfLeadingZeros_0f7a4_46 : decode cJ6_numberOfLeadingZeros_0f7a4 46 = .ok (.iushr, 1) := by decide +kernel
theorem dJ6_numberOfLeadingZeros_0f7a4_47 : decode cJ6_numberOfLeadingZeros_0f7a4 47 = .ok (.istore_n 0, 1) := by decide +kernel
theorem dJ6_numberOfLeadingZeros_0f7a4_48 : decode cJ6_numberOfLeadingZeros_0f7a4 48 = .ok (.iload_n 0, 1) := by decide +kernel
theorem dJ6_numberOfLeadingZeros_0f7a4_49 : decode cJ6_numberOfLeadingZeros_0f7a4 49 = .ok (.bipush 16, 2) := by decide +kernel
theorem dJ6_numberOfLeadingZeros_0f7a4_51 : decode cJ6_numberOfLeadingZeros_0f7a4 51 = .ok (.if_icmp .lt 10, 3) := by decide +kernel
theorem dJ6_numberOfLeadingZeros_0f7a4_54 : decode cJ6_numberOfLeadingZeros_0f7a4 54 = .ok (.iinc 1 (-4), 3) := by decide +kernel
theorem dJ6_numberOfLeadingZeros_0f7a4_57 : decode cJ6_numberOfLeadingZeros_0f7a4 57 = .ok (.iload_n 0, 1) := by decide +kernel
theorem dJ6_numberOfLeadingZeros_0f7a4_58 : decode cJ6_numberOfLeadingZeros_0f7a4 58 = .ok (.iconst 4, 1) := by decide +kernel
theorem dJ6_numberOfLeadingZeros_0f7a4_59 : decode cJ6_numberOfLeadingZeros_0f7a4 59 = .ok (.iushr, 1) := by decide +kernel
theorem dJ6_numberOfLeadingZeros_0f7a4_60 : decode cJ6_numberOfLeadingZeros_0f7a4 60 = .ok (.istore_n 0, 1) := by decide +kernel
theorem dJ6_numberOfLeadingZeros_0f7a4_61 : decode cJ6_numberOfLeadingZeros_0f7a4 61 = .ok (.iload_n 0, 1) := by decide +kernel
theorem dJ6_numberOfLeadingZeros_0f7a4_62 : decode cJ6_numberOfLeadingZeros_0f7a4 62 = .ok (.iconst 4, 1) := by decide +kernel
theorem dJ6_numberOfLeadingZeros_0f7a4_63 : decode cJ6_numberOfLeadingZeros_0f7a4 63 = .ok (.if_icmp .lt 10, 3) := by decide +kernel
theorem dJ6_numberOfLeadingZeros_0f7a4_66 : decode cJ6_numberOfLeadingZeros_0f7a4 66 = .ok (.iinc 1 (-2), 3) := by decide +kernel
theorem dJ6_numberOfLeadingZeros_0f7a4_69 : decode cJ6_numberOfLeadingZeros_0f7a4 69 = .ok (.iload_n 0, 1) := by decide +kernel
theorem dJ6_numberOfLeadingZeros_0f7a4_70 : decode cJ6_numberOfLeadingZeros_0f7a4 70 = .ok (.iconst 2, 1) := by decide +kernel
theorem dJ6_numberOfLeadingZeros_0f7a4_71 : decode cJ6_numberOfLeadingZeros_0f7a4 71 = .ok (.iushr, 1) := by decide +kernel
theorem dJ6_numberOfLeadingZeros_0f7a4_72 : decode cJ6_numberOfLeadingZeros_0f7a4 72 = .ok (.istore_n 0, 1) := by decide +kernel
theorem dJ6_numberOfLeadingZeros_0f7a4_73 : decode cJ6_numberOfLeadingZeros_0f7a4 73 = .ok (.iload_n 1, 1) := by decide +kernel
theorem dJ6_numberOfLeadingZeros_0f7a4_74 : decode cJ6_numberOfLeadingZeros_0f7a4 74 = .ok (.iload_n 0, 1) := by decide +kernel
theorem dJ6_numberOfLeadingZeros_0f7a4_75 : decode cJ6_numberOfLeadingZeros_0f7a4 75 = .ok (.iconst 1, 1) := by decide +kernel
theorem dJ6_numberOfLeadingZeros_0f7a4_76 : decode cJ6_numberOfLeadingZeros_0f7a4 76 = .ok (.iushr, 1) := by decide +kernel
theorem dJ6_numberOfLeadingZeros_0f7a4_77 : decode cJ6_numberOfLeadingZeros_0f7a4 77 = .ok (.isub, 1) := by decide +kernel
theorem dJ6_numberOfLeadingZeros_0f7a4_78 : decode cJ6_numberOfLeadingZeros_0f7a4 78 = .ok (.ireturn, 1) := by decide +kernel
theorem dJ13_numberOfLeadingZeros_95d88_0 : decode cJ13_numberOfLeadingZeros_95d88 0 = .ok (.lload_n 0, 1) := by decide +kernel
theorem dJ13_numberOfLeadingZeros_95d88_1 : decode cJ13_numberOfLeadingZeros_95d88 1 = .ok (.bipush 32, 2) := by decide +kernel
theorem dJ13_numberOfLeadingZeros_95d88_3 : decode cJ13_numberOfLeadingZeros_95d88 3 = .ok (.lushr, 1) := by decide +kernel
theorem dJ13_numberOfLeadingZeros_95d88_4 : decode cJ13_numberOfLeadingZeros_95d88 4 = .ok (.l2i, 1) := by decide +kernel
theorem dJ13_numberOfLeadingZeros_95d88_5 : decode cJ13_numberOfLeadingZeros_95d88 5 = .ok (.istore_n 2, 1) := by decide +kernel
theorem dJ13_numberOfLeadingZeros_95d88_6 : decode cJ13_numberOfLeadingZeros_95d88 6 = .ok (.iload_n 2, 1) := by decide +kernel
theorem dJ13_numberOfLeadingZeros_95d88_7 : decode cJ13_numberOfLeadingZeros_95d88 7 = .ok (.ifCond .ne 14, 3) := by decide +kernel
theorem dJ13_numberOfLeadingZeros_95d88_10 : decode cJ13_numberOfLeadingZeros_95d88 10 = .ok (.bipush 32, 2) := by decide +kernel
theorem dJ13_numberOfLeadingZeros_95d88_12 : decode cJ13_numberOfLeadingZeros_95d88 12 = .ok (.lload_n 0, 1) := by decide +kernel
theorem dJ13_numberOfLeadingZeros_95d88_13 : decode cJ13_numberOfLeadingZeros_95d88 13 = .ok (.l2i, 1) := by decide +kernel
theorem dJ13_numberOfLeadingZeros_95d88_14 : decode cJ13_numberOfLeadingZeros_95d88 14 = .ok (.invokestatic 308, 3) := by decide +kernel
theorem dJ13_numberOfLeadingZeros_95d88_17 : decode cJ13_numberOfLeadingZeros_95d88 17 = .ok (.iadd, 1) := by decide +kernel
theorem dJ13_numberOfLeadingZeros_95d88_18 : decode cJ13_numberOfLeadingZeros_95d88 18 = .ok (.goto 7, 3) := by decide +kernel
theorem dJ13_numberOfLeadingZeros_95d88_21 : decode cJ13_numberOfLeadingZeros_95d88 21 = .ok (.iload_n 2, 1) := by decide +kernel
theorem dJ13_numberOfLeadingZeros_95d88_22 : decode cJ13_numberOfLeadingZeros_95d88 22 = .ok (.invokestatic 308, 3) := by decide +kernel
theorem dJ13_numberOfLeadingZeros_95d88_25 : decode cJ13_numberOfLeadingZeros_95d88 25 = .ok (.ireturn, 1) := by decide +kernel
theorem dJ9_floorDiv_7cf53_0 : decode cJ9_floorDiv_7cf53 0 = .ok (.iload_n 0, 1) := by decide +kernel
theorem dJ9_floorDiv_7cf53_1 : decode cJ9_floorDiv_7cf53 1 = .ok (.iload_n 1, 1) := by decide +kernel
theorem dJ9_floorDiv_7cf53_2 : decode cJ9_floorDiv_7cf53 2 = .ok (.idiv, 1) := by decide +kernel
theorem dJ9_floorDiv_7cf53_3 : decode cJ9_floorDiv_7cf53 3 = .ok (.istore_n 2, 1) := by decide +kernel
theorem dJ9_floorDiv_7cf53_4 : decode cJ9_floorDiv_7cf53 4 = .ok (.iload_n 0, 1) := by decide +kernel
theorem dJ9_floorDiv_7cf53_5 : decode cJ9_floorDiv_7cf53 5 = .ok (.iload_n 1, 1) := by decide +kernel
theorem dJ9_floorDiv_7cf53_6 : decode cJ9_floorDiv_7cf53 6 = .ok (.ixor, 1) := by decide +kernel
theorem dJ9_floorDiv_7cf53_7 : decode cJ9_floorDiv_7cf53 7 = .ok (.ifCond .ge 14, 3) := by decide +kernel
theorem dJ9_floorDiv_7cf53_10 : decode cJ9_floorDiv_7cf53 10 = .ok (.iload_n 2, 1) := by decide +kernel
theorem dJ9_floorDiv_7cf53_11 : decode cJ9_floorDiv_7cf53 11 = .ok (.iload_n 1, 1) := by decide +kernel
theorem dJ9_floorDiv_7cf53_12 : decode cJ9_floorDiv_7cf53 12 = .ok (.imul, 1) := by decide +kernel
theorem dJ9_floorDiv_7cf53_13 : decode cJ9_floorDiv_7cf53 13 = .ok (.iload_n 0, 1) := by decide +kernel
theorem dJ9_floorDiv_7cf53_14 : decode cJ9_floorDiv_7cf53 14 = .ok (.if_icmp .eq 7, 3) := by decide +kernel
theorem dJ9_floorDiv_7cf53_17 : decode cJ9_floorDiv_7cf53 17 = .ok (.iload_n 2, 1) := by decide +kernel
theorem dJ9_floorDiv_7cf53_18 : decode cJ9_floorDiv_7cf53 18 = .ok (.iconst 1, 1) := by decide +kernel
theorem dJ9_floorDiv_7cf53_19 : decode cJ9_floorDiv_7cf53 19 = .ok (.isub, 1) := by decide +kernel
theorem dJ9_floorDiv_7cf53_20 : decode cJ9_floorDiv_7cf53 20 = .ok (.ireturn, 1) := by decide +kernel
theorem dJ9_floorDiv_7cf53_21 : decode cJ9_floorDiv_7cf53 21 = .ok (.iload_n 2, 1) := by decide +kernel
theorem dJ9_floorDiv_7cf53_22 : decode cJ9_floorDiv_7cf53 22 = .ok (.ireturn, 1) := by decide +kernel
theorem dJ9_abs_0f7a4_0 : decode cJ9_abs_0f7a4 0 = .ok (.iload_n 0, 1) := by decide +kernel
theorem dJ9_abs_0f7a4_1 : decode cJ9_abs_0f7a4 1 = .ok (.ifCond .ge 8, 3) := by decide +kernel
theorem dJ9_abs_0f7a4_4 : decode cJ9_abs_0f7a4 4 = .ok (.iload_n 0, 1) := by decide +kernel
theorem dJ9_abs_0f7a4_5 : decode cJ9_abs_0f7a4 5 = .ok (.ineg, 1) := by decide +kernel
theorem dJ9_abs_0f7a4_6 : decode cJ9_abs_0f7a4 6 = .ok (.goto 4, 3) := by decide +kernel
theorem dJ9_abs_0f7a4_9 : decode cJ9_abs_0f7a4 9 = .ok (.iload_n 0, 1) := by decide +kernel
theorem dJ9_abs_0f7a4_10 : decode cJ9_abs_0f7a4 10 = .ok (.ireturn, 1) := by decide +kernel
theorem dJ9_max_7cf53_0 : decode cJ9_max_7cf53 0 = .ok (.iload_n 0, 1) := by decide +kernel
theorem dJ9_max_7cf53_1 : decode cJ9_max_7cf53 1 = .ok (.iload_n 1, 1) := by decide +kernel
theorem dJ9_max_7cf53_2 : decode cJ9_max_7cf53 2 = .ok (.if_icmp .lt 7, 3) := by decide +kernel
theorem dJ9_max_7cf53_5 : decode cJ9_max_7cf53 5 = .ok (.iload_n 0, 1) := by decide +kernel
theorem dJ9_max_7cf53_6 : decode cJ9_max_7cf53 6 = .ok (.goto 4, 3) := by decide +kernel
theorem dJ9_max_7cf53_9 : decode cJ9_max_7cf53 9 = .ok (.iload_n 1, 1) := by decide +kernel
theorem dJ9_max_7cf53_10 : decode cJ9_max_7cf53 10 = .ok (.ireturn, 1) := by decide +kernel
theorem dJ9_min_7cf53_0 : decode cJ9_min_7cf53 0 = .ok (.iload_n 0, 1) := by decide +kernel
theorem dJ9_min_7cf53_1 : decode cJ9_min_7cf53 1 = .ok (.iload_n 1, 1) := by decide +kernel
theorem dJ9_min_7cf53_2 : decode cJ9_min_7cf53 2 = .ok (.if_icmp .gt 7, 3) := by decide +kernel
theorem dJ9_min_7cf53_5 : decode cJ9_min_7cf53 5 = .ok (.iload_n 0, 1) := by decide +kernel
theorem dJ9_min_7cf53_6 : decode cJ9_min_7cf53 6 = .ok (.goto 4, 3) := by decide +kernel
theorem dJ9_min_7cf53_9 : decode cJ9_min_7cf53 9 = .ok (.iload_n 1, 1) := by decide +kernel
theorem dJ9_min_7cf53_10 : decode cJ9_min_7cf53 10 = .ok (.ireturn, 1) := by decide +kernel
end
section
theorem dX0_init_0 : decode cX0_init 0 = .ok (.aload_n 0, 1) := by decide +kernel
theorem dX0_init_1 : decode cX0_init 1 = .ok (.invokespecial 1, 3) := by decide +kernel
theorem dX0_init_4 : decode cX0_init 4 = .ok (.aload_n 0, 1) := by decide +kernel
theorem dX0_init_5 : decode cX0_init 5 = .ok (.iconst 0, 1) := by decide +kernel
theorem dX0_init_6 : decode cX0_init 6 = .ok (.newarray .long, 2) := by decide +kernel
theorem dX0_init_8 : decode cX0_init 8 = .ok (.putfield 7, 3) := by decide +kernel
theorem dX0_init_11 : decode cX0_init 11 = .ok (.return_, 1) := by decide +kernel
theorem dX0_renew_0 : decode cX0_renew 0 = .ok (.aload_n 0, 1) := by decide +kernel
theorem dX0_renew_1 : decode cX0_renew 1 = .ok (.iload_n 1, 1) := by decide +kernel
theorem dX0_renew_2 : decode cX0_renew 2 = .ok (.putfield 13, 3) := by decide +kernel
theorem dX0_renew_5 : decode cX0_renew 5 = .ok (.aload_n 0, 1) := by decide +kernel
theorem dX0_renew_6 : decode cX0_renew 6 = .ok (.iload_n 2, 1) := by decide +kernel
theorem dX0_renew_7 : decode cX0_renew 7 = .ok (.putfield 17, 3) := by decide +kernel
theorem dX0_renew_10 : decode cX0_renew 10 = .ok (.aload_n 0, 1) := by decide +kernel
theorem dX0_renew_11 : decode cX0_renew 11 = .ok (.aload_n 0, 1) := by decide +kernel
theorem dX0_renew_12 : decode cX0_renew 12 = .ok (.getfield 13, 3) := by decide +kernel
theorem dX0_renew_15 : decode cX0_renew 15 = .ok (.aload_n 0, 1) := by decide +kernel
theorem dX0_renew_16 : decode cX0_renew 16 = .ok (.getfield 17, 3) := by decide +kernel
theorem dX0_renew_19 : decode cX0_renew 19 = .ok (.imul, 1) := by decide +kernel
theorem dX0_renew_20 : decode cX0_renew 20 = .ok (.bipush 10, 2) := by decide +kernel
theorem dX0_renew_22 : decode cX0_renew 22 = .ok (.iadd, 1) := by decide +kernel
theorem dX0_renew_23 : decode cX0_renew 23 = .ok (.iconst 1, 1) := by decide +kernel
theorem dX0_renew_24 : decode cX0_renew 24 = .ok (.isub, 1) := by decide +kernel
theorem dX0_renew_25 : decode cX0_renew 25 = .ok (.bipush 10, 2) := by decide +kernel
theorem dX0_renew_27 : decode cX0_renew 27 = .ok (.idiv, 1) := by decide +kernel
theorem dX0_renew_28 : decode cX0_renew 28 = .ok (.putfield 20, 3) := by decide +kernel
theorem dX0_renew_31 : decode cX0_renew 31 = .ok (.aload_n 0, 1) := by decide +kernel
theorem dX0_renew_32 : decode cX0_renew 32 = .ok (.iconst 0, 1) := by decide +kernel
theorem dX0_renew_33 : decode cX0_renew 33 = .ok (.putfield 23, 3) := by decide +kernel
theorem dX0_renew_36 : decode cX0_renew 36 = .ok (.aload_n 0, 1) := by decide +kernel
theorem dX0_renew_37 : decode cX0_renew 37 = .ok (.getfield 20, 3) := by decide +kernel
theorem dX0_renew_40 : decode cX0_renew 40 = .ok (.iload_n 3, 1) := by decide +kernel
theorem dX0_renew_41 : decode cX0_renew 41 = .ok (.imul, 1) := by decide +kernel
theorem dX0_renew_42 : decode cX0_renew 42 = .ok (.istore 4, 2) := by decide +kernel
theorem dX0_renew_44 : decode cX0_renew 44 = .ok (.iload 4, 2) := by decide +kernel
theorem dX0_renew_46 : decode cX0_renew 46 = .ok (.aload_n 0, 1) := by decide +kernel
theorem dX0_renew_47 : decode cX0_renew 47 = .ok (.getfield 7, 3) := by decide +kernel
theorem dX0_renew_50 : decode cX0_renew 50 = .ok (.arraylength, 1) := by decide +kernel
theorem dX0_renew_51 : decode cX0_renew 51 = .ok (.if_icmp .le 21, 3) := by decide +kernel
theorem dX0_renew_54 : decode cX0_renew 54 = .ok (.aload_n 0, 1) := by decide +kernel
theorem dX0_renew_55 : decode cX0_renew 55 = .ok (.iload 4, 2) := by decide +kernel
theorem dX0_renew_57 : decode cX0_renew 57 = .ok (.iconst 2, 1) := by decide +kernel
theorem dX0_renew_58 : decode cX0_renew 58 = .ok (.aload_n 0, 1) := by decide +kernel
theorem dX0_renew_59 : decode cX0_renew 59 = .ok (.getfield 7, 3) := by decide +kernel
theorem dX0_renew_62 : decode cX0_renew 62 = .ok (.arraylength, 1) := by decide +kernel
theorem dX0_renew_63 : decode cX0_renew 63 = .ok (.imul, 1) := by decide +kernel
theorem dX0_renew_64 : decode cX0_renew 64 = .ok (.invokestatic 26, 3) := by decide +kernel
theorem dX0_renew_67 : decode cX0_renew 67 = .ok (.newarray .long, 2) := by decide +kernel
theorem dX0_renew_69 : decode cX0_renew 69 = .ok (.putfield 7, 3) := by decide +kernel
theorem dX0_renew_72 : decode cX0_renew 72 = .ok (.return_, 1) := by decide +kernel
theorem dX0_keep_0 : decode cX0_keep 0 = .ok (.aload_n 0, 1) := by decide +kernel
theorem dX0_keep_1 : decode cX0_keep 1 = .ok (.getfield 23, 3) := by decide +kernel
theorem dX0_keep_4 : decode cX0_keep 4 = .ok (.aload_n 0, 1) := by decide +kernel
theorem dX0_keep_5 : decode cX0_keep 5 = .ok (.getfield 20, 3) := by decide +kernel
theorem dX0_keep_8 : decode cX0_keep 8 = .ok (.imul, 1) := by decide +kernel
theorem dX0_keep_9 : decode cX0_keep 9 = .ok (.istore_n 3, 1) := by decide +kernel
theorem dX0_keep_10 : decode cX0_keep 10 = .ok (.iload_n 3, 1) := by decide +kernel
theorem dX0_keep_11 : decode cX0_keep 11 = .ok (.aload_n 0, 1) := by decide +kernel
theorem dX0_keep_12 : decode cX0_keep 12 = .ok (.getfield 20, 3) := by decide +kernel
theorem dX0_keep_15 : decode cX0_keep 15 = .ok (.iadd, 1) := by decide +kernel
theorem dX0_keep_16 : decode cX0_keep 16 = .ok (.aload_n 0, 1) := by decide +kernel
theorem dX0_keep_17 : decode cX0_keep 17 = .ok (.getfield 7, 3) := by decide +kernel
theorem dX0_keep_20 : decode cX0_keep 20 = .ok (.arraylength, 1) := by decide +kernel
theorem dX0_keep_21 : decode cX0_keep 21 = .ok (.if_icmp .gt 17, 3) := by decide +kernel
theorem dX0_keep_24 : decode cX0_keep 24 = .ok (.aload_n 0, 1) := by decide +kernel
theorem dX0_keep_25 : decode cX0_keep 25 = .ok (.getfield 13, 3) := by decide +kernel
theorem dX0_keep_28 : decode cX0_keep 28 = .ok (.aload_n 0, 1) := by decide +kernel
theorem dX0_keep_29 : decode cX0_keep 29 = .ok (.getfield 17, 3) := by decide +kernel
theorem dX0_keep_32 : decode cX0_keep 32 = .ok (.imul, 1) := by decide +kernel
theorem dX0_keep_33 : decode cX0_keep 33 = .ok (.aload_n 1, 1) := by decide +kernel
theorem dX0_keep_34 : decode cX0_keep 34 = .ok (.arraylength, 1) := by decide +kernel
theorem dX0_keep_35 : decode cX0_keep 35 = .ok (.if_icmp .le 4, 3) := by decide +kernel
theorem dX0_keep_38 : decode cX0_keep 38 = .ok (.return_, 1) := by decide +kernel
theorem dX0_keep_39 : decode cX0_keep 39 = .ok (.iconst 0, 1) := by decide +kernel
theorem dX0_keep_40 : decode cX0_keep 40 = .ok (.istore 4, 2) := by decide +kernel
theorem dX0_keep_42 : decode cX0_keep 42 = .ok (.iconst 0, 1) := by decide +kernel
theorem dX0_keep_43 : decode cX0_keep 43 = .ok (.istore 5, 2) := by decide +kernel
theorem dX0_keep_45 : decode cX0_keep 45 = .ok (.iload 5, 2) := by decide +kernel
theorem dX0_keep_47 : decode cX0_keep 47 = .ok (.aload_n 0, 1) := by decide +kernel
theorem dX0_keep_48 : decode cX0_keep 48 = .ok (.getfield 20, 3) := by decide +kernel
theorem dX0_keep_51 : decode cX0_keep 51 = .ok (.if_icmp .ge 74, 3) := by decide +kernel
theorem dX0_keep_54 : decode cX0_keep 54 = .ok (.aload_n 0, 1) := by decide +kernel
theorem dX0_keep_55 : decode cX0_keep 55 = .ok (.getfield 13, 3) := by decide +kernel
theorem dX0_keep_58 : decode cX0_keep 58 = .ok (.aload_n 0, 1) := by decide +kernel
theorem dX0_keep_59 : decode cX0_keep 59 = .ok (.getfield 17, 3) := by decide +kernel
theorem dX0_keep_62 : decode cX0_keep 62 = .ok (.imul, 1) := by decide +kernel
theorem dX0_keep_63 : decode cX0_keep 63 = .ok (.iload 4, 2) := by decide +kernel
theorem dX0_keep_65 : decode cX0_keep 65 = .ok (.bipush 10, 2) := by decide +kernel
theorem dX0_keep_67 : decode cX0_keep 67 = .ok (.iadd, 1) := by decide +kernel
theorem dX0_keep_68 : decode cX0_keep 68 = .ok (.invokestatic 32, 3) := by decide +kernel
theorem dX0_keep_71 : decode cX0_keep 71 = .ok (.istore 6, 2) := by decide +kernel
theorem dX0_keep_73 : decode cX0_keep 73 = .ok (.lconst 0, 1) := by decide +kernel
theorem dX0_keep_74 : decode cX0_keep 74 = .ok (.lstore 7, 2) := by decide +kernel
theorem dX0_keep_76 : decode cX0_keep 76 = .ok (.iconst 0, 1) := by decide +kernel
theorem dX0_keep_77 : decode cX0_keep 77 = .ok (.istore 9, 2) := by decide +kernel
theorem dX0_keep_79 : decode cX0_keep 79 = .ok (.iload 4, 2) := by decide +kernel
theorem dX0_keep_81 : decode cX0_keep 81 = .ok (.iload 6, 2) := by decide +kernel
theorem dX0_keep_83 : decode cX0_keep 83 = .ok (.if_icmp .ge 25, 3) := by decide +kernel
theorem dX0_keep_86 : decode cX0_keep 86 = .ok (.lload 7, 2) := by decide +kernel
theorem dX0_keep_88 : decode cX0_keep 88 = .ok (.aload_n 1, 1) := by decide +kernel
theorem dX0_keep_89 : decode cX0_keep 89 = .ok (.iload 4, 2) := by decide +kernel
theorem dX0_keep_91 : decode cX0_keep 91 = .ok (.iaload, 1) := by decide +kernel
theorem dX0_keep_92 : decode cX0_keep 92 = .ok (.i2l, 1) := by decide +kernel
theorem dX0_keep_93 : decode cX0_keep 93 = .ok (.iload 9, 2) := by decide +kernel
theorem dX0_keep_95 : decode cX0_keep 95 = .ok (.lshl, 1) := by decide +kernel
theorem dX0_keep_96 : decode cX0_keep 96 = .ok (.lor, 1) := by decide +kernel
theorem dX0_keep_97 : decode cX0_keep 97 = .ok (.lstore 7, 2) := by decide +kernel
theorem dX0_keep_99 : decode cX0_keep 99 = .ok (.iinc 9 6, 3) := by decide +kernel
theorem dX0_keep_102 : decode cX0_keep 102 = .ok (.iinc 4 1, 3) := by decide +kernel
theorem dX0_keep_105 : decode cX0_keep 105 = .ok (.goto (-26), 3) := by decide +kernel
theorem dX0_keep_108 : decode cX0_keep 108 = .ok (.aload_n 0, 1) := by decide +kernel
theorem dX0_keep_109 : decode cX0_keep 109 = .ok (.getfield 7, 3) := by decide +kernel
theorem dX0_keep_112 : decode cX0_keep 112 = .ok (.iload_n 3, 1) := by decide +kernel
theorem dX0_keep_113 : decode cX0_keep 113 = .ok (.iload 5, 2) := by decide +kernel
theorem dX0_keep_115 : decode cX0_keep 115 = .ok (.iadd, 1) := by decide +kernel
theorem dX0_keep_116 : decode cX0_keep 116 = .ok (.lload 7, 2) := by decide +kernel
theorem dX0_keep_118 : decode cX0_keep 118 = .ok (.lastore, 1) := by decide +kernel
theorem dX0_keep_119 : decode cX0_keep 119 = .ok (.iinc 5 1, 3) := by decide +kernel
theorem dX0_keep_122 : decode cX0_keep 122 = .ok (.goto (-77), 3) := by decide +kernel
theorem dX0_keep_125 : decode cX0_keep 125 = .ok (.aload_n 0, 1) := by decide +kernel
theorem dX0_keep_126 : decode cX0_keep 126 = .ok (.getfield 7, 3) := by decide +kernel
theorem dX0_keep_129 : decode cX0_keep 129 = .ok (.iload_n 3, 1) := by decide +kernel
theorem dX0_keep_130 : decode cX0_keep 130 = .ok (.dup2, 1) := by decide +kernel
theorem dX0_keep_131 : decode cX0_keep 131 = .ok (.laload, 1) := by decide +kernel
theorem dX0_keep_132 : decode cX0_keep 132 = .ok (.iload_n 2, 1) := by decide +kernel
theorem dX0_keep_133 : decode cX0_keep 133 = .ok (.iconst 1, 1) := by decide +kernel
theorem dX0_keep_134 : decode cX0_keep 134 = .ok (.iadd, 1) := by decide +kernel
theorem dX0_keep_135 : decode cX0_keep 135 = .ok (.i2l, 1) := by decide +kernel
theorem dX0_keep_136 : decode cX0_keep 136 = .ok (.bipush 60, 2) := by decide +kernel
theorem dX0_keep_138 : decode cX0_keep 138 = .ok (.lshl, 1) := by decide +kernel
theorem dX0_keep_139 : decode cX0_keep 139 = .ok (.lor, 1) := by decide +kernel
theorem dX0_keep_140 : decode cX0_keep 140 = .ok (.lastore, 1) := by decide +kernel
theorem dX0_keep_141 : decode cX0_keep 141 = .ok (.aload_n 0, 1) := by decide +kernel
theorem dX0_keep_142 : decode cX0_keep 142 = .ok (.dup, 1) := by decide +kernel
theorem dX0_keep_143 : decode cX0_keep 143 = .ok (.getfield 23, 3) := by decide +kernel
theorem dX0_keep_146 : decode cX0_keep 146 = .ok (.iconst 1, 1) := by decide +kernel
theorem dX0_keep_147 : decode cX0_keep 147 = .ok (.iadd, 1) := by decide +kernel
theorem dX0_keep_148 : decode cX0_keep 148 = .ok (.putfield 23, 3) := by decide +kernel
theorem dX0_keep_151 : decode cX0_keep 151 = .ok (.return_, 1) := by decide +kernel
theorem dX0_count_0 : decode cX0_count 0 = .ok (.aload_n 0, 1) := by decide +kernel
theorem dX0_count_1 : decode cX0_count 1 = .ok (.getfield 23, 3) := by decide +kernel
theorem dX0_count_4 : decode cX0_count 4 = .ok (.ireturn, 1) := by decide +kernel
theorem dX0_has_0 : decode cX0_has 0 = .ok (.iload_n 1, 1) := by decide +kernel
theorem dX0_has_1 : decode cX0_has 1 = .ok (.ifCond .lt 15, 3) := by decide +kernel
theorem dX0_has_4 : decode cX0_has 4 = .ok (.iload_n 1, 1) := by decide +kernel
theorem dX0_has_5 : decode cX0_has 5 = .ok (.aload_n 0, 1) := by decide +kernel
theorem dX0_has_6 : decode cX0_has 6 = .ok (.getfield 23, 3) := by decide +kernel
theorem dX0_has_9 : decode cX0_has 9 = .ok (.if_icmp .ge 7, 3) := by decide +kernel
theorem dX0_has_12 : decode cX0_has 12 = .ok (.iconst 1, 1) := by decide +kernel
theorem dX0_has_13 : decode cX0_has 13 = .ok (.goto 4, 3) := by decide +kernel
theorem dX0_has_16 : decode cX0_has 16 = .ok (.iconst 0, 1) := by decide +kernel
theorem dX0_has_17 : decode cX0_has 17 = .ok (.ireturn, 1) := by decide +kernel
theorem dX0_hasCell_0 : decode cX0_hasCell 0 = .ok (.iload_n 1, 1) := by decide +kernel
theorem dX0_hasCell_1 : decode cX0_hasCell 1 = .ok (.ifCond .lt 27, 3) := by decide +kernel
theorem dX0_hasCell_4 : decode cX0_hasCell 4 = .ok (.iload_n 1, 1) := by decide +kernel
theorem dX0_hasCell_5 : decode cX0_hasCell 5 = .ok (.aload_n 0, 1) := by decide +kernel
theorem dX0_hasCell_6 : decode cX0_hasCell 6 = .ok (.getfield 13, 3) := by decide +kernel
theorem dX0_hasCell_9 : decode cX0_hasCell 9 = .ok (.if_icmp .ge 19, 3) := by decide +kernel
theorem dX0_hasCell_12 : decode cX0_hasCell 12 = .ok (.iload_n 2, 1) := by decide +kernel
theorem dX0_hasCell_13 : decode cX0_hasCell 13 = .ok (.ifCond .lt 15, 3) := by decide +kernel
theorem dX0_hasCell_16 : decode cX0_hasCell 16 = .ok (.iload_n 2, 1) := by decide +kernel
theorem dX0_hasCell_17 : decode cX0_hasCell 17 = .ok (.aload_n 0, 1) := by decide +kernel
theorem dX0_hasCell_18 : decode cX0_hasCell 18 = .ok (.getfield 17, 3) := by decide +kernel
theorem dX0_hasCell_21 : decode cX0_hasCell 21 = .ok (.if_icmp .ge 7, 3) := by decide +kernel
theorem dX0_hasCell_24 : decode cX0_hasCell 24 = .ok (.iconst 1, 1) := by decide +kernel
theorem dX0_hasCell_25 : decode cX0_hasCell 25 = .ok (.goto 4, 3) := by decide +kernel
theorem dX0_hasCell_28 : decode cX0_hasCell 28 = .ok (.iconst 0, 1) := by decide +kernel
theorem dX0_hasCell_29 : decode cX0_hasCell 29 = .ok (.ireturn, 1) := by decide +kernel
theorem dX0_numberAt_0 : decode cX0_numberAt 0 = .ok (.aload_n 0, 1) := by decide +kernel
theorem dX0_numberAt_1 : decode cX0_numberAt 1 = .ok (.iload_n 1, 1) := by decide +kernel
theorem dX0_numberAt_2 : decode cX0_numberAt 2 = .ok (.invokevirtual 35, 3) := by decide +kernel
theorem dX0_numberAt_5 : decode cX0_numberAt 5 = .ok (.ifCond .eq 12, 3) := by decide +kernel
theorem dX0_numberAt_8 : decode cX0_numberAt 8 = .ok (.aload_n 0, 1) := by decide +kernel
theorem dX0_numberAt_9 : decode cX0_numberAt 9 = .ok (.iload_n 2, 1) := by decide +kernel
theorem dX0_numberAt_10 : decode cX0_numberAt 10 = .ok (.iload_n 3, 1) := by decide +kernel
theorem dX0_numberAt_11 : decode cX0_numberAt 11 = .ok (.invokevirtual 39, 3) := by decide +kernel
theorem dX0_numberAt_14 : decode cX0_numberAt 14 = .ok (.ifCond .ne 5, 3) := by decide +kernel
theorem dX0_numberAt_17 : decode cX0_numberAt 17 = .ok (.iconst 0, 1) := by decide +kernel
theorem dX0_numberAt_18 : decode cX0_numberAt 18 = .ok (.ireturn, 1) := by decide +kernel
theorem dX0_numberAt_19 : decode cX0_numberAt 19 = .ok (.iload_n 2, 1) := by decide +kernel
theorem dX0_numberAt_20 : decode cX0_numberAt 20 = .ok (.aload_n 0, 1) := by decide +kernel
theorem dX0_numberAt_21 : decode cX0_numberAt 21 = .ok (.getfield 17, 3) := by decide +kernel
theorem dX0_numberAt_24 : decode cX0_numberAt 24 = .ok (.imul, 1) := by decide +kernel
theorem dX0_numberAt_25 : decode cX0_numberAt 25 = .ok (.iload_n 3, 1) := by decide +kernel
theorem dX0_numberAt_26 : decode cX0_numberAt 26 = .ok (.iadd, 1) := by decide +kernel
theorem dX0_numberAt_27 : decode cX0_numberAt 27 = .ok (.istore 4, 2) := by decide +kernel
theorem dX0_numberAt_29 : decode cX0_numberAt 29 = .ok (.aload_n 0, 1) := by decide +kernel
theorem dX0_numberAt_30 : decode cX0_numberAt 30 = .ok (.getfield 7, 3) := by decide +kernel
theorem dX0_numberAt_33 : decode cX0_numberAt 33 = .ok (.iload_n 1, 1) := by decide +kernel
theorem dX0_numberAt_34 : decode cX0_numberAt 34 = .ok (.aload_n 0, 1) := by decide +kernel
theorem dX0_numberAt_35 : decode cX0_numberAt 35 = .ok (.getfield 20, 3) := by decide +kernel
theorem dX0_numberAt_38 : decode cX0_numberAt 38 = .ok (.imul, 1) := by decide +kernel
theorem dX0_numberAt_39 : decode cX0_numberAt 39 = .ok (.iload 4, 2) := by decide +kernel
theorem dX0_numberAt_41 : decode cX0_numberAt 41 = .ok (.bipush 10, 2) := by decide +kernel
theorem dX0_numberAt_43 : decode cX0_numberAt 43 = .ok (.idiv, 1) := by decide +kernel
theorem dX0_numberAt_44 : decode cX0_numberAt 44 = .ok (.iadd, 1) := by decide +kernel
theorem dX0_numberAt_45 : decode cX0_numberAt 45 = .ok (.laload, 1) := by decide +kernel
theorem dX0_numberAt_46 : decode cX0_numberAt 46 = .ok (.bipush 6, 2) := by decide +kernel
theorem dX0_numberAt_48 : decode cX0_numberAt 48 = .ok (.iload 4, 2) := by decide +kernel
theorem dX0_numberAt_50 : decode cX0_numberAt 50 = .ok (.bipush 10, 2) := by decide +kernel
theorem dX0_numberAt_52 : decode cX0_numberAt 52 = .ok (.irem, 1) := by decide +kernel
theorem dX0_numberAt_53 : decode cX0_numberAt 53 = .ok (.imul, 1) := by decide +kernel
theorem dX0_numberAt_54 : decode cX0_numberAt 54 = .ok (.lshr, 1) := by decide +kernel
theorem dX0_numberAt_55 : decode cX0_numberAt 55 = .ok (.l2i, 1) := by decide +kernel
theorem dX0_numberAt_56 : decode cX0_numberAt 56 = .ok (.bipush 63, 2) := by decide +kernel
theorem dX0_numberAt_58 : decode cX0_numberAt 58 = .ok (.iand, 1) := by decide +kernel
theorem dX0_numberAt_59 : decode cX0_numberAt 59 = .ok (.ireturn, 1) := by decide +kernel
theorem dX0_orderOf_0 : decode cX0_orderOf 0 = .ok (.aload_n 0, 1) := by decide +kernel
theorem dX0_orderOf_1 : decode cX0_orderOf 1 = .ok (.iload_n 1, 1) := by decide +kernel
theorem dX0_orderOf_2 : decode cX0_orderOf 2 = .ok (.invokevirtual 35, 3) := by decide +kernel
theorem dX0_orderOf_5 : decode cX0_orderOf 5 = .ok (.ifCond .eq 23, 3) := by decide +kernel
theorem dX0_orderOf_8 : decode cX0_orderOf 8 = .ok (.aload_n 0, 1) := by decide +kernel
theorem dX0_orderOf_9 : decode cX0_orderOf 9 = .ok (.getfield 7, 3) := by decide +kernel
theorem dX0_orderOf_12 : decode cX0_orderOf 12 = .ok (.iload_n 1, 1) := by decide +kernel
theorem dX0_orderOf_13 : decode cX0_orderOf 13 = .ok (.aload_n 0, 1) := by decide +kernel
theorem dX0_orderOf_14 : decode cX0_orderOf 14 = .ok (.getfield 20, 3) := by decide +kernel
theorem dX0_orderOf_17 : decode cX0_orderOf 17 = .ok (.imul, 1) := by decide +kernel
theorem dX0_orderOf_18 : decode cX0_orderOf 18 = .ok (.laload, 1) := by decide +kernel
theorem dX0_orderOf_19 : decode cX0_orderOf 19 = .ok (.bipush 60, 2) := by decide +kernel
theorem dX0_orderOf_21 : decode cX0_orderOf 21 = .ok (.lshr, 1) := by decide +kernel
theorem dX0_orderOf_22 : decode cX0_orderOf 22 = .ok (.l2i, 1) := by decide +kernel
theorem dX0_orderOf_23 : decode cX0_orderOf 23 = .ok (.iconst 1, 1) := by decide +kernel
theorem dX0_orderOf_24 : decode cX0_orderOf 24 = .ok (.isub, 1) := by decide +kernel
theorem dX0_orderOf_25 : decode cX0_orderOf 25 = .ok (.goto 4, 3) := by decide +kernel
theorem dX0_orderOf_28 : decode cX0_orderOf 28 = .ok (.iconst 0, 1) := by decide +kernel
theorem dX0_orderOf_29 : decode cX0_orderOf 29 = .ok (.ireturn, 1) := by decide +kernel
end
section
theorem dX1_init_0 : decode cX1_init 0 = .ok (.aload_n 0, 1) := by decide +kernel
theorem dX1_init_1 : decode cX1_init 1 = .ok (.invokespecial 3, 3) := by decide +kernel
theorem dX1_init_4 : decode cX1_init 4 = .ok (.aload_n 0, 1) := by decide +kernel
theorem dX1_init_5 : decode cX1_init 5 = .ok (.bipush 12, 2) := by decide +kernel
theorem dX1_init_7 : decode cX1_init 7 = .ok (.anewarray 9, 3) := by decide +kernel
theorem dX1_init_10 : decode cX1_init 10 = .ok (.putfield 11, 3) := by decide +kernel
theorem dX1_init_13 : decode cX1_init 13 = .ok (.aload_n 0, 1) := by decide +kernel
theorem dX1_init_14 : decode cX1_init 14 = .ok (.bipush 12, 2) := by decide +kernel
theorem dX1_init_16 : decode cX1_init 16 = .ok (.newarray .int, 2) := by decide +kernel
theorem dX1_init_18 : decode cX1_init 18 = .ok (.putfield 17, 3) := by decide +kernel
theorem dX1_init_21 : decode cX1_init 21 = .ok (.aload_n 0, 1) := by decide +kernel
theorem dX1_init_22 : decode cX1_init 22 = .ok (.aload_n 1, 1) := by decide +kernel
theorem dX1_init_23 : decode cX1_init 23 = .ok (.putfield 21, 3) := by decide +kernel
theorem dX1_init_26 : decode cX1_init 26 = .ok (.iconst 0, 1) := by decide +kernel
theorem dX1_init_27 : decode cX1_init 27 = .ok (.istore_n 2, 1) := by decide +kernel
theorem dX1_init_28 : decode cX1_init 28 = .ok (.iload_n 2, 1) := by decide +kernel
theorem dX1_init_29 : decode cX1_init 29 = .ok (.bipush 12, 2) := by decide +kernel
theorem dX1_init_31 : decode cX1_init 31 = .ok (.if_icmp .ge 22, 3) := by decide +kernel
theorem dX1_init_34 : decode cX1_init 34 = .ok (.aload_n 0, 1) := by decide +kernel
theorem dX1_init_35 : decode cX1_init 35 = .ok (.getfield 11, 3) := by decide +kernel
theorem dX1_init_38 : decode cX1_init 38 = .ok (.iload_n 2, 1) := by decide +kernel
theorem dX1_init_39 : decode cX1_init 39 = .ok (.new 9, 3) := by decide +kernel
theorem dX1_init_42 : decode cX1_init 42 = .ok (.dup, 1) := by decide +kernel
theorem dX1_init_43 : decode cX1_init 43 = .ok (.invokespecial 25, 3) := by decide +kernel
theorem dX1_init_46 : decode cX1_init 46 = .ok (.aastore, 1) := by decide +kernel
theorem dX1_init_47 : decode cX1_init 47 = .ok (.iinc 2 1, 3) := by decide +kernel
theorem dX1_init_50 : decode cX1_init 50 = .ok (.goto (-22), 3) := by decide +kernel
theorem dX1_init_53 : decode cX1_init 53 = .ok (.return_, 1) := by decide +kernel
theorem dX1_size_0 : decode cX1_size 0 = .ok (.aload_n 0, 1) := by decide +kernel
theorem dX1_size_1 : decode cX1_size 1 = .ok (.getfield 26, 3) := by decide +kernel
theorem dX1_size_4 : decode cX1_size 4 = .ok (.ireturn, 1) := by decide +kernel
theorem dX1_isFull_0 : decode cX1_isFull 0 = .ok (.aload_n 0, 1) := by decide +kernel
theorem dX1_isFull_1 : decode cX1_isFull 1 = .ok (.getfield 26, 3) := by decide +kernel
theorem dX1_isFull_4 : decode cX1_isFull 4 = .ok (.bipush 12, 2) := by decide +kernel
theorem dX1_isFull_6 : decode cX1_isFull 6 = .ok (.if_icmp .lt 7, 3) := by decide +kernel
theorem dX1_isFull_9 : decode cX1_isFull 9 = .ok (.iconst 1, 1) := by decide +kernel
theorem dX1_isFull_10 : decode cX1_isFull 10 = .ok (.goto 4, 3) := by decide +kernel
theorem dX1_isFull_13 : decode cX1_isFull 13 = .ok (.iconst 0, 1) := by decide +kernel
theorem dX1_isFull_14 : decode cX1_isFull 14 = .ok (.ireturn, 1) := by decide +kernel
theorem dX1_has_0 : decode cX1_has 0 = .ok (.iload_n 1, 1) := by decide +kernel
theorem dX1_has_1 : decode cX1_has 1 = .ok (.ifCond .lt 15, 3) := by decide +kernel
theorem dX1_has_4 : decode cX1_has 4 = .ok (.iload_n 1, 1) := by decide +kernel
theorem dX1_has_5 : decode cX1_has 5 = .ok (.aload_n 0, 1) := by decide +kernel
theorem dX1_has_6 : decode cX1_has 6 = .ok (.getfield 26, 3) := by decide +kernel
theorem dX1_has_9 : decode cX1_has 9 = .ok (.if_icmp .ge 7, 3) := by decide +kernel
theorem dX1_has_12 : decode cX1_has 12 = .ok (.iconst 1, 1) := by decide +kernel
theorem dX1_has_13 : decode cX1_has 13 = .ok (.goto 4, 3) := by decide +kernel
theorem dX1_has_16 : decode cX1_has 16 = .ok (.iconst 0, 1) := by decide +kernel
theorem dX1_has_17 : decode cX1_has 17 = .ok (.ireturn, 1) := by decide +kernel
theorem dX1_empty_0 : decode cX1_empty 0 = .ok (.aload_n 0, 1) := by decide +kernel
theorem dX1_empty_1 : decode cX1_empty 1 = .ok (.getfield 26, 3) := by decide +kernel
theorem dX1_empty_4 : decode cX1_empty 4 = .ok (.istore_n 1, 1) := by decide +kernel
theorem dX1_empty_5 : decode cX1_empty 5 = .ok (.aload_n 0, 1) := by decide +kernel
theorem dX1_empty_6 : decode cX1_empty 6 = .ok (.iconst 0, 1) := by decide +kernel
theorem dX1_empty_7 : decode cX1_empty 7 = .ok (.putfield 26, 3) := by decide +kernel
theorem dX1_empty_10 : decode cX1_empty 10 = .ok (.iload_n 1, 1) := by decide +kernel
theorem dX1_empty_11 : decode cX1_empty 11 = .ok (.ireturn, 1) := by decide +kernel
theorem dX1_add_0 : decode cX1_add 0 = .ok (.aload_n 0, 1) := by decide +kernel
theorem dX1_add_1 : decode cX1_add 1 = .ok (.invokevirtual 30, 3) := by decide +kernel
theorem dX1_add_4 : decode cX1_add 4 = .ok (.ifCond .eq 8, 3) := by decide +kernel
theorem dX1_add_7 : decode cX1_add 7 = .ok (.aload_n 0, 1) := by decide +kernel
theorem dX1_add_8 : decode cX1_add 8 = .ok (.getfield 26, 3) := by decide +kernel
theorem dX1_add_11 : decode cX1_add 11 = .ok (.ireturn, 1) := by decide +kernel
theorem dX1_add_12 : decode cX1_add 12 = .ok (.aload_n 0, 1) := by decide +kernel
theorem dX1_add_13 : decode cX1_add 13 = .ok (.getfield 11, 3) := by decide +kernel
theorem dX1_add_16 : decode cX1_add 16 = .ok (.aload_n 0, 1) := by decide +kernel
theorem dX1_add_17 : decode cX1_add 17 = .ok (.getfield 26, 3) := by decide +kernel
theorem dX1_add_20 : decode cX1_add 20 = .ok (.aaload, 1) := by decide +kernel
theorem dX1_add_21 : decode cX1_add 21 = .ok (.aload_n 1, 1) := by decide +kernel
theorem dX1_add_22 : decode cX1_add 22 = .ok (.invokevirtual 34, 3) := by decide +kernel
theorem dX1_add_25 : decode cX1_add 25 = .ok (.aload_n 0, 1) := by decide +kernel
theorem dX1_add_26 : decode cX1_add 26 = .ok (.getfield 26, 3) := by decide +kernel
theorem dX1_add_29 : decode cX1_add 29 = .ok (.istore_n 2, 1) := by decide +kernel
theorem dX1_add_30 : decode cX1_add 30 = .ok (.iload_n 2, 1) := by decide +kernel
theorem dX1_add_31 : decode cX1_add 31 = .ok (.ifCond .le 47, 3) := by decide +kernel
theorem dX1_add_34 : decode cX1_add 34 = .ok (.aload_n 0, 1) := by decide +kernel
theorem dX1_add_35 : decode cX1_add 35 = .ok (.getfield 21, 3) := by decide +kernel
theorem dX1_add_38 : decode cX1_add 38 = .ok (.aload_n 1, 1) := by decide +kernel
theorem dX1_add_39 : decode cX1_add 39 = .ok (.aload_n 0, 1) := by decide +kernel
theorem dX1_add_40 : decode cX1_add 40 = .ok (.getfield 11, 3) := by decide +kernel
theorem dX1_add_43 : decode cX1_add 43 = .ok (.aload_n 0, 1) := by decide +kernel
theorem dX1_add_44 : decode cX1_add 44 = .ok (.getfield 17, 3) := by decide +kernel
theorem dX1_add_47 : decode cX1_add 47 = .ok (.iload_n 2, 1) := by decide +kernel
theorem dX1_add_48 : decode cX1_add 48 = .ok (.iconst 1, 1) := by decide +kernel
theorem dX1_add_49 : decode cX1_add 49 = .ok (.isub, 1) := by decide +kernel
theorem dX1_add_50 : decode cX1_add 50 = .ok (.iaload, 1) := by decide +kernel
theorem dX1_add_51 : decode cX1_add 51 = .ok (.aaload, 1) := by decide +kernel
theorem dX1_add_52 : decode cX1_add 52 = .ok (.invokevirtual 38, 3) := by decide +kernel
theorem dX1_add_55 : decode cX1_add 55 = .ok (.ifCond .ge 23, 3) := by decide +kernel
theorem dX1_add_58 : decode cX1_add 58 = .ok (.aload_n 0, 1) := by decide +kernel
theorem dX1_add_59 : decode cX1_add 59 = .ok (.getfield 17, 3) := by decide +kernel
theorem dX1_add_62 : decode cX1_add 62 = .ok (.iload_n 2, 1) := by decide +kernel
theorem dX1_add_63 : decode cX1_add 63 = .ok (.aload_n 0, 1) := by decide +kernel
theorem dX1_add_64 : decode cX1_add 64 = .ok (.getfield 17, 3) := by decide +kernel
theorem dX1_add_67 : decode cX1_add 67 = .ok (.iload_n 2, 1) := by decide +kernel
theorem dX1_add_68 : decode cX1_add 68 = .ok (.iconst 1, 1) := by decide +kernel
theorem dX1_add_69 : decode cX1_add 69 = .ok (.isub, 1) := by decide +kernel
theorem dX1_add_70 : decode cX1_add 70 = .ok (.iaload, 1) := by decide +kernel
theorem dX1_add_71 : decode cX1_add 71 = .ok (.iastore, 1) := by decide +kernel
theorem dX1_add_72 : decode cX1_add 72 = .ok (.iinc 2 (-1), 3) := by decide +kernel
theorem dX1_add_75 : decode cX1_add 75 = .ok (.goto (-45), 3) := by decide +kernel
theorem dX1_add_78 : decode cX1_add 78 = .ok (.aload_n 0, 1) := by decide +kernel
theorem dX1_add_79 : decode cX1_add 79 = .ok (.getfield 17, 3) := by decide +kernel
theorem dX1_add_82 : decode cX1_add 82 = .ok (.iload_n 2, 1) := by decide +kernel
theorem dX1_add_83 : decode cX1_add 83 = .ok (.aload_n 0, 1) := by decide +kernel
theorem dX1_add_84 : decode cX1_add 84 = .ok (.getfield 26, 3) := by decide +kernel
theorem dX1_add_87 : decode cX1_add 87 = .ok (.iastore, 1) := by decide +kernel
theorem dX1_add_88 : decode cX1_add 88 = .ok (.aload_n 0, 1) := by decide +kernel
theorem dX1_add_89 : decode cX1_add 89 = .ok (.dup, 1) := by decide +kernel
theorem dX1_add_90 : decode cX1_add 90 = .ok (.getfield 26, 3) := by decide +kernel
theorem dX1_add_93 : decode cX1_add 93 = .ok (.iconst 1, 1) := by decide +kernel
theorem dX1_add_94 : decode cX1_add 94 = .ok (.iadd, 1) := by decide +kernel
theorem dX1_add_95 : decode cX1_add 95 = .ok (.putfield 26, 3) := by decide +kernel
theorem dX1_add_98 : decode cX1_add 98 = .ok (.aload_n 0, 1) := by decide +kernel
theorem dX1_add_99 : decode cX1_add 99 = .ok (.getfield 26, 3) := by decide +kernel
theorem dX1_add_102 : decode cX1_add 102 = .ok (.ireturn, 1) := by decide +kernel
theorem dX1_placeOf_0 : decode cX1_placeOf 0 = .ok (.iconst 0, 1) := by decide +kernel
theorem dX1_placeOf_1 : decode cX1_placeOf 1 = .ok (.istore_n 2, 1) := by decide +kernel
theorem dX1_placeOf_2 : decode cX1_placeOf 2 = .ok (.iload_n 2, 1) := by decide +kernel
theorem dX1_placeOf_3 : decode cX1_placeOf 3 = .ok (.aload_n 0, 1) := by decide +kernel
theorem dX1_placeOf_4 : decode cX1_placeOf 4 = .ok (.getfield 26, 3) := by decide +kernel
theorem dX1_placeOf_7 : decode cX1_placeOf 7 = .ok (.if_icmp .ge 21, 3) := by decide +kernel
theorem dX1_placeOf_10 : decode cX1_placeOf 10 = .ok (.aload_n 0, 1) := by decide +kernel
theorem dX1_placeOf_11 : decode cX1_placeOf 11 = .ok (.getfield 17, 3) := by decide +kernel
theorem dX1_placeOf_14 : decode cX1_placeOf 14 = .ok (.iload_n 2, 1) := by decide +kernel
theorem dX1_placeOf_15 : decode cX1_placeOf 15 = .ok (.iaload, 1) := by decide +kernel
theorem dX1_placeOf_16 : decode cX1_placeOf 16 = .ok (.iload_n 1, 1) := by decide +kernel
theorem dX1_placeOf_17 : decode cX1_placeOf 17 = .ok (.if_icmp .ne 5, 3) := by decide +kernel
theorem dX1_placeOf_20 : decode cX1_placeOf 20 = .ok (.iload_n 2, 1) := by decide +kernel
theorem dX1_placeOf_21 : decode cX1_placeOf 21 = .ok (.ireturn, 1) := by decide +kernel
theorem dX1_placeOf_22 : decode cX1_placeOf 22 = .ok (.iinc 2 1, 3) := by decide +kernel
theorem dX1_placeOf_25 : decode cX1_placeOf 25 = .ok (.goto (-23), 3) := by decide +kernel
theorem dX1_placeOf_28 : decode cX1_placeOf 28 = .ok (.aload_n 0, 1) := by decide +kernel
theorem dX1_placeOf_29 : decode cX1_placeOf 29 = .ok (.getfield 26, 3) := by decide +kernel
theorem dX1_placeOf_32 : decode cX1_placeOf 32 = .ok (.ireturn, 1) := by decide +kernel
theorem dX1_countRejected_0 : decode cX1_countRejected 0 = .ok (.iconst 0, 1) := by decide +kernel
theorem dX1_countRejected_1 : decode cX1_countRejected 1 = .ok (.istore_n 3, 1) := by decide +kernel
theorem dX1_countRejected_2 : decode cX1_countRejected 2 = .ok (.iload_n 3, 1) := by decide +kernel
theorem dX1_countRejected_3 : decode cX1_countRejected 3 = .ok (.aload_n 0, 1) := by decide +kernel
theorem dX1_countRejected_4 : decode cX1_countRejected 4 = .ok (.getfield 26, 3) := by decide +kernel
theorem dX1_countRejected_7 : decode cX1_countRejected 7 = .ok (.if_icmp .ge 48, 3) := by decide +kernel
theorem dX1_countRejected_10 : decode cX1_countRejected 10 = .ok (.aload_n 0, 1) := by decide +kernel
theorem dX1_countRejected_11 : decode cX1_countRejected 11 = .ok (.getfield 26, 3) := by decide +kernel
theorem dX1_countRejected_14 : decode cX1_countRejected 14 = .ok (.iload_n 3, 1) := by decide +kernel
theorem dX1_countRejected_15 : decode cX1_countRejected 15 = .ok (.isub, 1) := by decide +kernel
theorem dX1_countRejected_16 : decode cX1_countRejected 16 = .ok (.i2l, 1) := by decide +kernel
theorem dX1_countRejected_17 : decode cX1_countRejected 17 = .ok (.lstore 4, 2) := by decide +kernel
theorem dX1_countRejected_19 : decode cX1_countRejected 19 = .ok (.aload_n 0, 1) := by decide +kernel
theorem dX1_countRejected_20 : decode cX1_countRejected 20 = .ok (.getfield 21, 3) := by decide +kernel
theorem dX1_countRejected_23 : decode cX1_countRejected 23 = .ok (.aload_n 0, 1) := by decide +kernel
theorem dX1_countRejected_24 : decode cX1_countRejected 24 = .ok (.getfield 11, 3) := by decide +kernel
theorem dX1_countRejected_27 : decode cX1_countRejected 27 = .ok (.aload_n 0, 1) := by decide +kernel
theorem dX1_countRejected_28 : decode cX1_countRejected 28 = .ok (.getfield 17, 3) := by decide +kernel
theorem dX1_countRejected_31 : decode cX1_countRejected 31 = .ok (.iload_n 3, 1) := by decide +kernel
theorem dX1_countRejected_32 : decode cX1_countRejected 32 = .ok (.iaload, 1) := by decide +kernel
theorem dX1_countRejected_33 : decode cX1_countRejected 33 = .ok (.aaload, 1) := by decide +kernel
theorem dX1_countRejected_34 : decode cX1_countRejected 34 = .ok (.iload_n 1, 1) := by decide +kernel
theorem dX1_countRejected_35 : decode cX1_countRejected 35 = .ok (.i2l, 1) := by decide +kernel
theorem dX1_countRejected_36 : decode cX1_countRejected 36 = .ok (.iload_n 2, 1) := by decide +kernel
theorem dX1_countRejected_37 : decode cX1_countRejected 37 = .ok (.i2l, 1) := by decide +kernel
theorem dX1_countRejected_38 : decode cX1_countRejected 38 = .ok (.lload 4, 2) := by decide +kernel
theorem dX1_countRejected_40 : decode cX1_countRejected 40 = .ok (.lmul, 1) := by decide +kernel
theorem dX1_countRejected_41 : decode cX1_countRejected 41 = .ok (.invokevirtual 44, 3) := by decide +kernel
theorem dX1_countRejected_44 : decode cX1_countRejected 44 = .ok (.ifCond .le 5, 3) := by decide +kernel
theorem dX1_countRejected_47 : decode cX1_countRejected 47 = .ok (.iload_n 3, 1) := by decide +kernel
theorem dX1_countRejected_48 : decode cX1_countRejected 48 = .ok (.ireturn, 1) := by decide +kernel
theorem dX1_countRejected_49 : decode cX1_countRejected 49 = .ok (.iinc 3 1, 3) := by decide +kernel
theorem dX1_countRejected_52 : decode cX1_countRejected 52 = .ok (.goto (-50), 3) := by decide +kernel
theorem dX1_countRejected_55 : decode cX1_countRejected 55 = .ok (.aload_n 0, 1) := by decide +kernel
theorem dX1_countRejected_56 : decode cX1_countRejected 56 = .ok (.getfield 26, 3) := by decide +kernel
theorem dX1_countRejected_59 : decode cX1_countRejected 59 = .ok (.ireturn, 1) := by decide +kernel
end
section
theorem dX10_init_0 : decode cX10_init 0 = .ok (.aload_n 0, 1) := by decide +kernel
theorem dX10_init_1 : decode cX10_init 1 = .ok (.invokespecial 3, 3) := by decide +kernel
theorem dX10_init_4 : decode cX10_init 4 = .ok (.aload_n 0, 1) := by decide +kernel
theorem dX10_init_5 : decode cX10_init 5 = .ok (.bipush 12, 2) := by decide +kernel
theorem dX10_init_7 : decode cX10_init 7 = .ok (.newarray .long, 2) := by decide +kernel
theorem dX10_init_9 : decode cX10_init 9 = .ok (.putfield 11, 3) := by decide +kernel
theorem dX10_init_12 : decode cX10_init 12 = .ok (.return_, 1) := by decide +kernel
theorem dX10_set_0 : decode cX10_set 0 = .ok (.aload_n 0, 1) := by decide +kernel
theorem dX10_set_1 : decode cX10_set 1 = .ok (.invokevirtual 15, 3) := by decide +kernel
theorem dX10_set_4 : decode cX10_set 4 = .ok (.aload_n 0, 1) := by decide +kernel
theorem dX10_set_5 : decode cX10_set 5 = .ok (.getfield 11, 3) := by decide +kernel
theorem dX10_set_8 : decode cX10_set 8 = .ok (.iconst 0, 1) := by decide +kernel
theorem dX10_set_9 : decode cX10_set 9 = .ok (.lload_n 1, 1) := by decide +kernel
theorem dX10_set_10 : decode cX10_set 10 = .ok (.ldc2_w 18, 3) := by decide +kernel
theorem dX10_set_13 : decode cX10_set 13 = .ok (.land, 1) := by decide +kernel
theorem dX10_set_14 : decode cX10_set 14 = .ok (.lastore, 1) := by decide +kernel
theorem dX10_set_15 : decode cX10_set 15 = .ok (.aload_n 0, 1) := by decide +kernel
theorem dX10_set_16 : decode cX10_set 16 = .ok (.getfield 11, 3) := by decide +kernel
theorem dX10_set_19 : decode cX10_set 19 = .ok (.iconst 1, 1) := by decide +kernel
theorem dX10_set_20 : decode cX10_set 20 = .ok (.lload_n 1, 1) := by decide +kernel
theorem dX10_set_21 : decode cX10_set 21 = .ok (.bipush 32, 2) := by decide +kernel
theorem dX10_set_23 : decode cX10_set 23 = .ok (.lushr, 1) := by decide +kernel
theorem dX10_set_24 : decode cX10_set 24 = .ok (.lastore, 1) := by decide +kernel
theorem dX10_set_25 : decode cX10_set 25 = .ok (.aload_n 0, 1) := by decide +kernel
theorem dX10_set_26 : decode cX10_set 26 = .ok (.iconst 2, 1) := by decide +kernel
theorem dX10_set_27 : decode cX10_set 27 = .ok (.invokevirtual 20, 3) := by decide +kernel
theorem dX10_set_30 : decode cX10_set 30 = .ok (.return_, 1) := by decide +kernel
theorem dX10_copy_0 : decode cX10_copy 0 = .ok (.aload_n 0, 1) := by decide +kernel
theorem dX10_copy_1 : decode cX10_copy 1 = .ok (.invokevirtual 15, 3) := by decide +kernel
theorem dX10_copy_4 : decode cX10_copy 4 = .ok (.aload_n 0, 1) := by decide +kernel
theorem dX10_copy_5 : decode cX10_copy 5 = .ok (.aload_n 1, 1) := by decide +kernel
theorem dX10_copy_6 : decode cX10_copy 6 = .ok (.getfield 24, 3) := by decide +kernel
theorem dX10_copy_9 : decode cX10_copy 9 = .ok (.putfield 24, 3) := by decide +kernel
theorem dX10_copy_12 : decode cX10_copy 12 = .ok (.iconst 0, 1) := by decide +kernel
theorem dX10_copy_13 : decode cX10_copy 13 = .ok (.istore_n 2, 1) := by decide +kernel
theorem dX10_copy_14 : decode cX10_copy 14 = .ok (.iload_n 2, 1) := by decide +kernel
theorem dX10_copy_15 : decode cX10_copy 15 = .ok (.aload_n 0, 1) := by decide +kernel
theorem dX10_copy_16 : decode cX10_copy 16 = .ok (.getfield 24, 3) := by decide +kernel
theorem dX10_copy_19 : decode cX10_copy 19 = .ok (.if_icmp .ge 21, 3) := by decide +kernel
theorem dX10_copy_22 : decode cX10_copy 22 = .ok (.aload_n 0, 1) := by decide +kernel
theorem dX10_copy_23 : decode cX10_copy 23 = .ok (.getfield 11, 3) := by decide +kernel
theorem dX10_copy_26 : decode cX10_copy 26 = .ok (.iload_n 2, 1) := by decide +kernel
theorem dX10_copy_27 : decode cX10_copy 27 = .ok (.aload_n 1, 1) := by decide +kernel
theorem dX10_copy_28 : decode cX10_copy 28 = .ok (.getfield 11, 3) := by decide +kernel
theorem dX10_copy_31 : decode cX10_copy 31 = .ok (.iload_n 2, 1) := by decide +kernel
theorem dX10_copy_32 : decode cX10_copy 32 = .ok (.laload, 1) := by decide +kernel
theorem dX10_copy_33 : decode cX10_copy 33 = .ok (.lastore, 1) := by decide +kernel
theorem dX10_copy_34 : decode cX10_copy 34 = .ok (.iinc 2 1, 3) := by decide +kernel
theorem dX10_copy_37 : decode cX10_copy 37 = .ok (.goto (-23), 3) := by decide +kernel
theorem dX10_copy_40 : decode cX10_copy 40 = .ok (.return_, 1) := by decide +kernel
theorem dX10_compare_0 : decode cX10_compare 0 = .ok (.aload_n 0, 1) := by decide +kernel
theorem dX10_compare_1 : decode cX10_compare 1 = .ok (.getfield 24, 3) := by decide +kernel
theorem dX10_compare_4 : decode cX10_compare 4 = .ok (.aload_n 1, 1) := by decide +kernel
theorem dX10_compare_5 : decode cX10_compare 5 = .ok (.getfield 24, 3) := by decide +kernel
theorem dX10_compare_8 : decode cX10_compare 8 = .ok (.if_icmp .eq 20, 3) := by decide +kernel
theorem dX10_compare_11 : decode cX10_compare 11 = .ok (.aload_n 0, 1) := by decide +kernel
theorem dX10_compare_12 : decode cX10_compare 12 = .ok (.getfield 24, 3) := by decide +kernel
theorem dX10_compare_15 : decode cX10_compare 15 = .ok (.aload_n 1, 1) := by decide +kernel
theorem dX10_compare_16 : decode cX10_compare 16 = .ok (.getfield 24, 3) := by decide +kernel
theorem dX10_compare_19 : decode cX10_compare 19 = .ok (.if_icmp .ge 7, 3) := by decide +kernel
theorem dX10_compare_22 : decode cX10_compare 22 = .ok (.iconst (-1), 1) := by decide +kernel
theorem dX10_compare_23 : decode cX10_compare 23 = .ok (.goto 4, 3) := by decide +kernel
theorem dX10_compare_26 : decode cX10_compare 26 = .ok (.iconst 1, 1) := by decide +kernel
theorem dX10_compare_27 : decode cX10_compare 27 = .ok (.ireturn, 1) := by decide +kernel
theorem dX10_compare_28 : decode cX10_compare 28 = .ok (.aload_n 0, 1) := by decide +kernel
theorem dX10_compare_29 : decode cX10_compare 29 = .ok (.getfield 24, 3) := by decide +kernel
theorem dX10_compare_32 : decode cX10_compare 32 = .ok (.iconst 1, 1) := by decide +kernel
theorem dX10_compare_33 : decode cX10_compare 33 = .ok (.isub, 1) := by decide +kernel
theorem dX10_compare_34 : decode cX10_compare 34 = .ok (.istore_n 2, 1) := by decide +kernel
theorem dX10_compare_35 : decode cX10_compare 35 = .ok (.iload_n 2, 1) := by decide +kernel
theorem dX10_compare_36 : decode cX10_compare 36 = .ok (.ifCond .lt 47, 3) := by decide +kernel
theorem dX10_compare_39 : decode cX10_compare 39 = .ok (.aload_n 0, 1) := by decide +kernel
theorem dX10_compare_40 : decode cX10_compare 40 = .ok (.getfield 11, 3) := by decide +kernel
theorem dX10_compare_43 : decode cX10_compare 43 = .ok (.iload_n 2, 1) := by decide +kernel
theorem dX10_compare_44 : decode cX10_compare 44 = .ok (.laload, 1) := by decide +kernel
theorem dX10_compare_45 : decode cX10_compare 45 = .ok (.aload_n 1, 1) := by decide +kernel
theorem dX10_compare_46 : decode cX10_compare 46 = .ok (.getfield 11, 3) := by decide +kernel
theorem dX10_compare_49 : decode cX10_compare 49 = .ok (.iload_n 2, 1) := by decide +kernel
theorem dX10_compare_50 : decode cX10_compare 50 = .ok (.laload, 1) := by decide +kernel
theorem dX10_compare_51 : decode cX10_compare 51 = .ok (.lcmp, 1) := by decide +kernel
theorem dX10_compare_52 : decode cX10_compare 52 = .ok (.ifCond .eq 25, 3) := by decide +kernel
theorem dX10_compare_55 : decode cX10_compare 55 = .ok (.aload_n 0, 1) := by decide +kernel
theorem dX10_compare_56 : decode cX10_compare 56 = .ok (.getfield 11, 3) := by decide +kernel
theorem dX10_compare_59 : decode cX10_compare 59 = .ok (.iload_n 2, 1) := by decide +kernel
theorem dX10_compare_60 : decode cX10_compare 60 = .ok (.laload, 1) := by decide +kernel
theorem dX10_compare_61 : decode cX10_compare 61 = .ok (.aload_n 1, 1) := by decide +kernel
theorem dX10_compare_62 : decode cX10_compare 62 = .ok (.getfield 11, 3) := by decide +kernel
theorem dX10_compare_65 : decode cX10_compare 65 = .ok (.iload_n 2, 1) := by decide +kernel
theorem dX10_compare_66 : decode cX10_compare 66 = .ok (.laload, 1) := by decide +kernel
theorem dX10_compare_67 : decode cX10_compare 67 = .ok (.lcmp, 1) := by decide +kernel
theorem dX10_compare_68 : decode cX10_compare 68 = .ok (.ifCond .ge 7, 3) := by decide +kernel
theorem dX10_compare_71 : decode cX10_compare 71 = .ok (.iconst (-1), 1) := by decide +kernel
theorem dX10_compare_72 : decode cX10_compare 72 = .ok (.goto 4, 3) := by decide +kernel
theorem dX10_compare_75 : decode cX10_compare 75 = .ok (.iconst 1, 1) := by decide +kernel
theorem dX10_compare_76 : decode cX10_compare 76 = .ok (.ireturn, 1) := by decide +kernel
theorem dX10_compare_77 : decode cX10_compare 77 = .ok (.iinc 2 (-1), 3) := by decide +kernel
theorem dX10_compare_80 : decode cX10_compare 80 = .ok (.goto (-45), 3) := by decide +kernel
theorem dX10_compare_83 : decode cX10_compare 83 = .ok (.iconst 0, 1) := by decide +kernel
theorem dX10_compare_84 : decode cX10_compare 84 = .ok (.ireturn, 1) := by decide +kernel
theorem dX10_add_0 : decode cX10_add 0 = .ok (.aload_n 0, 1) := by decide +kernel
theorem dX10_add_1 : decode cX10_add 1 = .ok (.getfield 24, 3) := by decide +kernel
theorem dX10_add_4 : decode cX10_add 4 = .ok (.aload_n 1, 1) := by decide +kernel
theorem dX10_add_5 : decode cX10_add 5 = .ok (.getfield 24, 3) := by decide +kernel
theorem dX10_add_8 : decode cX10_add 8 = .ok (.invokestatic 28, 3) := by decide +kernel
theorem dX10_add_11 : decode cX10_add 11 = .ok (.istore_n 2, 1) := by decide +kernel
theorem dX10_add_12 : decode cX10_add 12 = .ok (.lconst 0, 1) := by decide +kernel
theorem dX10_add_13 : decode cX10_add 13 = .ok (.lstore_n 3, 1) := by decide +kernel
theorem dX10_add_14 : decode cX10_add 14 = .ok (.iconst 0, 1) := by decide +kernel
theorem dX10_add_15 : decode cX10_add 15 = .ok (.istore 5, 2) := by decide +kernel
theorem dX10_add_17 : decode cX10_add 17 = .ok (.iload 5, 2) := by decide +kernel
theorem dX10_add_19 : decode cX10_add 19 = .ok (.iload_n 2, 1) := by decide +kernel
theorem dX10_add_20 : decode cX10_add 20 = .ok (.if_icmp .ge 47, 3) := by decide +kernel
theorem dX10_add_23 : decode cX10_add 23 = .ok (.aload_n 0, 1) := by decide +kernel
theorem dX10_add_24 : decode cX10_add 24 = .ok (.getfield 11, 3) := by decide +kernel
theorem dX10_add_27 : decode cX10_add 27 = .ok (.iload 5, 2) := by decide +kernel
theorem dX10_add_29 : decode cX10_add 29 = .ok (.laload, 1) := by decide +kernel
theorem dX10_add_30 : decode cX10_add 30 = .ok (.aload_n 1, 1) := by decide +kernel
theorem dX10_add_31 : decode cX10_add 31 = .ok (.getfield 11, 3) := by decide +kernel
theorem dX10_add_34 : decode cX10_add 34 = .ok (.iload 5, 2) := by decide +kernel
theorem dX10_add_36 : decode cX10_add 36 = .ok (.laload, 1) := by decide +kernel
theorem dX10_add_37 : decode cX10_add 37 = .ok (.ladd, 1) := by decide +kernel
theorem dX10_add_38 : decode cX10_add 38 = .ok (.lload_n 3, 1) := by decide +kernel
theorem dX10_add_39 : decode cX10_add 39 = .ok (.ladd, 1) := by decide +kernel
theorem dX10_add_40 : decode cX10_add 40 = .ok (.lstore 6, 2) := by decide +kernel
theorem dX10_add_42 : decode cX10_add 42 = .ok (.aload_n 0, 1) := by decide +kernel
theorem dX10_add_43 : decode cX10_add 43 = .ok (.getfield 11, 3) := by decide +kernel
theorem dX10_add_46 : decode cX10_add 46 = .ok (.iload 5, 2) := by decide +kernel
theorem dX10_add_48 : decode cX10_add 48 = .ok (.lload 6, 2) := by decide +kernel
theorem dX10_add_50 : decode cX10_add 50 = .ok (.ldc2_w 18, 3) := by decide +kernel
theorem dX10_add_53 : decode cX10_add 53 = .ok (.land, 1) := by decide +kernel
theorem dX10_add_54 : decode cX10_add 54 = .ok (.lastore, 1) := by decide +kernel
theorem dX10_add_55 : decode cX10_add 55 = .ok (.lload 6, 2) := by decide +kernel
theorem dX10_add_57 : decode cX10_add 57 = .ok (.bipush 32, 2) := by decide +kernel
theorem dX10_add_59 : decode cX10_add 59 = .ok (.lushr, 1) := by decide +kernel
theorem dX10_add_60 : decode cX10_add 60 = .ok (.lstore_n 3, 1) := by decide +kernel
theorem dX10_add_61 : decode cX10_add 61 = .ok (.iinc 5 1, 3) := by decide +kernel
theorem dX10_add_64 : decode cX10_add 64 = .ok (.goto (-47), 3) := by decide +kernel
theorem dX10_add_67 : decode cX10_add 67 = .ok (.lload_n 3, 1) := by decide +kernel
theorem dX10_add_68 : decode cX10_add 68 = .ok (.lconst 0, 1) := by decide +kernel
theorem dX10_add_69 : decode cX10_add 69 = .ok (.lcmp, 1) := by decide +kernel
theorem dX10_add_70 : decode cX10_add 70 = .ok (.ifCond .eq 19, 3) := by decide +kernel
theorem dX10_add_73 : decode cX10_add 73 = .ok (.iload_n 2, 1) := by decide +kernel
theorem dX10_add_74 : decode cX10_add 74 = .ok (.bipush 12, 2) := by decide +kernel
theorem dX10_add_76 : decode cX10_add 76 = .ok (.if_icmp .ge 13, 3) := by decide +kernel
theorem dX10_add_79 : decode cX10_add 79 = .ok (.aload_n 0, 1) := by decide +kernel
theorem dX10_add_80 : decode cX10_add 80 = .ok (.getfield 11, 3) := by decide +kernel
theorem dX10_add_83 : decode cX10_add 83 = .ok (.iload_n 2, 1) := by decide +kernel
theorem dX10_add_84 : decode cX10_add 84 = .ok (.lload_n 3, 1) := by decide +kernel
theorem dX10_add_85 : decode cX10_add 85 = .ok (.lastore, 1) := by decide +kernel
theorem dX10_add_86 : decode cX10_add 86 = .ok (.iinc 2 1, 3) := by decide +kernel
theorem dX10_add_89 : decode cX10_add 89 = .ok (.aload_n 0, 1) := by decide +kernel
theorem dX10_add_90 : decode cX10_add 90 = .ok (.iload_n 2, 1) := by decide +kernel
theorem dX10_add_91 : decode cX10_add 91 = .ok (.putfield 24, 3) := by decide +kernel
theorem dX10_add_94 : decode cX10_add 94 = .ok (.return_, 1) := by decide +kernel
theorem dX10_subtract_0 : decode cX10_subtract 0 = .ok (.lconst 0, 1) := by decide +kernel
theorem dX10_subtract_1 : decode cX10_subtract 1 = .ok (.lstore_n 2, 1) := by decide +kernel
theorem dX10_subtract_2 : decode cX10_subtract 2 = .ok (.iconst 0, 1) := by decide +kernel
theorem dX10_subtract_3 : decode cX10_subtract 3 = .ok (.istore 4, 2) := by decide +kernel
theorem dX10_subtract_5 : decode cX10_subtract 5 = .ok (.iload 4, 2) := by decide +kernel
theorem dX10_subtract_7 : decode cX10_subtract 7 = .ok (.aload_n 0, 1) := by decide +kernel
theorem dX10_subtract_8 : decode cX10_subtract 8 = .ok (.getfield 24, 3) := by decide +kernel
theorem dX10_subtract_11 : decode cX10_subtract 11 = .ok (.if_icmp .ge 54, 3) := by decide +kernel
theorem dX10_subtract_14 : decode cX10_subtract 14 = .ok (.aload_n 0, 1) := by decide +kernel
theorem dX10_subtract_15 : decode cX10_subtract 15 = .ok (.getfield 11, 3) := by decide +kernel
theorem dX10_subtract_18 : decode cX10_subtract 18 = .ok (.iload 4, 2) := by decide +kernel
theorem dX10_subtract_20 : decode cX10_subtract 20 = .ok (.laload, 1) := by decide +kernel
theorem dX10_subtract_21 : decode cX10_subtract 21 = .ok (.aload_n 1, 1) := by decide +kernel
theorem dX10_subtract_22 : decode cX10_subtract 22 = .ok (.getfield 11, 3) := by decide +kernel
theorem dX10_subtract_25 : decode cX10_subtract 25 = .ok (.iload 4, 2) := by decide +kernel
theorem dX10_subtract_27 : decode cX10_subtract 27 = .ok (.laload, 1) := by decide +kernel
theorem dX10_subtract_28 : decode cX10_subtract 28 = .ok (.lsub, 1) := by decide +kernel
theorem dX10_subtract_29 : decode cX10_subtract 29 = .ok (.lload_n 2, 1) := by decide +kernel
theorem dX10_subtract_30 : decode cX10_subtract 30 = .ok (.lsub, 1) := by decide +kernel
theorem dX10_subtract_31 : decode cX10_subtract 31 = .ok (.lstore 5, 2) := by decide +kernel
theorem dX10_subtract_33 : decode cX10_subtract 33 = .ok (.aload_n 0, 1) := by decide +kernel
theorem dX10_subtract_34 : decode cX10_subtract 34 = .ok (.getfield 11, 3) := by decide +kernel
theorem dX10_subtract_37 : decode cX10_subtract 37 = .ok (.iload 4, 2) := by decide +kernel
theorem dX10_subtract_39 : decode cX10_subtract 39 = .ok (.lload 5, 2) := by decide +kernel
theorem dX10_subtract_41 : decode cX10_subtract 41 = .ok (.ldc2_w 18, 3) := by decide +kernel
theorem dX10_subtract_44 : decode cX10_subtract 44 = .ok (.land, 1) := by decide +kernel
theorem dX10_subtract_45 : decode cX10_subtract 45 = .ok (.lastore, 1) := by decide +kernel
theorem dX10_subtract_46 : decode cX10_subtract 46 = .ok (.lload 5, 2) := by decide +kernel
theorem dX10_subtract_48 : decode cX10_subtract 48 = .ok (.lconst 0, 1) := by decide +kernel
theorem dX10_subtract_49 : decode cX10_subtract 49 = .ok (.lcmp, 1) := by decide +kernel
theorem dX10_subtract_50 : decode cX10_subtract 50 = .ok (.ifCond .ge 7, 3) := by decide +kernel
theorem dX10_subtract_53 : decode cX10_subtract 53 = .ok (.lconst 1, 1) := by decide +kernel
theorem dX10_subtract_54 : decode cX10_subtract 54 = .ok (.goto 4, 3) := by decide +kernel
theorem dX10_subtract_57 : decode cX10_subtract 57 = .ok (.lconst 0, 1) := by decide +kernel
theorem dX10_subtract_58 : decode cX10_subtract 58 = .ok (.lstore_n 2, 1) := by decide +kernel
theorem dX10_subtract_59 : decode cX10_subtract 59 = .ok (.iinc 4 1, 3) := by decide +kernel
theorem dX10_subtract_62 : decode cX10_subtract 62 = .ok (.goto (-57), 3) := by decide +kernel
theorem dX10_subtract_65 : decode cX10_subtract 65 = .ok (.aload_n 0, 1) := by decide +kernel
theorem dX10_subtract_66 : decode cX10_subtract 66 = .ok (.aload_n 0, 1) := by decide +kernel
theorem dX10_subtract_67 : decode cX10_subtract 67 = .ok (.getfield 24, 3) := by decide +kernel
theorem dX10_subtract_70 : decode cX10_subtract 70 = .ok (.invokevirtual 20, 3) := by decide +kernel
theorem dX10_subtract_73 : decode cX10_subtract 73 = .ok (.return_, 1) := by decide +kernel
theorem dX10_setProduct_0 : decode cX10_setProduct 0 = .ok (.aload_n 0, 1) := by decide +kernel
theorem dX10_setProduct_1 : decode cX10_setProduct 1 = .ok (.invokevirtual 15, 3) := by decide +kernel
theorem dX10_setProduct_4 : decode cX10_setProduct 4 = .ok (.aload_n 0, 1) := by decide +kernel
theorem dX10_setProduct_5 : decode cX10_setProduct 5 = .ok (.aload_n 1, 1) := by decide +kernel
theorem dX10_setProduct_6 : decode cX10_setProduct 6 = .ok (.lload_n 2, 1) := by decide +kernel
theorem dX10_setProduct_7 : decode cX10_setProduct 7 = .ok (.ldc2_w 18, 3) := by decide +kernel
theorem dX10_setProduct_10 : decode cX10_setProduct 10 = .ok (.land, 1) := by decide +kernel
theorem dX10_setProduct_11 : decode cX10_setProduct 11 = .ok (.iconst 0, 1) := by decide +kernel
theorem dX10_setProduct_12 : decode cX10_setProduct 12 = .ok (.invokevirtual 34, 3) := by decide +kernel
theorem dX10_setProduct_15 : decode cX10_setProduct 15 = .ok (.lload_n 2, 1) := by decide +kernel
theorem dX10_setProduct_16 : decode cX10_setProduct 16 = .ok (.bipush 32, 2) := by decide +kernel
theorem dX10_setProduct_18 : decode cX10_setProduct 18 = .ok (.lushr, 1) := by decide +kernel
theorem dX10_setProduct_19 : decode cX10_setProduct 19 = .ok (.lstore 4, 2) := by decide +kernel
theorem dX10_setProduct_21 : decode cX10_setProduct 21 = .ok (.lload 4, 2) := by decide +kernel
theorem dX10_setProduct_23 : decode cX10_setProduct 23 = .ok (.lconst 0, 1) := by decide +kernel
theorem dX10_setProduct_24 : decode cX10_setProduct 24 = .ok (.lcmp, 1) := by decide +kernel
theorem dX10_setProduct_25 : decode cX10_setProduct 25 = .ok (.ifCond .eq 11, 3) := by decide +kernel
theorem dX10_setProduct_28 : decode cX10_setProduct 28 = .ok (.aload_n 0, 1) := by decide +kernel
theorem dX10_setProduct_29 : decode cX10_setProduct 29 = .ok (.aload_n 1, 1) := by decide +kernel
theorem dX10_setProduct_30 : decode cX10_setProduct 30 = .ok (.lload 4, 2) := by decide +kernel
theorem dX10_setProduct_32 : decode cX10_setProduct 32 = .ok (.iconst 1, 1) := by decide +kernel
theorem dX10_setProduct_33 : decode cX10_setProduct 33 = .ok (.invokevirtual 34, 3) := by decide +kernel
theorem dX10_setProduct_36 : decode cX10_setProduct 36 = .ok (.aload_n 0, 1) := by decide +kernel
theorem dX10_setProduct_37 : decode cX10_setProduct 37 = .ok (.aload_n 1, 1) := by decide +kernel
theorem dX10_setProduct_38 : decode cX10_setProduct 38 = .ok (.getfield 24, 3) := by decide +kernel
theorem dX10_setProduct_41 : decode cX10_setProduct 41 = .ok (.iconst 2, 1) := by decide +kernel
theorem dX10_setProduct_42 : decode cX10_setProduct 42 = .ok (.iadd, 1) := by decide +kernel
theorem dX10_setProduct_43 : decode cX10_setProduct 43 = .ok (.invokevirtual 20, 3) := by decide +kernel
theorem dX10_setProduct_46 : decode cX10_setProduct 46 = .ok (.return_, 1) := by decide +kernel
theorem dX10_setProductOf_0 : decode cX10_setProductOf 0 = .ok (.aload_n 0, 1) := by decide +kernel
theorem dX10_setProductOf_1 : decode cX10_setProductOf 1 = .ok (.invokevirtual 15, 3) := by decide +kernel
theorem dX10_setProductOf_4 : decode cX10_setProductOf 4 = .ok (.iconst 0, 1) := by decide +kernel
theorem dX10_setProductOf_5 : decode cX10_setProductOf 5 = .ok (.istore_n 3, 1) := by decide +kernel
theorem dX10_setProductOf_6 : decode cX10_setProductOf 6 = .ok (.iload_n 3, 1) := by decide +kernel
theorem dX10_setProductOf_7 : decode cX10_setProductOf 7 = .ok (.aload_n 2, 1) := by decide +kernel
theorem dX10_setProductOf_8 : decode cX10_setProductOf 8 = .ok (.getfield 24, 3) := by decide +kernel
theorem dX10_setProductOf_11 : decode cX10_setProductOf 11 = .ok (.if_icmp .ge 21, 3) := by decide +kernel
theorem dX10_setProductOf_14 : decode cX10_setProductOf 14 = .ok (.aload_n 0, 1) := by decide +kernel
theorem dX10_setProductOf_15 : decode cX10_setProductOf 15 = .ok (.aload_n 1, 1) := by decide +kernel
theorem dX10_setProductOf_16 : decode cX10_setProductOf 16 = .ok (.aload_n 2, 1) := by decide +kernel
theorem dX10_setProductOf_17 : decode cX10_setProductOf 17 = .ok (.getfield 11, 3) := by decide +kernel
theorem dX10_setProductOf_20 : decode cX10_setProductOf 20 = .ok (.iload_n 3, 1) := by decide +kernel
theorem dX10_setProductOf_21 : decode cX10_setProductOf 21 = .ok (.laload, 1) := by decide +kernel
theorem dX10_setProductOf_22 : decode cX10_setProductOf 22 = .ok (.iload_n 3, 1) := by decide +kernel
theorem dX10_setProductOf_23 : decode cX10_setProductOf 23 = .ok (.invokevirtual 34, 3) := by decide +kernel
theorem dX10_setProductOf_26 : decode cX10_setProductOf 26 = .ok (.iinc 3 1, 3) := by decide +kernel
theorem dX10_setProductOf_29 : decode cX10_setProductOf 29 = .ok (.goto (-23), 3) := by decide +kernel
theorem dX10_setProductOf_32 : decode cX10_setProductOf 32 = .ok (.aload_n 0, 1) := by decide +kernel
theorem dX10_setProductOf_33 : decode cX10_setProductOf 33 = .ok (.aload_n 1, 1) := by decide +kernel
theorem dX10_setProductOf_34 : decode cX10_setProductOf 34 = .ok (.getfield 24, 3) := by decide +kernel
theorem dX10_setProductOf_37 : decode cX10_setProductOf 37 = .ok (.aload_n 2, 1) := by decide +kernel
theorem dX10_setProductOf_38 : decode cX10_setProductOf 38 = .ok (.getfield 24, 3) := by decide +kernel
theorem dX10_setProductOf_41 : decode cX10_setProductOf 41 = .ok (.iadd, 1) := by decide +kernel
theorem dX10_setProductOf_42 : decode cX10_setProductOf 42 = .ok (.invokevirtual 20, 3) := by decide +kernel
theorem dX10_setProductOf_45 : decode cX10_setProductOf 45 = .ok (.return_, 1) := by decide +kernel
theorem dX10_addTimes_0 : decode cX10_addTimes 0 = .ok (.aload_n 1, 1) := by decide +kernel
theorem dX10_addTimes_1 : decode cX10_addTimes 1 = .ok (.getfield 24, 3) := by decide +kernel
theorem dX10_addTimes_4 : decode cX10_addTimes 4 = .ok (.bipush 12, 2) := by decide +kernel
theorem dX10_addTimes_6 : decode cX10_addTimes 6 = .ok (.iload 4, 2) := by decide +kernel
theorem dX10_addTimes_8 : decode cX10_addTimes 8 = .ok (.isub, 1) := by decide +kernel
theorem dX10_addTimes_9 : decode cX10_addTimes 9 = .ok (.invokestatic 38, 3) := by decide +kernel
theorem dX10_addTimes_12 : decode cX10_addTimes 12 = .ok (.istore 5, 2) := by decide +kernel
theorem dX10_addTimes_14 : decode cX10_addTimes 14 = .ok (.lconst 0, 1) := by decide +kernel
theorem dX10_addTimes_15 : decode cX10_addTimes 15 = .ok (.lstore 6, 2) := by decide +kernel
theorem dX10_addTimes_17 : decode cX10_addTimes 17 = .ok (.iconst 0, 1) := by decide +kernel
theorem dX10_addTimes_18 : decode cX10_addTimes 18 = .ok (.istore 8, 2) := by decide +kernel
theorem dX10_addTimes_20 : decode cX10_addTimes 20 = .ok (.iload 8, 2) := by decide +kernel
theorem dX10_addTimes_22 : decode cX10_addTimes 22 = .ok (.iload 5, 2) := by decide +kernel
theorem dX10_addTimes_24 : decode cX10_addTimes 24 = .ok (.if_icmp .ge 57, 3) := by decide +kernel
theorem dX10_addTimes_27 : decode cX10_addTimes 27 = .ok (.aload_n 1, 1) := by decide +kernel
theorem dX10_addTimes_28 : decode cX10_addTimes 28 = .ok (.getfield 11, 3) := by decide +kernel
theorem dX10_addTimes_31 : decode cX10_addTimes 31 = .ok (.iload 8, 2) := by decide +kernel
theorem dX10_addTimes_33 : decode cX10_addTimes 33 = .ok (.laload, 1) := by decide +kernel
theorem dX10_addTimes_34 : decode cX10_addTimes 34 = .ok (.lload_n 2, 1) := by decide +kernel
theorem dX10_addTimes_35 : decode cX10_addTimes 35 = .ok (.lmul, 1) := by decide +kernel
theorem dX10_addTimes_36 : decode cX10_addTimes 36 = .ok (.aload_n 0, 1) := by decide +kernel
theorem dX10_addTimes_37 : decode cX10_addTimes 37 = .ok (.getfield 11, 3) := by decide +kernel
theorem dX10_addTimes_40 : decode cX10_addTimes 40 = .ok (.iload 8, 2) := by decide +kernel
theorem dX10_addTimes_42 : decode cX10_addTimes 42 = .ok (.iload 4, 2) := by decide +kernel
theorem dX10_addTimes_44 : decode cX10_addTimes 44 = .ok (.iadd, 1) := by decide +kernel
theorem dX10_addTimes_45 : decode cX10_addTimes 45 = .ok (.laload, 1) := by decide +kernel
theorem dX10_addTimes_46 : decode cX10_addTimes 46 = .ok (.ladd, 1) := by decide +kernel
theorem dX10_addTimes_47 : decode cX10_addTimes 47 = .ok (.lload 6, 2) := by decide +kernel
theorem dX10_addTimes_49 : decode cX10_addTimes 49 = .ok (.ladd, 1) := by decide +kernel
theorem dX10_addTimes_50 : decode cX10_addTimes 50 = .ok (.lstore 9, 2) := by decide +kernel
theorem dX10_addTimes_52 : decode cX10_addTimes 52 = .ok (.aload_n 0, 1) := by decide +kernel
theorem dX10_addTimes_53 : decode cX10_addTimes 53 = .ok (.getfield 11, 3) := by decide +kernel
theorem dX10_addTimes_56 : decode cX10_addTimes 56 = .ok (.iload 8, 2) := by decide +kernel
theorem dX10_addTimes_58 : decode cX10_addTimes 58 = .ok (.iload 4, 2) := by decide +kernel
theorem dX10_addTimes_60 : decode cX10_addTimes 60 = .ok (.iadd, 1) := by decide +kernel
theorem dX10_addTimes_61 : decode cX10_addTimes 61 = .ok (.lload 9, 2) := by decide +kernel
theorem dX10_addTimes_63 : decode cX10_addTimes 63 = .ok (.ldc2_w 18, 3) := by decide +kernel
theorem dX10_addTimes_66 : decode cX10_addTimes 66 = .ok (.land, 1) := by decide +kernel
theorem dX10_addTimes_67 : decode cX10_addTimes 67 = .ok (.lastore, 1) := by decide +kernel
theorem dX10_addTimes_68 : decode cX10_addTimes 68 = .ok (.lload 9, 2) := by decide +kernel
theorem dX10_addTimes_70 : decode cX10_addTimes 70 = .ok (.bipush 32, 2) := by decide +kernel
theorem dX10_addTimes_72 : decode cX10_addTimes 72 = .ok (.lushr, 1) := by decide +kernel
theorem dX10_addTimes_73 : decode cX10_addTimes 73 = .ok (.lstore 6, 2) := by decide +kernel
theorem dX10_addTimes_75 : decode cX10_addTimes 75 = .ok (.iinc 8 1, 3) := by decide +kernel
theorem dX10_addTimes_78 : decode cX10_addTimes 78 = .ok (.goto (-58), 3) := by decide +kernel
theorem dX10_addTimes_81 : decode cX10_addTimes 81 = .ok (.iload 5, 2) := by decide +kernel
theorem dX10_addTimes_83 : decode cX10_addTimes 83 = .ok (.iload 4, 2) := by decide +kernel
theorem dX10_addTimes_85 : decode cX10_addTimes 85 = .ok (.iadd, 1) := by decide +kernel
theorem dX10_addTimes_86 : decode cX10_addTimes 86 = .ok (.bipush 12, 2) := by decide +kernel
theorem dX10_addTimes_88 : decode cX10_addTimes 88 = .ok (.if_icmp .ge 15, 3) := by decide +kernel
theorem dX10_addTimes_91 : decode cX10_addTimes 91 = .ok (.aload_n 0, 1) := by decide +kernel
theorem dX10_addTimes_92 : decode cX10_addTimes 92 = .ok (.getfield 11, 3) := by decide +kernel
theorem dX10_addTimes_95 : decode cX10_addTimes 95 = .ok (.iload 5, 2) := by decide +kernel
theorem dX10_addTimes_97 : decode cX10_addTimes 97 = .ok (.iload 4, 2) := by decide +kernel
theorem dX10_addTimes_99 : decode cX10_addTimes 99 = .ok (.iadd, 1) := by decide +kernel
theorem dX10_addTimes_100 : decode cX10_addTimes 100 = .ok (.lload 6, 2) := by decide +kernel
theorem dX10_addTimes_102 : decode cX10_addTimes 102 = .ok (.lastore, 1) := by decide +kernel
theorem dX10_addTimes_103 : decode cX10_addTimes 103 = .ok (.return_, 1) := by decide +kernel
theorem dX10_remainder_0 : decode cX10_remainder 0 = .ok (.iload_n 1, 1) := by decide +kernel
theorem dX10_remainder_1 : decode cX10_remainder 1 = .ok (.ifCond .gt 5, 3) := by decide +kernel
theorem dX10_remainder_4 : decode cX10_remainder 4 = .ok (.iconst 0, 1) := by decide +kernel
theorem dX10_remainder_5 : decode cX10_remainder 5 = .ok (.ireturn, 1) := by decide +kernel
theorem dX10_remainder_6 : decode cX10_remainder 6 = .ok (.lconst 0, 1) := by decide +kernel
theorem dX10_remainder_7 : decode cX10_remainder 7 = .ok (.lstore_n 2, 1) := by decide +kernel
theorem dX10_remainder_8 : decode cX10_remainder 8 = .ok (.aload_n 0, 1) := by decide +kernel
theorem dX10_remainder_9 : decode cX10_remainder 9 = .ok (.getfield 24, 3) := by decide +kernel
theorem dX10_remainder_12 : decode cX10_remainder 12 = .ok (.iconst 1, 1) := by decide +kernel
theorem dX10_remainder_13 : decode cX10_remainder 13 = .ok (.isub, 1) := by decide +kernel
theorem dX10_remainder_14 : decode cX10_remainder 14 = .ok (.istore 4, 2) := by decide +kernel
theorem dX10_remainder_16 : decode cX10_remainder 16 = .ok (.iload 4, 2) := by decide +kernel
theorem dX10_remainder_18 : decode cX10_remainder 18 = .ok (.ifCond .lt 25, 3) := by decide +kernel
theorem dX10_remainder_21 : decode cX10_remainder 21 = .ok (.lload_n 2, 1) := by decide +kernel
theorem dX10_remainder_22 : decode cX10_remainder 22 = .ok (.bipush 32, 2) := by decide +kernel
theorem dX10_remainder_24 : decode cX10_remainder 24 = .ok (.lshl, 1) := by decide +kernel
theorem dX10_remainder_25 : decode cX10_remainder 25 = .ok (.aload_n 0, 1) := by decide +kernel
theorem dX10_remainder_26 : decode cX10_remainder 26 = .ok (.getfield 11, 3) := by decide +kernel
theorem dX10_remainder_29 : decode cX10_remainder 29 = .ok (.iload 4, 2) := by decide +kernel
theorem dX10_remainder_31 : decode cX10_remainder 31 = .ok (.laload, 1) := by decide +kernel
theorem dX10_remainder_32 : decode cX10_remainder 32 = .ok (.lor, 1) := by decide +kernel
theorem dX10_remainder_33 : decode cX10_remainder 33 = .ok (.iload_n 1, 1) := by decide +kernel
theorem dX10_remainder_34 : decode cX10_remainder 34 = .ok (.i2l, 1) := by decide +kernel
theorem dX10_remainder_35 : decode cX10_remainder 35 = .ok (.lrem, 1) := by decide +kernel
theorem dX10_remainder_36 : decode cX10_remainder 36 = .ok (.lstore_n 2, 1) := by decide +kernel
theorem dX10_remainder_37 : decode cX10_remainder 37 = .ok (.iinc 4 (-1), 3) := by decide +kernel
theorem dX10_remainder_40 : decode cX10_remainder 40 = .ok (.goto (-24), 3) := by decide +kernel
theorem dX10_remainder_43 : decode cX10_remainder 43 = .ok (.lload_n 2, 1) := by decide +kernel
theorem dX10_remainder_44 : decode cX10_remainder 44 = .ok (.l2i, 1) := by decide +kernel
theorem dX10_remainder_45 : decode cX10_remainder 45 = .ok (.ireturn, 1) := by decide +kernel
theorem dX10_divide_0 : decode cX10_divide 0 = .ok (.iload_n 1, 1) := by decide +kernel
theorem dX10_divide_1 : decode cX10_divide 1 = .ok (.ifCond .gt 4, 3) := by decide +kernel
theorem dX10_divide_4 : decode cX10_divide 4 = .ok (.return_, 1) := by decide +kernel
theorem dX10_divide_5 : decode cX10_divide 5 = .ok (.lconst 0, 1) := by decide +kernel
theorem dX10_divide_6 : decode cX10_divide 6 = .ok (.lstore_n 2, 1) := by decide +kernel
theorem dX10_divide_7 : decode cX10_divide 7 = .ok (.aload_n 0, 1) := by decide +kernel
theorem dX10_divide_8 : decode cX10_divide 8 = .ok (.getfield 24, 3) := by decide +kernel
theorem dX10_divide_11 : decode cX10_divide 11 = .ok (.iconst 1, 1) := by decide +kernel
theorem dX10_divide_12 : decode cX10_divide 12 = .ok (.isub, 1) := by decide +kernel
theorem dX10_divide_13 : decode cX10_divide 13 = .ok (.istore 4, 2) := by decide +kernel
theorem dX10_divide_15 : decode cX10_divide 15 = .ok (.iload 4, 2) := by decide +kernel
theorem dX10_divide_17 : decode cX10_divide 17 = .ok (.ifCond .lt 41, 3) := by decide +kernel
theorem dX10_divide_20 : decode cX10_divide 20 = .ok (.lload_n 2, 1) := by decide +kernel
theorem dX10_divide_21 : decode cX10_divide 21 = .ok (.bipush 32, 2) := by decide +kernel
theorem dX10_divide_23 : decode cX10_divide 23 = .ok (.lshl, 1) := by decide +kernel
theorem dX10_divide_24 : decode cX10_divide 24 = .ok (.aload_n 0, 1) := by decide +kernel
theorem dX10_divide_25 : decode cX10_divide 25 = .ok (.getfield 11, 3) := by decide +kernel
theorem dX10_divide_28 : decode cX10_divide 28 = .ok (.iload 4, 2) := by decide +kernel
theorem dX10_divide_30 : decode cX10_divide 30 = .ok (.laload, 1) := by decide +kernel
theorem dX10_divide_31 : decode cX10_divide 31 = .ok (.lor, 1) := by decide +kernel
theorem dX10_divide_32 : decode cX10_divide 32 = .ok (.lstore 5, 2) := by decide +kernel
theorem dX10_divide_34 : decode cX10_divide 34 = .ok (.aload_n 0, 1) := by decide +kernel
theorem dX10_divide_35 : decode cX10_divide 35 = .ok (.getfield 11, 3) := by decide +kernel
theorem dX10_divide_38 : decode cX10_divide 38 = .ok (.iload 4, 2) := by decide +kernel
theorem dX10_divide_40 : decode cX10_divide 40 = .ok (.lload 5, 2) := by decide +kernel
theorem dX10_divide_42 : decode cX10_divide 42 = .ok (.iload_n 1, 1) := by decide +kernel
theorem dX10_divide_43 : decode cX10_divide 43 = .ok (.i2l, 1) := by decide +kernel
theorem dX10_divide_44 : decode cX10_divide 44 = .ok (.ldiv, 1) := by decide +kernel
theorem dX10_divide_45 : decode cX10_divide 45 = .ok (.lastore, 1) := by decide +kernel
theorem dX10_divide_46 : decode cX10_divide 46 = .ok (.lload 5, 2) := by decide +kernel
theorem dX10_divide_48 : decode cX10_divide 48 = .ok (.iload_n 1, 1) := by decide +kernel
theorem dX10_divide_49 : decode cX10_divide 49 = .ok (.i2l, 1) := by decide +kernel
theorem dX10_divide_50 : decode cX10_divide 50 = .ok (.lrem, 1) := by decide +kernel
theorem dX10_divide_51 : decode cX10_divide 51 = .ok (.lstore_n 2, 1) := by decide +kernel
theorem dX10_divide_52 : decode cX10_divide 52 = .ok (.iinc 4 (-1), 3) := by decide +kernel
theorem dX10_divide_55 : decode cX10_divide 55 = .ok (.goto (-40), 3) := by decide +kernel
theorem dX10_divide_58 : decode cX10_divide 58 = .ok (.aload_n 0, 1) := by decide +kernel
theorem dX10_divide_59 : decode cX10_divide 59 = .ok (.aload_n 0, 1) := by decide +kernel
theorem dX10_divide_60 : decode cX10_divide 60 = .ok (.getfield 24, 3) := by decide +kernel
theorem dX10_divide_63 : decode cX10_divide 63 = .ok (.invokevirtual 20, 3) := by decide +kernel
theorem dX10_divide_66 : decode cX10_divide 66 = .ok (.return_, 1) := by decide +kernel
theorem dX10_bitLength_0 : decode cX10_bitLength 0 = .ok (.aload_n 0, 1) := by decide +kernel
theorem dX10_bitLength_1 : decode cX10_bitLength 1 = .ok (.getfield 24, 3) := by decide +kernel
theorem dX10_bitLength_4 : decode cX10_bitLength 4 = .ok (.ifCond .ne 7, 3) := by decide +kernel
theorem dX10_bitLength_7 : decode cX10_bitLength 7 = .ok (.iconst 0, 1) := by decide +kernel
theorem dX10_bitLength_8 : decode cX10_bitLength 8 = .ok (.goto 28, 3) := by decide +kernel
theorem dX10_bitLength_11 : decode cX10_bitLength 11 = .ok (.bipush 32, 2) := by decide +kernel
theorem dX10_bitLength_13 : decode cX10_bitLength 13 = .ok (.aload_n 0, 1) := by decide +kernel
theorem dX10_bitLength_14 : decode cX10_bitLength 14 = .ok (.getfield 24, 3) := by decide +kernel
theorem dX10_bitLength_17 : decode cX10_bitLength 17 = .ok (.imul, 1) := by decide +kernel
theorem dX10_bitLength_18 : decode cX10_bitLength 18 = .ok (.aload_n 0, 1) := by decide +kernel
theorem dX10_bitLength_19 : decode cX10_bitLength 19 = .ok (.getfield 11, 3) := by decide +kernel
theorem dX10_bitLength_22 : decode cX10_bitLength 22 = .ok (.aload_n 0, 1) := by decide +kernel
theorem dX10_bitLength_23 : decode cX10_bitLength 23 = .ok (.getfield 24, 3) := by decide +kernel
theorem dX10_bitLength_26 : decode cX10_bitLength 26 = .ok (.iconst 1, 1) := by decide +kernel
theorem dX10_bitLength_27 : decode cX10_bitLength 27 = .ok (.isub, 1) := by decide +kernel
theorem dX10_bitLength_28 : decode cX10_bitLength 28 = .ok (.laload, 1) := by decide +kernel
theorem dX10_bitLength_29 : decode cX10_bitLength 29 = .ok (.invokestatic 41, 3) := by decide +kernel
theorem dX10_bitLength_32 : decode cX10_bitLength 32 = .ok (.isub, 1) := by decide +kernel
theorem dX10_bitLength_33 : decode cX10_bitLength 33 = .ok (.bipush 32, 2) := by decide +kernel
theorem dX10_bitLength_35 : decode cX10_bitLength 35 = .ok (.iadd, 1) := by decide +kernel
theorem dX10_bitLength_36 : decode cX10_bitLength 36 = .ok (.ireturn, 1) := by decide +kernel
theorem dX10_countWords_0 : decode cX10_countWords 0 = .ok (.aload_n 0, 1) := by decide +kernel
theorem dX10_countWords_1 : decode cX10_countWords 1 = .ok (.invokevirtual 47, 3) := by decide +kernel
theorem dX10_countWords_4 : decode cX10_countWords 4 = .ok (.bipush 15, 2) := by decide +kernel
theorem dX10_countWords_6 : decode cX10_countWords 6 = .ok (.iadd, 1) := by decide +kernel
theorem dX10_countWords_7 : decode cX10_countWords 7 = .ok (.bipush 16, 2) := by decide +kernel
theorem dX10_countWords_9 : decode cX10_countWords 9 = .ok (.idiv, 1) := by decide +kernel
theorem dX10_countWords_10 : decode cX10_countWords 10 = .ok (.ireturn, 1) := by decide +kernel
theorem dX10_sixteenBits_0 : decode cX10_sixteenBits 0 = .ok (.iload_n 1, 1) := by decide +kernel
theorem dX10_sixteenBits_1 : decode cX10_sixteenBits 1 = .ok (.iconst 1, 1) := by decide +kernel
theorem dX10_sixteenBits_2 : decode cX10_sixteenBits 2 = .ok (.ishr, 1) := by decide +kernel
theorem dX10_sixteenBits_3 : decode cX10_sixteenBits 3 = .ok (.istore_n 2, 1) := by decide +kernel
theorem dX10_sixteenBits_4 : decode cX10_sixteenBits 4 = .ok (.iload_n 2, 1) := by decide +kernel
theorem dX10_sixteenBits_5 : decode cX10_sixteenBits 5 = .ok (.ifCond .lt 11, 3) := by decide +kernel
theorem dX10_sixteenBits_8 : decode cX10_sixteenBits 8 = .ok (.iload_n 2, 1) := by decide +kernel
theorem dX10_sixteenBits_9 : decode cX10_sixteenBits 9 = .ok (.aload_n 0, 1) := by decide +kernel
theorem dX10_sixteenBits_10 : decode cX10_sixteenBits 10 = .ok (.getfield 24, 3) := by decide +kernel
theorem dX10_sixteenBits_13 : decode cX10_sixteenBits 13 = .ok (.if_icmp .lt 5, 3) := by decide +kernel
theorem dX10_sixteenBits_16 : decode cX10_sixteenBits 16 = .ok (.iconst 0, 1) := by decide +kernel
theorem dX10_sixteenBits_17 : decode cX10_sixteenBits 17 = .ok (.ireturn, 1) := by decide +kernel
theorem dX10_sixteenBits_18 : decode cX10_sixteenBits 18 = .ok (.aload_n 0, 1) := by decide +kernel
theorem dX10_sixteenBits_19 : decode cX10_sixteenBits 19 = .ok (.getfield 11, 3) := by decide +kernel
theorem dX10_sixteenBits_22 : decode cX10_sixteenBits 22 = .ok (.iload_n 2, 1) := by decide +kernel
theorem dX10_sixteenBits_23 : decode cX10_sixteenBits 23 = .ok (.laload, 1) := by decide +kernel
theorem dX10_sixteenBits_24 : decode cX10_sixteenBits 24 = .ok (.bipush 16, 2) := by decide +kernel
theorem dX10_sixteenBits_26 : decode cX10_sixteenBits 26 = .ok (.iload_n 1, 1) := by decide +kernel
theorem dX10_sixteenBits_27 : decode cX10_sixteenBits 27 = .ok (.iconst 1, 1) := by decide +kernel
theorem dX10_sixteenBits_28 : decode cX10_sixteenBits 28 = .ok (.iand, 1) := by decide +kernel
theorem dX10_sixteenBits_29 : decode cX10_sixteenBits 29 = .ok (.imul, 1) := by decide +kernel
theorem dX10_sixteenBits_30 : decode cX10_sixteenBits 30 = .ok (.lushr, 1) := by decide +kernel
theorem dX10_sixteenBits_31 : decode cX10_sixteenBits 31 = .ok (.l2i, 1) := by decide +kernel
theorem dX10_sixteenBits_32 : decode cX10_sixteenBits 32 = .ok (.ldc 51, 2) := by decide +kernel
theorem dX10_sixteenBits_34 : decode cX10_sixteenBits 34 = .ok (.iand, 1) := by decide +kernel
theorem dX10_sixteenBits_35 : decode cX10_sixteenBits 35 = .ok (.ireturn, 1) := by decide +kernel
theorem dX10_empty_0 : decode cX10_empty 0 = .ok (.iconst 0, 1) := by decide +kernel
theorem dX10_empty_1 : decode cX10_empty 1 = .ok (.istore_n 1, 1) := by decide +kernel
theorem dX10_empty_2 : decode cX10_empty 2 = .ok (.iload_n 1, 1) := by decide +kernel
theorem dX10_empty_3 : decode cX10_empty 3 = .ok (.aload_n 0, 1) := by decide +kernel
theorem dX10_empty_4 : decode cX10_empty 4 = .ok (.getfield 24, 3) := by decide +kernel
theorem dX10_empty_7 : decode cX10_empty 7 = .ok (.if_icmp .ge 16, 3) := by decide +kernel
theorem dX10_empty_10 : decode cX10_empty 10 = .ok (.aload_n 0, 1) := by decide +kernel
theorem dX10_empty_11 : decode cX10_empty 11 = .ok (.getfield 11, 3) := by decide +kernel
theorem dX10_empty_14 : decode cX10_empty 14 = .ok (.iload_n 1, 1) := by decide +kernel
theorem dX10_empty_15 : decode cX10_empty 15 = .ok (.lconst 0, 1) := by decide +kernel
theorem dX10_empty_16 : decode cX10_empty 16 = .ok (.lastore, 1) := by decide +kernel
theorem dX10_empty_17 : decode cX10_empty 17 = .ok (.iinc 1 1, 3) := by decide +kernel
theorem dX10_empty_20 : decode cX10_empty 20 = .ok (.goto (-18), 3) := by decide +kernel
theorem dX10_empty_23 : decode cX10_empty 23 = .ok (.aload_n 0, 1) := by decide +kernel
theorem dX10_empty_24 : decode cX10_empty 24 = .ok (.iconst 0, 1) := by decide +kernel
theorem dX10_empty_25 : decode cX10_empty 25 = .ok (.putfield 24, 3) := by decide +kernel
theorem dX10_empty_28 : decode cX10_empty 28 = .ok (.return_, 1) := by decide +kernel
theorem dX10_trim_0 : decode cX10_trim 0 = .ok (.aload_n 0, 1) := by decide +kernel
theorem dX10_trim_1 : decode cX10_trim 1 = .ok (.iload_n 1, 1) := by decide +kernel
theorem dX10_trim_2 : decode cX10_trim 2 = .ok (.bipush 12, 2) := by decide +kernel
theorem dX10_trim_4 : decode cX10_trim 4 = .ok (.invokestatic 38, 3) := by decide +kernel
theorem dX10_trim_7 : decode cX10_trim 7 = .ok (.putfield 24, 3) := by decide +kernel
theorem dX10_trim_10 : decode cX10_trim 10 = .ok (.aload_n 0, 1) := by decide +kernel
theorem dX10_trim_11 : decode cX10_trim 11 = .ok (.getfield 24, 3) := by decide +kernel
theorem dX10_trim_14 : decode cX10_trim 14 = .ok (.ifCond .le 32, 3) := by decide +kernel
theorem dX10_trim_17 : decode cX10_trim 17 = .ok (.aload_n 0, 1) := by decide +kernel
theorem dX10_trim_18 : decode cX10_trim 18 = .ok (.getfield 11, 3) := by decide +kernel
theorem dX10_trim_21 : decode cX10_trim 21 = .ok (.aload_n 0, 1) := by decide +kernel
theorem dX10_trim_22 : decode cX10_trim 22 = .ok (.getfield 24, 3) := by decide +kernel
theorem dX10_trim_25 : decode cX10_trim 25 = .ok (.iconst 1, 1) := by decide +kernel
theorem dX10_trim_26 : decode cX10_trim 26 = .ok (.isub, 1) := by decide +kernel
theorem dX10_trim_27 : decode cX10_trim 27 = .ok (.laload, 1) := by decide +kernel
theorem dX10_trim_28 : decode cX10_trim 28 = .ok (.lconst 0, 1) := by decide +kernel
theorem dX10_trim_29 : decode cX10_trim 29 = .ok (.lcmp, 1) := by decide +kernel
theorem dX10_trim_30 : decode cX10_trim 30 = .ok (.ifCond .ne 16, 3) := by decide +kernel
theorem dX10_trim_33 : decode cX10_trim 33 = .ok (.aload_n 0, 1) := by decide +kernel
theorem dX10_trim_34 : decode cX10_trim 34 = .ok (.dup, 1) := by decide +kernel
theorem dX10_trim_35 : decode cX10_trim 35 = .ok (.getfield 24, 3) := by decide +kernel
theorem dX10_trim_38 : decode cX10_trim 38 = .ok (.iconst 1, 1) := by decide +kernel
theorem dX10_trim_39 : decode cX10_trim 39 = .ok (.isub, 1) := by decide +kernel
theorem dX10_trim_40 : decode cX10_trim 40 = .ok (.putfield 24, 3) := by decide +kernel
theorem dX10_trim_43 : decode cX10_trim 43 = .ok (.goto (-33), 3) := by decide +kernel
theorem dX10_trim_46 : decode cX10_trim 46 = .ok (.return_, 1) := by decide +kernel
end
section
theorem dX11_init_0 : decode cX11_init 0 = .ok (.aload_n 0, 1) := by decide +kernel
theorem dX11_init_1 : decode cX11_init 1 = .ok (.invokespecial 1, 3) := by decide +kernel
theorem dX11_init_4 : decode cX11_init 4 = .ok (.aload_n 0, 1) := by decide +kernel
theorem dX11_init_5 : decode cX11_init 5 = .ok (.new 7, 3) := by decide +kernel
theorem dX11_init_8 : decode cX11_init 8 = .ok (.dup, 1) := by decide +kernel
theorem dX11_init_9 : decode cX11_init 9 = .ok (.invokespecial 9, 3) := by decide +kernel
theorem dX11_init_12 : decode cX11_init 12 = .ok (.putfield 10, 3) := by decide +kernel
theorem dX11_init_15 : decode cX11_init 15 = .ok (.aload_n 0, 1) := by decide +kernel
theorem dX11_init_16 : decode cX11_init 16 = .ok (.new 16, 3) := by decide +kernel
theorem dX11_init_19 : decode cX11_init 19 = .ok (.dup, 1) := by decide +kernel
theorem dX11_init_20 : decode cX11_init 20 = .ok (.bipush 15, 2) := by decide +kernel
theorem dX11_init_22 : decode cX11_init 22 = .ok (.invokespecial 18, 3) := by decide +kernel
theorem dX11_init_25 : decode cX11_init 25 = .ok (.putfield 21, 3) := by decide +kernel
theorem dX11_init_28 : decode cX11_init 28 = .ok (.aload_n 0, 1) := by decide +kernel
theorem dX11_init_29 : decode cX11_init 29 = .ok (.new 16, 3) := by decide +kernel
theorem dX11_init_32 : decode cX11_init 32 = .ok (.dup, 1) := by decide +kernel
theorem dX11_init_33 : decode cX11_init 33 = .ok (.bipush 15, 2) := by decide +kernel
theorem dX11_init_35 : decode cX11_init 35 = .ok (.invokespecial 18, 3) := by decide +kernel
theorem dX11_init_38 : decode cX11_init 38 = .ok (.putfield 25, 3) := by decide +kernel
theorem dX11_init_41 : decode cX11_init 41 = .ok (.aload_n 0, 1) := by decide +kernel
theorem dX11_init_42 : decode cX11_init 42 = .ok (.new 16, 3) := by decide +kernel
theorem dX11_init_45 : decode cX11_init 45 = .ok (.dup, 1) := by decide +kernel
theorem dX11_init_46 : decode cX11_init 46 = .ok (.bipush 30, 2) := by decide +kernel
theorem dX11_init_48 : decode cX11_init 48 = .ok (.invokespecial 18, 3) := by decide +kernel
theorem dX11_init_51 : decode cX11_init 51 = .ok (.putfield 28, 3) := by decide +kernel
theorem dX11_init_54 : decode cX11_init 54 = .ok (.aload_n 0, 1) := by decide +kernel
theorem dX11_init_55 : decode cX11_init 55 = .ok (.new 16, 3) := by decide +kernel
theorem dX11_init_58 : decode cX11_init 58 = .ok (.dup, 1) := by decide +kernel
theorem dX11_init_59 : decode cX11_init 59 = .ok (.bipush 40, 2) := by decide +kernel
theorem dX11_init_61 : decode cX11_init 61 = .ok (.invokespecial 18, 3) := by decide +kernel
theorem dX11_init_64 : decode cX11_init 64 = .ok (.putfield 31, 3) := by decide +kernel
theorem dX11_init_67 : decode cX11_init 67 = .ok (.aload_n 0, 1) := by decide +kernel
theorem dX11_init_68 : decode cX11_init 68 = .ok (.new 34, 3) := by decide +kernel
theorem dX11_init_71 : decode cX11_init 71 = .ok (.dup, 1) := by decide +kernel
theorem dX11_init_72 : decode cX11_init 72 = .ok (.invokespecial 36, 3) := by decide +kernel
theorem dX11_init_75 : decode cX11_init 75 = .ok (.putfield 37, 3) := by decide +kernel
theorem dX11_init_78 : decode cX11_init 78 = .ok (.aload_n 0, 1) := by decide +kernel
theorem dX11_init_79 : decode cX11_init 79 = .ok (.new 41, 3) := by decide +kernel
theorem dX11_init_82 : decode cX11_init 82 = .ok (.dup, 1) := by decide +kernel
theorem dX11_init_83 : decode cX11_init 83 = .ok (.invokespecial 43, 3) := by decide +kernel
theorem dX11_init_86 : decode cX11_init 86 = .ok (.putfield 44, 3) := by decide +kernel
theorem dX11_init_89 : decode cX11_init 89 = .ok (.aload_n 0, 1) := by decide +kernel
theorem dX11_init_90 : decode cX11_init 90 = .ok (.new 48, 3) := by decide +kernel
theorem dX11_init_93 : decode cX11_init 93 = .ok (.dup, 1) := by decide +kernel
theorem dX11_init_94 : decode cX11_init 94 = .ok (.invokespecial 50, 3) := by decide +kernel
theorem dX11_init_97 : decode cX11_init 97 = .ok (.putfield 51, 3) := by decide +kernel
theorem dX11_init_100 : decode cX11_init 100 = .ok (.aload_n 0, 1) := by decide +kernel
theorem dX11_init_101 : decode cX11_init 101 = .ok (.new 55, 3) := by decide +kernel
theorem dX11_init_104 : decode cX11_init 104 = .ok (.dup, 1) := by decide +kernel
theorem dX11_init_105 : decode cX11_init 105 = .ok (.invokespecial 57, 3) := by decide +kernel
theorem dX11_init_108 : decode cX11_init 108 = .ok (.putfield 58, 3) := by decide +kernel
theorem dX11_init_111 : decode cX11_init 111 = .ok (.aload_n 0, 1) := by decide +kernel
theorem dX11_init_112 : decode cX11_init 112 = .ok (.new 62, 3) := by decide +kernel
theorem dX11_init_115 : decode cX11_init 115 = .ok (.dup, 1) := by decide +kernel
theorem dX11_init_116 : decode cX11_init 116 = .ok (.invokespecial 64, 3) := by decide +kernel
theorem dX11_init_119 : decode cX11_init 119 = .ok (.putfield 65, 3) := by decide +kernel
theorem dX11_init_122 : decode cX11_init 122 = .ok (.aload_n 0, 1) := by decide +kernel
theorem dX11_init_123 : decode cX11_init 123 = .ok (.new 69, 3) := by decide +kernel
theorem dX11_init_126 : decode cX11_init 126 = .ok (.dup, 1) := by decide +kernel
theorem dX11_init_127 : decode cX11_init 127 = .ok (.aload_n 0, 1) := by decide +kernel
theorem dX11_init_128 : decode cX11_init 128 = .ok (.getfield 65, 3) := by decide +kernel
theorem dX11_init_131 : decode cX11_init 131 = .ok (.invokespecial 71, 3) := by decide +kernel
theorem dX11_init_134 : decode cX11_init 134 = .ok (.putfield 74, 3) := by decide +kernel
theorem dX11_init_137 : decode cX11_init 137 = .ok (.return_, 1) := by decide +kernel
theorem dX11_table_0 : decode cX11_table 0 = .ok (.iload_n 1, 1) := by decide +kernel
theorem dX11_table_1 : decode cX11_table 1 = .ok (.iconst 1, 1) := by decide +kernel
theorem dX11_table_2 : decode cX11_table 2 = .ok (.iconst 5, 1) := by decide +kernel
theorem dX11_table_3 : decode cX11_table 3 = .ok (.invokestatic 78, 3) := by decide +kernel
theorem dX11_table_6 : decode cX11_table 6 = .ok (.ifCond .eq 12, 3) := by decide +kernel
theorem dX11_table_9 : decode cX11_table 9 = .ok (.iload_n 2, 1) := by decide +kernel
theorem dX11_table_10 : decode cX11_table 10 = .ok (.iconst 1, 1) := by decide +kernel
theorem dX11_table_11 : decode cX11_table 11 = .ok (.iconst 5, 1) := by decide +kernel
theorem dX11_table_12 : decode cX11_table 12 = .ok (.invokestatic 78, 3) := by decide +kernel
theorem dX11_table_15 : decode cX11_table 15 = .ok (.ifCond .ne 6, 3) := by decide +kernel
theorem dX11_table_18 : decode cX11_table 18 = .ok (.bipush (-2), 2) := by decide +kernel
theorem dX11_table_20 : decode cX11_table 20 = .ok (.ireturn, 1) := by decide +kernel
theorem dX11_table_21 : decode cX11_table 21 = .ok (.aload_n 0, 1) := by decide +kernel
theorem dX11_table_22 : decode cX11_table 22 = .ok (.getfield 10, 3) := by decide +kernel
theorem dX11_table_25 : decode cX11_table 25 = .ok (.iload_n 1, 1) := by decide +kernel
theorem dX11_table_26 : decode cX11_table 26 = .ok (.iload_n 2, 1) := by decide +kernel
theorem dX11_table_27 : decode cX11_table 27 = .ok (.invokevirtual 82, 3) := by decide +kernel
theorem dX11_table_30 : decode cX11_table 30 = .ok (.iconst 1, 1) := by decide +kernel
theorem dX11_table_31 : decode cX11_table 31 = .ok (.ireturn, 1) := by decide +kernel
theorem dX11_cell_0 : decode cX11_cell 0 = .ok (.aload_n 0, 1) := by decide +kernel
theorem dX11_cell_1 : decode cX11_cell 1 = .ok (.getfield 10, 3) := by decide +kernel
theorem dX11_cell_4 : decode cX11_cell 4 = .ok (.iload_n 1, 1) := by decide +kernel
theorem dX11_cell_5 : decode cX11_cell 5 = .ok (.invokevirtual 86, 3) := by decide +kernel
theorem dX11_cell_8 : decode cX11_cell 8 = .ok (.ifCond .eq 14, 3) := by decide +kernel
theorem dX11_cell_11 : decode cX11_cell 11 = .ok (.aload_n 0, 1) := by decide +kernel
theorem dX11_cell_12 : decode cX11_cell 12 = .ok (.getfield 10, 3) := by decide +kernel
theorem dX11_cell_15 : decode cX11_cell 15 = .ok (.iload_n 2, 1) := by decide +kernel
theorem dX11_cell_16 : decode cX11_cell 16 = .ok (.invokevirtual 90, 3) := by decide +kernel
theorem dX11_cell_19 : decode cX11_cell 19 = .ok (.ifCond .ne 5, 3) := by decide +kernel
theorem dX11_cell_22 : decode cX11_cell 22 = .ok (.iconst (-1), 1) := by decide +kernel
theorem dX11_cell_23 : decode cX11_cell 23 = .ok (.ireturn, 1) := by decide +kernel
theorem dX11_cell_24 : decode cX11_cell 24 = .ok (.iload_n 3, 1) := by decide +kernel
theorem dX11_cell_25 : decode cX11_cell 25 = .ok (.iconst 0, 1) := by decide +kernel
theorem dX11_cell_26 : decode cX11_cell 26 = .ok (.bipush 60, 2) := by decide +kernel
theorem dX11_cell_28 : decode cX11_cell 28 = .ok (.invokestatic 78, 3) := by decide +kernel
theorem dX11_cell_31 : decode cX11_cell 31 = .ok (.ifCond .ne 6, 3) := by decide +kernel
theorem dX11_cell_34 : decode cX11_cell 34 = .ok (.bipush (-2), 2) := by decide +kernel
theorem dX11_cell_36 : decode cX11_cell 36 = .ok (.ireturn, 1) := by decide +kernel
theorem dX11_cell_37 : decode cX11_cell 37 = .ok (.aload_n 0, 1) := by decide +kernel
theorem dX11_cell_38 : decode cX11_cell 38 = .ok (.getfield 10, 3) := by decide +kernel
theorem dX11_cell_41 : decode cX11_cell 41 = .ok (.iload_n 1, 1) := by decide +kernel
theorem dX11_cell_42 : decode cX11_cell 42 = .ok (.iload_n 2, 1) := by decide +kernel
theorem dX11_cell_43 : decode cX11_cell 43 = .ok (.invokevirtual 93, 3) := by decide +kernel
theorem dX11_cell_46 : decode cX11_cell 46 = .ok (.istore 4, 2) := by decide +kernel
theorem dX11_cell_48 : decode cX11_cell 48 = .ok (.aload_n 0, 1) := by decide +kernel
theorem dX11_cell_49 : decode cX11_cell 49 = .ok (.getfield 10, 3) := by decide +kernel
theorem dX11_cell_52 : decode cX11_cell 52 = .ok (.invokevirtual 97, 3) := by decide +kernel
theorem dX11_cell_55 : decode cX11_cell 55 = .ok (.iload 4, 2) := by decide +kernel
theorem dX11_cell_57 : decode cX11_cell 57 = .ok (.isub, 1) := by decide +kernel
theorem dX11_cell_58 : decode cX11_cell 58 = .ok (.iload_n 3, 1) := by decide +kernel
theorem dX11_cell_59 : decode cX11_cell 59 = .ok (.iadd, 1) := by decide +kernel
theorem dX11_cell_60 : decode cX11_cell 60 = .ok (.bipush 60, 2) := by decide +kernel
theorem dX11_cell_62 : decode cX11_cell 62 = .ok (.if_icmp .le 6, 3) := by decide +kernel
theorem dX11_cell_65 : decode cX11_cell 65 = .ok (.bipush (-4), 2) := by decide +kernel
theorem dX11_cell_67 : decode cX11_cell 67 = .ok (.ireturn, 1) := by decide +kernel
theorem dX11_cell_68 : decode cX11_cell 68 = .ok (.aload_n 0, 1) := by decide +kernel
theorem dX11_cell_69 : decode cX11_cell 69 = .ok (.getfield 10, 3) := by decide +kernel
theorem dX11_cell_72 : decode cX11_cell 72 = .ok (.iload_n 1, 1) := by decide +kernel
theorem dX11_cell_73 : decode cX11_cell 73 = .ok (.iload_n 2, 1) := by decide +kernel
theorem dX11_cell_74 : decode cX11_cell 74 = .ok (.iload_n 3, 1) := by decide +kernel
theorem dX11_cell_75 : decode cX11_cell 75 = .ok (.invokevirtual 101, 3) := by decide +kernel
theorem dX11_cell_78 : decode cX11_cell 78 = .ok (.iload 4, 2) := by decide +kernel
theorem dX11_cell_80 : decode cX11_cell 80 = .ok (.ireturn, 1) := by decide +kernel
theorem dX11_about_0 : decode cX11_about 0 = .ok (.iload_n 3, 1) := by decide +kernel
theorem dX11_about_1 : decode cX11_about 1 = .ok (.iconst 0, 1) := by decide +kernel
theorem dX11_about_2 : decode cX11_about 2 = .ok (.iconst 3, 1) := by decide +kernel
theorem dX11_about_3 : decode cX11_about 3 = .ok (.invokestatic 78, 3) := by decide +kernel
theorem dX11_about_6 : decode cX11_about 6 = .ok (.ifCond .ne 6, 3) := by decide +kernel
theorem dX11_about_9 : decode cX11_about 9 = .ok (.bipush (-2), 2) := by decide +kernel
theorem dX11_about_11 : decode cX11_about 11 = .ok (.ireturn, 1) := by decide +kernel
theorem dX11_about_12 : decode cX11_about 12 = .ok (.iload_n 3, 1) := by decide +kernel
theorem dX11_about_13 : decode cX11_about 13 = .ok (.ifCond .eq 8, 3) := by decide +kernel
theorem dX11_about_16 : decode cX11_about 16 = .ok (.iload_n 3, 1) := by decide +kernel
theorem dX11_about_17 : decode cX11_about 17 = .ok (.iconst 1, 1) := by decide +kernel
theorem dX11_about_18 : decode cX11_about 18 = .ok (.if_icmp .ne 7, 3) := by decide +kernel
theorem dX11_about_21 : decode cX11_about 21 = .ok (.iconst 1, 1) := by decide +kernel
theorem dX11_about_22 : decode cX11_about 22 = .ok (.goto 4, 3) := by decide +kernel
theorem dX11_about_25 : decode cX11_about 25 = .ok (.iconst 0, 1) := by decide +kernel
theorem dX11_about_26 : decode cX11_about 26 = .ok (.istore 4, 2) := by decide +kernel
theorem dX11_about_28 : decode cX11_about 28 = .ok (.iload_n 3, 1) := by decide +kernel
theorem dX11_about_29 : decode cX11_about 29 = .ok (.ifCond .eq 8, 3) := by decide +kernel
theorem dX11_about_32 : decode cX11_about 32 = .ok (.iload_n 3, 1) := by decide +kernel
theorem dX11_about_33 : decode cX11_about 33 = .ok (.iconst 2, 1) := by decide +kernel
theorem dX11_about_34 : decode cX11_about 34 = .ok (.if_icmp .ne 7, 3) := by decide +kernel
theorem dX11_about_37 : decode cX11_about 37 = .ok (.iconst 1, 1) := by decide +kernel
theorem dX11_about_38 : decode cX11_about 38 = .ok (.goto 4, 3) := by decide +kernel
theorem dX11_about_41 : decode cX11_about 41 = .ok (.iconst 0, 1) := by decide +kernel
theorem dX11_about_42 : decode cX11_about 42 = .ok (.istore 5, 2) := by decide +kernel
theorem dX11_about_44 : decode cX11_about 44 = .ok (.iload 4, 2) := by decide +kernel
theorem dX11_about_46 : decode cX11_about 46 = .ok (.ifCond .eq 14, 3) := by decide +kernel
theorem dX11_about_49 : decode cX11_about 49 = .ok (.aload_n 0, 1) := by decide +kernel
theorem dX11_about_50 : decode cX11_about 50 = .ok (.getfield 10, 3) := by decide +kernel
theorem dX11_about_53 : decode cX11_about 53 = .ok (.iload_n 1, 1) := by decide +kernel
theorem dX11_about_54 : decode cX11_about 54 = .ok (.invokevirtual 86, 3) := by decide +kernel
theorem dX11_about_57 : decode cX11_about 57 = .ok (.ifCond .eq 19, 3) := by decide +kernel
theorem dX11_about_60 : decode cX11_about 60 = .ok (.iload 5, 2) := by decide +kernel
theorem dX11_about_62 : decode cX11_about 62 = .ok (.ifCond .eq 16, 3) := by decide +kernel
theorem dX11_about_65 : decode cX11_about 65 = .ok (.aload_n 0, 1) := by decide +kernel
theorem dX11_about_66 : decode cX11_about 66 = .ok (.getfield 10, 3) := by decide +kernel
theorem dX11_about_69 : decode cX11_about 69 = .ok (.iload_n 2, 1) := by decide +kernel
theorem dX11_about_70 : decode cX11_about 70 = .ok (.invokevirtual 90, 3) := by decide +kernel
theorem dX11_about_73 : decode cX11_about 73 = .ok (.ifCond .ne 5, 3) := by decide +kernel
theorem dX11_about_76 : decode cX11_about 76 = .ok (.iconst (-1), 1) := by decide +kernel
theorem dX11_about_77 : decode cX11_about 77 = .ok (.ireturn, 1) := by decide +kernel
theorem dX11_about_78 : decode cX11_about 78 = .ok (.iload_n 3, 1) := by decide +kernel
theorem dX11_about_79 : decode cX11_about 79 = .ok (.tableswitch 53 0 2 #[25, 35, 44], 25) := by decide +kernel
theorem dX11_about_104 : decode cX11_about 104 = .ok (.aload_n 0, 1) := by decide +kernel
theorem dX11_about_105 : decode cX11_about 105 = .ok (.getfield 10, 3) := by decide +kernel
theorem dX11_about_108 : decode cX11_about 108 = .ok (.iload_n 1, 1) := by decide +kernel
theorem dX11_about_109 : decode cX11_about 109 = .ok (.iload_n 2, 1) := by decide +kernel
theorem dX11_about_110 : decode cX11_about 110 = .ok (.invokevirtual 93, 3) := by decide +kernel
theorem dX11_about_113 : decode cX11_about 113 = .ok (.ireturn, 1) := by decide +kernel
theorem dX11_about_114 : decode cX11_about 114 = .ok (.aload_n 0, 1) := by decide +kernel
theorem dX11_about_115 : decode cX11_about 115 = .ok (.getfield 10, 3) := by decide +kernel
theorem dX11_about_118 : decode cX11_about 118 = .ok (.iload_n 1, 1) := by decide +kernel
theorem dX11_about_119 : decode cX11_about 119 = .ok (.invokevirtual 105, 3) := by decide +kernel
theorem dX11_about_122 : decode cX11_about 122 = .ok (.ireturn, 1) := by decide +kernel
theorem dX11_about_123 : decode cX11_about 123 = .ok (.aload_n 0, 1) := by decide +kernel
theorem dX11_about_124 : decode cX11_about 124 = .ok (.getfield 10, 3) := by decide +kernel
theorem dX11_about_127 : decode cX11_about 127 = .ok (.iload_n 2, 1) := by decide +kernel
theorem dX11_about_128 : decode cX11_about 128 = .ok (.invokevirtual 109, 3) := by decide +kernel
theorem dX11_about_131 : decode cX11_about 131 = .ok (.ireturn, 1) := by decide +kernel
theorem dX11_about_132 : decode cX11_about 132 = .ok (.aload_n 0, 1) := by decide +kernel
theorem dX11_about_133 : decode cX11_about 133 = .ok (.getfield 10, 3) := by decide +kernel
theorem dX11_about_136 : decode cX11_about 136 = .ok (.invokevirtual 97, 3) := by decide +kernel
theorem dX11_about_139 : decode cX11_about 139 = .ok (.ireturn, 1) := by decide +kernel
theorem dX11_sample_0 : decode cX11_sample 0 = .ok (.iload_n 1, 1) := by decide +kernel
theorem dX11_sample_1 : decode cX11_sample 1 = .ok (.ifCond .eq 10, 3) := by decide +kernel
theorem dX11_sample_4 : decode cX11_sample 4 = .ok (.iload_n 1, 1) := by decide +kernel
theorem dX11_sample_5 : decode cX11_sample 5 = .ok (.iconst 1, 1) := by decide +kernel
theorem dX11_sample_6 : decode cX11_sample 6 = .ok (.if_icmp .eq 5, 3) := by decide +kernel
theorem dX11_sample_9 : decode cX11_sample 9 = .ok (.iconst (-1), 1) := by decide +kernel
theorem dX11_sample_10 : decode cX11_sample 10 = .ok (.ireturn, 1) := by decide +kernel
theorem dX11_sample_11 : decode cX11_sample 11 = .ok (.iload_n 2, 1) := by decide +kernel
theorem dX11_sample_12 : decode cX11_sample 12 = .ok (.sipush (-1000), 3) := by decide +kernel
theorem dX11_sample_15 : decode cX11_sample 15 = .ok (.sipush 1000, 3) := by decide +kernel
theorem dX11_sample_18 : decode cX11_sample 18 = .ok (.invokestatic 78, 3) := by decide +kernel
theorem dX11_sample_21 : decode cX11_sample 21 = .ok (.ifCond .ne 6, 3) := by decide +kernel
theorem dX11_sample_24 : decode cX11_sample 24 = .ok (.bipush (-2), 2) := by decide +kernel
theorem dX11_sample_26 : decode cX11_sample 26 = .ok (.ireturn, 1) := by decide +kernel
theorem dX11_sample_27 : decode cX11_sample 27 = .ok (.iload_n 1, 1) := by decide +kernel
theorem dX11_sample_28 : decode cX11_sample 28 = .ok (.ifCond .ne 10, 3) := by decide +kernel
theorem dX11_sample_31 : decode cX11_sample 31 = .ok (.aload_n 0, 1) := by decide +kernel
theorem dX11_sample_32 : decode cX11_sample 32 = .ok (.getfield 21, 3) := by decide +kernel
theorem dX11_sample_35 : decode cX11_sample 35 = .ok (.goto 7, 3) := by decide +kernel
theorem dX11_sample_38 : decode cX11_sample 38 = .ok (.aload_n 0, 1) := by decide +kernel
theorem dX11_sample_39 : decode cX11_sample 39 = .ok (.getfield 25, 3) := by decide +kernel
theorem dX11_sample_42 : decode cX11_sample 42 = .ok (.astore_n 3, 1) := by decide +kernel
theorem dX11_sample_43 : decode cX11_sample 43 = .ok (.aload_n 3, 1) := by decide +kernel
theorem dX11_sample_44 : decode cX11_sample 44 = .ok (.invokevirtual 112, 3) := by decide +kernel
theorem dX11_sample_47 : decode cX11_sample 47 = .ok (.ifCond .eq 8, 3) := by decide +kernel
theorem dX11_sample_50 : decode cX11_sample 50 = .ok (.bipush (-4), 2) := by decide +kernel
theorem dX11_sample_52 : decode cX11_sample 52 = .ok (.goto 8, 3) := by decide +kernel
theorem dX11_sample_55 : decode cX11_sample 55 = .ok (.aload_n 3, 1) := by decide +kernel
theorem dX11_sample_56 : decode cX11_sample 56 = .ok (.iload_n 2, 1) := by decide +kernel
theorem dX11_sample_57 : decode cX11_sample 57 = .ok (.invokevirtual 116, 3) := by decide +kernel
theorem dX11_sample_60 : decode cX11_sample 60 = .ok (.ireturn, 1) := by decide +kernel
theorem dX11_pair_0 : decode cX11_pair 0 = .ok (.iload_n 1, 1) := by decide +kernel
theorem dX11_pair_1 : decode cX11_pair 1 = .ok (.sipush (-1000), 3) := by decide +kernel
theorem dX11_pair_4 : decode cX11_pair 4 = .ok (.sipush 1000, 3) := by decide +kernel
theorem dX11_pair_7 : decode cX11_pair 7 = .ok (.invokestatic 78, 3) := by decide +kernel
theorem dX11_pair_10 : decode cX11_pair 10 = .ok (.ifCond .eq 16, 3) := by decide +kernel
theorem dX11_pair_13 : decode cX11_pair 13 = .ok (.iload_n 2, 1) := by decide +kernel
theorem dX11_pair_14 : decode cX11_pair 14 = .ok (.sipush (-1000), 3) := by decide +kernel
theorem dX11_pair_17 : decode cX11_pair 17 = .ok (.sipush 1000, 3) := by decide +kernel
theorem dX11_pair_20 : decode cX11_pair 20 = .ok (.invokestatic 78, 3) := by decide +kernel
theorem dX11_pair_23 : decode cX11_pair 23 = .ok (.ifCond .ne 6, 3) := by decide +kernel
theorem dX11_pair_26 : decode cX11_pair 26 = .ok (.bipush (-2), 2) := by decide +kernel
theorem dX11_pair_28 : decode cX11_pair 28 = .ok (.ireturn, 1) := by decide +kernel
theorem dX11_pair_29 : decode cX11_pair 29 = .ok (.aload_n 0, 1) := by decide +kernel
theorem dX11_pair_30 : decode cX11_pair 30 = .ok (.getfield 28, 3) := by decide +kernel
theorem dX11_pair_33 : decode cX11_pair 33 = .ok (.invokevirtual 112, 3) := by decide +kernel
theorem dX11_pair_36 : decode cX11_pair 36 = .ok (.ifCond .eq 8, 3) := by decide +kernel
theorem dX11_pair_39 : decode cX11_pair 39 = .ok (.bipush (-4), 2) := by decide +kernel
theorem dX11_pair_41 : decode cX11_pair 41 = .ok (.goto 13, 3) := by decide +kernel
theorem dX11_pair_44 : decode cX11_pair 44 = .ok (.aload_n 0, 1) := by decide +kernel
theorem dX11_pair_45 : decode cX11_pair 45 = .ok (.getfield 28, 3) := by decide +kernel
theorem dX11_pair_48 : decode cX11_pair 48 = .ok (.iload_n 1, 1) := by decide +kernel
theorem dX11_pair_49 : decode cX11_pair 49 = .ok (.iload_n 2, 1) := by decide +kernel
theorem dX11_pair_50 : decode cX11_pair 50 = .ok (.isub, 1) := by decide +kernel
theorem dX11_pair_51 : decode cX11_pair 51 = .ok (.invokevirtual 116, 3) := by decide +kernel
theorem dX11_pair_54 : decode cX11_pair 54 = .ok (.ireturn, 1) := by decide +kernel
theorem dX11_clear_0 : decode cX11_clear 0 = .ok (.iload_n 1, 1) := by decide +kernel
theorem dX11_clear_1 : decode cX11_clear 1 = .ok (.tableswitch 71 0 3 #[31, 47, 55, 63], 31) := by decide +kernel
theorem dX11_clear_32 : decode cX11_clear 32 = .ok (.aload_n 0, 1) := by decide +kernel
theorem dX11_clear_33 : decode cX11_clear 33 = .ok (.getfield 21, 3) := by decide +kernel
theorem dX11_clear_36 : decode cX11_clear 36 = .ok (.invokevirtual 119, 3) := by decide +kernel
theorem dX11_clear_39 : decode cX11_clear 39 = .ok (.aload_n 0, 1) := by decide +kernel
theorem dX11_clear_40 : decode cX11_clear 40 = .ok (.getfield 25, 3) := by decide +kernel
theorem dX11_clear_43 : decode cX11_clear 43 = .ok (.invokevirtual 119, 3) := by decide +kernel
theorem dX11_clear_46 : decode cX11_clear 46 = .ok (.iadd, 1) := by decide +kernel
theorem dX11_clear_47 : decode cX11_clear 47 = .ok (.ireturn, 1) := by decide +kernel
theorem dX11_clear_48 : decode cX11_clear 48 = .ok (.aload_n 0, 1) := by decide +kernel
theorem dX11_clear_49 : decode cX11_clear 49 = .ok (.getfield 28, 3) := by decide +kernel
theorem dX11_clear_52 : decode cX11_clear 52 = .ok (.invokevirtual 119, 3) := by decide +kernel
theorem dX11_clear_55 : decode cX11_clear 55 = .ok (.ireturn, 1) := by decide +kernel
theorem dX11_clear_56 : decode cX11_clear 56 = .ok (.aload_n 0, 1) := by decide +kernel
theorem dX11_clear_57 : decode cX11_clear 57 = .ok (.getfield 74, 3) := by decide +kernel
theorem dX11_clear_60 : decode cX11_clear 60 = .ok (.invokevirtual 122, 3) := by decide +kernel
theorem dX11_clear_63 : decode cX11_clear 63 = .ok (.ireturn, 1) := by decide +kernel
theorem dX11_clear_64 : decode cX11_clear 64 = .ok (.aload_n 0, 1) := by decide +kernel
theorem dX11_clear_65 : decode cX11_clear 65 = .ok (.getfield 31, 3) := by decide +kernel
theorem dX11_clear_68 : decode cX11_clear 68 = .ok (.invokevirtual 119, 3) := by decide +kernel
theorem dX11_clear_71 : decode cX11_clear 71 = .ok (.ireturn, 1) := by decide +kernel
theorem dX11_clear_72 : decode cX11_clear 72 = .ok (.iconst (-1), 1) := by decide +kernel
theorem dX11_clear_73 : decode cX11_clear 73 = .ok (.ireturn, 1) := by decide +kernel
theorem dX11_tables_0 : decode cX11_tables 0 = .ok (.aload_n 0, 1) := by decide +kernel
theorem dX11_tables_1 : decode cX11_tables 1 = .ok (.getfield 10, 3) := by decide +kernel
theorem dX11_tables_4 : decode cX11_tables 4 = .ok (.invokevirtual 97, 3) := by decide +kernel
theorem dX11_tables_7 : decode cX11_tables 7 = .ok (.ifCond .ne 6, 3) := by decide +kernel
theorem dX11_tables_10 : decode cX11_tables 10 = .ok (.bipush (-5), 2) := by decide +kernel
theorem dX11_tables_12 : decode cX11_tables 12 = .ok (.ireturn, 1) := by decide +kernel
theorem dX11_tables_13 : decode cX11_tables 13 = .ok (.aload_n 0, 1) := by decide +kernel
theorem dX11_tables_14 : decode cX11_tables 14 = .ok (.getfield 37, 3) := by decide +kernel
theorem dX11_tables_17 : decode cX11_tables 17 = .ok (.aload_n 0, 1) := by decide +kernel
theorem dX11_tables_18 : decode cX11_tables 18 = .ok (.getfield 10, 3) := by decide +kernel
theorem dX11_tables_21 : decode cX11_tables 21 = .ok (.invokevirtual 123, 3) := by decide +kernel
theorem dX11_tables_24 : decode cX11_tables 24 = .ok (.istore_n 1, 1) := by decide +kernel
theorem dX11_tables_25 : decode cX11_tables 25 = .ok (.iload_n 1, 1) := by decide +kernel
theorem dX11_tables_26 : decode cX11_tables 26 = .ok (.sipush 20000, 3) := by decide +kernel
theorem dX11_tables_29 : decode cX11_tables 29 = .ok (.if_icmp .le 6, 3) := by decide +kernel
theorem dX11_tables_32 : decode cX11_tables 32 = .ok (.bipush (-7), 2) := by decide +kernel
theorem dX11_tables_34 : decode cX11_tables 34 = .ok (.ireturn, 1) := by decide +kernel
theorem dX11_tables_35 : decode cX11_tables 35 = .ok (.aload_n 0, 1) := by decide +kernel
theorem dX11_tables_36 : decode cX11_tables 36 = .ok (.getfield 44, 3) := by decide +kernel
theorem dX11_tables_39 : decode cX11_tables 39 = .ok (.aload_n 0, 1) := by decide +kernel
theorem dX11_tables_40 : decode cX11_tables 40 = .ok (.getfield 10, 3) := by decide +kernel
theorem dX11_tables_43 : decode cX11_tables 43 = .ok (.invokevirtual 127, 3) := by decide +kernel
theorem dX11_tables_46 : decode cX11_tables 46 = .ok (.aload_n 0, 1) := by decide +kernel
theorem dX11_tables_47 : decode cX11_tables 47 = .ok (.getfield 10, 3) := by decide +kernel
theorem dX11_tables_50 : decode cX11_tables 50 = .ok (.invokevirtual 130, 3) := by decide +kernel
theorem dX11_tables_53 : decode cX11_tables 53 = .ok (.iload_n 1, 1) := by decide +kernel
theorem dX11_tables_54 : decode cX11_tables 54 = .ok (.invokevirtual 133, 3) := by decide +kernel
theorem dX11_tables_57 : decode cX11_tables 57 = .ok (.aload_n 0, 1) := by decide +kernel
theorem dX11_tables_58 : decode cX11_tables 58 = .ok (.getfield 37, 3) := by decide +kernel
theorem dX11_tables_61 : decode cX11_tables 61 = .ok (.aload_n 0, 1) := by decide +kernel
theorem dX11_tables_62 : decode cX11_tables 62 = .ok (.getfield 10, 3) := by decide +kernel
theorem dX11_tables_65 : decode cX11_tables 65 = .ok (.aload_n 0, 1) := by decide +kernel
theorem dX11_tables_66 : decode cX11_tables 66 = .ok (.getfield 44, 3) := by decide +kernel
theorem dX11_tables_69 : decode cX11_tables 69 = .ok (.invokevirtual 135, 3) := by decide +kernel
theorem dX11_tables_72 : decode cX11_tables 72 = .ok (.aload_n 0, 1) := by decide +kernel
theorem dX11_tables_73 : decode cX11_tables 73 = .ok (.getfield 58, 3) := by decide +kernel
theorem dX11_tables_76 : decode cX11_tables 76 = .ok (.iconst 0, 1) := by decide +kernel
theorem dX11_tables_77 : decode cX11_tables 77 = .ok (.aload_n 0, 1) := by decide +kernel
theorem dX11_tables_78 : decode cX11_tables 78 = .ok (.getfield 10, 3) := by decide +kernel
theorem dX11_tables_81 : decode cX11_tables 81 = .ok (.iconst 0, 1) := by decide +kernel
theorem dX11_tables_82 : decode cX11_tables 82 = .ok (.iconst 0, 1) := by decide +kernel
theorem dX11_tables_83 : decode cX11_tables 83 = .ok (.invokevirtual 93, 3) := by decide +kernel
theorem dX11_tables_86 : decode cX11_tables 86 = .ok (.aload_n 0, 1) := by decide +kernel
theorem dX11_tables_87 : decode cX11_tables 87 = .ok (.getfield 10, 3) := by decide +kernel
theorem dX11_tables_90 : decode cX11_tables 90 = .ok (.invokevirtual 97, 3) := by decide +kernel
theorem dX11_tables_93 : decode cX11_tables 93 = .ok (.invokevirtual 139, 3) := by decide +kernel
theorem dX11_tables_96 : decode cX11_tables 96 = .ok (.aload_n 0, 1) := by decide +kernel
theorem dX11_tables_97 : decode cX11_tables 97 = .ok (.getfield 58, 3) := by decide +kernel
theorem dX11_tables_100 : decode cX11_tables 100 = .ok (.iconst 0, 1) := by decide +kernel
theorem dX11_tables_101 : decode cX11_tables 101 = .ok (.invokevirtual 142, 3) := by decide +kernel
theorem dX11_tables_104 : decode cX11_tables 104 = .ok (.aload_n 0, 1) := by decide +kernel
theorem dX11_tables_105 : decode cX11_tables 105 = .ok (.getfield 37, 3) := by decide +kernel
theorem dX11_tables_108 : decode cX11_tables 108 = .ok (.getfield 146, 3) := by decide +kernel
theorem dX11_tables_111 : decode cX11_tables 111 = .ok (.aload_n 0, 1) := by decide +kernel
theorem dX11_tables_112 : decode cX11_tables 112 = .ok (.getfield 37, 3) := by decide +kernel
theorem dX11_tables_115 : decode cX11_tables 115 = .ok (.getfield 150, 3) := by decide +kernel
theorem dX11_tables_118 : decode cX11_tables 118 = .ok (.invokevirtual 153, 3) := by decide +kernel
theorem dX11_tables_121 : decode cX11_tables 121 = .ok (.aload_n 0, 1) := by decide +kernel
theorem dX11_tables_122 : decode cX11_tables 122 = .ok (.getfield 58, 3) := by decide +kernel
theorem dX11_tables_125 : decode cX11_tables 125 = .ok (.iconst 1, 1) := by decide +kernel
theorem dX11_tables_126 : decode cX11_tables 126 = .ok (.invokevirtual 142, 3) := by decide +kernel
theorem dX11_tables_129 : decode cX11_tables 129 = .ok (.aload_n 0, 1) := by decide +kernel
theorem dX11_tables_130 : decode cX11_tables 130 = .ok (.getfield 37, 3) := by decide +kernel
theorem dX11_tables_133 : decode cX11_tables 133 = .ok (.getfield 159, 3) := by decide +kernel
theorem dX11_tables_136 : decode cX11_tables 136 = .ok (.aload_n 0, 1) := by decide +kernel
theorem dX11_tables_137 : decode cX11_tables 137 = .ok (.getfield 37, 3) := by decide +kernel
theorem dX11_tables_140 : decode cX11_tables 140 = .ok (.getfield 150, 3) := by decide +kernel
theorem dX11_tables_143 : decode cX11_tables 143 = .ok (.invokevirtual 153, 3) := by decide +kernel
theorem dX11_tables_146 : decode cX11_tables 146 = .ok (.aload_n 0, 1) := by decide +kernel
theorem dX11_tables_147 : decode cX11_tables 147 = .ok (.getfield 58, 3) := by decide +kernel
theorem dX11_tables_150 : decode cX11_tables 150 = .ok (.iconst 2, 1) := by decide +kernel
theorem dX11_tables_151 : decode cX11_tables 151 = .ok (.invokevirtual 142, 3) := by decide +kernel
theorem dX11_tables_154 : decode cX11_tables 154 = .ok (.aload_n 0, 1) := by decide +kernel
theorem dX11_tables_155 : decode cX11_tables 155 = .ok (.getfield 37, 3) := by decide +kernel
theorem dX11_tables_158 : decode cX11_tables 158 = .ok (.getfield 162, 3) := by decide +kernel
theorem dX11_tables_161 : decode cX11_tables 161 = .ok (.aload_n 0, 1) := by decide +kernel
theorem dX11_tables_162 : decode cX11_tables 162 = .ok (.getfield 37, 3) := by decide +kernel
theorem dX11_tables_165 : decode cX11_tables 165 = .ok (.getfield 150, 3) := by decide +kernel
theorem dX11_tables_168 : decode cX11_tables 168 = .ok (.invokevirtual 153, 3) := by decide +kernel
theorem dX11_tables_171 : decode cX11_tables 171 = .ok (.aload_n 0, 1) := by decide +kernel
theorem dX11_tables_172 : decode cX11_tables 172 = .ok (.getfield 58, 3) := by decide +kernel
theorem dX11_tables_175 : decode cX11_tables 175 = .ok (.iconst 3, 1) := by decide +kernel
theorem dX11_tables_176 : decode cX11_tables 176 = .ok (.invokevirtual 142, 3) := by decide +kernel
theorem dX11_tables_179 : decode cX11_tables 179 = .ok (.aload_n 0, 1) := by decide +kernel
theorem dX11_tables_180 : decode cX11_tables 180 = .ok (.getfield 37, 3) := by decide +kernel
theorem dX11_tables_183 : decode cX11_tables 183 = .ok (.getfield 165, 3) := by decide +kernel
theorem dX11_tables_186 : decode cX11_tables 186 = .ok (.aload_n 0, 1) := by decide +kernel
theorem dX11_tables_187 : decode cX11_tables 187 = .ok (.getfield 37, 3) := by decide +kernel
theorem dX11_tables_190 : decode cX11_tables 190 = .ok (.getfield 150, 3) := by decide +kernel
theorem dX11_tables_193 : decode cX11_tables 193 = .ok (.invokevirtual 153, 3) := by decide +kernel
theorem dX11_tables_196 : decode cX11_tables 196 = .ok (.iload_n 1, 1) := by decide +kernel
theorem dX11_tables_197 : decode cX11_tables 197 = .ok (.ireturn, 1) := by decide +kernel
theorem dX11_labels_0 : decode cX11_labels 0 = .ok (.iload_n 1, 1) := by decide +kernel
theorem dX11_labels_1 : decode cX11_labels 1 = .ok (.ifCond .eq 11, 3) := by decide +kernel
theorem dX11_labels_4 : decode cX11_labels 4 = .ok (.iload_n 1, 1) := by decide +kernel
theorem dX11_labels_5 : decode cX11_labels 5 = .ok (.iconst 1, 1) := by decide +kernel
theorem dX11_labels_6 : decode cX11_labels 6 = .ok (.if_icmp .eq 6, 3) := by decide +kernel
theorem dX11_labels_9 : decode cX11_labels 9 = .ok (.ldc 168, 2) := by decide +kernel
theorem dX11_labels_11 : decode cX11_labels 11 = .ok (.ireturn, 1) := by decide +kernel
theorem dX11_labels_12 : decode cX11_labels 12 = .ok (.aload_n 0, 1) := by decide +kernel
theorem dX11_labels_13 : decode cX11_labels 13 = .ok (.getfield 21, 3) := by decide +kernel
theorem dX11_labels_16 : decode cX11_labels 16 = .ok (.invokevirtual 169, 3) := by decide +kernel
theorem dX11_labels_19 : decode cX11_labels 19 = .ok (.istore_n 2, 1) := by decide +kernel
theorem dX11_labels_20 : decode cX11_labels 20 = .ok (.iload_n 2, 1) := by decide +kernel
theorem dX11_labels_21 : decode cX11_labels 21 = .ok (.aload_n 0, 1) := by decide +kernel
theorem dX11_labels_22 : decode cX11_labels 22 = .ok (.getfield 25, 3) := by decide +kernel
theorem dX11_labels_25 : decode cX11_labels 25 = .ok (.invokevirtual 169, 3) := by decide +kernel
theorem dX11_labels_28 : decode cX11_labels 28 = .ok (.iadd, 1) := by decide +kernel
theorem dX11_labels_29 : decode cX11_labels 29 = .ok (.istore_n 3, 1) := by decide +kernel
theorem dX11_labels_30 : decode cX11_labels 30 = .ok (.iload_n 2, 1) := by decide +kernel
theorem dX11_labels_31 : decode cX11_labels 31 = .ok (.ifCond .eq 8, 3) := by decide +kernel
theorem dX11_labels_34 : decode cX11_labels 34 = .ok (.iload_n 2, 1) := by decide +kernel
theorem dX11_labels_35 : decode cX11_labels 35 = .ok (.iload_n 3, 1) := by decide +kernel
theorem dX11_labels_36 : decode cX11_labels 36 = .ok (.if_icmp .ne 6, 3) := by decide +kernel
theorem dX11_labels_39 : decode cX11_labels 39 = .ok (.ldc 172, 2) := by decide +kernel
theorem dX11_labels_41 : decode cX11_labels 41 = .ok (.ireturn, 1) := by decide +kernel
theorem dX11_labels_42 : decode cX11_labels 42 = .ok (.aload_n 0, 1) := by decide +kernel
theorem dX11_labels_43 : decode cX11_labels 43 = .ok (.getfield 51, 3) := by decide +kernel
theorem dX11_labels_46 : decode cX11_labels 46 = .ok (.iload_n 2, 1) := by decide +kernel
theorem dX11_labels_47 : decode cX11_labels 47 = .ok (.iload_n 3, 1) := by decide +kernel
theorem dX11_labels_48 : decode cX11_labels 48 = .ok (.invokevirtual 173, 3) := by decide +kernel
theorem dX11_labels_51 : decode cX11_labels 51 = .ok (.aload_n 0, 1) := by decide +kernel
theorem dX11_labels_52 : decode cX11_labels 52 = .ok (.aload_n 0, 1) := by decide +kernel
theorem dX11_labels_53 : decode cX11_labels 53 = .ok (.getfield 21, 3) := by decide +kernel
theorem dX11_labels_56 : decode cX11_labels 56 = .ok (.iload_n 1, 1) := by decide +kernel
theorem dX11_labels_57 : decode cX11_labels 57 = .ok (.invokevirtual 176, 3) := by decide +kernel
theorem dX11_labels_60 : decode cX11_labels 60 = .ok (.istore 4, 2) := by decide +kernel
theorem dX11_labels_62 : decode cX11_labels 62 = .ok (.iload 4, 2) := by decide +kernel
theorem dX11_labels_64 : decode cX11_labels 64 = .ok (.aload_n 0, 1) := by decide +kernel
theorem dX11_labels_65 : decode cX11_labels 65 = .ok (.aload_n 0, 1) := by decide +kernel
theorem dX11_labels_66 : decode cX11_labels 66 = .ok (.getfield 25, 3) := by decide +kernel
theorem dX11_labels_69 : decode cX11_labels 69 = .ok (.iload_n 1, 1) := by decide +kernel
theorem dX11_labels_70 : decode cX11_labels 70 = .ok (.invokevirtual 176, 3) := by decide +kernel
theorem dX11_labels_73 : decode cX11_labels 73 = .ok (.iadd, 1) := by decide +kernel
theorem dX11_labels_74 : decode cX11_labels 74 = .ok (.istore 5, 2) := by decide +kernel
theorem dX11_labels_76 : decode cX11_labels 76 = .ok (.aload_n 0, 1) := by decide +kernel
theorem dX11_labels_77 : decode cX11_labels 77 = .ok (.getfield 58, 3) := by decide +kernel
theorem dX11_labels_80 : decode cX11_labels 80 = .ok (.iconst 1, 1) := by decide +kernel
theorem dX11_labels_81 : decode cX11_labels 81 = .ok (.iload_n 1, 1) := by decide +kernel
theorem dX11_labels_82 : decode cX11_labels 82 = .ok (.iadd, 1) := by decide +kernel
theorem dX11_labels_83 : decode cX11_labels 83 = .ok (.iload 4, 2) := by decide +kernel
theorem dX11_labels_85 : decode cX11_labels 85 = .ok (.iload_n 3, 1) := by decide +kernel
theorem dX11_labels_86 : decode cX11_labels 86 = .ok (.invokevirtual 139, 3) := by decide +kernel
theorem dX11_labels_89 : decode cX11_labels 89 = .ok (.aload_n 0, 1) := by decide +kernel
theorem dX11_labels_90 : decode cX11_labels 90 = .ok (.iload 4, 2) := by decide +kernel
theorem dX11_labels_92 : decode cX11_labels 92 = .ok (.iload 5, 2) := by decide +kernel
theorem dX11_labels_94 : decode cX11_labels 94 = .ok (.iload_n 2, 1) := by decide +kernel
theorem dX11_labels_95 : decode cX11_labels 95 = .ok (.imul, 1) := by decide +kernel
theorem dX11_labels_96 : decode cX11_labels 96 = .ok (.iload_n 3, 1) := by decide +kernel
theorem dX11_labels_97 : decode cX11_labels 97 = .ok (.invokevirtual 180, 3) := by decide +kernel
theorem dX11_labels_100 : decode cX11_labels 100 = .ok (.iload 4, 2) := by decide +kernel
theorem dX11_labels_102 : decode cX11_labels 102 = .ok (.ireturn, 1) := by decide +kernel
theorem dX11_signs_0 : decode cX11_signs 0 = .ok (.iload_n 1, 1) := by decide +kernel
theorem dX11_signs_1 : decode cX11_signs 1 = .ok (.iconst 0, 1) := by decide +kernel
theorem dX11_signs_2 : decode cX11_signs 2 = .ok (.iconst 2, 1) := by decide +kernel
theorem dX11_signs_3 : decode cX11_signs 3 = .ok (.invokestatic 78, 3) := by decide +kernel
theorem dX11_signs_6 : decode cX11_signs 6 = .ok (.ifCond .ne 6, 3) := by decide +kernel
theorem dX11_signs_9 : decode cX11_signs 9 = .ok (.ldc 168, 2) := by decide +kernel
theorem dX11_signs_11 : decode cX11_signs 11 = .ok (.ireturn, 1) := by decide +kernel
theorem dX11_signs_12 : decode cX11_signs 12 = .ok (.aload_n 0, 1) := by decide +kernel
theorem dX11_signs_13 : decode cX11_signs 13 = .ok (.getfield 28, 3) := by decide +kernel
theorem dX11_signs_16 : decode cX11_signs 16 = .ok (.invokevirtual 169, 3) := by decide +kernel
theorem dX11_signs_19 : decode cX11_signs 19 = .ok (.aload_n 0, 1) := by decide +kernel
theorem dX11_signs_20 : decode cX11_signs 20 = .ok (.getfield 28, 3) := by decide +kernel
theorem dX11_signs_23 : decode cX11_signs 23 = .ok (.iconst 0, 1) := by decide +kernel
theorem dX11_signs_24 : decode cX11_signs 24 = .ok (.invokevirtual 183, 3) := by decide +kernel
theorem dX11_signs_27 : decode cX11_signs 27 = .ok (.isub, 1) := by decide +kernel
theorem dX11_signs_28 : decode cX11_signs 28 = .ok (.istore_n 2, 1) := by decide +kernel
theorem dX11_signs_29 : decode cX11_signs 29 = .ok (.iload_n 2, 1) := by decide +kernel
theorem dX11_signs_30 : decode cX11_signs 30 = .ok (.ifCond .ne 6, 3) := by decide +kernel
theorem dX11_signs_33 : decode cX11_signs 33 = .ok (.ldc 172, 2) := by decide +kernel
theorem dX11_signs_35 : decode cX11_signs 35 = .ok (.ireturn, 1) := by decide +kernel
theorem dX11_signs_36 : decode cX11_signs 36 = .ok (.aload_n 0, 1) := by decide +kernel
theorem dX11_signs_37 : decode cX11_signs 37 = .ok (.getfield 51, 3) := by decide +kernel
theorem dX11_signs_40 : decode cX11_signs 40 = .ok (.iload_n 2, 1) := by decide +kernel
theorem dX11_signs_41 : decode cX11_signs 41 = .ok (.invokevirtual 186, 3) := by decide +kernel
theorem dX11_signs_44 : decode cX11_signs 44 = .ok (.iconst 0, 1) := by decide +kernel
theorem dX11_signs_45 : decode cX11_signs 45 = .ok (.istore_n 3, 1) := by decide +kernel
theorem dX11_signs_46 : decode cX11_signs 46 = .ok (.iconst 0, 1) := by decide +kernel
theorem dX11_signs_47 : decode cX11_signs 47 = .ok (.istore 4, 2) := by decide +kernel
theorem dX11_signs_49 : decode cX11_signs 49 = .ok (.iconst 0, 1) := by decide +kernel
theorem dX11_signs_50 : decode cX11_signs 50 = .ok (.istore 5, 2) := by decide +kernel
theorem dX11_signs_52 : decode cX11_signs 52 = .ok (.iload 5, 2) := by decide +kernel
theorem dX11_signs_54 : decode cX11_signs 54 = .ok (.aload_n 0, 1) := by decide +kernel
theorem dX11_signs_55 : decode cX11_signs 55 = .ok (.getfield 28, 3) := by decide +kernel
theorem dX11_signs_58 : decode cX11_signs 58 = .ok (.invokevirtual 169, 3) := by decide +kernel
theorem dX11_signs_61 : decode cX11_signs 61 = .ok (.if_icmp .ge 67, 3) := by decide +kernel
theorem dX11_signs_64 : decode cX11_signs 64 = .ok (.aload_n 0, 1) := by decide +kernel
theorem dX11_signs_65 : decode cX11_signs 65 = .ok (.getfield 28, 3) := by decide +kernel
theorem dX11_signs_68 : decode cX11_signs 68 = .ok (.iload 5, 2) := by decide +kernel
theorem dX11_signs_70 : decode cX11_signs 70 = .ok (.invokevirtual 189, 3) := by decide +kernel
theorem dX11_signs_73 : decode cX11_signs 73 = .ok (.istore 6, 2) := by decide +kernel
theorem dX11_signs_75 : decode cX11_signs 75 = .ok (.iload 6, 2) := by decide +kernel
theorem dX11_signs_77 : decode cX11_signs 77 = .ok (.ifCond .eq 45, 3) := by decide +kernel
theorem dX11_signs_80 : decode cX11_signs 80 = .ok (.aload_n 0, 1) := by decide +kernel
theorem dX11_signs_81 : decode cX11_signs 81 = .ok (.iload 6, 2) := by decide +kernel
theorem dX11_signs_83 : decode cX11_signs 83 = .ok (.invokestatic 192, 3) := by decide +kernel
theorem dX11_signs_86 : decode cX11_signs 86 = .ok (.iload_n 1, 1) := by decide +kernel
theorem dX11_signs_87 : decode cX11_signs 87 = .ok (.invokevirtual 197, 3) := by decide +kernel
theorem dX11_signs_90 : decode cX11_signs 90 = .ok (.istore 7, 2) := by decide +kernel
theorem dX11_signs_92 : decode cX11_signs 92 = .ok (.aload_n 0, 1) := by decide +kernel
theorem dX11_signs_93 : decode cX11_signs 93 = .ok (.getfield 51, 3) := by decide +kernel
theorem dX11_signs_96 : decode cX11_signs 96 = .ok (.iload 7, 2) := by decide +kernel
theorem dX11_signs_98 : decode cX11_signs 98 = .ok (.invokevirtual 200, 3) := by decide +kernel
theorem dX11_signs_101 : decode cX11_signs 101 = .ok (.iload 4, 2) := by decide +kernel
theorem dX11_signs_103 : decode cX11_signs 103 = .ok (.iload 7, 2) := by decide +kernel
theorem dX11_signs_105 : decode cX11_signs 105 = .ok (.iadd, 1) := by decide +kernel
theorem dX11_signs_106 : decode cX11_signs 106 = .ok (.istore 4, 2) := by decide +kernel
theorem dX11_signs_108 : decode cX11_signs 108 = .ok (.iload_n 3, 1) := by decide +kernel
theorem dX11_signs_109 : decode cX11_signs 109 = .ok (.iload 6, 2) := by decide +kernel
theorem dX11_signs_111 : decode cX11_signs 111 = .ok (.ifCond .le 8, 3) := by decide +kernel
theorem dX11_signs_114 : decode cX11_signs 114 = .ok (.iload 7, 2) := by decide +kernel
theorem dX11_signs_116 : decode cX11_signs 116 = .ok (.goto 4, 3) := by decide +kernel
theorem dX11_signs_119 : decode cX11_signs 119 = .ok (.iconst 0, 1) := by decide +kernel
theorem dX11_signs_120 : decode cX11_signs 120 = .ok (.iadd, 1) := by decide +kernel
theorem dX11_signs_121 : decode cX11_signs 121 = .ok (.istore_n 3, 1) := by decide +kernel
theorem dX11_signs_122 : decode cX11_signs 122 = .ok (.iinc 5 1, 3) := by decide +kernel
theorem dX11_signs_125 : decode cX11_signs 125 = .ok (.goto (-73), 3) := by decide +kernel
theorem dX11_signs_128 : decode cX11_signs 128 = .ok (.aload_n 0, 1) := by decide +kernel
theorem dX11_signs_129 : decode cX11_signs 129 = .ok (.getfield 58, 3) := by decide +kernel
theorem dX11_signs_132 : decode cX11_signs 132 = .ok (.iconst 3, 1) := by decide +kernel
theorem dX11_signs_133 : decode cX11_signs 133 = .ok (.iload_n 1, 1) := by decide +kernel
theorem dX11_signs_134 : decode cX11_signs 134 = .ok (.iadd, 1) := by decide +kernel
theorem dX11_signs_135 : decode cX11_signs 135 = .ok (.iload_n 3, 1) := by decide +kernel
theorem dX11_signs_136 : decode cX11_signs 136 = .ok (.iload_n 2, 1) := by decide +kernel
theorem dX11_signs_137 : decode cX11_signs 137 = .ok (.invokevirtual 139, 3) := by decide +kernel
theorem dX11_signs_140 : decode cX11_signs 140 = .ok (.aload_n 0, 1) := by decide +kernel
theorem dX11_signs_141 : decode cX11_signs 141 = .ok (.iload_n 3, 1) := by decide +kernel
theorem dX11_signs_142 : decode cX11_signs 142 = .ok (.iload 4, 2) := by decide +kernel
theorem dX11_signs_144 : decode cX11_signs 144 = .ok (.iconst 2, 1) := by decide +kernel
theorem dX11_signs_145 : decode cX11_signs 145 = .ok (.invokevirtual 180, 3) := by decide +kernel
theorem dX11_signs_148 : decode cX11_signs 148 = .ok (.iload_n 3, 1) := by decide +kernel
theorem dX11_signs_149 : decode cX11_signs 149 = .ok (.ireturn, 1) := by decide +kernel
theorem dX11_rank_0 : decode cX11_rank 0 = .ok (.iload_n 1, 1) := by decide +kernel
theorem dX11_rank_1 : decode cX11_rank 1 = .ok (.iconst 2, 1) := by decide +kernel
theorem dX11_rank_2 : decode cX11_rank 2 = .ok (.if_icmp .ne 34, 3) := by decide +kernel
theorem dX11_rank_5 : decode cX11_rank 5 = .ok (.aload_n 0, 1) := by decide +kernel
theorem dX11_rank_6 : decode cX11_rank 6 = .ok (.getfield 28, 3) := by decide +kernel
theorem dX11_rank_9 : decode cX11_rank 9 = .ok (.iload_n 2, 1) := by decide +kernel
theorem dX11_rank_10 : decode cX11_rank 10 = .ok (.invokevirtual 203, 3) := by decide +kernel
theorem dX11_rank_13 : decode cX11_rank 13 = .ok (.ifCond .eq 21, 3) := by decide +kernel
theorem dX11_rank_16 : decode cX11_rank 16 = .ok (.aload_n 0, 1) := by decide +kernel
theorem dX11_rank_17 : decode cX11_rank 17 = .ok (.aload_n 0, 1) := by decide +kernel
theorem dX11_rank_18 : decode cX11_rank 18 = .ok (.getfield 28, 3) := by decide +kernel
theorem dX11_rank_21 : decode cX11_rank 21 = .ok (.iload_n 2, 1) := by decide +kernel
theorem dX11_rank_22 : decode cX11_rank 22 = .ok (.invokevirtual 189, 3) := by decide +kernel
theorem dX11_rank_25 : decode cX11_rank 25 = .ok (.invokestatic 192, 3) := by decide +kernel
theorem dX11_rank_28 : decode cX11_rank 28 = .ok (.invokevirtual 206, 3) := by decide +kernel
theorem dX11_rank_31 : decode cX11_rank 31 = .ok (.goto 4, 3) := by decide +kernel
theorem dX11_rank_34 : decode cX11_rank 34 = .ok (.iconst (-1), 1) := by decide +kernel
theorem dX11_rank_35 : decode cX11_rank 35 = .ok (.ireturn, 1) := by decide +kernel
theorem dX11_rank_36 : decode cX11_rank 36 = .ok (.iload_n 1, 1) := by decide +kernel
theorem dX11_rank_37 : decode cX11_rank 37 = .ok (.ifCond .eq 10, 3) := by decide +kernel
theorem dX11_rank_40 : decode cX11_rank 40 = .ok (.iload_n 1, 1) := by decide +kernel
theorem dX11_rank_41 : decode cX11_rank 41 = .ok (.iconst 1, 1) := by decide +kernel
theorem dX11_rank_42 : decode cX11_rank 42 = .ok (.if_icmp .eq 5, 3) := by decide +kernel
theorem dX11_rank_45 : decode cX11_rank 45 = .ok (.iconst (-1), 1) := by decide +kernel
theorem dX11_rank_46 : decode cX11_rank 46 = .ok (.ireturn, 1) := by decide +kernel
theorem dX11_rank_47 : decode cX11_rank 47 = .ok (.iload_n 1, 1) := by decide +kernel
theorem dX11_rank_48 : decode cX11_rank 48 = .ok (.ifCond .ne 10, 3) := by decide +kernel
theorem dX11_rank_51 : decode cX11_rank 51 = .ok (.aload_n 0, 1) := by decide +kernel
theorem dX11_rank_52 : decode cX11_rank 52 = .ok (.getfield 21, 3) := by decide +kernel
theorem dX11_rank_55 : decode cX11_rank 55 = .ok (.goto 7, 3) := by decide +kernel
theorem dX11_rank_58 : decode cX11_rank 58 = .ok (.aload_n 0, 1) := by decide +kernel
theorem dX11_rank_59 : decode cX11_rank 59 = .ok (.getfield 25, 3) := by decide +kernel
theorem dX11_rank_62 : decode cX11_rank 62 = .ok (.astore_n 3, 1) := by decide +kernel
theorem dX11_rank_63 : decode cX11_rank 63 = .ok (.aload_n 3, 1) := by decide +kernel
theorem dX11_rank_64 : decode cX11_rank 64 = .ok (.iload_n 2, 1) := by decide +kernel
theorem dX11_rank_65 : decode cX11_rank 65 = .ok (.invokevirtual 203, 3) := by decide +kernel
theorem dX11_rank_68 : decode cX11_rank 68 = .ok (.ifCond .eq 15, 3) := by decide +kernel
theorem dX11_rank_71 : decode cX11_rank 71 = .ok (.aload_n 0, 1) := by decide +kernel
theorem dX11_rank_72 : decode cX11_rank 72 = .ok (.aload_n 3, 1) := by decide +kernel
theorem dX11_rank_73 : decode cX11_rank 73 = .ok (.iload_n 2, 1) := by decide +kernel
theorem dX11_rank_74 : decode cX11_rank 74 = .ok (.invokevirtual 189, 3) := by decide +kernel
theorem dX11_rank_77 : decode cX11_rank 77 = .ok (.invokevirtual 209, 3) := by decide +kernel
theorem dX11_rank_80 : decode cX11_rank 80 = .ok (.goto 4, 3) := by decide +kernel
theorem dX11_rank_83 : decode cX11_rank 83 = .ok (.iconst (-1), 1) := by decide +kernel
theorem dX11_rank_84 : decode cX11_rank 84 = .ok (.ireturn, 1) := by decide +kernel
theorem dX11_caseAt_0 : decode cX11_caseAt 0 = .ok (.aload_n 0, 1) := by decide +kernel
theorem dX11_caseAt_1 : decode cX11_caseAt 1 = .ok (.getfield 44, 3) := by decide +kernel
theorem dX11_caseAt_4 : decode cX11_caseAt 4 = .ok (.invokevirtual 212, 3) := by decide +kernel
theorem dX11_caseAt_7 : decode cX11_caseAt 7 = .ok (.ifCond .ne 6, 3) := by decide +kernel
theorem dX11_caseAt_10 : decode cX11_caseAt 10 = .ok (.bipush (-3), 2) := by decide +kernel
theorem dX11_caseAt_12 : decode cX11_caseAt 12 = .ok (.ireturn, 1) := by decide +kernel
theorem dX11_caseAt_13 : decode cX11_caseAt 13 = .ok (.aload_n 0, 1) := by decide +kernel
theorem dX11_caseAt_14 : decode cX11_caseAt 14 = .ok (.getfield 44, 3) := by decide +kernel
theorem dX11_caseAt_17 : decode cX11_caseAt 17 = .ok (.iload_n 1, 1) := by decide +kernel
theorem dX11_caseAt_18 : decode cX11_caseAt 18 = .ok (.invokevirtual 215, 3) := by decide +kernel
theorem dX11_caseAt_21 : decode cX11_caseAt 21 = .ok (.ifCond .eq 15, 3) := by decide +kernel
theorem dX11_caseAt_24 : decode cX11_caseAt 24 = .ok (.aload_n 0, 1) := by decide +kernel
theorem dX11_caseAt_25 : decode cX11_caseAt 25 = .ok (.getfield 44, 3) := by decide +kernel
theorem dX11_caseAt_28 : decode cX11_caseAt 28 = .ok (.iload_n 2, 1) := by decide +kernel
theorem dX11_caseAt_29 : decode cX11_caseAt 29 = .ok (.iload_n 3, 1) := by decide +kernel
theorem dX11_caseAt_30 : decode cX11_caseAt 30 = .ok (.invokevirtual 216, 3) := by decide +kernel
theorem dX11_caseAt_33 : decode cX11_caseAt 33 = .ok (.ifCond .ne 5, 3) := by decide +kernel
theorem dX11_caseAt_36 : decode cX11_caseAt 36 = .ok (.iconst (-1), 1) := by decide +kernel
theorem dX11_caseAt_37 : decode cX11_caseAt 37 = .ok (.ireturn, 1) := by decide +kernel
theorem dX11_caseAt_38 : decode cX11_caseAt 38 = .ok (.aload_n 0, 1) := by decide +kernel
theorem dX11_caseAt_39 : decode cX11_caseAt 39 = .ok (.getfield 44, 3) := by decide +kernel
theorem dX11_caseAt_42 : decode cX11_caseAt 42 = .ok (.iload_n 1, 1) := by decide +kernel
theorem dX11_caseAt_43 : decode cX11_caseAt 43 = .ok (.iload_n 2, 1) := by decide +kernel
theorem dX11_caseAt_44 : decode cX11_caseAt 44 = .ok (.iload_n 3, 1) := by decide +kernel
theorem dX11_caseAt_45 : decode cX11_caseAt 45 = .ok (.invokevirtual 220, 3) := by decide +kernel
theorem dX11_caseAt_48 : decode cX11_caseAt 48 = .ok (.ireturn, 1) := by decide +kernel
theorem dX11_weighs_0 : decode cX11_weighs 0 = .ok (.aload_n 0, 1) := by decide +kernel
theorem dX11_weighs_1 : decode cX11_weighs 1 = .ok (.getfield 44, 3) := by decide +kernel
theorem dX11_weighs_4 : decode cX11_weighs 4 = .ok (.invokevirtual 212, 3) := by decide +kernel
theorem dX11_weighs_7 : decode cX11_weighs 7 = .ok (.ifCond .ne 6, 3) := by decide +kernel
theorem dX11_weighs_10 : decode cX11_weighs 10 = .ok (.bipush (-30), 2) := by decide +kernel
theorem dX11_weighs_12 : decode cX11_weighs 12 = .ok (.ireturn, 1) := by decide +kernel
theorem dX11_weighs_13 : decode cX11_weighs 13 = .ok (.aload_n 0, 1) := by decide +kernel
theorem dX11_weighs_14 : decode cX11_weighs 14 = .ok (.getfield 44, 3) := by decide +kernel
theorem dX11_weighs_17 : decode cX11_weighs 17 = .ok (.iload_n 1, 1) := by decide +kernel
theorem dX11_weighs_18 : decode cX11_weighs 18 = .ok (.invokevirtual 215, 3) := by decide +kernel
theorem dX11_weighs_21 : decode cX11_weighs 21 = .ok (.ifCond .eq 14, 3) := by decide +kernel
theorem dX11_weighs_24 : decode cX11_weighs 24 = .ok (.aload_n 0, 1) := by decide +kernel
theorem dX11_weighs_25 : decode cX11_weighs 25 = .ok (.getfield 44, 3) := by decide +kernel
theorem dX11_weighs_28 : decode cX11_weighs 28 = .ok (.iload_n 1, 1) := by decide +kernel
theorem dX11_weighs_29 : decode cX11_weighs 29 = .ok (.invokevirtual 224, 3) := by decide +kernel
theorem dX11_weighs_32 : decode cX11_weighs 32 = .ok (.goto 5, 3) := by decide +kernel
theorem dX11_weighs_35 : decode cX11_weighs 35 = .ok (.bipush (-10), 2) := by decide +kernel
theorem dX11_weighs_37 : decode cX11_weighs 37 = .ok (.ireturn, 1) := by decide +kernel
theorem dX11_bits_0 : decode cX11_bits 0 = .ok (.aload_n 0, 1) := by decide +kernel
theorem dX11_bits_1 : decode cX11_bits 1 = .ok (.iload_n 1, 1) := by decide +kernel
theorem dX11_bits_2 : decode cX11_bits 2 = .ok (.invokevirtual 227, 3) := by decide +kernel
theorem dX11_bits_5 : decode cX11_bits 5 = .ok (.istore_n 3, 1) := by decide +kernel
theorem dX11_bits_6 : decode cX11_bits 6 = .ok (.iload_n 3, 1) := by decide +kernel
theorem dX11_bits_7 : decode cX11_bits 7 = .ok (.ifCond .eq 5, 3) := by decide +kernel
theorem dX11_bits_10 : decode cX11_bits 10 = .ok (.iload_n 3, 1) := by decide +kernel
theorem dX11_bits_11 : decode cX11_bits 11 = .ok (.ireturn, 1) := by decide +kernel
theorem dX11_bits_12 : decode cX11_bits 12 = .ok (.iload_n 2, 1) := by decide +kernel
theorem dX11_bits_13 : decode cX11_bits 13 = .ok (.ifCond .eq 11, 3) := by decide +kernel
theorem dX11_bits_16 : decode cX11_bits 16 = .ok (.iload_n 2, 1) := by decide +kernel
theorem dX11_bits_17 : decode cX11_bits 17 = .ok (.iconst 1, 1) := by decide +kernel
theorem dX11_bits_18 : decode cX11_bits 18 = .ok (.if_icmp .eq 6, 3) := by decide +kernel
theorem dX11_bits_21 : decode cX11_bits 21 = .ok (.bipush (-2), 2) := by decide +kernel
theorem dX11_bits_23 : decode cX11_bits 23 = .ok (.ireturn, 1) := by decide +kernel
theorem dX11_bits_24 : decode cX11_bits 24 = .ok (.aload_n 0, 1) := by decide +kernel
theorem dX11_bits_25 : decode cX11_bits 25 = .ok (.getfield 58, 3) := by decide +kernel
theorem dX11_bits_28 : decode cX11_bits 28 = .ok (.iload_n 1, 1) := by decide +kernel
theorem dX11_bits_29 : decode cX11_bits 29 = .ok (.invokevirtual 142, 3) := by decide +kernel
theorem dX11_bits_32 : decode cX11_bits 32 = .ok (.iload_n 2, 1) := by decide +kernel
theorem dX11_bits_33 : decode cX11_bits 33 = .ok (.invokevirtual 230, 3) := by decide +kernel
theorem dX11_bits_36 : decode cX11_bits 36 = .ok (.invokevirtual 234, 3) := by decide +kernel
theorem dX11_bits_39 : decode cX11_bits 39 = .ok (.ireturn, 1) := by decide +kernel
theorem dX11_word_0 : decode cX11_word 0 = .ok (.aload_n 0, 1) := by decide +kernel
theorem dX11_word_1 : decode cX11_word 1 = .ok (.iload_n 1, 1) := by decide +kernel
theorem dX11_word_2 : decode cX11_word 2 = .ok (.invokevirtual 227, 3) := by decide +kernel
theorem dX11_word_5 : decode cX11_word 5 = .ok (.istore 4, 2) := by decide +kernel
theorem dX11_word_7 : decode cX11_word 7 = .ok (.iload 4, 2) := by decide +kernel
theorem dX11_word_9 : decode cX11_word 9 = .ok (.ifCond .eq 6, 3) := by decide +kernel
theorem dX11_word_12 : decode cX11_word 12 = .ok (.iload 4, 2) := by decide +kernel
theorem dX11_word_14 : decode cX11_word 14 = .ok (.ireturn, 1) := by decide +kernel
theorem dX11_word_15 : decode cX11_word 15 = .ok (.iload_n 2, 1) := by decide +kernel
theorem dX11_word_16 : decode cX11_word 16 = .ok (.ifCond .eq 8, 3) := by decide +kernel
theorem dX11_word_19 : decode cX11_word 19 = .ok (.iload_n 2, 1) := by decide +kernel
theorem dX11_word_20 : decode cX11_word 20 = .ok (.iconst 1, 1) := by decide +kernel
theorem dX11_word_21 : decode cX11_word 21 = .ok (.if_icmp .ne 7, 3) := by decide +kernel
theorem dX11_word_24 : decode cX11_word 24 = .ok (.iload_n 3, 1) := by decide +kernel
theorem dX11_word_25 : decode cX11_word 25 = .ok (.ifCond .ge 6, 3) := by decide +kernel
theorem dX11_word_28 : decode cX11_word 28 = .ok (.bipush (-2), 2) := by decide +kernel
theorem dX11_word_30 : decode cX11_word 30 = .ok (.ireturn, 1) := by decide +kernel
theorem dX11_word_31 : decode cX11_word 31 = .ok (.aload_n 0, 1) := by decide +kernel
theorem dX11_word_32 : decode cX11_word 32 = .ok (.getfield 58, 3) := by decide +kernel
theorem dX11_word_35 : decode cX11_word 35 = .ok (.iload_n 1, 1) := by decide +kernel
theorem dX11_word_36 : decode cX11_word 36 = .ok (.invokevirtual 142, 3) := by decide +kernel
theorem dX11_word_39 : decode cX11_word 39 = .ok (.iload_n 2, 1) := by decide +kernel
theorem dX11_word_40 : decode cX11_word 40 = .ok (.invokevirtual 230, 3) := by decide +kernel
theorem dX11_word_43 : decode cX11_word 43 = .ok (.iload_n 3, 1) := by decide +kernel
theorem dX11_word_44 : decode cX11_word 44 = .ok (.invokevirtual 239, 3) := by decide +kernel
theorem dX11_word_47 : decode cX11_word 47 = .ok (.ireturn, 1) := by decide +kernel
theorem dX11_figure_0 : decode cX11_figure 0 = .ok (.aload_n 0, 1) := by decide +kernel
theorem dX11_figure_1 : decode cX11_figure 1 = .ok (.iload_n 1, 1) := by decide +kernel
theorem dX11_figure_2 : decode cX11_figure 2 = .ok (.invokevirtual 227, 3) := by decide +kernel
theorem dX11_figure_5 : decode cX11_figure 5 = .ok (.istore_n 3, 1) := by decide +kernel
theorem dX11_figure_6 : decode cX11_figure 6 = .ok (.iload_n 3, 1) := by decide +kernel
theorem dX11_figure_7 : decode cX11_figure 7 = .ok (.ifCond .eq 5, 3) := by decide +kernel
theorem dX11_figure_10 : decode cX11_figure 10 = .ok (.iload_n 3, 1) := by decide +kernel
theorem dX11_figure_11 : decode cX11_figure 11 = .ok (.ireturn, 1) := by decide +kernel
theorem dX11_figure_12 : decode cX11_figure 12 = .ok (.iload_n 2, 1) := by decide +kernel
theorem dX11_figure_13 : decode cX11_figure 13 = .ok (.iconst 0, 1) := by decide +kernel
theorem dX11_figure_14 : decode cX11_figure 14 = .ok (.bipush 60, 2) := by decide +kernel
theorem dX11_figure_16 : decode cX11_figure 16 = .ok (.invokestatic 78, 3) := by decide +kernel
theorem dX11_figure_19 : decode cX11_figure 19 = .ok (.ifCond .eq 22, 3) := by decide +kernel
theorem dX11_figure_22 : decode cX11_figure 22 = .ok (.aload_n 0, 1) := by decide +kernel
theorem dX11_figure_23 : decode cX11_figure 23 = .ok (.getfield 65, 3) := by decide +kernel
theorem dX11_figure_26 : decode cX11_figure 26 = .ok (.aload_n 0, 1) := by decide +kernel
theorem dX11_figure_27 : decode cX11_figure 27 = .ok (.getfield 58, 3) := by decide +kernel
theorem dX11_figure_30 : decode cX11_figure 30 = .ok (.iload_n 1, 1) := by decide +kernel
theorem dX11_figure_31 : decode cX11_figure 31 = .ok (.invokevirtual 142, 3) := by decide +kernel
theorem dX11_figure_34 : decode cX11_figure 34 = .ok (.iload_n 2, 1) := by decide +kernel
theorem dX11_figure_35 : decode cX11_figure 35 = .ok (.invokevirtual 242, 3) := by decide +kernel
theorem dX11_figure_38 : decode cX11_figure 38 = .ok (.goto 5, 3) := by decide +kernel
theorem dX11_figure_41 : decode cX11_figure 41 = .ok (.bipush (-2), 2) := by decide +kernel
theorem dX11_figure_43 : decode cX11_figure 43 = .ok (.ireturn, 1) := by decide +kernel
theorem dX11_against_0 : decode cX11_against 0 = .ok (.aload_n 0, 1) := by decide +kernel
theorem dX11_against_1 : decode cX11_against 1 = .ok (.iload_n 1, 1) := by decide +kernel
theorem dX11_against_2 : decode cX11_against 2 = .ok (.invokevirtual 227, 3) := by decide +kernel
theorem dX11_against_5 : decode cX11_against 5 = .ok (.istore 4, 2) := by decide +kernel
theorem dX11_against_7 : decode cX11_against 7 = .ok (.iload 4, 2) := by decide +kernel
theorem dX11_against_9 : decode cX11_against 9 = .ok (.ifCond .eq 9, 3) := by decide +kernel
theorem dX11_against_12 : decode cX11_against 12 = .ok (.bipush 10, 2) := by decide +kernel
theorem dX11_against_14 : decode cX11_against 14 = .ok (.iload 4, 2) := by decide +kernel
theorem dX11_against_16 : decode cX11_against 16 = .ok (.imul, 1) := by decide +kernel
theorem dX11_against_17 : decode cX11_against 17 = .ok (.ireturn, 1) := by decide +kernel
theorem dX11_against_18 : decode cX11_against 18 = .ok (.iload_n 2, 1) := by decide +kernel
theorem dX11_against_19 : decode cX11_against 19 = .ok (.iload_n 3, 1) := by decide +kernel
theorem dX11_against_20 : decode cX11_against 20 = .ok (.invokestatic 246, 3) := by decide +kernel
theorem dX11_against_23 : decode cX11_against 23 = .ok (.ifCond .eq 25, 3) := by decide +kernel
theorem dX11_against_26 : decode cX11_against 26 = .ok (.aload_n 0, 1) := by decide +kernel
theorem dX11_against_27 : decode cX11_against 27 = .ok (.getfield 65, 3) := by decide +kernel
theorem dX11_against_30 : decode cX11_against 30 = .ok (.aload_n 0, 1) := by decide +kernel
theorem dX11_against_31 : decode cX11_against 31 = .ok (.getfield 58, 3) := by decide +kernel
theorem dX11_against_34 : decode cX11_against 34 = .ok (.iload_n 1, 1) := by decide +kernel
theorem dX11_against_35 : decode cX11_against 35 = .ok (.invokevirtual 142, 3) := by decide +kernel
theorem dX11_against_38 : decode cX11_against 38 = .ok (.iload_n 2, 1) := by decide +kernel
theorem dX11_against_39 : decode cX11_against 39 = .ok (.i2l, 1) := by decide +kernel
theorem dX11_against_40 : decode cX11_against 40 = .ok (.iload_n 3, 1) := by decide +kernel
theorem dX11_against_41 : decode cX11_against 41 = .ok (.i2l, 1) := by decide +kernel
theorem dX11_against_42 : decode cX11_against 42 = .ok (.invokevirtual 249, 3) := by decide +kernel
theorem dX11_against_45 : decode cX11_against 45 = .ok (.goto 5, 3) := by decide +kernel
theorem dX11_against_48 : decode cX11_against 48 = .ok (.bipush (-20), 2) := by decide +kernel
theorem dX11_against_50 : decode cX11_against 50 = .ok (.ireturn, 1) := by decide +kernel
theorem dX11_result_0 : decode cX11_result 0 = .ok (.aload_n 0, 1) := by decide +kernel
theorem dX11_result_1 : decode cX11_result 1 = .ok (.getfield 58, 3) := by decide +kernel
theorem dX11_result_4 : decode cX11_result 4 = .ok (.invokevirtual 253, 3) := by decide +kernel
theorem dX11_result_7 : decode cX11_result 7 = .ok (.ifCond .ne 6, 3) := by decide +kernel
theorem dX11_result_10 : decode cX11_result 10 = .ok (.ldc 172, 2) := by decide +kernel
theorem dX11_result_12 : decode cX11_result 12 = .ok (.ireturn, 1) := by decide +kernel
theorem dX11_result_13 : decode cX11_result 13 = .ok (.iload_n 1, 1) := by decide +kernel
theorem dX11_result_14 : decode cX11_result 14 = .ok (.tableswitch 50 0 2 #[26, 34, 42], 26) := by decide +kernel
theorem dX11_result_40 : decode cX11_result 40 = .ok (.aload_n 0, 1) := by decide +kernel
theorem dX11_result_41 : decode cX11_result 41 = .ok (.getfield 58, 3) := by decide +kernel
theorem dX11_result_44 : decode cX11_result 44 = .ok (.invokevirtual 256, 3) := by decide +kernel
theorem dX11_result_47 : decode cX11_result 47 = .ok (.ireturn, 1) := by decide +kernel
theorem dX11_result_48 : decode cX11_result 48 = .ok (.aload_n 0, 1) := by decide +kernel
theorem dX11_result_49 : decode cX11_result 49 = .ok (.getfield 58, 3) := by decide +kernel
theorem dX11_result_52 : decode cX11_result 52 = .ok (.invokevirtual 259, 3) := by decide +kernel
theorem dX11_result_55 : decode cX11_result 55 = .ok (.ireturn, 1) := by decide +kernel
theorem dX11_result_56 : decode cX11_result 56 = .ok (.aload_n 0, 1) := by decide +kernel
theorem dX11_result_57 : decode cX11_result 57 = .ok (.getfield 58, 3) := by decide +kernel
theorem dX11_result_60 : decode cX11_result 60 = .ok (.invokevirtual 262, 3) := by decide +kernel
theorem dX11_result_63 : decode cX11_result 63 = .ok (.ireturn, 1) := by decide +kernel
theorem dX11_result_64 : decode cX11_result 64 = .ok (.ldc_w 265, 3) := by decide +kernel
theorem dX11_result_67 : decode cX11_result 67 = .ok (.ireturn, 1) := by decide +kernel
theorem dX11_ways_0 : decode cX11_ways 0 = .ok (.aload_n 0, 1) := by decide +kernel
theorem dX11_ways_1 : decode cX11_ways 1 = .ok (.getfield 58, 3) := by decide +kernel
theorem dX11_ways_4 : decode cX11_ways 4 = .ok (.invokevirtual 253, 3) := by decide +kernel
theorem dX11_ways_7 : decode cX11_ways 7 = .ok (.ifCond .eq 13, 3) := by decide +kernel
theorem dX11_ways_10 : decode cX11_ways 10 = .ok (.aload_n 0, 1) := by decide +kernel
theorem dX11_ways_11 : decode cX11_ways 11 = .ok (.getfield 58, 3) := by decide +kernel
theorem dX11_ways_14 : decode cX11_ways 14 = .ok (.invokevirtual 256, 3) := by decide +kernel
theorem dX11_ways_17 : decode cX11_ways 17 = .ok (.ifCond .ne 7, 3) := by decide +kernel
theorem dX11_ways_20 : decode cX11_ways 20 = .ok (.ldc2_w 266, 3) := by decide +kernel
theorem dX11_ways_23 : decode cX11_ways 23 = .ok (.lreturn, 1) := by decide +kernel
theorem dX11_ways_24 : decode cX11_ways 24 = .ok (.iload_n 1, 1) := by decide +kernel
theorem dX11_ways_25 : decode cX11_ways 25 = .ok (.ldc_w 268, 3) := by decide +kernel
theorem dX11_ways_28 : decode cX11_ways 28 = .ok (.ldc_w 269, 3) := by decide +kernel
theorem dX11_ways_31 : decode cX11_ways 31 = .ok (.invokestatic 78, 3) := by decide +kernel
theorem dX11_ways_34 : decode cX11_ways 34 = .ok (.ifCond .eq 14, 3) := by decide +kernel
theorem dX11_ways_37 : decode cX11_ways 37 = .ok (.aload_n 0, 1) := by decide +kernel
theorem dX11_ways_38 : decode cX11_ways 38 = .ok (.getfield 51, 3) := by decide +kernel
theorem dX11_ways_41 : decode cX11_ways 41 = .ok (.iload_n 1, 1) := by decide +kernel
theorem dX11_ways_42 : decode cX11_ways 42 = .ok (.invokevirtual 270, 3) := by decide +kernel
theorem dX11_ways_45 : decode cX11_ways 45 = .ok (.goto 4, 3) := by decide +kernel
theorem dX11_ways_48 : decode cX11_ways 48 = .ok (.lconst 0, 1) := by decide +kernel
theorem dX11_ways_49 : decode cX11_ways 49 = .ok (.lreturn, 1) := by decide +kernel
theorem dX11_note_0 : decode cX11_note 0 = .ok (.aload_n 0, 1) := by decide +kernel
theorem dX11_note_1 : decode cX11_note 1 = .ok (.iload_n 1, 1) := by decide +kernel
theorem dX11_note_2 : decode cX11_note 2 = .ok (.invokevirtual 227, 3) := by decide +kernel
theorem dX11_note_5 : decode cX11_note 5 = .ok (.istore_n 2, 1) := by decide +kernel
theorem dX11_note_6 : decode cX11_note 6 = .ok (.iload_n 2, 1) := by decide +kernel
theorem dX11_note_7 : decode cX11_note 7 = .ok (.ifCond .eq 5, 3) := by decide +kernel
theorem dX11_note_10 : decode cX11_note 10 = .ok (.iload_n 2, 1) := by decide +kernel
theorem dX11_note_11 : decode cX11_note 11 = .ok (.ireturn, 1) := by decide +kernel
theorem dX11_note_12 : decode cX11_note 12 = .ok (.aload_n 0, 1) := by decide +kernel
theorem dX11_note_13 : decode cX11_note 13 = .ok (.getfield 74, 3) := by decide +kernel
theorem dX11_note_16 : decode cX11_note 16 = .ok (.invokevirtual 274, 3) := by decide +kernel
theorem dX11_note_19 : decode cX11_note 19 = .ok (.ifCond .eq 8, 3) := by decide +kernel
theorem dX11_note_22 : decode cX11_note 22 = .ok (.bipush (-4), 2) := by decide +kernel
theorem dX11_note_24 : decode cX11_note 24 = .ok (.goto 18, 3) := by decide +kernel
theorem dX11_note_27 : decode cX11_note 27 = .ok (.aload_n 0, 1) := by decide +kernel
theorem dX11_note_28 : decode cX11_note 28 = .ok (.getfield 74, 3) := by decide +kernel
theorem dX11_note_31 : decode cX11_note 31 = .ok (.aload_n 0, 1) := by decide +kernel
theorem dX11_note_32 : decode cX11_note 32 = .ok (.getfield 58, 3) := by decide +kernel
theorem dX11_note_35 : decode cX11_note 35 = .ok (.iload_n 1, 1) := by decide +kernel
theorem dX11_note_36 : decode cX11_note 36 = .ok (.invokevirtual 142, 3) := by decide +kernel
theorem dX11_note_39 : decode cX11_note 39 = .ok (.invokevirtual 275, 3) := by decide +kernel
theorem dX11_note_42 : decode cX11_note 42 = .ok (.ireturn, 1) := by decide +kernel
theorem dX11_rejected_0 : decode cX11_rejected 0 = .ok (.iload_n 1, 1) := by decide +kernel
theorem dX11_rejected_1 : decode cX11_rejected 1 = .ok (.iload_n 2, 1) := by decide +kernel
theorem dX11_rejected_2 : decode cX11_rejected 2 = .ok (.invokestatic 246, 3) := by decide +kernel
theorem dX11_rejected_5 : decode cX11_rejected 5 = .ok (.ifCond .eq 15, 3) := by decide +kernel
theorem dX11_rejected_8 : decode cX11_rejected 8 = .ok (.aload_n 0, 1) := by decide +kernel
theorem dX11_rejected_9 : decode cX11_rejected 9 = .ok (.getfield 74, 3) := by decide +kernel
theorem dX11_rejected_12 : decode cX11_rejected 12 = .ok (.iload_n 1, 1) := by decide +kernel
theorem dX11_rejected_13 : decode cX11_rejected 13 = .ok (.iload_n 2, 1) := by decide +kernel
theorem dX11_rejected_14 : decode cX11_rejected 14 = .ok (.invokevirtual 278, 3) := by decide +kernel
theorem dX11_rejected_17 : decode cX11_rejected 17 = .ok (.goto 5, 3) := by decide +kernel
theorem dX11_rejected_20 : decode cX11_rejected 20 = .ok (.bipush (-2), 2) := by decide +kernel
theorem dX11_rejected_22 : decode cX11_rejected 22 = .ok (.ireturn, 1) := by decide +kernel
theorem dX11_isRejected_0 : decode cX11_isRejected 0 = .ok (.aload_n 0, 1) := by decide +kernel
theorem dX11_isRejected_1 : decode cX11_isRejected 1 = .ok (.getfield 74, 3) := by decide +kernel
theorem dX11_isRejected_4 : decode cX11_isRejected 4 = .ok (.iload_n 1, 1) := by decide +kernel
theorem dX11_isRejected_5 : decode cX11_isRejected 5 = .ok (.invokevirtual 281, 3) := by decide +kernel
theorem dX11_isRejected_8 : decode cX11_isRejected 8 = .ok (.ifCond .ne 5, 3) := by decide +kernel
theorem dX11_isRejected_11 : decode cX11_isRejected 11 = .ok (.iconst (-1), 1) := by decide +kernel
theorem dX11_isRejected_12 : decode cX11_isRejected 12 = .ok (.ireturn, 1) := by decide +kernel
theorem dX11_isRejected_13 : decode cX11_isRejected 13 = .ok (.iload_n 2, 1) := by decide +kernel
theorem dX11_isRejected_14 : decode cX11_isRejected 14 = .ok (.iload_n 3, 1) := by decide +kernel
theorem dX11_isRejected_15 : decode cX11_isRejected 15 = .ok (.invokestatic 246, 3) := by decide +kernel
theorem dX11_isRejected_18 : decode cX11_isRejected 18 = .ok (.ifCond .ne 6, 3) := by decide +kernel
theorem dX11_isRejected_21 : decode cX11_isRejected 21 = .ok (.bipush (-2), 2) := by decide +kernel
theorem dX11_isRejected_23 : decode cX11_isRejected 23 = .ok (.ireturn, 1) := by decide +kernel
theorem dX11_isRejected_24 : decode cX11_isRejected 24 = .ok (.aload_n 0, 1) := by decide +kernel
theorem dX11_isRejected_25 : decode cX11_isRejected 25 = .ok (.getfield 74, 3) := by decide +kernel
theorem dX11_isRejected_28 : decode cX11_isRejected 28 = .ok (.iload_n 1, 1) := by decide +kernel
theorem dX11_isRejected_29 : decode cX11_isRejected 29 = .ok (.invokevirtual 282, 3) := by decide +kernel
theorem dX11_isRejected_32 : decode cX11_isRejected 32 = .ok (.aload_n 0, 1) := by decide +kernel
theorem dX11_isRejected_33 : decode cX11_isRejected 33 = .ok (.getfield 74, 3) := by decide +kernel
theorem dX11_isRejected_36 : decode cX11_isRejected 36 = .ok (.iload_n 2, 1) := by decide +kernel
theorem dX11_isRejected_37 : decode cX11_isRejected 37 = .ok (.iload_n 3, 1) := by decide +kernel
theorem dX11_isRejected_38 : decode cX11_isRejected 38 = .ok (.invokevirtual 278, 3) := by decide +kernel
theorem dX11_isRejected_41 : decode cX11_isRejected 41 = .ok (.if_icmp .ge 7, 3) := by decide +kernel
theorem dX11_isRejected_44 : decode cX11_isRejected 44 = .ok (.iconst 1, 1) := by decide +kernel
theorem dX11_isRejected_45 : decode cX11_isRejected 45 = .ok (.goto 4, 3) := by decide +kernel
theorem dX11_isRejected_48 : decode cX11_isRejected 48 = .ok (.iconst 0, 1) := by decide +kernel
theorem dX11_isRejected_49 : decode cX11_isRejected 49 = .ok (.ireturn, 1) := by decide +kernel
theorem dX11_claim_0 : decode cX11_claim 0 = .ok (.iload_n 1, 1) := by decide +kernel
theorem dX11_claim_1 : decode cX11_claim 1 = .ok (.iconst 0, 1) := by decide +kernel
theorem dX11_claim_2 : decode cX11_claim 2 = .ok (.ldc_w 285, 3) := by decide +kernel
theorem dX11_claim_5 : decode cX11_claim 5 = .ok (.invokestatic 78, 3) := by decide +kernel
theorem dX11_claim_8 : decode cX11_claim 8 = .ok (.ifCond .ne 6, 3) := by decide +kernel
theorem dX11_claim_11 : decode cX11_claim 11 = .ok (.bipush (-2), 2) := by decide +kernel
theorem dX11_claim_13 : decode cX11_claim 13 = .ok (.ireturn, 1) := by decide +kernel
theorem dX11_claim_14 : decode cX11_claim 14 = .ok (.aload_n 0, 1) := by decide +kernel
theorem dX11_claim_15 : decode cX11_claim 15 = .ok (.getfield 31, 3) := by decide +kernel
theorem dX11_claim_18 : decode cX11_claim 18 = .ok (.invokevirtual 112, 3) := by decide +kernel
theorem dX11_claim_21 : decode cX11_claim 21 = .ok (.ifCond .eq 8, 3) := by decide +kernel
theorem dX11_claim_24 : decode cX11_claim 24 = .ok (.bipush (-4), 2) := by decide +kernel
theorem dX11_claim_26 : decode cX11_claim 26 = .ok (.goto 11, 3) := by decide +kernel
theorem dX11_claim_29 : decode cX11_claim 29 = .ok (.aload_n 0, 1) := by decide +kernel
theorem dX11_claim_30 : decode cX11_claim 30 = .ok (.getfield 31, 3) := by decide +kernel
theorem dX11_claim_33 : decode cX11_claim 33 = .ok (.iload_n 1, 1) := by decide +kernel
theorem dX11_claim_34 : decode cX11_claim 34 = .ok (.invokevirtual 116, 3) := by decide +kernel
theorem dX11_claim_37 : decode cX11_claim 37 = .ok (.ireturn, 1) := by decide +kernel
theorem dX11_check_0 : decode cX11_check 0 = .ok (.aload_n 0, 1) := by decide +kernel
theorem dX11_check_1 : decode cX11_check 1 = .ok (.iload_n 1, 1) := by decide +kernel
theorem dX11_check_2 : decode cX11_check 2 = .ok (.invokevirtual 227, 3) := by decide +kernel
theorem dX11_check_5 : decode cX11_check 5 = .ok (.istore_n 2, 1) := by decide +kernel
theorem dX11_check_6 : decode cX11_check 6 = .ok (.iload_n 2, 1) := by decide +kernel
theorem dX11_check_7 : decode cX11_check 7 = .ok (.ifCond .eq 8, 3) := by decide +kernel
theorem dX11_check_10 : decode cX11_check 10 = .ok (.bipush 10, 2) := by decide +kernel
theorem dX11_check_12 : decode cX11_check 12 = .ok (.iload_n 2, 1) := by decide +kernel
theorem dX11_check_13 : decode cX11_check 13 = .ok (.imul, 1) := by decide +kernel
theorem dX11_check_14 : decode cX11_check 14 = .ok (.ireturn, 1) := by decide +kernel
theorem dX11_check_15 : decode cX11_check 15 = .ok (.aload_n 0, 1) := by decide +kernel
theorem dX11_check_16 : decode cX11_check 16 = .ok (.getfield 58, 3) := by decide +kernel
theorem dX11_check_19 : decode cX11_check 19 = .ok (.iload_n 1, 1) := by decide +kernel
theorem dX11_check_20 : decode cX11_check 20 = .ok (.invokevirtual 142, 3) := by decide +kernel
theorem dX11_check_23 : decode cX11_check 23 = .ok (.astore_n 3, 1) := by decide +kernel
theorem dX11_check_24 : decode cX11_check 24 = .ok (.aload_n 3, 1) := by decide +kernel
theorem dX11_check_25 : decode cX11_check 25 = .ok (.invokevirtual 286, 3) := by decide +kernel
theorem dX11_check_28 : decode cX11_check 28 = .ok (.istore 4, 2) := by decide +kernel
theorem dX11_check_30 : decode cX11_check 30 = .ok (.iload 4, 2) := by decide +kernel
theorem dX11_check_32 : decode cX11_check 32 = .ok (.aload_n 0, 1) := by decide +kernel
theorem dX11_check_33 : decode cX11_check 33 = .ok (.getfield 31, 3) := by decide +kernel
theorem dX11_check_36 : decode cX11_check 36 = .ok (.invokevirtual 169, 3) := by decide +kernel
theorem dX11_check_39 : decode cX11_check 39 = .ok (.invokestatic 289, 3) := by decide +kernel
theorem dX11_check_42 : decode cX11_check 42 = .ok (.istore 5, 2) := by decide +kernel
theorem dX11_check_44 : decode cX11_check 44 = .ok (.iconst 0, 1) := by decide +kernel
theorem dX11_check_45 : decode cX11_check 45 = .ok (.istore 6, 2) := by decide +kernel
theorem dX11_check_47 : decode cX11_check 47 = .ok (.iload 6, 2) := by decide +kernel
theorem dX11_check_49 : decode cX11_check 49 = .ok (.iload 5, 2) := by decide +kernel
theorem dX11_check_51 : decode cX11_check 51 = .ok (.if_icmp .ge 33, 3) := by decide +kernel
theorem dX11_check_54 : decode cX11_check 54 = .ok (.aload_n 0, 1) := by decide +kernel
theorem dX11_check_55 : decode cX11_check 55 = .ok (.getfield 31, 3) := by decide +kernel
theorem dX11_check_58 : decode cX11_check 58 = .ok (.iload 6, 2) := by decide +kernel
theorem dX11_check_60 : decode cX11_check 60 = .ok (.invokevirtual 189, 3) := by decide +kernel
theorem dX11_check_63 : decode cX11_check 63 = .ok (.aload_n 3, 1) := by decide +kernel
theorem dX11_check_64 : decode cX11_check 64 = .ok (.iload 6, 2) := by decide +kernel
theorem dX11_check_66 : decode cX11_check 66 = .ok (.invokevirtual 292, 3) := by decide +kernel
theorem dX11_check_69 : decode cX11_check 69 = .ok (.if_icmp .eq 9, 3) := by decide +kernel
theorem dX11_check_72 : decode cX11_check 72 = .ok (.bipush (-100), 2) := by decide +kernel
theorem dX11_check_74 : decode cX11_check 74 = .ok (.iload 6, 2) := by decide +kernel
theorem dX11_check_76 : decode cX11_check 76 = .ok (.isub, 1) := by decide +kernel
theorem dX11_check_77 : decode cX11_check 77 = .ok (.ireturn, 1) := by decide +kernel
theorem dX11_check_78 : decode cX11_check 78 = .ok (.iinc 6 1, 3) := by decide +kernel
theorem dX11_check_81 : decode cX11_check 81 = .ok (.goto (-34), 3) := by decide +kernel
theorem dX11_check_84 : decode cX11_check 84 = .ok (.iload 4, 2) := by decide +kernel
theorem dX11_check_86 : decode cX11_check 86 = .ok (.aload_n 0, 1) := by decide +kernel
theorem dX11_check_87 : decode cX11_check 87 = .ok (.getfield 31, 3) := by decide +kernel
theorem dX11_check_90 : decode cX11_check 90 = .ok (.invokevirtual 169, 3) := by decide +kernel
theorem dX11_check_93 : decode cX11_check 93 = .ok (.if_icmp .ne 7, 3) := by decide +kernel
theorem dX11_check_96 : decode cX11_check 96 = .ok (.iconst 1, 1) := by decide +kernel
theorem dX11_check_97 : decode cX11_check 97 = .ok (.goto 8, 3) := by decide +kernel
theorem dX11_check_100 : decode cX11_check 100 = .ok (.bipush (-100), 2) := by decide +kernel
theorem dX11_check_102 : decode cX11_check 102 = .ok (.iload 5, 2) := by decide +kernel
theorem dX11_check_104 : decode cX11_check 104 = .ok (.isub, 1) := by decide +kernel
theorem dX11_check_105 : decode cX11_check 105 = .ok (.ireturn, 1) := by decide +kernel
theorem dX11_shift_0 : decode cX11_shift 0 = .ok (.aload_n 0, 1) := by decide +kernel
theorem dX11_shift_1 : decode cX11_shift 1 = .ok (.getfield 21, 3) := by decide +kernel
theorem dX11_shift_4 : decode cX11_shift 4 = .ok (.invokevirtual 169, 3) := by decide +kernel
theorem dX11_shift_7 : decode cX11_shift 7 = .ok (.aload_n 0, 1) := by decide +kernel
theorem dX11_shift_8 : decode cX11_shift 8 = .ok (.getfield 25, 3) := by decide +kernel
theorem dX11_shift_11 : decode cX11_shift 11 = .ok (.invokevirtual 169, 3) := by decide +kernel
theorem dX11_shift_14 : decode cX11_shift 14 = .ok (.imul, 1) := by decide +kernel
theorem dX11_shift_15 : decode cX11_shift 15 = .ok (.istore_n 1, 1) := by decide +kernel
theorem dX11_shift_16 : decode cX11_shift 16 = .ok (.iload_n 1, 1) := by decide +kernel
theorem dX11_shift_17 : decode cX11_shift 17 = .ok (.ifCond .ne 6, 3) := by decide +kernel
theorem dX11_shift_20 : decode cX11_shift 20 = .ok (.ldc 172, 2) := by decide +kernel
theorem dX11_shift_22 : decode cX11_shift 22 = .ok (.ireturn, 1) := by decide +kernel
theorem dX11_shift_23 : decode cX11_shift 23 = .ok (.aload_n 0, 1) := by decide +kernel
theorem dX11_shift_24 : decode cX11_shift 24 = .ok (.iload_n 1, 1) := by decide +kernel
theorem dX11_shift_25 : decode cX11_shift 25 = .ok (.iconst 1, 1) := by decide +kernel
theorem dX11_shift_26 : decode cX11_shift 26 = .ok (.iadd, 1) := by decide +kernel
theorem dX11_shift_27 : decode cX11_shift 27 = .ok (.iconst 2, 1) := by decide +kernel
theorem dX11_shift_28 : decode cX11_shift 28 = .ok (.idiv, 1) := by decide +kernel
theorem dX11_shift_29 : decode cX11_shift 29 = .ok (.invokevirtual 295, 3) := by decide +kernel
theorem dX11_shift_32 : decode cX11_shift 32 = .ok (.aload_n 0, 1) := by decide +kernel
theorem dX11_shift_33 : decode cX11_shift 33 = .ok (.iload_n 1, 1) := by decide +kernel
theorem dX11_shift_34 : decode cX11_shift 34 = .ok (.iconst 2, 1) := by decide +kernel
theorem dX11_shift_35 : decode cX11_shift 35 = .ok (.idiv, 1) := by decide +kernel
theorem dX11_shift_36 : decode cX11_shift 36 = .ok (.iconst 1, 1) := by decide +kernel
theorem dX11_shift_37 : decode cX11_shift 37 = .ok (.iadd, 1) := by decide +kernel
theorem dX11_shift_38 : decode cX11_shift 38 = .ok (.invokevirtual 295, 3) := by decide +kernel
theorem dX11_shift_41 : decode cX11_shift 41 = .ok (.iadd, 1) := by decide +kernel
theorem dX11_shift_42 : decode cX11_shift 42 = .ok (.ireturn, 1) := by decide +kernel
theorem dX11_told_0 : decode cX11_told 0 = .ok (.iload_n 1, 1) := by decide +kernel
theorem dX11_told_1 : decode cX11_told 1 = .ok (.tableswitch 111 0 7 #[47, 55, 63, 71, 79, 87, 95, 103], 47) := by decide +kernel
theorem dX11_told_48 : decode cX11_told 48 = .ok (.aload_n 0, 1) := by decide +kernel
theorem dX11_told_49 : decode cX11_told 49 = .ok (.getfield 21, 3) := by decide +kernel
theorem dX11_told_52 : decode cX11_told 52 = .ok (.invokevirtual 169, 3) := by decide +kernel
theorem dX11_told_55 : decode cX11_told 55 = .ok (.ireturn, 1) := by decide +kernel
theorem dX11_told_56 : decode cX11_told 56 = .ok (.aload_n 0, 1) := by decide +kernel
theorem dX11_told_57 : decode cX11_told 57 = .ok (.getfield 25, 3) := by decide +kernel
theorem dX11_told_60 : decode cX11_told 60 = .ok (.invokevirtual 169, 3) := by decide +kernel
theorem dX11_told_63 : decode cX11_told 63 = .ok (.ireturn, 1) := by decide +kernel
theorem dX11_told_64 : decode cX11_told 64 = .ok (.aload_n 0, 1) := by decide +kernel
theorem dX11_told_65 : decode cX11_told 65 = .ok (.getfield 28, 3) := by decide +kernel
theorem dX11_told_68 : decode cX11_told 68 = .ok (.invokevirtual 169, 3) := by decide +kernel
theorem dX11_told_71 : decode cX11_told 71 = .ok (.ireturn, 1) := by decide +kernel
theorem dX11_told_72 : decode cX11_told 72 = .ok (.aload_n 0, 1) := by decide +kernel
theorem dX11_told_73 : decode cX11_told 73 = .ok (.getfield 74, 3) := by decide +kernel
theorem dX11_told_76 : decode cX11_told 76 = .ok (.invokevirtual 298, 3) := by decide +kernel
theorem dX11_told_79 : decode cX11_told 79 = .ok (.ireturn, 1) := by decide +kernel
theorem dX11_told_80 : decode cX11_told 80 = .ok (.aload_n 0, 1) := by decide +kernel
theorem dX11_told_81 : decode cX11_told 81 = .ok (.getfield 31, 3) := by decide +kernel
theorem dX11_told_84 : decode cX11_told 84 = .ok (.invokevirtual 169, 3) := by decide +kernel
theorem dX11_told_87 : decode cX11_told 87 = .ok (.ireturn, 1) := by decide +kernel
theorem dX11_told_88 : decode cX11_told 88 = .ok (.aload_n 0, 1) := by decide +kernel
theorem dX11_told_89 : decode cX11_told 89 = .ok (.getfield 10, 3) := by decide +kernel
theorem dX11_told_92 : decode cX11_told 92 = .ok (.invokevirtual 127, 3) := by decide +kernel
theorem dX11_told_95 : decode cX11_told 95 = .ok (.ireturn, 1) := by decide +kernel
theorem dX11_told_96 : decode cX11_told 96 = .ok (.aload_n 0, 1) := by decide +kernel
theorem dX11_told_97 : decode cX11_told 97 = .ok (.getfield 10, 3) := by decide +kernel
theorem dX11_told_100 : decode cX11_told 100 = .ok (.invokevirtual 130, 3) := by decide +kernel
theorem dX11_told_103 : decode cX11_told 103 = .ok (.ireturn, 1) := by decide +kernel
theorem dX11_told_104 : decode cX11_told 104 = .ok (.aload_n 0, 1) := by decide +kernel
theorem dX11_told_105 : decode cX11_told 105 = .ok (.getfield 44, 3) := by decide +kernel
theorem dX11_told_108 : decode cX11_told 108 = .ok (.invokevirtual 212, 3) := by decide +kernel
theorem dX11_told_111 : decode cX11_told 111 = .ok (.ireturn, 1) := by decide +kernel
theorem dX11_told_112 : decode cX11_told 112 = .ok (.bipush (-2), 2) := by decide +kernel
theorem dX11_told_114 : decode cX11_told 114 = .ok (.ireturn, 1) := by decide +kernel
theorem dX11_within_0 : decode cX11_within 0 = .ok (.iload_n 0, 1) := by decide +kernel
theorem dX11_within_1 : decode cX11_within 1 = .ok (.iload_n 1, 1) := by decide +kernel
theorem dX11_within_2 : decode cX11_within 2 = .ok (.if_icmp .lt 12, 3) := by decide +kernel
theorem dX11_within_5 : decode cX11_within 5 = .ok (.iload_n 0, 1) := by decide +kernel
theorem dX11_within_6 : decode cX11_within 6 = .ok (.iload_n 2, 1) := by decide +kernel
theorem dX11_within_7 : decode cX11_within 7 = .ok (.if_icmp .gt 7, 3) := by decide +kernel
theorem dX11_within_10 : decode cX11_within 10 = .ok (.iconst 1, 1) := by decide +kernel
theorem dX11_within_11 : decode cX11_within 11 = .ok (.goto 4, 3) := by decide +kernel
theorem dX11_within_14 : decode cX11_within 14 = .ok (.iconst 0, 1) := by decide +kernel
theorem dX11_within_15 : decode cX11_within 15 = .ok (.ireturn, 1) := by decide +kernel
theorem dX11_isLevel_0 : decode cX11_isLevel 0 = .ok (.iload_n 0, 1) := by decide +kernel
theorem dX11_isLevel_1 : decode cX11_isLevel 1 = .ok (.iconst 0, 1) := by decide +kernel
theorem dX11_isLevel_2 : decode cX11_isLevel 2 = .ok (.ldc_w 299, 3) := by decide +kernel
theorem dX11_isLevel_5 : decode cX11_isLevel 5 = .ok (.invokestatic 78, 3) := by decide +kernel
theorem dX11_isLevel_8 : decode cX11_isLevel 8 = .ok (.ifCond .eq 18, 3) := by decide +kernel
theorem dX11_isLevel_11 : decode cX11_isLevel 11 = .ok (.iload_n 1, 1) := by decide +kernel
theorem dX11_isLevel_12 : decode cX11_isLevel 12 = .ok (.iconst 1, 1) := by decide +kernel
theorem dX11_isLevel_13 : decode cX11_isLevel 13 = .ok (.ldc_w 299, 3) := by decide +kernel
theorem dX11_isLevel_16 : decode cX11_isLevel 16 = .ok (.invokestatic 78, 3) := by decide +kernel
theorem dX11_isLevel_19 : decode cX11_isLevel 19 = .ok (.ifCond .eq 7, 3) := by decide +kernel
theorem dX11_isLevel_22 : decode cX11_isLevel 22 = .ok (.iconst 1, 1) := by decide +kernel
theorem dX11_isLevel_23 : decode cX11_isLevel 23 = .ok (.goto 4, 3) := by decide +kernel
theorem dX11_isLevel_26 : decode cX11_isLevel 26 = .ok (.iconst 0, 1) := by decide +kernel
theorem dX11_isLevel_27 : decode cX11_isLevel 27 = .ok (.ireturn, 1) := by decide +kernel
theorem dX11_refusal_0 : decode cX11_refusal 0 = .ok (.aload_n 0, 1) := by decide +kernel
theorem dX11_refusal_1 : decode cX11_refusal 1 = .ok (.getfield 58, 3) := by decide +kernel
theorem dX11_refusal_4 : decode cX11_refusal 4 = .ok (.invokevirtual 253, 3) := by decide +kernel
theorem dX11_refusal_7 : decode cX11_refusal 7 = .ok (.ifCond .ne 6, 3) := by decide +kernel
theorem dX11_refusal_10 : decode cX11_refusal 10 = .ok (.bipush (-3), 2) := by decide +kernel
theorem dX11_refusal_12 : decode cX11_refusal 12 = .ok (.ireturn, 1) := by decide +kernel
theorem dX11_refusal_13 : decode cX11_refusal 13 = .ok (.iload_n 1, 1) := by decide +kernel
theorem dX11_refusal_14 : decode cX11_refusal 14 = .ok (.iconst 0, 1) := by decide +kernel
theorem dX11_refusal_15 : decode cX11_refusal 15 = .ok (.iconst 3, 1) := by decide +kernel
theorem dX11_refusal_16 : decode cX11_refusal 16 = .ok (.invokestatic 78, 3) := by decide +kernel
theorem dX11_refusal_19 : decode cX11_refusal 19 = .ok (.ifCond .eq 7, 3) := by decide +kernel
theorem dX11_refusal_22 : decode cX11_refusal 22 = .ok (.iconst 0, 1) := by decide +kernel
theorem dX11_refusal_23 : decode cX11_refusal 23 = .ok (.goto 4, 3) := by decide +kernel
theorem dX11_refusal_26 : decode cX11_refusal 26 = .ok (.iconst (-1), 1) := by decide +kernel
theorem dX11_refusal_27 : decode cX11_refusal 27 = .ok (.ireturn, 1) := by decide +kernel
theorem dX11_takeScores_0 : decode cX11_takeScores 0 = .ok (.iconst 0, 1) := by decide +kernel
theorem dX11_takeScores_1 : decode cX11_takeScores 1 = .ok (.istore_n 3, 1) := by decide +kernel
theorem dX11_takeScores_2 : decode cX11_takeScores 2 = .ok (.iconst 0, 1) := by decide +kernel
theorem dX11_takeScores_3 : decode cX11_takeScores 3 = .ok (.istore 4, 2) := by decide +kernel
theorem dX11_takeScores_5 : decode cX11_takeScores 5 = .ok (.iload 4, 2) := by decide +kernel
theorem dX11_takeScores_7 : decode cX11_takeScores 7 = .ok (.aload_n 1, 1) := by decide +kernel
theorem dX11_takeScores_8 : decode cX11_takeScores 8 = .ok (.invokevirtual 169, 3) := by decide +kernel
theorem dX11_takeScores_11 : decode cX11_takeScores 11 = .ok (.if_icmp .ge 48, 3) := by decide +kernel
theorem dX11_takeScores_14 : decode cX11_takeScores 14 = .ok (.aload_n 1, 1) := by decide +kernel
theorem dX11_takeScores_15 : decode cX11_takeScores 15 = .ok (.iload 4, 2) := by decide +kernel
theorem dX11_takeScores_17 : decode cX11_takeScores 17 = .ok (.invokevirtual 189, 3) := by decide +kernel
theorem dX11_takeScores_20 : decode cX11_takeScores 20 = .ok (.istore 5, 2) := by decide +kernel
theorem dX11_takeScores_22 : decode cX11_takeScores 22 = .ok (.iload_n 2, 1) := by decide +kernel
theorem dX11_takeScores_23 : decode cX11_takeScores 23 = .ok (.ifCond .ne 8, 3) := by decide +kernel
theorem dX11_takeScores_26 : decode cX11_takeScores 26 = .ok (.iload 5, 2) := by decide +kernel
theorem dX11_takeScores_28 : decode cX11_takeScores 28 = .ok (.goto 9, 3) := by decide +kernel
theorem dX11_takeScores_31 : decode cX11_takeScores 31 = .ok (.aload_n 0, 1) := by decide +kernel
theorem dX11_takeScores_32 : decode cX11_takeScores 32 = .ok (.iload 5, 2) := by decide +kernel
theorem dX11_takeScores_34 : decode cX11_takeScores 34 = .ok (.invokevirtual 209, 3) := by decide +kernel
theorem dX11_takeScores_37 : decode cX11_takeScores 37 = .ok (.istore 6, 2) := by decide +kernel
theorem dX11_takeScores_39 : decode cX11_takeScores 39 = .ok (.aload_n 0, 1) := by decide +kernel
theorem dX11_takeScores_40 : decode cX11_takeScores 40 = .ok (.getfield 51, 3) := by decide +kernel
theorem dX11_takeScores_43 : decode cX11_takeScores 43 = .ok (.iload 6, 2) := by decide +kernel
theorem dX11_takeScores_45 : decode cX11_takeScores 45 = .ok (.invokevirtual 200, 3) := by decide +kernel
theorem dX11_takeScores_48 : decode cX11_takeScores 48 = .ok (.iload_n 3, 1) := by decide +kernel
theorem dX11_takeScores_49 : decode cX11_takeScores 49 = .ok (.iload 6, 2) := by decide +kernel
theorem dX11_takeScores_51 : decode cX11_takeScores 51 = .ok (.iadd, 1) := by decide +kernel
theorem dX11_takeScores_52 : decode cX11_takeScores 52 = .ok (.istore_n 3, 1) := by decide +kernel
theorem dX11_takeScores_53 : decode cX11_takeScores 53 = .ok (.iinc 4 1, 3) := by decide +kernel
theorem dX11_takeScores_56 : decode cX11_takeScores 56 = .ok (.goto (-51), 3) := by decide +kernel
theorem dX11_takeScores_59 : decode cX11_takeScores 59 = .ok (.iload_n 3, 1) := by decide +kernel
theorem dX11_takeScores_60 : decode cX11_takeScores 60 = .ok (.ireturn, 1) := by decide +kernel
theorem dX11_scoreOfSize_0 : decode cX11_scoreOfSize 0 = .ok (.iload_n 2, 1) := by decide +kernel
theorem dX11_scoreOfSize_1 : decode cX11_scoreOfSize 1 = .ok (.ifCond .ne 5, 3) := by decide +kernel
theorem dX11_scoreOfSize_4 : decode cX11_scoreOfSize 4 = .ok (.iload_n 1, 1) := by decide +kernel
theorem dX11_scoreOfSize_5 : decode cX11_scoreOfSize 5 = .ok (.ireturn, 1) := by decide +kernel
theorem dX11_scoreOfSize_6 : decode cX11_scoreOfSize 6 = .ok (.iload_n 2, 1) := by decide +kernel
theorem dX11_scoreOfSize_7 : decode cX11_scoreOfSize 7 = .ok (.iconst 1, 1) := by decide +kernel
theorem dX11_scoreOfSize_8 : decode cX11_scoreOfSize 8 = .ok (.if_icmp .ne 11, 3) := by decide +kernel
theorem dX11_scoreOfSize_11 : decode cX11_scoreOfSize 11 = .ok (.aload_n 0, 1) := by decide +kernel
theorem dX11_scoreOfSize_12 : decode cX11_scoreOfSize 12 = .ok (.iload_n 1, 1) := by decide +kernel
theorem dX11_scoreOfSize_13 : decode cX11_scoreOfSize 13 = .ok (.invokevirtual 206, 3) := by decide +kernel
theorem dX11_scoreOfSize_16 : decode cX11_scoreOfSize 16 = .ok (.goto 4, 3) := by decide +kernel
theorem dX11_scoreOfSize_19 : decode cX11_scoreOfSize 19 = .ok (.iconst 1, 1) := by decide +kernel
theorem dX11_scoreOfSize_20 : decode cX11_scoreOfSize 20 = .ok (.ireturn, 1) := by decide +kernel
theorem dX11_rankOfNumber_0 : decode cX11_rankOfNumber 0 = .ok (.aload_n 0, 1) := by decide +kernel
theorem dX11_rankOfNumber_1 : decode cX11_rankOfNumber 1 = .ok (.getfield 21, 3) := by decide +kernel
theorem dX11_rankOfNumber_4 : decode cX11_rankOfNumber 4 = .ok (.iload_n 1, 1) := by decide +kernel
theorem dX11_rankOfNumber_5 : decode cX11_rankOfNumber 5 = .ok (.invokevirtual 300, 3) := by decide +kernel
theorem dX11_rankOfNumber_8 : decode cX11_rankOfNumber 8 = .ok (.aload_n 0, 1) := by decide +kernel
theorem dX11_rankOfNumber_9 : decode cX11_rankOfNumber 9 = .ok (.getfield 25, 3) := by decide +kernel
theorem dX11_rankOfNumber_12 : decode cX11_rankOfNumber 12 = .ok (.iload_n 1, 1) := by decide +kernel
theorem dX11_rankOfNumber_13 : decode cX11_rankOfNumber 13 = .ok (.invokevirtual 300, 3) := by decide +kernel
theorem dX11_rankOfNumber_16 : decode cX11_rankOfNumber 16 = .ok (.iadd, 1) := by decide +kernel
theorem dX11_rankOfNumber_17 : decode cX11_rankOfNumber 17 = .ok (.istore_n 2, 1) := by decide +kernel
theorem dX11_rankOfNumber_18 : decode cX11_rankOfNumber 18 = .ok (.aload_n 0, 1) := by decide +kernel
theorem dX11_rankOfNumber_19 : decode cX11_rankOfNumber 19 = .ok (.getfield 21, 3) := by decide +kernel
theorem dX11_rankOfNumber_22 : decode cX11_rankOfNumber 22 = .ok (.iload_n 1, 1) := by decide +kernel
theorem dX11_rankOfNumber_23 : decode cX11_rankOfNumber 23 = .ok (.invokevirtual 183, 3) := by decide +kernel
theorem dX11_rankOfNumber_26 : decode cX11_rankOfNumber 26 = .ok (.aload_n 0, 1) := by decide +kernel
theorem dX11_rankOfNumber_27 : decode cX11_rankOfNumber 27 = .ok (.getfield 25, 3) := by decide +kernel
theorem dX11_rankOfNumber_30 : decode cX11_rankOfNumber 30 = .ok (.iload_n 1, 1) := by decide +kernel
theorem dX11_rankOfNumber_31 : decode cX11_rankOfNumber 31 = .ok (.invokevirtual 183, 3) := by decide +kernel
theorem dX11_rankOfNumber_34 : decode cX11_rankOfNumber 34 = .ok (.iadd, 1) := by decide +kernel
theorem dX11_rankOfNumber_35 : decode cX11_rankOfNumber 35 = .ok (.istore_n 3, 1) := by decide +kernel
theorem dX11_rankOfNumber_36 : decode cX11_rankOfNumber 36 = .ok (.iload_n 2, 1) := by decide +kernel
theorem dX11_rankOfNumber_37 : decode cX11_rankOfNumber 37 = .ok (.iload_n 3, 1) := by decide +kernel
theorem dX11_rankOfNumber_38 : decode cX11_rankOfNumber 38 = .ok (.invokestatic 303, 3) := by decide +kernel
theorem dX11_rankOfNumber_41 : decode cX11_rankOfNumber 41 = .ok (.ireturn, 1) := by decide +kernel
theorem dX11_rankOfSize_0 : decode cX11_rankOfSize 0 = .ok (.iload_n 1, 1) := by decide +kernel
theorem dX11_rankOfSize_1 : decode cX11_rankOfSize 1 = .ok (.ifCond .ne 5, 3) := by decide +kernel
theorem dX11_rankOfSize_4 : decode cX11_rankOfSize 4 = .ok (.iconst 0, 1) := by decide +kernel
theorem dX11_rankOfSize_5 : decode cX11_rankOfSize 5 = .ok (.ireturn, 1) := by decide +kernel
theorem dX11_rankOfSize_6 : decode cX11_rankOfSize 6 = .ok (.aload_n 0, 1) := by decide +kernel
theorem dX11_rankOfSize_7 : decode cX11_rankOfSize 7 = .ok (.getfield 28, 3) := by decide +kernel
theorem dX11_rankOfSize_10 : decode cX11_rankOfSize 10 = .ok (.iload_n 1, 1) := by decide +kernel
theorem dX11_rankOfSize_11 : decode cX11_rankOfSize 11 = .ok (.invokevirtual 300, 3) := by decide +kernel
theorem dX11_rankOfSize_14 : decode cX11_rankOfSize 14 = .ok (.aload_n 0, 1) := by decide +kernel
theorem dX11_rankOfSize_15 : decode cX11_rankOfSize 15 = .ok (.getfield 28, 3) := by decide +kernel
theorem dX11_rankOfSize_18 : decode cX11_rankOfSize 18 = .ok (.iconst 1, 1) := by decide +kernel
theorem dX11_rankOfSize_19 : decode cX11_rankOfSize 19 = .ok (.iload_n 1, 1) := by decide +kernel
theorem dX11_rankOfSize_20 : decode cX11_rankOfSize 20 = .ok (.isub, 1) := by decide +kernel
theorem dX11_rankOfSize_21 : decode cX11_rankOfSize 21 = .ok (.invokevirtual 300, 3) := by decide +kernel
theorem dX11_rankOfSize_24 : decode cX11_rankOfSize 24 = .ok (.isub, 1) := by decide +kernel
theorem dX11_rankOfSize_25 : decode cX11_rankOfSize 25 = .ok (.istore_n 2, 1) := by decide +kernel
theorem dX11_rankOfSize_26 : decode cX11_rankOfSize 26 = .ok (.iload_n 2, 1) := by decide +kernel
theorem dX11_rankOfSize_27 : decode cX11_rankOfSize 27 = .ok (.aload_n 0, 1) := by decide +kernel
theorem dX11_rankOfSize_28 : decode cX11_rankOfSize 28 = .ok (.getfield 28, 3) := by decide +kernel
theorem dX11_rankOfSize_31 : decode cX11_rankOfSize 31 = .ok (.iconst 0, 1) := by decide +kernel
theorem dX11_rankOfSize_32 : decode cX11_rankOfSize 32 = .ok (.invokevirtual 183, 3) := by decide +kernel
theorem dX11_rankOfSize_35 : decode cX11_rankOfSize 35 = .ok (.isub, 1) := by decide +kernel
theorem dX11_rankOfSize_36 : decode cX11_rankOfSize 36 = .ok (.istore_n 3, 1) := by decide +kernel
theorem dX11_rankOfSize_37 : decode cX11_rankOfSize 37 = .ok (.aload_n 0, 1) := by decide +kernel
theorem dX11_rankOfSize_38 : decode cX11_rankOfSize 38 = .ok (.getfield 28, 3) := by decide +kernel
theorem dX11_rankOfSize_41 : decode cX11_rankOfSize 41 = .ok (.iload_n 1, 1) := by decide +kernel
theorem dX11_rankOfSize_42 : decode cX11_rankOfSize 42 = .ok (.invokevirtual 183, 3) := by decide +kernel
theorem dX11_rankOfSize_45 : decode cX11_rankOfSize 45 = .ok (.aload_n 0, 1) := by decide +kernel
theorem dX11_rankOfSize_46 : decode cX11_rankOfSize 46 = .ok (.getfield 28, 3) := by decide +kernel
theorem dX11_rankOfSize_49 : decode cX11_rankOfSize 49 = .ok (.iload_n 1, 1) := by decide +kernel
theorem dX11_rankOfSize_50 : decode cX11_rankOfSize 50 = .ok (.ineg, 1) := by decide +kernel
theorem dX11_rankOfSize_51 : decode cX11_rankOfSize 51 = .ok (.invokevirtual 183, 3) := by decide +kernel
theorem dX11_rankOfSize_54 : decode cX11_rankOfSize 54 = .ok (.iadd, 1) := by decide +kernel
theorem dX11_rankOfSize_55 : decode cX11_rankOfSize 55 = .ok (.istore 4, 2) := by decide +kernel
theorem dX11_rankOfSize_57 : decode cX11_rankOfSize 57 = .ok (.iload_n 3, 1) := by decide +kernel
theorem dX11_rankOfSize_58 : decode cX11_rankOfSize 58 = .ok (.iload 4, 2) := by decide +kernel
theorem dX11_rankOfSize_60 : decode cX11_rankOfSize 60 = .ok (.invokestatic 303, 3) := by decide +kernel
theorem dX11_rankOfSize_63 : decode cX11_rankOfSize 63 = .ok (.ireturn, 1) := by decide +kernel
theorem dX11_twiceMeanPlace_0 : decode cX11_twiceMeanPlace 0 = .ok (.iconst 2, 1) := by decide +kernel
theorem dX11_twiceMeanPlace_1 : decode cX11_twiceMeanPlace 1 = .ok (.iload_n 0, 1) := by decide +kernel
theorem dX11_twiceMeanPlace_2 : decode cX11_twiceMeanPlace 2 = .ok (.imul, 1) := by decide +kernel
theorem dX11_twiceMeanPlace_3 : decode cX11_twiceMeanPlace 3 = .ok (.iload_n 1, 1) := by decide +kernel
theorem dX11_twiceMeanPlace_4 : decode cX11_twiceMeanPlace 4 = .ok (.iadd, 1) := by decide +kernel
theorem dX11_twiceMeanPlace_5 : decode cX11_twiceMeanPlace 5 = .ok (.iconst 1, 1) := by decide +kernel
theorem dX11_twiceMeanPlace_6 : decode cX11_twiceMeanPlace 6 = .ok (.iadd, 1) := by decide +kernel
theorem dX11_twiceMeanPlace_7 : decode cX11_twiceMeanPlace 7 = .ok (.ireturn, 1) := by decide +kernel
theorem dX11_judge_0 : decode cX11_judge 0 = .ok (.aload_n 0, 1) := by decide +kernel
theorem dX11_judge_1 : decode cX11_judge 1 = .ok (.getfield 51, 3) := by decide +kernel
theorem dX11_judge_4 : decode cX11_judge 4 = .ok (.invokevirtual 306, 3) := by decide +kernel
theorem dX11_judge_7 : decode cX11_judge 7 = .ok (.lstore 4, 2) := by decide +kernel
theorem dX11_judge_9 : decode cX11_judge 9 = .ok (.aload_n 0, 1) := by decide +kernel
theorem dX11_judge_10 : decode cX11_judge 10 = .ok (.getfield 51, 3) := by decide +kernel
theorem dX11_judge_13 : decode cX11_judge 13 = .ok (.iload_n 1, 1) := by decide +kernel
theorem dX11_judge_14 : decode cX11_judge 14 = .ok (.invokevirtual 310, 3) := by decide +kernel
theorem dX11_judge_17 : decode cX11_judge 17 = .ok (.lstore 6, 2) := by decide +kernel
theorem dX11_judge_19 : decode cX11_judge 19 = .ok (.aload_n 0, 1) := by decide +kernel
theorem dX11_judge_20 : decode cX11_judge 20 = .ok (.getfield 51, 3) := by decide +kernel
theorem dX11_judge_23 : decode cX11_judge 23 = .ok (.iload_n 1, 1) := by decide +kernel
end
section
theorem dX11_judge_24 : decode cX11_judge 24 = .ok (.invokevirtual 270, 3) := by decide +kernel
theorem dX11_judge_27 : decode cX11_judge 27 = .ok (.lstore 8, 2) := by decide +kernel
theorem dX11_judge_29 : decode cX11_judge 29 = .ok (.lload 4, 2) := by decide +kernel
theorem dX11_judge_31 : decode cX11_judge 31 = .ok (.lload 6, 2) := by decide +kernel
theorem dX11_judge_33 : decode cX11_judge 33 = .ok (.lsub, 1) := by decide +kernel
theorem dX11_judge_34 : decode cX11_judge 34 = .ok (.lload 8, 2) := by decide +kernel
theorem dX11_judge_36 : decode cX11_judge 36 = .ok (.ladd, 1) := by decide +kernel
theorem dX11_judge_37 : decode cX11_judge 37 = .ok (.lstore 10, 2) := by decide +kernel
theorem dX11_judge_39 : decode cX11_judge 39 = .ok (.aload_n 0, 1) := by decide +kernel
theorem dX11_judge_40 : decode cX11_judge 40 = .ok (.getfield 58, 3) := by decide +kernel
theorem dX11_judge_43 : decode cX11_judge 43 = .ok (.iconst 1, 1) := by decide +kernel
theorem dX11_judge_44 : decode cX11_judge 44 = .ok (.invokevirtual 142, 3) := by decide +kernel
theorem dX11_judge_47 : decode cX11_judge 47 = .ok (.lload 6, 2) := by decide +kernel
theorem dX11_judge_49 : decode cX11_judge 49 = .ok (.lload 4, 2) := by decide +kernel
theorem dX11_judge_51 : decode cX11_judge 51 = .ok (.invokevirtual 313, 3) := by decide +kernel
theorem dX11_judge_54 : decode cX11_judge 54 = .ok (.aload_n 0, 1) := by decide +kernel
theorem dX11_judge_55 : decode cX11_judge 55 = .ok (.getfield 58, 3) := by decide +kernel
theorem dX11_judge_58 : decode cX11_judge 58 = .ok (.iconst 2, 1) := by decide +kernel
theorem dX11_judge_59 : decode cX11_judge 59 = .ok (.invokevirtual 142, 3) := by decide +kernel
theorem dX11_judge_62 : decode cX11_judge 62 = .ok (.lload 10, 2) := by decide +kernel
theorem dX11_judge_64 : decode cX11_judge 64 = .ok (.lload 4, 2) := by decide +kernel
theorem dX11_judge_66 : decode cX11_judge 66 = .ok (.invokevirtual 313, 3) := by decide +kernel
theorem dX11_judge_69 : decode cX11_judge 69 = .ok (.aload_n 0, 1) := by decide +kernel
theorem dX11_judge_70 : decode cX11_judge 70 = .ok (.getfield 58, 3) := by decide +kernel
theorem dX11_judge_73 : decode cX11_judge 73 = .ok (.iconst 3, 1) := by decide +kernel
theorem dX11_judge_74 : decode cX11_judge 74 = .ok (.invokevirtual 142, 3) := by decide +kernel
theorem dX11_judge_77 : decode cX11_judge 77 = .ok (.lload 8, 2) := by decide +kernel
theorem dX11_judge_79 : decode cX11_judge 79 = .ok (.lload 4, 2) := by decide +kernel
theorem dX11_judge_81 : decode cX11_judge 81 = .ok (.invokevirtual 313, 3) := by decide +kernel
theorem dX11_judge_84 : decode cX11_judge 84 = .ok (.iload_n 3, 1) := by decide +kernel
theorem dX11_judge_85 : decode cX11_judge 85 = .ok (.iload_n 1, 1) := by decide +kernel
theorem dX11_judge_86 : decode cX11_judge 86 = .ok (.imul, 1) := by decide +kernel
theorem dX11_judge_87 : decode cX11_judge 87 = .ok (.iload_n 2, 1) := by decide +kernel
theorem dX11_judge_88 : decode cX11_judge 88 = .ok (.isub, 1) := by decide +kernel
theorem dX11_judge_89 : decode cX11_judge 89 = .ok (.istore 12, 2) := by decide +kernel
theorem dX11_judge_91 : decode cX11_judge 91 = .ok (.lload 4, 2) := by decide +kernel
theorem dX11_judge_93 : decode cX11_judge 93 = .ok (.lstore 13, 2) := by decide +kernel
theorem dX11_judge_95 : decode cX11_judge 95 = .ok (.iload 12, 2) := by decide +kernel
theorem dX11_judge_97 : decode cX11_judge 97 = .ok (.ifCond .ge 40, 3) := by decide +kernel
theorem dX11_judge_100 : decode cX11_judge 100 = .ok (.iload_n 3, 1) := by decide +kernel
theorem dX11_judge_101 : decode cX11_judge 101 = .ok (.ifCond .le 36, 3) := by decide +kernel
theorem dX11_judge_104 : decode cX11_judge 104 = .ok (.iload 12, 2) := by decide +kernel
theorem dX11_judge_106 : decode cX11_judge 106 = .ok (.iload_n 2, 1) := by decide +kernel
theorem dX11_judge_107 : decode cX11_judge 107 = .ok (.isub, 1) := by decide +kernel
theorem dX11_judge_108 : decode cX11_judge 108 = .ok (.iload_n 3, 1) := by decide +kernel
theorem dX11_judge_109 : decode cX11_judge 109 = .ok (.invokestatic 317, 3) := by decide +kernel
theorem dX11_judge_112 : decode cX11_judge 112 = .ok (.ineg, 1) := by decide +kernel
theorem dX11_judge_113 : decode cX11_judge 113 = .ok (.istore 15, 2) := by decide +kernel
theorem dX11_judge_115 : decode cX11_judge 115 = .ok (.lload 6, 2) := by decide +kernel
theorem dX11_judge_117 : decode cX11_judge 117 = .ok (.lload 4, 2) := by decide +kernel
theorem dX11_judge_119 : decode cX11_judge 119 = .ok (.ladd, 1) := by decide +kernel
theorem dX11_judge_120 : decode cX11_judge 120 = .ok (.aload_n 0, 1) := by decide +kernel
theorem dX11_judge_121 : decode cX11_judge 121 = .ok (.getfield 51, 3) := by decide +kernel
theorem dX11_judge_124 : decode cX11_judge 124 = .ok (.iload 15, 2) := by decide +kernel
theorem dX11_judge_126 : decode cX11_judge 126 = .ok (.iconst 1, 1) := by decide +kernel
theorem dX11_judge_127 : decode cX11_judge 127 = .ok (.isub, 1) := by decide +kernel
theorem dX11_judge_128 : decode cX11_judge 128 = .ok (.invokevirtual 310, 3) := by decide +kernel
theorem dX11_judge_131 : decode cX11_judge 131 = .ok (.lsub, 1) := by decide +kernel
theorem dX11_judge_132 : decode cX11_judge 132 = .ok (.lstore 13, 2) := by decide +kernel
theorem dX11_judge_134 : decode cX11_judge 134 = .ok (.goto 36, 3) := by decide +kernel
theorem dX11_judge_137 : decode cX11_judge 137 = .ok (.iload 12, 2) := by decide +kernel
theorem dX11_judge_139 : decode cX11_judge 139 = .ok (.ifCond .le 31, 3) := by decide +kernel
theorem dX11_judge_142 : decode cX11_judge 142 = .ok (.iload_n 3, 1) := by decide +kernel
theorem dX11_judge_143 : decode cX11_judge 143 = .ok (.ifCond .le 27, 3) := by decide +kernel
theorem dX11_judge_146 : decode cX11_judge 146 = .ok (.iload_n 2, 1) := by decide +kernel
theorem dX11_judge_147 : decode cX11_judge 147 = .ok (.iload 12, 2) := by decide +kernel
theorem dX11_judge_149 : decode cX11_judge 149 = .ok (.isub, 1) := by decide +kernel
theorem dX11_judge_150 : decode cX11_judge 150 = .ok (.iload_n 3, 1) := by decide +kernel
theorem dX11_judge_151 : decode cX11_judge 151 = .ok (.invokestatic 317, 3) := by decide +kernel
theorem dX11_judge_154 : decode cX11_judge 154 = .ok (.istore 15, 2) := by decide +kernel
theorem dX11_judge_156 : decode cX11_judge 156 = .ok (.lload 10, 2) := by decide +kernel
theorem dX11_judge_158 : decode cX11_judge 158 = .ok (.aload_n 0, 1) := by decide +kernel
theorem dX11_judge_159 : decode cX11_judge 159 = .ok (.getfield 51, 3) := by decide +kernel
theorem dX11_judge_162 : decode cX11_judge 162 = .ok (.iload 15, 2) := by decide +kernel
theorem dX11_judge_164 : decode cX11_judge 164 = .ok (.invokevirtual 310, 3) := by decide +kernel
theorem dX11_judge_167 : decode cX11_judge 167 = .ok (.ladd, 1) := by decide +kernel
theorem dX11_judge_168 : decode cX11_judge 168 = .ok (.lstore 13, 2) := by decide +kernel
theorem dX11_judge_170 : decode cX11_judge 170 = .ok (.aload_n 0, 1) := by decide +kernel
theorem dX11_judge_171 : decode cX11_judge 171 = .ok (.getfield 58, 3) := by decide +kernel
theorem dX11_judge_174 : decode cX11_judge 174 = .ok (.iconst 0, 1) := by decide +kernel
theorem dX11_judge_175 : decode cX11_judge 175 = .ok (.invokevirtual 142, 3) := by decide +kernel
theorem dX11_judge_178 : decode cX11_judge 178 = .ok (.lload 13, 2) := by decide +kernel
theorem dX11_judge_180 : decode cX11_judge 180 = .ok (.lload 4, 2) := by decide +kernel
theorem dX11_judge_182 : decode cX11_judge 182 = .ok (.invokevirtual 313, 3) := by decide +kernel
theorem dX11_judge_185 : decode cX11_judge 185 = .ok (.return_, 1) := by decide +kernel
theorem dX11_shiftInPlace_0 : decode cX11_shiftInPlace 0 = .ok (.sipush (-2000), 3) := by decide +kernel
theorem dX11_shiftInPlace_3 : decode cX11_shiftInPlace 3 = .ok (.istore_n 2, 1) := by decide +kernel
theorem dX11_shiftInPlace_4 : decode cX11_shiftInPlace 4 = .ok (.sipush 2000, 3) := by decide +kernel
theorem dX11_shiftInPlace_7 : decode cX11_shiftInPlace 7 = .ok (.istore_n 3, 1) := by decide +kernel
theorem dX11_shiftInPlace_8 : decode cX11_shiftInPlace 8 = .ok (.iload_n 2, 1) := by decide +kernel
theorem dX11_shiftInPlace_9 : decode cX11_shiftInPlace 9 = .ok (.iload_n 3, 1) := by decide +kernel
theorem dX11_shiftInPlace_10 : decode cX11_shiftInPlace 10 = .ok (.if_icmp .ge 34, 3) := by decide +kernel
theorem dX11_shiftInPlace_13 : decode cX11_shiftInPlace 13 = .ok (.iload_n 2, 1) := by decide +kernel
theorem dX11_shiftInPlace_14 : decode cX11_shiftInPlace 14 = .ok (.iload_n 3, 1) := by decide +kernel
theorem dX11_shiftInPlace_15 : decode cX11_shiftInPlace 15 = .ok (.iadd, 1) := by decide +kernel
theorem dX11_shiftInPlace_16 : decode cX11_shiftInPlace 16 = .ok (.iconst 1, 1) := by decide +kernel
theorem dX11_shiftInPlace_17 : decode cX11_shiftInPlace 17 = .ok (.ishr, 1) := by decide +kernel
theorem dX11_shiftInPlace_18 : decode cX11_shiftInPlace 18 = .ok (.istore 4, 2) := by decide +kernel
theorem dX11_shiftInPlace_20 : decode cX11_shiftInPlace 20 = .ok (.aload_n 0, 1) := by decide +kernel
theorem dX11_shiftInPlace_21 : decode cX11_shiftInPlace 21 = .ok (.iload 4, 2) := by decide +kernel
theorem dX11_shiftInPlace_23 : decode cX11_shiftInPlace 23 = .ok (.invokevirtual 320, 3) := by decide +kernel
theorem dX11_shiftInPlace_26 : decode cX11_shiftInPlace 26 = .ok (.iload_n 1, 1) := by decide +kernel
theorem dX11_shiftInPlace_27 : decode cX11_shiftInPlace 27 = .ok (.if_icmp .lt 9, 3) := by decide +kernel
theorem dX11_shiftInPlace_30 : decode cX11_shiftInPlace 30 = .ok (.iload 4, 2) := by decide +kernel
theorem dX11_shiftInPlace_32 : decode cX11_shiftInPlace 32 = .ok (.istore_n 3, 1) := by decide +kernel
theorem dX11_shiftInPlace_33 : decode cX11_shiftInPlace 33 = .ok (.goto 8, 3) := by decide +kernel
theorem dX11_shiftInPlace_36 : decode cX11_shiftInPlace 36 = .ok (.iload 4, 2) := by decide +kernel
theorem dX11_shiftInPlace_38 : decode cX11_shiftInPlace 38 = .ok (.iconst 1, 1) := by decide +kernel
theorem dX11_shiftInPlace_39 : decode cX11_shiftInPlace 39 = .ok (.iadd, 1) := by decide +kernel
theorem dX11_shiftInPlace_40 : decode cX11_shiftInPlace 40 = .ok (.istore_n 2, 1) := by decide +kernel
theorem dX11_shiftInPlace_41 : decode cX11_shiftInPlace 41 = .ok (.goto (-33), 3) := by decide +kernel
theorem dX11_shiftInPlace_44 : decode cX11_shiftInPlace 44 = .ok (.iload_n 2, 1) := by decide +kernel
theorem dX11_shiftInPlace_45 : decode cX11_shiftInPlace 45 = .ok (.ireturn, 1) := by decide +kernel
theorem dX11_countShiftsUpTo_0 : decode cX11_countShiftsUpTo 0 = .ok (.iconst 0, 1) := by decide +kernel
theorem dX11_countShiftsUpTo_1 : decode cX11_countShiftsUpTo 1 = .ok (.istore_n 2, 1) := by decide +kernel
theorem dX11_countShiftsUpTo_2 : decode cX11_countShiftsUpTo 2 = .ok (.iconst 0, 1) := by decide +kernel
theorem dX11_countShiftsUpTo_3 : decode cX11_countShiftsUpTo 3 = .ok (.istore_n 3, 1) := by decide +kernel
theorem dX11_countShiftsUpTo_4 : decode cX11_countShiftsUpTo 4 = .ok (.iload_n 3, 1) := by decide +kernel
theorem dX11_countShiftsUpTo_5 : decode cX11_countShiftsUpTo 5 = .ok (.aload_n 0, 1) := by decide +kernel
theorem dX11_countShiftsUpTo_6 : decode cX11_countShiftsUpTo 6 = .ok (.getfield 21, 3) := by decide +kernel
theorem dX11_countShiftsUpTo_9 : decode cX11_countShiftsUpTo 9 = .ok (.invokevirtual 169, 3) := by decide +kernel
theorem dX11_countShiftsUpTo_12 : decode cX11_countShiftsUpTo 12 = .ok (.if_icmp .ge 37, 3) := by decide +kernel
theorem dX11_countShiftsUpTo_15 : decode cX11_countShiftsUpTo 15 = .ok (.iload_n 2, 1) := by decide +kernel
theorem dX11_countShiftsUpTo_16 : decode cX11_countShiftsUpTo 16 = .ok (.aload_n 0, 1) := by decide +kernel
theorem dX11_countShiftsUpTo_17 : decode cX11_countShiftsUpTo 17 = .ok (.getfield 25, 3) := by decide +kernel
theorem dX11_countShiftsUpTo_20 : decode cX11_countShiftsUpTo 20 = .ok (.invokevirtual 169, 3) := by decide +kernel
theorem dX11_countShiftsUpTo_23 : decode cX11_countShiftsUpTo 23 = .ok (.aload_n 0, 1) := by decide +kernel
theorem dX11_countShiftsUpTo_24 : decode cX11_countShiftsUpTo 24 = .ok (.getfield 25, 3) := by decide +kernel
theorem dX11_countShiftsUpTo_27 : decode cX11_countShiftsUpTo 27 = .ok (.aload_n 0, 1) := by decide +kernel
theorem dX11_countShiftsUpTo_28 : decode cX11_countShiftsUpTo 28 = .ok (.getfield 21, 3) := by decide +kernel
theorem dX11_countShiftsUpTo_31 : decode cX11_countShiftsUpTo 31 = .ok (.iload_n 3, 1) := by decide +kernel
theorem dX11_countShiftsUpTo_32 : decode cX11_countShiftsUpTo 32 = .ok (.invokevirtual 189, 3) := by decide +kernel
theorem dX11_countShiftsUpTo_35 : decode cX11_countShiftsUpTo 35 = .ok (.iload_n 1, 1) := by decide +kernel
theorem dX11_countShiftsUpTo_36 : decode cX11_countShiftsUpTo 36 = .ok (.isub, 1) := by decide +kernel
theorem dX11_countShiftsUpTo_37 : decode cX11_countShiftsUpTo 37 = .ok (.invokevirtual 300, 3) := by decide +kernel
theorem dX11_countShiftsUpTo_40 : decode cX11_countShiftsUpTo 40 = .ok (.isub, 1) := by decide +kernel
theorem dX11_countShiftsUpTo_41 : decode cX11_countShiftsUpTo 41 = .ok (.iadd, 1) := by decide +kernel
theorem dX11_countShiftsUpTo_42 : decode cX11_countShiftsUpTo 42 = .ok (.istore_n 2, 1) := by decide +kernel
theorem dX11_countShiftsUpTo_43 : decode cX11_countShiftsUpTo 43 = .ok (.iinc 3 1, 3) := by decide +kernel
theorem dX11_countShiftsUpTo_46 : decode cX11_countShiftsUpTo 46 = .ok (.goto (-42), 3) := by decide +kernel
theorem dX11_countShiftsUpTo_49 : decode cX11_countShiftsUpTo 49 = .ok (.iload_n 2, 1) := by decide +kernel
theorem dX11_countShiftsUpTo_50 : decode cX11_countShiftsUpTo 50 = .ok (.ireturn, 1) := by decide +kernel
end
section
theorem dX12_init_0 : decode cX12_init 0 = .ok (.aload_n 0, 1) := by decide +kernel
theorem dX12_init_1 : decode cX12_init 1 = .ok (.invokespecial 1, 3) := by decide +kernel
theorem dX12_init_4 : decode cX12_init 4 = .ok (.aload_n 0, 1) := by decide +kernel
theorem dX12_init_5 : decode cX12_init 5 = .ok (.bipush 40, 2) := by decide +kernel
theorem dX12_init_7 : decode cX12_init 7 = .ok (.newarray .int, 2) := by decide +kernel
theorem dX12_init_9 : decode cX12_init 9 = .ok (.putfield 7, 3) := by decide +kernel
theorem dX12_init_12 : decode cX12_init 12 = .ok (.aload_n 0, 1) := by decide +kernel
theorem dX12_init_13 : decode cX12_init 13 = .ok (.bipush 40, 2) := by decide +kernel
theorem dX12_init_15 : decode cX12_init 15 = .ok (.newarray .int, 2) := by decide +kernel
theorem dX12_init_17 : decode cX12_init 17 = .ok (.putfield 13, 3) := by decide +kernel
theorem dX12_init_20 : decode cX12_init 20 = .ok (.aload_n 0, 1) := by decide +kernel
theorem dX12_init_21 : decode cX12_init 21 = .ok (.bipush 40, 2) := by decide +kernel
theorem dX12_init_23 : decode cX12_init 23 = .ok (.newarray .int, 2) := by decide +kernel
theorem dX12_init_25 : decode cX12_init 25 = .ok (.putfield 16, 3) := by decide +kernel
theorem dX12_init_28 : decode cX12_init 28 = .ok (.aload_n 0, 1) := by decide +kernel
theorem dX12_init_29 : decode cX12_init 29 = .ok (.bipush 40, 2) := by decide +kernel
theorem dX12_init_31 : decode cX12_init 31 = .ok (.newarray .int, 2) := by decide +kernel
theorem dX12_init_33 : decode cX12_init 33 = .ok (.putfield 19, 3) := by decide +kernel
theorem dX12_init_36 : decode cX12_init 36 = .ok (.aload_n 0, 1) := by decide +kernel
theorem dX12_init_37 : decode cX12_init 37 = .ok (.bipush 25, 2) := by decide +kernel
theorem dX12_init_39 : decode cX12_init 39 = .ok (.newarray .int, 2) := by decide +kernel
theorem dX12_init_41 : decode cX12_init 41 = .ok (.putfield 22, 3) := by decide +kernel
theorem dX12_init_44 : decode cX12_init 44 = .ok (.aload_n 0, 1) := by decide +kernel
theorem dX12_init_45 : decode cX12_init 45 = .ok (.bipush 30, 2) := by decide +kernel
theorem dX12_init_47 : decode cX12_init 47 = .ok (.newarray .int, 2) := by decide +kernel
theorem dX12_init_49 : decode cX12_init 49 = .ok (.putfield 25, 3) := by decide +kernel
theorem dX12_init_52 : decode cX12_init 52 = .ok (.aload_n 0, 1) := by decide +kernel
theorem dX12_init_53 : decode cX12_init 53 = .ok (.iconst 2, 1) := by decide +kernel
theorem dX12_init_54 : decode cX12_init 54 = .ok (.newarray .int, 2) := by decide +kernel
theorem dX12_init_56 : decode cX12_init 56 = .ok (.putfield 28, 3) := by decide +kernel
theorem dX12_init_59 : decode cX12_init 59 = .ok (.aload_n 0, 1) := by decide +kernel
theorem dX12_init_60 : decode cX12_init 60 = .ok (.bipush 30, 2) := by decide +kernel
theorem dX12_init_62 : decode cX12_init 62 = .ok (.newarray .int, 2) := by decide +kernel
theorem dX12_init_64 : decode cX12_init 64 = .ok (.putfield 31, 3) := by decide +kernel
theorem dX12_init_67 : decode cX12_init 67 = .ok (.aload_n 0, 1) := by decide +kernel
theorem dX12_init_68 : decode cX12_init 68 = .ok (.iconst (-1), 1) := by decide +kernel
theorem dX12_init_69 : decode cX12_init 69 = .ok (.putfield 34, 3) := by decide +kernel
theorem dX12_init_72 : decode cX12_init 72 = .ok (.aload_n 0, 1) := by decide +kernel
theorem dX12_init_73 : decode cX12_init 73 = .ok (.sipush 160, 3) := by decide +kernel
theorem dX12_init_76 : decode cX12_init 76 = .ok (.newarray .int, 2) := by decide +kernel
theorem dX12_init_78 : decode cX12_init 78 = .ok (.putfield 38, 3) := by decide +kernel
theorem dX12_init_81 : decode cX12_init 81 = .ok (.aload_n 0, 1) := by decide +kernel
theorem dX12_init_82 : decode cX12_init 82 = .ok (.sipush 160, 3) := by decide +kernel
theorem dX12_init_85 : decode cX12_init 85 = .ok (.newarray .int, 2) := by decide +kernel
theorem dX12_init_87 : decode cX12_init 87 = .ok (.putfield 41, 3) := by decide +kernel
theorem dX12_init_90 : decode cX12_init 90 = .ok (.aload_n 0, 1) := by decide +kernel
theorem dX12_init_91 : decode cX12_init 91 = .ok (.ldc 44, 2) := by decide +kernel
theorem dX12_init_93 : decode cX12_init 93 = .ok (.newarray .long, 2) := by decide +kernel
theorem dX12_init_95 : decode cX12_init 95 = .ok (.putfield 45, 3) := by decide +kernel
theorem dX12_init_98 : decode cX12_init 98 = .ok (.aload_n 0, 1) := by decide +kernel
theorem dX12_init_99 : decode cX12_init 99 = .ok (.bipush 25, 2) := by decide +kernel
theorem dX12_init_101 : decode cX12_init 101 = .ok (.newarray .int, 2) := by decide +kernel
theorem dX12_init_103 : decode cX12_init 103 = .ok (.putfield 49, 3) := by decide +kernel
theorem dX12_init_106 : decode cX12_init 106 = .ok (.aload_n 0, 1) := by decide +kernel
theorem dX12_init_107 : decode cX12_init 107 = .ok (.bipush 25, 2) := by decide +kernel
theorem dX12_init_109 : decode cX12_init 109 = .ok (.newarray .int, 2) := by decide +kernel
theorem dX12_init_111 : decode cX12_init 111 = .ok (.putfield 52, 3) := by decide +kernel
theorem dX12_init_114 : decode cX12_init 114 = .ok (.aload_n 0, 1) := by decide +kernel
theorem dX12_init_115 : decode cX12_init 115 = .ok (.iconst 5, 1) := by decide +kernel
theorem dX12_init_116 : decode cX12_init 116 = .ok (.newarray .int, 2) := by decide +kernel
theorem dX12_init_118 : decode cX12_init 118 = .ok (.putfield 55, 3) := by decide +kernel
theorem dX12_init_121 : decode cX12_init 121 = .ok (.aload_n 0, 1) := by decide +kernel
theorem dX12_init_122 : decode cX12_init 122 = .ok (.iconst 5, 1) := by decide +kernel
theorem dX12_init_123 : decode cX12_init 123 = .ok (.newarray .int, 2) := by decide +kernel
theorem dX12_init_125 : decode cX12_init 125 = .ok (.putfield 58, 3) := by decide +kernel
theorem dX12_init_128 : decode cX12_init 128 = .ok (.aload_n 0, 1) := by decide +kernel
theorem dX12_init_129 : decode cX12_init 129 = .ok (.ldc 61, 2) := by decide +kernel
theorem dX12_init_131 : decode cX12_init 131 = .ok (.newarray .byte, 2) := by decide +kernel
theorem dX12_init_133 : decode cX12_init 133 = .ok (.putfield 62, 3) := by decide +kernel
theorem dX12_init_136 : decode cX12_init 136 = .ok (.aload_n 0, 1) := by decide +kernel
theorem dX12_init_137 : decode cX12_init 137 = .ok (.sipush 20000, 3) := by decide +kernel
theorem dX12_init_140 : decode cX12_init 140 = .ok (.newarray .byte, 2) := by decide +kernel
theorem dX12_init_142 : decode cX12_init 142 = .ok (.putfield 66, 3) := by decide +kernel
theorem dX12_init_145 : decode cX12_init 145 = .ok (.aload_n 0, 1) := by decide +kernel
theorem dX12_init_146 : decode cX12_init 146 = .ok (.bipush 40, 2) := by decide +kernel
theorem dX12_init_148 : decode cX12_init 148 = .ok (.newarray .int, 2) := by decide +kernel
theorem dX12_init_150 : decode cX12_init 150 = .ok (.putfield 69, 3) := by decide +kernel
theorem dX12_init_153 : decode cX12_init 153 = .ok (.aload_n 0, 1) := by decide +kernel
theorem dX12_init_154 : decode cX12_init 154 = .ok (.bipush 40, 2) := by decide +kernel
theorem dX12_init_156 : decode cX12_init 156 = .ok (.newarray .int, 2) := by decide +kernel
theorem dX12_init_158 : decode cX12_init 158 = .ok (.putfield 72, 3) := by decide +kernel
theorem dX12_init_161 : decode cX12_init 161 = .ok (.aload_n 0, 1) := by decide +kernel
theorem dX12_init_162 : decode cX12_init 162 = .ok (.bipush 40, 2) := by decide +kernel
theorem dX12_init_164 : decode cX12_init 164 = .ok (.newarray .int, 2) := by decide +kernel
theorem dX12_init_166 : decode cX12_init 166 = .ok (.putfield 75, 3) := by decide +kernel
theorem dX12_init_169 : decode cX12_init 169 = .ok (.aload_n 0, 1) := by decide +kernel
theorem dX12_init_170 : decode cX12_init 170 = .ok (.bipush 40, 2) := by decide +kernel
theorem dX12_init_172 : decode cX12_init 172 = .ok (.newarray .int, 2) := by decide +kernel
theorem dX12_init_174 : decode cX12_init 174 = .ok (.putfield 78, 3) := by decide +kernel
theorem dX12_init_177 : decode cX12_init 177 = .ok (.aload_n 0, 1) := by decide +kernel
theorem dX12_init_178 : decode cX12_init 178 = .ok (.bipush 30, 2) := by decide +kernel
theorem dX12_init_180 : decode cX12_init 180 = .ok (.newarray .int, 2) := by decide +kernel
theorem dX12_init_182 : decode cX12_init 182 = .ok (.putfield 81, 3) := by decide +kernel
theorem dX12_init_185 : decode cX12_init 185 = .ok (.aload_n 0, 1) := by decide +kernel
theorem dX12_init_186 : decode cX12_init 186 = .ok (.bipush 30, 2) := by decide +kernel
theorem dX12_init_188 : decode cX12_init 188 = .ok (.newarray .int, 2) := by decide +kernel
theorem dX12_init_190 : decode cX12_init 190 = .ok (.putfield 84, 3) := by decide +kernel
theorem dX12_init_193 : decode cX12_init 193 = .ok (.aload_n 0, 1) := by decide +kernel
theorem dX12_init_194 : decode cX12_init 194 = .ok (.ldc 87, 2) := by decide +kernel
theorem dX12_init_196 : decode cX12_init 196 = .ok (.newarray .long, 2) := by decide +kernel
theorem dX12_init_198 : decode cX12_init 198 = .ok (.putfield 88, 3) := by decide +kernel
theorem dX12_init_201 : decode cX12_init 201 = .ok (.aload_n 0, 1) := by decide +kernel
theorem dX12_init_202 : decode cX12_init 202 = .ok (.bipush 40, 2) := by decide +kernel
theorem dX12_init_204 : decode cX12_init 204 = .ok (.newarray .int, 2) := by decide +kernel
theorem dX12_init_206 : decode cX12_init 206 = .ok (.putfield 91, 3) := by decide +kernel
theorem dX12_init_209 : decode cX12_init 209 = .ok (.aload_n 0, 1) := by decide +kernel
theorem dX12_init_210 : decode cX12_init 210 = .ok (.sipush 480, 3) := by decide +kernel
theorem dX12_init_213 : decode cX12_init 213 = .ok (.newarray .int, 2) := by decide +kernel
theorem dX12_init_215 : decode cX12_init 215 = .ok (.putfield 94, 3) := by decide +kernel
theorem dX12_init_218 : decode cX12_init 218 = .ok (.aload_n 0, 1) := by decide +kernel
theorem dX12_init_219 : decode cX12_init 219 = .ok (.sipush 480, 3) := by decide +kernel
theorem dX12_init_222 : decode cX12_init 222 = .ok (.newarray .int, 2) := by decide +kernel
theorem dX12_init_224 : decode cX12_init 224 = .ok (.putfield 97, 3) := by decide +kernel
theorem dX12_init_227 : decode cX12_init 227 = .ok (.aload_n 0, 1) := by decide +kernel
theorem dX12_init_228 : decode cX12_init 228 = .ok (.bipush 12, 2) := by decide +kernel
theorem dX12_init_230 : decode cX12_init 230 = .ok (.newarray .int, 2) := by decide +kernel
theorem dX12_init_232 : decode cX12_init 232 = .ok (.putfield 100, 3) := by decide +kernel
theorem dX12_init_235 : decode cX12_init 235 = .ok (.aload_n 0, 1) := by decide +kernel
theorem dX12_init_236 : decode cX12_init 236 = .ok (.bipush 80, 2) := by decide +kernel
theorem dX12_init_238 : decode cX12_init 238 = .ok (.newarray .int, 2) := by decide +kernel
theorem dX12_init_240 : decode cX12_init 240 = .ok (.putfield 103, 3) := by decide +kernel
theorem dX12_init_243 : decode cX12_init 243 = .ok (.aload_n 0, 1) := by decide +kernel
theorem dX12_init_244 : decode cX12_init 244 = .ok (.bipush 80, 2) := by decide +kernel
theorem dX12_init_246 : decode cX12_init 246 = .ok (.newarray .int, 2) := by decide +kernel
theorem dX12_init_248 : decode cX12_init 248 = .ok (.putfield 106, 3) := by decide +kernel
theorem dX12_init_251 : decode cX12_init 251 = .ok (.aload_n 0, 1) := by decide +kernel
theorem dX12_init_252 : decode cX12_init 252 = .ok (.bipush 40, 2) := by decide +kernel
theorem dX12_init_254 : decode cX12_init 254 = .ok (.newarray .int, 2) := by decide +kernel
theorem dX12_init_256 : decode cX12_init 256 = .ok (.putfield 109, 3) := by decide +kernel
theorem dX12_init_259 : decode cX12_init 259 = .ok (.aload_n 0, 1) := by decide +kernel
theorem dX12_init_260 : decode cX12_init 260 = .ok (.sipush 225, 3) := by decide +kernel
theorem dX12_init_263 : decode cX12_init 263 = .ok (.newarray .int, 2) := by decide +kernel
theorem dX12_init_265 : decode cX12_init 265 = .ok (.putfield 112, 3) := by decide +kernel
theorem dX12_init_268 : decode cX12_init 268 = .ok (.aload_n 0, 1) := by decide +kernel
theorem dX12_init_269 : decode cX12_init 269 = .ok (.iconst 1, 1) := by decide +kernel
theorem dX12_init_270 : decode cX12_init 270 = .ok (.putfield 115, 3) := by decide +kernel
theorem dX12_init_273 : decode cX12_init 273 = .ok (.aload_n 0, 1) := by decide +kernel
theorem dX12_init_274 : decode cX12_init 274 = .ok (.iconst 1, 1) := by decide +kernel
theorem dX12_init_275 : decode cX12_init 275 = .ok (.putfield 118, 3) := by decide +kernel
theorem dX12_init_278 : decode cX12_init 278 = .ok (.return_, 1) := by decide +kernel
theorem dX12_in_0 : decode cX12_in 0 = .ok (.lload_n 0, 1) := by decide +kernel
theorem dX12_in_1 : decode cX12_in 1 = .ok (.lload_n 2, 1) := by decide +kernel
theorem dX12_in_2 : decode cX12_in 2 = .ok (.lcmp, 1) := by decide +kernel
theorem dX12_in_3 : decode cX12_in 3 = .ok (.ifCond .lt 14, 3) := by decide +kernel
theorem dX12_in_6 : decode cX12_in 6 = .ok (.lload_n 0, 1) := by decide +kernel
theorem dX12_in_7 : decode cX12_in 7 = .ok (.lload 4, 2) := by decide +kernel
theorem dX12_in_9 : decode cX12_in 9 = .ok (.lcmp, 1) := by decide +kernel
theorem dX12_in_10 : decode cX12_in 10 = .ok (.ifCond .gt 7, 3) := by decide +kernel
theorem dX12_in_13 : decode cX12_in 13 = .ok (.iconst 1, 1) := by decide +kernel
theorem dX12_in_14 : decode cX12_in 14 = .ok (.goto 4, 3) := by decide +kernel
theorem dX12_in_17 : decode cX12_in 17 = .ok (.iconst 0, 1) := by decide +kernel
theorem dX12_in_18 : decode cX12_in 18 = .ok (.ireturn, 1) := by decide +kernel
theorem dX12_set_0 : decode cX12_set 0 = .ok (.lload_n 2, 1) := by decide +kernel
theorem dX12_set_1 : decode cX12_set 1 = .ok (.lstore 4, 2) := by decide +kernel
theorem dX12_set_3 : decode cX12_set 3 = .ok (.iconst 0, 1) := by decide +kernel
theorem dX12_set_4 : decode cX12_set 4 = .ok (.istore 6, 2) := by decide +kernel
theorem dX12_set_6 : decode cX12_set 6 = .ok (.iload 6, 2) := by decide +kernel
theorem dX12_set_8 : decode cX12_set 8 = .ok (.bipush 40, 2) := by decide +kernel
theorem dX12_set_10 : decode cX12_set 10 = .ok (.if_icmp .ge 29, 3) := by decide +kernel
theorem dX12_set_13 : decode cX12_set 13 = .ok (.aload_n 0, 1) := by decide +kernel
theorem dX12_set_14 : decode cX12_set 14 = .ok (.iload_n 1, 1) := by decide +kernel
theorem dX12_set_15 : decode cX12_set 15 = .ok (.iload 6, 2) := by decide +kernel
theorem dX12_set_17 : decode cX12_set 17 = .ok (.iadd, 1) := by decide +kernel
theorem dX12_set_18 : decode cX12_set 18 = .ok (.lload 4, 2) := by decide +kernel
theorem dX12_set_20 : decode cX12_set 20 = .ok (.ldc2_w 121, 3) := by decide +kernel
theorem dX12_set_23 : decode cX12_set 23 = .ok (.land, 1) := by decide +kernel
theorem dX12_set_24 : decode cX12_set 24 = .ok (.l2i, 1) := by decide +kernel
theorem dX12_set_25 : decode cX12_set 25 = .ok (.iastore, 1) := by decide +kernel
theorem dX12_set_26 : decode cX12_set 26 = .ok (.lload 4, 2) := by decide +kernel
theorem dX12_set_28 : decode cX12_set 28 = .ok (.bipush 24, 2) := by decide +kernel
theorem dX12_set_30 : decode cX12_set 30 = .ok (.lshr, 1) := by decide +kernel
theorem dX12_set_31 : decode cX12_set 31 = .ok (.lstore 4, 2) := by decide +kernel
theorem dX12_set_33 : decode cX12_set 33 = .ok (.iinc 6 1, 3) := by decide +kernel
theorem dX12_set_36 : decode cX12_set 36 = .ok (.goto (-30), 3) := by decide +kernel
theorem dX12_set_39 : decode cX12_set 39 = .ok (.return_, 1) := by decide +kernel
theorem dX12_copy_0 : decode cX12_copy 0 = .ok (.iconst 0, 1) := by decide +kernel
theorem dX12_copy_1 : decode cX12_copy 1 = .ok (.istore 4, 2) := by decide +kernel
theorem dX12_copy_3 : decode cX12_copy 3 = .ok (.iload 4, 2) := by decide +kernel
theorem dX12_copy_5 : decode cX12_copy 5 = .ok (.bipush 40, 2) := by decide +kernel
theorem dX12_copy_7 : decode cX12_copy 7 = .ok (.if_icmp .ge 21, 3) := by decide +kernel
theorem dX12_copy_10 : decode cX12_copy 10 = .ok (.aload_n 2, 1) := by decide +kernel
theorem dX12_copy_11 : decode cX12_copy 11 = .ok (.iload_n 3, 1) := by decide +kernel
theorem dX12_copy_12 : decode cX12_copy 12 = .ok (.iload 4, 2) := by decide +kernel
theorem dX12_copy_14 : decode cX12_copy 14 = .ok (.iadd, 1) := by decide +kernel
theorem dX12_copy_15 : decode cX12_copy 15 = .ok (.aload_n 0, 1) := by decide +kernel
theorem dX12_copy_16 : decode cX12_copy 16 = .ok (.iload_n 1, 1) := by decide +kernel
theorem dX12_copy_17 : decode cX12_copy 17 = .ok (.iload 4, 2) := by decide +kernel
theorem dX12_copy_19 : decode cX12_copy 19 = .ok (.iadd, 1) := by decide +kernel
theorem dX12_copy_20 : decode cX12_copy 20 = .ok (.iaload, 1) := by decide +kernel
theorem dX12_copy_21 : decode cX12_copy 21 = .ok (.iastore, 1) := by decide +kernel
theorem dX12_copy_22 : decode cX12_copy 22 = .ok (.iinc 4 1, 3) := by decide +kernel
theorem dX12_copy_25 : decode cX12_copy 25 = .ok (.goto (-22), 3) := by decide +kernel
theorem dX12_copy_28 : decode cX12_copy 28 = .ok (.return_, 1) := by decide +kernel
theorem dX12_compare_0 : decode cX12_compare 0 = .ok (.bipush 39, 2) := by decide +kernel
theorem dX12_compare_2 : decode cX12_compare 2 = .ok (.istore 4, 2) := by decide +kernel
theorem dX12_compare_4 : decode cX12_compare 4 = .ok (.iload 4, 2) := by decide +kernel
theorem dX12_compare_6 : decode cX12_compare 6 = .ok (.ifCond .lt 45, 3) := by decide +kernel
theorem dX12_compare_9 : decode cX12_compare 9 = .ok (.aload_n 0, 1) := by decide +kernel
theorem dX12_compare_10 : decode cX12_compare 10 = .ok (.iload_n 1, 1) := by decide +kernel
theorem dX12_compare_11 : decode cX12_compare 11 = .ok (.iload 4, 2) := by decide +kernel
theorem dX12_compare_13 : decode cX12_compare 13 = .ok (.iadd, 1) := by decide +kernel
theorem dX12_compare_14 : decode cX12_compare 14 = .ok (.iaload, 1) := by decide +kernel
theorem dX12_compare_15 : decode cX12_compare 15 = .ok (.aload_n 2, 1) := by decide +kernel
theorem dX12_compare_16 : decode cX12_compare 16 = .ok (.iload_n 3, 1) := by decide +kernel
theorem dX12_compare_17 : decode cX12_compare 17 = .ok (.iload 4, 2) := by decide +kernel
theorem dX12_compare_19 : decode cX12_compare 19 = .ok (.iadd, 1) := by decide +kernel
theorem dX12_compare_20 : decode cX12_compare 20 = .ok (.iaload, 1) := by decide +kernel
theorem dX12_compare_21 : decode cX12_compare 21 = .ok (.if_icmp .eq 24, 3) := by decide +kernel
theorem dX12_compare_24 : decode cX12_compare 24 = .ok (.aload_n 0, 1) := by decide +kernel
theorem dX12_compare_25 : decode cX12_compare 25 = .ok (.iload_n 1, 1) := by decide +kernel
theorem dX12_compare_26 : decode cX12_compare 26 = .ok (.iload 4, 2) := by decide +kernel
theorem dX12_compare_28 : decode cX12_compare 28 = .ok (.iadd, 1) := by decide +kernel
theorem dX12_compare_29 : decode cX12_compare 29 = .ok (.iaload, 1) := by decide +kernel
theorem dX12_compare_30 : decode cX12_compare 30 = .ok (.aload_n 2, 1) := by decide +kernel
theorem dX12_compare_31 : decode cX12_compare 31 = .ok (.iload_n 3, 1) := by decide +kernel
theorem dX12_compare_32 : decode cX12_compare 32 = .ok (.iload 4, 2) := by decide +kernel
theorem dX12_compare_34 : decode cX12_compare 34 = .ok (.iadd, 1) := by decide +kernel
theorem dX12_compare_35 : decode cX12_compare 35 = .ok (.iaload, 1) := by decide +kernel
theorem dX12_compare_36 : decode cX12_compare 36 = .ok (.if_icmp .ge 7, 3) := by decide +kernel
theorem dX12_compare_39 : decode cX12_compare 39 = .ok (.iconst (-1), 1) := by decide +kernel
theorem dX12_compare_40 : decode cX12_compare 40 = .ok (.goto 4, 3) := by decide +kernel
theorem dX12_compare_43 : decode cX12_compare 43 = .ok (.iconst 1, 1) := by decide +kernel
theorem dX12_compare_44 : decode cX12_compare 44 = .ok (.ireturn, 1) := by decide +kernel
theorem dX12_compare_45 : decode cX12_compare 45 = .ok (.iinc 4 (-1), 3) := by decide +kernel
theorem dX12_compare_48 : decode cX12_compare 48 = .ok (.goto (-44), 3) := by decide +kernel
theorem dX12_compare_51 : decode cX12_compare 51 = .ok (.iconst 0, 1) := by decide +kernel
theorem dX12_compare_52 : decode cX12_compare 52 = .ok (.ireturn, 1) := by decide +kernel
theorem dX12_add_0 : decode cX12_add 0 = .ok (.iconst 0, 1) := by decide +kernel
theorem dX12_add_1 : decode cX12_add 1 = .ok (.istore 4, 2) := by decide +kernel
theorem dX12_add_3 : decode cX12_add 3 = .ok (.iconst 0, 1) := by decide +kernel
theorem dX12_add_4 : decode cX12_add 4 = .ok (.istore 5, 2) := by decide +kernel
theorem dX12_add_6 : decode cX12_add 6 = .ok (.iload 5, 2) := by decide +kernel
theorem dX12_add_8 : decode cX12_add 8 = .ok (.bipush 40, 2) := by decide +kernel
theorem dX12_add_10 : decode cX12_add 10 = .ok (.if_icmp .ge 45, 3) := by decide +kernel
theorem dX12_add_13 : decode cX12_add 13 = .ok (.aload_n 0, 1) := by decide +kernel
theorem dX12_add_14 : decode cX12_add 14 = .ok (.iload_n 1, 1) := by decide +kernel
theorem dX12_add_15 : decode cX12_add 15 = .ok (.iload 5, 2) := by decide +kernel
theorem dX12_add_17 : decode cX12_add 17 = .ok (.iadd, 1) := by decide +kernel
theorem dX12_add_18 : decode cX12_add 18 = .ok (.iaload, 1) := by decide +kernel
theorem dX12_add_19 : decode cX12_add 19 = .ok (.aload_n 2, 1) := by decide +kernel
theorem dX12_add_20 : decode cX12_add 20 = .ok (.iload_n 3, 1) := by decide +kernel
theorem dX12_add_21 : decode cX12_add 21 = .ok (.iload 5, 2) := by decide +kernel
theorem dX12_add_23 : decode cX12_add 23 = .ok (.iadd, 1) := by decide +kernel
theorem dX12_add_24 : decode cX12_add 24 = .ok (.iaload, 1) := by decide +kernel
theorem dX12_add_25 : decode cX12_add 25 = .ok (.iadd, 1) := by decide +kernel
theorem dX12_add_26 : decode cX12_add 26 = .ok (.iload 4, 2) := by decide +kernel
theorem dX12_add_28 : decode cX12_add 28 = .ok (.iadd, 1) := by decide +kernel
theorem dX12_add_29 : decode cX12_add 29 = .ok (.istore 6, 2) := by decide +kernel
theorem dX12_add_31 : decode cX12_add 31 = .ok (.aload_n 0, 1) := by decide +kernel
theorem dX12_add_32 : decode cX12_add 32 = .ok (.iload_n 1, 1) := by decide +kernel
theorem dX12_add_33 : decode cX12_add 33 = .ok (.iload 5, 2) := by decide +kernel
theorem dX12_add_35 : decode cX12_add 35 = .ok (.iadd, 1) := by decide +kernel
theorem dX12_add_36 : decode cX12_add 36 = .ok (.iload 6, 2) := by decide +kernel
theorem dX12_add_38 : decode cX12_add 38 = .ok (.ldc 123, 2) := by decide +kernel
theorem dX12_add_40 : decode cX12_add 40 = .ok (.iand, 1) := by decide +kernel
theorem dX12_add_41 : decode cX12_add 41 = .ok (.iastore, 1) := by decide +kernel
theorem dX12_add_42 : decode cX12_add 42 = .ok (.iload 6, 2) := by decide +kernel
theorem dX12_add_44 : decode cX12_add 44 = .ok (.bipush 24, 2) := by decide +kernel
theorem dX12_add_46 : decode cX12_add 46 = .ok (.ishr, 1) := by decide +kernel
theorem dX12_add_47 : decode cX12_add 47 = .ok (.istore 4, 2) := by decide +kernel
theorem dX12_add_49 : decode cX12_add 49 = .ok (.iinc 5 1, 3) := by decide +kernel
theorem dX12_add_52 : decode cX12_add 52 = .ok (.goto (-46), 3) := by decide +kernel
theorem dX12_add_55 : decode cX12_add 55 = .ok (.return_, 1) := by decide +kernel
theorem dX12_subtract_0 : decode cX12_subtract 0 = .ok (.iconst 0, 1) := by decide +kernel
theorem dX12_subtract_1 : decode cX12_subtract 1 = .ok (.istore 4, 2) := by decide +kernel
theorem dX12_subtract_3 : decode cX12_subtract 3 = .ok (.iconst 0, 1) := by decide +kernel
theorem dX12_subtract_4 : decode cX12_subtract 4 = .ok (.istore 5, 2) := by decide +kernel
theorem dX12_subtract_6 : decode cX12_subtract 6 = .ok (.iload 5, 2) := by decide +kernel
theorem dX12_subtract_8 : decode cX12_subtract 8 = .ok (.bipush 40, 2) := by decide +kernel
theorem dX12_subtract_10 : decode cX12_subtract 10 = .ok (.if_icmp .ge 53, 3) := by decide +kernel
theorem dX12_subtract_13 : decode cX12_subtract 13 = .ok (.aload_n 0, 1) := by decide +kernel
theorem dX12_subtract_14 : decode cX12_subtract 14 = .ok (.iload_n 1, 1) := by decide +kernel
theorem dX12_subtract_15 : decode cX12_subtract 15 = .ok (.iload 5, 2) := by decide +kernel
theorem dX12_subtract_17 : decode cX12_subtract 17 = .ok (.iadd, 1) := by decide +kernel
theorem dX12_subtract_18 : decode cX12_subtract 18 = .ok (.iaload, 1) := by decide +kernel
theorem dX12_subtract_19 : decode cX12_subtract 19 = .ok (.aload_n 2, 1) := by decide +kernel
theorem dX12_subtract_20 : decode cX12_subtract 20 = .ok (.iload_n 3, 1) := by decide +kernel
theorem dX12_subtract_21 : decode cX12_subtract 21 = .ok (.iload 5, 2) := by decide +kernel
theorem dX12_subtract_23 : decode cX12_subtract 23 = .ok (.iadd, 1) := by decide +kernel
theorem dX12_subtract_24 : decode cX12_subtract 24 = .ok (.iaload, 1) := by decide +kernel
theorem dX12_subtract_25 : decode cX12_subtract 25 = .ok (.isub, 1) := by decide +kernel
theorem dX12_subtract_26 : decode cX12_subtract 26 = .ok (.iload 4, 2) := by decide +kernel
theorem dX12_subtract_28 : decode cX12_subtract 28 = .ok (.isub, 1) := by decide +kernel
theorem dX12_subtract_29 : decode cX12_subtract 29 = .ok (.istore 6, 2) := by decide +kernel
theorem dX12_subtract_31 : decode cX12_subtract 31 = .ok (.iload 6, 2) := by decide +kernel
theorem dX12_subtract_33 : decode cX12_subtract 33 = .ok (.ifCond .ge 7, 3) := by decide +kernel
theorem dX12_subtract_36 : decode cX12_subtract 36 = .ok (.iconst 1, 1) := by decide +kernel
theorem dX12_subtract_37 : decode cX12_subtract 37 = .ok (.goto 4, 3) := by decide +kernel
theorem dX12_subtract_40 : decode cX12_subtract 40 = .ok (.iconst 0, 1) := by decide +kernel
theorem dX12_subtract_41 : decode cX12_subtract 41 = .ok (.istore 4, 2) := by decide +kernel
theorem dX12_subtract_43 : decode cX12_subtract 43 = .ok (.aload_n 0, 1) := by decide +kernel
theorem dX12_subtract_44 : decode cX12_subtract 44 = .ok (.iload_n 1, 1) := by decide +kernel
theorem dX12_subtract_45 : decode cX12_subtract 45 = .ok (.iload 5, 2) := by decide +kernel
theorem dX12_subtract_47 : decode cX12_subtract 47 = .ok (.iadd, 1) := by decide +kernel
theorem dX12_subtract_48 : decode cX12_subtract 48 = .ok (.iload 6, 2) := by decide +kernel
theorem dX12_subtract_50 : decode cX12_subtract 50 = .ok (.iload 4, 2) := by decide +kernel
theorem dX12_subtract_52 : decode cX12_subtract 52 = .ok (.ldc 124, 2) := by decide +kernel
theorem dX12_subtract_54 : decode cX12_subtract 54 = .ok (.imul, 1) := by decide +kernel
theorem dX12_subtract_55 : decode cX12_subtract 55 = .ok (.iadd, 1) := by decide +kernel
theorem dX12_subtract_56 : decode cX12_subtract 56 = .ok (.iastore, 1) := by decide +kernel
theorem dX12_subtract_57 : decode cX12_subtract 57 = .ok (.iinc 5 1, 3) := by decide +kernel
theorem dX12_subtract_60 : decode cX12_subtract 60 = .ok (.goto (-54), 3) := by decide +kernel
theorem dX12_subtract_63 : decode cX12_subtract 63 = .ok (.return_, 1) := by decide +kernel
theorem dX12_multiply_0 : decode cX12_multiply 0 = .ok (.lconst 0, 1) := by decide +kernel
theorem dX12_multiply_1 : decode cX12_multiply 1 = .ok (.lstore_n 3, 1) := by decide +kernel
theorem dX12_multiply_2 : decode cX12_multiply 2 = .ok (.iconst 0, 1) := by decide +kernel
theorem dX12_multiply_3 : decode cX12_multiply 3 = .ok (.istore 5, 2) := by decide +kernel
theorem dX12_multiply_5 : decode cX12_multiply 5 = .ok (.iload 5, 2) := by decide +kernel
theorem dX12_multiply_7 : decode cX12_multiply 7 = .ok (.bipush 40, 2) := by decide +kernel
theorem dX12_multiply_9 : decode cX12_multiply 9 = .ok (.if_icmp .ge 39, 3) := by decide +kernel
theorem dX12_multiply_12 : decode cX12_multiply 12 = .ok (.lload_n 3, 1) := by decide +kernel
theorem dX12_multiply_13 : decode cX12_multiply 13 = .ok (.aload_n 0, 1) := by decide +kernel
theorem dX12_multiply_14 : decode cX12_multiply 14 = .ok (.iload_n 1, 1) := by decide +kernel
theorem dX12_multiply_15 : decode cX12_multiply 15 = .ok (.iload 5, 2) := by decide +kernel
theorem dX12_multiply_17 : decode cX12_multiply 17 = .ok (.iadd, 1) := by decide +kernel
theorem dX12_multiply_18 : decode cX12_multiply 18 = .ok (.iaload, 1) := by decide +kernel
theorem dX12_multiply_19 : decode cX12_multiply 19 = .ok (.i2l, 1) := by decide +kernel
theorem dX12_multiply_20 : decode cX12_multiply 20 = .ok (.iload_n 2, 1) := by decide +kernel
theorem dX12_multiply_21 : decode cX12_multiply 21 = .ok (.i2l, 1) := by decide +kernel
theorem dX12_multiply_22 : decode cX12_multiply 22 = .ok (.lmul, 1) := by decide +kernel
theorem dX12_multiply_23 : decode cX12_multiply 23 = .ok (.ladd, 1) := by decide +kernel
theorem dX12_multiply_24 : decode cX12_multiply 24 = .ok (.lstore_n 3, 1) := by decide +kernel
theorem dX12_multiply_25 : decode cX12_multiply 25 = .ok (.aload_n 0, 1) := by decide +kernel
theorem dX12_multiply_26 : decode cX12_multiply 26 = .ok (.iload_n 1, 1) := by decide +kernel
theorem dX12_multiply_27 : decode cX12_multiply 27 = .ok (.iload 5, 2) := by decide +kernel
theorem dX12_multiply_29 : decode cX12_multiply 29 = .ok (.iadd, 1) := by decide +kernel
theorem dX12_multiply_30 : decode cX12_multiply 30 = .ok (.lload_n 3, 1) := by decide +kernel
theorem dX12_multiply_31 : decode cX12_multiply 31 = .ok (.ldc2_w 121, 3) := by decide +kernel
theorem dX12_multiply_34 : decode cX12_multiply 34 = .ok (.land, 1) := by decide +kernel
theorem dX12_multiply_35 : decode cX12_multiply 35 = .ok (.l2i, 1) := by decide +kernel
theorem dX12_multiply_36 : decode cX12_multiply 36 = .ok (.iastore, 1) := by decide +kernel
theorem dX12_multiply_37 : decode cX12_multiply 37 = .ok (.lload_n 3, 1) := by decide +kernel
theorem dX12_multiply_38 : decode cX12_multiply 38 = .ok (.bipush 24, 2) := by decide +kernel
theorem dX12_multiply_40 : decode cX12_multiply 40 = .ok (.lshr, 1) := by decide +kernel
theorem dX12_multiply_41 : decode cX12_multiply 41 = .ok (.lstore_n 3, 1) := by decide +kernel
theorem dX12_multiply_42 : decode cX12_multiply 42 = .ok (.iinc 5 1, 3) := by decide +kernel
theorem dX12_multiply_45 : decode cX12_multiply 45 = .ok (.goto (-40), 3) := by decide +kernel
theorem dX12_multiply_48 : decode cX12_multiply 48 = .ok (.return_, 1) := by decide +kernel
theorem dX12_divide_0 : decode cX12_divide 0 = .ok (.lconst 0, 1) := by decide +kernel
theorem dX12_divide_1 : decode cX12_divide 1 = .ok (.lstore_n 3, 1) := by decide +kernel
theorem dX12_divide_2 : decode cX12_divide 2 = .ok (.bipush 39, 2) := by decide +kernel
theorem dX12_divide_4 : decode cX12_divide 4 = .ok (.istore 5, 2) := by decide +kernel
theorem dX12_divide_6 : decode cX12_divide 6 = .ok (.iload 5, 2) := by decide +kernel
theorem dX12_divide_8 : decode cX12_divide 8 = .ok (.ifCond .lt 39, 3) := by decide +kernel
theorem dX12_divide_11 : decode cX12_divide 11 = .ok (.lload_n 3, 1) := by decide +kernel
theorem dX12_divide_12 : decode cX12_divide 12 = .ok (.ldc2_w 125, 3) := by decide +kernel
theorem dX12_divide_15 : decode cX12_divide 15 = .ok (.lmul, 1) := by decide +kernel
theorem dX12_divide_16 : decode cX12_divide 16 = .ok (.aload_n 0, 1) := by decide +kernel
theorem dX12_divide_17 : decode cX12_divide 17 = .ok (.iload_n 1, 1) := by decide +kernel
theorem dX12_divide_18 : decode cX12_divide 18 = .ok (.iload 5, 2) := by decide +kernel
theorem dX12_divide_20 : decode cX12_divide 20 = .ok (.iadd, 1) := by decide +kernel
theorem dX12_divide_21 : decode cX12_divide 21 = .ok (.iaload, 1) := by decide +kernel
theorem dX12_divide_22 : decode cX12_divide 22 = .ok (.i2l, 1) := by decide +kernel
theorem dX12_divide_23 : decode cX12_divide 23 = .ok (.ladd, 1) := by decide +kernel
theorem dX12_divide_24 : decode cX12_divide 24 = .ok (.lstore_n 3, 1) := by decide +kernel
theorem dX12_divide_25 : decode cX12_divide 25 = .ok (.aload_n 0, 1) := by decide +kernel
theorem dX12_divide_26 : decode cX12_divide 26 = .ok (.iload_n 1, 1) := by decide +kernel
theorem dX12_divide_27 : decode cX12_divide 27 = .ok (.iload 5, 2) := by decide +kernel
theorem dX12_divide_29 : decode cX12_divide 29 = .ok (.iadd, 1) := by decide +kernel
theorem dX12_divide_30 : decode cX12_divide 30 = .ok (.lload_n 3, 1) := by decide +kernel
theorem dX12_divide_31 : decode cX12_divide 31 = .ok (.iload_n 2, 1) := by decide +kernel
theorem dX12_divide_32 : decode cX12_divide 32 = .ok (.i2l, 1) := by decide +kernel
theorem dX12_divide_33 : decode cX12_divide 33 = .ok (.ldiv, 1) := by decide +kernel
theorem dX12_divide_34 : decode cX12_divide 34 = .ok (.l2i, 1) := by decide +kernel
theorem dX12_divide_35 : decode cX12_divide 35 = .ok (.iastore, 1) := by decide +kernel
theorem dX12_divide_36 : decode cX12_divide 36 = .ok (.lload_n 3, 1) := by decide +kernel
theorem dX12_divide_37 : decode cX12_divide 37 = .ok (.iload_n 2, 1) := by decide +kernel
theorem dX12_divide_38 : decode cX12_divide 38 = .ok (.i2l, 1) := by decide +kernel
theorem dX12_divide_39 : decode cX12_divide 39 = .ok (.lrem, 1) := by decide +kernel
theorem dX12_divide_40 : decode cX12_divide 40 = .ok (.lstore_n 3, 1) := by decide +kernel
theorem dX12_divide_41 : decode cX12_divide 41 = .ok (.iinc 5 (-1), 3) := by decide +kernel
theorem dX12_divide_44 : decode cX12_divide 44 = .ok (.goto (-38), 3) := by decide +kernel
theorem dX12_divide_47 : decode cX12_divide 47 = .ok (.return_, 1) := by decide +kernel
theorem dX12_bitsOf_0 : decode cX12_bitsOf 0 = .ok (.bipush 39, 2) := by decide +kernel
theorem dX12_bitsOf_2 : decode cX12_bitsOf 2 = .ok (.istore_n 2, 1) := by decide +kernel
theorem dX12_bitsOf_3 : decode cX12_bitsOf 3 = .ok (.iload_n 2, 1) := by decide +kernel
theorem dX12_bitsOf_4 : decode cX12_bitsOf 4 = .ok (.ifCond .lt 42, 3) := by decide +kernel
theorem dX12_bitsOf_7 : decode cX12_bitsOf 7 = .ok (.aload_n 0, 1) := by decide +kernel
theorem dX12_bitsOf_8 : decode cX12_bitsOf 8 = .ok (.iload_n 1, 1) := by decide +kernel
theorem dX12_bitsOf_9 : decode cX12_bitsOf 9 = .ok (.iload_n 2, 1) := by decide +kernel
theorem dX12_bitsOf_10 : decode cX12_bitsOf 10 = .ok (.iadd, 1) := by decide +kernel
theorem dX12_bitsOf_11 : decode cX12_bitsOf 11 = .ok (.iaload, 1) := by decide +kernel
theorem dX12_bitsOf_12 : decode cX12_bitsOf 12 = .ok (.ifCond .eq 28, 3) := by decide +kernel
theorem dX12_bitsOf_15 : decode cX12_bitsOf 15 = .ok (.iconst 0, 1) := by decide +kernel
theorem dX12_bitsOf_16 : decode cX12_bitsOf 16 = .ok (.istore_n 3, 1) := by decide +kernel
theorem dX12_bitsOf_17 : decode cX12_bitsOf 17 = .ok (.aload_n 0, 1) := by decide +kernel
theorem dX12_bitsOf_18 : decode cX12_bitsOf 18 = .ok (.iload_n 1, 1) := by decide +kernel
theorem dX12_bitsOf_19 : decode cX12_bitsOf 19 = .ok (.iload_n 2, 1) := by decide +kernel
theorem dX12_bitsOf_20 : decode cX12_bitsOf 20 = .ok (.iadd, 1) := by decide +kernel
theorem dX12_bitsOf_21 : decode cX12_bitsOf 21 = .ok (.iaload, 1) := by decide +kernel
theorem dX12_bitsOf_22 : decode cX12_bitsOf 22 = .ok (.iload_n 3, 1) := by decide +kernel
theorem dX12_bitsOf_23 : decode cX12_bitsOf 23 = .ok (.ishr, 1) := by decide +kernel
theorem dX12_bitsOf_24 : decode cX12_bitsOf 24 = .ok (.ifCond .eq 9, 3) := by decide +kernel
theorem dX12_bitsOf_27 : decode cX12_bitsOf 27 = .ok (.iinc 3 1, 3) := by decide +kernel
theorem dX12_bitsOf_30 : decode cX12_bitsOf 30 = .ok (.goto (-13), 3) := by decide +kernel
theorem dX12_bitsOf_33 : decode cX12_bitsOf 33 = .ok (.bipush 24, 2) := by decide +kernel
theorem dX12_bitsOf_35 : decode cX12_bitsOf 35 = .ok (.iload_n 2, 1) := by decide +kernel
theorem dX12_bitsOf_36 : decode cX12_bitsOf 36 = .ok (.imul, 1) := by decide +kernel
theorem dX12_bitsOf_37 : decode cX12_bitsOf 37 = .ok (.iload_n 3, 1) := by decide +kernel
theorem dX12_bitsOf_38 : decode cX12_bitsOf 38 = .ok (.iadd, 1) := by decide +kernel
theorem dX12_bitsOf_39 : decode cX12_bitsOf 39 = .ok (.ireturn, 1) := by decide +kernel
theorem dX12_bitsOf_40 : decode cX12_bitsOf 40 = .ok (.iinc 2 (-1), 3) := by decide +kernel
theorem dX12_bitsOf_43 : decode cX12_bitsOf 43 = .ok (.goto (-40), 3) := by decide +kernel
theorem dX12_bitsOf_46 : decode cX12_bitsOf 46 = .ok (.iconst 0, 1) := by decide +kernel
theorem dX12_bitsOf_47 : decode cX12_bitsOf 47 = .ok (.ireturn, 1) := by decide +kernel
theorem dX12_bitAt_0 : decode cX12_bitAt 0 = .ok (.aload_n 0, 1) := by decide +kernel
theorem dX12_bitAt_1 : decode cX12_bitAt 1 = .ok (.iload_n 1, 1) := by decide +kernel
theorem dX12_bitAt_2 : decode cX12_bitAt 2 = .ok (.iload_n 2, 1) := by decide +kernel
theorem dX12_bitAt_3 : decode cX12_bitAt 3 = .ok (.bipush 24, 2) := by decide +kernel
theorem dX12_bitAt_5 : decode cX12_bitAt 5 = .ok (.idiv, 1) := by decide +kernel
theorem dX12_bitAt_6 : decode cX12_bitAt 6 = .ok (.iadd, 1) := by decide +kernel
theorem dX12_bitAt_7 : decode cX12_bitAt 7 = .ok (.iaload, 1) := by decide +kernel
theorem dX12_bitAt_8 : decode cX12_bitAt 8 = .ok (.iload_n 2, 1) := by decide +kernel
theorem dX12_bitAt_9 : decode cX12_bitAt 9 = .ok (.bipush 24, 2) := by decide +kernel
theorem dX12_bitAt_11 : decode cX12_bitAt 11 = .ok (.irem, 1) := by decide +kernel
theorem dX12_bitAt_12 : decode cX12_bitAt 12 = .ok (.ishr, 1) := by decide +kernel
theorem dX12_bitAt_13 : decode cX12_bitAt 13 = .ok (.iconst 1, 1) := by decide +kernel
theorem dX12_bitAt_14 : decode cX12_bitAt 14 = .ok (.iand, 1) := by decide +kernel
theorem dX12_bitAt_15 : decode cX12_bitAt 15 = .ok (.ireturn, 1) := by decide +kernel
theorem dX12_twice_0 : decode cX12_twice 0 = .ok (.iload_n 2, 1) := by decide +kernel
theorem dX12_twice_1 : decode cX12_twice 1 = .ok (.istore_n 3, 1) := by decide +kernel
theorem dX12_twice_2 : decode cX12_twice 2 = .ok (.iconst 0, 1) := by decide +kernel
theorem dX12_twice_3 : decode cX12_twice 3 = .ok (.istore 4, 2) := by decide +kernel
theorem dX12_twice_5 : decode cX12_twice 5 = .ok (.iload 4, 2) := by decide +kernel
theorem dX12_twice_7 : decode cX12_twice 7 = .ok (.bipush 40, 2) := by decide +kernel
theorem dX12_twice_9 : decode cX12_twice 9 = .ok (.if_icmp .ge 38, 3) := by decide +kernel
theorem dX12_twice_12 : decode cX12_twice 12 = .ok (.aload_n 0, 1) := by decide +kernel
theorem dX12_twice_13 : decode cX12_twice 13 = .ok (.iload_n 1, 1) := by decide +kernel
theorem dX12_twice_14 : decode cX12_twice 14 = .ok (.iload 4, 2) := by decide +kernel
theorem dX12_twice_16 : decode cX12_twice 16 = .ok (.iadd, 1) := by decide +kernel
theorem dX12_twice_17 : decode cX12_twice 17 = .ok (.iaload, 1) := by decide +kernel
theorem dX12_twice_18 : decode cX12_twice 18 = .ok (.iconst 2, 1) := by decide +kernel
theorem dX12_twice_19 : decode cX12_twice 19 = .ok (.imul, 1) := by decide +kernel
theorem dX12_twice_20 : decode cX12_twice 20 = .ok (.iload_n 3, 1) := by decide +kernel
theorem dX12_twice_21 : decode cX12_twice 21 = .ok (.iadd, 1) := by decide +kernel
theorem dX12_twice_22 : decode cX12_twice 22 = .ok (.istore 5, 2) := by decide +kernel
theorem dX12_twice_24 : decode cX12_twice 24 = .ok (.aload_n 0, 1) := by decide +kernel
theorem dX12_twice_25 : decode cX12_twice 25 = .ok (.iload_n 1, 1) := by decide +kernel
theorem dX12_twice_26 : decode cX12_twice 26 = .ok (.iload 4, 2) := by decide +kernel
theorem dX12_twice_28 : decode cX12_twice 28 = .ok (.iadd, 1) := by decide +kernel
theorem dX12_twice_29 : decode cX12_twice 29 = .ok (.iload 5, 2) := by decide +kernel
theorem dX12_twice_31 : decode cX12_twice 31 = .ok (.ldc 123, 2) := by decide +kernel
theorem dX12_twice_33 : decode cX12_twice 33 = .ok (.iand, 1) := by decide +kernel
theorem dX12_twice_34 : decode cX12_twice 34 = .ok (.iastore, 1) := by decide +kernel
theorem dX12_twice_35 : decode cX12_twice 35 = .ok (.iload 5, 2) := by decide +kernel
theorem dX12_twice_37 : decode cX12_twice 37 = .ok (.bipush 24, 2) := by decide +kernel
theorem dX12_twice_39 : decode cX12_twice 39 = .ok (.ishr, 1) := by decide +kernel
theorem dX12_twice_40 : decode cX12_twice 40 = .ok (.istore_n 3, 1) := by decide +kernel
theorem dX12_twice_41 : decode cX12_twice 41 = .ok (.iinc 4 1, 3) := by decide +kernel
theorem dX12_twice_44 : decode cX12_twice 44 = .ok (.goto (-39), 3) := by decide +kernel
theorem dX12_twice_47 : decode cX12_twice 47 = .ok (.return_, 1) := by decide +kernel
theorem dX12_part_0 : decode cX12_part 0 = .ok (.aload_n 0, 1) := by decide +kernel
theorem dX12_part_1 : decode cX12_part 1 = .ok (.getfield 7, 3) := by decide +kernel
theorem dX12_part_4 : decode cX12_part 4 = .ok (.iconst 0, 1) := by decide +kernel
theorem dX12_part_5 : decode cX12_part 5 = .ok (.lconst 0, 1) := by decide +kernel
theorem dX12_part_6 : decode cX12_part 6 = .ok (.invokestatic 127, 3) := by decide +kernel
theorem dX12_part_9 : decode cX12_part 9 = .ok (.aload_n 0, 1) := by decide +kernel
theorem dX12_part_10 : decode cX12_part 10 = .ok (.getfield 13, 3) := by decide +kernel
theorem dX12_part_13 : decode cX12_part 13 = .ok (.iconst 0, 1) := by decide +kernel
theorem dX12_part_14 : decode cX12_part 14 = .ok (.lconst 0, 1) := by decide +kernel
theorem dX12_part_15 : decode cX12_part 15 = .ok (.invokestatic 127, 3) := by decide +kernel
theorem dX12_part_18 : decode cX12_part 18 = .ok (.aload_n 1, 1) := by decide +kernel
theorem dX12_part_19 : decode cX12_part 19 = .ok (.iload_n 2, 1) := by decide +kernel
theorem dX12_part_20 : decode cX12_part 20 = .ok (.invokestatic 131, 3) := by decide +kernel
theorem dX12_part_23 : decode cX12_part 23 = .ok (.iconst 1, 1) := by decide +kernel
theorem dX12_part_24 : decode cX12_part 24 = .ok (.isub, 1) := by decide +kernel
theorem dX12_part_25 : decode cX12_part 25 = .ok (.istore 5, 2) := by decide +kernel
theorem dX12_part_27 : decode cX12_part 27 = .ok (.iload 5, 2) := by decide +kernel
theorem dX12_part_29 : decode cX12_part 29 = .ok (.ifCond .lt 72, 3) := by decide +kernel
theorem dX12_part_32 : decode cX12_part 32 = .ok (.aload_n 0, 1) := by decide +kernel
theorem dX12_part_33 : decode cX12_part 33 = .ok (.getfield 13, 3) := by decide +kernel
theorem dX12_part_36 : decode cX12_part 36 = .ok (.iconst 0, 1) := by decide +kernel
theorem dX12_part_37 : decode cX12_part 37 = .ok (.aload_n 1, 1) := by decide +kernel
theorem dX12_part_38 : decode cX12_part 38 = .ok (.iload_n 2, 1) := by decide +kernel
theorem dX12_part_39 : decode cX12_part 39 = .ok (.iload 5, 2) := by decide +kernel
theorem dX12_part_41 : decode cX12_part 41 = .ok (.invokestatic 135, 3) := by decide +kernel
theorem dX12_part_44 : decode cX12_part 44 = .ok (.invokestatic 139, 3) := by decide +kernel
theorem dX12_part_47 : decode cX12_part 47 = .ok (.aload_n 0, 1) := by decide +kernel
theorem dX12_part_48 : decode cX12_part 48 = .ok (.getfield 7, 3) := by decide +kernel
theorem dX12_part_51 : decode cX12_part 51 = .ok (.iconst 0, 1) := by decide +kernel
theorem dX12_part_52 : decode cX12_part 52 = .ok (.iconst 0, 1) := by decide +kernel
theorem dX12_part_53 : decode cX12_part 53 = .ok (.invokestatic 139, 3) := by decide +kernel
theorem dX12_part_56 : decode cX12_part 56 = .ok (.aload_n 0, 1) := by decide +kernel
theorem dX12_part_57 : decode cX12_part 57 = .ok (.getfield 13, 3) := by decide +kernel
theorem dX12_part_60 : decode cX12_part 60 = .ok (.iconst 0, 1) := by decide +kernel
theorem dX12_part_61 : decode cX12_part 61 = .ok (.aload_n 3, 1) := by decide +kernel
theorem dX12_part_62 : decode cX12_part 62 = .ok (.iload 4, 2) := by decide +kernel
theorem dX12_part_64 : decode cX12_part 64 = .ok (.invokestatic 143, 3) := by decide +kernel
theorem dX12_part_67 : decode cX12_part 67 = .ok (.ifCond .lt 28, 3) := by decide +kernel
theorem dX12_part_70 : decode cX12_part 70 = .ok (.aload_n 0, 1) := by decide +kernel
theorem dX12_part_71 : decode cX12_part 71 = .ok (.getfield 13, 3) := by decide +kernel
theorem dX12_part_74 : decode cX12_part 74 = .ok (.iconst 0, 1) := by decide +kernel
theorem dX12_part_75 : decode cX12_part 75 = .ok (.aload_n 3, 1) := by decide +kernel
theorem dX12_part_76 : decode cX12_part 76 = .ok (.iload 4, 2) := by decide +kernel
theorem dX12_part_78 : decode cX12_part 78 = .ok (.invokestatic 147, 3) := by decide +kernel
theorem dX12_part_81 : decode cX12_part 81 = .ok (.aload_n 0, 1) := by decide +kernel
theorem dX12_part_82 : decode cX12_part 82 = .ok (.getfield 7, 3) := by decide +kernel
theorem dX12_part_85 : decode cX12_part 85 = .ok (.iconst 0, 1) := by decide +kernel
theorem dX12_part_86 : decode cX12_part 86 = .ok (.aload_n 0, 1) := by decide +kernel
theorem dX12_part_87 : decode cX12_part 87 = .ok (.getfield 7, 3) := by decide +kernel
theorem dX12_part_90 : decode cX12_part 90 = .ok (.iconst 0, 1) := by decide +kernel
theorem dX12_part_91 : decode cX12_part 91 = .ok (.iaload, 1) := by decide +kernel
theorem dX12_part_92 : decode cX12_part 92 = .ok (.iconst 1, 1) := by decide +kernel
theorem dX12_part_93 : decode cX12_part 93 = .ok (.ior, 1) := by decide +kernel
theorem dX12_part_94 : decode cX12_part 94 = .ok (.iastore, 1) := by decide +kernel
theorem dX12_part_95 : decode cX12_part 95 = .ok (.iinc 5 (-1), 3) := by decide +kernel
theorem dX12_part_98 : decode cX12_part 98 = .ok (.goto (-71), 3) := by decide +kernel
theorem dX12_part_101 : decode cX12_part 101 = .ok (.return_, 1) := by decide +kernel
theorem dX12_findCommon_0 : decode cX12_findCommon 0 = .ok (.aload_n 1, 1) := by decide +kernel
theorem dX12_findCommon_1 : decode cX12_findCommon 1 = .ok (.iload_n 2, 1) := by decide +kernel
theorem dX12_findCommon_2 : decode cX12_findCommon 2 = .ok (.aload_n 0, 1) := by decide +kernel
theorem dX12_findCommon_3 : decode cX12_findCommon 3 = .ok (.getfield 16, 3) := by decide +kernel
theorem dX12_findCommon_6 : decode cX12_findCommon 6 = .ok (.iconst 0, 1) := by decide +kernel
theorem dX12_findCommon_7 : decode cX12_findCommon 7 = .ok (.invokestatic 151, 3) := by decide +kernel
theorem dX12_findCommon_10 : decode cX12_findCommon 10 = .ok (.aload_n 3, 1) := by decide +kernel
theorem dX12_findCommon_11 : decode cX12_findCommon 11 = .ok (.iload 4, 2) := by decide +kernel
theorem dX12_findCommon_13 : decode cX12_findCommon 13 = .ok (.aload_n 0, 1) := by decide +kernel
theorem dX12_findCommon_14 : decode cX12_findCommon 14 = .ok (.getfield 19, 3) := by decide +kernel
theorem dX12_findCommon_17 : decode cX12_findCommon 17 = .ok (.iconst 0, 1) := by decide +kernel
theorem dX12_findCommon_18 : decode cX12_findCommon 18 = .ok (.invokestatic 151, 3) := by decide +kernel
theorem dX12_findCommon_21 : decode cX12_findCommon 21 = .ok (.aload_n 0, 1) := by decide +kernel
theorem dX12_findCommon_22 : decode cX12_findCommon 22 = .ok (.getfield 19, 3) := by decide +kernel
theorem dX12_findCommon_25 : decode cX12_findCommon 25 = .ok (.iconst 0, 1) := by decide +kernel
theorem dX12_findCommon_26 : decode cX12_findCommon 26 = .ok (.invokestatic 131, 3) := by decide +kernel
theorem dX12_findCommon_29 : decode cX12_findCommon 29 = .ok (.ifCond .le 46, 3) := by decide +kernel
theorem dX12_findCommon_32 : decode cX12_findCommon 32 = .ok (.aload_n 0, 1) := by decide +kernel
theorem dX12_findCommon_33 : decode cX12_findCommon 33 = .ok (.aload_n 0, 1) := by decide +kernel
theorem dX12_findCommon_34 : decode cX12_findCommon 34 = .ok (.getfield 16, 3) := by decide +kernel
theorem dX12_findCommon_37 : decode cX12_findCommon 37 = .ok (.iconst 0, 1) := by decide +kernel
theorem dX12_findCommon_38 : decode cX12_findCommon 38 = .ok (.aload_n 0, 1) := by decide +kernel
theorem dX12_findCommon_39 : decode cX12_findCommon 39 = .ok (.getfield 19, 3) := by decide +kernel
theorem dX12_findCommon_42 : decode cX12_findCommon 42 = .ok (.iconst 0, 1) := by decide +kernel
theorem dX12_findCommon_43 : decode cX12_findCommon 43 = .ok (.invokevirtual 154, 3) := by decide +kernel
theorem dX12_findCommon_46 : decode cX12_findCommon 46 = .ok (.aload_n 0, 1) := by decide +kernel
theorem dX12_findCommon_47 : decode cX12_findCommon 47 = .ok (.getfield 19, 3) := by decide +kernel
theorem dX12_findCommon_50 : decode cX12_findCommon 50 = .ok (.iconst 0, 1) := by decide +kernel
theorem dX12_findCommon_51 : decode cX12_findCommon 51 = .ok (.aload_n 0, 1) := by decide +kernel
theorem dX12_findCommon_52 : decode cX12_findCommon 52 = .ok (.getfield 16, 3) := by decide +kernel
theorem dX12_findCommon_55 : decode cX12_findCommon 55 = .ok (.iconst 0, 1) := by decide +kernel
theorem dX12_findCommon_56 : decode cX12_findCommon 56 = .ok (.invokestatic 151, 3) := by decide +kernel
theorem dX12_findCommon_59 : decode cX12_findCommon 59 = .ok (.aload_n 0, 1) := by decide +kernel
theorem dX12_findCommon_60 : decode cX12_findCommon 60 = .ok (.getfield 13, 3) := by decide +kernel
theorem dX12_findCommon_63 : decode cX12_findCommon 63 = .ok (.iconst 0, 1) := by decide +kernel
theorem dX12_findCommon_64 : decode cX12_findCommon 64 = .ok (.aload_n 0, 1) := by decide +kernel
theorem dX12_findCommon_65 : decode cX12_findCommon 65 = .ok (.getfield 19, 3) := by decide +kernel
theorem dX12_findCommon_68 : decode cX12_findCommon 68 = .ok (.iconst 0, 1) := by decide +kernel
theorem dX12_findCommon_69 : decode cX12_findCommon 69 = .ok (.invokestatic 151, 3) := by decide +kernel
theorem dX12_findCommon_72 : decode cX12_findCommon 72 = .ok (.goto (-51), 3) := by decide +kernel
theorem dX12_findCommon_75 : decode cX12_findCommon 75 = .ok (.return_, 1) := by decide +kernel
theorem dX12_table_0 : decode cX12_table 0 = .ok (.iload_n 1, 1) := by decide +kernel
theorem dX12_table_1 : decode cX12_table 1 = .ok (.i2l, 1) := by decide +kernel
theorem dX12_table_2 : decode cX12_table 2 = .ok (.lconst 1, 1) := by decide +kernel
theorem dX12_table_3 : decode cX12_table 3 = .ok (.ldc2_w 157, 3) := by decide +kernel
theorem dX12_table_6 : decode cX12_table 6 = .ok (.invokestatic 159, 3) := by decide +kernel
theorem dX12_table_9 : decode cX12_table 9 = .ok (.ifCond .eq 15, 3) := by decide +kernel
theorem dX12_table_12 : decode cX12_table 12 = .ok (.iload_n 2, 1) := by decide +kernel
theorem dX12_table_13 : decode cX12_table 13 = .ok (.i2l, 1) := by decide +kernel
theorem dX12_table_14 : decode cX12_table 14 = .ok (.lconst 1, 1) := by decide +kernel
theorem dX12_table_15 : decode cX12_table 15 = .ok (.ldc2_w 157, 3) := by decide +kernel
theorem dX12_table_18 : decode cX12_table 18 = .ok (.invokestatic 159, 3) := by decide +kernel
theorem dX12_table_21 : decode cX12_table 21 = .ok (.ifCond .ne 6, 3) := by decide +kernel
theorem dX12_table_24 : decode cX12_table 24 = .ok (.bipush (-2), 2) := by decide +kernel
theorem dX12_table_26 : decode cX12_table 26 = .ok (.ireturn, 1) := by decide +kernel
theorem dX12_table_27 : decode cX12_table 27 = .ok (.aload_n 0, 1) := by decide +kernel
theorem dX12_table_28 : decode cX12_table 28 = .ok (.iload_n 1, 1) := by decide +kernel
theorem dX12_table_29 : decode cX12_table 29 = .ok (.putfield 115, 3) := by decide +kernel
theorem dX12_table_32 : decode cX12_table 32 = .ok (.aload_n 0, 1) := by decide +kernel
theorem dX12_table_33 : decode cX12_table 33 = .ok (.iload_n 2, 1) := by decide +kernel
theorem dX12_table_34 : decode cX12_table 34 = .ok (.putfield 118, 3) := by decide +kernel
theorem dX12_table_37 : decode cX12_table 37 = .ok (.iconst 0, 1) := by decide +kernel
theorem dX12_table_38 : decode cX12_table 38 = .ok (.istore_n 3, 1) := by decide +kernel
theorem dX12_table_39 : decode cX12_table 39 = .ok (.iload_n 3, 1) := by decide +kernel
theorem dX12_table_40 : decode cX12_table 40 = .ok (.bipush 25, 2) := by decide +kernel
theorem dX12_table_42 : decode cX12_table 42 = .ok (.if_icmp .ge 16, 3) := by decide +kernel
theorem dX12_table_45 : decode cX12_table 45 = .ok (.aload_n 0, 1) := by decide +kernel
theorem dX12_table_46 : decode cX12_table 46 = .ok (.getfield 22, 3) := by decide +kernel
theorem dX12_table_49 : decode cX12_table 49 = .ok (.iload_n 3, 1) := by decide +kernel
theorem dX12_table_50 : decode cX12_table 50 = .ok (.iconst 0, 1) := by decide +kernel
theorem dX12_table_51 : decode cX12_table 51 = .ok (.iastore, 1) := by decide +kernel
theorem dX12_table_52 : decode cX12_table 52 = .ok (.iinc 3 1, 3) := by decide +kernel
theorem dX12_table_55 : decode cX12_table 55 = .ok (.goto (-16), 3) := by decide +kernel
theorem dX12_table_58 : decode cX12_table 58 = .ok (.aload_n 0, 1) := by decide +kernel
theorem dX12_table_59 : decode cX12_table 59 = .ok (.iconst 0, 1) := by decide +kernel
theorem dX12_table_60 : decode cX12_table 60 = .ok (.putfield 163, 3) := by decide +kernel
theorem dX12_table_63 : decode cX12_table 63 = .ok (.iconst 1, 1) := by decide +kernel
theorem dX12_table_64 : decode cX12_table 64 = .ok (.ireturn, 1) := by decide +kernel
theorem dX12_cell_0 : decode cX12_cell 0 = .ok (.iload_n 1, 1) := by decide +kernel
theorem dX12_cell_1 : decode cX12_cell 1 = .ok (.i2l, 1) := by decide +kernel
theorem dX12_cell_2 : decode cX12_cell 2 = .ok (.lconst 0, 1) := by decide +kernel
theorem dX12_cell_3 : decode cX12_cell 3 = .ok (.aload_n 0, 1) := by decide +kernel
theorem dX12_cell_4 : decode cX12_cell 4 = .ok (.getfield 115, 3) := by decide +kernel
theorem dX12_cell_7 : decode cX12_cell 7 = .ok (.iconst 1, 1) := by decide +kernel
theorem dX12_cell_8 : decode cX12_cell 8 = .ok (.isub, 1) := by decide +kernel
theorem dX12_cell_9 : decode cX12_cell 9 = .ok (.i2l, 1) := by decide +kernel
theorem dX12_cell_10 : decode cX12_cell 10 = .ok (.invokestatic 159, 3) := by decide +kernel
theorem dX12_cell_13 : decode cX12_cell 13 = .ok (.ifCond .eq 19, 3) := by decide +kernel
theorem dX12_cell_16 : decode cX12_cell 16 = .ok (.iload_n 2, 1) := by decide +kernel
theorem dX12_cell_17 : decode cX12_cell 17 = .ok (.i2l, 1) := by decide +kernel
theorem dX12_cell_18 : decode cX12_cell 18 = .ok (.lconst 0, 1) := by decide +kernel
theorem dX12_cell_19 : decode cX12_cell 19 = .ok (.aload_n 0, 1) := by decide +kernel
theorem dX12_cell_20 : decode cX12_cell 20 = .ok (.getfield 118, 3) := by decide +kernel
theorem dX12_cell_23 : decode cX12_cell 23 = .ok (.iconst 1, 1) := by decide +kernel
theorem dX12_cell_24 : decode cX12_cell 24 = .ok (.isub, 1) := by decide +kernel
theorem dX12_cell_25 : decode cX12_cell 25 = .ok (.i2l, 1) := by decide +kernel
theorem dX12_cell_26 : decode cX12_cell 26 = .ok (.invokestatic 159, 3) := by decide +kernel
theorem dX12_cell_29 : decode cX12_cell 29 = .ok (.ifCond .ne 5, 3) := by decide +kernel
theorem dX12_cell_32 : decode cX12_cell 32 = .ok (.iconst (-1), 1) := by decide +kernel
theorem dX12_cell_33 : decode cX12_cell 33 = .ok (.ireturn, 1) := by decide +kernel
theorem dX12_cell_34 : decode cX12_cell 34 = .ok (.iload_n 3, 1) := by decide +kernel
theorem dX12_cell_35 : decode cX12_cell 35 = .ok (.i2l, 1) := by decide +kernel
theorem dX12_cell_36 : decode cX12_cell 36 = .ok (.lconst 0, 1) := by decide +kernel
theorem dX12_cell_37 : decode cX12_cell 37 = .ok (.ldc2_w 166, 3) := by decide +kernel
theorem dX12_cell_40 : decode cX12_cell 40 = .ok (.invokestatic 159, 3) := by decide +kernel
theorem dX12_cell_43 : decode cX12_cell 43 = .ok (.ifCond .ne 6, 3) := by decide +kernel
theorem dX12_cell_46 : decode cX12_cell 46 = .ok (.bipush (-2), 2) := by decide +kernel
theorem dX12_cell_48 : decode cX12_cell 48 = .ok (.ireturn, 1) := by decide +kernel
theorem dX12_cell_49 : decode cX12_cell 49 = .ok (.aload_n 0, 1) := by decide +kernel
theorem dX12_cell_50 : decode cX12_cell 50 = .ok (.getfield 118, 3) := by decide +kernel
theorem dX12_cell_53 : decode cX12_cell 53 = .ok (.iload_n 1, 1) := by decide +kernel
theorem dX12_cell_54 : decode cX12_cell 54 = .ok (.imul, 1) := by decide +kernel
theorem dX12_cell_55 : decode cX12_cell 55 = .ok (.iload_n 2, 1) := by decide +kernel
theorem dX12_cell_56 : decode cX12_cell 56 = .ok (.iadd, 1) := by decide +kernel
theorem dX12_cell_57 : decode cX12_cell 57 = .ok (.istore 4, 2) := by decide +kernel
theorem dX12_cell_59 : decode cX12_cell 59 = .ok (.aload_n 0, 1) := by decide +kernel
theorem dX12_cell_60 : decode cX12_cell 60 = .ok (.getfield 22, 3) := by decide +kernel
theorem dX12_cell_63 : decode cX12_cell 63 = .ok (.iload 4, 2) := by decide +kernel
theorem dX12_cell_65 : decode cX12_cell 65 = .ok (.iaload, 1) := by decide +kernel
theorem dX12_cell_66 : decode cX12_cell 66 = .ok (.istore 5, 2) := by decide +kernel
theorem dX12_cell_68 : decode cX12_cell 68 = .ok (.aload_n 0, 1) := by decide +kernel
theorem dX12_cell_69 : decode cX12_cell 69 = .ok (.getfield 163, 3) := by decide +kernel
theorem dX12_cell_72 : decode cX12_cell 72 = .ok (.iload 5, 2) := by decide +kernel
theorem dX12_cell_74 : decode cX12_cell 74 = .ok (.isub, 1) := by decide +kernel
theorem dX12_cell_75 : decode cX12_cell 75 = .ok (.iload_n 3, 1) := by decide +kernel
theorem dX12_cell_76 : decode cX12_cell 76 = .ok (.iadd, 1) := by decide +kernel
theorem dX12_cell_77 : decode cX12_cell 77 = .ok (.bipush 60, 2) := by decide +kernel
theorem dX12_cell_79 : decode cX12_cell 79 = .ok (.if_icmp .le 6, 3) := by decide +kernel
theorem dX12_cell_82 : decode cX12_cell 82 = .ok (.bipush (-4), 2) := by decide +kernel
theorem dX12_cell_84 : decode cX12_cell 84 = .ok (.ireturn, 1) := by decide +kernel
theorem dX12_cell_85 : decode cX12_cell 85 = .ok (.aload_n 0, 1) := by decide +kernel
theorem dX12_cell_86 : decode cX12_cell 86 = .ok (.dup, 1) := by decide +kernel
theorem dX12_cell_87 : decode cX12_cell 87 = .ok (.getfield 163, 3) := by decide +kernel
theorem dX12_cell_90 : decode cX12_cell 90 = .ok (.iload_n 3, 1) := by decide +kernel
theorem dX12_cell_91 : decode cX12_cell 91 = .ok (.iload 5, 2) := by decide +kernel
theorem dX12_cell_93 : decode cX12_cell 93 = .ok (.isub, 1) := by decide +kernel
theorem dX12_cell_94 : decode cX12_cell 94 = .ok (.iadd, 1) := by decide +kernel
theorem dX12_cell_95 : decode cX12_cell 95 = .ok (.putfield 163, 3) := by decide +kernel
theorem dX12_cell_98 : decode cX12_cell 98 = .ok (.aload_n 0, 1) := by decide +kernel
theorem dX12_cell_99 : decode cX12_cell 99 = .ok (.getfield 22, 3) := by decide +kernel
theorem dX12_cell_102 : decode cX12_cell 102 = .ok (.iload 4, 2) := by decide +kernel
theorem dX12_cell_104 : decode cX12_cell 104 = .ok (.iload_n 3, 1) := by decide +kernel
theorem dX12_cell_105 : decode cX12_cell 105 = .ok (.iastore, 1) := by decide +kernel
theorem dX12_cell_106 : decode cX12_cell 106 = .ok (.iload 5, 2) := by decide +kernel
theorem dX12_cell_108 : decode cX12_cell 108 = .ok (.ireturn, 1) := by decide +kernel
theorem dX12_marginOfRow_0 : decode cX12_marginOfRow 0 = .ok (.iconst 0, 1) := by decide +kernel
theorem dX12_marginOfRow_1 : decode cX12_marginOfRow 1 = .ok (.istore_n 2, 1) := by decide +kernel
theorem dX12_marginOfRow_2 : decode cX12_marginOfRow 2 = .ok (.iconst 0, 1) := by decide +kernel
theorem dX12_marginOfRow_3 : decode cX12_marginOfRow 3 = .ok (.istore_n 3, 1) := by decide +kernel
theorem dX12_marginOfRow_4 : decode cX12_marginOfRow 4 = .ok (.iload_n 3, 1) := by decide +kernel
theorem dX12_marginOfRow_5 : decode cX12_marginOfRow 5 = .ok (.aload_n 0, 1) := by decide +kernel
theorem dX12_marginOfRow_6 : decode cX12_marginOfRow 6 = .ok (.getfield 118, 3) := by decide +kernel
theorem dX12_marginOfRow_9 : decode cX12_marginOfRow 9 = .ok (.if_icmp .ge 25, 3) := by decide +kernel
theorem dX12_marginOfRow_12 : decode cX12_marginOfRow 12 = .ok (.iload_n 2, 1) := by decide +kernel
theorem dX12_marginOfRow_13 : decode cX12_marginOfRow 13 = .ok (.aload_n 0, 1) := by decide +kernel
theorem dX12_marginOfRow_14 : decode cX12_marginOfRow 14 = .ok (.getfield 22, 3) := by decide +kernel
theorem dX12_marginOfRow_17 : decode cX12_marginOfRow 17 = .ok (.aload_n 0, 1) := by decide +kernel
theorem dX12_marginOfRow_18 : decode cX12_marginOfRow 18 = .ok (.getfield 118, 3) := by decide +kernel
theorem dX12_marginOfRow_21 : decode cX12_marginOfRow 21 = .ok (.iload_n 1, 1) := by decide +kernel
theorem dX12_marginOfRow_22 : decode cX12_marginOfRow 22 = .ok (.imul, 1) := by decide +kernel
theorem dX12_marginOfRow_23 : decode cX12_marginOfRow 23 = .ok (.iload_n 3, 1) := by decide +kernel
theorem dX12_marginOfRow_24 : decode cX12_marginOfRow 24 = .ok (.iadd, 1) := by decide +kernel
theorem dX12_marginOfRow_25 : decode cX12_marginOfRow 25 = .ok (.iaload, 1) := by decide +kernel
theorem dX12_marginOfRow_26 : decode cX12_marginOfRow 26 = .ok (.iadd, 1) := by decide +kernel
theorem dX12_marginOfRow_27 : decode cX12_marginOfRow 27 = .ok (.istore_n 2, 1) := by decide +kernel
theorem dX12_marginOfRow_28 : decode cX12_marginOfRow 28 = .ok (.iinc 3 1, 3) := by decide +kernel
theorem dX12_marginOfRow_31 : decode cX12_marginOfRow 31 = .ok (.goto (-27), 3) := by decide +kernel
theorem dX12_marginOfRow_34 : decode cX12_marginOfRow 34 = .ok (.iload_n 2, 1) := by decide +kernel
theorem dX12_marginOfRow_35 : decode cX12_marginOfRow 35 = .ok (.ireturn, 1) := by decide +kernel
theorem dX12_marginOfColumn_0 : decode cX12_marginOfColumn 0 = .ok (.iconst 0, 1) := by decide +kernel
theorem dX12_marginOfColumn_1 : decode cX12_marginOfColumn 1 = .ok (.istore_n 2, 1) := by decide +kernel
theorem dX12_marginOfColumn_2 : decode cX12_marginOfColumn 2 = .ok (.iconst 0, 1) := by decide +kernel
theorem dX12_marginOfColumn_3 : decode cX12_marginOfColumn 3 = .ok (.istore_n 3, 1) := by decide +kernel
theorem dX12_marginOfColumn_4 : decode cX12_marginOfColumn 4 = .ok (.iload_n 3, 1) := by decide +kernel
theorem dX12_marginOfColumn_5 : decode cX12_marginOfColumn 5 = .ok (.aload_n 0, 1) := by decide +kernel
theorem dX12_marginOfColumn_6 : decode cX12_marginOfColumn 6 = .ok (.getfield 115, 3) := by decide +kernel
theorem dX12_marginOfColumn_9 : decode cX12_marginOfColumn 9 = .ok (.if_icmp .ge 25, 3) := by decide +kernel
theorem dX12_marginOfColumn_12 : decode cX12_marginOfColumn 12 = .ok (.iload_n 2, 1) := by decide +kernel
theorem dX12_marginOfColumn_13 : decode cX12_marginOfColumn 13 = .ok (.aload_n 0, 1) := by decide +kernel
theorem dX12_marginOfColumn_14 : decode cX12_marginOfColumn 14 = .ok (.getfield 22, 3) := by decide +kernel
theorem dX12_marginOfColumn_17 : decode cX12_marginOfColumn 17 = .ok (.aload_n 0, 1) := by decide +kernel
theorem dX12_marginOfColumn_18 : decode cX12_marginOfColumn 18 = .ok (.getfield 118, 3) := by decide +kernel
theorem dX12_marginOfColumn_21 : decode cX12_marginOfColumn 21 = .ok (.iload_n 3, 1) := by decide +kernel
theorem dX12_marginOfColumn_22 : decode cX12_marginOfColumn 22 = .ok (.imul, 1) := by decide +kernel
theorem dX12_marginOfColumn_23 : decode cX12_marginOfColumn 23 = .ok (.iload_n 1, 1) := by decide +kernel
theorem dX12_marginOfColumn_24 : decode cX12_marginOfColumn 24 = .ok (.iadd, 1) := by decide +kernel
theorem dX12_marginOfColumn_25 : decode cX12_marginOfColumn 25 = .ok (.iaload, 1) := by decide +kernel
theorem dX12_marginOfColumn_26 : decode cX12_marginOfColumn 26 = .ok (.iadd, 1) := by decide +kernel
theorem dX12_marginOfColumn_27 : decode cX12_marginOfColumn 27 = .ok (.istore_n 2, 1) := by decide +kernel
theorem dX12_marginOfColumn_28 : decode cX12_marginOfColumn 28 = .ok (.iinc 3 1, 3) := by decide +kernel
theorem dX12_marginOfColumn_31 : decode cX12_marginOfColumn 31 = .ok (.goto (-27), 3) := by decide +kernel
theorem dX12_marginOfColumn_34 : decode cX12_marginOfColumn 34 = .ok (.iload_n 2, 1) := by decide +kernel
theorem dX12_marginOfColumn_35 : decode cX12_marginOfColumn 35 = .ok (.ireturn, 1) := by decide +kernel
theorem dX12_about_0 : decode cX12_about 0 = .ok (.iload_n 3, 1) := by decide +kernel
theorem dX12_about_1 : decode cX12_about 1 = .ok (.i2l, 1) := by decide +kernel
theorem dX12_about_2 : decode cX12_about 2 = .ok (.lconst 0, 1) := by decide +kernel
theorem dX12_about_3 : decode cX12_about 3 = .ok (.ldc2_w 168, 3) := by decide +kernel
theorem dX12_about_6 : decode cX12_about 6 = .ok (.invokestatic 159, 3) := by decide +kernel
theorem dX12_about_9 : decode cX12_about 9 = .ok (.ifCond .ne 6, 3) := by decide +kernel
theorem dX12_about_12 : decode cX12_about 12 = .ok (.bipush (-2), 2) := by decide +kernel
theorem dX12_about_14 : decode cX12_about 14 = .ok (.ireturn, 1) := by decide +kernel
theorem dX12_about_15 : decode cX12_about 15 = .ok (.iload_n 3, 1) := by decide +kernel
theorem dX12_about_16 : decode cX12_about 16 = .ok (.iconst 2, 1) := by decide +kernel
theorem dX12_about_17 : decode cX12_about 17 = .ok (.if_icmp .ge 19, 3) := by decide +kernel
theorem dX12_about_20 : decode cX12_about 20 = .ok (.iload_n 1, 1) := by decide +kernel
theorem dX12_about_21 : decode cX12_about 21 = .ok (.i2l, 1) := by decide +kernel
theorem dX12_about_22 : decode cX12_about 22 = .ok (.lconst 0, 1) := by decide +kernel
theorem dX12_about_23 : decode cX12_about 23 = .ok (.aload_n 0, 1) := by decide +kernel
theorem dX12_about_24 : decode cX12_about 24 = .ok (.getfield 115, 3) := by decide +kernel
theorem dX12_about_27 : decode cX12_about 27 = .ok (.iconst 1, 1) := by decide +kernel
theorem dX12_about_28 : decode cX12_about 28 = .ok (.isub, 1) := by decide +kernel
theorem dX12_about_29 : decode cX12_about 29 = .ok (.i2l, 1) := by decide +kernel
theorem dX12_about_30 : decode cX12_about 30 = .ok (.invokestatic 159, 3) := by decide +kernel
theorem dX12_about_33 : decode cX12_about 33 = .ok (.ifCond .eq 28, 3) := by decide +kernel
theorem dX12_about_36 : decode cX12_about 36 = .ok (.iload_n 3, 1) := by decide +kernel
theorem dX12_about_37 : decode cX12_about 37 = .ok (.ifCond .eq 8, 3) := by decide +kernel
theorem dX12_about_40 : decode cX12_about 40 = .ok (.iload_n 3, 1) := by decide +kernel
theorem dX12_about_41 : decode cX12_about 41 = .ok (.iconst 2, 1) := by decide +kernel
theorem dX12_about_42 : decode cX12_about 42 = .ok (.if_icmp .ne 21, 3) := by decide +kernel
theorem dX12_about_45 : decode cX12_about 45 = .ok (.iload_n 2, 1) := by decide +kernel
theorem dX12_about_46 : decode cX12_about 46 = .ok (.i2l, 1) := by decide +kernel
theorem dX12_about_47 : decode cX12_about 47 = .ok (.lconst 0, 1) := by decide +kernel
theorem dX12_about_48 : decode cX12_about 48 = .ok (.aload_n 0, 1) := by decide +kernel
theorem dX12_about_49 : decode cX12_about 49 = .ok (.getfield 118, 3) := by decide +kernel
theorem dX12_about_52 : decode cX12_about 52 = .ok (.iconst 1, 1) := by decide +kernel
theorem dX12_about_53 : decode cX12_about 53 = .ok (.isub, 1) := by decide +kernel
theorem dX12_about_54 : decode cX12_about 54 = .ok (.i2l, 1) := by decide +kernel
theorem dX12_about_55 : decode cX12_about 55 = .ok (.invokestatic 159, 3) := by decide +kernel
theorem dX12_about_58 : decode cX12_about 58 = .ok (.ifCond .ne 5, 3) := by decide +kernel
theorem dX12_about_61 : decode cX12_about 61 = .ok (.iconst (-1), 1) := by decide +kernel
theorem dX12_about_62 : decode cX12_about 62 = .ok (.ireturn, 1) := by decide +kernel
theorem dX12_about_63 : decode cX12_about 63 = .ok (.iload_n 3, 1) := by decide +kernel
theorem dX12_about_64 : decode cX12_about 64 = .ok (.ifCond .ne 19, 3) := by decide +kernel
theorem dX12_about_67 : decode cX12_about 67 = .ok (.aload_n 0, 1) := by decide +kernel
theorem dX12_about_68 : decode cX12_about 68 = .ok (.getfield 22, 3) := by decide +kernel
theorem dX12_about_71 : decode cX12_about 71 = .ok (.aload_n 0, 1) := by decide +kernel
theorem dX12_about_72 : decode cX12_about 72 = .ok (.getfield 118, 3) := by decide +kernel
theorem dX12_about_75 : decode cX12_about 75 = .ok (.iload_n 1, 1) := by decide +kernel
theorem dX12_about_76 : decode cX12_about 76 = .ok (.imul, 1) := by decide +kernel
theorem dX12_about_77 : decode cX12_about 77 = .ok (.iload_n 2, 1) := by decide +kernel
theorem dX12_about_78 : decode cX12_about 78 = .ok (.iadd, 1) := by decide +kernel
theorem dX12_about_79 : decode cX12_about 79 = .ok (.iaload, 1) := by decide +kernel
theorem dX12_about_80 : decode cX12_about 80 = .ok (.goto 33, 3) := by decide +kernel
theorem dX12_about_83 : decode cX12_about 83 = .ok (.iload_n 3, 1) := by decide +kernel
theorem dX12_about_84 : decode cX12_about 84 = .ok (.iconst 1, 1) := by decide +kernel
theorem dX12_about_85 : decode cX12_about 85 = .ok (.if_icmp .ne 11, 3) := by decide +kernel
theorem dX12_about_88 : decode cX12_about 88 = .ok (.aload_n 0, 1) := by decide +kernel
theorem dX12_about_89 : decode cX12_about 89 = .ok (.iload_n 1, 1) := by decide +kernel
theorem dX12_about_90 : decode cX12_about 90 = .ok (.invokevirtual 170, 3) := by decide +kernel
theorem dX12_about_93 : decode cX12_about 93 = .ok (.goto 20, 3) := by decide +kernel
theorem dX12_about_96 : decode cX12_about 96 = .ok (.iload_n 3, 1) := by decide +kernel
theorem dX12_about_97 : decode cX12_about 97 = .ok (.iconst 2, 1) := by decide +kernel
theorem dX12_about_98 : decode cX12_about 98 = .ok (.if_icmp .ne 11, 3) := by decide +kernel
theorem dX12_about_101 : decode cX12_about 101 = .ok (.aload_n 0, 1) := by decide +kernel
theorem dX12_about_102 : decode cX12_about 102 = .ok (.iload_n 2, 1) := by decide +kernel
theorem dX12_about_103 : decode cX12_about 103 = .ok (.invokevirtual 174, 3) := by decide +kernel
theorem dX12_about_106 : decode cX12_about 106 = .ok (.goto 7, 3) := by decide +kernel
theorem dX12_about_109 : decode cX12_about 109 = .ok (.aload_n 0, 1) := by decide +kernel
theorem dX12_about_110 : decode cX12_about 110 = .ok (.getfield 163, 3) := by decide +kernel
theorem dX12_about_113 : decode cX12_about 113 = .ok (.ireturn, 1) := by decide +kernel
theorem dX12_sample_0 : decode cX12_sample 0 = .ok (.iload_n 1, 1) := by decide +kernel
theorem dX12_sample_1 : decode cX12_sample 1 = .ok (.i2l, 1) := by decide +kernel
theorem dX12_sample_2 : decode cX12_sample 2 = .ok (.lconst 0, 1) := by decide +kernel
theorem dX12_sample_3 : decode cX12_sample 3 = .ok (.lconst 1, 1) := by decide +kernel
theorem dX12_sample_4 : decode cX12_sample 4 = .ok (.invokestatic 159, 3) := by decide +kernel
theorem dX12_sample_7 : decode cX12_sample 7 = .ok (.ifCond .ne 5, 3) := by decide +kernel
theorem dX12_sample_10 : decode cX12_sample 10 = .ok (.iconst (-1), 1) := by decide +kernel
theorem dX12_sample_11 : decode cX12_sample 11 = .ok (.ireturn, 1) := by decide +kernel
theorem dX12_sample_12 : decode cX12_sample 12 = .ok (.iload_n 2, 1) := by decide +kernel
theorem dX12_sample_13 : decode cX12_sample 13 = .ok (.i2l, 1) := by decide +kernel
theorem dX12_sample_14 : decode cX12_sample 14 = .ok (.ldc2_w 177, 3) := by decide +kernel
theorem dX12_sample_17 : decode cX12_sample 17 = .ok (.ldc2_w 179, 3) := by decide +kernel
theorem dX12_sample_20 : decode cX12_sample 20 = .ok (.invokestatic 159, 3) := by decide +kernel
theorem dX12_sample_23 : decode cX12_sample 23 = .ok (.ifCond .ne 6, 3) := by decide +kernel
theorem dX12_sample_26 : decode cX12_sample 26 = .ok (.bipush (-2), 2) := by decide +kernel
theorem dX12_sample_28 : decode cX12_sample 28 = .ok (.ireturn, 1) := by decide +kernel
theorem dX12_sample_29 : decode cX12_sample 29 = .ok (.aload_n 0, 1) := by decide +kernel
theorem dX12_sample_30 : decode cX12_sample 30 = .ok (.getfield 28, 3) := by decide +kernel
theorem dX12_sample_33 : decode cX12_sample 33 = .ok (.iload_n 1, 1) := by decide +kernel
theorem dX12_sample_34 : decode cX12_sample 34 = .ok (.iaload, 1) := by decide +kernel
theorem dX12_sample_35 : decode cX12_sample 35 = .ok (.bipush 15, 2) := by decide +kernel
theorem dX12_sample_37 : decode cX12_sample 37 = .ok (.if_icmp .ne 6, 3) := by decide +kernel
theorem dX12_sample_40 : decode cX12_sample 40 = .ok (.bipush (-4), 2) := by decide +kernel
theorem dX12_sample_42 : decode cX12_sample 42 = .ok (.ireturn, 1) := by decide +kernel
theorem dX12_sample_43 : decode cX12_sample 43 = .ok (.aload_n 0, 1) := by decide +kernel
theorem dX12_sample_44 : decode cX12_sample 44 = .ok (.getfield 25, 3) := by decide +kernel
theorem dX12_sample_47 : decode cX12_sample 47 = .ok (.bipush 15, 2) := by decide +kernel
theorem dX12_sample_49 : decode cX12_sample 49 = .ok (.iload_n 1, 1) := by decide +kernel
theorem dX12_sample_50 : decode cX12_sample 50 = .ok (.imul, 1) := by decide +kernel
theorem dX12_sample_51 : decode cX12_sample 51 = .ok (.aload_n 0, 1) := by decide +kernel
theorem dX12_sample_52 : decode cX12_sample 52 = .ok (.getfield 28, 3) := by decide +kernel
theorem dX12_sample_55 : decode cX12_sample 55 = .ok (.iload_n 1, 1) := by decide +kernel
theorem dX12_sample_56 : decode cX12_sample 56 = .ok (.iaload, 1) := by decide +kernel
theorem dX12_sample_57 : decode cX12_sample 57 = .ok (.iadd, 1) := by decide +kernel
theorem dX12_sample_58 : decode cX12_sample 58 = .ok (.iload_n 2, 1) := by decide +kernel
theorem dX12_sample_59 : decode cX12_sample 59 = .ok (.iastore, 1) := by decide +kernel
theorem dX12_sample_60 : decode cX12_sample 60 = .ok (.aload_n 0, 1) := by decide +kernel
theorem dX12_sample_61 : decode cX12_sample 61 = .ok (.getfield 28, 3) := by decide +kernel
theorem dX12_sample_64 : decode cX12_sample 64 = .ok (.iload_n 1, 1) := by decide +kernel
theorem dX12_sample_65 : decode cX12_sample 65 = .ok (.dup2, 1) := by decide +kernel
theorem dX12_sample_66 : decode cX12_sample 66 = .ok (.iaload, 1) := by decide +kernel
theorem dX12_sample_67 : decode cX12_sample 67 = .ok (.iconst 1, 1) := by decide +kernel
theorem dX12_sample_68 : decode cX12_sample 68 = .ok (.iadd, 1) := by decide +kernel
theorem dX12_sample_69 : decode cX12_sample 69 = .ok (.iastore, 1) := by decide +kernel
theorem dX12_sample_70 : decode cX12_sample 70 = .ok (.aload_n 0, 1) := by decide +kernel
theorem dX12_sample_71 : decode cX12_sample 71 = .ok (.getfield 28, 3) := by decide +kernel
theorem dX12_sample_74 : decode cX12_sample 74 = .ok (.iload_n 1, 1) := by decide +kernel
theorem dX12_sample_75 : decode cX12_sample 75 = .ok (.iaload, 1) := by decide +kernel
theorem dX12_sample_76 : decode cX12_sample 76 = .ok (.ireturn, 1) := by decide +kernel
theorem dX12_pair_0 : decode cX12_pair 0 = .ok (.iload_n 1, 1) := by decide +kernel
theorem dX12_pair_1 : decode cX12_pair 1 = .ok (.i2l, 1) := by decide +kernel
theorem dX12_pair_2 : decode cX12_pair 2 = .ok (.ldc2_w 177, 3) := by decide +kernel
theorem dX12_pair_5 : decode cX12_pair 5 = .ok (.ldc2_w 179, 3) := by decide +kernel
theorem dX12_pair_8 : decode cX12_pair 8 = .ok (.invokestatic 159, 3) := by decide +kernel
theorem dX12_pair_11 : decode cX12_pair 11 = .ok (.ifCond .eq 17, 3) := by decide +kernel
theorem dX12_pair_14 : decode cX12_pair 14 = .ok (.iload_n 2, 1) := by decide +kernel
theorem dX12_pair_15 : decode cX12_pair 15 = .ok (.i2l, 1) := by decide +kernel
theorem dX12_pair_16 : decode cX12_pair 16 = .ok (.ldc2_w 177, 3) := by decide +kernel
theorem dX12_pair_19 : decode cX12_pair 19 = .ok (.ldc2_w 179, 3) := by decide +kernel
theorem dX12_pair_22 : decode cX12_pair 22 = .ok (.invokestatic 159, 3) := by decide +kernel
theorem dX12_pair_25 : decode cX12_pair 25 = .ok (.ifCond .ne 6, 3) := by decide +kernel
theorem dX12_pair_28 : decode cX12_pair 28 = .ok (.bipush (-2), 2) := by decide +kernel
theorem dX12_pair_30 : decode cX12_pair 30 = .ok (.ireturn, 1) := by decide +kernel
theorem dX12_pair_31 : decode cX12_pair 31 = .ok (.aload_n 0, 1) := by decide +kernel
theorem dX12_pair_32 : decode cX12_pair 32 = .ok (.getfield 181, 3) := by decide +kernel
theorem dX12_pair_35 : decode cX12_pair 35 = .ok (.bipush 30, 2) := by decide +kernel
theorem dX12_pair_37 : decode cX12_pair 37 = .ok (.if_icmp .ne 6, 3) := by decide +kernel
theorem dX12_pair_40 : decode cX12_pair 40 = .ok (.bipush (-4), 2) := by decide +kernel
theorem dX12_pair_42 : decode cX12_pair 42 = .ok (.ireturn, 1) := by decide +kernel
theorem dX12_pair_43 : decode cX12_pair 43 = .ok (.aload_n 0, 1) := by decide +kernel
theorem dX12_pair_44 : decode cX12_pair 44 = .ok (.getfield 31, 3) := by decide +kernel
theorem dX12_pair_47 : decode cX12_pair 47 = .ok (.aload_n 0, 1) := by decide +kernel
theorem dX12_pair_48 : decode cX12_pair 48 = .ok (.getfield 181, 3) := by decide +kernel
theorem dX12_pair_51 : decode cX12_pair 51 = .ok (.iload_n 1, 1) := by decide +kernel
theorem dX12_pair_52 : decode cX12_pair 52 = .ok (.iload_n 2, 1) := by decide +kernel
theorem dX12_pair_53 : decode cX12_pair 53 = .ok (.isub, 1) := by decide +kernel
theorem dX12_pair_54 : decode cX12_pair 54 = .ok (.iastore, 1) := by decide +kernel
theorem dX12_pair_55 : decode cX12_pair 55 = .ok (.aload_n 0, 1) := by decide +kernel
theorem dX12_pair_56 : decode cX12_pair 56 = .ok (.dup, 1) := by decide +kernel
theorem dX12_pair_57 : decode cX12_pair 57 = .ok (.getfield 181, 3) := by decide +kernel
theorem dX12_pair_60 : decode cX12_pair 60 = .ok (.iconst 1, 1) := by decide +kernel
theorem dX12_pair_61 : decode cX12_pair 61 = .ok (.iadd, 1) := by decide +kernel
theorem dX12_pair_62 : decode cX12_pair 62 = .ok (.putfield 181, 3) := by decide +kernel
theorem dX12_pair_65 : decode cX12_pair 65 = .ok (.aload_n 0, 1) := by decide +kernel
theorem dX12_pair_66 : decode cX12_pair 66 = .ok (.getfield 181, 3) := by decide +kernel
theorem dX12_pair_69 : decode cX12_pair 69 = .ok (.ireturn, 1) := by decide +kernel
theorem dX12_clear_0 : decode cX12_clear 0 = .ok (.iload_n 1, 1) := by decide +kernel
theorem dX12_clear_1 : decode cX12_clear 1 = .ok (.tableswitch 97 0 3 #[31, 61, 73, 85], 31) := by decide +kernel
theorem dX12_clear_32 : decode cX12_clear 32 = .ok (.aload_n 0, 1) := by decide +kernel
theorem dX12_clear_33 : decode cX12_clear 33 = .ok (.getfield 28, 3) := by decide +kernel
theorem dX12_clear_36 : decode cX12_clear 36 = .ok (.iconst 0, 1) := by decide +kernel
theorem dX12_clear_37 : decode cX12_clear 37 = .ok (.iaload, 1) := by decide +kernel
theorem dX12_clear_38 : decode cX12_clear 38 = .ok (.aload_n 0, 1) := by decide +kernel
theorem dX12_clear_39 : decode cX12_clear 39 = .ok (.getfield 28, 3) := by decide +kernel
theorem dX12_clear_42 : decode cX12_clear 42 = .ok (.iconst 1, 1) := by decide +kernel
theorem dX12_clear_43 : decode cX12_clear 43 = .ok (.iaload, 1) := by decide +kernel
theorem dX12_clear_44 : decode cX12_clear 44 = .ok (.iadd, 1) := by decide +kernel
theorem dX12_clear_45 : decode cX12_clear 45 = .ok (.istore_n 2, 1) := by decide +kernel
theorem dX12_clear_46 : decode cX12_clear 46 = .ok (.aload_n 0, 1) := by decide +kernel
theorem dX12_clear_47 : decode cX12_clear 47 = .ok (.getfield 28, 3) := by decide +kernel
theorem dX12_clear_50 : decode cX12_clear 50 = .ok (.iconst 0, 1) := by decide +kernel
theorem dX12_clear_51 : decode cX12_clear 51 = .ok (.iconst 0, 1) := by decide +kernel
theorem dX12_clear_52 : decode cX12_clear 52 = .ok (.iastore, 1) := by decide +kernel
theorem dX12_clear_53 : decode cX12_clear 53 = .ok (.aload_n 0, 1) := by decide +kernel
theorem dX12_clear_54 : decode cX12_clear 54 = .ok (.getfield 28, 3) := by decide +kernel
theorem dX12_clear_57 : decode cX12_clear 57 = .ok (.iconst 1, 1) := by decide +kernel
theorem dX12_clear_58 : decode cX12_clear 58 = .ok (.iconst 0, 1) := by decide +kernel
theorem dX12_clear_59 : decode cX12_clear 59 = .ok (.iastore, 1) := by decide +kernel
theorem dX12_clear_60 : decode cX12_clear 60 = .ok (.iload_n 2, 1) := by decide +kernel
theorem dX12_clear_61 : decode cX12_clear 61 = .ok (.ireturn, 1) := by decide +kernel
theorem dX12_clear_62 : decode cX12_clear 62 = .ok (.aload_n 0, 1) := by decide +kernel
theorem dX12_clear_63 : decode cX12_clear 63 = .ok (.getfield 181, 3) := by decide +kernel
theorem dX12_clear_66 : decode cX12_clear 66 = .ok (.istore_n 2, 1) := by decide +kernel
theorem dX12_clear_67 : decode cX12_clear 67 = .ok (.aload_n 0, 1) := by decide +kernel
theorem dX12_clear_68 : decode cX12_clear 68 = .ok (.iconst 0, 1) := by decide +kernel
theorem dX12_clear_69 : decode cX12_clear 69 = .ok (.putfield 181, 3) := by decide +kernel
theorem dX12_clear_72 : decode cX12_clear 72 = .ok (.iload_n 2, 1) := by decide +kernel
theorem dX12_clear_73 : decode cX12_clear 73 = .ok (.ireturn, 1) := by decide +kernel
theorem dX12_clear_74 : decode cX12_clear 74 = .ok (.aload_n 0, 1) := by decide +kernel
theorem dX12_clear_75 : decode cX12_clear 75 = .ok (.getfield 184, 3) := by decide +kernel
theorem dX12_clear_78 : decode cX12_clear 78 = .ok (.istore_n 2, 1) := by decide +kernel
theorem dX12_clear_79 : decode cX12_clear 79 = .ok (.aload_n 0, 1) := by decide +kernel
theorem dX12_clear_80 : decode cX12_clear 80 = .ok (.iconst 0, 1) := by decide +kernel
theorem dX12_clear_81 : decode cX12_clear 81 = .ok (.putfield 184, 3) := by decide +kernel
theorem dX12_clear_84 : decode cX12_clear 84 = .ok (.iload_n 2, 1) := by decide +kernel
theorem dX12_clear_85 : decode cX12_clear 85 = .ok (.ireturn, 1) := by decide +kernel
theorem dX12_clear_86 : decode cX12_clear 86 = .ok (.aload_n 0, 1) := by decide +kernel
theorem dX12_clear_87 : decode cX12_clear 87 = .ok (.getfield 187, 3) := by decide +kernel
theorem dX12_clear_90 : decode cX12_clear 90 = .ok (.istore_n 2, 1) := by decide +kernel
theorem dX12_clear_91 : decode cX12_clear 91 = .ok (.aload_n 0, 1) := by decide +kernel
theorem dX12_clear_92 : decode cX12_clear 92 = .ok (.iconst 0, 1) := by decide +kernel
theorem dX12_clear_93 : decode cX12_clear 93 = .ok (.putfield 187, 3) := by decide +kernel
theorem dX12_clear_96 : decode cX12_clear 96 = .ok (.iload_n 2, 1) := by decide +kernel
theorem dX12_clear_97 : decode cX12_clear 97 = .ok (.ireturn, 1) := by decide +kernel
theorem dX12_clear_98 : decode cX12_clear 98 = .ok (.iconst (-1), 1) := by decide +kernel
theorem dX12_clear_99 : decode cX12_clear 99 = .ok (.ireturn, 1) := by decide +kernel
theorem dX12_shorten_0 : decode cX12_shorten 0 = .ok (.iconst 0, 1) := by decide +kernel
theorem dX12_shorten_1 : decode cX12_shorten 1 = .ok (.istore_n 2, 1) := by decide +kernel
theorem dX12_shorten_2 : decode cX12_shorten 2 = .ok (.iload_n 2, 1) := by decide +kernel
theorem dX12_shorten_3 : decode cX12_shorten 3 = .ok (.iconst 4, 1) := by decide +kernel
theorem dX12_shorten_4 : decode cX12_shorten 4 = .ok (.if_icmp .ge 96, 3) := by decide +kernel
theorem dX12_shorten_7 : decode cX12_shorten 7 = .ok (.aload_n 0, 1) := by decide +kernel
theorem dX12_shorten_8 : decode cX12_shorten 8 = .ok (.aload_n 0, 1) := by decide +kernel
theorem dX12_shorten_9 : decode cX12_shorten 9 = .ok (.getfield 38, 3) := by decide +kernel
theorem dX12_shorten_12 : decode cX12_shorten 12 = .ok (.bipush 40, 2) := by decide +kernel
theorem dX12_shorten_14 : decode cX12_shorten 14 = .ok (.iload_n 2, 1) := by decide +kernel
theorem dX12_shorten_15 : decode cX12_shorten 15 = .ok (.imul, 1) := by decide +kernel
theorem dX12_shorten_16 : decode cX12_shorten 16 = .ok (.aload_n 1, 1) := by decide +kernel
theorem dX12_shorten_17 : decode cX12_shorten 17 = .ok (.iconst 0, 1) := by decide +kernel
theorem dX12_shorten_18 : decode cX12_shorten 18 = .ok (.invokevirtual 190, 3) := by decide +kernel
theorem dX12_shorten_21 : decode cX12_shorten 21 = .ok (.aload_n 0, 1) := by decide +kernel
theorem dX12_shorten_22 : decode cX12_shorten 22 = .ok (.getfield 16, 3) := by decide +kernel
theorem dX12_shorten_25 : decode cX12_shorten 25 = .ok (.iconst 0, 1) := by decide +kernel
theorem dX12_shorten_26 : decode cX12_shorten 26 = .ok (.aload_n 0, 1) := by decide +kernel
theorem dX12_shorten_27 : decode cX12_shorten 27 = .ok (.getfield 19, 3) := by decide +kernel
theorem dX12_shorten_30 : decode cX12_shorten 30 = .ok (.iconst 0, 1) := by decide +kernel
theorem dX12_shorten_31 : decode cX12_shorten 31 = .ok (.invokestatic 151, 3) := by decide +kernel
theorem dX12_shorten_34 : decode cX12_shorten 34 = .ok (.aload_n 0, 1) := by decide +kernel
theorem dX12_shorten_35 : decode cX12_shorten 35 = .ok (.aload_n 0, 1) := by decide +kernel
theorem dX12_shorten_36 : decode cX12_shorten 36 = .ok (.getfield 38, 3) := by decide +kernel
theorem dX12_shorten_39 : decode cX12_shorten 39 = .ok (.bipush 40, 2) := by decide +kernel
theorem dX12_shorten_41 : decode cX12_shorten 41 = .ok (.iload_n 2, 1) := by decide +kernel
theorem dX12_shorten_42 : decode cX12_shorten 42 = .ok (.imul, 1) := by decide +kernel
theorem dX12_shorten_43 : decode cX12_shorten 43 = .ok (.aload_n 0, 1) := by decide +kernel
theorem dX12_shorten_44 : decode cX12_shorten 44 = .ok (.getfield 19, 3) := by decide +kernel
theorem dX12_shorten_47 : decode cX12_shorten 47 = .ok (.iconst 0, 1) := by decide +kernel
theorem dX12_shorten_48 : decode cX12_shorten 48 = .ok (.invokevirtual 154, 3) := by decide +kernel
theorem dX12_shorten_51 : decode cX12_shorten 51 = .ok (.aload_n 0, 1) := by decide +kernel
theorem dX12_shorten_52 : decode cX12_shorten 52 = .ok (.getfield 7, 3) := by decide +kernel
theorem dX12_shorten_55 : decode cX12_shorten 55 = .ok (.iconst 0, 1) := by decide +kernel
theorem dX12_shorten_56 : decode cX12_shorten 56 = .ok (.aload_n 0, 1) := by decide +kernel
theorem dX12_shorten_57 : decode cX12_shorten 57 = .ok (.getfield 38, 3) := by decide +kernel
theorem dX12_shorten_60 : decode cX12_shorten 60 = .ok (.bipush 40, 2) := by decide +kernel
theorem dX12_shorten_62 : decode cX12_shorten 62 = .ok (.iload_n 2, 1) := by decide +kernel
theorem dX12_shorten_63 : decode cX12_shorten 63 = .ok (.imul, 1) := by decide +kernel
theorem dX12_shorten_64 : decode cX12_shorten 64 = .ok (.invokestatic 151, 3) := by decide +kernel
theorem dX12_shorten_67 : decode cX12_shorten 67 = .ok (.aload_n 0, 1) := by decide +kernel
theorem dX12_shorten_68 : decode cX12_shorten 68 = .ok (.aload_n 1, 1) := by decide +kernel
theorem dX12_shorten_69 : decode cX12_shorten 69 = .ok (.iconst 0, 1) := by decide +kernel
theorem dX12_shorten_70 : decode cX12_shorten 70 = .ok (.aload_n 0, 1) := by decide +kernel
theorem dX12_shorten_71 : decode cX12_shorten 71 = .ok (.getfield 19, 3) := by decide +kernel
theorem dX12_shorten_74 : decode cX12_shorten 74 = .ok (.iconst 0, 1) := by decide +kernel
theorem dX12_shorten_75 : decode cX12_shorten 75 = .ok (.invokevirtual 154, 3) := by decide +kernel
theorem dX12_shorten_78 : decode cX12_shorten 78 = .ok (.aload_n 0, 1) := by decide +kernel
theorem dX12_shorten_79 : decode cX12_shorten 79 = .ok (.getfield 7, 3) := by decide +kernel
theorem dX12_shorten_82 : decode cX12_shorten 82 = .ok (.iconst 0, 1) := by decide +kernel
theorem dX12_shorten_83 : decode cX12_shorten 83 = .ok (.aload_n 0, 1) := by decide +kernel
theorem dX12_shorten_84 : decode cX12_shorten 84 = .ok (.getfield 41, 3) := by decide +kernel
theorem dX12_shorten_87 : decode cX12_shorten 87 = .ok (.bipush 40, 2) := by decide +kernel
theorem dX12_shorten_89 : decode cX12_shorten 89 = .ok (.iload_n 2, 1) := by decide +kernel
theorem dX12_shorten_90 : decode cX12_shorten 90 = .ok (.imul, 1) := by decide +kernel
theorem dX12_shorten_91 : decode cX12_shorten 91 = .ok (.invokestatic 151, 3) := by decide +kernel
theorem dX12_shorten_94 : decode cX12_shorten 94 = .ok (.iinc 2 1, 3) := by decide +kernel
theorem dX12_shorten_97 : decode cX12_shorten 97 = .ok (.goto (-95), 3) := by decide +kernel
theorem dX12_shorten_100 : decode cX12_shorten 100 = .ok (.return_, 1) := by decide +kernel
theorem dX12_open_0 : decode cX12_open 0 = .ok (.iload_n 1, 1) := by decide +kernel
theorem dX12_open_1 : decode cX12_open 1 = .ok (.aload_n 0, 1) := by decide +kernel
theorem dX12_open_2 : decode cX12_open 2 = .ok (.getfield 118, 3) := by decide +kernel
theorem dX12_open_5 : decode cX12_open 5 = .ok (.idiv, 1) := by decide +kernel
theorem dX12_open_6 : decode cX12_open 6 = .ok (.istore_n 2, 1) := by decide +kernel
theorem dX12_open_7 : decode cX12_open 7 = .ok (.iload_n 1, 1) := by decide +kernel
theorem dX12_open_8 : decode cX12_open 8 = .ok (.aload_n 0, 1) := by decide +kernel
theorem dX12_open_9 : decode cX12_open 9 = .ok (.getfield 118, 3) := by decide +kernel
theorem dX12_open_12 : decode cX12_open 12 = .ok (.irem, 1) := by decide +kernel
theorem dX12_open_13 : decode cX12_open 13 = .ok (.istore_n 3, 1) := by decide +kernel
theorem dX12_open_14 : decode cX12_open 14 = .ok (.aload_n 0, 1) := by decide +kernel
theorem dX12_open_15 : decode cX12_open 15 = .ok (.getfield 55, 3) := by decide +kernel
theorem dX12_open_18 : decode cX12_open 18 = .ok (.iload_n 2, 1) := by decide +kernel
theorem dX12_open_19 : decode cX12_open 19 = .ok (.iaload, 1) := by decide +kernel
theorem dX12_open_20 : decode cX12_open 20 = .ok (.istore 4, 2) := by decide +kernel
theorem dX12_open_22 : decode cX12_open 22 = .ok (.iconst 0, 1) := by decide +kernel
theorem dX12_open_23 : decode cX12_open 23 = .ok (.istore 5, 2) := by decide +kernel
theorem dX12_open_25 : decode cX12_open 25 = .ok (.iload 5, 2) := by decide +kernel
theorem dX12_open_27 : decode cX12_open 27 = .ok (.iload_n 3, 1) := by decide +kernel
theorem dX12_open_28 : decode cX12_open 28 = .ok (.if_icmp .ge 28, 3) := by decide +kernel
theorem dX12_open_31 : decode cX12_open 31 = .ok (.iload 4, 2) := by decide +kernel
theorem dX12_open_33 : decode cX12_open 33 = .ok (.aload_n 0, 1) := by decide +kernel
theorem dX12_open_34 : decode cX12_open 34 = .ok (.getfield 49, 3) := by decide +kernel
theorem dX12_open_37 : decode cX12_open 37 = .ok (.aload_n 0, 1) := by decide +kernel
theorem dX12_open_38 : decode cX12_open 38 = .ok (.getfield 118, 3) := by decide +kernel
theorem dX12_open_41 : decode cX12_open 41 = .ok (.iload_n 2, 1) := by decide +kernel
theorem dX12_open_42 : decode cX12_open 42 = .ok (.imul, 1) := by decide +kernel
theorem dX12_open_43 : decode cX12_open 43 = .ok (.iload 5, 2) := by decide +kernel
theorem dX12_open_45 : decode cX12_open 45 = .ok (.iadd, 1) := by decide +kernel
theorem dX12_open_46 : decode cX12_open 46 = .ok (.iaload, 1) := by decide +kernel
theorem dX12_open_47 : decode cX12_open 47 = .ok (.isub, 1) := by decide +kernel
theorem dX12_open_48 : decode cX12_open 48 = .ok (.istore 4, 2) := by decide +kernel
theorem dX12_open_50 : decode cX12_open 50 = .ok (.iinc 5 1, 3) := by decide +kernel
theorem dX12_open_53 : decode cX12_open 53 = .ok (.goto (-28), 3) := by decide +kernel
theorem dX12_open_56 : decode cX12_open 56 = .ok (.iconst 0, 1) := by decide +kernel
theorem dX12_open_57 : decode cX12_open 57 = .ok (.istore 5, 2) := by decide +kernel
theorem dX12_open_59 : decode cX12_open 59 = .ok (.iload_n 3, 1) := by decide +kernel
theorem dX12_open_60 : decode cX12_open 60 = .ok (.iconst 1, 1) := by decide +kernel
theorem dX12_open_61 : decode cX12_open 61 = .ok (.iadd, 1) := by decide +kernel
theorem dX12_open_62 : decode cX12_open 62 = .ok (.istore 6, 2) := by decide +kernel
theorem dX12_open_64 : decode cX12_open 64 = .ok (.iload 6, 2) := by decide +kernel
theorem dX12_open_66 : decode cX12_open 66 = .ok (.aload_n 0, 1) := by decide +kernel
theorem dX12_open_67 : decode cX12_open 67 = .ok (.getfield 118, 3) := by decide +kernel
theorem dX12_open_70 : decode cX12_open 70 = .ok (.if_icmp .ge 21, 3) := by decide +kernel
theorem dX12_open_73 : decode cX12_open 73 = .ok (.iload 5, 2) := by decide +kernel
theorem dX12_open_75 : decode cX12_open 75 = .ok (.aload_n 0, 1) := by decide +kernel
theorem dX12_open_76 : decode cX12_open 76 = .ok (.iload_n 2, 1) := by decide +kernel
theorem dX12_open_77 : decode cX12_open 77 = .ok (.iload 6, 2) := by decide +kernel
theorem dX12_open_79 : decode cX12_open 79 = .ok (.invokevirtual 193, 3) := by decide +kernel
theorem dX12_open_82 : decode cX12_open 82 = .ok (.iadd, 1) := by decide +kernel
theorem dX12_open_83 : decode cX12_open 83 = .ok (.istore 5, 2) := by decide +kernel
theorem dX12_open_85 : decode cX12_open 85 = .ok (.iinc 6 1, 3) := by decide +kernel
theorem dX12_open_88 : decode cX12_open 88 = .ok (.goto (-24), 3) := by decide +kernel
theorem dX12_open_91 : decode cX12_open 91 = .ok (.aload_n 0, 1) := by decide +kernel
theorem dX12_open_92 : decode cX12_open 92 = .ok (.iload_n 2, 1) := by decide +kernel
theorem dX12_open_93 : decode cX12_open 93 = .ok (.iload_n 3, 1) := by decide +kernel
theorem dX12_open_94 : decode cX12_open 94 = .ok (.invokevirtual 193, 3) := by decide +kernel
theorem dX12_open_97 : decode cX12_open 97 = .ok (.istore 6, 2) := by decide +kernel
theorem dX12_open_99 : decode cX12_open 99 = .ok (.aload_n 0, 1) := by decide +kernel
theorem dX12_open_100 : decode cX12_open 100 = .ok (.getfield 49, 3) := by decide +kernel
theorem dX12_open_103 : decode cX12_open 103 = .ok (.iload_n 1, 1) := by decide +kernel
theorem dX12_open_104 : decode cX12_open 104 = .ok (.iload 4, 2) := by decide +kernel
theorem dX12_open_106 : decode cX12_open 106 = .ok (.iload 5, 2) := by decide +kernel
theorem dX12_open_108 : decode cX12_open 108 = .ok (.if_icmp .le 11, 3) := by decide +kernel
theorem dX12_open_111 : decode cX12_open 111 = .ok (.iload 4, 2) := by decide +kernel
theorem dX12_open_113 : decode cX12_open 113 = .ok (.iload 5, 2) := by decide +kernel
theorem dX12_open_115 : decode cX12_open 115 = .ok (.isub, 1) := by decide +kernel
theorem dX12_open_116 : decode cX12_open 116 = .ok (.goto 4, 3) := by decide +kernel
theorem dX12_open_119 : decode cX12_open 119 = .ok (.iconst 0, 1) := by decide +kernel
theorem dX12_open_120 : decode cX12_open 120 = .ok (.iastore, 1) := by decide +kernel
theorem dX12_open_121 : decode cX12_open 121 = .ok (.aload_n 0, 1) := by decide +kernel
theorem dX12_open_122 : decode cX12_open 122 = .ok (.getfield 52, 3) := by decide +kernel
theorem dX12_open_125 : decode cX12_open 125 = .ok (.iload_n 1, 1) := by decide +kernel
theorem dX12_open_126 : decode cX12_open 126 = .ok (.iload 4, 2) := by decide +kernel
theorem dX12_open_128 : decode cX12_open 128 = .ok (.iload 6, 2) := by decide +kernel
theorem dX12_open_130 : decode cX12_open 130 = .ok (.if_icmp .ge 8, 3) := by decide +kernel
theorem dX12_open_133 : decode cX12_open 133 = .ok (.iload 4, 2) := by decide +kernel
theorem dX12_open_135 : decode cX12_open 135 = .ok (.goto 5, 3) := by decide +kernel
theorem dX12_open_138 : decode cX12_open 138 = .ok (.iload 6, 2) := by decide +kernel
theorem dX12_open_140 : decode cX12_open 140 = .ok (.iastore, 1) := by decide +kernel
theorem dX12_open_141 : decode cX12_open 141 = .ok (.return_, 1) := by decide +kernel
theorem dX12_columnLeft_0 : decode cX12_columnLeft 0 = .ok (.aload_n 0, 1) := by decide +kernel
theorem dX12_columnLeft_1 : decode cX12_columnLeft 1 = .ok (.getfield 58, 3) := by decide +kernel
theorem dX12_columnLeft_4 : decode cX12_columnLeft 4 = .ok (.iload_n 2, 1) := by decide +kernel
theorem dX12_columnLeft_5 : decode cX12_columnLeft 5 = .ok (.iaload, 1) := by decide +kernel
theorem dX12_columnLeft_6 : decode cX12_columnLeft 6 = .ok (.istore_n 3, 1) := by decide +kernel
theorem dX12_columnLeft_7 : decode cX12_columnLeft 7 = .ok (.iconst 0, 1) := by decide +kernel
theorem dX12_columnLeft_8 : decode cX12_columnLeft 8 = .ok (.istore 4, 2) := by decide +kernel
theorem dX12_columnLeft_10 : decode cX12_columnLeft 10 = .ok (.iload 4, 2) := by decide +kernel
theorem dX12_columnLeft_12 : decode cX12_columnLeft 12 = .ok (.iload_n 1, 1) := by decide +kernel
theorem dX12_columnLeft_13 : decode cX12_columnLeft 13 = .ok (.if_icmp .ge 26, 3) := by decide +kernel
theorem dX12_columnLeft_16 : decode cX12_columnLeft 16 = .ok (.iload_n 3, 1) := by decide +kernel
theorem dX12_columnLeft_17 : decode cX12_columnLeft 17 = .ok (.aload_n 0, 1) := by decide +kernel
theorem dX12_columnLeft_18 : decode cX12_columnLeft 18 = .ok (.getfield 49, 3) := by decide +kernel
theorem dX12_columnLeft_21 : decode cX12_columnLeft 21 = .ok (.aload_n 0, 1) := by decide +kernel
theorem dX12_columnLeft_22 : decode cX12_columnLeft 22 = .ok (.getfield 118, 3) := by decide +kernel
theorem dX12_columnLeft_25 : decode cX12_columnLeft 25 = .ok (.iload 4, 2) := by decide +kernel
theorem dX12_columnLeft_27 : decode cX12_columnLeft 27 = .ok (.imul, 1) := by decide +kernel
theorem dX12_columnLeft_28 : decode cX12_columnLeft 28 = .ok (.iload_n 2, 1) := by decide +kernel
theorem dX12_columnLeft_29 : decode cX12_columnLeft 29 = .ok (.iadd, 1) := by decide +kernel
theorem dX12_columnLeft_30 : decode cX12_columnLeft 30 = .ok (.iaload, 1) := by decide +kernel
theorem dX12_columnLeft_31 : decode cX12_columnLeft 31 = .ok (.isub, 1) := by decide +kernel
theorem dX12_columnLeft_32 : decode cX12_columnLeft 32 = .ok (.istore_n 3, 1) := by decide +kernel
theorem dX12_columnLeft_33 : decode cX12_columnLeft 33 = .ok (.iinc 4 1, 3) := by decide +kernel
theorem dX12_columnLeft_36 : decode cX12_columnLeft 36 = .ok (.goto (-26), 3) := by decide +kernel
theorem dX12_columnLeft_39 : decode cX12_columnLeft 39 = .ok (.iload_n 3, 1) := by decide +kernel
theorem dX12_columnLeft_40 : decode cX12_columnLeft 40 = .ok (.ireturn, 1) := by decide +kernel
theorem dX12_firstTable_0 : decode cX12_firstTable 0 = .ok (.iconst 0, 1) := by decide +kernel
theorem dX12_firstTable_1 : decode cX12_firstTable 1 = .ok (.istore_n 1, 1) := by decide +kernel
theorem dX12_firstTable_2 : decode cX12_firstTable 2 = .ok (.iload_n 1, 1) := by decide +kernel
theorem dX12_firstTable_3 : decode cX12_firstTable 3 = .ok (.aload_n 0, 1) := by decide +kernel
theorem dX12_firstTable_4 : decode cX12_firstTable 4 = .ok (.getfield 115, 3) := by decide +kernel
theorem dX12_firstTable_7 : decode cX12_firstTable 7 = .ok (.if_icmp .ge 20, 3) := by decide +kernel
theorem dX12_firstTable_10 : decode cX12_firstTable 10 = .ok (.aload_n 0, 1) := by decide +kernel
theorem dX12_firstTable_11 : decode cX12_firstTable 11 = .ok (.getfield 55, 3) := by decide +kernel
theorem dX12_firstTable_14 : decode cX12_firstTable 14 = .ok (.iload_n 1, 1) := by decide +kernel
theorem dX12_firstTable_15 : decode cX12_firstTable 15 = .ok (.aload_n 0, 1) := by decide +kernel
theorem dX12_firstTable_16 : decode cX12_firstTable 16 = .ok (.iload_n 1, 1) := by decide +kernel
theorem dX12_firstTable_17 : decode cX12_firstTable 17 = .ok (.invokevirtual 170, 3) := by decide +kernel
theorem dX12_firstTable_20 : decode cX12_firstTable 20 = .ok (.iastore, 1) := by decide +kernel
theorem dX12_firstTable_21 : decode cX12_firstTable 21 = .ok (.iinc 1 1, 3) := by decide +kernel
theorem dX12_firstTable_24 : decode cX12_firstTable 24 = .ok (.goto (-22), 3) := by decide +kernel
theorem dX12_firstTable_27 : decode cX12_firstTable 27 = .ok (.iconst 0, 1) := by decide +kernel
theorem dX12_firstTable_28 : decode cX12_firstTable 28 = .ok (.istore_n 1, 1) := by decide +kernel
theorem dX12_firstTable_29 : decode cX12_firstTable 29 = .ok (.iload_n 1, 1) := by decide +kernel
theorem dX12_firstTable_30 : decode cX12_firstTable 30 = .ok (.aload_n 0, 1) := by decide +kernel
theorem dX12_firstTable_31 : decode cX12_firstTable 31 = .ok (.getfield 118, 3) := by decide +kernel
theorem dX12_firstTable_34 : decode cX12_firstTable 34 = .ok (.if_icmp .ge 20, 3) := by decide +kernel
theorem dX12_firstTable_37 : decode cX12_firstTable 37 = .ok (.aload_n 0, 1) := by decide +kernel
theorem dX12_firstTable_38 : decode cX12_firstTable 38 = .ok (.getfield 58, 3) := by decide +kernel
theorem dX12_firstTable_41 : decode cX12_firstTable 41 = .ok (.iload_n 1, 1) := by decide +kernel
theorem dX12_firstTable_42 : decode cX12_firstTable 42 = .ok (.aload_n 0, 1) := by decide +kernel
theorem dX12_firstTable_43 : decode cX12_firstTable 43 = .ok (.iload_n 1, 1) := by decide +kernel
theorem dX12_firstTable_44 : decode cX12_firstTable 44 = .ok (.invokevirtual 174, 3) := by decide +kernel
theorem dX12_firstTable_47 : decode cX12_firstTable 47 = .ok (.iastore, 1) := by decide +kernel
theorem dX12_firstTable_48 : decode cX12_firstTable 48 = .ok (.iinc 1 1, 3) := by decide +kernel
theorem dX12_firstTable_51 : decode cX12_firstTable 51 = .ok (.goto (-22), 3) := by decide +kernel
end
section
theorem dX12_firstTable_54 : decode cX12_firstTable 54 = .ok (.aload_n 0, 1) := by decide +kernel
theorem dX12_firstTable_55 : decode cX12_firstTable 55 = .ok (.iconst 0, 1) := by decide +kernel
theorem dX12_firstTable_56 : decode cX12_firstTable 56 = .ok (.invokevirtual 197, 3) := by decide +kernel
theorem dX12_firstTable_59 : decode cX12_firstTable 59 = .ok (.return_, 1) := by decide +kernel
theorem dX12_openFrom_0 : decode cX12_openFrom 0 = .ok (.iload_n 1, 1) := by decide +kernel
theorem dX12_openFrom_1 : decode cX12_openFrom 1 = .ok (.istore_n 2, 1) := by decide +kernel
theorem dX12_openFrom_2 : decode cX12_openFrom 2 = .ok (.iload_n 2, 1) := by decide +kernel
theorem dX12_openFrom_3 : decode cX12_openFrom 3 = .ok (.aload_n 0, 1) := by decide +kernel
theorem dX12_openFrom_4 : decode cX12_openFrom 4 = .ok (.getfield 115, 3) := by decide +kernel
theorem dX12_openFrom_7 : decode cX12_openFrom 7 = .ok (.aload_n 0, 1) := by decide +kernel
theorem dX12_openFrom_8 : decode cX12_openFrom 8 = .ok (.getfield 118, 3) := by decide +kernel
theorem dX12_openFrom_11 : decode cX12_openFrom 11 = .ok (.imul, 1) := by decide +kernel
theorem dX12_openFrom_12 : decode cX12_openFrom 12 = .ok (.if_icmp .ge 14, 3) := by decide +kernel
theorem dX12_openFrom_15 : decode cX12_openFrom 15 = .ok (.aload_n 0, 1) := by decide +kernel
theorem dX12_openFrom_16 : decode cX12_openFrom 16 = .ok (.iload_n 2, 1) := by decide +kernel
theorem dX12_openFrom_17 : decode cX12_openFrom 17 = .ok (.invokevirtual 201, 3) := by decide +kernel
theorem dX12_openFrom_20 : decode cX12_openFrom 20 = .ok (.iinc 2 1, 3) := by decide +kernel
theorem dX12_openFrom_23 : decode cX12_openFrom 23 = .ok (.goto (-21), 3) := by decide +kernel
theorem dX12_openFrom_26 : decode cX12_openFrom 26 = .ok (.return_, 1) := by decide +kernel
theorem dX12_nextTable_0 : decode cX12_nextTable 0 = .ok (.aload_n 0, 1) := by decide +kernel
theorem dX12_nextTable_1 : decode cX12_nextTable 1 = .ok (.getfield 115, 3) := by decide +kernel
theorem dX12_nextTable_4 : decode cX12_nextTable 4 = .ok (.aload_n 0, 1) := by decide +kernel
theorem dX12_nextTable_5 : decode cX12_nextTable 5 = .ok (.getfield 118, 3) := by decide +kernel
theorem dX12_nextTable_8 : decode cX12_nextTable 8 = .ok (.imul, 1) := by decide +kernel
theorem dX12_nextTable_9 : decode cX12_nextTable 9 = .ok (.iconst 1, 1) := by decide +kernel
theorem dX12_nextTable_10 : decode cX12_nextTable 10 = .ok (.isub, 1) := by decide +kernel
theorem dX12_nextTable_11 : decode cX12_nextTable 11 = .ok (.istore_n 1, 1) := by decide +kernel
theorem dX12_nextTable_12 : decode cX12_nextTable 12 = .ok (.iload_n 1, 1) := by decide +kernel
theorem dX12_nextTable_13 : decode cX12_nextTable 13 = .ok (.ifCond .lt 24, 3) := by decide +kernel
theorem dX12_nextTable_16 : decode cX12_nextTable 16 = .ok (.aload_n 0, 1) := by decide +kernel
theorem dX12_nextTable_17 : decode cX12_nextTable 17 = .ok (.getfield 49, 3) := by decide +kernel
theorem dX12_nextTable_20 : decode cX12_nextTable 20 = .ok (.iload_n 1, 1) := by decide +kernel
theorem dX12_nextTable_21 : decode cX12_nextTable 21 = .ok (.iaload, 1) := by decide +kernel
theorem dX12_nextTable_22 : decode cX12_nextTable 22 = .ok (.aload_n 0, 1) := by decide +kernel
theorem dX12_nextTable_23 : decode cX12_nextTable 23 = .ok (.getfield 52, 3) := by decide +kernel
theorem dX12_nextTable_26 : decode cX12_nextTable 26 = .ok (.iload_n 1, 1) := by decide +kernel
theorem dX12_nextTable_27 : decode cX12_nextTable 27 = .ok (.iaload, 1) := by decide +kernel
theorem dX12_nextTable_28 : decode cX12_nextTable 28 = .ok (.if_icmp .ne 9, 3) := by decide +kernel
theorem dX12_nextTable_31 : decode cX12_nextTable 31 = .ok (.iinc 1 (-1), 3) := by decide +kernel
theorem dX12_nextTable_34 : decode cX12_nextTable 34 = .ok (.goto (-22), 3) := by decide +kernel
theorem dX12_nextTable_37 : decode cX12_nextTable 37 = .ok (.iload_n 1, 1) := by decide +kernel
theorem dX12_nextTable_38 : decode cX12_nextTable 38 = .ok (.ifCond .ge 5, 3) := by decide +kernel
theorem dX12_nextTable_41 : decode cX12_nextTable 41 = .ok (.iconst 0, 1) := by decide +kernel
theorem dX12_nextTable_42 : decode cX12_nextTable 42 = .ok (.ireturn, 1) := by decide +kernel
theorem dX12_nextTable_43 : decode cX12_nextTable 43 = .ok (.aload_n 0, 1) := by decide +kernel
theorem dX12_nextTable_44 : decode cX12_nextTable 44 = .ok (.getfield 49, 3) := by decide +kernel
theorem dX12_nextTable_47 : decode cX12_nextTable 47 = .ok (.iload_n 1, 1) := by decide +kernel
theorem dX12_nextTable_48 : decode cX12_nextTable 48 = .ok (.dup2, 1) := by decide +kernel
theorem dX12_nextTable_49 : decode cX12_nextTable 49 = .ok (.iaload, 1) := by decide +kernel
theorem dX12_nextTable_50 : decode cX12_nextTable 50 = .ok (.iconst 1, 1) := by decide +kernel
theorem dX12_nextTable_51 : decode cX12_nextTable 51 = .ok (.iadd, 1) := by decide +kernel
theorem dX12_nextTable_52 : decode cX12_nextTable 52 = .ok (.iastore, 1) := by decide +kernel
theorem dX12_nextTable_53 : decode cX12_nextTable 53 = .ok (.aload_n 0, 1) := by decide +kernel
theorem dX12_nextTable_54 : decode cX12_nextTable 54 = .ok (.iload_n 1, 1) := by decide +kernel
theorem dX12_nextTable_55 : decode cX12_nextTable 55 = .ok (.iconst 1, 1) := by decide +kernel
theorem dX12_nextTable_56 : decode cX12_nextTable 56 = .ok (.iadd, 1) := by decide +kernel
theorem dX12_nextTable_57 : decode cX12_nextTable 57 = .ok (.invokevirtual 197, 3) := by decide +kernel
theorem dX12_nextTable_60 : decode cX12_nextTable 60 = .ok (.iconst 1, 1) := by decide +kernel
theorem dX12_nextTable_61 : decode cX12_nextTable 61 = .ok (.ireturn, 1) := by decide +kernel
theorem dX12_timesFactorial_0 : decode cX12_timesFactorial 0 = .ok (.iconst 2, 1) := by decide +kernel
theorem dX12_timesFactorial_1 : decode cX12_timesFactorial 1 = .ok (.istore_n 3, 1) := by decide +kernel
theorem dX12_timesFactorial_2 : decode cX12_timesFactorial 2 = .ok (.iload_n 3, 1) := by decide +kernel
theorem dX12_timesFactorial_3 : decode cX12_timesFactorial 3 = .ok (.iload_n 2, 1) := by decide +kernel
theorem dX12_timesFactorial_4 : decode cX12_timesFactorial 4 = .ok (.if_icmp .gt 15, 3) := by decide +kernel
theorem dX12_timesFactorial_7 : decode cX12_timesFactorial 7 = .ok (.aload_n 1, 1) := by decide +kernel
theorem dX12_timesFactorial_8 : decode cX12_timesFactorial 8 = .ok (.iconst 0, 1) := by decide +kernel
theorem dX12_timesFactorial_9 : decode cX12_timesFactorial 9 = .ok (.iload_n 3, 1) := by decide +kernel
theorem dX12_timesFactorial_10 : decode cX12_timesFactorial 10 = .ok (.invokestatic 204, 3) := by decide +kernel
theorem dX12_timesFactorial_13 : decode cX12_timesFactorial 13 = .ok (.iinc 3 1, 3) := by decide +kernel
theorem dX12_timesFactorial_16 : decode cX12_timesFactorial 16 = .ok (.goto (-14), 3) := by decide +kernel
theorem dX12_timesFactorial_19 : decode cX12_timesFactorial 19 = .ok (.return_, 1) := by decide +kernel
theorem dX12_weigh_0 : decode cX12_weigh 0 = .ok (.aload_n 0, 1) := by decide +kernel
theorem dX12_weigh_1 : decode cX12_weigh 1 = .ok (.getfield 69, 3) := by decide +kernel
theorem dX12_weigh_4 : decode cX12_weigh 4 = .ok (.iconst 0, 1) := by decide +kernel
theorem dX12_weigh_5 : decode cX12_weigh 5 = .ok (.aload_n 2, 1) := by decide +kernel
theorem dX12_weigh_6 : decode cX12_weigh 6 = .ok (.iconst 0, 1) := by decide +kernel
theorem dX12_weigh_7 : decode cX12_weigh 7 = .ok (.invokestatic 151, 3) := by decide +kernel
theorem dX12_weigh_10 : decode cX12_weigh 10 = .ok (.iconst 0, 1) := by decide +kernel
theorem dX12_weigh_11 : decode cX12_weigh 11 = .ok (.istore_n 3, 1) := by decide +kernel
theorem dX12_weigh_12 : decode cX12_weigh 12 = .ok (.iload_n 3, 1) := by decide +kernel
theorem dX12_weigh_13 : decode cX12_weigh 13 = .ok (.aload_n 0, 1) := by decide +kernel
theorem dX12_weigh_14 : decode cX12_weigh 14 = .ok (.getfield 115, 3) := by decide +kernel
theorem dX12_weigh_17 : decode cX12_weigh 17 = .ok (.aload_n 0, 1) := by decide +kernel
theorem dX12_weigh_18 : decode cX12_weigh 18 = .ok (.getfield 118, 3) := by decide +kernel
theorem dX12_weigh_21 : decode cX12_weigh 21 = .ok (.imul, 1) := by decide +kernel
theorem dX12_weigh_22 : decode cX12_weigh 22 = .ok (.if_icmp .ge 33, 3) := by decide +kernel
theorem dX12_weigh_25 : decode cX12_weigh 25 = .ok (.iconst 2, 1) := by decide +kernel
theorem dX12_weigh_26 : decode cX12_weigh 26 = .ok (.istore 4, 2) := by decide +kernel
theorem dX12_weigh_28 : decode cX12_weigh 28 = .ok (.iload 4, 2) := by decide +kernel
theorem dX12_weigh_30 : decode cX12_weigh 30 = .ok (.aload_n 1, 1) := by decide +kernel
theorem dX12_weigh_31 : decode cX12_weigh 31 = .ok (.iload_n 3, 1) := by decide +kernel
theorem dX12_weigh_32 : decode cX12_weigh 32 = .ok (.iaload, 1) := by decide +kernel
theorem dX12_weigh_33 : decode cX12_weigh 33 = .ok (.if_icmp .gt 16, 3) := by decide +kernel
theorem dX12_weigh_36 : decode cX12_weigh 36 = .ok (.aload_n 2, 1) := by decide +kernel
theorem dX12_weigh_37 : decode cX12_weigh 37 = .ok (.iconst 0, 1) := by decide +kernel
theorem dX12_weigh_38 : decode cX12_weigh 38 = .ok (.iload 4, 2) := by decide +kernel
theorem dX12_weigh_40 : decode cX12_weigh 40 = .ok (.invokestatic 207, 3) := by decide +kernel
theorem dX12_weigh_43 : decode cX12_weigh 43 = .ok (.iinc 4 1, 3) := by decide +kernel
theorem dX12_weigh_46 : decode cX12_weigh 46 = .ok (.goto (-18), 3) := by decide +kernel
theorem dX12_weigh_49 : decode cX12_weigh 49 = .ok (.iinc 3 1, 3) := by decide +kernel
theorem dX12_weigh_52 : decode cX12_weigh 52 = .ok (.goto (-40), 3) := by decide +kernel
theorem dX12_weigh_55 : decode cX12_weigh 55 = .ok (.return_, 1) := by decide +kernel
theorem dX12_tables_0 : decode cX12_tables 0 = .ok (.aload_n 0, 1) := by decide +kernel
theorem dX12_tables_1 : decode cX12_tables 1 = .ok (.getfield 163, 3) := by decide +kernel
theorem dX12_tables_4 : decode cX12_tables 4 = .ok (.ifCond .ne 6, 3) := by decide +kernel
theorem dX12_tables_7 : decode cX12_tables 7 = .ok (.bipush (-5), 2) := by decide +kernel
theorem dX12_tables_9 : decode cX12_tables 9 = .ok (.ireturn, 1) := by decide +kernel
theorem dX12_tables_10 : decode cX12_tables 10 = .ok (.iconst 1, 1) := by decide +kernel
theorem dX12_tables_11 : decode cX12_tables 11 = .ok (.istore_n 1, 1) := by decide +kernel
theorem dX12_tables_12 : decode cX12_tables 12 = .ok (.aload_n 0, 1) := by decide +kernel
theorem dX12_tables_13 : decode cX12_tables 13 = .ok (.invokevirtual 210, 3) := by decide +kernel
theorem dX12_tables_16 : decode cX12_tables 16 = .ok (.iload_n 1, 1) := by decide +kernel
theorem dX12_tables_17 : decode cX12_tables 17 = .ok (.sipush 20000, 3) := by decide +kernel
theorem dX12_tables_20 : decode cX12_tables 20 = .ok (.if_icmp .gt 16, 3) := by decide +kernel
theorem dX12_tables_23 : decode cX12_tables 23 = .ok (.aload_n 0, 1) := by decide +kernel
theorem dX12_tables_24 : decode cX12_tables 24 = .ok (.invokevirtual 213, 3) := by decide +kernel
theorem dX12_tables_27 : decode cX12_tables 27 = .ok (.ifCond .eq 9, 3) := by decide +kernel
theorem dX12_tables_30 : decode cX12_tables 30 = .ok (.iinc 1 1, 3) := by decide +kernel
theorem dX12_tables_33 : decode cX12_tables 33 = .ok (.goto (-17), 3) := by decide +kernel
theorem dX12_tables_36 : decode cX12_tables 36 = .ok (.iload_n 1, 1) := by decide +kernel
theorem dX12_tables_37 : decode cX12_tables 37 = .ok (.sipush 20000, 3) := by decide +kernel
theorem dX12_tables_40 : decode cX12_tables 40 = .ok (.if_icmp .le 6, 3) := by decide +kernel
theorem dX12_tables_43 : decode cX12_tables 43 = .ok (.bipush (-7), 2) := by decide +kernel
theorem dX12_tables_45 : decode cX12_tables 45 = .ok (.ireturn, 1) := by decide +kernel
theorem dX12_tables_46 : decode cX12_tables 46 = .ok (.aload_n 0, 1) := by decide +kernel
theorem dX12_tables_47 : decode cX12_tables 47 = .ok (.getfield 69, 3) := by decide +kernel
theorem dX12_tables_50 : decode cX12_tables 50 = .ok (.iconst 0, 1) := by decide +kernel
theorem dX12_tables_51 : decode cX12_tables 51 = .ok (.lconst 1, 1) := by decide +kernel
theorem dX12_tables_52 : decode cX12_tables 52 = .ok (.invokestatic 127, 3) := by decide +kernel
theorem dX12_tables_55 : decode cX12_tables 55 = .ok (.iconst 0, 1) := by decide +kernel
theorem dX12_tables_56 : decode cX12_tables 56 = .ok (.istore_n 2, 1) := by decide +kernel
theorem dX12_tables_57 : decode cX12_tables 57 = .ok (.iload_n 2, 1) := by decide +kernel
theorem dX12_tables_58 : decode cX12_tables 58 = .ok (.aload_n 0, 1) := by decide +kernel
theorem dX12_tables_59 : decode cX12_tables 59 = .ok (.getfield 115, 3) := by decide +kernel
theorem dX12_tables_62 : decode cX12_tables 62 = .ok (.if_icmp .ge 22, 3) := by decide +kernel
theorem dX12_tables_65 : decode cX12_tables 65 = .ok (.aload_n 0, 1) := by decide +kernel
theorem dX12_tables_66 : decode cX12_tables 66 = .ok (.aload_n 0, 1) := by decide +kernel
theorem dX12_tables_67 : decode cX12_tables 67 = .ok (.getfield 69, 3) := by decide +kernel
theorem dX12_tables_70 : decode cX12_tables 70 = .ok (.aload_n 0, 1) := by decide +kernel
theorem dX12_tables_71 : decode cX12_tables 71 = .ok (.iload_n 2, 1) := by decide +kernel
theorem dX12_tables_72 : decode cX12_tables 72 = .ok (.invokevirtual 170, 3) := by decide +kernel
theorem dX12_tables_75 : decode cX12_tables 75 = .ok (.invokevirtual 217, 3) := by decide +kernel
theorem dX12_tables_78 : decode cX12_tables 78 = .ok (.iinc 2 1, 3) := by decide +kernel
theorem dX12_tables_81 : decode cX12_tables 81 = .ok (.goto (-24), 3) := by decide +kernel
theorem dX12_tables_84 : decode cX12_tables 84 = .ok (.iconst 0, 1) := by decide +kernel
theorem dX12_tables_85 : decode cX12_tables 85 = .ok (.istore_n 2, 1) := by decide +kernel
theorem dX12_tables_86 : decode cX12_tables 86 = .ok (.iload_n 2, 1) := by decide +kernel
theorem dX12_tables_87 : decode cX12_tables 87 = .ok (.aload_n 0, 1) := by decide +kernel
theorem dX12_tables_88 : decode cX12_tables 88 = .ok (.getfield 118, 3) := by decide +kernel
theorem dX12_tables_91 : decode cX12_tables 91 = .ok (.if_icmp .ge 22, 3) := by decide +kernel
theorem dX12_tables_94 : decode cX12_tables 94 = .ok (.aload_n 0, 1) := by decide +kernel
theorem dX12_tables_95 : decode cX12_tables 95 = .ok (.aload_n 0, 1) := by decide +kernel
theorem dX12_tables_96 : decode cX12_tables 96 = .ok (.getfield 69, 3) := by decide +kernel
theorem dX12_tables_99 : decode cX12_tables 99 = .ok (.aload_n 0, 1) := by decide +kernel
theorem dX12_tables_100 : decode cX12_tables 100 = .ok (.iload_n 2, 1) := by decide +kernel
theorem dX12_tables_101 : decode cX12_tables 101 = .ok (.invokevirtual 174, 3) := by decide +kernel
theorem dX12_tables_104 : decode cX12_tables 104 = .ok (.invokevirtual 217, 3) := by decide +kernel
theorem dX12_tables_107 : decode cX12_tables 107 = .ok (.iinc 2 1, 3) := by decide +kernel
theorem dX12_tables_110 : decode cX12_tables 110 = .ok (.goto (-24), 3) := by decide +kernel
theorem dX12_tables_113 : decode cX12_tables 113 = .ok (.aload_n 0, 1) := by decide +kernel
theorem dX12_tables_114 : decode cX12_tables 114 = .ok (.aload_n 0, 1) := by decide +kernel
theorem dX12_tables_115 : decode cX12_tables 115 = .ok (.getfield 22, 3) := by decide +kernel
theorem dX12_tables_118 : decode cX12_tables 118 = .ok (.aload_n 0, 1) := by decide +kernel
theorem dX12_tables_119 : decode cX12_tables 119 = .ok (.getfield 75, 3) := by decide +kernel
theorem dX12_tables_122 : decode cX12_tables 122 = .ok (.invokevirtual 221, 3) := by decide +kernel
theorem dX12_tables_125 : decode cX12_tables 125 = .ok (.aload_n 0, 1) := by decide +kernel
theorem dX12_tables_126 : decode cX12_tables 126 = .ok (.getfield 78, 3) := by decide +kernel
theorem dX12_tables_129 : decode cX12_tables 129 = .ok (.iconst 0, 1) := by decide +kernel
theorem dX12_tables_130 : decode cX12_tables 130 = .ok (.lconst 1, 1) := by decide +kernel
theorem dX12_tables_131 : decode cX12_tables 131 = .ok (.invokestatic 127, 3) := by decide +kernel
theorem dX12_tables_134 : decode cX12_tables 134 = .ok (.aload_n 0, 1) := by decide +kernel
theorem dX12_tables_135 : decode cX12_tables 135 = .ok (.aload_n 0, 1) := by decide +kernel
theorem dX12_tables_136 : decode cX12_tables 136 = .ok (.getfield 78, 3) := by decide +kernel
theorem dX12_tables_139 : decode cX12_tables 139 = .ok (.aload_n 0, 1) := by decide +kernel
theorem dX12_tables_140 : decode cX12_tables 140 = .ok (.getfield 163, 3) := by decide +kernel
theorem dX12_tables_143 : decode cX12_tables 143 = .ok (.invokevirtual 217, 3) := by decide +kernel
theorem dX12_tables_146 : decode cX12_tables 146 = .ok (.iconst 0, 1) := by decide +kernel
theorem dX12_tables_147 : decode cX12_tables 147 = .ok (.istore_n 2, 1) := by decide +kernel
theorem dX12_tables_148 : decode cX12_tables 148 = .ok (.iload_n 2, 1) := by decide +kernel
theorem dX12_tables_149 : decode cX12_tables 149 = .ok (.iconst 4, 1) := by decide +kernel
theorem dX12_tables_150 : decode cX12_tables 150 = .ok (.if_icmp .ge 21, 3) := by decide +kernel
theorem dX12_tables_153 : decode cX12_tables 153 = .ok (.aload_n 0, 1) := by decide +kernel
theorem dX12_tables_154 : decode cX12_tables 154 = .ok (.getfield 38, 3) := by decide +kernel
theorem dX12_tables_157 : decode cX12_tables 157 = .ok (.bipush 40, 2) := by decide +kernel
theorem dX12_tables_159 : decode cX12_tables 159 = .ok (.iload_n 2, 1) := by decide +kernel
theorem dX12_tables_160 : decode cX12_tables 160 = .ok (.imul, 1) := by decide +kernel
theorem dX12_tables_161 : decode cX12_tables 161 = .ok (.lconst 0, 1) := by decide +kernel
theorem dX12_tables_162 : decode cX12_tables 162 = .ok (.invokestatic 127, 3) := by decide +kernel
theorem dX12_tables_165 : decode cX12_tables 165 = .ok (.iinc 2 1, 3) := by decide +kernel
theorem dX12_tables_168 : decode cX12_tables 168 = .ok (.goto (-20), 3) := by decide +kernel
theorem dX12_tables_171 : decode cX12_tables 171 = .ok (.aload_n 0, 1) := by decide +kernel
theorem dX12_tables_172 : decode cX12_tables 172 = .ok (.invokevirtual 210, 3) := by decide +kernel
theorem dX12_tables_175 : decode cX12_tables 175 = .ok (.iconst 0, 1) := by decide +kernel
theorem dX12_tables_176 : decode cX12_tables 176 = .ok (.istore_n 2, 1) := by decide +kernel
theorem dX12_tables_177 : decode cX12_tables 177 = .ok (.iload_n 2, 1) := by decide +kernel
theorem dX12_tables_178 : decode cX12_tables 178 = .ok (.iload_n 1, 1) := by decide +kernel
theorem dX12_tables_179 : decode cX12_tables 179 = .ok (.if_icmp .ge 42, 3) := by decide +kernel
theorem dX12_tables_182 : decode cX12_tables 182 = .ok (.aload_n 0, 1) := by decide +kernel
theorem dX12_tables_183 : decode cX12_tables 183 = .ok (.aload_n 0, 1) := by decide +kernel
theorem dX12_tables_184 : decode cX12_tables 184 = .ok (.getfield 49, 3) := by decide +kernel
theorem dX12_tables_187 : decode cX12_tables 187 = .ok (.aload_n 0, 1) := by decide +kernel
theorem dX12_tables_188 : decode cX12_tables 188 = .ok (.getfield 72, 3) := by decide +kernel
theorem dX12_tables_191 : decode cX12_tables 191 = .ok (.invokevirtual 221, 3) := by decide +kernel
theorem dX12_tables_194 : decode cX12_tables 194 = .ok (.aload_n 0, 1) := by decide +kernel
theorem dX12_tables_195 : decode cX12_tables 195 = .ok (.iload_n 2, 1) := by decide +kernel
theorem dX12_tables_196 : decode cX12_tables 196 = .ok (.invokevirtual 225, 3) := by decide +kernel
theorem dX12_tables_199 : decode cX12_tables 199 = .ok (.aload_n 0, 1) := by decide +kernel
theorem dX12_tables_200 : decode cX12_tables 200 = .ok (.invokevirtual 213, 3) := by decide +kernel
theorem dX12_tables_203 : decode cX12_tables 203 = .ok (.istore_n 3, 1) := by decide +kernel
theorem dX12_tables_204 : decode cX12_tables 204 = .ok (.iload_n 3, 1) := by decide +kernel
theorem dX12_tables_205 : decode cX12_tables 205 = .ok (.ifCond .ne 10, 3) := by decide +kernel
theorem dX12_tables_208 : decode cX12_tables 208 = .ok (.aload_n 0, 1) := by decide +kernel
theorem dX12_tables_209 : decode cX12_tables 209 = .ok (.iload_n 2, 1) := by decide +kernel
theorem dX12_tables_210 : decode cX12_tables 210 = .ok (.iconst 1, 1) := by decide +kernel
theorem dX12_tables_211 : decode cX12_tables 211 = .ok (.iadd, 1) := by decide +kernel
theorem dX12_tables_212 : decode cX12_tables 212 = .ok (.putfield 228, 3) := by decide +kernel
theorem dX12_tables_215 : decode cX12_tables 215 = .ok (.iinc 2 1, 3) := by decide +kernel
theorem dX12_tables_218 : decode cX12_tables 218 = .ok (.goto (-41), 3) := by decide +kernel
theorem dX12_tables_221 : decode cX12_tables 221 = .ok (.aload_n 0, 1) := by decide +kernel
theorem dX12_tables_222 : decode cX12_tables 222 = .ok (.getfield 75, 3) := by decide +kernel
theorem dX12_tables_225 : decode cX12_tables 225 = .ok (.iconst 0, 1) := by decide +kernel
theorem dX12_tables_226 : decode cX12_tables 226 = .ok (.aload_n 0, 1) := by decide +kernel
theorem dX12_tables_227 : decode cX12_tables 227 = .ok (.getfield 38, 3) := by decide +kernel
theorem dX12_tables_230 : decode cX12_tables 230 = .ok (.bipush 120, 2) := by decide +kernel
theorem dX12_tables_232 : decode cX12_tables 232 = .ok (.invokestatic 151, 3) := by decide +kernel
theorem dX12_tables_235 : decode cX12_tables 235 = .ok (.aload_n 0, 1) := by decide +kernel
theorem dX12_tables_236 : decode cX12_tables 236 = .ok (.aload_n 0, 1) := by decide +kernel
theorem dX12_tables_237 : decode cX12_tables 237 = .ok (.getfield 115, 3) := by decide +kernel
theorem dX12_tables_240 : decode cX12_tables 240 = .ok (.putfield 231, 3) := by decide +kernel
theorem dX12_tables_243 : decode cX12_tables 243 = .ok (.aload_n 0, 1) := by decide +kernel
theorem dX12_tables_244 : decode cX12_tables 244 = .ok (.aload_n 0, 1) := by decide +kernel
theorem dX12_tables_245 : decode cX12_tables 245 = .ok (.getfield 118, 3) := by decide +kernel
theorem dX12_tables_248 : decode cX12_tables 248 = .ok (.putfield 234, 3) := by decide +kernel
theorem dX12_tables_251 : decode cX12_tables 251 = .ok (.aload_n 0, 1) := by decide +kernel
theorem dX12_tables_252 : decode cX12_tables 252 = .ok (.iconst 0, 1) := by decide +kernel
theorem dX12_tables_253 : decode cX12_tables 253 = .ok (.putfield 34, 3) := by decide +kernel
theorem dX12_tables_256 : decode cX12_tables 256 = .ok (.aload_n 0, 1) := by decide +kernel
theorem dX12_tables_257 : decode cX12_tables 257 = .ok (.aload_n 0, 1) := by decide +kernel
theorem dX12_tables_258 : decode cX12_tables 258 = .ok (.getfield 22, 3) := by decide +kernel
theorem dX12_tables_261 : decode cX12_tables 261 = .ok (.iconst 0, 1) := by decide +kernel
theorem dX12_tables_262 : decode cX12_tables 262 = .ok (.iaload, 1) := by decide +kernel
theorem dX12_tables_263 : decode cX12_tables 263 = .ok (.putfield 237, 3) := by decide +kernel
theorem dX12_tables_266 : decode cX12_tables 266 = .ok (.aload_n 0, 1) := by decide +kernel
theorem dX12_tables_267 : decode cX12_tables 267 = .ok (.aload_n 0, 1) := by decide +kernel
theorem dX12_tables_268 : decode cX12_tables 268 = .ok (.getfield 163, 3) := by decide +kernel
theorem dX12_tables_271 : decode cX12_tables 271 = .ok (.putfield 240, 3) := by decide +kernel
theorem dX12_tables_274 : decode cX12_tables 274 = .ok (.aload_n 0, 1) := by decide +kernel
theorem dX12_tables_275 : decode cX12_tables 275 = .ok (.aload_n 0, 1) := by decide +kernel
theorem dX12_tables_276 : decode cX12_tables 276 = .ok (.getfield 78, 3) := by decide +kernel
theorem dX12_tables_279 : decode cX12_tables 279 = .ok (.invokevirtual 243, 3) := by decide +kernel
theorem dX12_tables_282 : decode cX12_tables 282 = .ok (.iload_n 1, 1) := by decide +kernel
theorem dX12_tables_283 : decode cX12_tables 283 = .ok (.ireturn, 1) := by decide +kernel
theorem dX12_keepCase_0 : decode cX12_keepCase 0 = .ok (.iconst 0, 1) := by decide +kernel
theorem dX12_keepCase_1 : decode cX12_keepCase 1 = .ok (.istore_n 2, 1) := by decide +kernel
theorem dX12_keepCase_2 : decode cX12_keepCase 2 = .ok (.iload_n 2, 1) := by decide +kernel
theorem dX12_keepCase_3 : decode cX12_keepCase 3 = .ok (.aload_n 0, 1) := by decide +kernel
theorem dX12_keepCase_4 : decode cX12_keepCase 4 = .ok (.getfield 115, 3) := by decide +kernel
theorem dX12_keepCase_7 : decode cX12_keepCase 7 = .ok (.aload_n 0, 1) := by decide +kernel
theorem dX12_keepCase_8 : decode cX12_keepCase 8 = .ok (.getfield 118, 3) := by decide +kernel
theorem dX12_keepCase_11 : decode cX12_keepCase 11 = .ok (.imul, 1) := by decide +kernel
theorem dX12_keepCase_12 : decode cX12_keepCase 12 = .ok (.if_icmp .ge 27, 3) := by decide +kernel
theorem dX12_keepCase_15 : decode cX12_keepCase 15 = .ok (.aload_n 0, 1) := by decide +kernel
theorem dX12_keepCase_16 : decode cX12_keepCase 16 = .ok (.getfield 62, 3) := by decide +kernel
theorem dX12_keepCase_19 : decode cX12_keepCase 19 = .ok (.bipush 25, 2) := by decide +kernel
theorem dX12_keepCase_21 : decode cX12_keepCase 21 = .ok (.iload_n 1, 1) := by decide +kernel
theorem dX12_keepCase_22 : decode cX12_keepCase 22 = .ok (.imul, 1) := by decide +kernel
theorem dX12_keepCase_23 : decode cX12_keepCase 23 = .ok (.iload_n 2, 1) := by decide +kernel
theorem dX12_keepCase_24 : decode cX12_keepCase 24 = .ok (.iadd, 1) := by decide +kernel
theorem dX12_keepCase_25 : decode cX12_keepCase 25 = .ok (.aload_n 0, 1) := by decide +kernel
theorem dX12_keepCase_26 : decode cX12_keepCase 26 = .ok (.getfield 49, 3) := by decide +kernel
theorem dX12_keepCase_29 : decode cX12_keepCase 29 = .ok (.iload_n 2, 1) := by decide +kernel
theorem dX12_keepCase_30 : decode cX12_keepCase 30 = .ok (.iaload, 1) := by decide +kernel
theorem dX12_keepCase_31 : decode cX12_keepCase 31 = .ok (.i2b, 1) := by decide +kernel
theorem dX12_keepCase_32 : decode cX12_keepCase 32 = .ok (.bastore, 1) := by decide +kernel
theorem dX12_keepCase_33 : decode cX12_keepCase 33 = .ok (.iinc 2 1, 3) := by decide +kernel
theorem dX12_keepCase_36 : decode cX12_keepCase 36 = .ok (.goto (-34), 3) := by decide +kernel
theorem dX12_keepCase_39 : decode cX12_keepCase 39 = .ok (.aload_n 0, 1) := by decide +kernel
theorem dX12_keepCase_40 : decode cX12_keepCase 40 = .ok (.getfield 72, 3) := by decide +kernel
theorem dX12_keepCase_43 : decode cX12_keepCase 43 = .ok (.iconst 0, 1) := by decide +kernel
theorem dX12_keepCase_44 : decode cX12_keepCase 44 = .ok (.aload_n 0, 1) := by decide +kernel
theorem dX12_keepCase_45 : decode cX12_keepCase 45 = .ok (.getfield 75, 3) := by decide +kernel
theorem dX12_keepCase_48 : decode cX12_keepCase 48 = .ok (.iconst 0, 1) := by decide +kernel
theorem dX12_keepCase_49 : decode cX12_keepCase 49 = .ok (.invokestatic 143, 3) := by decide +kernel
theorem dX12_keepCase_52 : decode cX12_keepCase 52 = .ok (.istore_n 2, 1) := by decide +kernel
theorem dX12_keepCase_53 : decode cX12_keepCase 53 = .ok (.aload_n 0, 1) := by decide +kernel
theorem dX12_keepCase_54 : decode cX12_keepCase 54 = .ok (.getfield 66, 3) := by decide +kernel
theorem dX12_keepCase_57 : decode cX12_keepCase 57 = .ok (.iload_n 1, 1) := by decide +kernel
theorem dX12_keepCase_58 : decode cX12_keepCase 58 = .ok (.iload_n 2, 1) := by decide +kernel
theorem dX12_keepCase_59 : decode cX12_keepCase 59 = .ok (.i2b, 1) := by decide +kernel
theorem dX12_keepCase_60 : decode cX12_keepCase 60 = .ok (.bastore, 1) := by decide +kernel
theorem dX12_keepCase_61 : decode cX12_keepCase 61 = .ok (.iload_n 2, 1) := by decide +kernel
theorem dX12_keepCase_62 : decode cX12_keepCase 62 = .ok (.ifCond .gt 16, 3) := by decide +kernel
theorem dX12_keepCase_65 : decode cX12_keepCase 65 = .ok (.aload_n 0, 1) := by decide +kernel
theorem dX12_keepCase_66 : decode cX12_keepCase 66 = .ok (.getfield 38, 3) := by decide +kernel
theorem dX12_keepCase_69 : decode cX12_keepCase 69 = .ok (.iconst 0, 1) := by decide +kernel
theorem dX12_keepCase_70 : decode cX12_keepCase 70 = .ok (.aload_n 0, 1) := by decide +kernel
theorem dX12_keepCase_71 : decode cX12_keepCase 71 = .ok (.getfield 72, 3) := by decide +kernel
theorem dX12_keepCase_74 : decode cX12_keepCase 74 = .ok (.iconst 0, 1) := by decide +kernel
theorem dX12_keepCase_75 : decode cX12_keepCase 75 = .ok (.invokestatic 247, 3) := by decide +kernel
theorem dX12_keepCase_78 : decode cX12_keepCase 78 = .ok (.aload_n 0, 1) := by decide +kernel
theorem dX12_keepCase_79 : decode cX12_keepCase 79 = .ok (.getfield 49, 3) := by decide +kernel
theorem dX12_keepCase_82 : decode cX12_keepCase 82 = .ok (.iconst 0, 1) := by decide +kernel
theorem dX12_keepCase_83 : decode cX12_keepCase 83 = .ok (.iaload, 1) := by decide +kernel
theorem dX12_keepCase_84 : decode cX12_keepCase 84 = .ok (.aload_n 0, 1) := by decide +kernel
theorem dX12_keepCase_85 : decode cX12_keepCase 85 = .ok (.getfield 22, 3) := by decide +kernel
theorem dX12_keepCase_88 : decode cX12_keepCase 88 = .ok (.iconst 0, 1) := by decide +kernel
theorem dX12_keepCase_89 : decode cX12_keepCase 89 = .ok (.iaload, 1) := by decide +kernel
theorem dX12_keepCase_90 : decode cX12_keepCase 90 = .ok (.if_icmp .gt 17, 3) := by decide +kernel
theorem dX12_keepCase_93 : decode cX12_keepCase 93 = .ok (.aload_n 0, 1) := by decide +kernel
theorem dX12_keepCase_94 : decode cX12_keepCase 94 = .ok (.getfield 38, 3) := by decide +kernel
theorem dX12_keepCase_97 : decode cX12_keepCase 97 = .ok (.bipush 40, 2) := by decide +kernel
theorem dX12_keepCase_99 : decode cX12_keepCase 99 = .ok (.aload_n 0, 1) := by decide +kernel
theorem dX12_keepCase_100 : decode cX12_keepCase 100 = .ok (.getfield 72, 3) := by decide +kernel
theorem dX12_keepCase_103 : decode cX12_keepCase 103 = .ok (.iconst 0, 1) := by decide +kernel
theorem dX12_keepCase_104 : decode cX12_keepCase 104 = .ok (.invokestatic 247, 3) := by decide +kernel
theorem dX12_keepCase_107 : decode cX12_keepCase 107 = .ok (.aload_n 0, 1) := by decide +kernel
theorem dX12_keepCase_108 : decode cX12_keepCase 108 = .ok (.getfield 49, 3) := by decide +kernel
theorem dX12_keepCase_111 : decode cX12_keepCase 111 = .ok (.iconst 0, 1) := by decide +kernel
theorem dX12_keepCase_112 : decode cX12_keepCase 112 = .ok (.iaload, 1) := by decide +kernel
theorem dX12_keepCase_113 : decode cX12_keepCase 113 = .ok (.aload_n 0, 1) := by decide +kernel
theorem dX12_keepCase_114 : decode cX12_keepCase 114 = .ok (.getfield 22, 3) := by decide +kernel
theorem dX12_keepCase_117 : decode cX12_keepCase 117 = .ok (.iconst 0, 1) := by decide +kernel
theorem dX12_keepCase_118 : decode cX12_keepCase 118 = .ok (.iaload, 1) := by decide +kernel
theorem dX12_keepCase_119 : decode cX12_keepCase 119 = .ok (.if_icmp .lt 17, 3) := by decide +kernel
theorem dX12_keepCase_122 : decode cX12_keepCase 122 = .ok (.aload_n 0, 1) := by decide +kernel
theorem dX12_keepCase_123 : decode cX12_keepCase 123 = .ok (.getfield 38, 3) := by decide +kernel
theorem dX12_keepCase_126 : decode cX12_keepCase 126 = .ok (.bipush 80, 2) := by decide +kernel
theorem dX12_keepCase_128 : decode cX12_keepCase 128 = .ok (.aload_n 0, 1) := by decide +kernel
theorem dX12_keepCase_129 : decode cX12_keepCase 129 = .ok (.getfield 72, 3) := by decide +kernel
theorem dX12_keepCase_132 : decode cX12_keepCase 132 = .ok (.iconst 0, 1) := by decide +kernel
theorem dX12_keepCase_133 : decode cX12_keepCase 133 = .ok (.invokestatic 247, 3) := by decide +kernel
theorem dX12_keepCase_136 : decode cX12_keepCase 136 = .ok (.return_, 1) := by decide +kernel
theorem dX12_caseAt_0 : decode cX12_caseAt 0 = .ok (.aload_n 0, 1) := by decide +kernel
theorem dX12_caseAt_1 : decode cX12_caseAt 1 = .ok (.getfield 228, 3) := by decide +kernel
theorem dX12_caseAt_4 : decode cX12_caseAt 4 = .ok (.ifCond .ne 6, 3) := by decide +kernel
theorem dX12_caseAt_7 : decode cX12_caseAt 7 = .ok (.bipush (-3), 2) := by decide +kernel
theorem dX12_caseAt_9 : decode cX12_caseAt 9 = .ok (.ireturn, 1) := by decide +kernel
theorem dX12_caseAt_10 : decode cX12_caseAt 10 = .ok (.iload_n 1, 1) := by decide +kernel
theorem dX12_caseAt_11 : decode cX12_caseAt 11 = .ok (.i2l, 1) := by decide +kernel
theorem dX12_caseAt_12 : decode cX12_caseAt 12 = .ok (.lconst 0, 1) := by decide +kernel
theorem dX12_caseAt_13 : decode cX12_caseAt 13 = .ok (.aload_n 0, 1) := by decide +kernel
theorem dX12_caseAt_14 : decode cX12_caseAt 14 = .ok (.getfield 228, 3) := by decide +kernel
theorem dX12_caseAt_17 : decode cX12_caseAt 17 = .ok (.iconst 1, 1) := by decide +kernel
theorem dX12_caseAt_18 : decode cX12_caseAt 18 = .ok (.isub, 1) := by decide +kernel
theorem dX12_caseAt_19 : decode cX12_caseAt 19 = .ok (.i2l, 1) := by decide +kernel
theorem dX12_caseAt_20 : decode cX12_caseAt 20 = .ok (.invokestatic 159, 3) := by decide +kernel
theorem dX12_caseAt_23 : decode cX12_caseAt 23 = .ok (.ifCond .eq 35, 3) := by decide +kernel
theorem dX12_caseAt_26 : decode cX12_caseAt 26 = .ok (.iload_n 2, 1) := by decide +kernel
theorem dX12_caseAt_27 : decode cX12_caseAt 27 = .ok (.i2l, 1) := by decide +kernel
theorem dX12_caseAt_28 : decode cX12_caseAt 28 = .ok (.lconst 0, 1) := by decide +kernel
theorem dX12_caseAt_29 : decode cX12_caseAt 29 = .ok (.aload_n 0, 1) := by decide +kernel
theorem dX12_caseAt_30 : decode cX12_caseAt 30 = .ok (.getfield 231, 3) := by decide +kernel
theorem dX12_caseAt_33 : decode cX12_caseAt 33 = .ok (.iconst 1, 1) := by decide +kernel
theorem dX12_caseAt_34 : decode cX12_caseAt 34 = .ok (.isub, 1) := by decide +kernel
theorem dX12_caseAt_35 : decode cX12_caseAt 35 = .ok (.i2l, 1) := by decide +kernel
theorem dX12_caseAt_36 : decode cX12_caseAt 36 = .ok (.invokestatic 159, 3) := by decide +kernel
theorem dX12_caseAt_39 : decode cX12_caseAt 39 = .ok (.ifCond .eq 19, 3) := by decide +kernel
theorem dX12_caseAt_42 : decode cX12_caseAt 42 = .ok (.iload_n 3, 1) := by decide +kernel
theorem dX12_caseAt_43 : decode cX12_caseAt 43 = .ok (.i2l, 1) := by decide +kernel
theorem dX12_caseAt_44 : decode cX12_caseAt 44 = .ok (.lconst 0, 1) := by decide +kernel
theorem dX12_caseAt_45 : decode cX12_caseAt 45 = .ok (.aload_n 0, 1) := by decide +kernel
theorem dX12_caseAt_46 : decode cX12_caseAt 46 = .ok (.getfield 234, 3) := by decide +kernel
theorem dX12_caseAt_49 : decode cX12_caseAt 49 = .ok (.iconst 1, 1) := by decide +kernel
theorem dX12_caseAt_50 : decode cX12_caseAt 50 = .ok (.isub, 1) := by decide +kernel
theorem dX12_caseAt_51 : decode cX12_caseAt 51 = .ok (.i2l, 1) := by decide +kernel
theorem dX12_caseAt_52 : decode cX12_caseAt 52 = .ok (.invokestatic 159, 3) := by decide +kernel
theorem dX12_caseAt_55 : decode cX12_caseAt 55 = .ok (.ifCond .ne 5, 3) := by decide +kernel
theorem dX12_caseAt_58 : decode cX12_caseAt 58 = .ok (.iconst (-1), 1) := by decide +kernel
theorem dX12_caseAt_59 : decode cX12_caseAt 59 = .ok (.ireturn, 1) := by decide +kernel
theorem dX12_caseAt_60 : decode cX12_caseAt 60 = .ok (.aload_n 0, 1) := by decide +kernel
theorem dX12_caseAt_61 : decode cX12_caseAt 61 = .ok (.getfield 62, 3) := by decide +kernel
theorem dX12_caseAt_64 : decode cX12_caseAt 64 = .ok (.bipush 25, 2) := by decide +kernel
theorem dX12_caseAt_66 : decode cX12_caseAt 66 = .ok (.iload_n 1, 1) := by decide +kernel
theorem dX12_caseAt_67 : decode cX12_caseAt 67 = .ok (.imul, 1) := by decide +kernel
theorem dX12_caseAt_68 : decode cX12_caseAt 68 = .ok (.aload_n 0, 1) := by decide +kernel
theorem dX12_caseAt_69 : decode cX12_caseAt 69 = .ok (.getfield 234, 3) := by decide +kernel
theorem dX12_caseAt_72 : decode cX12_caseAt 72 = .ok (.iload_n 2, 1) := by decide +kernel
theorem dX12_caseAt_73 : decode cX12_caseAt 73 = .ok (.imul, 1) := by decide +kernel
theorem dX12_caseAt_74 : decode cX12_caseAt 74 = .ok (.iadd, 1) := by decide +kernel
theorem dX12_caseAt_75 : decode cX12_caseAt 75 = .ok (.iload_n 3, 1) := by decide +kernel
theorem dX12_caseAt_76 : decode cX12_caseAt 76 = .ok (.iadd, 1) := by decide +kernel
theorem dX12_caseAt_77 : decode cX12_caseAt 77 = .ok (.baload, 1) := by decide +kernel
theorem dX12_caseAt_78 : decode cX12_caseAt 78 = .ok (.ireturn, 1) := by decide +kernel
theorem dX12_weighs_0 : decode cX12_weighs 0 = .ok (.aload_n 0, 1) := by decide +kernel
theorem dX12_weighs_1 : decode cX12_weighs 1 = .ok (.getfield 228, 3) := by decide +kernel
theorem dX12_weighs_4 : decode cX12_weighs 4 = .ok (.ifCond .ne 6, 3) := by decide +kernel
theorem dX12_weighs_7 : decode cX12_weighs 7 = .ok (.bipush (-30), 2) := by decide +kernel
theorem dX12_weighs_9 : decode cX12_weighs 9 = .ok (.ireturn, 1) := by decide +kernel
theorem dX12_weighs_10 : decode cX12_weighs 10 = .ok (.iload_n 1, 1) := by decide +kernel
theorem dX12_weighs_11 : decode cX12_weighs 11 = .ok (.i2l, 1) := by decide +kernel
theorem dX12_weighs_12 : decode cX12_weighs 12 = .ok (.lconst 0, 1) := by decide +kernel
theorem dX12_weighs_13 : decode cX12_weighs 13 = .ok (.aload_n 0, 1) := by decide +kernel
theorem dX12_weighs_14 : decode cX12_weighs 14 = .ok (.getfield 228, 3) := by decide +kernel
theorem dX12_weighs_17 : decode cX12_weighs 17 = .ok (.iconst 1, 1) := by decide +kernel
theorem dX12_weighs_18 : decode cX12_weighs 18 = .ok (.isub, 1) := by decide +kernel
theorem dX12_weighs_19 : decode cX12_weighs 19 = .ok (.i2l, 1) := by decide +kernel
theorem dX12_weighs_20 : decode cX12_weighs 20 = .ok (.invokestatic 159, 3) := by decide +kernel
theorem dX12_weighs_23 : decode cX12_weighs 23 = .ok (.ifCond .eq 12, 3) := by decide +kernel
theorem dX12_weighs_26 : decode cX12_weighs 26 = .ok (.aload_n 0, 1) := by decide +kernel
theorem dX12_weighs_27 : decode cX12_weighs 27 = .ok (.getfield 66, 3) := by decide +kernel
theorem dX12_weighs_30 : decode cX12_weighs 30 = .ok (.iload_n 1, 1) := by decide +kernel
theorem dX12_weighs_31 : decode cX12_weighs 31 = .ok (.baload, 1) := by decide +kernel
theorem dX12_weighs_32 : decode cX12_weighs 32 = .ok (.goto 5, 3) := by decide +kernel
theorem dX12_weighs_35 : decode cX12_weighs 35 = .ok (.bipush (-10), 2) := by decide +kernel
theorem dX12_weighs_37 : decode cX12_weighs 37 = .ok (.ireturn, 1) := by decide +kernel
theorem dX12_rankOf_0 : decode cX12_rankOf 0 = .ok (.iconst 0, 1) := by decide +kernel
theorem dX12_rankOf_1 : decode cX12_rankOf 1 = .ok (.istore_n 2, 1) := by decide +kernel
theorem dX12_rankOf_2 : decode cX12_rankOf 2 = .ok (.iconst 0, 1) := by decide +kernel
theorem dX12_rankOf_3 : decode cX12_rankOf 3 = .ok (.istore_n 3, 1) := by decide +kernel
theorem dX12_rankOf_4 : decode cX12_rankOf 4 = .ok (.iconst 0, 1) := by decide +kernel
theorem dX12_rankOf_5 : decode cX12_rankOf 5 = .ok (.istore 4, 2) := by decide +kernel
theorem dX12_rankOf_7 : decode cX12_rankOf 7 = .ok (.iload 4, 2) := by decide +kernel
theorem dX12_rankOf_9 : decode cX12_rankOf 9 = .ok (.aload_n 0, 1) := by decide +kernel
theorem dX12_rankOf_10 : decode cX12_rankOf 10 = .ok (.getfield 250, 3) := by decide +kernel
theorem dX12_rankOf_13 : decode cX12_rankOf 13 = .ok (.if_icmp .ge 47, 3) := by decide +kernel
theorem dX12_rankOf_16 : decode cX12_rankOf 16 = .ok (.iload_n 2, 1) := by decide +kernel
theorem dX12_rankOf_17 : decode cX12_rankOf 17 = .ok (.aload_n 0, 1) := by decide +kernel
theorem dX12_rankOf_18 : decode cX12_rankOf 18 = .ok (.getfield 81, 3) := by decide +kernel
theorem dX12_rankOf_21 : decode cX12_rankOf 21 = .ok (.iload 4, 2) := by decide +kernel
theorem dX12_rankOf_23 : decode cX12_rankOf 23 = .ok (.iaload, 1) := by decide +kernel
theorem dX12_rankOf_24 : decode cX12_rankOf 24 = .ok (.iload_n 1, 1) := by decide +kernel
theorem dX12_rankOf_25 : decode cX12_rankOf 25 = .ok (.if_icmp .ge 7, 3) := by decide +kernel
theorem dX12_rankOf_28 : decode cX12_rankOf 28 = .ok (.iconst 1, 1) := by decide +kernel
theorem dX12_rankOf_29 : decode cX12_rankOf 29 = .ok (.goto 4, 3) := by decide +kernel
theorem dX12_rankOf_32 : decode cX12_rankOf 32 = .ok (.iconst 0, 1) := by decide +kernel
theorem dX12_rankOf_33 : decode cX12_rankOf 33 = .ok (.iadd, 1) := by decide +kernel
theorem dX12_rankOf_34 : decode cX12_rankOf 34 = .ok (.istore_n 2, 1) := by decide +kernel
theorem dX12_rankOf_35 : decode cX12_rankOf 35 = .ok (.iload_n 3, 1) := by decide +kernel
theorem dX12_rankOf_36 : decode cX12_rankOf 36 = .ok (.aload_n 0, 1) := by decide +kernel
theorem dX12_rankOf_37 : decode cX12_rankOf 37 = .ok (.getfield 81, 3) := by decide +kernel
theorem dX12_rankOf_40 : decode cX12_rankOf 40 = .ok (.iload 4, 2) := by decide +kernel
theorem dX12_rankOf_42 : decode cX12_rankOf 42 = .ok (.iaload, 1) := by decide +kernel
theorem dX12_rankOf_43 : decode cX12_rankOf 43 = .ok (.iload_n 1, 1) := by decide +kernel
theorem dX12_rankOf_44 : decode cX12_rankOf 44 = .ok (.if_icmp .ne 7, 3) := by decide +kernel
theorem dX12_rankOf_47 : decode cX12_rankOf 47 = .ok (.iconst 1, 1) := by decide +kernel
theorem dX12_rankOf_48 : decode cX12_rankOf 48 = .ok (.goto 4, 3) := by decide +kernel
theorem dX12_rankOf_51 : decode cX12_rankOf 51 = .ok (.iconst 0, 1) := by decide +kernel
theorem dX12_rankOf_52 : decode cX12_rankOf 52 = .ok (.iadd, 1) := by decide +kernel
theorem dX12_rankOf_53 : decode cX12_rankOf 53 = .ok (.istore_n 3, 1) := by decide +kernel
theorem dX12_rankOf_54 : decode cX12_rankOf 54 = .ok (.iinc 4 1, 3) := by decide +kernel
theorem dX12_rankOf_57 : decode cX12_rankOf 57 = .ok (.goto (-50), 3) := by decide +kernel
theorem dX12_rankOf_60 : decode cX12_rankOf 60 = .ok (.iconst 2, 1) := by decide +kernel
theorem dX12_rankOf_61 : decode cX12_rankOf 61 = .ok (.iload_n 2, 1) := by decide +kernel
theorem dX12_rankOf_62 : decode cX12_rankOf 62 = .ok (.imul, 1) := by decide +kernel
theorem dX12_rankOf_63 : decode cX12_rankOf 63 = .ok (.iload_n 3, 1) := by decide +kernel
theorem dX12_rankOf_64 : decode cX12_rankOf 64 = .ok (.iadd, 1) := by decide +kernel
theorem dX12_rankOf_65 : decode cX12_rankOf 65 = .ok (.iconst 1, 1) := by decide +kernel
theorem dX12_rankOf_66 : decode cX12_rankOf 66 = .ok (.iadd, 1) := by decide +kernel
theorem dX12_rankOf_67 : decode cX12_rankOf 67 = .ok (.ireturn, 1) := by decide +kernel
theorem dX12_takeSamples_0 : decode cX12_takeSamples 0 = .ok (.aload_n 0, 1) := by decide +kernel
theorem dX12_takeSamples_1 : decode cX12_takeSamples 1 = .ok (.iconst 0, 1) := by decide +kernel
theorem dX12_takeSamples_2 : decode cX12_takeSamples 2 = .ok (.putfield 250, 3) := by decide +kernel
theorem dX12_takeSamples_5 : decode cX12_takeSamples 5 = .ok (.iconst 0, 1) := by decide +kernel
theorem dX12_takeSamples_6 : decode cX12_takeSamples 6 = .ok (.istore_n 1, 1) := by decide +kernel
theorem dX12_takeSamples_7 : decode cX12_takeSamples 7 = .ok (.iload_n 1, 1) := by decide +kernel
theorem dX12_takeSamples_8 : decode cX12_takeSamples 8 = .ok (.iconst 2, 1) := by decide +kernel
theorem dX12_takeSamples_9 : decode cX12_takeSamples 9 = .ok (.if_icmp .ge 57, 3) := by decide +kernel
theorem dX12_takeSamples_12 : decode cX12_takeSamples 12 = .ok (.iconst 0, 1) := by decide +kernel
theorem dX12_takeSamples_13 : decode cX12_takeSamples 13 = .ok (.istore_n 2, 1) := by decide +kernel
theorem dX12_takeSamples_14 : decode cX12_takeSamples 14 = .ok (.iload_n 2, 1) := by decide +kernel
theorem dX12_takeSamples_15 : decode cX12_takeSamples 15 = .ok (.aload_n 0, 1) := by decide +kernel
theorem dX12_takeSamples_16 : decode cX12_takeSamples 16 = .ok (.getfield 28, 3) := by decide +kernel
theorem dX12_takeSamples_19 : decode cX12_takeSamples 19 = .ok (.iload_n 1, 1) := by decide +kernel
theorem dX12_takeSamples_20 : decode cX12_takeSamples 20 = .ok (.iaload, 1) := by decide +kernel
theorem dX12_takeSamples_21 : decode cX12_takeSamples 21 = .ok (.if_icmp .ge 39, 3) := by decide +kernel
theorem dX12_takeSamples_24 : decode cX12_takeSamples 24 = .ok (.aload_n 0, 1) := by decide +kernel
theorem dX12_takeSamples_25 : decode cX12_takeSamples 25 = .ok (.getfield 81, 3) := by decide +kernel
theorem dX12_takeSamples_28 : decode cX12_takeSamples 28 = .ok (.aload_n 0, 1) := by decide +kernel
theorem dX12_takeSamples_29 : decode cX12_takeSamples 29 = .ok (.getfield 250, 3) := by decide +kernel
theorem dX12_takeSamples_32 : decode cX12_takeSamples 32 = .ok (.aload_n 0, 1) := by decide +kernel
theorem dX12_takeSamples_33 : decode cX12_takeSamples 33 = .ok (.getfield 25, 3) := by decide +kernel
theorem dX12_takeSamples_36 : decode cX12_takeSamples 36 = .ok (.bipush 15, 2) := by decide +kernel
theorem dX12_takeSamples_38 : decode cX12_takeSamples 38 = .ok (.iload_n 1, 1) := by decide +kernel
theorem dX12_takeSamples_39 : decode cX12_takeSamples 39 = .ok (.imul, 1) := by decide +kernel
theorem dX12_takeSamples_40 : decode cX12_takeSamples 40 = .ok (.iload_n 2, 1) := by decide +kernel
theorem dX12_takeSamples_41 : decode cX12_takeSamples 41 = .ok (.iadd, 1) := by decide +kernel
theorem dX12_takeSamples_42 : decode cX12_takeSamples 42 = .ok (.iaload, 1) := by decide +kernel
theorem dX12_takeSamples_43 : decode cX12_takeSamples 43 = .ok (.iastore, 1) := by decide +kernel
theorem dX12_takeSamples_44 : decode cX12_takeSamples 44 = .ok (.aload_n 0, 1) := by decide +kernel
theorem dX12_takeSamples_45 : decode cX12_takeSamples 45 = .ok (.dup, 1) := by decide +kernel
theorem dX12_takeSamples_46 : decode cX12_takeSamples 46 = .ok (.getfield 250, 3) := by decide +kernel
theorem dX12_takeSamples_49 : decode cX12_takeSamples 49 = .ok (.iconst 1, 1) := by decide +kernel
theorem dX12_takeSamples_50 : decode cX12_takeSamples 50 = .ok (.iadd, 1) := by decide +kernel
theorem dX12_takeSamples_51 : decode cX12_takeSamples 51 = .ok (.putfield 250, 3) := by decide +kernel
theorem dX12_takeSamples_54 : decode cX12_takeSamples 54 = .ok (.iinc 2 1, 3) := by decide +kernel
theorem dX12_takeSamples_57 : decode cX12_takeSamples 57 = .ok (.goto (-43), 3) := by decide +kernel
theorem dX12_takeSamples_60 : decode cX12_takeSamples 60 = .ok (.iinc 1 1, 3) := by decide +kernel
theorem dX12_takeSamples_63 : decode cX12_takeSamples 63 = .ok (.goto (-56), 3) := by decide +kernel
theorem dX12_takeSamples_66 : decode cX12_takeSamples 66 = .ok (.return_, 1) := by decide +kernel
theorem dX12_takeSizes_0 : decode cX12_takeSizes 0 = .ok (.aload_n 0, 1) := by decide +kernel
theorem dX12_takeSizes_1 : decode cX12_takeSizes 1 = .ok (.iconst 0, 1) := by decide +kernel
theorem dX12_takeSizes_2 : decode cX12_takeSizes 2 = .ok (.putfield 250, 3) := by decide +kernel
theorem dX12_takeSizes_5 : decode cX12_takeSizes 5 = .ok (.iconst 0, 1) := by decide +kernel
theorem dX12_takeSizes_6 : decode cX12_takeSizes 6 = .ok (.istore_n 1, 1) := by decide +kernel
theorem dX12_takeSizes_7 : decode cX12_takeSizes 7 = .ok (.iload_n 1, 1) := by decide +kernel
theorem dX12_takeSizes_8 : decode cX12_takeSizes 8 = .ok (.aload_n 0, 1) := by decide +kernel
theorem dX12_takeSizes_9 : decode cX12_takeSizes 9 = .ok (.getfield 181, 3) := by decide +kernel
theorem dX12_takeSizes_12 : decode cX12_takeSizes 12 = .ok (.if_icmp .ge 46, 3) := by decide +kernel
theorem dX12_takeSizes_15 : decode cX12_takeSizes 15 = .ok (.aload_n 0, 1) := by decide +kernel
theorem dX12_takeSizes_16 : decode cX12_takeSizes 16 = .ok (.getfield 31, 3) := by decide +kernel
theorem dX12_takeSizes_19 : decode cX12_takeSizes 19 = .ok (.iload_n 1, 1) := by decide +kernel
theorem dX12_takeSizes_20 : decode cX12_takeSizes 20 = .ok (.iaload, 1) := by decide +kernel
theorem dX12_takeSizes_21 : decode cX12_takeSizes 21 = .ok (.ifCond .eq 31, 3) := by decide +kernel
theorem dX12_takeSizes_24 : decode cX12_takeSizes 24 = .ok (.aload_n 0, 1) := by decide +kernel
theorem dX12_takeSizes_25 : decode cX12_takeSizes 25 = .ok (.getfield 81, 3) := by decide +kernel
theorem dX12_takeSizes_28 : decode cX12_takeSizes 28 = .ok (.aload_n 0, 1) := by decide +kernel
theorem dX12_takeSizes_29 : decode cX12_takeSizes 29 = .ok (.getfield 250, 3) := by decide +kernel
theorem dX12_takeSizes_32 : decode cX12_takeSizes 32 = .ok (.aload_n 0, 1) := by decide +kernel
theorem dX12_takeSizes_33 : decode cX12_takeSizes 33 = .ok (.getfield 31, 3) := by decide +kernel
theorem dX12_takeSizes_36 : decode cX12_takeSizes 36 = .ok (.iload_n 1, 1) := by decide +kernel
theorem dX12_takeSizes_37 : decode cX12_takeSizes 37 = .ok (.iaload, 1) := by decide +kernel
theorem dX12_takeSizes_38 : decode cX12_takeSizes 38 = .ok (.invokestatic 253, 3) := by decide +kernel
theorem dX12_takeSizes_41 : decode cX12_takeSizes 41 = .ok (.iastore, 1) := by decide +kernel
theorem dX12_takeSizes_42 : decode cX12_takeSizes 42 = .ok (.aload_n 0, 1) := by decide +kernel
theorem dX12_takeSizes_43 : decode cX12_takeSizes 43 = .ok (.dup, 1) := by decide +kernel
theorem dX12_takeSizes_44 : decode cX12_takeSizes 44 = .ok (.getfield 250, 3) := by decide +kernel
theorem dX12_takeSizes_47 : decode cX12_takeSizes 47 = .ok (.iconst 1, 1) := by decide +kernel
theorem dX12_takeSizes_48 : decode cX12_takeSizes 48 = .ok (.iadd, 1) := by decide +kernel
theorem dX12_takeSizes_49 : decode cX12_takeSizes 49 = .ok (.putfield 250, 3) := by decide +kernel
theorem dX12_takeSizes_52 : decode cX12_takeSizes 52 = .ok (.iinc 1 1, 3) := by decide +kernel
theorem dX12_takeSizes_55 : decode cX12_takeSizes 55 = .ok (.goto (-48), 3) := by decide +kernel
theorem dX12_takeSizes_58 : decode cX12_takeSizes 58 = .ok (.return_, 1) := by decide +kernel
theorem dX12_sizeOf_0 : decode cX12_sizeOf 0 = .ok (.iload_n 0, 1) := by decide +kernel
theorem dX12_sizeOf_1 : decode cX12_sizeOf 1 = .ok (.ifCond .ge 8, 3) := by decide +kernel
theorem dX12_sizeOf_4 : decode cX12_sizeOf 4 = .ok (.iload_n 0, 1) := by decide +kernel
theorem dX12_sizeOf_5 : decode cX12_sizeOf 5 = .ok (.ineg, 1) := by decide +kernel
theorem dX12_sizeOf_6 : decode cX12_sizeOf 6 = .ok (.goto 4, 3) := by decide +kernel
theorem dX12_sizeOf_9 : decode cX12_sizeOf 9 = .ok (.iload_n 0, 1) := by decide +kernel
theorem dX12_sizeOf_10 : decode cX12_sizeOf 10 = .ok (.ireturn, 1) := by decide +kernel
theorem dX12_rank_0 : decode cX12_rank 0 = .ok (.iload_n 1, 1) := by decide +kernel
theorem dX12_rank_1 : decode cX12_rank 1 = .ok (.i2l, 1) := by decide +kernel
theorem dX12_rank_2 : decode cX12_rank 2 = .ok (.lconst 0, 1) := by decide +kernel
theorem dX12_rank_3 : decode cX12_rank 3 = .ok (.ldc2_w 256, 3) := by decide +kernel
theorem dX12_rank_6 : decode cX12_rank 6 = .ok (.invokestatic 159, 3) := by decide +kernel
theorem dX12_rank_9 : decode cX12_rank 9 = .ok (.ifCond .eq 33, 3) := by decide +kernel
theorem dX12_rank_12 : decode cX12_rank 12 = .ok (.iload_n 2, 1) := by decide +kernel
theorem dX12_rank_13 : decode cX12_rank 13 = .ok (.i2l, 1) := by decide +kernel
theorem dX12_rank_14 : decode cX12_rank 14 = .ok (.lconst 0, 1) := by decide +kernel
theorem dX12_rank_15 : decode cX12_rank 15 = .ok (.iload_n 1, 1) := by decide +kernel
theorem dX12_rank_16 : decode cX12_rank 16 = .ok (.iconst 2, 1) := by decide +kernel
theorem dX12_rank_17 : decode cX12_rank 17 = .ok (.if_icmp .ne 10, 3) := by decide +kernel
theorem dX12_rank_20 : decode cX12_rank 20 = .ok (.aload_n 0, 1) := by decide +kernel
theorem dX12_rank_21 : decode cX12_rank 21 = .ok (.getfield 181, 3) := by decide +kernel
theorem dX12_rank_24 : decode cX12_rank 24 = .ok (.goto 9, 3) := by decide +kernel
theorem dX12_rank_27 : decode cX12_rank 27 = .ok (.aload_n 0, 1) := by decide +kernel
theorem dX12_rank_28 : decode cX12_rank 28 = .ok (.getfield 28, 3) := by decide +kernel
theorem dX12_rank_31 : decode cX12_rank 31 = .ok (.iload_n 1, 1) := by decide +kernel
theorem dX12_rank_32 : decode cX12_rank 32 = .ok (.iaload, 1) := by decide +kernel
theorem dX12_rank_33 : decode cX12_rank 33 = .ok (.iconst 1, 1) := by decide +kernel
theorem dX12_rank_34 : decode cX12_rank 34 = .ok (.isub, 1) := by decide +kernel
theorem dX12_rank_35 : decode cX12_rank 35 = .ok (.i2l, 1) := by decide +kernel
theorem dX12_rank_36 : decode cX12_rank 36 = .ok (.invokestatic 159, 3) := by decide +kernel
theorem dX12_rank_39 : decode cX12_rank 39 = .ok (.ifCond .ne 5, 3) := by decide +kernel
theorem dX12_rank_42 : decode cX12_rank 42 = .ok (.iconst (-1), 1) := by decide +kernel
theorem dX12_rank_43 : decode cX12_rank 43 = .ok (.ireturn, 1) := by decide +kernel
theorem dX12_rank_44 : decode cX12_rank 44 = .ok (.iload_n 1, 1) := by decide +kernel
theorem dX12_rank_45 : decode cX12_rank 45 = .ok (.iconst 2, 1) := by decide +kernel
theorem dX12_rank_46 : decode cX12_rank 46 = .ok (.if_icmp .ne 34, 3) := by decide +kernel
theorem dX12_rank_49 : decode cX12_rank 49 = .ok (.aload_n 0, 1) := by decide +kernel
theorem dX12_rank_50 : decode cX12_rank 50 = .ok (.invokevirtual 258, 3) := by decide +kernel
theorem dX12_rank_53 : decode cX12_rank 53 = .ok (.aload_n 0, 1) := by decide +kernel
theorem dX12_rank_54 : decode cX12_rank 54 = .ok (.getfield 31, 3) := by decide +kernel
theorem dX12_rank_57 : decode cX12_rank 57 = .ok (.iload_n 2, 1) := by decide +kernel
theorem dX12_rank_58 : decode cX12_rank 58 = .ok (.iaload, 1) := by decide +kernel
theorem dX12_rank_59 : decode cX12_rank 59 = .ok (.ifCond .ne 7, 3) := by decide +kernel
theorem dX12_rank_62 : decode cX12_rank 62 = .ok (.iconst 0, 1) := by decide +kernel
theorem dX12_rank_63 : decode cX12_rank 63 = .ok (.goto 16, 3) := by decide +kernel
theorem dX12_rank_66 : decode cX12_rank 66 = .ok (.aload_n 0, 1) := by decide +kernel
theorem dX12_rank_67 : decode cX12_rank 67 = .ok (.aload_n 0, 1) := by decide +kernel
theorem dX12_rank_68 : decode cX12_rank 68 = .ok (.getfield 31, 3) := by decide +kernel
theorem dX12_rank_71 : decode cX12_rank 71 = .ok (.iload_n 2, 1) := by decide +kernel
theorem dX12_rank_72 : decode cX12_rank 72 = .ok (.iaload, 1) := by decide +kernel
theorem dX12_rank_73 : decode cX12_rank 73 = .ok (.invokestatic 253, 3) := by decide +kernel
theorem dX12_rank_76 : decode cX12_rank 76 = .ok (.invokevirtual 261, 3) := by decide +kernel
theorem dX12_rank_79 : decode cX12_rank 79 = .ok (.ireturn, 1) := by decide +kernel
theorem dX12_rank_80 : decode cX12_rank 80 = .ok (.aload_n 0, 1) := by decide +kernel
theorem dX12_rank_81 : decode cX12_rank 81 = .ok (.invokevirtual 264, 3) := by decide +kernel
theorem dX12_rank_84 : decode cX12_rank 84 = .ok (.aload_n 0, 1) := by decide +kernel
theorem dX12_rank_85 : decode cX12_rank 85 = .ok (.aload_n 0, 1) := by decide +kernel
theorem dX12_rank_86 : decode cX12_rank 86 = .ok (.getfield 25, 3) := by decide +kernel
theorem dX12_rank_89 : decode cX12_rank 89 = .ok (.bipush 15, 2) := by decide +kernel
theorem dX12_rank_91 : decode cX12_rank 91 = .ok (.iload_n 1, 1) := by decide +kernel
theorem dX12_rank_92 : decode cX12_rank 92 = .ok (.imul, 1) := by decide +kernel
theorem dX12_rank_93 : decode cX12_rank 93 = .ok (.iload_n 2, 1) := by decide +kernel
theorem dX12_rank_94 : decode cX12_rank 94 = .ok (.iadd, 1) := by decide +kernel
theorem dX12_rank_95 : decode cX12_rank 95 = .ok (.iaload, 1) := by decide +kernel
theorem dX12_rank_96 : decode cX12_rank 96 = .ok (.invokevirtual 261, 3) := by decide +kernel
theorem dX12_rank_99 : decode cX12_rank 99 = .ok (.ireturn, 1) := by decide +kernel
theorem dX12_labels_0 : decode cX12_labels 0 = .ok (.iload_n 1, 1) := by decide +kernel
theorem dX12_labels_1 : decode cX12_labels 1 = .ok (.i2l, 1) := by decide +kernel
theorem dX12_labels_2 : decode cX12_labels 2 = .ok (.lconst 0, 1) := by decide +kernel
theorem dX12_labels_3 : decode cX12_labels 3 = .ok (.lconst 1, 1) := by decide +kernel
theorem dX12_labels_4 : decode cX12_labels 4 = .ok (.invokestatic 159, 3) := by decide +kernel
theorem dX12_labels_7 : decode cX12_labels 7 = .ok (.ifCond .ne 7, 3) := by decide +kernel
theorem dX12_labels_10 : decode cX12_labels 10 = .ok (.ldc_w 267, 3) := by decide +kernel
theorem dX12_labels_13 : decode cX12_labels 13 = .ok (.ireturn, 1) := by decide +kernel
theorem dX12_labels_14 : decode cX12_labels 14 = .ok (.aload_n 0, 1) := by decide +kernel
theorem dX12_labels_15 : decode cX12_labels 15 = .ok (.getfield 28, 3) := by decide +kernel
theorem dX12_labels_18 : decode cX12_labels 18 = .ok (.iconst 0, 1) := by decide +kernel
theorem dX12_labels_19 : decode cX12_labels 19 = .ok (.iaload, 1) := by decide +kernel
theorem dX12_labels_20 : decode cX12_labels 20 = .ok (.ifCond .eq 12, 3) := by decide +kernel
theorem dX12_labels_23 : decode cX12_labels 23 = .ok (.aload_n 0, 1) := by decide +kernel
theorem dX12_labels_24 : decode cX12_labels 24 = .ok (.getfield 28, 3) := by decide +kernel
theorem dX12_labels_27 : decode cX12_labels 27 = .ok (.iconst 1, 1) := by decide +kernel
theorem dX12_labels_28 : decode cX12_labels 28 = .ok (.iaload, 1) := by decide +kernel
theorem dX12_labels_29 : decode cX12_labels 29 = .ok (.ifCond .ne 7, 3) := by decide +kernel
theorem dX12_labels_32 : decode cX12_labels 32 = .ok (.ldc_w 268, 3) := by decide +kernel
theorem dX12_labels_35 : decode cX12_labels 35 = .ok (.ireturn, 1) := by decide +kernel
theorem dX12_labels_36 : decode cX12_labels 36 = .ok (.aload_n 0, 1) := by decide +kernel
theorem dX12_labels_37 : decode cX12_labels 37 = .ok (.invokevirtual 264, 3) := by decide +kernel
theorem dX12_labels_40 : decode cX12_labels 40 = .ok (.aload_n 0, 1) := by decide +kernel
theorem dX12_labels_41 : decode cX12_labels 41 = .ok (.getfield 250, 3) := by decide +kernel
theorem dX12_labels_44 : decode cX12_labels 44 = .ok (.istore_n 2, 1) := by decide +kernel
theorem dX12_labels_45 : decode cX12_labels 45 = .ok (.aload_n 0, 1) := by decide +kernel
theorem dX12_labels_46 : decode cX12_labels 46 = .ok (.getfield 28, 3) := by decide +kernel
theorem dX12_labels_49 : decode cX12_labels 49 = .ok (.iconst 0, 1) := by decide +kernel
theorem dX12_labels_50 : decode cX12_labels 50 = .ok (.iaload, 1) := by decide +kernel
theorem dX12_labels_51 : decode cX12_labels 51 = .ok (.istore_n 3, 1) := by decide +kernel
theorem dX12_labels_52 : decode cX12_labels 52 = .ok (.iload_n 1, 1) := by decide +kernel
theorem dX12_labels_53 : decode cX12_labels 53 = .ok (.ifCond .ne 9, 3) := by decide +kernel
theorem dX12_labels_56 : decode cX12_labels 56 = .ok (.sipush (-1000), 3) := by decide +kernel
theorem dX12_labels_59 : decode cX12_labels 59 = .ok (.goto 4, 3) := by decide +kernel
theorem dX12_labels_62 : decode cX12_labels 62 = .ok (.iconst 0, 1) := by decide +kernel
theorem dX12_labels_63 : decode cX12_labels 63 = .ok (.istore 4, 2) := by decide +kernel
theorem dX12_labels_65 : decode cX12_labels 65 = .ok (.iconst 0, 1) := by decide +kernel
theorem dX12_labels_66 : decode cX12_labels 66 = .ok (.istore 5, 2) := by decide +kernel
theorem dX12_labels_68 : decode cX12_labels 68 = .ok (.iconst 0, 1) := by decide +kernel
theorem dX12_labels_69 : decode cX12_labels 69 = .ok (.istore 6, 2) := by decide +kernel
theorem dX12_labels_71 : decode cX12_labels 71 = .ok (.iconst 0, 1) := by decide +kernel
theorem dX12_labels_72 : decode cX12_labels 72 = .ok (.istore 7, 2) := by decide +kernel
theorem dX12_labels_74 : decode cX12_labels 74 = .ok (.iload 7, 2) := by decide +kernel
theorem dX12_labels_76 : decode cX12_labels 76 = .ok (.iload_n 2, 1) := by decide +kernel
theorem dX12_labels_77 : decode cX12_labels 77 = .ok (.if_icmp .ge 72, 3) := by decide +kernel
theorem dX12_labels_80 : decode cX12_labels 80 = .ok (.iload_n 1, 1) := by decide +kernel
theorem dX12_labels_81 : decode cX12_labels 81 = .ok (.ifCond .ne 13, 3) := by decide +kernel
theorem dX12_labels_84 : decode cX12_labels 84 = .ok (.aload_n 0, 1) := by decide +kernel
theorem dX12_labels_85 : decode cX12_labels 85 = .ok (.getfield 81, 3) := by decide +kernel
theorem dX12_labels_88 : decode cX12_labels 88 = .ok (.iload 7, 2) := by decide +kernel
theorem dX12_labels_90 : decode cX12_labels 90 = .ok (.iaload, 1) := by decide +kernel
theorem dX12_labels_91 : decode cX12_labels 91 = .ok (.goto 14, 3) := by decide +kernel
theorem dX12_labels_94 : decode cX12_labels 94 = .ok (.aload_n 0, 1) := by decide +kernel
theorem dX12_labels_95 : decode cX12_labels 95 = .ok (.aload_n 0, 1) := by decide +kernel
theorem dX12_labels_96 : decode cX12_labels 96 = .ok (.getfield 81, 3) := by decide +kernel
theorem dX12_labels_99 : decode cX12_labels 99 = .ok (.iload 7, 2) := by decide +kernel
theorem dX12_labels_101 : decode cX12_labels 101 = .ok (.iaload, 1) := by decide +kernel
theorem dX12_labels_102 : decode cX12_labels 102 = .ok (.invokevirtual 261, 3) := by decide +kernel
theorem dX12_labels_105 : decode cX12_labels 105 = .ok (.istore 8, 2) := by decide +kernel
theorem dX12_labels_107 : decode cX12_labels 107 = .ok (.aload_n 0, 1) := by decide +kernel
theorem dX12_labels_108 : decode cX12_labels 108 = .ok (.getfield 84, 3) := by decide +kernel
theorem dX12_labels_111 : decode cX12_labels 111 = .ok (.iload 7, 2) := by decide +kernel
theorem dX12_labels_113 : decode cX12_labels 113 = .ok (.iload 8, 2) := by decide +kernel
theorem dX12_labels_115 : decode cX12_labels 115 = .ok (.iload 4, 2) := by decide +kernel
theorem dX12_labels_117 : decode cX12_labels 117 = .ok (.isub, 1) := by decide +kernel
theorem dX12_labels_118 : decode cX12_labels 118 = .ok (.iastore, 1) := by decide +kernel
theorem dX12_labels_119 : decode cX12_labels 119 = .ok (.iload 5, 2) := by decide +kernel
theorem dX12_labels_121 : decode cX12_labels 121 = .ok (.iload 8, 2) := by decide +kernel
theorem dX12_labels_123 : decode cX12_labels 123 = .ok (.iadd, 1) := by decide +kernel
theorem dX12_labels_124 : decode cX12_labels 124 = .ok (.istore 5, 2) := by decide +kernel
theorem dX12_labels_126 : decode cX12_labels 126 = .ok (.iload 6, 2) := by decide +kernel
theorem dX12_labels_128 : decode cX12_labels 128 = .ok (.iload 7, 2) := by decide +kernel
theorem dX12_labels_130 : decode cX12_labels 130 = .ok (.iload_n 3, 1) := by decide +kernel
theorem dX12_labels_131 : decode cX12_labels 131 = .ok (.if_icmp .ge 8, 3) := by decide +kernel
theorem dX12_labels_134 : decode cX12_labels 134 = .ok (.iload 8, 2) := by decide +kernel
theorem dX12_labels_136 : decode cX12_labels 136 = .ok (.goto 4, 3) := by decide +kernel
theorem dX12_labels_139 : decode cX12_labels 139 = .ok (.iconst 0, 1) := by decide +kernel
theorem dX12_labels_140 : decode cX12_labels 140 = .ok (.iadd, 1) := by decide +kernel
theorem dX12_labels_141 : decode cX12_labels 141 = .ok (.istore 6, 2) := by decide +kernel
theorem dX12_labels_143 : decode cX12_labels 143 = .ok (.iinc 7 1, 3) := by decide +kernel
theorem dX12_labels_146 : decode cX12_labels 146 = .ok (.goto (-72), 3) := by decide +kernel
theorem dX12_labels_149 : decode cX12_labels 149 = .ok (.aload_n 0, 1) := by decide +kernel
theorem dX12_labels_150 : decode cX12_labels 150 = .ok (.iload_n 2, 1) := by decide +kernel
theorem dX12_labels_151 : decode cX12_labels 151 = .ok (.iload_n 3, 1) := by decide +kernel
theorem dX12_labels_152 : decode cX12_labels 152 = .ok (.invokevirtual 269, 3) := by decide +kernel
theorem dX12_labels_155 : decode cX12_labels 155 = .ok (.aload_n 0, 1) := by decide +kernel
theorem dX12_labels_156 : decode cX12_labels 156 = .ok (.sipush 30001, 3) := by decide +kernel
theorem dX12_labels_159 : decode cX12_labels 159 = .ok (.putfield 273, 3) := by decide +kernel
theorem dX12_labels_162 : decode cX12_labels 162 = .ok (.aload_n 0, 1) := by decide +kernel
theorem dX12_labels_163 : decode cX12_labels 163 = .ok (.iload 4, 2) := by decide +kernel
theorem dX12_labels_165 : decode cX12_labels 165 = .ok (.iload_n 3, 1) := by decide +kernel
theorem dX12_labels_166 : decode cX12_labels 166 = .ok (.imul, 1) := by decide +kernel
theorem dX12_labels_167 : decode cX12_labels 167 = .ok (.putfield 276, 3) := by decide +kernel
theorem dX12_labels_170 : decode cX12_labels 170 = .ok (.iconst 0, 1) := by decide +kernel
theorem dX12_labels_171 : decode cX12_labels 171 = .ok (.istore 7, 2) := by decide +kernel
theorem dX12_labels_173 : decode cX12_labels 173 = .ok (.iload 7, 2) := by decide +kernel
theorem dX12_labels_175 : decode cX12_labels 175 = .ok (.aload_n 0, 1) := by decide +kernel
theorem dX12_labels_176 : decode cX12_labels 176 = .ok (.getfield 273, 3) := by decide +kernel
theorem dX12_labels_179 : decode cX12_labels 179 = .ok (.if_icmp .ge 29, 3) := by decide +kernel
theorem dX12_labels_182 : decode cX12_labels 182 = .ok (.aload_n 0, 1) := by decide +kernel
theorem dX12_labels_183 : decode cX12_labels 183 = .ok (.getfield 45, 3) := by decide +kernel
theorem dX12_labels_186 : decode cX12_labels 186 = .ok (.iload 7, 2) := by decide +kernel
theorem dX12_labels_188 : decode cX12_labels 188 = .ok (.aload_n 0, 1) := by decide +kernel
theorem dX12_labels_189 : decode cX12_labels 189 = .ok (.getfield 88, 3) := by decide +kernel
theorem dX12_labels_192 : decode cX12_labels 192 = .ok (.sipush 30001, 3) := by decide +kernel
theorem dX12_labels_195 : decode cX12_labels 195 = .ok (.iload_n 3, 1) := by decide +kernel
theorem dX12_labels_196 : decode cX12_labels 196 = .ok (.imul, 1) := by decide +kernel
theorem dX12_labels_197 : decode cX12_labels 197 = .ok (.iload 7, 2) := by decide +kernel
theorem dX12_labels_199 : decode cX12_labels 199 = .ok (.iadd, 1) := by decide +kernel
theorem dX12_labels_200 : decode cX12_labels 200 = .ok (.laload, 1) := by decide +kernel
theorem dX12_labels_201 : decode cX12_labels 201 = .ok (.lastore, 1) := by decide +kernel
theorem dX12_labels_202 : decode cX12_labels 202 = .ok (.iinc 7 1, 3) := by decide +kernel
theorem dX12_labels_205 : decode cX12_labels 205 = .ok (.goto (-32), 3) := by decide +kernel
theorem dX12_labels_208 : decode cX12_labels 208 = .ok (.aload_n 0, 1) := by decide +kernel
theorem dX12_labels_209 : decode cX12_labels 209 = .ok (.iconst 1, 1) := by decide +kernel
theorem dX12_labels_210 : decode cX12_labels 210 = .ok (.iload_n 1, 1) := by decide +kernel
theorem dX12_labels_211 : decode cX12_labels 211 = .ok (.iadd, 1) := by decide +kernel
theorem dX12_labels_212 : decode cX12_labels 212 = .ok (.putfield 34, 3) := by decide +kernel
theorem dX12_labels_215 : decode cX12_labels 215 = .ok (.aload_n 0, 1) := by decide +kernel
theorem dX12_labels_216 : decode cX12_labels 216 = .ok (.iload 6, 2) := by decide +kernel
theorem dX12_labels_218 : decode cX12_labels 218 = .ok (.putfield 237, 3) := by decide +kernel
theorem dX12_labels_221 : decode cX12_labels 221 = .ok (.aload_n 0, 1) := by decide +kernel
theorem dX12_labels_222 : decode cX12_labels 222 = .ok (.iload_n 2, 1) := by decide +kernel
theorem dX12_labels_223 : decode cX12_labels 223 = .ok (.putfield 240, 3) := by decide +kernel
theorem dX12_labels_226 : decode cX12_labels 226 = .ok (.aload_n 0, 1) := by decide +kernel
theorem dX12_labels_227 : decode cX12_labels 227 = .ok (.iload_n 2, 1) := by decide +kernel
theorem dX12_labels_228 : decode cX12_labels 228 = .ok (.iload_n 3, 1) := by decide +kernel
theorem dX12_labels_229 : decode cX12_labels 229 = .ok (.iload 5, 2) := by decide +kernel
theorem dX12_labels_231 : decode cX12_labels 231 = .ok (.imul, 1) := by decide +kernel
theorem dX12_labels_232 : decode cX12_labels 232 = .ok (.invokevirtual 279, 3) := by decide +kernel
theorem dX12_labels_235 : decode cX12_labels 235 = .ok (.iload 6, 2) := by decide +kernel
theorem dX12_labels_237 : decode cX12_labels 237 = .ok (.ireturn, 1) := by decide +kernel
theorem dX12_countWays_0 : decode cX12_countWays 0 = .ok (.iconst 0, 1) := by decide +kernel
theorem dX12_countWays_1 : decode cX12_countWays 1 = .ok (.istore_n 3, 1) := by decide +kernel
theorem dX12_countWays_2 : decode cX12_countWays 2 = .ok (.iload_n 3, 1) := by decide +kernel
theorem dX12_countWays_3 : decode cX12_countWays 3 = .ok (.ldc 87, 2) := by decide +kernel
theorem dX12_countWays_5 : decode cX12_countWays 5 = .ok (.if_icmp .ge 16, 3) := by decide +kernel
theorem dX12_countWays_8 : decode cX12_countWays 8 = .ok (.aload_n 0, 1) := by decide +kernel
theorem dX12_countWays_9 : decode cX12_countWays 9 = .ok (.getfield 88, 3) := by decide +kernel
theorem dX12_countWays_12 : decode cX12_countWays 12 = .ok (.iload_n 3, 1) := by decide +kernel
theorem dX12_countWays_13 : decode cX12_countWays 13 = .ok (.lconst 0, 1) := by decide +kernel
theorem dX12_countWays_14 : decode cX12_countWays 14 = .ok (.lastore, 1) := by decide +kernel
theorem dX12_countWays_15 : decode cX12_countWays 15 = .ok (.iinc 3 1, 3) := by decide +kernel
theorem dX12_countWays_18 : decode cX12_countWays 18 = .ok (.goto (-16), 3) := by decide +kernel
theorem dX12_countWays_21 : decode cX12_countWays 21 = .ok (.aload_n 0, 1) := by decide +kernel
theorem dX12_countWays_22 : decode cX12_countWays 22 = .ok (.getfield 88, 3) := by decide +kernel
theorem dX12_countWays_25 : decode cX12_countWays 25 = .ok (.iconst 0, 1) := by decide +kernel
theorem dX12_countWays_26 : decode cX12_countWays 26 = .ok (.lconst 1, 1) := by decide +kernel
theorem dX12_countWays_27 : decode cX12_countWays 27 = .ok (.lastore, 1) := by decide +kernel
theorem dX12_countWays_28 : decode cX12_countWays 28 = .ok (.iconst 0, 1) := by decide +kernel
theorem dX12_countWays_29 : decode cX12_countWays 29 = .ok (.istore_n 3, 1) := by decide +kernel
theorem dX12_countWays_30 : decode cX12_countWays 30 = .ok (.iload_n 3, 1) := by decide +kernel
theorem dX12_countWays_31 : decode cX12_countWays 31 = .ok (.iload_n 1, 1) := by decide +kernel
theorem dX12_countWays_32 : decode cX12_countWays 32 = .ok (.if_icmp .ge 125, 3) := by decide +kernel
theorem dX12_countWays_35 : decode cX12_countWays 35 = .ok (.aload_n 0, 1) := by decide +kernel
theorem dX12_countWays_36 : decode cX12_countWays 36 = .ok (.getfield 84, 3) := by decide +kernel
theorem dX12_countWays_39 : decode cX12_countWays 39 = .ok (.iload_n 3, 1) := by decide +kernel
theorem dX12_countWays_40 : decode cX12_countWays 40 = .ok (.iaload, 1) := by decide +kernel
theorem dX12_countWays_41 : decode cX12_countWays 41 = .ok (.istore 4, 2) := by decide +kernel
theorem dX12_countWays_43 : decode cX12_countWays 43 = .ok (.iload_n 2, 1) := by decide +kernel
theorem dX12_countWays_44 : decode cX12_countWays 44 = .ok (.iconst 1, 1) := by decide +kernel
theorem dX12_countWays_45 : decode cX12_countWays 45 = .ok (.isub, 1) := by decide +kernel
theorem dX12_countWays_46 : decode cX12_countWays 46 = .ok (.istore 5, 2) := by decide +kernel
theorem dX12_countWays_48 : decode cX12_countWays 48 = .ok (.iload 5, 2) := by decide +kernel
theorem dX12_countWays_50 : decode cX12_countWays 50 = .ok (.ifCond .lt 101, 3) := by decide +kernel
theorem dX12_countWays_53 : decode cX12_countWays 53 = .ok (.sipush 2000, 3) := by decide +kernel
theorem dX12_countWays_56 : decode cX12_countWays 56 = .ok (.iload 5, 2) := by decide +kernel
theorem dX12_countWays_58 : decode cX12_countWays 58 = .ok (.imul, 1) := by decide +kernel
theorem dX12_countWays_59 : decode cX12_countWays 59 = .ok (.sipush 30000, 3) := by decide +kernel
theorem dX12_countWays_62 : decode cX12_countWays 62 = .ok (.if_icmp .ge 12, 3) := by decide +kernel
theorem dX12_countWays_65 : decode cX12_countWays 65 = .ok (.sipush 2000, 3) := by decide +kernel
theorem dX12_countWays_68 : decode cX12_countWays 68 = .ok (.iload 5, 2) := by decide +kernel
theorem dX12_countWays_70 : decode cX12_countWays 70 = .ok (.imul, 1) := by decide +kernel
theorem dX12_countWays_71 : decode cX12_countWays 71 = .ok (.goto 6, 3) := by decide +kernel
theorem dX12_countWays_74 : decode cX12_countWays 74 = .ok (.sipush 30000, 3) := by decide +kernel
theorem dX12_countWays_77 : decode cX12_countWays 77 = .ok (.istore 6, 2) := by decide +kernel
theorem dX12_countWays_79 : decode cX12_countWays 79 = .ok (.iload 6, 2) := by decide +kernel
theorem dX12_countWays_81 : decode cX12_countWays 81 = .ok (.ifCond .lt 64, 3) := by decide +kernel
theorem dX12_countWays_84 : decode cX12_countWays 84 = .ok (.aload_n 0, 1) := by decide +kernel
theorem dX12_countWays_85 : decode cX12_countWays 85 = .ok (.getfield 88, 3) := by decide +kernel
theorem dX12_countWays_88 : decode cX12_countWays 88 = .ok (.sipush 30001, 3) := by decide +kernel
theorem dX12_countWays_91 : decode cX12_countWays 91 = .ok (.iload 5, 2) := by decide +kernel
theorem dX12_countWays_93 : decode cX12_countWays 93 = .ok (.imul, 1) := by decide +kernel
theorem dX12_countWays_94 : decode cX12_countWays 94 = .ok (.iload 6, 2) := by decide +kernel
theorem dX12_countWays_96 : decode cX12_countWays 96 = .ok (.iadd, 1) := by decide +kernel
theorem dX12_countWays_97 : decode cX12_countWays 97 = .ok (.laload, 1) := by decide +kernel
theorem dX12_countWays_98 : decode cX12_countWays 98 = .ok (.lconst 0, 1) := by decide +kernel
theorem dX12_countWays_99 : decode cX12_countWays 99 = .ok (.lcmp, 1) := by decide +kernel
theorem dX12_countWays_100 : decode cX12_countWays 100 = .ok (.ifCond .le 39, 3) := by decide +kernel
theorem dX12_countWays_103 : decode cX12_countWays 103 = .ok (.aload_n 0, 1) := by decide +kernel
theorem dX12_countWays_104 : decode cX12_countWays 104 = .ok (.getfield 88, 3) := by decide +kernel
theorem dX12_countWays_107 : decode cX12_countWays 107 = .ok (.sipush 30001, 3) := by decide +kernel
theorem dX12_countWays_110 : decode cX12_countWays 110 = .ok (.iload 5, 2) := by decide +kernel
theorem dX12_countWays_112 : decode cX12_countWays 112 = .ok (.iconst 1, 1) := by decide +kernel
theorem dX12_countWays_113 : decode cX12_countWays 113 = .ok (.iadd, 1) := by decide +kernel
theorem dX12_countWays_114 : decode cX12_countWays 114 = .ok (.imul, 1) := by decide +kernel
theorem dX12_countWays_115 : decode cX12_countWays 115 = .ok (.iload 6, 2) := by decide +kernel
theorem dX12_countWays_117 : decode cX12_countWays 117 = .ok (.iadd, 1) := by decide +kernel
theorem dX12_countWays_118 : decode cX12_countWays 118 = .ok (.iload 4, 2) := by decide +kernel
theorem dX12_countWays_120 : decode cX12_countWays 120 = .ok (.iadd, 1) := by decide +kernel
theorem dX12_countWays_121 : decode cX12_countWays 121 = .ok (.dup2, 1) := by decide +kernel
theorem dX12_countWays_122 : decode cX12_countWays 122 = .ok (.laload, 1) := by decide +kernel
theorem dX12_countWays_123 : decode cX12_countWays 123 = .ok (.aload_n 0, 1) := by decide +kernel
theorem dX12_countWays_124 : decode cX12_countWays 124 = .ok (.getfield 88, 3) := by decide +kernel
theorem dX12_countWays_127 : decode cX12_countWays 127 = .ok (.sipush 30001, 3) := by decide +kernel
theorem dX12_countWays_130 : decode cX12_countWays 130 = .ok (.iload 5, 2) := by decide +kernel
theorem dX12_countWays_132 : decode cX12_countWays 132 = .ok (.imul, 1) := by decide +kernel
theorem dX12_countWays_133 : decode cX12_countWays 133 = .ok (.iload 6, 2) := by decide +kernel
theorem dX12_countWays_135 : decode cX12_countWays 135 = .ok (.iadd, 1) := by decide +kernel
theorem dX12_countWays_136 : decode cX12_countWays 136 = .ok (.laload, 1) := by decide +kernel
theorem dX12_countWays_137 : decode cX12_countWays 137 = .ok (.ladd, 1) := by decide +kernel
theorem dX12_countWays_138 : decode cX12_countWays 138 = .ok (.lastore, 1) := by decide +kernel
theorem dX12_countWays_139 : decode cX12_countWays 139 = .ok (.iinc 6 (-1), 3) := by decide +kernel
theorem dX12_countWays_142 : decode cX12_countWays 142 = .ok (.goto (-63), 3) := by decide +kernel
theorem dX12_countWays_145 : decode cX12_countWays 145 = .ok (.iinc 5 (-1), 3) := by decide +kernel
theorem dX12_countWays_148 : decode cX12_countWays 148 = .ok (.goto (-100), 3) := by decide +kernel
theorem dX12_countWays_151 : decode cX12_countWays 151 = .ok (.iinc 3 1, 3) := by decide +kernel
theorem dX12_countWays_154 : decode cX12_countWays 154 = .ok (.goto (-124), 3) := by decide +kernel
theorem dX12_countWays_157 : decode cX12_countWays 157 = .ok (.return_, 1) := by decide +kernel
theorem dX12_signs_0 : decode cX12_signs 0 = .ok (.iload_n 1, 1) := by decide +kernel
theorem dX12_signs_1 : decode cX12_signs 1 = .ok (.i2l, 1) := by decide +kernel
theorem dX12_signs_2 : decode cX12_signs 2 = .ok (.lconst 0, 1) := by decide +kernel
theorem dX12_signs_3 : decode cX12_signs 3 = .ok (.ldc2_w 256, 3) := by decide +kernel
theorem dX12_signs_6 : decode cX12_signs 6 = .ok (.invokestatic 159, 3) := by decide +kernel
theorem dX12_signs_9 : decode cX12_signs 9 = .ok (.ifCond .ne 7, 3) := by decide +kernel
theorem dX12_signs_12 : decode cX12_signs 12 = .ok (.ldc_w 267, 3) := by decide +kernel
theorem dX12_signs_15 : decode cX12_signs 15 = .ok (.ireturn, 1) := by decide +kernel
theorem dX12_signs_16 : decode cX12_signs 16 = .ok (.aload_n 0, 1) := by decide +kernel
theorem dX12_signs_17 : decode cX12_signs 17 = .ok (.invokevirtual 258, 3) := by decide +kernel
theorem dX12_signs_20 : decode cX12_signs 20 = .ok (.aload_n 0, 1) := by decide +kernel
theorem dX12_signs_21 : decode cX12_signs 21 = .ok (.getfield 250, 3) := by decide +kernel
theorem dX12_signs_24 : decode cX12_signs 24 = .ok (.istore_n 2, 1) := by decide +kernel
theorem dX12_signs_25 : decode cX12_signs 25 = .ok (.iload_n 2, 1) := by decide +kernel
theorem dX12_signs_26 : decode cX12_signs 26 = .ok (.ifCond .ne 7, 3) := by decide +kernel
theorem dX12_signs_29 : decode cX12_signs 29 = .ok (.ldc_w 268, 3) := by decide +kernel
theorem dX12_signs_32 : decode cX12_signs 32 = .ok (.ireturn, 1) := by decide +kernel
theorem dX12_signs_33 : decode cX12_signs 33 = .ok (.iconst 0, 1) := by decide +kernel
theorem dX12_signs_34 : decode cX12_signs 34 = .ok (.istore_n 3, 1) := by decide +kernel
theorem dX12_signs_35 : decode cX12_signs 35 = .ok (.iconst 0, 1) := by decide +kernel
theorem dX12_signs_36 : decode cX12_signs 36 = .ok (.istore 4, 2) := by decide +kernel
theorem dX12_signs_38 : decode cX12_signs 38 = .ok (.iconst 0, 1) := by decide +kernel
theorem dX12_signs_39 : decode cX12_signs 39 = .ok (.istore 5, 2) := by decide +kernel
theorem dX12_signs_41 : decode cX12_signs 41 = .ok (.iconst 0, 1) := by decide +kernel
theorem dX12_signs_42 : decode cX12_signs 42 = .ok (.istore 6, 2) := by decide +kernel
theorem dX12_signs_44 : decode cX12_signs 44 = .ok (.iload 6, 2) := by decide +kernel
theorem dX12_signs_46 : decode cX12_signs 46 = .ok (.aload_n 0, 1) := by decide +kernel
theorem dX12_signs_47 : decode cX12_signs 47 = .ok (.getfield 181, 3) := by decide +kernel
theorem dX12_signs_50 : decode cX12_signs 50 = .ok (.if_icmp .ge 93, 3) := by decide +kernel
theorem dX12_signs_53 : decode cX12_signs 53 = .ok (.aload_n 0, 1) := by decide +kernel
theorem dX12_signs_54 : decode cX12_signs 54 = .ok (.getfield 31, 3) := by decide +kernel
theorem dX12_signs_57 : decode cX12_signs 57 = .ok (.iload 6, 2) := by decide +kernel
theorem dX12_signs_59 : decode cX12_signs 59 = .ok (.iaload, 1) := by decide +kernel
theorem dX12_signs_60 : decode cX12_signs 60 = .ok (.ifCond .eq 77, 3) := by decide +kernel
theorem dX12_signs_63 : decode cX12_signs 63 = .ok (.iload_n 1, 1) := by decide +kernel
theorem dX12_signs_64 : decode cX12_signs 64 = .ok (.ifCond .ne 13, 3) := by decide +kernel
theorem dX12_signs_67 : decode cX12_signs 67 = .ok (.aload_n 0, 1) := by decide +kernel
theorem dX12_signs_68 : decode cX12_signs 68 = .ok (.getfield 81, 3) := by decide +kernel
theorem dX12_signs_71 : decode cX12_signs 71 = .ok (.iload 5, 2) := by decide +kernel
theorem dX12_signs_73 : decode cX12_signs 73 = .ok (.iaload, 1) := by decide +kernel
theorem dX12_signs_74 : decode cX12_signs 74 = .ok (.goto 23, 3) := by decide +kernel
theorem dX12_signs_77 : decode cX12_signs 77 = .ok (.iload_n 1, 1) := by decide +kernel
theorem dX12_signs_78 : decode cX12_signs 78 = .ok (.iconst 1, 1) := by decide +kernel
theorem dX12_signs_79 : decode cX12_signs 79 = .ok (.if_icmp .ne 17, 3) := by decide +kernel
theorem dX12_signs_82 : decode cX12_signs 82 = .ok (.aload_n 0, 1) := by decide +kernel
theorem dX12_signs_83 : decode cX12_signs 83 = .ok (.aload_n 0, 1) := by decide +kernel
theorem dX12_signs_84 : decode cX12_signs 84 = .ok (.getfield 81, 3) := by decide +kernel
theorem dX12_signs_87 : decode cX12_signs 87 = .ok (.iload 5, 2) := by decide +kernel
theorem dX12_signs_89 : decode cX12_signs 89 = .ok (.iaload, 1) := by decide +kernel
theorem dX12_signs_90 : decode cX12_signs 90 = .ok (.invokevirtual 261, 3) := by decide +kernel
theorem dX12_signs_93 : decode cX12_signs 93 = .ok (.goto 4, 3) := by decide +kernel
theorem dX12_signs_96 : decode cX12_signs 96 = .ok (.iconst 1, 1) := by decide +kernel
theorem dX12_signs_97 : decode cX12_signs 97 = .ok (.istore 7, 2) := by decide +kernel
theorem dX12_signs_99 : decode cX12_signs 99 = .ok (.aload_n 0, 1) := by decide +kernel
theorem dX12_signs_100 : decode cX12_signs 100 = .ok (.getfield 84, 3) := by decide +kernel
theorem dX12_signs_103 : decode cX12_signs 103 = .ok (.iload 5, 2) := by decide +kernel
theorem dX12_signs_105 : decode cX12_signs 105 = .ok (.iload 7, 2) := by decide +kernel
theorem dX12_signs_107 : decode cX12_signs 107 = .ok (.iastore, 1) := by decide +kernel
theorem dX12_signs_108 : decode cX12_signs 108 = .ok (.iload_n 3, 1) := by decide +kernel
theorem dX12_signs_109 : decode cX12_signs 109 = .ok (.iload 7, 2) := by decide +kernel
theorem dX12_signs_111 : decode cX12_signs 111 = .ok (.iadd, 1) := by decide +kernel
theorem dX12_signs_112 : decode cX12_signs 112 = .ok (.istore_n 3, 1) := by decide +kernel
theorem dX12_signs_113 : decode cX12_signs 113 = .ok (.iload 4, 2) := by decide +kernel
theorem dX12_signs_115 : decode cX12_signs 115 = .ok (.aload_n 0, 1) := by decide +kernel
theorem dX12_signs_116 : decode cX12_signs 116 = .ok (.getfield 31, 3) := by decide +kernel
theorem dX12_signs_119 : decode cX12_signs 119 = .ok (.iload 6, 2) := by decide +kernel
theorem dX12_signs_121 : decode cX12_signs 121 = .ok (.iaload, 1) := by decide +kernel
theorem dX12_signs_122 : decode cX12_signs 122 = .ok (.ifCond .le 8, 3) := by decide +kernel
theorem dX12_signs_125 : decode cX12_signs 125 = .ok (.iload 7, 2) := by decide +kernel
theorem dX12_signs_127 : decode cX12_signs 127 = .ok (.goto 4, 3) := by decide +kernel
theorem dX12_signs_130 : decode cX12_signs 130 = .ok (.iconst 0, 1) := by decide +kernel
theorem dX12_signs_131 : decode cX12_signs 131 = .ok (.iadd, 1) := by decide +kernel
theorem dX12_signs_132 : decode cX12_signs 132 = .ok (.istore 4, 2) := by decide +kernel
theorem dX12_signs_134 : decode cX12_signs 134 = .ok (.iinc 5 1, 3) := by decide +kernel
theorem dX12_signs_137 : decode cX12_signs 137 = .ok (.iinc 6 1, 3) := by decide +kernel
theorem dX12_signs_140 : decode cX12_signs 140 = .ok (.goto (-96), 3) := by decide +kernel
theorem dX12_signs_143 : decode cX12_signs 143 = .ok (.iconst 0, 1) := by decide +kernel
theorem dX12_signs_144 : decode cX12_signs 144 = .ok (.istore 6, 2) := by decide +kernel
theorem dX12_signs_146 : decode cX12_signs 146 = .ok (.iload 6, 2) := by decide +kernel
theorem dX12_signs_148 : decode cX12_signs 148 = .ok (.ldc 44, 2) := by decide +kernel
theorem dX12_signs_150 : decode cX12_signs 150 = .ok (.if_icmp .ge 17, 3) := by decide +kernel
theorem dX12_signs_153 : decode cX12_signs 153 = .ok (.aload_n 0, 1) := by decide +kernel
theorem dX12_signs_154 : decode cX12_signs 154 = .ok (.getfield 45, 3) := by decide +kernel
theorem dX12_signs_157 : decode cX12_signs 157 = .ok (.iload 6, 2) := by decide +kernel
theorem dX12_signs_159 : decode cX12_signs 159 = .ok (.lconst 0, 1) := by decide +kernel
theorem dX12_signs_160 : decode cX12_signs 160 = .ok (.lastore, 1) := by decide +kernel
theorem dX12_signs_161 : decode cX12_signs 161 = .ok (.iinc 6 1, 3) := by decide +kernel
theorem dX12_signs_164 : decode cX12_signs 164 = .ok (.goto (-18), 3) := by decide +kernel
theorem dX12_signs_167 : decode cX12_signs 167 = .ok (.aload_n 0, 1) := by decide +kernel
theorem dX12_signs_168 : decode cX12_signs 168 = .ok (.getfield 45, 3) := by decide +kernel
theorem dX12_signs_171 : decode cX12_signs 171 = .ok (.iconst 0, 1) := by decide +kernel
theorem dX12_signs_172 : decode cX12_signs 172 = .ok (.lconst 1, 1) := by decide +kernel
theorem dX12_signs_173 : decode cX12_signs 173 = .ok (.lastore, 1) := by decide +kernel
theorem dX12_signs_174 : decode cX12_signs 174 = .ok (.iconst 0, 1) := by decide +kernel
theorem dX12_signs_175 : decode cX12_signs 175 = .ok (.istore 6, 2) := by decide +kernel
theorem dX12_signs_177 : decode cX12_signs 177 = .ok (.iload 6, 2) := by decide +kernel
theorem dX12_signs_179 : decode cX12_signs 179 = .ok (.iload_n 2, 1) := by decide +kernel
theorem dX12_signs_180 : decode cX12_signs 180 = .ok (.if_icmp .ge 58, 3) := by decide +kernel
theorem dX12_signs_183 : decode cX12_signs 183 = .ok (.ldc_w 282, 3) := by decide +kernel
theorem dX12_signs_186 : decode cX12_signs 186 = .ok (.aload_n 0, 1) := by decide +kernel
theorem dX12_signs_187 : decode cX12_signs 187 = .ok (.getfield 84, 3) := by decide +kernel
theorem dX12_signs_190 : decode cX12_signs 190 = .ok (.iload 6, 2) := by decide +kernel
theorem dX12_signs_192 : decode cX12_signs 192 = .ok (.iaload, 1) := by decide +kernel
theorem dX12_signs_193 : decode cX12_signs 193 = .ok (.isub, 1) := by decide +kernel
theorem dX12_signs_194 : decode cX12_signs 194 = .ok (.istore 7, 2) := by decide +kernel
theorem dX12_signs_196 : decode cX12_signs 196 = .ok (.iload 7, 2) := by decide +kernel
theorem dX12_signs_198 : decode cX12_signs 198 = .ok (.ifCond .lt 34, 3) := by decide +kernel
theorem dX12_signs_201 : decode cX12_signs 201 = .ok (.aload_n 0, 1) := by decide +kernel
theorem dX12_signs_202 : decode cX12_signs 202 = .ok (.getfield 45, 3) := by decide +kernel
theorem dX12_signs_205 : decode cX12_signs 205 = .ok (.iload 7, 2) := by decide +kernel
theorem dX12_signs_207 : decode cX12_signs 207 = .ok (.aload_n 0, 1) := by decide +kernel
theorem dX12_signs_208 : decode cX12_signs 208 = .ok (.getfield 84, 3) := by decide +kernel
theorem dX12_signs_211 : decode cX12_signs 211 = .ok (.iload 6, 2) := by decide +kernel
theorem dX12_signs_213 : decode cX12_signs 213 = .ok (.iaload, 1) := by decide +kernel
theorem dX12_signs_214 : decode cX12_signs 214 = .ok (.iadd, 1) := by decide +kernel
theorem dX12_signs_215 : decode cX12_signs 215 = .ok (.dup2, 1) := by decide +kernel
theorem dX12_signs_216 : decode cX12_signs 216 = .ok (.laload, 1) := by decide +kernel
theorem dX12_signs_217 : decode cX12_signs 217 = .ok (.aload_n 0, 1) := by decide +kernel
theorem dX12_signs_218 : decode cX12_signs 218 = .ok (.getfield 45, 3) := by decide +kernel
theorem dX12_signs_221 : decode cX12_signs 221 = .ok (.iload 7, 2) := by decide +kernel
theorem dX12_signs_223 : decode cX12_signs 223 = .ok (.laload, 1) := by decide +kernel
theorem dX12_signs_224 : decode cX12_signs 224 = .ok (.ladd, 1) := by decide +kernel
theorem dX12_signs_225 : decode cX12_signs 225 = .ok (.lastore, 1) := by decide +kernel
theorem dX12_signs_226 : decode cX12_signs 226 = .ok (.iinc 7 (-1), 3) := by decide +kernel
theorem dX12_signs_229 : decode cX12_signs 229 = .ok (.goto (-33), 3) := by decide +kernel
theorem dX12_signs_232 : decode cX12_signs 232 = .ok (.iinc 6 1, 3) := by decide +kernel
theorem dX12_signs_235 : decode cX12_signs 235 = .ok (.goto (-58), 3) := by decide +kernel
theorem dX12_signs_238 : decode cX12_signs 238 = .ok (.aload_n 0, 1) := by decide +kernel
theorem dX12_signs_239 : decode cX12_signs 239 = .ok (.ldc 44, 2) := by decide +kernel
theorem dX12_signs_241 : decode cX12_signs 241 = .ok (.putfield 273, 3) := by decide +kernel
theorem dX12_signs_244 : decode cX12_signs 244 = .ok (.aload_n 0, 1) := by decide +kernel
theorem dX12_signs_245 : decode cX12_signs 245 = .ok (.iconst 0, 1) := by decide +kernel
theorem dX12_signs_246 : decode cX12_signs 246 = .ok (.putfield 276, 3) := by decide +kernel
theorem dX12_signs_249 : decode cX12_signs 249 = .ok (.aload_n 0, 1) := by decide +kernel
theorem dX12_signs_250 : decode cX12_signs 250 = .ok (.iconst 3, 1) := by decide +kernel
theorem dX12_signs_251 : decode cX12_signs 251 = .ok (.iload_n 1, 1) := by decide +kernel
theorem dX12_signs_252 : decode cX12_signs 252 = .ok (.iadd, 1) := by decide +kernel
theorem dX12_signs_253 : decode cX12_signs 253 = .ok (.putfield 34, 3) := by decide +kernel
theorem dX12_signs_256 : decode cX12_signs 256 = .ok (.aload_n 0, 1) := by decide +kernel
theorem dX12_signs_257 : decode cX12_signs 257 = .ok (.iload 4, 2) := by decide +kernel
theorem dX12_signs_259 : decode cX12_signs 259 = .ok (.putfield 237, 3) := by decide +kernel
theorem dX12_signs_262 : decode cX12_signs 262 = .ok (.aload_n 0, 1) := by decide +kernel
theorem dX12_signs_263 : decode cX12_signs 263 = .ok (.iload_n 2, 1) := by decide +kernel
theorem dX12_signs_264 : decode cX12_signs 264 = .ok (.putfield 240, 3) := by decide +kernel
theorem dX12_signs_267 : decode cX12_signs 267 = .ok (.aload_n 0, 1) := by decide +kernel
theorem dX12_signs_268 : decode cX12_signs 268 = .ok (.iconst 2, 1) := by decide +kernel
theorem dX12_signs_269 : decode cX12_signs 269 = .ok (.iload_n 3, 1) := by decide +kernel
theorem dX12_signs_270 : decode cX12_signs 270 = .ok (.invokevirtual 279, 3) := by decide +kernel
theorem dX12_signs_273 : decode cX12_signs 273 = .ok (.iload 4, 2) := by decide +kernel
theorem dX12_signs_275 : decode cX12_signs 275 = .ok (.ireturn, 1) := by decide +kernel
theorem dX12_findChances_0 : decode cX12_findChances 0 = .ok (.lconst 0, 1) := by decide +kernel
theorem dX12_findChances_1 : decode cX12_findChances 1 = .ok (.lstore_n 3, 1) := by decide +kernel
theorem dX12_findChances_2 : decode cX12_findChances 2 = .ok (.lconst 0, 1) := by decide +kernel
theorem dX12_findChances_3 : decode cX12_findChances 3 = .ok (.lstore 5, 2) := by decide +kernel
theorem dX12_findChances_5 : decode cX12_findChances 5 = .ok (.lconst 0, 1) := by decide +kernel
theorem dX12_findChances_6 : decode cX12_findChances 6 = .ok (.lstore 7, 2) := by decide +kernel
theorem dX12_findChances_8 : decode cX12_findChances 8 = .ok (.lconst 0, 1) := by decide +kernel
theorem dX12_findChances_9 : decode cX12_findChances 9 = .ok (.lstore 9, 2) := by decide +kernel
theorem dX12_findChances_11 : decode cX12_findChances 11 = .ok (.lconst 0, 1) := by decide +kernel
theorem dX12_findChances_12 : decode cX12_findChances 12 = .ok (.lstore 11, 2) := by decide +kernel
theorem dX12_findChances_14 : decode cX12_findChances 14 = .ok (.iload_n 1, 1) := by decide +kernel
theorem dX12_findChances_15 : decode cX12_findChances 15 = .ok (.aload_n 0, 1) := by decide +kernel
theorem dX12_findChances_16 : decode cX12_findChances 16 = .ok (.getfield 237, 3) := by decide +kernel
theorem dX12_findChances_19 : decode cX12_findChances 19 = .ok (.imul, 1) := by decide +kernel
theorem dX12_findChances_20 : decode cX12_findChances 20 = .ok (.iload_n 2, 1) := by decide +kernel
theorem dX12_findChances_21 : decode cX12_findChances 21 = .ok (.isub, 1) := by decide +kernel
theorem dX12_findChances_22 : decode cX12_findChances 22 = .ok (.invokestatic 253, 3) := by decide +kernel
theorem dX12_findChances_25 : decode cX12_findChances 25 = .ok (.istore 13, 2) := by decide +kernel
theorem dX12_findChances_27 : decode cX12_findChances 27 = .ok (.iconst 0, 1) := by decide +kernel
theorem dX12_findChances_28 : decode cX12_findChances 28 = .ok (.istore 14, 2) := by decide +kernel
theorem dX12_findChances_30 : decode cX12_findChances 30 = .ok (.iload 14, 2) := by decide +kernel
theorem dX12_findChances_32 : decode cX12_findChances 32 = .ok (.aload_n 0, 1) := by decide +kernel
theorem dX12_findChances_33 : decode cX12_findChances 33 = .ok (.getfield 273, 3) := by decide +kernel
theorem dX12_findChances_36 : decode cX12_findChances 36 = .ok (.if_icmp .ge 124, 3) := by decide +kernel
theorem dX12_findChances_39 : decode cX12_findChances 39 = .ok (.aload_n 0, 1) := by decide +kernel
theorem dX12_findChances_40 : decode cX12_findChances 40 = .ok (.getfield 45, 3) := by decide +kernel
theorem dX12_findChances_43 : decode cX12_findChances 43 = .ok (.iload 14, 2) := by decide +kernel
theorem dX12_findChances_45 : decode cX12_findChances 45 = .ok (.laload, 1) := by decide +kernel
theorem dX12_findChances_46 : decode cX12_findChances 46 = .ok (.lstore 15, 2) := by decide +kernel
theorem dX12_findChances_48 : decode cX12_findChances 48 = .ok (.lload 15, 2) := by decide +kernel
theorem dX12_findChances_50 : decode cX12_findChances 50 = .ok (.lconst 0, 1) := by decide +kernel
theorem dX12_findChances_51 : decode cX12_findChances 51 = .ok (.lcmp, 1) := by decide +kernel
theorem dX12_findChances_52 : decode cX12_findChances 52 = .ok (.ifCond .le 102, 3) := by decide +kernel
theorem dX12_findChances_55 : decode cX12_findChances 55 = .ok (.aload_n 0, 1) := by decide +kernel
theorem dX12_findChances_56 : decode cX12_findChances 56 = .ok (.getfield 276, 3) := by decide +kernel
theorem dX12_findChances_59 : decode cX12_findChances 59 = .ok (.iload 14, 2) := by decide +kernel
theorem dX12_findChances_61 : decode cX12_findChances 61 = .ok (.iadd, 1) := by decide +kernel
theorem dX12_findChances_62 : decode cX12_findChances 62 = .ok (.istore 17, 2) := by decide +kernel
theorem dX12_findChances_64 : decode cX12_findChances 64 = .ok (.lload 11, 2) := by decide +kernel
theorem dX12_findChances_66 : decode cX12_findChances 66 = .ok (.lload 15, 2) := by decide +kernel
theorem dX12_findChances_68 : decode cX12_findChances 68 = .ok (.ladd, 1) := by decide +kernel
theorem dX12_findChances_69 : decode cX12_findChances 69 = .ok (.lstore 11, 2) := by decide +kernel
theorem dX12_findChances_71 : decode cX12_findChances 71 = .ok (.lload_n 3, 1) := by decide +kernel
theorem dX12_findChances_72 : decode cX12_findChances 72 = .ok (.iload_n 1, 1) := by decide +kernel
theorem dX12_findChances_73 : decode cX12_findChances 73 = .ok (.iload 17, 2) := by decide +kernel
theorem dX12_findChances_75 : decode cX12_findChances 75 = .ok (.imul, 1) := by decide +kernel
theorem dX12_findChances_76 : decode cX12_findChances 76 = .ok (.iload_n 2, 1) := by decide +kernel
theorem dX12_findChances_77 : decode cX12_findChances 77 = .ok (.isub, 1) := by decide +kernel
theorem dX12_findChances_78 : decode cX12_findChances 78 = .ok (.invokestatic 253, 3) := by decide +kernel
theorem dX12_findChances_81 : decode cX12_findChances 81 = .ok (.iload 13, 2) := by decide +kernel
theorem dX12_findChances_83 : decode cX12_findChances 83 = .ok (.if_icmp .lt 8, 3) := by decide +kernel
theorem dX12_findChances_86 : decode cX12_findChances 86 = .ok (.lload 15, 2) := by decide +kernel
theorem dX12_findChances_88 : decode cX12_findChances 88 = .ok (.goto 4, 3) := by decide +kernel
theorem dX12_findChances_91 : decode cX12_findChances 91 = .ok (.lconst 0, 1) := by decide +kernel
theorem dX12_findChances_92 : decode cX12_findChances 92 = .ok (.ladd, 1) := by decide +kernel
theorem dX12_findChances_93 : decode cX12_findChances 93 = .ok (.lstore_n 3, 1) := by decide +kernel
theorem dX12_findChances_94 : decode cX12_findChances 94 = .ok (.lload 5, 2) := by decide +kernel
theorem dX12_findChances_96 : decode cX12_findChances 96 = .ok (.iload 17, 2) := by decide +kernel
theorem dX12_findChances_98 : decode cX12_findChances 98 = .ok (.aload_n 0, 1) := by decide +kernel
theorem dX12_findChances_99 : decode cX12_findChances 99 = .ok (.getfield 237, 3) := by decide +kernel
theorem dX12_findChances_102 : decode cX12_findChances 102 = .ok (.if_icmp .gt 8, 3) := by decide +kernel
theorem dX12_findChances_105 : decode cX12_findChances 105 = .ok (.lload 15, 2) := by decide +kernel
theorem dX12_findChances_107 : decode cX12_findChances 107 = .ok (.goto 4, 3) := by decide +kernel
theorem dX12_findChances_110 : decode cX12_findChances 110 = .ok (.lconst 0, 1) := by decide +kernel
theorem dX12_findChances_111 : decode cX12_findChances 111 = .ok (.ladd, 1) := by decide +kernel
theorem dX12_findChances_112 : decode cX12_findChances 112 = .ok (.lstore 5, 2) := by decide +kernel
theorem dX12_findChances_114 : decode cX12_findChances 114 = .ok (.lload 7, 2) := by decide +kernel
theorem dX12_findChances_116 : decode cX12_findChances 116 = .ok (.iload 17, 2) := by decide +kernel
theorem dX12_findChances_118 : decode cX12_findChances 118 = .ok (.aload_n 0, 1) := by decide +kernel
theorem dX12_findChances_119 : decode cX12_findChances 119 = .ok (.getfield 237, 3) := by decide +kernel
theorem dX12_findChances_122 : decode cX12_findChances 122 = .ok (.if_icmp .lt 8, 3) := by decide +kernel
theorem dX12_findChances_125 : decode cX12_findChances 125 = .ok (.lload 15, 2) := by decide +kernel
theorem dX12_findChances_127 : decode cX12_findChances 127 = .ok (.goto 4, 3) := by decide +kernel
theorem dX12_findChances_130 : decode cX12_findChances 130 = .ok (.lconst 0, 1) := by decide +kernel
theorem dX12_findChances_131 : decode cX12_findChances 131 = .ok (.ladd, 1) := by decide +kernel
theorem dX12_findChances_132 : decode cX12_findChances 132 = .ok (.lstore 7, 2) := by decide +kernel
theorem dX12_findChances_134 : decode cX12_findChances 134 = .ok (.lload 9, 2) := by decide +kernel
theorem dX12_findChances_136 : decode cX12_findChances 136 = .ok (.iload 17, 2) := by decide +kernel
theorem dX12_findChances_138 : decode cX12_findChances 138 = .ok (.aload_n 0, 1) := by decide +kernel
theorem dX12_findChances_139 : decode cX12_findChances 139 = .ok (.getfield 237, 3) := by decide +kernel
theorem dX12_findChances_142 : decode cX12_findChances 142 = .ok (.if_icmp .ne 8, 3) := by decide +kernel
theorem dX12_findChances_145 : decode cX12_findChances 145 = .ok (.lload 15, 2) := by decide +kernel
theorem dX12_findChances_147 : decode cX12_findChances 147 = .ok (.goto 4, 3) := by decide +kernel
theorem dX12_findChances_150 : decode cX12_findChances 150 = .ok (.lconst 0, 1) := by decide +kernel
theorem dX12_findChances_151 : decode cX12_findChances 151 = .ok (.ladd, 1) := by decide +kernel
theorem dX12_findChances_152 : decode cX12_findChances 152 = .ok (.lstore 9, 2) := by decide +kernel
theorem dX12_findChances_154 : decode cX12_findChances 154 = .ok (.iinc 14 1, 3) := by decide +kernel
theorem dX12_findChances_157 : decode cX12_findChances 157 = .ok (.goto (-127), 3) := by decide +kernel
theorem dX12_findChances_160 : decode cX12_findChances 160 = .ok (.aload_n 0, 1) := by decide +kernel
theorem dX12_findChances_161 : decode cX12_findChances 161 = .ok (.getfield 38, 3) := by decide +kernel
theorem dX12_findChances_164 : decode cX12_findChances 164 = .ok (.iconst 0, 1) := by decide +kernel
theorem dX12_findChances_165 : decode cX12_findChances 165 = .ok (.lload_n 3, 1) := by decide +kernel
theorem dX12_findChances_166 : decode cX12_findChances 166 = .ok (.invokestatic 127, 3) := by decide +kernel
theorem dX12_findChances_169 : decode cX12_findChances 169 = .ok (.aload_n 0, 1) := by decide +kernel
theorem dX12_findChances_170 : decode cX12_findChances 170 = .ok (.getfield 38, 3) := by decide +kernel
theorem dX12_findChances_173 : decode cX12_findChances 173 = .ok (.bipush 40, 2) := by decide +kernel
theorem dX12_findChances_175 : decode cX12_findChances 175 = .ok (.lload 5, 2) := by decide +kernel
theorem dX12_findChances_177 : decode cX12_findChances 177 = .ok (.invokestatic 127, 3) := by decide +kernel
theorem dX12_findChances_180 : decode cX12_findChances 180 = .ok (.aload_n 0, 1) := by decide +kernel
theorem dX12_findChances_181 : decode cX12_findChances 181 = .ok (.getfield 38, 3) := by decide +kernel
theorem dX12_findChances_184 : decode cX12_findChances 184 = .ok (.bipush 80, 2) := by decide +kernel
theorem dX12_findChances_186 : decode cX12_findChances 186 = .ok (.lload 7, 2) := by decide +kernel
theorem dX12_findChances_188 : decode cX12_findChances 188 = .ok (.invokestatic 127, 3) := by decide +kernel
theorem dX12_findChances_191 : decode cX12_findChances 191 = .ok (.aload_n 0, 1) := by decide +kernel
theorem dX12_findChances_192 : decode cX12_findChances 192 = .ok (.getfield 38, 3) := by decide +kernel
theorem dX12_findChances_195 : decode cX12_findChances 195 = .ok (.bipush 120, 2) := by decide +kernel
theorem dX12_findChances_197 : decode cX12_findChances 197 = .ok (.lload 9, 2) := by decide +kernel
theorem dX12_findChances_199 : decode cX12_findChances 199 = .ok (.invokestatic 127, 3) := by decide +kernel
theorem dX12_findChances_202 : decode cX12_findChances 202 = .ok (.aload_n 0, 1) := by decide +kernel
theorem dX12_findChances_203 : decode cX12_findChances 203 = .ok (.getfield 78, 3) := by decide +kernel
theorem dX12_findChances_206 : decode cX12_findChances 206 = .ok (.iconst 0, 1) := by decide +kernel
theorem dX12_findChances_207 : decode cX12_findChances 207 = .ok (.lload 11, 2) := by decide +kernel
theorem dX12_findChances_209 : decode cX12_findChances 209 = .ok (.invokestatic 127, 3) := by decide +kernel
theorem dX12_findChances_212 : decode cX12_findChances 212 = .ok (.aload_n 0, 1) := by decide +kernel
theorem dX12_findChances_213 : decode cX12_findChances 213 = .ok (.aload_n 0, 1) := by decide +kernel
theorem dX12_findChances_214 : decode cX12_findChances 214 = .ok (.getfield 78, 3) := by decide +kernel
theorem dX12_findChances_217 : decode cX12_findChances 217 = .ok (.invokevirtual 243, 3) := by decide +kernel
theorem dX12_findChances_220 : decode cX12_findChances 220 = .ok (.return_, 1) := by decide +kernel
theorem dX12_ways_0 : decode cX12_ways 0 = .ok (.aload_n 0, 1) := by decide +kernel
theorem dX12_ways_1 : decode cX12_ways 1 = .ok (.getfield 34, 3) := by decide +kernel
theorem dX12_ways_4 : decode cX12_ways 4 = .ok (.iconst 1, 1) := by decide +kernel
theorem dX12_ways_5 : decode cX12_ways 5 = .ok (.if_icmp .ge 7, 3) := by decide +kernel
theorem dX12_ways_8 : decode cX12_ways 8 = .ok (.ldc2_w 283, 3) := by decide +kernel
theorem dX12_ways_11 : decode cX12_ways 11 = .ok (.lreturn, 1) := by decide +kernel
theorem dX12_ways_12 : decode cX12_ways 12 = .ok (.iload_n 1, 1) := by decide +kernel
theorem dX12_ways_13 : decode cX12_ways 13 = .ok (.i2l, 1) := by decide +kernel
theorem dX12_ways_14 : decode cX12_ways 14 = .ok (.aload_n 0, 1) := by decide +kernel
theorem dX12_ways_15 : decode cX12_ways 15 = .ok (.getfield 276, 3) := by decide +kernel
theorem dX12_ways_18 : decode cX12_ways 18 = .ok (.i2l, 1) := by decide +kernel
theorem dX12_ways_19 : decode cX12_ways 19 = .ok (.lsub, 1) := by decide +kernel
theorem dX12_ways_20 : decode cX12_ways 20 = .ok (.lconst 0, 1) := by decide +kernel
theorem dX12_ways_21 : decode cX12_ways 21 = .ok (.aload_n 0, 1) := by decide +kernel
theorem dX12_ways_22 : decode cX12_ways 22 = .ok (.getfield 273, 3) := by decide +kernel
theorem dX12_ways_25 : decode cX12_ways 25 = .ok (.i2l, 1) := by decide +kernel
theorem dX12_ways_26 : decode cX12_ways 26 = .ok (.lconst 1, 1) := by decide +kernel
theorem dX12_ways_27 : decode cX12_ways 27 = .ok (.lsub, 1) := by decide +kernel
theorem dX12_ways_28 : decode cX12_ways 28 = .ok (.invokestatic 159, 3) := by decide +kernel
theorem dX12_ways_31 : decode cX12_ways 31 = .ok (.ifCond .eq 17, 3) := by decide +kernel
theorem dX12_ways_34 : decode cX12_ways 34 = .ok (.aload_n 0, 1) := by decide +kernel
theorem dX12_ways_35 : decode cX12_ways 35 = .ok (.getfield 45, 3) := by decide +kernel
theorem dX12_ways_38 : decode cX12_ways 38 = .ok (.iload_n 1, 1) := by decide +kernel
theorem dX12_ways_39 : decode cX12_ways 39 = .ok (.aload_n 0, 1) := by decide +kernel
theorem dX12_ways_40 : decode cX12_ways 40 = .ok (.getfield 276, 3) := by decide +kernel
end
section
theorem dX12_ways_43 : decode cX12_ways 43 = .ok (.isub, 1) := by decide +kernel
theorem dX12_ways_44 : decode cX12_ways 44 = .ok (.laload, 1) := by decide +kernel
theorem dX12_ways_45 : decode cX12_ways 45 = .ok (.goto 4, 3) := by decide +kernel
theorem dX12_ways_48 : decode cX12_ways 48 = .ok (.lconst 0, 1) := by decide +kernel
theorem dX12_ways_49 : decode cX12_ways 49 = .ok (.lreturn, 1) := by decide +kernel
theorem dX12_isTail_0 : decode cX12_isTail 0 = .ok (.iload_n 0, 1) := by decide +kernel
theorem dX12_isTail_1 : decode cX12_isTail 1 = .ok (.i2l, 1) := by decide +kernel
theorem dX12_isTail_2 : decode cX12_isTail 2 = .ok (.lconst 0, 1) := by decide +kernel
theorem dX12_isTail_3 : decode cX12_isTail 3 = .ok (.ldc2_w 168, 3) := by decide +kernel
theorem dX12_isTail_6 : decode cX12_isTail 6 = .ok (.invokestatic 159, 3) := by decide +kernel
theorem dX12_isTail_9 : decode cX12_isTail 9 = .ok (.ireturn, 1) := by decide +kernel
theorem dX12_bits_0 : decode cX12_bits 0 = .ok (.aload_n 0, 1) := by decide +kernel
theorem dX12_bits_1 : decode cX12_bits 1 = .ok (.getfield 34, 3) := by decide +kernel
theorem dX12_bits_4 : decode cX12_bits 4 = .ok (.ifCond .ge 6, 3) := by decide +kernel
theorem dX12_bits_7 : decode cX12_bits 7 = .ok (.bipush (-3), 2) := by decide +kernel
theorem dX12_bits_9 : decode cX12_bits 9 = .ok (.ireturn, 1) := by decide +kernel
theorem dX12_bits_10 : decode cX12_bits 10 = .ok (.iload_n 1, 1) := by decide +kernel
theorem dX12_bits_11 : decode cX12_bits 11 = .ok (.invokestatic 285, 3) := by decide +kernel
theorem dX12_bits_14 : decode cX12_bits 14 = .ok (.ifCond .ne 5, 3) := by decide +kernel
theorem dX12_bits_17 : decode cX12_bits 17 = .ok (.iconst (-1), 1) := by decide +kernel
theorem dX12_bits_18 : decode cX12_bits 18 = .ok (.ireturn, 1) := by decide +kernel
theorem dX12_bits_19 : decode cX12_bits 19 = .ok (.iload_n 2, 1) := by decide +kernel
theorem dX12_bits_20 : decode cX12_bits 20 = .ok (.ifCond .ne 17, 3) := by decide +kernel
theorem dX12_bits_23 : decode cX12_bits 23 = .ok (.aload_n 0, 1) := by decide +kernel
theorem dX12_bits_24 : decode cX12_bits 24 = .ok (.getfield 38, 3) := by decide +kernel
theorem dX12_bits_27 : decode cX12_bits 27 = .ok (.bipush 40, 2) := by decide +kernel
theorem dX12_bits_29 : decode cX12_bits 29 = .ok (.iload_n 1, 1) := by decide +kernel
theorem dX12_bits_30 : decode cX12_bits 30 = .ok (.imul, 1) := by decide +kernel
theorem dX12_bits_31 : decode cX12_bits 31 = .ok (.invokestatic 131, 3) := by decide +kernel
theorem dX12_bits_34 : decode cX12_bits 34 = .ok (.goto 24, 3) := by decide +kernel
theorem dX12_bits_37 : decode cX12_bits 37 = .ok (.iload_n 2, 1) := by decide +kernel
theorem dX12_bits_38 : decode cX12_bits 38 = .ok (.iconst 1, 1) := by decide +kernel
theorem dX12_bits_39 : decode cX12_bits 39 = .ok (.if_icmp .ne 17, 3) := by decide +kernel
theorem dX12_bits_42 : decode cX12_bits 42 = .ok (.aload_n 0, 1) := by decide +kernel
theorem dX12_bits_43 : decode cX12_bits 43 = .ok (.getfield 41, 3) := by decide +kernel
theorem dX12_bits_46 : decode cX12_bits 46 = .ok (.bipush 40, 2) := by decide +kernel
theorem dX12_bits_48 : decode cX12_bits 48 = .ok (.iload_n 1, 1) := by decide +kernel
theorem dX12_bits_49 : decode cX12_bits 49 = .ok (.imul, 1) := by decide +kernel
theorem dX12_bits_50 : decode cX12_bits 50 = .ok (.invokestatic 131, 3) := by decide +kernel
theorem dX12_bits_53 : decode cX12_bits 53 = .ok (.goto 5, 3) := by decide +kernel
theorem dX12_bits_56 : decode cX12_bits 56 = .ok (.bipush (-2), 2) := by decide +kernel
theorem dX12_bits_58 : decode cX12_bits 58 = .ok (.ireturn, 1) := by decide +kernel
theorem dX12_wordOf_0 : decode cX12_wordOf 0 = .ok (.iconst 0, 1) := by decide +kernel
theorem dX12_wordOf_1 : decode cX12_wordOf 1 = .ok (.istore 4, 2) := by decide +kernel
theorem dX12_wordOf_3 : decode cX12_wordOf 3 = .ok (.bipush 15, 2) := by decide +kernel
theorem dX12_wordOf_5 : decode cX12_wordOf 5 = .ok (.istore 5, 2) := by decide +kernel
theorem dX12_wordOf_7 : decode cX12_wordOf 7 = .ok (.iload 5, 2) := by decide +kernel
theorem dX12_wordOf_9 : decode cX12_wordOf 9 = .ok (.ifCond .lt 48, 3) := by decide +kernel
theorem dX12_wordOf_12 : decode cX12_wordOf 12 = .ok (.ldc2_w 289, 3) := by decide +kernel
theorem dX12_wordOf_15 : decode cX12_wordOf 15 = .ok (.lload_n 2, 1) := by decide +kernel
theorem dX12_wordOf_16 : decode cX12_wordOf 16 = .ok (.lmul, 1) := by decide +kernel
theorem dX12_wordOf_17 : decode cX12_wordOf 17 = .ok (.iload 5, 2) := by decide +kernel
theorem dX12_wordOf_19 : decode cX12_wordOf 19 = .ok (.i2l, 1) := by decide +kernel
theorem dX12_wordOf_20 : decode cX12_wordOf 20 = .ok (.ladd, 1) := by decide +kernel
theorem dX12_wordOf_21 : decode cX12_wordOf 21 = .ok (.lstore 6, 2) := by decide +kernel
theorem dX12_wordOf_23 : decode cX12_wordOf 23 = .ok (.iload 4, 2) := by decide +kernel
theorem dX12_wordOf_25 : decode cX12_wordOf 25 = .ok (.iconst 2, 1) := by decide +kernel
theorem dX12_wordOf_26 : decode cX12_wordOf 26 = .ok (.imul, 1) := by decide +kernel
theorem dX12_wordOf_27 : decode cX12_wordOf 27 = .ok (.lload 6, 2) := by decide +kernel
theorem dX12_wordOf_29 : decode cX12_wordOf 29 = .ok (.ldc2_w 291, 3) := by decide +kernel
theorem dX12_wordOf_32 : decode cX12_wordOf 32 = .ok (.lcmp, 1) := by decide +kernel
theorem dX12_wordOf_33 : decode cX12_wordOf 33 = .ok (.ifCond .ge 14, 3) := by decide +kernel
theorem dX12_wordOf_36 : decode cX12_wordOf 36 = .ok (.aload_n 0, 1) := by decide +kernel
theorem dX12_wordOf_37 : decode cX12_wordOf 37 = .ok (.iload_n 1, 1) := by decide +kernel
theorem dX12_wordOf_38 : decode cX12_wordOf 38 = .ok (.lload 6, 2) := by decide +kernel
theorem dX12_wordOf_40 : decode cX12_wordOf 40 = .ok (.l2i, 1) := by decide +kernel
theorem dX12_wordOf_41 : decode cX12_wordOf 41 = .ok (.invokestatic 135, 3) := by decide +kernel
theorem dX12_wordOf_44 : decode cX12_wordOf 44 = .ok (.goto 4, 3) := by decide +kernel
theorem dX12_wordOf_47 : decode cX12_wordOf 47 = .ok (.iconst 0, 1) := by decide +kernel
theorem dX12_wordOf_48 : decode cX12_wordOf 48 = .ok (.iadd, 1) := by decide +kernel
theorem dX12_wordOf_49 : decode cX12_wordOf 49 = .ok (.istore 4, 2) := by decide +kernel
theorem dX12_wordOf_51 : decode cX12_wordOf 51 = .ok (.iinc 5 (-1), 3) := by decide +kernel
theorem dX12_wordOf_54 : decode cX12_wordOf 54 = .ok (.goto (-47), 3) := by decide +kernel
theorem dX12_wordOf_57 : decode cX12_wordOf 57 = .ok (.iload 4, 2) := by decide +kernel
theorem dX12_wordOf_59 : decode cX12_wordOf 59 = .ok (.ireturn, 1) := by decide +kernel
theorem dX12_word_0 : decode cX12_word 0 = .ok (.aload_n 0, 1) := by decide +kernel
theorem dX12_word_1 : decode cX12_word 1 = .ok (.getfield 34, 3) := by decide +kernel
theorem dX12_word_4 : decode cX12_word 4 = .ok (.ifCond .ge 6, 3) := by decide +kernel
theorem dX12_word_7 : decode cX12_word 7 = .ok (.bipush (-3), 2) := by decide +kernel
theorem dX12_word_9 : decode cX12_word 9 = .ok (.ireturn, 1) := by decide +kernel
theorem dX12_word_10 : decode cX12_word 10 = .ok (.iload_n 1, 1) := by decide +kernel
theorem dX12_word_11 : decode cX12_word 11 = .ok (.invokestatic 285, 3) := by decide +kernel
theorem dX12_word_14 : decode cX12_word 14 = .ok (.ifCond .ne 5, 3) := by decide +kernel
theorem dX12_word_17 : decode cX12_word 17 = .ok (.iconst (-1), 1) := by decide +kernel
theorem dX12_word_18 : decode cX12_word 18 = .ok (.ireturn, 1) := by decide +kernel
theorem dX12_word_19 : decode cX12_word 19 = .ok (.iload_n 2, 1) := by decide +kernel
theorem dX12_word_20 : decode cX12_word 20 = .ok (.i2l, 1) := by decide +kernel
theorem dX12_word_21 : decode cX12_word 21 = .ok (.lconst 0, 1) := by decide +kernel
theorem dX12_word_22 : decode cX12_word 22 = .ok (.lconst 1, 1) := by decide +kernel
theorem dX12_word_23 : decode cX12_word 23 = .ok (.invokestatic 159, 3) := by decide +kernel
theorem dX12_word_26 : decode cX12_word 26 = .ok (.ifCond .eq 7, 3) := by decide +kernel
theorem dX12_word_29 : decode cX12_word 29 = .ok (.iload_n 3, 1) := by decide +kernel
theorem dX12_word_30 : decode cX12_word 30 = .ok (.ifCond .ge 6, 3) := by decide +kernel
theorem dX12_word_33 : decode cX12_word 33 = .ok (.bipush (-2), 2) := by decide +kernel
theorem dX12_word_35 : decode cX12_word 35 = .ok (.ireturn, 1) := by decide +kernel
theorem dX12_word_36 : decode cX12_word 36 = .ok (.iload_n 2, 1) := by decide +kernel
theorem dX12_word_37 : decode cX12_word 37 = .ok (.ifCond .ne 19, 3) := by decide +kernel
theorem dX12_word_40 : decode cX12_word 40 = .ok (.aload_n 0, 1) := by decide +kernel
theorem dX12_word_41 : decode cX12_word 41 = .ok (.getfield 38, 3) := by decide +kernel
theorem dX12_word_44 : decode cX12_word 44 = .ok (.bipush 40, 2) := by decide +kernel
theorem dX12_word_46 : decode cX12_word 46 = .ok (.iload_n 1, 1) := by decide +kernel
theorem dX12_word_47 : decode cX12_word 47 = .ok (.imul, 1) := by decide +kernel
theorem dX12_word_48 : decode cX12_word 48 = .ok (.iload_n 3, 1) := by decide +kernel
theorem dX12_word_49 : decode cX12_word 49 = .ok (.i2l, 1) := by decide +kernel
theorem dX12_word_50 : decode cX12_word 50 = .ok (.invokestatic 293, 3) := by decide +kernel
theorem dX12_word_53 : decode cX12_word 53 = .ok (.goto 16, 3) := by decide +kernel
theorem dX12_word_56 : decode cX12_word 56 = .ok (.aload_n 0, 1) := by decide +kernel
theorem dX12_word_57 : decode cX12_word 57 = .ok (.getfield 41, 3) := by decide +kernel
theorem dX12_word_60 : decode cX12_word 60 = .ok (.bipush 40, 2) := by decide +kernel
theorem dX12_word_62 : decode cX12_word 62 = .ok (.iload_n 1, 1) := by decide +kernel
theorem dX12_word_63 : decode cX12_word 63 = .ok (.imul, 1) := by decide +kernel
theorem dX12_word_64 : decode cX12_word 64 = .ok (.iload_n 3, 1) := by decide +kernel
theorem dX12_word_65 : decode cX12_word 65 = .ok (.i2l, 1) := by decide +kernel
theorem dX12_word_66 : decode cX12_word 66 = .ok (.invokestatic 293, 3) := by decide +kernel
theorem dX12_word_69 : decode cX12_word 69 = .ok (.ireturn, 1) := by decide +kernel
theorem dX12_figure_0 : decode cX12_figure 0 = .ok (.aload_n 0, 1) := by decide +kernel
theorem dX12_figure_1 : decode cX12_figure 1 = .ok (.getfield 34, 3) := by decide +kernel
theorem dX12_figure_4 : decode cX12_figure 4 = .ok (.ifCond .ge 6, 3) := by decide +kernel
theorem dX12_figure_7 : decode cX12_figure 7 = .ok (.bipush (-3), 2) := by decide +kernel
theorem dX12_figure_9 : decode cX12_figure 9 = .ok (.ireturn, 1) := by decide +kernel
theorem dX12_figure_10 : decode cX12_figure 10 = .ok (.iload_n 1, 1) := by decide +kernel
theorem dX12_figure_11 : decode cX12_figure 11 = .ok (.invokestatic 285, 3) := by decide +kernel
theorem dX12_figure_14 : decode cX12_figure 14 = .ok (.ifCond .ne 5, 3) := by decide +kernel
theorem dX12_figure_17 : decode cX12_figure 17 = .ok (.iconst (-1), 1) := by decide +kernel
theorem dX12_figure_18 : decode cX12_figure 18 = .ok (.ireturn, 1) := by decide +kernel
theorem dX12_figure_19 : decode cX12_figure 19 = .ok (.iload_n 2, 1) := by decide +kernel
theorem dX12_figure_20 : decode cX12_figure 20 = .ok (.i2l, 1) := by decide +kernel
theorem dX12_figure_21 : decode cX12_figure 21 = .ok (.lconst 0, 1) := by decide +kernel
theorem dX12_figure_22 : decode cX12_figure 22 = .ok (.ldc2_w 166, 3) := by decide +kernel
theorem dX12_figure_25 : decode cX12_figure 25 = .ok (.invokestatic 159, 3) := by decide +kernel
theorem dX12_figure_28 : decode cX12_figure 28 = .ok (.ifCond .ne 6, 3) := by decide +kernel
theorem dX12_figure_31 : decode cX12_figure 31 = .ok (.bipush (-2), 2) := by decide +kernel
theorem dX12_figure_33 : decode cX12_figure 33 = .ok (.ireturn, 1) := by decide +kernel
theorem dX12_figure_34 : decode cX12_figure 34 = .ok (.aload_n 0, 1) := by decide +kernel
theorem dX12_figure_35 : decode cX12_figure 35 = .ok (.getfield 38, 3) := by decide +kernel
theorem dX12_figure_38 : decode cX12_figure 38 = .ok (.bipush 40, 2) := by decide +kernel
theorem dX12_figure_40 : decode cX12_figure 40 = .ok (.iload_n 1, 1) := by decide +kernel
theorem dX12_figure_41 : decode cX12_figure 41 = .ok (.imul, 1) := by decide +kernel
theorem dX12_figure_42 : decode cX12_figure 42 = .ok (.aload_n 0, 1) := by decide +kernel
theorem dX12_figure_43 : decode cX12_figure 43 = .ok (.getfield 91, 3) := by decide +kernel
theorem dX12_figure_46 : decode cX12_figure 46 = .ok (.iconst 0, 1) := by decide +kernel
theorem dX12_figure_47 : decode cX12_figure 47 = .ok (.invokestatic 151, 3) := by decide +kernel
theorem dX12_figure_50 : decode cX12_figure 50 = .ok (.aload_n 0, 1) := by decide +kernel
theorem dX12_figure_51 : decode cX12_figure 51 = .ok (.aload_n 0, 1) := by decide +kernel
theorem dX12_figure_52 : decode cX12_figure 52 = .ok (.getfield 91, 3) := by decide +kernel
theorem dX12_figure_55 : decode cX12_figure 55 = .ok (.iconst 0, 1) := by decide +kernel
theorem dX12_figure_56 : decode cX12_figure 56 = .ok (.aload_n 0, 1) := by decide +kernel
theorem dX12_figure_57 : decode cX12_figure 57 = .ok (.getfield 41, 3) := by decide +kernel
theorem dX12_figure_60 : decode cX12_figure 60 = .ok (.bipush 40, 2) := by decide +kernel
theorem dX12_figure_62 : decode cX12_figure 62 = .ok (.iload_n 1, 1) := by decide +kernel
theorem dX12_figure_63 : decode cX12_figure 63 = .ok (.imul, 1) := by decide +kernel
theorem dX12_figure_64 : decode cX12_figure 64 = .ok (.invokevirtual 154, 3) := by decide +kernel
theorem dX12_figure_67 : decode cX12_figure 67 = .ok (.iconst 0, 1) := by decide +kernel
theorem dX12_figure_68 : decode cX12_figure 68 = .ok (.istore_n 3, 1) := by decide +kernel
theorem dX12_figure_69 : decode cX12_figure 69 = .ok (.iload_n 3, 1) := by decide +kernel
theorem dX12_figure_70 : decode cX12_figure 70 = .ok (.iload_n 2, 1) := by decide +kernel
theorem dX12_figure_71 : decode cX12_figure 71 = .ok (.if_icmp .ge 49, 3) := by decide +kernel
theorem dX12_figure_74 : decode cX12_figure 74 = .ok (.aload_n 0, 1) := by decide +kernel
theorem dX12_figure_75 : decode cX12_figure 75 = .ok (.getfield 13, 3) := by decide +kernel
theorem dX12_figure_78 : decode cX12_figure 78 = .ok (.iconst 0, 1) := by decide +kernel
theorem dX12_figure_79 : decode cX12_figure 79 = .ok (.aload_n 0, 1) := by decide +kernel
theorem dX12_figure_80 : decode cX12_figure 80 = .ok (.getfield 91, 3) := by decide +kernel
theorem dX12_figure_83 : decode cX12_figure 83 = .ok (.iconst 0, 1) := by decide +kernel
theorem dX12_figure_84 : decode cX12_figure 84 = .ok (.invokestatic 151, 3) := by decide +kernel
theorem dX12_figure_87 : decode cX12_figure 87 = .ok (.aload_n 0, 1) := by decide +kernel
theorem dX12_figure_88 : decode cX12_figure 88 = .ok (.getfield 91, 3) := by decide +kernel
theorem dX12_figure_91 : decode cX12_figure 91 = .ok (.iconst 0, 1) := by decide +kernel
theorem dX12_figure_92 : decode cX12_figure 92 = .ok (.bipush 10, 2) := by decide +kernel
theorem dX12_figure_94 : decode cX12_figure 94 = .ok (.invokestatic 204, 3) := by decide +kernel
theorem dX12_figure_97 : decode cX12_figure 97 = .ok (.aload_n 0, 1) := by decide +kernel
theorem dX12_figure_98 : decode cX12_figure 98 = .ok (.aload_n 0, 1) := by decide +kernel
theorem dX12_figure_99 : decode cX12_figure 99 = .ok (.getfield 91, 3) := by decide +kernel
theorem dX12_figure_102 : decode cX12_figure 102 = .ok (.iconst 0, 1) := by decide +kernel
theorem dX12_figure_103 : decode cX12_figure 103 = .ok (.aload_n 0, 1) := by decide +kernel
theorem dX12_figure_104 : decode cX12_figure 104 = .ok (.getfield 41, 3) := by decide +kernel
theorem dX12_figure_107 : decode cX12_figure 107 = .ok (.bipush 40, 2) := by decide +kernel
theorem dX12_figure_109 : decode cX12_figure 109 = .ok (.iload_n 1, 1) := by decide +kernel
theorem dX12_figure_110 : decode cX12_figure 110 = .ok (.imul, 1) := by decide +kernel
theorem dX12_figure_111 : decode cX12_figure 111 = .ok (.invokevirtual 154, 3) := by decide +kernel
theorem dX12_figure_114 : decode cX12_figure 114 = .ok (.iinc 3 1, 3) := by decide +kernel
theorem dX12_figure_117 : decode cX12_figure 117 = .ok (.goto (-48), 3) := by decide +kernel
theorem dX12_figure_120 : decode cX12_figure 120 = .ok (.aload_n 0, 1) := by decide +kernel
theorem dX12_figure_121 : decode cX12_figure 121 = .ok (.getfield 7, 3) := by decide +kernel
theorem dX12_figure_124 : decode cX12_figure 124 = .ok (.iconst 0, 1) := by decide +kernel
theorem dX12_figure_125 : decode cX12_figure 125 = .ok (.iaload, 1) := by decide +kernel
theorem dX12_figure_126 : decode cX12_figure 126 = .ok (.ireturn, 1) := by decide +kernel
theorem dX12_isLevel_0 : decode cX12_isLevel 0 = .ok (.iload_n 0, 1) := by decide +kernel
theorem dX12_isLevel_1 : decode cX12_isLevel 1 = .ok (.i2l, 1) := by decide +kernel
theorem dX12_isLevel_2 : decode cX12_isLevel 2 = .ok (.lconst 0, 1) := by decide +kernel
theorem dX12_isLevel_3 : decode cX12_isLevel 3 = .ok (.ldc2_w 297, 3) := by decide +kernel
theorem dX12_isLevel_6 : decode cX12_isLevel 6 = .ok (.invokestatic 159, 3) := by decide +kernel
theorem dX12_isLevel_9 : decode cX12_isLevel 9 = .ok (.ifCond .eq 19, 3) := by decide +kernel
theorem dX12_isLevel_12 : decode cX12_isLevel 12 = .ok (.iload_n 1, 1) := by decide +kernel
theorem dX12_isLevel_13 : decode cX12_isLevel 13 = .ok (.i2l, 1) := by decide +kernel
theorem dX12_isLevel_14 : decode cX12_isLevel 14 = .ok (.lconst 1, 1) := by decide +kernel
theorem dX12_isLevel_15 : decode cX12_isLevel 15 = .ok (.ldc2_w 297, 3) := by decide +kernel
theorem dX12_isLevel_18 : decode cX12_isLevel 18 = .ok (.invokestatic 159, 3) := by decide +kernel
theorem dX12_isLevel_21 : decode cX12_isLevel 21 = .ok (.ifCond .eq 7, 3) := by decide +kernel
theorem dX12_isLevel_24 : decode cX12_isLevel 24 = .ok (.iconst 1, 1) := by decide +kernel
theorem dX12_isLevel_25 : decode cX12_isLevel 25 = .ok (.goto 4, 3) := by decide +kernel
theorem dX12_isLevel_28 : decode cX12_isLevel 28 = .ok (.iconst 0, 1) := by decide +kernel
theorem dX12_isLevel_29 : decode cX12_isLevel 29 = .ok (.ireturn, 1) := by decide +kernel
theorem dX12_stands_0 : decode cX12_stands 0 = .ok (.aload_n 1, 1) := by decide +kernel
theorem dX12_stands_1 : decode cX12_stands 1 = .ok (.iload_n 2, 1) := by decide +kernel
theorem dX12_stands_2 : decode cX12_stands 2 = .ok (.aload_n 0, 1) := by decide +kernel
theorem dX12_stands_3 : decode cX12_stands 3 = .ok (.getfield 16, 3) := by decide +kernel
theorem dX12_stands_6 : decode cX12_stands 6 = .ok (.iconst 0, 1) := by decide +kernel
theorem dX12_stands_7 : decode cX12_stands 7 = .ok (.invokestatic 151, 3) := by decide +kernel
theorem dX12_stands_10 : decode cX12_stands 10 = .ok (.aload_n 0, 1) := by decide +kernel
theorem dX12_stands_11 : decode cX12_stands 11 = .ok (.getfield 16, 3) := by decide +kernel
theorem dX12_stands_14 : decode cX12_stands 14 = .ok (.iconst 0, 1) := by decide +kernel
theorem dX12_stands_15 : decode cX12_stands 15 = .ok (.iload 6, 2) := by decide +kernel
theorem dX12_stands_17 : decode cX12_stands 17 = .ok (.invokestatic 204, 3) := by decide +kernel
theorem dX12_stands_20 : decode cX12_stands 20 = .ok (.aload_n 0, 1) := by decide +kernel
theorem dX12_stands_21 : decode cX12_stands 21 = .ok (.getfield 16, 3) := by decide +kernel
theorem dX12_stands_24 : decode cX12_stands 24 = .ok (.iconst 0, 1) := by decide +kernel
theorem dX12_stands_25 : decode cX12_stands 25 = .ok (.iload 7, 2) := by decide +kernel
theorem dX12_stands_27 : decode cX12_stands 27 = .ok (.invokestatic 204, 3) := by decide +kernel
theorem dX12_stands_30 : decode cX12_stands 30 = .ok (.aload_n 3, 1) := by decide +kernel
theorem dX12_stands_31 : decode cX12_stands 31 = .ok (.iload 4, 2) := by decide +kernel
theorem dX12_stands_33 : decode cX12_stands 33 = .ok (.aload_n 0, 1) := by decide +kernel
theorem dX12_stands_34 : decode cX12_stands 34 = .ok (.getfield 19, 3) := by decide +kernel
theorem dX12_stands_37 : decode cX12_stands 37 = .ok (.iconst 0, 1) := by decide +kernel
theorem dX12_stands_38 : decode cX12_stands 38 = .ok (.invokestatic 151, 3) := by decide +kernel
theorem dX12_stands_41 : decode cX12_stands 41 = .ok (.aload_n 0, 1) := by decide +kernel
theorem dX12_stands_42 : decode cX12_stands 42 = .ok (.getfield 19, 3) := by decide +kernel
theorem dX12_stands_45 : decode cX12_stands 45 = .ok (.iconst 0, 1) := by decide +kernel
theorem dX12_stands_46 : decode cX12_stands 46 = .ok (.iload 5, 2) := by decide +kernel
theorem dX12_stands_48 : decode cX12_stands 48 = .ok (.invokestatic 204, 3) := by decide +kernel
theorem dX12_stands_51 : decode cX12_stands 51 = .ok (.aload_n 0, 1) := by decide +kernel
theorem dX12_stands_52 : decode cX12_stands 52 = .ok (.getfield 16, 3) := by decide +kernel
theorem dX12_stands_55 : decode cX12_stands 55 = .ok (.iconst 0, 1) := by decide +kernel
theorem dX12_stands_56 : decode cX12_stands 56 = .ok (.aload_n 0, 1) := by decide +kernel
theorem dX12_stands_57 : decode cX12_stands 57 = .ok (.getfield 19, 3) := by decide +kernel
theorem dX12_stands_60 : decode cX12_stands 60 = .ok (.iconst 0, 1) := by decide +kernel
theorem dX12_stands_61 : decode cX12_stands 61 = .ok (.invokestatic 143, 3) := by decide +kernel
theorem dX12_stands_64 : decode cX12_stands 64 = .ok (.ireturn, 1) := by decide +kernel
theorem dX12_against_0 : decode cX12_against 0 = .ok (.aload_n 0, 1) := by decide +kernel
theorem dX12_against_1 : decode cX12_against 1 = .ok (.getfield 34, 3) := by decide +kernel
theorem dX12_against_4 : decode cX12_against 4 = .ok (.ifCond .ge 6, 3) := by decide +kernel
theorem dX12_against_7 : decode cX12_against 7 = .ok (.bipush (-30), 2) := by decide +kernel
theorem dX12_against_9 : decode cX12_against 9 = .ok (.ireturn, 1) := by decide +kernel
theorem dX12_against_10 : decode cX12_against 10 = .ok (.iload_n 1, 1) := by decide +kernel
theorem dX12_against_11 : decode cX12_against 11 = .ok (.invokestatic 285, 3) := by decide +kernel
theorem dX12_against_14 : decode cX12_against 14 = .ok (.ifCond .ne 6, 3) := by decide +kernel
theorem dX12_against_17 : decode cX12_against 17 = .ok (.bipush (-10), 2) := by decide +kernel
theorem dX12_against_19 : decode cX12_against 19 = .ok (.ireturn, 1) := by decide +kernel
theorem dX12_against_20 : decode cX12_against 20 = .ok (.iload_n 2, 1) := by decide +kernel
theorem dX12_against_21 : decode cX12_against 21 = .ok (.iload_n 3, 1) := by decide +kernel
theorem dX12_against_22 : decode cX12_against 22 = .ok (.invokestatic 299, 3) := by decide +kernel
theorem dX12_against_25 : decode cX12_against 25 = .ok (.ifCond .eq 29, 3) := by decide +kernel
theorem dX12_against_28 : decode cX12_against 28 = .ok (.aload_n 0, 1) := by decide +kernel
theorem dX12_against_29 : decode cX12_against 29 = .ok (.aload_n 0, 1) := by decide +kernel
theorem dX12_against_30 : decode cX12_against 30 = .ok (.getfield 38, 3) := by decide +kernel
theorem dX12_against_33 : decode cX12_against 33 = .ok (.bipush 40, 2) := by decide +kernel
theorem dX12_against_35 : decode cX12_against 35 = .ok (.iload_n 1, 1) := by decide +kernel
theorem dX12_against_36 : decode cX12_against 36 = .ok (.imul, 1) := by decide +kernel
theorem dX12_against_37 : decode cX12_against 37 = .ok (.aload_n 0, 1) := by decide +kernel
theorem dX12_against_38 : decode cX12_against 38 = .ok (.getfield 41, 3) := by decide +kernel
theorem dX12_against_41 : decode cX12_against 41 = .ok (.bipush 40, 2) := by decide +kernel
theorem dX12_against_43 : decode cX12_against 43 = .ok (.iload_n 1, 1) := by decide +kernel
theorem dX12_against_44 : decode cX12_against 44 = .ok (.imul, 1) := by decide +kernel
theorem dX12_against_45 : decode cX12_against 45 = .ok (.iload_n 2, 1) := by decide +kernel
theorem dX12_against_46 : decode cX12_against 46 = .ok (.iload_n 3, 1) := by decide +kernel
theorem dX12_against_47 : decode cX12_against 47 = .ok (.iconst 1, 1) := by decide +kernel
theorem dX12_against_48 : decode cX12_against 48 = .ok (.invokevirtual 303, 3) := by decide +kernel
theorem dX12_against_51 : decode cX12_against 51 = .ok (.goto 5, 3) := by decide +kernel
theorem dX12_against_54 : decode cX12_against 54 = .ok (.bipush (-20), 2) := by decide +kernel
theorem dX12_against_56 : decode cX12_against 56 = .ok (.ireturn, 1) := by decide +kernel
theorem dX12_result_0 : decode cX12_result 0 = .ok (.aload_n 0, 1) := by decide +kernel
theorem dX12_result_1 : decode cX12_result 1 = .ok (.getfield 34, 3) := by decide +kernel
theorem dX12_result_4 : decode cX12_result 4 = .ok (.ifCond .ge 7, 3) := by decide +kernel
theorem dX12_result_7 : decode cX12_result 7 = .ok (.ldc_w 268, 3) := by decide +kernel
theorem dX12_result_10 : decode cX12_result 10 = .ok (.ireturn, 1) := by decide +kernel
theorem dX12_result_11 : decode cX12_result 11 = .ok (.iload_n 1, 1) := by decide +kernel
theorem dX12_result_12 : decode cX12_result 12 = .ok (.ifCond .ne 10, 3) := by decide +kernel
theorem dX12_result_15 : decode cX12_result 15 = .ok (.aload_n 0, 1) := by decide +kernel
theorem dX12_result_16 : decode cX12_result 16 = .ok (.getfield 34, 3) := by decide +kernel
theorem dX12_result_19 : decode cX12_result 19 = .ok (.goto 30, 3) := by decide +kernel
theorem dX12_result_22 : decode cX12_result 22 = .ok (.iload_n 1, 1) := by decide +kernel
theorem dX12_result_23 : decode cX12_result 23 = .ok (.iconst 1, 1) := by decide +kernel
theorem dX12_result_24 : decode cX12_result 24 = .ok (.if_icmp .ne 10, 3) := by decide +kernel
theorem dX12_result_27 : decode cX12_result 27 = .ok (.aload_n 0, 1) := by decide +kernel
theorem dX12_result_28 : decode cX12_result 28 = .ok (.getfield 237, 3) := by decide +kernel
theorem dX12_result_31 : decode cX12_result 31 = .ok (.goto 18, 3) := by decide +kernel
theorem dX12_result_34 : decode cX12_result 34 = .ok (.iload_n 1, 1) := by decide +kernel
theorem dX12_result_35 : decode cX12_result 35 = .ok (.iconst 2, 1) := by decide +kernel
theorem dX12_result_36 : decode cX12_result 36 = .ok (.if_icmp .ne 10, 3) := by decide +kernel
theorem dX12_result_39 : decode cX12_result 39 = .ok (.aload_n 0, 1) := by decide +kernel
theorem dX12_result_40 : decode cX12_result 40 = .ok (.getfield 240, 3) := by decide +kernel
theorem dX12_result_43 : decode cX12_result 43 = .ok (.goto 6, 3) := by decide +kernel
theorem dX12_result_46 : decode cX12_result 46 = .ok (.ldc_w 307, 3) := by decide +kernel
theorem dX12_result_49 : decode cX12_result 49 = .ok (.ireturn, 1) := by decide +kernel
theorem dX12_note_0 : decode cX12_note 0 = .ok (.aload_n 0, 1) := by decide +kernel
theorem dX12_note_1 : decode cX12_note 1 = .ok (.getfield 34, 3) := by decide +kernel
theorem dX12_note_4 : decode cX12_note 4 = .ok (.ifCond .ge 6, 3) := by decide +kernel
theorem dX12_note_7 : decode cX12_note 7 = .ok (.bipush (-3), 2) := by decide +kernel
theorem dX12_note_9 : decode cX12_note 9 = .ok (.ireturn, 1) := by decide +kernel
theorem dX12_note_10 : decode cX12_note 10 = .ok (.iload_n 1, 1) := by decide +kernel
theorem dX12_note_11 : decode cX12_note 11 = .ok (.invokestatic 285, 3) := by decide +kernel
theorem dX12_note_14 : decode cX12_note 14 = .ok (.ifCond .ne 5, 3) := by decide +kernel
theorem dX12_note_17 : decode cX12_note 17 = .ok (.iconst (-1), 1) := by decide +kernel
theorem dX12_note_18 : decode cX12_note 18 = .ok (.ireturn, 1) := by decide +kernel
theorem dX12_note_19 : decode cX12_note 19 = .ok (.aload_n 0, 1) := by decide +kernel
theorem dX12_note_20 : decode cX12_note 20 = .ok (.getfield 184, 3) := by decide +kernel
theorem dX12_note_23 : decode cX12_note 23 = .ok (.bipush 12, 2) := by decide +kernel
theorem dX12_note_25 : decode cX12_note 25 = .ok (.if_icmp .ne 6, 3) := by decide +kernel
theorem dX12_note_28 : decode cX12_note 28 = .ok (.bipush (-4), 2) := by decide +kernel
theorem dX12_note_30 : decode cX12_note 30 = .ok (.ireturn, 1) := by decide +kernel
theorem dX12_note_31 : decode cX12_note 31 = .ok (.aload_n 0, 1) := by decide +kernel
theorem dX12_note_32 : decode cX12_note 32 = .ok (.getfield 38, 3) := by decide +kernel
theorem dX12_note_35 : decode cX12_note 35 = .ok (.bipush 40, 2) := by decide +kernel
theorem dX12_note_37 : decode cX12_note 37 = .ok (.iload_n 1, 1) := by decide +kernel
theorem dX12_note_38 : decode cX12_note 38 = .ok (.imul, 1) := by decide +kernel
theorem dX12_note_39 : decode cX12_note 39 = .ok (.aload_n 0, 1) := by decide +kernel
theorem dX12_note_40 : decode cX12_note 40 = .ok (.getfield 94, 3) := by decide +kernel
theorem dX12_note_43 : decode cX12_note 43 = .ok (.bipush 40, 2) := by decide +kernel
theorem dX12_note_45 : decode cX12_note 45 = .ok (.aload_n 0, 1) := by decide +kernel
theorem dX12_note_46 : decode cX12_note 46 = .ok (.getfield 184, 3) := by decide +kernel
theorem dX12_note_49 : decode cX12_note 49 = .ok (.imul, 1) := by decide +kernel
theorem dX12_note_50 : decode cX12_note 50 = .ok (.invokestatic 151, 3) := by decide +kernel
theorem dX12_note_53 : decode cX12_note 53 = .ok (.aload_n 0, 1) := by decide +kernel
theorem dX12_note_54 : decode cX12_note 54 = .ok (.getfield 41, 3) := by decide +kernel
theorem dX12_note_57 : decode cX12_note 57 = .ok (.bipush 40, 2) := by decide +kernel
theorem dX12_note_59 : decode cX12_note 59 = .ok (.iload_n 1, 1) := by decide +kernel
theorem dX12_note_60 : decode cX12_note 60 = .ok (.imul, 1) := by decide +kernel
theorem dX12_note_61 : decode cX12_note 61 = .ok (.aload_n 0, 1) := by decide +kernel
theorem dX12_note_62 : decode cX12_note 62 = .ok (.getfield 97, 3) := by decide +kernel
theorem dX12_note_65 : decode cX12_note 65 = .ok (.bipush 40, 2) := by decide +kernel
theorem dX12_note_67 : decode cX12_note 67 = .ok (.aload_n 0, 1) := by decide +kernel
theorem dX12_note_68 : decode cX12_note 68 = .ok (.getfield 184, 3) := by decide +kernel
theorem dX12_note_71 : decode cX12_note 71 = .ok (.imul, 1) := by decide +kernel
theorem dX12_note_72 : decode cX12_note 72 = .ok (.invokestatic 151, 3) := by decide +kernel
theorem dX12_note_75 : decode cX12_note 75 = .ok (.aload_n 0, 1) := by decide +kernel
theorem dX12_note_76 : decode cX12_note 76 = .ok (.dup, 1) := by decide +kernel
theorem dX12_note_77 : decode cX12_note 77 = .ok (.getfield 184, 3) := by decide +kernel
theorem dX12_note_80 : decode cX12_note 80 = .ok (.iconst 1, 1) := by decide +kernel
theorem dX12_note_81 : decode cX12_note 81 = .ok (.iadd, 1) := by decide +kernel
theorem dX12_note_82 : decode cX12_note 82 = .ok (.putfield 184, 3) := by decide +kernel
theorem dX12_note_85 : decode cX12_note 85 = .ok (.aload_n 0, 1) := by decide +kernel
theorem dX12_note_86 : decode cX12_note 86 = .ok (.getfield 184, 3) := by decide +kernel
theorem dX12_note_89 : decode cX12_note 89 = .ok (.ireturn, 1) := by decide +kernel
theorem dX12_product_0 : decode cX12_product 0 = .ok (.iconst 0, 1) := by decide +kernel
theorem dX12_product_1 : decode cX12_product 1 = .ok (.istore 5, 2) := by decide +kernel
theorem dX12_product_3 : decode cX12_product 3 = .ok (.iload 5, 2) := by decide +kernel
theorem dX12_product_5 : decode cX12_product 5 = .ok (.bipush 80, 2) := by decide +kernel
theorem dX12_product_7 : decode cX12_product 7 = .ok (.if_icmp .ge 15, 3) := by decide +kernel
theorem dX12_product_10 : decode cX12_product 10 = .ok (.aload 4, 2) := by decide +kernel
theorem dX12_product_12 : decode cX12_product 12 = .ok (.iload 5, 2) := by decide +kernel
theorem dX12_product_14 : decode cX12_product 14 = .ok (.iconst 0, 1) := by decide +kernel
theorem dX12_product_15 : decode cX12_product 15 = .ok (.iastore, 1) := by decide +kernel
theorem dX12_product_16 : decode cX12_product 16 = .ok (.iinc 5 1, 3) := by decide +kernel
theorem dX12_product_19 : decode cX12_product 19 = .ok (.goto (-16), 3) := by decide +kernel
theorem dX12_product_22 : decode cX12_product 22 = .ok (.iconst 0, 1) := by decide +kernel
theorem dX12_product_23 : decode cX12_product 23 = .ok (.istore 5, 2) := by decide +kernel
theorem dX12_product_25 : decode cX12_product 25 = .ok (.iload 5, 2) := by decide +kernel
theorem dX12_product_27 : decode cX12_product 27 = .ok (.bipush 40, 2) := by decide +kernel
theorem dX12_product_29 : decode cX12_product 29 = .ok (.if_icmp .ge 91, 3) := by decide +kernel
theorem dX12_product_32 : decode cX12_product 32 = .ok (.lconst 0, 1) := by decide +kernel
theorem dX12_product_33 : decode cX12_product 33 = .ok (.lstore 6, 2) := by decide +kernel
theorem dX12_product_35 : decode cX12_product 35 = .ok (.iconst 0, 1) := by decide +kernel
theorem dX12_product_36 : decode cX12_product 36 = .ok (.istore 8, 2) := by decide +kernel
theorem dX12_product_38 : decode cX12_product 38 = .ok (.iload 8, 2) := by decide +kernel
theorem dX12_product_40 : decode cX12_product 40 = .ok (.bipush 40, 2) := by decide +kernel
theorem dX12_product_42 : decode cX12_product 42 = .ok (.if_icmp .ge 61, 3) := by decide +kernel
theorem dX12_product_45 : decode cX12_product 45 = .ok (.lload 6, 2) := by decide +kernel
theorem dX12_product_47 : decode cX12_product 47 = .ok (.aload_n 0, 1) := by decide +kernel
theorem dX12_product_48 : decode cX12_product 48 = .ok (.iload_n 1, 1) := by decide +kernel
theorem dX12_product_49 : decode cX12_product 49 = .ok (.iload 5, 2) := by decide +kernel
theorem dX12_product_51 : decode cX12_product 51 = .ok (.iadd, 1) := by decide +kernel
theorem dX12_product_52 : decode cX12_product 52 = .ok (.iaload, 1) := by decide +kernel
theorem dX12_product_53 : decode cX12_product 53 = .ok (.i2l, 1) := by decide +kernel
theorem dX12_product_54 : decode cX12_product 54 = .ok (.aload_n 2, 1) := by decide +kernel
theorem dX12_product_55 : decode cX12_product 55 = .ok (.iload_n 3, 1) := by decide +kernel
theorem dX12_product_56 : decode cX12_product 56 = .ok (.iload 8, 2) := by decide +kernel
theorem dX12_product_58 : decode cX12_product 58 = .ok (.iadd, 1) := by decide +kernel
theorem dX12_product_59 : decode cX12_product 59 = .ok (.iaload, 1) := by decide +kernel
theorem dX12_product_60 : decode cX12_product 60 = .ok (.i2l, 1) := by decide +kernel
theorem dX12_product_61 : decode cX12_product 61 = .ok (.lmul, 1) := by decide +kernel
theorem dX12_product_62 : decode cX12_product 62 = .ok (.aload 4, 2) := by decide +kernel
theorem dX12_product_64 : decode cX12_product 64 = .ok (.iload 5, 2) := by decide +kernel
theorem dX12_product_66 : decode cX12_product 66 = .ok (.iload 8, 2) := by decide +kernel
theorem dX12_product_68 : decode cX12_product 68 = .ok (.iadd, 1) := by decide +kernel
theorem dX12_product_69 : decode cX12_product 69 = .ok (.iaload, 1) := by decide +kernel
theorem dX12_product_70 : decode cX12_product 70 = .ok (.i2l, 1) := by decide +kernel
theorem dX12_product_71 : decode cX12_product 71 = .ok (.ladd, 1) := by decide +kernel
theorem dX12_product_72 : decode cX12_product 72 = .ok (.ladd, 1) := by decide +kernel
theorem dX12_product_73 : decode cX12_product 73 = .ok (.lstore 6, 2) := by decide +kernel
theorem dX12_product_75 : decode cX12_product 75 = .ok (.aload 4, 2) := by decide +kernel
theorem dX12_product_77 : decode cX12_product 77 = .ok (.iload 5, 2) := by decide +kernel
theorem dX12_product_79 : decode cX12_product 79 = .ok (.iload 8, 2) := by decide +kernel
theorem dX12_product_81 : decode cX12_product 81 = .ok (.iadd, 1) := by decide +kernel
theorem dX12_product_82 : decode cX12_product 82 = .ok (.lload 6, 2) := by decide +kernel
theorem dX12_product_84 : decode cX12_product 84 = .ok (.ldc2_w 121, 3) := by decide +kernel
theorem dX12_product_87 : decode cX12_product 87 = .ok (.land, 1) := by decide +kernel
theorem dX12_product_88 : decode cX12_product 88 = .ok (.l2i, 1) := by decide +kernel
theorem dX12_product_89 : decode cX12_product 89 = .ok (.iastore, 1) := by decide +kernel
theorem dX12_product_90 : decode cX12_product 90 = .ok (.lload 6, 2) := by decide +kernel
theorem dX12_product_92 : decode cX12_product 92 = .ok (.bipush 24, 2) := by decide +kernel
theorem dX12_product_94 : decode cX12_product 94 = .ok (.lshr, 1) := by decide +kernel
theorem dX12_product_95 : decode cX12_product 95 = .ok (.lstore 6, 2) := by decide +kernel
theorem dX12_product_97 : decode cX12_product 97 = .ok (.iinc 8 1, 3) := by decide +kernel
theorem dX12_product_100 : decode cX12_product 100 = .ok (.goto (-62), 3) := by decide +kernel
theorem dX12_product_103 : decode cX12_product 103 = .ok (.aload 4, 2) := by decide +kernel
theorem dX12_product_105 : decode cX12_product 105 = .ok (.iload 5, 2) := by decide +kernel
theorem dX12_product_107 : decode cX12_product 107 = .ok (.bipush 40, 2) := by decide +kernel
theorem dX12_product_109 : decode cX12_product 109 = .ok (.iadd, 1) := by decide +kernel
theorem dX12_product_110 : decode cX12_product 110 = .ok (.lload 6, 2) := by decide +kernel
theorem dX12_product_112 : decode cX12_product 112 = .ok (.l2i, 1) := by decide +kernel
theorem dX12_product_113 : decode cX12_product 113 = .ok (.iastore, 1) := by decide +kernel
theorem dX12_product_114 : decode cX12_product 114 = .ok (.iinc 5 1, 3) := by decide +kernel
theorem dX12_product_117 : decode cX12_product 117 = .ok (.goto (-92), 3) := by decide +kernel
theorem dX12_product_120 : decode cX12_product 120 = .ok (.return_, 1) := by decide +kernel
theorem dX12_isLess_0 : decode cX12_isLess 0 = .ok (.aload_n 0, 1) := by decide +kernel
theorem dX12_isLess_1 : decode cX12_isLess 1 = .ok (.getfield 94, 3) := by decide +kernel
theorem dX12_isLess_4 : decode cX12_isLess 4 = .ok (.bipush 40, 2) := by decide +kernel
theorem dX12_isLess_6 : decode cX12_isLess 6 = .ok (.iload_n 1, 1) := by decide +kernel
theorem dX12_isLess_7 : decode cX12_isLess 7 = .ok (.imul, 1) := by decide +kernel
theorem dX12_isLess_8 : decode cX12_isLess 8 = .ok (.aload_n 0, 1) := by decide +kernel
theorem dX12_isLess_9 : decode cX12_isLess 9 = .ok (.getfield 97, 3) := by decide +kernel
theorem dX12_isLess_12 : decode cX12_isLess 12 = .ok (.bipush 40, 2) := by decide +kernel
theorem dX12_isLess_14 : decode cX12_isLess 14 = .ok (.iload_n 2, 1) := by decide +kernel
theorem dX12_isLess_15 : decode cX12_isLess 15 = .ok (.imul, 1) := by decide +kernel
theorem dX12_isLess_16 : decode cX12_isLess 16 = .ok (.aload_n 0, 1) := by decide +kernel
theorem dX12_isLess_17 : decode cX12_isLess 17 = .ok (.getfield 103, 3) := by decide +kernel
theorem dX12_isLess_20 : decode cX12_isLess 20 = .ok (.invokestatic 308, 3) := by decide +kernel
theorem dX12_isLess_23 : decode cX12_isLess 23 = .ok (.aload_n 0, 1) := by decide +kernel
theorem dX12_isLess_24 : decode cX12_isLess 24 = .ok (.getfield 94, 3) := by decide +kernel
theorem dX12_isLess_27 : decode cX12_isLess 27 = .ok (.bipush 40, 2) := by decide +kernel
theorem dX12_isLess_29 : decode cX12_isLess 29 = .ok (.iload_n 2, 1) := by decide +kernel
theorem dX12_isLess_30 : decode cX12_isLess 30 = .ok (.imul, 1) := by decide +kernel
theorem dX12_isLess_31 : decode cX12_isLess 31 = .ok (.aload_n 0, 1) := by decide +kernel
theorem dX12_isLess_32 : decode cX12_isLess 32 = .ok (.getfield 97, 3) := by decide +kernel
theorem dX12_isLess_35 : decode cX12_isLess 35 = .ok (.bipush 40, 2) := by decide +kernel
theorem dX12_isLess_37 : decode cX12_isLess 37 = .ok (.iload_n 1, 1) := by decide +kernel
theorem dX12_isLess_38 : decode cX12_isLess 38 = .ok (.imul, 1) := by decide +kernel
theorem dX12_isLess_39 : decode cX12_isLess 39 = .ok (.aload_n 0, 1) := by decide +kernel
theorem dX12_isLess_40 : decode cX12_isLess 40 = .ok (.getfield 106, 3) := by decide +kernel
theorem dX12_isLess_43 : decode cX12_isLess 43 = .ok (.invokestatic 308, 3) := by decide +kernel
theorem dX12_isLess_46 : decode cX12_isLess 46 = .ok (.bipush 79, 2) := by decide +kernel
theorem dX12_isLess_48 : decode cX12_isLess 48 = .ok (.istore_n 3, 1) := by decide +kernel
theorem dX12_isLess_49 : decode cX12_isLess 49 = .ok (.iload_n 3, 1) := by decide +kernel
theorem dX12_isLess_50 : decode cX12_isLess 50 = .ok (.ifCond .lt 45, 3) := by decide +kernel
theorem dX12_isLess_53 : decode cX12_isLess 53 = .ok (.aload_n 0, 1) := by decide +kernel
theorem dX12_isLess_54 : decode cX12_isLess 54 = .ok (.getfield 103, 3) := by decide +kernel
theorem dX12_isLess_57 : decode cX12_isLess 57 = .ok (.iload_n 3, 1) := by decide +kernel
theorem dX12_isLess_58 : decode cX12_isLess 58 = .ok (.iaload, 1) := by decide +kernel
theorem dX12_isLess_59 : decode cX12_isLess 59 = .ok (.aload_n 0, 1) := by decide +kernel
theorem dX12_isLess_60 : decode cX12_isLess 60 = .ok (.getfield 106, 3) := by decide +kernel
theorem dX12_isLess_63 : decode cX12_isLess 63 = .ok (.iload_n 3, 1) := by decide +kernel
theorem dX12_isLess_64 : decode cX12_isLess 64 = .ok (.iaload, 1) := by decide +kernel
theorem dX12_isLess_65 : decode cX12_isLess 65 = .ok (.if_icmp .eq 24, 3) := by decide +kernel
theorem dX12_isLess_68 : decode cX12_isLess 68 = .ok (.aload_n 0, 1) := by decide +kernel
theorem dX12_isLess_69 : decode cX12_isLess 69 = .ok (.getfield 103, 3) := by decide +kernel
theorem dX12_isLess_72 : decode cX12_isLess 72 = .ok (.iload_n 3, 1) := by decide +kernel
theorem dX12_isLess_73 : decode cX12_isLess 73 = .ok (.iaload, 1) := by decide +kernel
theorem dX12_isLess_74 : decode cX12_isLess 74 = .ok (.aload_n 0, 1) := by decide +kernel
theorem dX12_isLess_75 : decode cX12_isLess 75 = .ok (.getfield 106, 3) := by decide +kernel
theorem dX12_isLess_78 : decode cX12_isLess 78 = .ok (.iload_n 3, 1) := by decide +kernel
theorem dX12_isLess_79 : decode cX12_isLess 79 = .ok (.iaload, 1) := by decide +kernel
theorem dX12_isLess_80 : decode cX12_isLess 80 = .ok (.if_icmp .ge 7, 3) := by decide +kernel
theorem dX12_isLess_83 : decode cX12_isLess 83 = .ok (.iconst 1, 1) := by decide +kernel
theorem dX12_isLess_84 : decode cX12_isLess 84 = .ok (.goto 4, 3) := by decide +kernel
theorem dX12_isLess_87 : decode cX12_isLess 87 = .ok (.iconst 0, 1) := by decide +kernel
theorem dX12_isLess_88 : decode cX12_isLess 88 = .ok (.ireturn, 1) := by decide +kernel
theorem dX12_isLess_89 : decode cX12_isLess 89 = .ok (.iinc 3 (-1), 3) := by decide +kernel
theorem dX12_isLess_92 : decode cX12_isLess 92 = .ok (.goto (-43), 3) := by decide +kernel
theorem dX12_isLess_95 : decode cX12_isLess 95 = .ok (.iconst 0, 1) := by decide +kernel
theorem dX12_isLess_96 : decode cX12_isLess 96 = .ok (.ireturn, 1) := by decide +kernel
theorem dX12_findRejected_0 : decode cX12_findRejected 0 = .ok (.iconst 0, 1) := by decide +kernel
theorem dX12_findRejected_1 : decode cX12_findRejected 1 = .ok (.istore_n 3, 1) := by decide +kernel
theorem dX12_findRejected_2 : decode cX12_findRejected 2 = .ok (.iload_n 3, 1) := by decide +kernel
theorem dX12_findRejected_3 : decode cX12_findRejected 3 = .ok (.aload_n 0, 1) := by decide +kernel
theorem dX12_findRejected_4 : decode cX12_findRejected 4 = .ok (.getfield 184, 3) := by decide +kernel
theorem dX12_findRejected_7 : decode cX12_findRejected 7 = .ok (.if_icmp .ge 64, 3) := by decide +kernel
theorem dX12_findRejected_10 : decode cX12_findRejected 10 = .ok (.iload_n 3, 1) := by decide +kernel
theorem dX12_findRejected_11 : decode cX12_findRejected 11 = .ok (.istore 4, 2) := by decide +kernel
theorem dX12_findRejected_13 : decode cX12_findRejected 13 = .ok (.iload 4, 2) := by decide +kernel
theorem dX12_findRejected_15 : decode cX12_findRejected 15 = .ok (.ifCond .le 42, 3) := by decide +kernel
theorem dX12_findRejected_18 : decode cX12_findRejected 18 = .ok (.aload_n 0, 1) := by decide +kernel
theorem dX12_findRejected_19 : decode cX12_findRejected 19 = .ok (.iload_n 3, 1) := by decide +kernel
theorem dX12_findRejected_20 : decode cX12_findRejected 20 = .ok (.aload_n 0, 1) := by decide +kernel
theorem dX12_findRejected_21 : decode cX12_findRejected 21 = .ok (.getfield 100, 3) := by decide +kernel
theorem dX12_findRejected_24 : decode cX12_findRejected 24 = .ok (.iload 4, 2) := by decide +kernel
theorem dX12_findRejected_26 : decode cX12_findRejected 26 = .ok (.iconst 1, 1) := by decide +kernel
theorem dX12_findRejected_27 : decode cX12_findRejected 27 = .ok (.isub, 1) := by decide +kernel
theorem dX12_findRejected_28 : decode cX12_findRejected 28 = .ok (.iaload, 1) := by decide +kernel
theorem dX12_findRejected_29 : decode cX12_findRejected 29 = .ok (.invokevirtual 312, 3) := by decide +kernel
theorem dX12_findRejected_32 : decode cX12_findRejected 32 = .ok (.ifCond .eq 25, 3) := by decide +kernel
theorem dX12_findRejected_35 : decode cX12_findRejected 35 = .ok (.aload_n 0, 1) := by decide +kernel
theorem dX12_findRejected_36 : decode cX12_findRejected 36 = .ok (.getfield 100, 3) := by decide +kernel
theorem dX12_findRejected_39 : decode cX12_findRejected 39 = .ok (.iload 4, 2) := by decide +kernel
theorem dX12_findRejected_41 : decode cX12_findRejected 41 = .ok (.aload_n 0, 1) := by decide +kernel
theorem dX12_findRejected_42 : decode cX12_findRejected 42 = .ok (.getfield 100, 3) := by decide +kernel
theorem dX12_findRejected_45 : decode cX12_findRejected 45 = .ok (.iload 4, 2) := by decide +kernel
theorem dX12_findRejected_47 : decode cX12_findRejected 47 = .ok (.iconst 1, 1) := by decide +kernel
theorem dX12_findRejected_48 : decode cX12_findRejected 48 = .ok (.isub, 1) := by decide +kernel
theorem dX12_findRejected_49 : decode cX12_findRejected 49 = .ok (.iaload, 1) := by decide +kernel
theorem dX12_findRejected_50 : decode cX12_findRejected 50 = .ok (.iastore, 1) := by decide +kernel
theorem dX12_findRejected_51 : decode cX12_findRejected 51 = .ok (.iinc 4 (-1), 3) := by decide +kernel
theorem dX12_findRejected_54 : decode cX12_findRejected 54 = .ok (.goto (-41), 3) := by decide +kernel
theorem dX12_findRejected_57 : decode cX12_findRejected 57 = .ok (.aload_n 0, 1) := by decide +kernel
theorem dX12_findRejected_58 : decode cX12_findRejected 58 = .ok (.getfield 100, 3) := by decide +kernel
theorem dX12_findRejected_61 : decode cX12_findRejected 61 = .ok (.iload 4, 2) := by decide +kernel
theorem dX12_findRejected_63 : decode cX12_findRejected 63 = .ok (.iload_n 3, 1) := by decide +kernel
theorem dX12_findRejected_64 : decode cX12_findRejected 64 = .ok (.iastore, 1) := by decide +kernel
theorem dX12_findRejected_65 : decode cX12_findRejected 65 = .ok (.iinc 3 1, 3) := by decide +kernel
theorem dX12_findRejected_68 : decode cX12_findRejected 68 = .ok (.goto (-66), 3) := by decide +kernel
theorem dX12_findRejected_71 : decode cX12_findRejected 71 = .ok (.iconst 0, 1) := by decide +kernel
theorem dX12_findRejected_72 : decode cX12_findRejected 72 = .ok (.istore_n 3, 1) := by decide +kernel
theorem dX12_findRejected_73 : decode cX12_findRejected 73 = .ok (.iload_n 3, 1) := by decide +kernel
theorem dX12_findRejected_74 : decode cX12_findRejected 74 = .ok (.aload_n 0, 1) := by decide +kernel
theorem dX12_findRejected_75 : decode cX12_findRejected 75 = .ok (.getfield 184, 3) := by decide +kernel
theorem dX12_findRejected_78 : decode cX12_findRejected 78 = .ok (.if_icmp .ge 50, 3) := by decide +kernel
theorem dX12_findRejected_81 : decode cX12_findRejected 81 = .ok (.aload_n 0, 1) := by decide +kernel
theorem dX12_findRejected_82 : decode cX12_findRejected 82 = .ok (.aload_n 0, 1) := by decide +kernel
theorem dX12_findRejected_83 : decode cX12_findRejected 83 = .ok (.getfield 94, 3) := by decide +kernel
theorem dX12_findRejected_86 : decode cX12_findRejected 86 = .ok (.bipush 40, 2) := by decide +kernel
theorem dX12_findRejected_88 : decode cX12_findRejected 88 = .ok (.aload_n 0, 1) := by decide +kernel
theorem dX12_findRejected_89 : decode cX12_findRejected 89 = .ok (.getfield 100, 3) := by decide +kernel
theorem dX12_findRejected_92 : decode cX12_findRejected 92 = .ok (.iload_n 3, 1) := by decide +kernel
theorem dX12_findRejected_93 : decode cX12_findRejected 93 = .ok (.iaload, 1) := by decide +kernel
theorem dX12_findRejected_94 : decode cX12_findRejected 94 = .ok (.imul, 1) := by decide +kernel
theorem dX12_findRejected_95 : decode cX12_findRejected 95 = .ok (.aload_n 0, 1) := by decide +kernel
theorem dX12_findRejected_96 : decode cX12_findRejected 96 = .ok (.getfield 97, 3) := by decide +kernel
theorem dX12_findRejected_99 : decode cX12_findRejected 99 = .ok (.bipush 40, 2) := by decide +kernel
theorem dX12_findRejected_101 : decode cX12_findRejected 101 = .ok (.aload_n 0, 1) := by decide +kernel
theorem dX12_findRejected_102 : decode cX12_findRejected 102 = .ok (.getfield 100, 3) := by decide +kernel
theorem dX12_findRejected_105 : decode cX12_findRejected 105 = .ok (.iload_n 3, 1) := by decide +kernel
theorem dX12_findRejected_106 : decode cX12_findRejected 106 = .ok (.iaload, 1) := by decide +kernel
theorem dX12_findRejected_107 : decode cX12_findRejected 107 = .ok (.imul, 1) := by decide +kernel
theorem dX12_findRejected_108 : decode cX12_findRejected 108 = .ok (.iload_n 1, 1) := by decide +kernel
theorem dX12_findRejected_109 : decode cX12_findRejected 109 = .ok (.iload_n 2, 1) := by decide +kernel
theorem dX12_findRejected_110 : decode cX12_findRejected 110 = .ok (.aload_n 0, 1) := by decide +kernel
theorem dX12_findRejected_111 : decode cX12_findRejected 111 = .ok (.getfield 184, 3) := by decide +kernel
theorem dX12_findRejected_114 : decode cX12_findRejected 114 = .ok (.iload_n 3, 1) := by decide +kernel
theorem dX12_findRejected_115 : decode cX12_findRejected 115 = .ok (.isub, 1) := by decide +kernel
theorem dX12_findRejected_116 : decode cX12_findRejected 116 = .ok (.invokevirtual 303, 3) := by decide +kernel
theorem dX12_findRejected_119 : decode cX12_findRejected 119 = .ok (.ifCond .gt 9, 3) := by decide +kernel
theorem dX12_findRejected_122 : decode cX12_findRejected 122 = .ok (.iinc 3 1, 3) := by decide +kernel
theorem dX12_findRejected_125 : decode cX12_findRejected 125 = .ok (.goto (-52), 3) := by decide +kernel
theorem dX12_findRejected_128 : decode cX12_findRejected 128 = .ok (.iload_n 3, 1) := by decide +kernel
theorem dX12_findRejected_129 : decode cX12_findRejected 129 = .ok (.ireturn, 1) := by decide +kernel
theorem dX12_rejected_0 : decode cX12_rejected 0 = .ok (.iload_n 1, 1) := by decide +kernel
theorem dX12_rejected_1 : decode cX12_rejected 1 = .ok (.iload_n 2, 1) := by decide +kernel
theorem dX12_rejected_2 : decode cX12_rejected 2 = .ok (.invokestatic 299, 3) := by decide +kernel
theorem dX12_rejected_5 : decode cX12_rejected 5 = .ok (.ifCond .eq 12, 3) := by decide +kernel
theorem dX12_rejected_8 : decode cX12_rejected 8 = .ok (.aload_n 0, 1) := by decide +kernel
theorem dX12_rejected_9 : decode cX12_rejected 9 = .ok (.iload_n 1, 1) := by decide +kernel
theorem dX12_rejected_10 : decode cX12_rejected 10 = .ok (.iload_n 2, 1) := by decide +kernel
theorem dX12_rejected_11 : decode cX12_rejected 11 = .ok (.invokevirtual 315, 3) := by decide +kernel
theorem dX12_rejected_14 : decode cX12_rejected 14 = .ok (.goto 5, 3) := by decide +kernel
theorem dX12_rejected_17 : decode cX12_rejected 17 = .ok (.bipush (-2), 2) := by decide +kernel
theorem dX12_rejected_19 : decode cX12_rejected 19 = .ok (.ireturn, 1) := by decide +kernel
theorem dX12_isRejected_0 : decode cX12_isRejected 0 = .ok (.iload_n 1, 1) := by decide +kernel
theorem dX12_isRejected_1 : decode cX12_isRejected 1 = .ok (.i2l, 1) := by decide +kernel
theorem dX12_isRejected_2 : decode cX12_isRejected 2 = .ok (.lconst 0, 1) := by decide +kernel
theorem dX12_isRejected_3 : decode cX12_isRejected 3 = .ok (.aload_n 0, 1) := by decide +kernel
theorem dX12_isRejected_4 : decode cX12_isRejected 4 = .ok (.getfield 184, 3) := by decide +kernel
theorem dX12_isRejected_7 : decode cX12_isRejected 7 = .ok (.iconst 1, 1) := by decide +kernel
theorem dX12_isRejected_8 : decode cX12_isRejected 8 = .ok (.isub, 1) := by decide +kernel
theorem dX12_isRejected_9 : decode cX12_isRejected 9 = .ok (.i2l, 1) := by decide +kernel
theorem dX12_isRejected_10 : decode cX12_isRejected 10 = .ok (.invokestatic 159, 3) := by decide +kernel
theorem dX12_isRejected_13 : decode cX12_isRejected 13 = .ok (.ifCond .ne 5, 3) := by decide +kernel
theorem dX12_isRejected_16 : decode cX12_isRejected 16 = .ok (.iconst (-1), 1) := by decide +kernel
theorem dX12_isRejected_17 : decode cX12_isRejected 17 = .ok (.ireturn, 1) := by decide +kernel
theorem dX12_isRejected_18 : decode cX12_isRejected 18 = .ok (.iload_n 2, 1) := by decide +kernel
theorem dX12_isRejected_19 : decode cX12_isRejected 19 = .ok (.iload_n 3, 1) := by decide +kernel
theorem dX12_isRejected_20 : decode cX12_isRejected 20 = .ok (.invokestatic 299, 3) := by decide +kernel
theorem dX12_isRejected_23 : decode cX12_isRejected 23 = .ok (.ifCond .ne 6, 3) := by decide +kernel
theorem dX12_isRejected_26 : decode cX12_isRejected 26 = .ok (.bipush (-2), 2) := by decide +kernel
theorem dX12_isRejected_28 : decode cX12_isRejected 28 = .ok (.ireturn, 1) := by decide +kernel
theorem dX12_isRejected_29 : decode cX12_isRejected 29 = .ok (.aload_n 0, 1) := by decide +kernel
theorem dX12_isRejected_30 : decode cX12_isRejected 30 = .ok (.iload_n 2, 1) := by decide +kernel
theorem dX12_isRejected_31 : decode cX12_isRejected 31 = .ok (.iload_n 3, 1) := by decide +kernel
theorem dX12_isRejected_32 : decode cX12_isRejected 32 = .ok (.invokevirtual 315, 3) := by decide +kernel
theorem dX12_isRejected_35 : decode cX12_isRejected 35 = .ok (.istore 4, 2) := by decide +kernel
theorem dX12_isRejected_37 : decode cX12_isRejected 37 = .ok (.iconst 0, 1) := by decide +kernel
theorem dX12_isRejected_38 : decode cX12_isRejected 38 = .ok (.istore 5, 2) := by decide +kernel
theorem dX12_isRejected_40 : decode cX12_isRejected 40 = .ok (.iconst 0, 1) := by decide +kernel
theorem dX12_isRejected_41 : decode cX12_isRejected 41 = .ok (.istore 6, 2) := by decide +kernel
theorem dX12_isRejected_43 : decode cX12_isRejected 43 = .ok (.iload 6, 2) := by decide +kernel
theorem dX12_isRejected_45 : decode cX12_isRejected 45 = .ok (.iload 4, 2) := by decide +kernel
theorem dX12_isRejected_47 : decode cX12_isRejected 47 = .ok (.if_icmp .ge 28, 3) := by decide +kernel
theorem dX12_isRejected_50 : decode cX12_isRejected 50 = .ok (.aload_n 0, 1) := by decide +kernel
theorem dX12_isRejected_51 : decode cX12_isRejected 51 = .ok (.getfield 100, 3) := by decide +kernel
theorem dX12_isRejected_54 : decode cX12_isRejected 54 = .ok (.iload 6, 2) := by decide +kernel
theorem dX12_isRejected_56 : decode cX12_isRejected 56 = .ok (.iaload, 1) := by decide +kernel
theorem dX12_isRejected_57 : decode cX12_isRejected 57 = .ok (.iload_n 1, 1) := by decide +kernel
theorem dX12_isRejected_58 : decode cX12_isRejected 58 = .ok (.if_icmp .ne 7, 3) := by decide +kernel
theorem dX12_isRejected_61 : decode cX12_isRejected 61 = .ok (.iconst 1, 1) := by decide +kernel
theorem dX12_isRejected_62 : decode cX12_isRejected 62 = .ok (.goto 5, 3) := by decide +kernel
theorem dX12_isRejected_65 : decode cX12_isRejected 65 = .ok (.iload 5, 2) := by decide +kernel
theorem dX12_isRejected_67 : decode cX12_isRejected 67 = .ok (.istore 5, 2) := by decide +kernel
theorem dX12_isRejected_69 : decode cX12_isRejected 69 = .ok (.iinc 6 1, 3) := by decide +kernel
theorem dX12_isRejected_72 : decode cX12_isRejected 72 = .ok (.goto (-29), 3) := by decide +kernel
theorem dX12_isRejected_75 : decode cX12_isRejected 75 = .ok (.iload 5, 2) := by decide +kernel
theorem dX12_isRejected_77 : decode cX12_isRejected 77 = .ok (.ireturn, 1) := by decide +kernel
theorem dX12_claim_0 : decode cX12_claim 0 = .ok (.iload_n 1, 1) := by decide +kernel
theorem dX12_claim_1 : decode cX12_claim 1 = .ok (.i2l, 1) := by decide +kernel
theorem dX12_claim_2 : decode cX12_claim 2 = .ok (.lconst 0, 1) := by decide +kernel
theorem dX12_claim_3 : decode cX12_claim 3 = .ok (.ldc2_w 318, 3) := by decide +kernel
theorem dX12_claim_6 : decode cX12_claim 6 = .ok (.invokestatic 159, 3) := by decide +kernel
theorem dX12_claim_9 : decode cX12_claim 9 = .ok (.ifCond .ne 6, 3) := by decide +kernel
theorem dX12_claim_12 : decode cX12_claim 12 = .ok (.bipush (-2), 2) := by decide +kernel
theorem dX12_claim_14 : decode cX12_claim 14 = .ok (.ireturn, 1) := by decide +kernel
theorem dX12_claim_15 : decode cX12_claim 15 = .ok (.aload_n 0, 1) := by decide +kernel
theorem dX12_claim_16 : decode cX12_claim 16 = .ok (.getfield 187, 3) := by decide +kernel
theorem dX12_claim_19 : decode cX12_claim 19 = .ok (.bipush 40, 2) := by decide +kernel
theorem dX12_claim_21 : decode cX12_claim 21 = .ok (.if_icmp .ne 6, 3) := by decide +kernel
theorem dX12_claim_24 : decode cX12_claim 24 = .ok (.bipush (-4), 2) := by decide +kernel
theorem dX12_claim_26 : decode cX12_claim 26 = .ok (.ireturn, 1) := by decide +kernel
theorem dX12_claim_27 : decode cX12_claim 27 = .ok (.aload_n 0, 1) := by decide +kernel
theorem dX12_claim_28 : decode cX12_claim 28 = .ok (.getfield 109, 3) := by decide +kernel
theorem dX12_claim_31 : decode cX12_claim 31 = .ok (.aload_n 0, 1) := by decide +kernel
theorem dX12_claim_32 : decode cX12_claim 32 = .ok (.getfield 187, 3) := by decide +kernel
theorem dX12_claim_35 : decode cX12_claim 35 = .ok (.iload_n 1, 1) := by decide +kernel
theorem dX12_claim_36 : decode cX12_claim 36 = .ok (.iastore, 1) := by decide +kernel
theorem dX12_claim_37 : decode cX12_claim 37 = .ok (.aload_n 0, 1) := by decide +kernel
theorem dX12_claim_38 : decode cX12_claim 38 = .ok (.dup, 1) := by decide +kernel
theorem dX12_claim_39 : decode cX12_claim 39 = .ok (.getfield 187, 3) := by decide +kernel
theorem dX12_claim_42 : decode cX12_claim 42 = .ok (.iconst 1, 1) := by decide +kernel
theorem dX12_claim_43 : decode cX12_claim 43 = .ok (.iadd, 1) := by decide +kernel
theorem dX12_claim_44 : decode cX12_claim 44 = .ok (.putfield 187, 3) := by decide +kernel
theorem dX12_claim_47 : decode cX12_claim 47 = .ok (.aload_n 0, 1) := by decide +kernel
theorem dX12_claim_48 : decode cX12_claim 48 = .ok (.getfield 187, 3) := by decide +kernel
theorem dX12_claim_51 : decode cX12_claim 51 = .ok (.ireturn, 1) := by decide +kernel
theorem dX12_check_0 : decode cX12_check 0 = .ok (.aload_n 0, 1) := by decide +kernel
theorem dX12_check_1 : decode cX12_check 1 = .ok (.getfield 34, 3) := by decide +kernel
theorem dX12_check_4 : decode cX12_check 4 = .ok (.ifCond .ge 6, 3) := by decide +kernel
theorem dX12_check_7 : decode cX12_check 7 = .ok (.bipush (-30), 2) := by decide +kernel
theorem dX12_check_9 : decode cX12_check 9 = .ok (.ireturn, 1) := by decide +kernel
theorem dX12_check_10 : decode cX12_check 10 = .ok (.iload_n 1, 1) := by decide +kernel
theorem dX12_check_11 : decode cX12_check 11 = .ok (.invokestatic 285, 3) := by decide +kernel
theorem dX12_check_14 : decode cX12_check 14 = .ok (.ifCond .ne 6, 3) := by decide +kernel
theorem dX12_check_17 : decode cX12_check 17 = .ok (.bipush (-10), 2) := by decide +kernel
theorem dX12_check_19 : decode cX12_check 19 = .ok (.ireturn, 1) := by decide +kernel
theorem dX12_check_20 : decode cX12_check 20 = .ok (.aload_n 0, 1) := by decide +kernel
theorem dX12_check_21 : decode cX12_check 21 = .ok (.getfield 41, 3) := by decide +kernel
theorem dX12_check_24 : decode cX12_check 24 = .ok (.bipush 40, 2) := by decide +kernel
theorem dX12_check_26 : decode cX12_check 26 = .ok (.iload_n 1, 1) := by decide +kernel
theorem dX12_check_27 : decode cX12_check 27 = .ok (.imul, 1) := by decide +kernel
theorem dX12_check_28 : decode cX12_check 28 = .ok (.invokestatic 131, 3) := by decide +kernel
theorem dX12_check_31 : decode cX12_check 31 = .ok (.bipush 15, 2) := by decide +kernel
theorem dX12_check_33 : decode cX12_check 33 = .ok (.iadd, 1) := by decide +kernel
theorem dX12_check_34 : decode cX12_check 34 = .ok (.bipush 16, 2) := by decide +kernel
theorem dX12_check_36 : decode cX12_check 36 = .ok (.idiv, 1) := by decide +kernel
theorem dX12_check_37 : decode cX12_check 37 = .ok (.istore_n 2, 1) := by decide +kernel
theorem dX12_check_38 : decode cX12_check 38 = .ok (.iload_n 2, 1) := by decide +kernel
theorem dX12_check_39 : decode cX12_check 39 = .ok (.aload_n 0, 1) := by decide +kernel
theorem dX12_check_40 : decode cX12_check 40 = .ok (.getfield 38, 3) := by decide +kernel
theorem dX12_check_43 : decode cX12_check 43 = .ok (.bipush 40, 2) := by decide +kernel
theorem dX12_check_45 : decode cX12_check 45 = .ok (.iload_n 1, 1) := by decide +kernel
theorem dX12_check_46 : decode cX12_check 46 = .ok (.imul, 1) := by decide +kernel
theorem dX12_check_47 : decode cX12_check 47 = .ok (.invokestatic 131, 3) := by decide +kernel
theorem dX12_check_50 : decode cX12_check 50 = .ok (.bipush 15, 2) := by decide +kernel
theorem dX12_check_52 : decode cX12_check 52 = .ok (.iadd, 1) := by decide +kernel
theorem dX12_check_53 : decode cX12_check 53 = .ok (.bipush 16, 2) := by decide +kernel
theorem dX12_check_55 : decode cX12_check 55 = .ok (.idiv, 1) := by decide +kernel
theorem dX12_check_56 : decode cX12_check 56 = .ok (.iadd, 1) := by decide +kernel
theorem dX12_check_57 : decode cX12_check 57 = .ok (.istore_n 3, 1) := by decide +kernel
theorem dX12_check_58 : decode cX12_check 58 = .ok (.iconst 0, 1) := by decide +kernel
theorem dX12_check_59 : decode cX12_check 59 = .ok (.istore 4, 2) := by decide +kernel
theorem dX12_check_61 : decode cX12_check 61 = .ok (.iload 4, 2) := by decide +kernel
theorem dX12_check_63 : decode cX12_check 63 = .ok (.iload_n 3, 1) := by decide +kernel
theorem dX12_check_64 : decode cX12_check 64 = .ok (.if_icmp .ge 77, 3) := by decide +kernel
theorem dX12_check_67 : decode cX12_check 67 = .ok (.iload 4, 2) := by decide +kernel
theorem dX12_check_69 : decode cX12_check 69 = .ok (.iload_n 2, 1) := by decide +kernel
theorem dX12_check_70 : decode cX12_check 70 = .ok (.if_icmp .ge 20, 3) := by decide +kernel
theorem dX12_check_73 : decode cX12_check 73 = .ok (.aload_n 0, 1) := by decide +kernel
theorem dX12_check_74 : decode cX12_check 74 = .ok (.getfield 41, 3) := by decide +kernel
theorem dX12_check_77 : decode cX12_check 77 = .ok (.bipush 40, 2) := by decide +kernel
theorem dX12_check_79 : decode cX12_check 79 = .ok (.iload_n 1, 1) := by decide +kernel
theorem dX12_check_80 : decode cX12_check 80 = .ok (.imul, 1) := by decide +kernel
theorem dX12_check_81 : decode cX12_check 81 = .ok (.iload 4, 2) := by decide +kernel
theorem dX12_check_83 : decode cX12_check 83 = .ok (.i2l, 1) := by decide +kernel
theorem dX12_check_84 : decode cX12_check 84 = .ok (.invokestatic 293, 3) := by decide +kernel
theorem dX12_check_87 : decode cX12_check 87 = .ok (.goto 19, 3) := by decide +kernel
theorem dX12_check_90 : decode cX12_check 90 = .ok (.aload_n 0, 1) := by decide +kernel
theorem dX12_check_91 : decode cX12_check 91 = .ok (.getfield 38, 3) := by decide +kernel
theorem dX12_check_94 : decode cX12_check 94 = .ok (.bipush 40, 2) := by decide +kernel
theorem dX12_check_96 : decode cX12_check 96 = .ok (.iload_n 1, 1) := by decide +kernel
theorem dX12_check_97 : decode cX12_check 97 = .ok (.imul, 1) := by decide +kernel
theorem dX12_check_98 : decode cX12_check 98 = .ok (.iload 4, 2) := by decide +kernel
theorem dX12_check_100 : decode cX12_check 100 = .ok (.iload_n 2, 1) := by decide +kernel
theorem dX12_check_101 : decode cX12_check 101 = .ok (.isub, 1) := by decide +kernel
theorem dX12_check_102 : decode cX12_check 102 = .ok (.i2l, 1) := by decide +kernel
theorem dX12_check_103 : decode cX12_check 103 = .ok (.invokestatic 293, 3) := by decide +kernel
theorem dX12_check_106 : decode cX12_check 106 = .ok (.istore 5, 2) := by decide +kernel
theorem dX12_check_108 : decode cX12_check 108 = .ok (.iload 4, 2) := by decide +kernel
theorem dX12_check_110 : decode cX12_check 110 = .ok (.aload_n 0, 1) := by decide +kernel
theorem dX12_check_111 : decode cX12_check 111 = .ok (.getfield 187, 3) := by decide +kernel
theorem dX12_check_114 : decode cX12_check 114 = .ok (.if_icmp .ge 15, 3) := by decide +kernel
theorem dX12_check_117 : decode cX12_check 117 = .ok (.aload_n 0, 1) := by decide +kernel
theorem dX12_check_118 : decode cX12_check 118 = .ok (.getfield 109, 3) := by decide +kernel
theorem dX12_check_121 : decode cX12_check 121 = .ok (.iload 4, 2) := by decide +kernel
theorem dX12_check_123 : decode cX12_check 123 = .ok (.iaload, 1) := by decide +kernel
theorem dX12_check_124 : decode cX12_check 124 = .ok (.iload 5, 2) := by decide +kernel
theorem dX12_check_126 : decode cX12_check 126 = .ok (.if_icmp .eq 9, 3) := by decide +kernel
theorem dX12_check_129 : decode cX12_check 129 = .ok (.bipush (-100), 2) := by decide +kernel
theorem dX12_check_131 : decode cX12_check 131 = .ok (.iload 4, 2) := by decide +kernel
theorem dX12_check_133 : decode cX12_check 133 = .ok (.isub, 1) := by decide +kernel
theorem dX12_check_134 : decode cX12_check 134 = .ok (.ireturn, 1) := by decide +kernel
theorem dX12_check_135 : decode cX12_check 135 = .ok (.iinc 4 1, 3) := by decide +kernel
theorem dX12_check_138 : decode cX12_check 138 = .ok (.goto (-77), 3) := by decide +kernel
theorem dX12_check_141 : decode cX12_check 141 = .ok (.aload_n 0, 1) := by decide +kernel
theorem dX12_check_142 : decode cX12_check 142 = .ok (.getfield 187, 3) := by decide +kernel
theorem dX12_check_145 : decode cX12_check 145 = .ok (.iload_n 3, 1) := by decide +kernel
theorem dX12_check_146 : decode cX12_check 146 = .ok (.if_icmp .le 10, 3) := by decide +kernel
theorem dX12_check_149 : decode cX12_check 149 = .ok (.bipush (-100), 2) := by decide +kernel
theorem dX12_check_151 : decode cX12_check 151 = .ok (.iload_n 3, 1) := by decide +kernel
theorem dX12_check_152 : decode cX12_check 152 = .ok (.isub, 1) := by decide +kernel
theorem dX12_check_153 : decode cX12_check 153 = .ok (.goto 4, 3) := by decide +kernel
theorem dX12_check_156 : decode cX12_check 156 = .ok (.iconst 1, 1) := by decide +kernel
theorem dX12_check_157 : decode cX12_check 157 = .ok (.ireturn, 1) := by decide +kernel
theorem dX12_shift_0 : decode cX12_shift 0 = .ok (.aload_n 0, 1) := by decide +kernel
theorem dX12_shift_1 : decode cX12_shift 1 = .ok (.getfield 28, 3) := by decide +kernel
theorem dX12_shift_4 : decode cX12_shift 4 = .ok (.iconst 0, 1) := by decide +kernel
theorem dX12_shift_5 : decode cX12_shift 5 = .ok (.iaload, 1) := by decide +kernel
theorem dX12_shift_6 : decode cX12_shift 6 = .ok (.ifCond .eq 12, 3) := by decide +kernel
theorem dX12_shift_9 : decode cX12_shift 9 = .ok (.aload_n 0, 1) := by decide +kernel
theorem dX12_shift_10 : decode cX12_shift 10 = .ok (.getfield 28, 3) := by decide +kernel
theorem dX12_shift_13 : decode cX12_shift 13 = .ok (.iconst 1, 1) := by decide +kernel
theorem dX12_shift_14 : decode cX12_shift 14 = .ok (.iaload, 1) := by decide +kernel
theorem dX12_shift_15 : decode cX12_shift 15 = .ok (.ifCond .ne 7, 3) := by decide +kernel
theorem dX12_shift_18 : decode cX12_shift 18 = .ok (.ldc_w 268, 3) := by decide +kernel
theorem dX12_shift_21 : decode cX12_shift 21 = .ok (.ireturn, 1) := by decide +kernel
theorem dX12_shift_22 : decode cX12_shift 22 = .ok (.iconst 0, 1) := by decide +kernel
theorem dX12_shift_23 : decode cX12_shift 23 = .ok (.istore_n 1, 1) := by decide +kernel
theorem dX12_shift_24 : decode cX12_shift 24 = .ok (.iconst 0, 1) := by decide +kernel
theorem dX12_shift_25 : decode cX12_shift 25 = .ok (.istore_n 2, 1) := by decide +kernel
theorem dX12_shift_26 : decode cX12_shift 26 = .ok (.iload_n 2, 1) := by decide +kernel
theorem dX12_shift_27 : decode cX12_shift 27 = .ok (.aload_n 0, 1) := by decide +kernel
theorem dX12_shift_28 : decode cX12_shift 28 = .ok (.getfield 28, 3) := by decide +kernel
theorem dX12_shift_31 : decode cX12_shift 31 = .ok (.iconst 0, 1) := by decide +kernel
theorem dX12_shift_32 : decode cX12_shift 32 = .ok (.iaload, 1) := by decide +kernel
theorem dX12_shift_33 : decode cX12_shift 33 = .ok (.if_icmp .ge 101, 3) := by decide +kernel
theorem dX12_shift_36 : decode cX12_shift 36 = .ok (.iconst 0, 1) := by decide +kernel
theorem dX12_shift_37 : decode cX12_shift 37 = .ok (.istore_n 3, 1) := by decide +kernel
theorem dX12_shift_38 : decode cX12_shift 38 = .ok (.iload_n 3, 1) := by decide +kernel
theorem dX12_shift_39 : decode cX12_shift 39 = .ok (.aload_n 0, 1) := by decide +kernel
theorem dX12_shift_40 : decode cX12_shift 40 = .ok (.getfield 28, 3) := by decide +kernel
theorem dX12_shift_43 : decode cX12_shift 43 = .ok (.iconst 1, 1) := by decide +kernel
theorem dX12_shift_44 : decode cX12_shift 44 = .ok (.iaload, 1) := by decide +kernel
theorem dX12_shift_45 : decode cX12_shift 45 = .ok (.if_icmp .ge 83, 3) := by decide +kernel
theorem dX12_shift_48 : decode cX12_shift 48 = .ok (.aload_n 0, 1) := by decide +kernel
theorem dX12_shift_49 : decode cX12_shift 49 = .ok (.getfield 25, 3) := by decide +kernel
theorem dX12_shift_52 : decode cX12_shift 52 = .ok (.iload_n 2, 1) := by decide +kernel
theorem dX12_shift_53 : decode cX12_shift 53 = .ok (.iaload, 1) := by decide +kernel
theorem dX12_shift_54 : decode cX12_shift 54 = .ok (.aload_n 0, 1) := by decide +kernel
theorem dX12_shift_55 : decode cX12_shift 55 = .ok (.getfield 25, 3) := by decide +kernel
theorem dX12_shift_58 : decode cX12_shift 58 = .ok (.bipush 15, 2) := by decide +kernel
theorem dX12_shift_60 : decode cX12_shift 60 = .ok (.iload_n 3, 1) := by decide +kernel
theorem dX12_shift_61 : decode cX12_shift 61 = .ok (.iadd, 1) := by decide +kernel
theorem dX12_shift_62 : decode cX12_shift 62 = .ok (.iaload, 1) := by decide +kernel
theorem dX12_shift_63 : decode cX12_shift 63 = .ok (.isub, 1) := by decide +kernel
theorem dX12_shift_64 : decode cX12_shift 64 = .ok (.istore 4, 2) := by decide +kernel
theorem dX12_shift_66 : decode cX12_shift 66 = .ok (.iload_n 1, 1) := by decide +kernel
theorem dX12_shift_67 : decode cX12_shift 67 = .ok (.istore 5, 2) := by decide +kernel
theorem dX12_shift_69 : decode cX12_shift 69 = .ok (.iload 5, 2) := by decide +kernel
theorem dX12_shift_71 : decode cX12_shift 71 = .ok (.ifCond .le 39, 3) := by decide +kernel
theorem dX12_shift_74 : decode cX12_shift 74 = .ok (.aload_n 0, 1) := by decide +kernel
theorem dX12_shift_75 : decode cX12_shift 75 = .ok (.getfield 112, 3) := by decide +kernel
theorem dX12_shift_78 : decode cX12_shift 78 = .ok (.iload 5, 2) := by decide +kernel
theorem dX12_shift_80 : decode cX12_shift 80 = .ok (.iconst 1, 1) := by decide +kernel
theorem dX12_shift_81 : decode cX12_shift 81 = .ok (.isub, 1) := by decide +kernel
theorem dX12_shift_82 : decode cX12_shift 82 = .ok (.iaload, 1) := by decide +kernel
theorem dX12_shift_83 : decode cX12_shift 83 = .ok (.iload 4, 2) := by decide +kernel
theorem dX12_shift_85 : decode cX12_shift 85 = .ok (.if_icmp .le 25, 3) := by decide +kernel
theorem dX12_shift_88 : decode cX12_shift 88 = .ok (.aload_n 0, 1) := by decide +kernel
theorem dX12_shift_89 : decode cX12_shift 89 = .ok (.getfield 112, 3) := by decide +kernel
theorem dX12_shift_92 : decode cX12_shift 92 = .ok (.iload 5, 2) := by decide +kernel
theorem dX12_shift_94 : decode cX12_shift 94 = .ok (.aload_n 0, 1) := by decide +kernel
theorem dX12_shift_95 : decode cX12_shift 95 = .ok (.getfield 112, 3) := by decide +kernel
theorem dX12_shift_98 : decode cX12_shift 98 = .ok (.iload 5, 2) := by decide +kernel
theorem dX12_shift_100 : decode cX12_shift 100 = .ok (.iconst 1, 1) := by decide +kernel
theorem dX12_shift_101 : decode cX12_shift 101 = .ok (.isub, 1) := by decide +kernel
theorem dX12_shift_102 : decode cX12_shift 102 = .ok (.iaload, 1) := by decide +kernel
theorem dX12_shift_103 : decode cX12_shift 103 = .ok (.iastore, 1) := by decide +kernel
theorem dX12_shift_104 : decode cX12_shift 104 = .ok (.iinc 5 (-1), 3) := by decide +kernel
theorem dX12_shift_107 : decode cX12_shift 107 = .ok (.goto (-38), 3) := by decide +kernel
theorem dX12_shift_110 : decode cX12_shift 110 = .ok (.aload_n 0, 1) := by decide +kernel
theorem dX12_shift_111 : decode cX12_shift 111 = .ok (.getfield 112, 3) := by decide +kernel
theorem dX12_shift_114 : decode cX12_shift 114 = .ok (.iload 5, 2) := by decide +kernel
theorem dX12_shift_116 : decode cX12_shift 116 = .ok (.iload 4, 2) := by decide +kernel
theorem dX12_shift_118 : decode cX12_shift 118 = .ok (.iastore, 1) := by decide +kernel
theorem dX12_shift_119 : decode cX12_shift 119 = .ok (.iinc 1 1, 3) := by decide +kernel
theorem dX12_shift_122 : decode cX12_shift 122 = .ok (.iinc 3 1, 3) := by decide +kernel
theorem dX12_shift_125 : decode cX12_shift 125 = .ok (.goto (-87), 3) := by decide +kernel
theorem dX12_shift_128 : decode cX12_shift 128 = .ok (.iinc 2 1, 3) := by decide +kernel
theorem dX12_shift_131 : decode cX12_shift 131 = .ok (.goto (-105), 3) := by decide +kernel
theorem dX12_shift_134 : decode cX12_shift 134 = .ok (.iload_n 1, 1) := by decide +kernel
theorem dX12_shift_135 : decode cX12_shift 135 = .ok (.iconst 2, 1) := by decide +kernel
theorem dX12_shift_136 : decode cX12_shift 136 = .ok (.irem, 1) := by decide +kernel
theorem dX12_shift_137 : decode cX12_shift 137 = .ok (.iconst 1, 1) := by decide +kernel
theorem dX12_shift_138 : decode cX12_shift 138 = .ok (.if_icmp .ne 16, 3) := by decide +kernel
theorem dX12_shift_141 : decode cX12_shift 141 = .ok (.iconst 2, 1) := by decide +kernel
theorem dX12_shift_142 : decode cX12_shift 142 = .ok (.aload_n 0, 1) := by decide +kernel
theorem dX12_shift_143 : decode cX12_shift 143 = .ok (.getfield 112, 3) := by decide +kernel
theorem dX12_shift_146 : decode cX12_shift 146 = .ok (.iload_n 1, 1) := by decide +kernel
theorem dX12_shift_147 : decode cX12_shift 147 = .ok (.iconst 2, 1) := by decide +kernel
theorem dX12_shift_148 : decode cX12_shift 148 = .ok (.idiv, 1) := by decide +kernel
theorem dX12_shift_149 : decode cX12_shift 149 = .ok (.iaload, 1) := by decide +kernel
theorem dX12_shift_150 : decode cX12_shift 150 = .ok (.imul, 1) := by decide +kernel
theorem dX12_shift_151 : decode cX12_shift 151 = .ok (.goto 22, 3) := by decide +kernel
theorem dX12_shift_154 : decode cX12_shift 154 = .ok (.aload_n 0, 1) := by decide +kernel
theorem dX12_shift_155 : decode cX12_shift 155 = .ok (.getfield 112, 3) := by decide +kernel
theorem dX12_shift_158 : decode cX12_shift 158 = .ok (.iload_n 1, 1) := by decide +kernel
theorem dX12_shift_159 : decode cX12_shift 159 = .ok (.iconst 2, 1) := by decide +kernel
theorem dX12_shift_160 : decode cX12_shift 160 = .ok (.idiv, 1) := by decide +kernel
theorem dX12_shift_161 : decode cX12_shift 161 = .ok (.iconst 1, 1) := by decide +kernel
theorem dX12_shift_162 : decode cX12_shift 162 = .ok (.isub, 1) := by decide +kernel
theorem dX12_shift_163 : decode cX12_shift 163 = .ok (.iaload, 1) := by decide +kernel
theorem dX12_shift_164 : decode cX12_shift 164 = .ok (.aload_n 0, 1) := by decide +kernel
theorem dX12_shift_165 : decode cX12_shift 165 = .ok (.getfield 112, 3) := by decide +kernel
theorem dX12_shift_168 : decode cX12_shift 168 = .ok (.iload_n 1, 1) := by decide +kernel
theorem dX12_shift_169 : decode cX12_shift 169 = .ok (.iconst 2, 1) := by decide +kernel
theorem dX12_shift_170 : decode cX12_shift 170 = .ok (.idiv, 1) := by decide +kernel
theorem dX12_shift_171 : decode cX12_shift 171 = .ok (.iaload, 1) := by decide +kernel
theorem dX12_shift_172 : decode cX12_shift 172 = .ok (.iadd, 1) := by decide +kernel
theorem dX12_shift_173 : decode cX12_shift 173 = .ok (.ireturn, 1) := by decide +kernel
theorem dX12_told_0 : decode cX12_told 0 = .ok (.iload_n 1, 1) := by decide +kernel
theorem dX12_told_1 : decode cX12_told 1 = .ok (.tableswitch 91 0 7 #[47, 54, 61, 66, 71, 76, 81, 86], 47) := by decide +kernel
theorem dX12_told_48 : decode cX12_told 48 = .ok (.aload_n 0, 1) := by decide +kernel
theorem dX12_told_49 : decode cX12_told 49 = .ok (.getfield 28, 3) := by decide +kernel
theorem dX12_told_52 : decode cX12_told 52 = .ok (.iconst 0, 1) := by decide +kernel
theorem dX12_told_53 : decode cX12_told 53 = .ok (.iaload, 1) := by decide +kernel
theorem dX12_told_54 : decode cX12_told 54 = .ok (.ireturn, 1) := by decide +kernel
theorem dX12_told_55 : decode cX12_told 55 = .ok (.aload_n 0, 1) := by decide +kernel
theorem dX12_told_56 : decode cX12_told 56 = .ok (.getfield 28, 3) := by decide +kernel
theorem dX12_told_59 : decode cX12_told 59 = .ok (.iconst 1, 1) := by decide +kernel
theorem dX12_told_60 : decode cX12_told 60 = .ok (.iaload, 1) := by decide +kernel
theorem dX12_told_61 : decode cX12_told 61 = .ok (.ireturn, 1) := by decide +kernel
theorem dX12_told_62 : decode cX12_told 62 = .ok (.aload_n 0, 1) := by decide +kernel
theorem dX12_told_63 : decode cX12_told 63 = .ok (.getfield 181, 3) := by decide +kernel
theorem dX12_told_66 : decode cX12_told 66 = .ok (.ireturn, 1) := by decide +kernel
theorem dX12_told_67 : decode cX12_told 67 = .ok (.aload_n 0, 1) := by decide +kernel
theorem dX12_told_68 : decode cX12_told 68 = .ok (.getfield 184, 3) := by decide +kernel
theorem dX12_told_71 : decode cX12_told 71 = .ok (.ireturn, 1) := by decide +kernel
theorem dX12_told_72 : decode cX12_told 72 = .ok (.aload_n 0, 1) := by decide +kernel
theorem dX12_told_73 : decode cX12_told 73 = .ok (.getfield 187, 3) := by decide +kernel
theorem dX12_told_76 : decode cX12_told 76 = .ok (.ireturn, 1) := by decide +kernel
theorem dX12_told_77 : decode cX12_told 77 = .ok (.aload_n 0, 1) := by decide +kernel
theorem dX12_told_78 : decode cX12_told 78 = .ok (.getfield 115, 3) := by decide +kernel
theorem dX12_told_81 : decode cX12_told 81 = .ok (.ireturn, 1) := by decide +kernel
theorem dX12_told_82 : decode cX12_told 82 = .ok (.aload_n 0, 1) := by decide +kernel
theorem dX12_told_83 : decode cX12_told 83 = .ok (.getfield 118, 3) := by decide +kernel
theorem dX12_told_86 : decode cX12_told 86 = .ok (.ireturn, 1) := by decide +kernel
theorem dX12_told_87 : decode cX12_told 87 = .ok (.aload_n 0, 1) := by decide +kernel
theorem dX12_told_88 : decode cX12_told 88 = .ok (.getfield 228, 3) := by decide +kernel
theorem dX12_told_91 : decode cX12_told 91 = .ok (.ireturn, 1) := by decide +kernel
theorem dX12_told_92 : decode cX12_told 92 = .ok (.bipush (-2), 2) := by decide +kernel
theorem dX12_told_94 : decode cX12_told 94 = .ok (.ireturn, 1) := by decide +kernel
end
section
theorem dX2_init_0 : decode cX2_init 0 = .ok (.aload_n 0, 1) := by decide +kernel
theorem dX2_init_1 : decode cX2_init 1 = .ok (.invokespecial 1, 3) := by decide +kernel
theorem dX2_init_4 : decode cX2_init 4 = .ok (.aload_n 0, 1) := by decide +kernel
theorem dX2_init_5 : decode cX2_init 5 = .ok (.new 7, 3) := by decide +kernel
theorem dX2_init_8 : decode cX2_init 8 = .ok (.dup, 1) := by decide +kernel
theorem dX2_init_9 : decode cX2_init 9 = .ok (.invokespecial 9, 3) := by decide +kernel
theorem dX2_init_12 : decode cX2_init 12 = .ok (.putfield 10, 3) := by decide +kernel
theorem dX2_init_15 : decode cX2_init 15 = .ok (.aload_n 0, 1) := by decide +kernel
theorem dX2_init_16 : decode cX2_init 16 = .ok (.new 7, 3) := by decide +kernel
theorem dX2_init_19 : decode cX2_init 19 = .ok (.dup, 1) := by decide +kernel
theorem dX2_init_20 : decode cX2_init 20 = .ok (.invokespecial 9, 3) := by decide +kernel
theorem dX2_init_23 : decode cX2_init 23 = .ok (.putfield 16, 3) := by decide +kernel
theorem dX2_init_26 : decode cX2_init 26 = .ok (.return_, 1) := by decide +kernel
theorem dX2_setWholes_0 : decode cX2_setWholes 0 = .ok (.aload_n 0, 1) := by decide +kernel
theorem dX2_setWholes_1 : decode cX2_setWholes 1 = .ok (.getfield 10, 3) := by decide +kernel
theorem dX2_setWholes_4 : decode cX2_setWholes 4 = .ok (.aload_n 1, 1) := by decide +kernel
theorem dX2_setWholes_5 : decode cX2_setWholes 5 = .ok (.invokevirtual 19, 3) := by decide +kernel
theorem dX2_setWholes_8 : decode cX2_setWholes 8 = .ok (.aload_n 0, 1) := by decide +kernel
theorem dX2_setWholes_9 : decode cX2_setWholes 9 = .ok (.getfield 16, 3) := by decide +kernel
theorem dX2_setWholes_12 : decode cX2_setWholes 12 = .ok (.aload_n 2, 1) := by decide +kernel
theorem dX2_setWholes_13 : decode cX2_setWholes 13 = .ok (.invokevirtual 19, 3) := by decide +kernel
theorem dX2_setWholes_16 : decode cX2_setWholes 16 = .ok (.aload_n 0, 1) := by decide +kernel
theorem dX2_setWholes_17 : decode cX2_setWholes 17 = .ok (.invokevirtual 23, 3) := by decide +kernel
theorem dX2_setWholes_20 : decode cX2_setWholes 20 = .ok (.return_, 1) := by decide +kernel
theorem dX2_setLongs_0 : decode cX2_setLongs 0 = .ok (.aload_n 0, 1) := by decide +kernel
theorem dX2_setLongs_1 : decode cX2_setLongs 1 = .ok (.getfield 10, 3) := by decide +kernel
theorem dX2_setLongs_4 : decode cX2_setLongs 4 = .ok (.lload_n 1, 1) := by decide +kernel
theorem dX2_setLongs_5 : decode cX2_setLongs 5 = .ok (.invokevirtual 26, 3) := by decide +kernel
theorem dX2_setLongs_8 : decode cX2_setLongs 8 = .ok (.aload_n 0, 1) := by decide +kernel
theorem dX2_setLongs_9 : decode cX2_setLongs 9 = .ok (.getfield 16, 3) := by decide +kernel
theorem dX2_setLongs_12 : decode cX2_setLongs 12 = .ok (.lload_n 3, 1) := by decide +kernel
theorem dX2_setLongs_13 : decode cX2_setLongs 13 = .ok (.invokevirtual 26, 3) := by decide +kernel
theorem dX2_setLongs_16 : decode cX2_setLongs 16 = .ok (.aload_n 0, 1) := by decide +kernel
theorem dX2_setLongs_17 : decode cX2_setLongs 17 = .ok (.invokevirtual 23, 3) := by decide +kernel
theorem dX2_setLongs_20 : decode cX2_setLongs 20 = .ok (.return_, 1) := by decide +kernel
theorem dX2_copy_0 : decode cX2_copy 0 = .ok (.aload_n 0, 1) := by decide +kernel
theorem dX2_copy_1 : decode cX2_copy 1 = .ok (.getfield 10, 3) := by decide +kernel
theorem dX2_copy_4 : decode cX2_copy 4 = .ok (.aload_n 1, 1) := by decide +kernel
theorem dX2_copy_5 : decode cX2_copy 5 = .ok (.getfield 10, 3) := by decide +kernel
theorem dX2_copy_8 : decode cX2_copy 8 = .ok (.invokevirtual 19, 3) := by decide +kernel
theorem dX2_copy_11 : decode cX2_copy 11 = .ok (.aload_n 0, 1) := by decide +kernel
theorem dX2_copy_12 : decode cX2_copy 12 = .ok (.getfield 16, 3) := by decide +kernel
theorem dX2_copy_15 : decode cX2_copy 15 = .ok (.aload_n 1, 1) := by decide +kernel
theorem dX2_copy_16 : decode cX2_copy 16 = .ok (.getfield 16, 3) := by decide +kernel
theorem dX2_copy_19 : decode cX2_copy 19 = .ok (.invokevirtual 19, 3) := by decide +kernel
theorem dX2_copy_22 : decode cX2_copy 22 = .ok (.return_, 1) := by decide +kernel
theorem dX2_part_0 : decode cX2_part 0 = .ok (.iload_n 1, 1) := by decide +kernel
theorem dX2_part_1 : decode cX2_part 1 = .ok (.ifCond .ne 10, 3) := by decide +kernel
theorem dX2_part_4 : decode cX2_part 4 = .ok (.aload_n 0, 1) := by decide +kernel
theorem dX2_part_5 : decode cX2_part 5 = .ok (.getfield 10, 3) := by decide +kernel
theorem dX2_part_8 : decode cX2_part 8 = .ok (.goto 7, 3) := by decide +kernel
theorem dX2_part_11 : decode cX2_part 11 = .ok (.aload_n 0, 1) := by decide +kernel
theorem dX2_part_12 : decode cX2_part 12 = .ok (.getfield 16, 3) := by decide +kernel
theorem dX2_part_15 : decode cX2_part 15 = .ok (.areturn, 1) := by decide +kernel
theorem dX2_countWords_0 : decode cX2_countWords 0 = .ok (.aload_n 0, 1) := by decide +kernel
theorem dX2_countWords_1 : decode cX2_countWords 1 = .ok (.getfield 16, 3) := by decide +kernel
theorem dX2_countWords_4 : decode cX2_countWords 4 = .ok (.invokevirtual 30, 3) := by decide +kernel
theorem dX2_countWords_7 : decode cX2_countWords 7 = .ok (.aload_n 0, 1) := by decide +kernel
theorem dX2_countWords_8 : decode cX2_countWords 8 = .ok (.getfield 10, 3) := by decide +kernel
theorem dX2_countWords_11 : decode cX2_countWords 11 = .ok (.invokevirtual 30, 3) := by decide +kernel
theorem dX2_countWords_14 : decode cX2_countWords 14 = .ok (.iadd, 1) := by decide +kernel
theorem dX2_countWords_15 : decode cX2_countWords 15 = .ok (.ireturn, 1) := by decide +kernel
theorem dX2_wordInTurn_0 : decode cX2_wordInTurn 0 = .ok (.aload_n 0, 1) := by decide +kernel
theorem dX2_wordInTurn_1 : decode cX2_wordInTurn 1 = .ok (.getfield 16, 3) := by decide +kernel
theorem dX2_wordInTurn_4 : decode cX2_wordInTurn 4 = .ok (.invokevirtual 30, 3) := by decide +kernel
theorem dX2_wordInTurn_7 : decode cX2_wordInTurn 7 = .ok (.istore_n 2, 1) := by decide +kernel
theorem dX2_wordInTurn_8 : decode cX2_wordInTurn 8 = .ok (.iload_n 1, 1) := by decide +kernel
theorem dX2_wordInTurn_9 : decode cX2_wordInTurn 9 = .ok (.iload_n 2, 1) := by decide +kernel
theorem dX2_wordInTurn_10 : decode cX2_wordInTurn 10 = .ok (.if_icmp .ge 14, 3) := by decide +kernel
theorem dX2_wordInTurn_13 : decode cX2_wordInTurn 13 = .ok (.aload_n 0, 1) := by decide +kernel
theorem dX2_wordInTurn_14 : decode cX2_wordInTurn 14 = .ok (.getfield 16, 3) := by decide +kernel
theorem dX2_wordInTurn_17 : decode cX2_wordInTurn 17 = .ok (.iload_n 1, 1) := by decide +kernel
theorem dX2_wordInTurn_18 : decode cX2_wordInTurn 18 = .ok (.invokevirtual 34, 3) := by decide +kernel
theorem dX2_wordInTurn_21 : decode cX2_wordInTurn 21 = .ok (.goto 13, 3) := by decide +kernel
theorem dX2_wordInTurn_24 : decode cX2_wordInTurn 24 = .ok (.aload_n 0, 1) := by decide +kernel
theorem dX2_wordInTurn_25 : decode cX2_wordInTurn 25 = .ok (.getfield 10, 3) := by decide +kernel
theorem dX2_wordInTurn_28 : decode cX2_wordInTurn 28 = .ok (.iload_n 1, 1) := by decide +kernel
theorem dX2_wordInTurn_29 : decode cX2_wordInTurn 29 = .ok (.iload_n 2, 1) := by decide +kernel
theorem dX2_wordInTurn_30 : decode cX2_wordInTurn 30 = .ok (.isub, 1) := by decide +kernel
theorem dX2_wordInTurn_31 : decode cX2_wordInTurn 31 = .ok (.invokevirtual 34, 3) := by decide +kernel
theorem dX2_wordInTurn_34 : decode cX2_wordInTurn 34 = .ok (.ireturn, 1) := by decide +kernel
theorem dX2_reduce_0 : decode cX2_reduce 0 = .ok (.iconst 0, 1) := by decide +kernel
theorem dX2_reduce_1 : decode cX2_reduce 1 = .ok (.istore_n 1, 1) := by decide +kernel
theorem dX2_reduce_2 : decode cX2_reduce 2 = .ok (.iload_n 1, 1) := by decide +kernel
theorem dX2_reduce_3 : decode cX2_reduce 3 = .ok (.getstatic 38, 3) := by decide +kernel
theorem dX2_reduce_6 : decode cX2_reduce 6 = .ok (.arraylength, 1) := by decide +kernel
theorem dX2_reduce_7 : decode cX2_reduce 7 = .ok (.if_icmp .ge 54, 3) := by decide +kernel
theorem dX2_reduce_10 : decode cX2_reduce 10 = .ok (.getstatic 38, 3) := by decide +kernel
theorem dX2_reduce_13 : decode cX2_reduce 13 = .ok (.iload_n 1, 1) := by decide +kernel
theorem dX2_reduce_14 : decode cX2_reduce 14 = .ok (.iaload, 1) := by decide +kernel
theorem dX2_reduce_15 : decode cX2_reduce 15 = .ok (.istore_n 2, 1) := by decide +kernel
theorem dX2_reduce_16 : decode cX2_reduce 16 = .ok (.iconst 0, 1) := by decide +kernel
theorem dX2_reduce_17 : decode cX2_reduce 17 = .ok (.istore_n 3, 1) := by decide +kernel
theorem dX2_reduce_18 : decode cX2_reduce 18 = .ok (.iload_n 3, 1) := by decide +kernel
theorem dX2_reduce_19 : decode cX2_reduce 19 = .ok (.sipush 384, 3) := by decide +kernel
theorem dX2_reduce_22 : decode cX2_reduce 22 = .ok (.if_icmp .ge 33, 3) := by decide +kernel
theorem dX2_reduce_25 : decode cX2_reduce 25 = .ok (.aload_n 0, 1) := by decide +kernel
theorem dX2_reduce_26 : decode cX2_reduce 26 = .ok (.iload_n 2, 1) := by decide +kernel
theorem dX2_reduce_27 : decode cX2_reduce 27 = .ok (.invokevirtual 42, 3) := by decide +kernel
theorem dX2_reduce_30 : decode cX2_reduce 30 = .ok (.ifCond .eq 25, 3) := by decide +kernel
theorem dX2_reduce_33 : decode cX2_reduce 33 = .ok (.aload_n 0, 1) := by decide +kernel
theorem dX2_reduce_34 : decode cX2_reduce 34 = .ok (.getfield 10, 3) := by decide +kernel
theorem dX2_reduce_37 : decode cX2_reduce 37 = .ok (.iload_n 2, 1) := by decide +kernel
theorem dX2_reduce_38 : decode cX2_reduce 38 = .ok (.invokevirtual 46, 3) := by decide +kernel
theorem dX2_reduce_41 : decode cX2_reduce 41 = .ok (.aload_n 0, 1) := by decide +kernel
theorem dX2_reduce_42 : decode cX2_reduce 42 = .ok (.getfield 16, 3) := by decide +kernel
theorem dX2_reduce_45 : decode cX2_reduce 45 = .ok (.iload_n 2, 1) := by decide +kernel
theorem dX2_reduce_46 : decode cX2_reduce 46 = .ok (.invokevirtual 46, 3) := by decide +kernel
theorem dX2_reduce_49 : decode cX2_reduce 49 = .ok (.iinc 3 1, 3) := by decide +kernel
theorem dX2_reduce_52 : decode cX2_reduce 52 = .ok (.goto (-34), 3) := by decide +kernel
theorem dX2_reduce_55 : decode cX2_reduce 55 = .ok (.iinc 1 1, 3) := by decide +kernel
theorem dX2_reduce_58 : decode cX2_reduce 58 = .ok (.goto (-56), 3) := by decide +kernel
theorem dX2_reduce_61 : decode cX2_reduce 61 = .ok (.return_, 1) := by decide +kernel
theorem dX2_isCommon_0 : decode cX2_isCommon 0 = .ok (.aload_n 0, 1) := by decide +kernel
theorem dX2_isCommon_1 : decode cX2_isCommon 1 = .ok (.getfield 10, 3) := by decide +kernel
theorem dX2_isCommon_4 : decode cX2_isCommon 4 = .ok (.iload_n 1, 1) := by decide +kernel
theorem dX2_isCommon_5 : decode cX2_isCommon 5 = .ok (.invokevirtual 50, 3) := by decide +kernel
theorem dX2_isCommon_8 : decode cX2_isCommon 8 = .ok (.ifCond .ne 18, 3) := by decide +kernel
theorem dX2_isCommon_11 : decode cX2_isCommon 11 = .ok (.aload_n 0, 1) := by decide +kernel
theorem dX2_isCommon_12 : decode cX2_isCommon 12 = .ok (.getfield 16, 3) := by decide +kernel
theorem dX2_isCommon_15 : decode cX2_isCommon 15 = .ok (.iload_n 1, 1) := by decide +kernel
theorem dX2_isCommon_16 : decode cX2_isCommon 16 = .ok (.invokevirtual 50, 3) := by decide +kernel
theorem dX2_isCommon_19 : decode cX2_isCommon 19 = .ok (.ifCond .ne 7, 3) := by decide +kernel
theorem dX2_isCommon_22 : decode cX2_isCommon 22 = .ok (.iconst 1, 1) := by decide +kernel
theorem dX2_isCommon_23 : decode cX2_isCommon 23 = .ok (.goto 4, 3) := by decide +kernel
theorem dX2_isCommon_26 : decode cX2_isCommon 26 = .ok (.iconst 0, 1) := by decide +kernel
theorem dX2_isCommon_27 : decode cX2_isCommon 27 = .ok (.ireturn, 1) := by decide +kernel
end
section
theorem dX3_init_0 : decode cX3_init 0 = .ok (.aload_n 0, 1) := by decide +kernel
theorem dX3_init_1 : decode cX3_init 1 = .ok (.invokespecial 3, 3) := by decide +kernel
theorem dX3_init_4 : decode cX3_init 4 = .ok (.aload_n 0, 1) := by decide +kernel
theorem dX3_init_5 : decode cX3_init 5 = .ok (.bipush 25, 2) := by decide +kernel
theorem dX3_init_7 : decode cX3_init 7 = .ok (.newarray .int, 2) := by decide +kernel
theorem dX3_init_9 : decode cX3_init 9 = .ok (.putfield 9, 3) := by decide +kernel
theorem dX3_init_12 : decode cX3_init 12 = .ok (.aload_n 0, 1) := by decide +kernel
theorem dX3_init_13 : decode cX3_init 13 = .ok (.iconst 1, 1) := by decide +kernel
theorem dX3_init_14 : decode cX3_init 14 = .ok (.putfield 15, 3) := by decide +kernel
theorem dX3_init_17 : decode cX3_init 17 = .ok (.aload_n 0, 1) := by decide +kernel
theorem dX3_init_18 : decode cX3_init 18 = .ok (.iconst 1, 1) := by decide +kernel
theorem dX3_init_19 : decode cX3_init 19 = .ok (.putfield 19, 3) := by decide +kernel
theorem dX3_init_22 : decode cX3_init 22 = .ok (.return_, 1) := by decide +kernel
theorem dX3_renew_0 : decode cX3_renew 0 = .ok (.aload_n 0, 1) := by decide +kernel
theorem dX3_renew_1 : decode cX3_renew 1 = .ok (.iload_n 1, 1) := by decide +kernel
theorem dX3_renew_2 : decode cX3_renew 2 = .ok (.putfield 15, 3) := by decide +kernel
theorem dX3_renew_5 : decode cX3_renew 5 = .ok (.aload_n 0, 1) := by decide +kernel
theorem dX3_renew_6 : decode cX3_renew 6 = .ok (.iload_n 2, 1) := by decide +kernel
theorem dX3_renew_7 : decode cX3_renew 7 = .ok (.putfield 19, 3) := by decide +kernel
theorem dX3_renew_10 : decode cX3_renew 10 = .ok (.iconst 0, 1) := by decide +kernel
theorem dX3_renew_11 : decode cX3_renew 11 = .ok (.istore_n 3, 1) := by decide +kernel
theorem dX3_renew_12 : decode cX3_renew 12 = .ok (.iload_n 3, 1) := by decide +kernel
theorem dX3_renew_13 : decode cX3_renew 13 = .ok (.aload_n 0, 1) := by decide +kernel
theorem dX3_renew_14 : decode cX3_renew 14 = .ok (.getfield 9, 3) := by decide +kernel
theorem dX3_renew_17 : decode cX3_renew 17 = .ok (.arraylength, 1) := by decide +kernel
theorem dX3_renew_18 : decode cX3_renew 18 = .ok (.if_icmp .ge 16, 3) := by decide +kernel
theorem dX3_renew_21 : decode cX3_renew 21 = .ok (.aload_n 0, 1) := by decide +kernel
theorem dX3_renew_22 : decode cX3_renew 22 = .ok (.getfield 9, 3) := by decide +kernel
theorem dX3_renew_25 : decode cX3_renew 25 = .ok (.iload_n 3, 1) := by decide +kernel
theorem dX3_renew_26 : decode cX3_renew 26 = .ok (.iconst 0, 1) := by decide +kernel
theorem dX3_renew_27 : decode cX3_renew 27 = .ok (.iastore, 1) := by decide +kernel
theorem dX3_renew_28 : decode cX3_renew 28 = .ok (.iinc 3 1, 3) := by decide +kernel
theorem dX3_renew_31 : decode cX3_renew 31 = .ok (.goto (-19), 3) := by decide +kernel
theorem dX3_renew_34 : decode cX3_renew 34 = .ok (.return_, 1) := by decide +kernel
theorem dX3_rows_0 : decode cX3_rows 0 = .ok (.aload_n 0, 1) := by decide +kernel
theorem dX3_rows_1 : decode cX3_rows 1 = .ok (.getfield 15, 3) := by decide +kernel
theorem dX3_rows_4 : decode cX3_rows 4 = .ok (.ireturn, 1) := by decide +kernel
theorem dX3_columns_0 : decode cX3_columns 0 = .ok (.aload_n 0, 1) := by decide +kernel
theorem dX3_columns_1 : decode cX3_columns 1 = .ok (.getfield 19, 3) := by decide +kernel
theorem dX3_columns_4 : decode cX3_columns 4 = .ok (.ireturn, 1) := by decide +kernel
theorem dX3_hasRow_0 : decode cX3_hasRow 0 = .ok (.iload_n 1, 1) := by decide +kernel
theorem dX3_hasRow_1 : decode cX3_hasRow 1 = .ok (.ifCond .lt 15, 3) := by decide +kernel
theorem dX3_hasRow_4 : decode cX3_hasRow 4 = .ok (.iload_n 1, 1) := by decide +kernel
theorem dX3_hasRow_5 : decode cX3_hasRow 5 = .ok (.aload_n 0, 1) := by decide +kernel
theorem dX3_hasRow_6 : decode cX3_hasRow 6 = .ok (.getfield 15, 3) := by decide +kernel
theorem dX3_hasRow_9 : decode cX3_hasRow 9 = .ok (.if_icmp .ge 7, 3) := by decide +kernel
theorem dX3_hasRow_12 : decode cX3_hasRow 12 = .ok (.iconst 1, 1) := by decide +kernel
theorem dX3_hasRow_13 : decode cX3_hasRow 13 = .ok (.goto 4, 3) := by decide +kernel
theorem dX3_hasRow_16 : decode cX3_hasRow 16 = .ok (.iconst 0, 1) := by decide +kernel
theorem dX3_hasRow_17 : decode cX3_hasRow 17 = .ok (.ireturn, 1) := by decide +kernel
theorem dX3_hasColumn_0 : decode cX3_hasColumn 0 = .ok (.iload_n 1, 1) := by decide +kernel
theorem dX3_hasColumn_1 : decode cX3_hasColumn 1 = .ok (.ifCond .lt 15, 3) := by decide +kernel
theorem dX3_hasColumn_4 : decode cX3_hasColumn 4 = .ok (.iload_n 1, 1) := by decide +kernel
theorem dX3_hasColumn_5 : decode cX3_hasColumn 5 = .ok (.aload_n 0, 1) := by decide +kernel
theorem dX3_hasColumn_6 : decode cX3_hasColumn 6 = .ok (.getfield 19, 3) := by decide +kernel
theorem dX3_hasColumn_9 : decode cX3_hasColumn 9 = .ok (.if_icmp .ge 7, 3) := by decide +kernel
theorem dX3_hasColumn_12 : decode cX3_hasColumn 12 = .ok (.iconst 1, 1) := by decide +kernel
theorem dX3_hasColumn_13 : decode cX3_hasColumn 13 = .ok (.goto 4, 3) := by decide +kernel
theorem dX3_hasColumn_16 : decode cX3_hasColumn 16 = .ok (.iconst 0, 1) := by decide +kernel
theorem dX3_hasColumn_17 : decode cX3_hasColumn 17 = .ok (.ireturn, 1) := by decide +kernel
theorem dX3_at_0 : decode cX3_at 0 = .ok (.aload_n 0, 1) := by decide +kernel
theorem dX3_at_1 : decode cX3_at 1 = .ok (.iload_n 1, 1) := by decide +kernel
theorem dX3_at_2 : decode cX3_at 2 = .ok (.invokevirtual 22, 3) := by decide +kernel
theorem dX3_at_5 : decode cX3_at 5 = .ok (.ifCond .eq 24, 3) := by decide +kernel
theorem dX3_at_8 : decode cX3_at 8 = .ok (.aload_n 0, 1) := by decide +kernel
theorem dX3_at_9 : decode cX3_at 9 = .ok (.iload_n 2, 1) := by decide +kernel
theorem dX3_at_10 : decode cX3_at 10 = .ok (.invokevirtual 26, 3) := by decide +kernel
theorem dX3_at_13 : decode cX3_at 13 = .ok (.ifCond .eq 16, 3) := by decide +kernel
theorem dX3_at_16 : decode cX3_at 16 = .ok (.aload_n 0, 1) := by decide +kernel
theorem dX3_at_17 : decode cX3_at 17 = .ok (.getfield 9, 3) := by decide +kernel
theorem dX3_at_20 : decode cX3_at 20 = .ok (.iload_n 1, 1) := by decide +kernel
theorem dX3_at_21 : decode cX3_at 21 = .ok (.iconst 5, 1) := by decide +kernel
theorem dX3_at_22 : decode cX3_at 22 = .ok (.imul, 1) := by decide +kernel
theorem dX3_at_23 : decode cX3_at 23 = .ok (.iload_n 2, 1) := by decide +kernel
theorem dX3_at_24 : decode cX3_at 24 = .ok (.iadd, 1) := by decide +kernel
theorem dX3_at_25 : decode cX3_at 25 = .ok (.iaload, 1) := by decide +kernel
theorem dX3_at_26 : decode cX3_at 26 = .ok (.goto 4, 3) := by decide +kernel
theorem dX3_at_29 : decode cX3_at 29 = .ok (.iconst 0, 1) := by decide +kernel
theorem dX3_at_30 : decode cX3_at 30 = .ok (.ireturn, 1) := by decide +kernel
theorem dX3_put_0 : decode cX3_put 0 = .ok (.aload_n 0, 1) := by decide +kernel
theorem dX3_put_1 : decode cX3_put 1 = .ok (.iload_n 1, 1) := by decide +kernel
theorem dX3_put_2 : decode cX3_put 2 = .ok (.invokevirtual 22, 3) := by decide +kernel
theorem dX3_put_5 : decode cX3_put 5 = .ok (.ifCond .eq 22, 3) := by decide +kernel
theorem dX3_put_8 : decode cX3_put 8 = .ok (.aload_n 0, 1) := by decide +kernel
theorem dX3_put_9 : decode cX3_put 9 = .ok (.iload_n 2, 1) := by decide +kernel
theorem dX3_put_10 : decode cX3_put 10 = .ok (.invokevirtual 26, 3) := by decide +kernel
theorem dX3_put_13 : decode cX3_put 13 = .ok (.ifCond .eq 14, 3) := by decide +kernel
theorem dX3_put_16 : decode cX3_put 16 = .ok (.aload_n 0, 1) := by decide +kernel
theorem dX3_put_17 : decode cX3_put 17 = .ok (.getfield 9, 3) := by decide +kernel
theorem dX3_put_20 : decode cX3_put 20 = .ok (.iload_n 1, 1) := by decide +kernel
theorem dX3_put_21 : decode cX3_put 21 = .ok (.iconst 5, 1) := by decide +kernel
theorem dX3_put_22 : decode cX3_put 22 = .ok (.imul, 1) := by decide +kernel
theorem dX3_put_23 : decode cX3_put 23 = .ok (.iload_n 2, 1) := by decide +kernel
theorem dX3_put_24 : decode cX3_put 24 = .ok (.iadd, 1) := by decide +kernel
theorem dX3_put_25 : decode cX3_put 25 = .ok (.iload_n 3, 1) := by decide +kernel
theorem dX3_put_26 : decode cX3_put 26 = .ok (.iastore, 1) := by decide +kernel
theorem dX3_put_27 : decode cX3_put 27 = .ok (.return_, 1) := by decide +kernel
theorem dX3_rowSum_0 : decode cX3_rowSum 0 = .ok (.iconst 0, 1) := by decide +kernel
theorem dX3_rowSum_1 : decode cX3_rowSum 1 = .ok (.istore_n 2, 1) := by decide +kernel
theorem dX3_rowSum_2 : decode cX3_rowSum 2 = .ok (.iconst 0, 1) := by decide +kernel
theorem dX3_rowSum_3 : decode cX3_rowSum 3 = .ok (.istore_n 3, 1) := by decide +kernel
theorem dX3_rowSum_4 : decode cX3_rowSum 4 = .ok (.iload_n 3, 1) := by decide +kernel
theorem dX3_rowSum_5 : decode cX3_rowSum 5 = .ok (.aload_n 0, 1) := by decide +kernel
theorem dX3_rowSum_6 : decode cX3_rowSum 6 = .ok (.getfield 19, 3) := by decide +kernel
theorem dX3_rowSum_9 : decode cX3_rowSum 9 = .ok (.if_icmp .ge 18, 3) := by decide +kernel
theorem dX3_rowSum_12 : decode cX3_rowSum 12 = .ok (.iload_n 2, 1) := by decide +kernel
theorem dX3_rowSum_13 : decode cX3_rowSum 13 = .ok (.aload_n 0, 1) := by decide +kernel
theorem dX3_rowSum_14 : decode cX3_rowSum 14 = .ok (.iload_n 1, 1) := by decide +kernel
theorem dX3_rowSum_15 : decode cX3_rowSum 15 = .ok (.iload_n 3, 1) := by decide +kernel
theorem dX3_rowSum_16 : decode cX3_rowSum 16 = .ok (.invokevirtual 29, 3) := by decide +kernel
theorem dX3_rowSum_19 : decode cX3_rowSum 19 = .ok (.iadd, 1) := by decide +kernel
theorem dX3_rowSum_20 : decode cX3_rowSum 20 = .ok (.istore_n 2, 1) := by decide +kernel
theorem dX3_rowSum_21 : decode cX3_rowSum 21 = .ok (.iinc 3 1, 3) := by decide +kernel
theorem dX3_rowSum_24 : decode cX3_rowSum 24 = .ok (.goto (-20), 3) := by decide +kernel
theorem dX3_rowSum_27 : decode cX3_rowSum 27 = .ok (.iload_n 2, 1) := by decide +kernel
theorem dX3_rowSum_28 : decode cX3_rowSum 28 = .ok (.ireturn, 1) := by decide +kernel
theorem dX3_columnSum_0 : decode cX3_columnSum 0 = .ok (.iconst 0, 1) := by decide +kernel
theorem dX3_columnSum_1 : decode cX3_columnSum 1 = .ok (.istore_n 2, 1) := by decide +kernel
theorem dX3_columnSum_2 : decode cX3_columnSum 2 = .ok (.iconst 0, 1) := by decide +kernel
theorem dX3_columnSum_3 : decode cX3_columnSum 3 = .ok (.istore_n 3, 1) := by decide +kernel
theorem dX3_columnSum_4 : decode cX3_columnSum 4 = .ok (.iload_n 3, 1) := by decide +kernel
theorem dX3_columnSum_5 : decode cX3_columnSum 5 = .ok (.aload_n 0, 1) := by decide +kernel
theorem dX3_columnSum_6 : decode cX3_columnSum 6 = .ok (.getfield 15, 3) := by decide +kernel
theorem dX3_columnSum_9 : decode cX3_columnSum 9 = .ok (.if_icmp .ge 18, 3) := by decide +kernel
theorem dX3_columnSum_12 : decode cX3_columnSum 12 = .ok (.iload_n 2, 1) := by decide +kernel
theorem dX3_columnSum_13 : decode cX3_columnSum 13 = .ok (.aload_n 0, 1) := by decide +kernel
theorem dX3_columnSum_14 : decode cX3_columnSum 14 = .ok (.iload_n 3, 1) := by decide +kernel
theorem dX3_columnSum_15 : decode cX3_columnSum 15 = .ok (.iload_n 1, 1) := by decide +kernel
theorem dX3_columnSum_16 : decode cX3_columnSum 16 = .ok (.invokevirtual 29, 3) := by decide +kernel
theorem dX3_columnSum_19 : decode cX3_columnSum 19 = .ok (.iadd, 1) := by decide +kernel
theorem dX3_columnSum_20 : decode cX3_columnSum 20 = .ok (.istore_n 2, 1) := by decide +kernel
theorem dX3_columnSum_21 : decode cX3_columnSum 21 = .ok (.iinc 3 1, 3) := by decide +kernel
theorem dX3_columnSum_24 : decode cX3_columnSum 24 = .ok (.goto (-20), 3) := by decide +kernel
theorem dX3_columnSum_27 : decode cX3_columnSum 27 = .ok (.iload_n 2, 1) := by decide +kernel
theorem dX3_columnSum_28 : decode cX3_columnSum 28 = .ok (.ireturn, 1) := by decide +kernel
theorem dX3_inAll_0 : decode cX3_inAll 0 = .ok (.iconst 0, 1) := by decide +kernel
theorem dX3_inAll_1 : decode cX3_inAll 1 = .ok (.istore_n 1, 1) := by decide +kernel
theorem dX3_inAll_2 : decode cX3_inAll 2 = .ok (.iconst 0, 1) := by decide +kernel
theorem dX3_inAll_3 : decode cX3_inAll 3 = .ok (.istore_n 2, 1) := by decide +kernel
theorem dX3_inAll_4 : decode cX3_inAll 4 = .ok (.iload_n 2, 1) := by decide +kernel
theorem dX3_inAll_5 : decode cX3_inAll 5 = .ok (.aload_n 0, 1) := by decide +kernel
theorem dX3_inAll_6 : decode cX3_inAll 6 = .ok (.getfield 9, 3) := by decide +kernel
theorem dX3_inAll_9 : decode cX3_inAll 9 = .ok (.arraylength, 1) := by decide +kernel
theorem dX3_inAll_10 : decode cX3_inAll 10 = .ok (.if_icmp .ge 18, 3) := by decide +kernel
theorem dX3_inAll_13 : decode cX3_inAll 13 = .ok (.iload_n 1, 1) := by decide +kernel
theorem dX3_inAll_14 : decode cX3_inAll 14 = .ok (.aload_n 0, 1) := by decide +kernel
theorem dX3_inAll_15 : decode cX3_inAll 15 = .ok (.getfield 9, 3) := by decide +kernel
theorem dX3_inAll_18 : decode cX3_inAll 18 = .ok (.iload_n 2, 1) := by decide +kernel
theorem dX3_inAll_19 : decode cX3_inAll 19 = .ok (.iaload, 1) := by decide +kernel
theorem dX3_inAll_20 : decode cX3_inAll 20 = .ok (.iadd, 1) := by decide +kernel
theorem dX3_inAll_21 : decode cX3_inAll 21 = .ok (.istore_n 1, 1) := by decide +kernel
theorem dX3_inAll_22 : decode cX3_inAll 22 = .ok (.iinc 2 1, 3) := by decide +kernel
theorem dX3_inAll_25 : decode cX3_inAll 25 = .ok (.goto (-21), 3) := by decide +kernel
theorem dX3_inAll_28 : decode cX3_inAll 28 = .ok (.iload_n 1, 1) := by decide +kernel
theorem dX3_inAll_29 : decode cX3_inAll 29 = .ok (.ireturn, 1) := by decide +kernel
end
section
theorem dX4_init_0 : decode cX4_init 0 = .ok (.aload_n 0, 1) := by decide +kernel
theorem dX4_init_1 : decode cX4_init 1 = .ok (.invokespecial 1, 3) := by decide +kernel
theorem dX4_init_4 : decode cX4_init 4 = .ok (.aload_n 0, 1) := by decide +kernel
theorem dX4_init_5 : decode cX4_init 5 = .ok (.bipush 64, 2) := by decide +kernel
theorem dX4_init_7 : decode cX4_init 7 = .ok (.newarray .int, 2) := by decide +kernel
theorem dX4_init_9 : decode cX4_init 9 = .ok (.putfield 7, 3) := by decide +kernel
theorem dX4_init_12 : decode cX4_init 12 = .ok (.aload_n 0, 1) := by decide +kernel
theorem dX4_init_13 : decode cX4_init 13 = .ok (.bipush 64, 2) := by decide +kernel
theorem dX4_init_15 : decode cX4_init 15 = .ok (.newarray .int, 2) := by decide +kernel
theorem dX4_init_17 : decode cX4_init 17 = .ok (.putfield 13, 3) := by decide +kernel
theorem dX4_init_20 : decode cX4_init 20 = .ok (.return_, 1) := by decide +kernel
theorem dX4_begin_0 : decode cX4_begin 0 = .ok (.aload_n 0, 1) := by decide +kernel
theorem dX4_begin_1 : decode cX4_begin 1 = .ok (.getfield 7, 3) := by decide +kernel
theorem dX4_begin_4 : decode cX4_begin 4 = .ok (.iconst 0, 1) := by decide +kernel
theorem dX4_begin_5 : decode cX4_begin 5 = .ok (.iconst 0, 1) := by decide +kernel
theorem dX4_begin_6 : decode cX4_begin 6 = .ok (.iastore, 1) := by decide +kernel
theorem dX4_begin_7 : decode cX4_begin 7 = .ok (.aload_n 0, 1) := by decide +kernel
theorem dX4_begin_8 : decode cX4_begin 8 = .ok (.getfield 13, 3) := by decide +kernel
theorem dX4_begin_11 : decode cX4_begin 11 = .ok (.iconst 0, 1) := by decide +kernel
theorem dX4_begin_12 : decode cX4_begin 12 = .ok (.iconst 1, 1) := by decide +kernel
theorem dX4_begin_13 : decode cX4_begin 13 = .ok (.iastore, 1) := by decide +kernel
theorem dX4_begin_14 : decode cX4_begin 14 = .ok (.aload_n 0, 1) := by decide +kernel
theorem dX4_begin_15 : decode cX4_begin 15 = .ok (.iconst 1, 1) := by decide +kernel
theorem dX4_begin_16 : decode cX4_begin 16 = .ok (.putfield 16, 3) := by decide +kernel
theorem dX4_begin_19 : decode cX4_begin 19 = .ok (.return_, 1) := by decide +kernel
theorem dX4_take_0 : decode cX4_take 0 = .ok (.iconst 2, 1) := by decide +kernel
theorem dX4_take_1 : decode cX4_take 1 = .ok (.aload_n 0, 1) := by decide +kernel
theorem dX4_take_2 : decode cX4_take 2 = .ok (.getfield 16, 3) := by decide +kernel
theorem dX4_take_5 : decode cX4_take 5 = .ok (.imul, 1) := by decide +kernel
theorem dX4_take_6 : decode cX4_take 6 = .ok (.istore_n 2, 1) := by decide +kernel
theorem dX4_take_7 : decode cX4_take 7 = .ok (.iload_n 2, 1) := by decide +kernel
theorem dX4_take_8 : decode cX4_take 8 = .ok (.ldc 20, 2) := by decide +kernel
theorem dX4_take_10 : decode cX4_take 10 = .ok (.if_icmp .gt 7, 3) := by decide +kernel
theorem dX4_take_13 : decode cX4_take 13 = .ok (.iload_n 1, 1) := by decide +kernel
theorem dX4_take_14 : decode cX4_take 14 = .ok (.ifCond .gt 4, 3) := by decide +kernel
theorem dX4_take_17 : decode cX4_take 17 = .ok (.return_, 1) := by decide +kernel
theorem dX4_take_18 : decode cX4_take 18 = .ok (.aload_n 0, 1) := by decide +kernel
theorem dX4_take_19 : decode cX4_take 19 = .ok (.iload_n 2, 1) := by decide +kernel
theorem dX4_take_20 : decode cX4_take 20 = .ok (.invokevirtual 21, 3) := by decide +kernel
theorem dX4_take_23 : decode cX4_take 23 = .ok (.aload_n 0, 1) := by decide +kernel
theorem dX4_take_24 : decode cX4_take 24 = .ok (.getfield 16, 3) := by decide +kernel
theorem dX4_take_27 : decode cX4_take 27 = .ok (.iconst 1, 1) := by decide +kernel
theorem dX4_take_28 : decode cX4_take 28 = .ok (.isub, 1) := by decide +kernel
theorem dX4_take_29 : decode cX4_take 29 = .ok (.istore_n 3, 1) := by decide +kernel
theorem dX4_take_30 : decode cX4_take 30 = .ok (.aload_n 0, 1) := by decide +kernel
theorem dX4_take_31 : decode cX4_take 31 = .ok (.getfield 16, 3) := by decide +kernel
theorem dX4_take_34 : decode cX4_take 34 = .ok (.iconst 1, 1) := by decide +kernel
theorem dX4_take_35 : decode cX4_take 35 = .ok (.isub, 1) := by decide +kernel
theorem dX4_take_36 : decode cX4_take 36 = .ok (.istore 4, 2) := by decide +kernel
theorem dX4_take_38 : decode cX4_take 38 = .ok (.iload_n 2, 1) := by decide +kernel
theorem dX4_take_39 : decode cX4_take 39 = .ok (.istore 5, 2) := by decide +kernel
theorem dX4_take_41 : decode cX4_take 41 = .ok (.iload_n 3, 1) := by decide +kernel
theorem dX4_take_42 : decode cX4_take 42 = .ok (.ifCond .lt 152, 3) := by decide +kernel
theorem dX4_take_45 : decode cX4_take 45 = .ok (.iload 4, 2) := by decide +kernel
theorem dX4_take_47 : decode cX4_take 47 = .ok (.ifCond .lt 25, 3) := by decide +kernel
theorem dX4_take_50 : decode cX4_take 50 = .ok (.aload_n 0, 1) := by decide +kernel
theorem dX4_take_51 : decode cX4_take 51 = .ok (.getfield 7, 3) := by decide +kernel
theorem dX4_take_54 : decode cX4_take 54 = .ok (.iload 4, 2) := by decide +kernel
theorem dX4_take_56 : decode cX4_take 56 = .ok (.iaload, 1) := by decide +kernel
theorem dX4_take_57 : decode cX4_take 57 = .ok (.iload_n 1, 1) := by decide +kernel
theorem dX4_take_58 : decode cX4_take 58 = .ok (.iadd, 1) := by decide +kernel
theorem dX4_take_59 : decode cX4_take 59 = .ok (.aload_n 0, 1) := by decide +kernel
theorem dX4_take_60 : decode cX4_take 60 = .ok (.getfield 7, 3) := by decide +kernel
theorem dX4_take_63 : decode cX4_take 63 = .ok (.iload_n 3, 1) := by decide +kernel
theorem dX4_take_64 : decode cX4_take 64 = .ok (.iaload, 1) := by decide +kernel
theorem dX4_take_65 : decode cX4_take 65 = .ok (.if_icmp .lt 7, 3) := by decide +kernel
theorem dX4_take_68 : decode cX4_take 68 = .ok (.iconst 1, 1) := by decide +kernel
theorem dX4_take_69 : decode cX4_take 69 = .ok (.goto 4, 3) := by decide +kernel
theorem dX4_take_72 : decode cX4_take 72 = .ok (.iconst 0, 1) := by decide +kernel
theorem dX4_take_73 : decode cX4_take 73 = .ok (.istore 6, 2) := by decide +kernel
theorem dX4_take_75 : decode cX4_take 75 = .ok (.iload 6, 2) := by decide +kernel
theorem dX4_take_77 : decode cX4_take 77 = .ok (.ifCond .eq 8, 3) := by decide +kernel
theorem dX4_take_80 : decode cX4_take 80 = .ok (.iload 4, 2) := by decide +kernel
theorem dX4_take_82 : decode cX4_take 82 = .ok (.goto 4, 3) := by decide +kernel
theorem dX4_take_85 : decode cX4_take 85 = .ok (.iload_n 3, 1) := by decide +kernel
theorem dX4_take_86 : decode cX4_take 86 = .ok (.istore 7, 2) := by decide +kernel
theorem dX4_take_88 : decode cX4_take 88 = .ok (.iload 6, 2) := by decide +kernel
theorem dX4_take_90 : decode cX4_take 90 = .ok (.ifCond .eq 15, 3) := by decide +kernel
theorem dX4_take_93 : decode cX4_take 93 = .ok (.aload_n 0, 1) := by decide +kernel
theorem dX4_take_94 : decode cX4_take 94 = .ok (.getfield 7, 3) := by decide +kernel
theorem dX4_take_97 : decode cX4_take 97 = .ok (.iload 7, 2) := by decide +kernel
theorem dX4_take_99 : decode cX4_take 99 = .ok (.iaload, 1) := by decide +kernel
theorem dX4_take_100 : decode cX4_take 100 = .ok (.iload_n 1, 1) := by decide +kernel
theorem dX4_take_101 : decode cX4_take 101 = .ok (.iadd, 1) := by decide +kernel
theorem dX4_take_102 : decode cX4_take 102 = .ok (.goto 10, 3) := by decide +kernel
theorem dX4_take_105 : decode cX4_take 105 = .ok (.aload_n 0, 1) := by decide +kernel
theorem dX4_take_106 : decode cX4_take 106 = .ok (.getfield 7, 3) := by decide +kernel
theorem dX4_take_109 : decode cX4_take 109 = .ok (.iload 7, 2) := by decide +kernel
theorem dX4_take_111 : decode cX4_take 111 = .ok (.iaload, 1) := by decide +kernel
theorem dX4_take_112 : decode cX4_take 112 = .ok (.istore 8, 2) := by decide +kernel
theorem dX4_take_114 : decode cX4_take 114 = .ok (.aload_n 0, 1) := by decide +kernel
theorem dX4_take_115 : decode cX4_take 115 = .ok (.getfield 13, 3) := by decide +kernel
theorem dX4_take_118 : decode cX4_take 118 = .ok (.iload 7, 2) := by decide +kernel
theorem dX4_take_120 : decode cX4_take 120 = .ok (.iaload, 1) := by decide +kernel
theorem dX4_take_121 : decode cX4_take 121 = .ok (.istore 9, 2) := by decide +kernel
theorem dX4_take_123 : decode cX4_take 123 = .ok (.iload 6, 2) := by decide +kernel
theorem dX4_take_125 : decode cX4_take 125 = .ok (.ifCond .eq 9, 3) := by decide +kernel
theorem dX4_take_128 : decode cX4_take 128 = .ok (.iinc 4 (-1), 3) := by decide +kernel
theorem dX4_take_131 : decode cX4_take 131 = .ok (.goto 6, 3) := by decide +kernel
theorem dX4_take_134 : decode cX4_take 134 = .ok (.iinc 3 (-1), 3) := by decide +kernel
theorem dX4_take_137 : decode cX4_take 137 = .ok (.iload 5, 2) := by decide +kernel
theorem dX4_take_139 : decode cX4_take 139 = .ok (.iload_n 2, 1) := by decide +kernel
theorem dX4_take_140 : decode cX4_take 140 = .ok (.if_icmp .ge 30, 3) := by decide +kernel
theorem dX4_take_143 : decode cX4_take 143 = .ok (.aload_n 0, 1) := by decide +kernel
theorem dX4_take_144 : decode cX4_take 144 = .ok (.getfield 7, 3) := by decide +kernel
theorem dX4_take_147 : decode cX4_take 147 = .ok (.iload 5, 2) := by decide +kernel
theorem dX4_take_149 : decode cX4_take 149 = .ok (.iaload, 1) := by decide +kernel
theorem dX4_take_150 : decode cX4_take 150 = .ok (.iload 8, 2) := by decide +kernel
theorem dX4_take_152 : decode cX4_take 152 = .ok (.if_icmp .ne 18, 3) := by decide +kernel
theorem dX4_take_155 : decode cX4_take 155 = .ok (.aload_n 0, 1) := by decide +kernel
theorem dX4_take_156 : decode cX4_take 156 = .ok (.getfield 13, 3) := by decide +kernel
theorem dX4_take_159 : decode cX4_take 159 = .ok (.iload 5, 2) := by decide +kernel
theorem dX4_take_161 : decode cX4_take 161 = .ok (.dup2, 1) := by decide +kernel
theorem dX4_take_162 : decode cX4_take 162 = .ok (.iaload, 1) := by decide +kernel
theorem dX4_take_163 : decode cX4_take 163 = .ok (.iload 9, 2) := by decide +kernel
theorem dX4_take_165 : decode cX4_take 165 = .ok (.iadd, 1) := by decide +kernel
theorem dX4_take_166 : decode cX4_take 166 = .ok (.iastore, 1) := by decide +kernel
theorem dX4_take_167 : decode cX4_take 167 = .ok (.goto 24, 3) := by decide +kernel
theorem dX4_take_170 : decode cX4_take 170 = .ok (.iinc 5 (-1), 3) := by decide +kernel
theorem dX4_take_173 : decode cX4_take 173 = .ok (.aload_n 0, 1) := by decide +kernel
theorem dX4_take_174 : decode cX4_take 174 = .ok (.getfield 7, 3) := by decide +kernel
theorem dX4_take_177 : decode cX4_take 177 = .ok (.iload 5, 2) := by decide +kernel
theorem dX4_take_179 : decode cX4_take 179 = .ok (.iload 8, 2) := by decide +kernel
theorem dX4_take_181 : decode cX4_take 181 = .ok (.iastore, 1) := by decide +kernel
theorem dX4_take_182 : decode cX4_take 182 = .ok (.aload_n 0, 1) := by decide +kernel
theorem dX4_take_183 : decode cX4_take 183 = .ok (.getfield 13, 3) := by decide +kernel
theorem dX4_take_186 : decode cX4_take 186 = .ok (.iload 5, 2) := by decide +kernel
theorem dX4_take_188 : decode cX4_take 188 = .ok (.iload 9, 2) := by decide +kernel
theorem dX4_take_190 : decode cX4_take 190 = .ok (.iastore, 1) := by decide +kernel
theorem dX4_take_191 : decode cX4_take 191 = .ok (.goto (-150), 3) := by decide +kernel
theorem dX4_take_194 : decode cX4_take 194 = .ok (.aload_n 0, 1) := by decide +kernel
theorem dX4_take_195 : decode cX4_take 195 = .ok (.iload_n 2, 1) := by decide +kernel
theorem dX4_take_196 : decode cX4_take 196 = .ok (.iload 5, 2) := by decide +kernel
theorem dX4_take_198 : decode cX4_take 198 = .ok (.isub, 1) := by decide +kernel
theorem dX4_take_199 : decode cX4_take 199 = .ok (.putfield 16, 3) := by decide +kernel
theorem dX4_take_202 : decode cX4_take 202 = .ok (.aload_n 0, 1) := by decide +kernel
theorem dX4_take_203 : decode cX4_take 203 = .ok (.getfield 7, 3) := by decide +kernel
theorem dX4_take_206 : decode cX4_take 206 = .ok (.iload 5, 2) := by decide +kernel
theorem dX4_take_208 : decode cX4_take 208 = .ok (.aload_n 0, 1) := by decide +kernel
theorem dX4_take_209 : decode cX4_take 209 = .ok (.getfield 7, 3) := by decide +kernel
theorem dX4_take_212 : decode cX4_take 212 = .ok (.iconst 0, 1) := by decide +kernel
theorem dX4_take_213 : decode cX4_take 213 = .ok (.aload_n 0, 1) := by decide +kernel
theorem dX4_take_214 : decode cX4_take 214 = .ok (.getfield 16, 3) := by decide +kernel
theorem dX4_take_217 : decode cX4_take 217 = .ok (.invokestatic 25, 3) := by decide +kernel
theorem dX4_take_220 : decode cX4_take 220 = .ok (.aload_n 0, 1) := by decide +kernel
theorem dX4_take_221 : decode cX4_take 221 = .ok (.getfield 13, 3) := by decide +kernel
theorem dX4_take_224 : decode cX4_take 224 = .ok (.iload 5, 2) := by decide +kernel
theorem dX4_take_226 : decode cX4_take 226 = .ok (.aload_n 0, 1) := by decide +kernel
theorem dX4_take_227 : decode cX4_take 227 = .ok (.getfield 13, 3) := by decide +kernel
theorem dX4_take_230 : decode cX4_take 230 = .ok (.iconst 0, 1) := by decide +kernel
theorem dX4_take_231 : decode cX4_take 231 = .ok (.aload_n 0, 1) := by decide +kernel
theorem dX4_take_232 : decode cX4_take 232 = .ok (.getfield 16, 3) := by decide +kernel
theorem dX4_take_235 : decode cX4_take 235 = .ok (.invokestatic 25, 3) := by decide +kernel
theorem dX4_take_238 : decode cX4_take 238 = .ok (.return_, 1) := by decide +kernel
theorem dX4_makeRoom_0 : decode cX4_makeRoom 0 = .ok (.iload_n 1, 1) := by decide +kernel
theorem dX4_makeRoom_1 : decode cX4_makeRoom 1 = .ok (.aload_n 0, 1) := by decide +kernel
theorem dX4_makeRoom_2 : decode cX4_makeRoom 2 = .ok (.getfield 7, 3) := by decide +kernel
theorem dX4_makeRoom_5 : decode cX4_makeRoom 5 = .ok (.arraylength, 1) := by decide +kernel
theorem dX4_makeRoom_6 : decode cX4_makeRoom 6 = .ok (.if_icmp .gt 4, 3) := by decide +kernel
theorem dX4_makeRoom_9 : decode cX4_makeRoom 9 = .ok (.return_, 1) := by decide +kernel
theorem dX4_makeRoom_10 : decode cX4_makeRoom 10 = .ok (.iload_n 1, 1) := by decide +kernel
theorem dX4_makeRoom_11 : decode cX4_makeRoom 11 = .ok (.ldc 20, 2) := by decide +kernel
theorem dX4_makeRoom_13 : decode cX4_makeRoom 13 = .ok (.bipush 8, 2) := by decide +kernel
theorem dX4_makeRoom_15 : decode cX4_makeRoom 15 = .ok (.aload_n 0, 1) := by decide +kernel
theorem dX4_makeRoom_16 : decode cX4_makeRoom 16 = .ok (.getfield 7, 3) := by decide +kernel
theorem dX4_makeRoom_19 : decode cX4_makeRoom 19 = .ok (.arraylength, 1) := by decide +kernel
theorem dX4_makeRoom_20 : decode cX4_makeRoom 20 = .ok (.imul, 1) := by decide +kernel
theorem dX4_makeRoom_21 : decode cX4_makeRoom 21 = .ok (.invokestatic 31, 3) := by decide +kernel
theorem dX4_makeRoom_24 : decode cX4_makeRoom 24 = .ok (.invokestatic 37, 3) := by decide +kernel
theorem dX4_makeRoom_27 : decode cX4_makeRoom 27 = .ok (.istore_n 2, 1) := by decide +kernel
theorem dX4_makeRoom_28 : decode cX4_makeRoom 28 = .ok (.iload_n 2, 1) := by decide +kernel
theorem dX4_makeRoom_29 : decode cX4_makeRoom 29 = .ok (.newarray .int, 2) := by decide +kernel
theorem dX4_makeRoom_31 : decode cX4_makeRoom 31 = .ok (.astore_n 3, 1) := by decide +kernel
theorem dX4_makeRoom_32 : decode cX4_makeRoom 32 = .ok (.iload_n 2, 1) := by decide +kernel
theorem dX4_makeRoom_33 : decode cX4_makeRoom 33 = .ok (.newarray .int, 2) := by decide +kernel
theorem dX4_makeRoom_35 : decode cX4_makeRoom 35 = .ok (.astore 4, 2) := by decide +kernel
theorem dX4_makeRoom_37 : decode cX4_makeRoom 37 = .ok (.aload_n 0, 1) := by decide +kernel
theorem dX4_makeRoom_38 : decode cX4_makeRoom 38 = .ok (.getfield 7, 3) := by decide +kernel
theorem dX4_makeRoom_41 : decode cX4_makeRoom 41 = .ok (.iconst 0, 1) := by decide +kernel
theorem dX4_makeRoom_42 : decode cX4_makeRoom 42 = .ok (.aload_n 3, 1) := by decide +kernel
theorem dX4_makeRoom_43 : decode cX4_makeRoom 43 = .ok (.iconst 0, 1) := by decide +kernel
theorem dX4_makeRoom_44 : decode cX4_makeRoom 44 = .ok (.aload_n 0, 1) := by decide +kernel
theorem dX4_makeRoom_45 : decode cX4_makeRoom 45 = .ok (.getfield 16, 3) := by decide +kernel
theorem dX4_makeRoom_48 : decode cX4_makeRoom 48 = .ok (.invokestatic 25, 3) := by decide +kernel
theorem dX4_makeRoom_51 : decode cX4_makeRoom 51 = .ok (.aload_n 0, 1) := by decide +kernel
theorem dX4_makeRoom_52 : decode cX4_makeRoom 52 = .ok (.getfield 13, 3) := by decide +kernel
theorem dX4_makeRoom_55 : decode cX4_makeRoom 55 = .ok (.iconst 0, 1) := by decide +kernel
theorem dX4_makeRoom_56 : decode cX4_makeRoom 56 = .ok (.aload 4, 2) := by decide +kernel
theorem dX4_makeRoom_58 : decode cX4_makeRoom 58 = .ok (.iconst 0, 1) := by decide +kernel
theorem dX4_makeRoom_59 : decode cX4_makeRoom 59 = .ok (.aload_n 0, 1) := by decide +kernel
theorem dX4_makeRoom_60 : decode cX4_makeRoom 60 = .ok (.getfield 16, 3) := by decide +kernel
theorem dX4_makeRoom_63 : decode cX4_makeRoom 63 = .ok (.invokestatic 25, 3) := by decide +kernel
theorem dX4_makeRoom_66 : decode cX4_makeRoom 66 = .ok (.aload_n 0, 1) := by decide +kernel
theorem dX4_makeRoom_67 : decode cX4_makeRoom 67 = .ok (.aload_n 3, 1) := by decide +kernel
theorem dX4_makeRoom_68 : decode cX4_makeRoom 68 = .ok (.putfield 7, 3) := by decide +kernel
theorem dX4_makeRoom_71 : decode cX4_makeRoom 71 = .ok (.aload_n 0, 1) := by decide +kernel
theorem dX4_makeRoom_72 : decode cX4_makeRoom 72 = .ok (.aload 4, 2) := by decide +kernel
theorem dX4_makeRoom_74 : decode cX4_makeRoom 74 = .ok (.putfield 13, 3) := by decide +kernel
theorem dX4_makeRoom_77 : decode cX4_makeRoom 77 = .ok (.return_, 1) := by decide +kernel
end
section
theorem dX5_init_0 : decode cX5_init 0 = .ok (.aload_n 0, 1) := by decide +kernel
theorem dX5_init_1 : decode cX5_init 1 = .ok (.invokespecial 1, 3) := by decide +kernel
theorem dX5_init_4 : decode cX5_init 4 = .ok (.aload_n 0, 1) := by decide +kernel
theorem dX5_init_5 : decode cX5_init 5 = .ok (.iconst 0, 1) := by decide +kernel
theorem dX5_init_6 : decode cX5_init 6 = .ok (.iload_n 1, 1) := by decide +kernel
theorem dX5_init_7 : decode cX5_init 7 = .ok (.invokestatic 7, 3) := by decide +kernel
theorem dX5_init_10 : decode cX5_init 10 = .ok (.newarray .int, 2) := by decide +kernel
theorem dX5_init_12 : decode cX5_init 12 = .ok (.putfield 13, 3) := by decide +kernel
theorem dX5_init_15 : decode cX5_init 15 = .ok (.return_, 1) := by decide +kernel
theorem dX5_size_0 : decode cX5_size 0 = .ok (.aload_n 0, 1) := by decide +kernel
theorem dX5_size_1 : decode cX5_size 1 = .ok (.getfield 19, 3) := by decide +kernel
theorem dX5_size_4 : decode cX5_size 4 = .ok (.ireturn, 1) := by decide +kernel
theorem dX5_isFull_0 : decode cX5_isFull 0 = .ok (.aload_n 0, 1) := by decide +kernel
theorem dX5_isFull_1 : decode cX5_isFull 1 = .ok (.getfield 19, 3) := by decide +kernel
theorem dX5_isFull_4 : decode cX5_isFull 4 = .ok (.aload_n 0, 1) := by decide +kernel
theorem dX5_isFull_5 : decode cX5_isFull 5 = .ok (.getfield 13, 3) := by decide +kernel
theorem dX5_isFull_8 : decode cX5_isFull 8 = .ok (.arraylength, 1) := by decide +kernel
theorem dX5_isFull_9 : decode cX5_isFull 9 = .ok (.if_icmp .lt 7, 3) := by decide +kernel
theorem dX5_isFull_12 : decode cX5_isFull 12 = .ok (.iconst 1, 1) := by decide +kernel
theorem dX5_isFull_13 : decode cX5_isFull 13 = .ok (.goto 4, 3) := by decide +kernel
theorem dX5_isFull_16 : decode cX5_isFull 16 = .ok (.iconst 0, 1) := by decide +kernel
theorem dX5_isFull_17 : decode cX5_isFull 17 = .ok (.ireturn, 1) := by decide +kernel
theorem dX5_has_0 : decode cX5_has 0 = .ok (.iload_n 1, 1) := by decide +kernel
theorem dX5_has_1 : decode cX5_has 1 = .ok (.ifCond .lt 15, 3) := by decide +kernel
theorem dX5_has_4 : decode cX5_has 4 = .ok (.iload_n 1, 1) := by decide +kernel
theorem dX5_has_5 : decode cX5_has 5 = .ok (.aload_n 0, 1) := by decide +kernel
theorem dX5_has_6 : decode cX5_has 6 = .ok (.getfield 19, 3) := by decide +kernel
theorem dX5_has_9 : decode cX5_has 9 = .ok (.if_icmp .ge 7, 3) := by decide +kernel
theorem dX5_has_12 : decode cX5_has 12 = .ok (.iconst 1, 1) := by decide +kernel
theorem dX5_has_13 : decode cX5_has 13 = .ok (.goto 4, 3) := by decide +kernel
theorem dX5_has_16 : decode cX5_has 16 = .ok (.iconst 0, 1) := by decide +kernel
theorem dX5_has_17 : decode cX5_has 17 = .ok (.ireturn, 1) := by decide +kernel
theorem dX5_get_0 : decode cX5_get 0 = .ok (.aload_n 0, 1) := by decide +kernel
theorem dX5_get_1 : decode cX5_get 1 = .ok (.iload_n 1, 1) := by decide +kernel
theorem dX5_get_2 : decode cX5_get 2 = .ok (.invokevirtual 23, 3) := by decide +kernel
theorem dX5_get_5 : decode cX5_get 5 = .ok (.ifCond .eq 12, 3) := by decide +kernel
theorem dX5_get_8 : decode cX5_get 8 = .ok (.aload_n 0, 1) := by decide +kernel
theorem dX5_get_9 : decode cX5_get 9 = .ok (.getfield 13, 3) := by decide +kernel
theorem dX5_get_12 : decode cX5_get 12 = .ok (.iload_n 1, 1) := by decide +kernel
theorem dX5_get_13 : decode cX5_get 13 = .ok (.iaload, 1) := by decide +kernel
theorem dX5_get_14 : decode cX5_get 14 = .ok (.goto 4, 3) := by decide +kernel
theorem dX5_get_17 : decode cX5_get 17 = .ok (.iconst 0, 1) := by decide +kernel
theorem dX5_get_18 : decode cX5_get 18 = .ok (.ireturn, 1) := by decide +kernel
theorem dX5_add_0 : decode cX5_add 0 = .ok (.aload_n 0, 1) := by decide +kernel
theorem dX5_add_1 : decode cX5_add 1 = .ok (.invokevirtual 27, 3) := by decide +kernel
theorem dX5_add_4 : decode cX5_add 4 = .ok (.ifCond .ne 23, 3) := by decide +kernel
theorem dX5_add_7 : decode cX5_add 7 = .ok (.aload_n 0, 1) := by decide +kernel
theorem dX5_add_8 : decode cX5_add 8 = .ok (.getfield 13, 3) := by decide +kernel
theorem dX5_add_11 : decode cX5_add 11 = .ok (.aload_n 0, 1) := by decide +kernel
theorem dX5_add_12 : decode cX5_add 12 = .ok (.getfield 19, 3) := by decide +kernel
theorem dX5_add_15 : decode cX5_add 15 = .ok (.iload_n 1, 1) := by decide +kernel
theorem dX5_add_16 : decode cX5_add 16 = .ok (.iastore, 1) := by decide +kernel
theorem dX5_add_17 : decode cX5_add 17 = .ok (.aload_n 0, 1) := by decide +kernel
theorem dX5_add_18 : decode cX5_add 18 = .ok (.dup, 1) := by decide +kernel
theorem dX5_add_19 : decode cX5_add 19 = .ok (.getfield 19, 3) := by decide +kernel
theorem dX5_add_22 : decode cX5_add 22 = .ok (.iconst 1, 1) := by decide +kernel
theorem dX5_add_23 : decode cX5_add 23 = .ok (.iadd, 1) := by decide +kernel
theorem dX5_add_24 : decode cX5_add 24 = .ok (.putfield 19, 3) := by decide +kernel
theorem dX5_add_27 : decode cX5_add 27 = .ok (.aload_n 0, 1) := by decide +kernel
theorem dX5_add_28 : decode cX5_add 28 = .ok (.getfield 19, 3) := by decide +kernel
theorem dX5_add_31 : decode cX5_add 31 = .ok (.ireturn, 1) := by decide +kernel
theorem dX5_empty_0 : decode cX5_empty 0 = .ok (.aload_n 0, 1) := by decide +kernel
theorem dX5_empty_1 : decode cX5_empty 1 = .ok (.getfield 19, 3) := by decide +kernel
theorem dX5_empty_4 : decode cX5_empty 4 = .ok (.istore_n 1, 1) := by decide +kernel
theorem dX5_empty_5 : decode cX5_empty 5 = .ok (.aload_n 0, 1) := by decide +kernel
theorem dX5_empty_6 : decode cX5_empty 6 = .ok (.iconst 0, 1) := by decide +kernel
theorem dX5_empty_7 : decode cX5_empty 7 = .ok (.putfield 19, 3) := by decide +kernel
theorem dX5_empty_10 : decode cX5_empty 10 = .ok (.iload_n 1, 1) := by decide +kernel
theorem dX5_empty_11 : decode cX5_empty 11 = .ok (.ireturn, 1) := by decide +kernel
theorem dX5_countOf_0 : decode cX5_countOf 0 = .ok (.iconst 0, 1) := by decide +kernel
theorem dX5_countOf_1 : decode cX5_countOf 1 = .ok (.istore_n 2, 1) := by decide +kernel
theorem dX5_countOf_2 : decode cX5_countOf 2 = .ok (.iconst 0, 1) := by decide +kernel
theorem dX5_countOf_3 : decode cX5_countOf 3 = .ok (.istore_n 3, 1) := by decide +kernel
theorem dX5_countOf_4 : decode cX5_countOf 4 = .ok (.iload_n 3, 1) := by decide +kernel
theorem dX5_countOf_5 : decode cX5_countOf 5 = .ok (.aload_n 0, 1) := by decide +kernel
theorem dX5_countOf_6 : decode cX5_countOf 6 = .ok (.getfield 19, 3) := by decide +kernel
theorem dX5_countOf_9 : decode cX5_countOf 9 = .ok (.if_icmp .ge 27, 3) := by decide +kernel
theorem dX5_countOf_12 : decode cX5_countOf 12 = .ok (.iload_n 2, 1) := by decide +kernel
theorem dX5_countOf_13 : decode cX5_countOf 13 = .ok (.aload_n 0, 1) := by decide +kernel
theorem dX5_countOf_14 : decode cX5_countOf 14 = .ok (.getfield 13, 3) := by decide +kernel
theorem dX5_countOf_17 : decode cX5_countOf 17 = .ok (.iload_n 3, 1) := by decide +kernel
theorem dX5_countOf_18 : decode cX5_countOf 18 = .ok (.iaload, 1) := by decide +kernel
theorem dX5_countOf_19 : decode cX5_countOf 19 = .ok (.iload_n 1, 1) := by decide +kernel
theorem dX5_countOf_20 : decode cX5_countOf 20 = .ok (.if_icmp .ne 7, 3) := by decide +kernel
theorem dX5_countOf_23 : decode cX5_countOf 23 = .ok (.iconst 1, 1) := by decide +kernel
theorem dX5_countOf_24 : decode cX5_countOf 24 = .ok (.goto 4, 3) := by decide +kernel
theorem dX5_countOf_27 : decode cX5_countOf 27 = .ok (.iconst 0, 1) := by decide +kernel
theorem dX5_countOf_28 : decode cX5_countOf 28 = .ok (.iadd, 1) := by decide +kernel
theorem dX5_countOf_29 : decode cX5_countOf 29 = .ok (.istore_n 2, 1) := by decide +kernel
theorem dX5_countOf_30 : decode cX5_countOf 30 = .ok (.iinc 3 1, 3) := by decide +kernel
theorem dX5_countOf_33 : decode cX5_countOf 33 = .ok (.goto (-29), 3) := by decide +kernel
theorem dX5_countOf_36 : decode cX5_countOf 36 = .ok (.iload_n 2, 1) := by decide +kernel
theorem dX5_countOf_37 : decode cX5_countOf 37 = .ok (.ireturn, 1) := by decide +kernel
theorem dX5_countBelow_0 : decode cX5_countBelow 0 = .ok (.iconst 0, 1) := by decide +kernel
theorem dX5_countBelow_1 : decode cX5_countBelow 1 = .ok (.istore_n 2, 1) := by decide +kernel
theorem dX5_countBelow_2 : decode cX5_countBelow 2 = .ok (.iconst 0, 1) := by decide +kernel
theorem dX5_countBelow_3 : decode cX5_countBelow 3 = .ok (.istore_n 3, 1) := by decide +kernel
theorem dX5_countBelow_4 : decode cX5_countBelow 4 = .ok (.iload_n 3, 1) := by decide +kernel
theorem dX5_countBelow_5 : decode cX5_countBelow 5 = .ok (.aload_n 0, 1) := by decide +kernel
theorem dX5_countBelow_6 : decode cX5_countBelow 6 = .ok (.getfield 19, 3) := by decide +kernel
theorem dX5_countBelow_9 : decode cX5_countBelow 9 = .ok (.if_icmp .ge 27, 3) := by decide +kernel
theorem dX5_countBelow_12 : decode cX5_countBelow 12 = .ok (.iload_n 2, 1) := by decide +kernel
theorem dX5_countBelow_13 : decode cX5_countBelow 13 = .ok (.aload_n 0, 1) := by decide +kernel
theorem dX5_countBelow_14 : decode cX5_countBelow 14 = .ok (.getfield 13, 3) := by decide +kernel
theorem dX5_countBelow_17 : decode cX5_countBelow 17 = .ok (.iload_n 3, 1) := by decide +kernel
theorem dX5_countBelow_18 : decode cX5_countBelow 18 = .ok (.iaload, 1) := by decide +kernel
theorem dX5_countBelow_19 : decode cX5_countBelow 19 = .ok (.iload_n 1, 1) := by decide +kernel
theorem dX5_countBelow_20 : decode cX5_countBelow 20 = .ok (.if_icmp .ge 7, 3) := by decide +kernel
theorem dX5_countBelow_23 : decode cX5_countBelow 23 = .ok (.iconst 1, 1) := by decide +kernel
theorem dX5_countBelow_24 : decode cX5_countBelow 24 = .ok (.goto 4, 3) := by decide +kernel
theorem dX5_countBelow_27 : decode cX5_countBelow 27 = .ok (.iconst 0, 1) := by decide +kernel
theorem dX5_countBelow_28 : decode cX5_countBelow 28 = .ok (.iadd, 1) := by decide +kernel
theorem dX5_countBelow_29 : decode cX5_countBelow 29 = .ok (.istore_n 2, 1) := by decide +kernel
theorem dX5_countBelow_30 : decode cX5_countBelow 30 = .ok (.iinc 3 1, 3) := by decide +kernel
theorem dX5_countBelow_33 : decode cX5_countBelow 33 = .ok (.goto (-29), 3) := by decide +kernel
theorem dX5_countBelow_36 : decode cX5_countBelow 36 = .ok (.iload_n 2, 1) := by decide +kernel
theorem dX5_countBelow_37 : decode cX5_countBelow 37 = .ok (.ireturn, 1) := by decide +kernel
end
section
theorem dX6_init_0 : decode cX6_init 0 = .ok (.aload_n 0, 1) := by decide +kernel
theorem dX6_init_1 : decode cX6_init 1 = .ok (.invokespecial 3, 3) := by decide +kernel
theorem dX6_init_4 : decode cX6_init 4 = .ok (.aload_n 0, 1) := by decide +kernel
theorem dX6_init_5 : decode cX6_init 5 = .ok (.iconst 4, 1) := by decide +kernel
theorem dX6_init_6 : decode cX6_init 6 = .ok (.anewarray 9, 3) := by decide +kernel
theorem dX6_init_9 : decode cX6_init 9 = .ok (.putfield 11, 3) := by decide +kernel
theorem dX6_init_12 : decode cX6_init 12 = .ok (.iconst 0, 1) := by decide +kernel
theorem dX6_init_13 : decode cX6_init 13 = .ok (.istore_n 1, 1) := by decide +kernel
theorem dX6_init_14 : decode cX6_init 14 = .ok (.iload_n 1, 1) := by decide +kernel
theorem dX6_init_15 : decode cX6_init 15 = .ok (.iconst 4, 1) := by decide +kernel
theorem dX6_init_16 : decode cX6_init 16 = .ok (.if_icmp .ge 22, 3) := by decide +kernel
theorem dX6_init_19 : decode cX6_init 19 = .ok (.aload_n 0, 1) := by decide +kernel
theorem dX6_init_20 : decode cX6_init 20 = .ok (.getfield 11, 3) := by decide +kernel
theorem dX6_init_23 : decode cX6_init 23 = .ok (.iload_n 1, 1) := by decide +kernel
theorem dX6_init_24 : decode cX6_init 24 = .ok (.new 9, 3) := by decide +kernel
theorem dX6_init_27 : decode cX6_init 27 = .ok (.dup, 1) := by decide +kernel
theorem dX6_init_28 : decode cX6_init 28 = .ok (.invokespecial 17, 3) := by decide +kernel
theorem dX6_init_31 : decode cX6_init 31 = .ok (.aastore, 1) := by decide +kernel
theorem dX6_init_32 : decode cX6_init 32 = .ok (.iinc 1 1, 3) := by decide +kernel
theorem dX6_init_35 : decode cX6_init 35 = .ok (.goto (-21), 3) := by decide +kernel
theorem dX6_init_38 : decode cX6_init 38 = .ok (.return_, 1) := by decide +kernel
theorem dX6_begin_0 : decode cX6_begin 0 = .ok (.aload_n 0, 1) := by decide +kernel
theorem dX6_begin_1 : decode cX6_begin 1 = .ok (.iconst 1, 1) := by decide +kernel
theorem dX6_begin_2 : decode cX6_begin 2 = .ok (.putfield 18, 3) := by decide +kernel
theorem dX6_begin_5 : decode cX6_begin 5 = .ok (.aload_n 0, 1) := by decide +kernel
theorem dX6_begin_6 : decode cX6_begin 6 = .ok (.iload_n 1, 1) := by decide +kernel
theorem dX6_begin_7 : decode cX6_begin 7 = .ok (.putfield 22, 3) := by decide +kernel
theorem dX6_begin_10 : decode cX6_begin 10 = .ok (.aload_n 0, 1) := by decide +kernel
theorem dX6_begin_11 : decode cX6_begin 11 = .ok (.iload_n 2, 1) := by decide +kernel
theorem dX6_begin_12 : decode cX6_begin 12 = .ok (.putfield 26, 3) := by decide +kernel
theorem dX6_begin_15 : decode cX6_begin 15 = .ok (.aload_n 0, 1) := by decide +kernel
theorem dX6_begin_16 : decode cX6_begin 16 = .ok (.iload_n 3, 1) := by decide +kernel
theorem dX6_begin_17 : decode cX6_begin 17 = .ok (.putfield 29, 3) := by decide +kernel
theorem dX6_begin_20 : decode cX6_begin 20 = .ok (.return_, 1) := by decide +kernel
theorem dX6_areThere_0 : decode cX6_areThere 0 = .ok (.aload_n 0, 1) := by decide +kernel
theorem dX6_areThere_1 : decode cX6_areThere 1 = .ok (.getfield 18, 3) := by decide +kernel
theorem dX6_areThere_4 : decode cX6_areThere 4 = .ok (.ireturn, 1) := by decide +kernel
theorem dX6_test_0 : decode cX6_test 0 = .ok (.aload_n 0, 1) := by decide +kernel
theorem dX6_test_1 : decode cX6_test 1 = .ok (.getfield 22, 3) := by decide +kernel
theorem dX6_test_4 : decode cX6_test 4 = .ok (.ireturn, 1) := by decide +kernel
theorem dX6_statistic_0 : decode cX6_statistic 0 = .ok (.aload_n 0, 1) := by decide +kernel
theorem dX6_statistic_1 : decode cX6_statistic 1 = .ok (.getfield 26, 3) := by decide +kernel
theorem dX6_statistic_4 : decode cX6_statistic 4 = .ok (.ireturn, 1) := by decide +kernel
theorem dX6_asked_0 : decode cX6_asked 0 = .ok (.aload_n 0, 1) := by decide +kernel
theorem dX6_asked_1 : decode cX6_asked 1 = .ok (.getfield 29, 3) := by decide +kernel
theorem dX6_asked_4 : decode cX6_asked 4 = .ok (.ireturn, 1) := by decide +kernel
theorem dX6_chance_0 : decode cX6_chance 0 = .ok (.aload_n 0, 1) := by decide +kernel
theorem dX6_chance_1 : decode cX6_chance 1 = .ok (.getfield 11, 3) := by decide +kernel
theorem dX6_chance_4 : decode cX6_chance 4 = .ok (.iload_n 1, 1) := by decide +kernel
theorem dX6_chance_5 : decode cX6_chance 5 = .ok (.ifCond .lt 12, 3) := by decide +kernel
theorem dX6_chance_8 : decode cX6_chance 8 = .ok (.iload_n 1, 1) := by decide +kernel
theorem dX6_chance_9 : decode cX6_chance 9 = .ok (.iconst 4, 1) := by decide +kernel
theorem dX6_chance_10 : decode cX6_chance 10 = .ok (.if_icmp .ge 7, 3) := by decide +kernel
theorem dX6_chance_13 : decode cX6_chance 13 = .ok (.iload_n 1, 1) := by decide +kernel
theorem dX6_chance_14 : decode cX6_chance 14 = .ok (.goto 4, 3) := by decide +kernel
theorem dX6_chance_17 : decode cX6_chance 17 = .ok (.iconst 0, 1) := by decide +kernel
theorem dX6_chance_18 : decode cX6_chance 18 = .ok (.aaload, 1) := by decide +kernel
theorem dX6_chance_19 : decode cX6_chance 19 = .ok (.areturn, 1) := by decide +kernel
end
section
theorem dX7_init_0 : decode cX7_init 0 = .ok (.aload_n 0, 1) := by decide +kernel
theorem dX7_init_1 : decode cX7_init 1 = .ok (.invokespecial 1, 3) := by decide +kernel
theorem dX7_init_4 : decode cX7_init 4 = .ok (.aload_n 0, 1) := by decide +kernel
theorem dX7_init_5 : decode cX7_init 5 = .ok (.new 7, 3) := by decide +kernel
theorem dX7_init_8 : decode cX7_init 8 = .ok (.dup, 1) := by decide +kernel
theorem dX7_init_9 : decode cX7_init 9 = .ok (.invokespecial 9, 3) := by decide +kernel
theorem dX7_init_12 : decode cX7_init 12 = .ok (.putfield 10, 3) := by decide +kernel
theorem dX7_init_15 : decode cX7_init 15 = .ok (.aload_n 0, 1) := by decide +kernel
theorem dX7_init_16 : decode cX7_init 16 = .ok (.new 7, 3) := by decide +kernel
theorem dX7_init_19 : decode cX7_init 19 = .ok (.dup, 1) := by decide +kernel
theorem dX7_init_20 : decode cX7_init 20 = .ok (.invokespecial 9, 3) := by decide +kernel
theorem dX7_init_23 : decode cX7_init 23 = .ok (.putfield 16, 3) := by decide +kernel
theorem dX7_init_26 : decode cX7_init 26 = .ok (.return_, 1) := by decide +kernel
theorem dX7_compareChances_0 : decode cX7_compareChances 0 = .ok (.aload_n 0, 1) := by decide +kernel
theorem dX7_compareChances_1 : decode cX7_compareChances 1 = .ok (.getfield 10, 3) := by decide +kernel
theorem dX7_compareChances_4 : decode cX7_compareChances 4 = .ok (.aload_n 1, 1) := by decide +kernel
theorem dX7_compareChances_5 : decode cX7_compareChances 5 = .ok (.getfield 19, 3) := by decide +kernel
theorem dX7_compareChances_8 : decode cX7_compareChances 8 = .ok (.aload_n 2, 1) := by decide +kernel
theorem dX7_compareChances_9 : decode cX7_compareChances 9 = .ok (.getfield 24, 3) := by decide +kernel
theorem dX7_compareChances_12 : decode cX7_compareChances 12 = .ok (.invokevirtual 27, 3) := by decide +kernel
theorem dX7_compareChances_15 : decode cX7_compareChances 15 = .ok (.aload_n 0, 1) := by decide +kernel
theorem dX7_compareChances_16 : decode cX7_compareChances 16 = .ok (.getfield 16, 3) := by decide +kernel
theorem dX7_compareChances_19 : decode cX7_compareChances 19 = .ok (.aload_n 2, 1) := by decide +kernel
theorem dX7_compareChances_20 : decode cX7_compareChances 20 = .ok (.getfield 19, 3) := by decide +kernel
theorem dX7_compareChances_23 : decode cX7_compareChances 23 = .ok (.aload_n 1, 1) := by decide +kernel
theorem dX7_compareChances_24 : decode cX7_compareChances 24 = .ok (.getfield 24, 3) := by decide +kernel
theorem dX7_compareChances_27 : decode cX7_compareChances 27 = .ok (.invokevirtual 27, 3) := by decide +kernel
theorem dX7_compareChances_30 : decode cX7_compareChances 30 = .ok (.aload_n 0, 1) := by decide +kernel
theorem dX7_compareChances_31 : decode cX7_compareChances 31 = .ok (.getfield 10, 3) := by decide +kernel
theorem dX7_compareChances_34 : decode cX7_compareChances 34 = .ok (.aload_n 0, 1) := by decide +kernel
theorem dX7_compareChances_35 : decode cX7_compareChances 35 = .ok (.getfield 16, 3) := by decide +kernel
theorem dX7_compareChances_38 : decode cX7_compareChances 38 = .ok (.invokevirtual 31, 3) := by decide +kernel
theorem dX7_compareChances_41 : decode cX7_compareChances 41 = .ok (.ireturn, 1) := by decide +kernel
theorem dX7_compareToLevel_0 : decode cX7_compareToLevel 0 = .ok (.aload_n 0, 1) := by decide +kernel
theorem dX7_compareToLevel_1 : decode cX7_compareToLevel 1 = .ok (.getfield 10, 3) := by decide +kernel
theorem dX7_compareToLevel_4 : decode cX7_compareToLevel 4 = .ok (.aload_n 1, 1) := by decide +kernel
theorem dX7_compareToLevel_5 : decode cX7_compareToLevel 5 = .ok (.getfield 19, 3) := by decide +kernel
theorem dX7_compareToLevel_8 : decode cX7_compareToLevel 8 = .ok (.lload 4, 2) := by decide +kernel
theorem dX7_compareToLevel_10 : decode cX7_compareToLevel 10 = .ok (.invokevirtual 35, 3) := by decide +kernel
theorem dX7_compareToLevel_13 : decode cX7_compareToLevel 13 = .ok (.aload_n 0, 1) := by decide +kernel
theorem dX7_compareToLevel_14 : decode cX7_compareToLevel 14 = .ok (.getfield 16, 3) := by decide +kernel
theorem dX7_compareToLevel_17 : decode cX7_compareToLevel 17 = .ok (.aload_n 1, 1) := by decide +kernel
theorem dX7_compareToLevel_18 : decode cX7_compareToLevel 18 = .ok (.getfield 24, 3) := by decide +kernel
theorem dX7_compareToLevel_21 : decode cX7_compareToLevel 21 = .ok (.lload_n 2, 1) := by decide +kernel
theorem dX7_compareToLevel_22 : decode cX7_compareToLevel 22 = .ok (.invokevirtual 35, 3) := by decide +kernel
theorem dX7_compareToLevel_25 : decode cX7_compareToLevel 25 = .ok (.aload_n 0, 1) := by decide +kernel
theorem dX7_compareToLevel_26 : decode cX7_compareToLevel 26 = .ok (.getfield 10, 3) := by decide +kernel
theorem dX7_compareToLevel_29 : decode cX7_compareToLevel 29 = .ok (.aload_n 0, 1) := by decide +kernel
theorem dX7_compareToLevel_30 : decode cX7_compareToLevel 30 = .ok (.getfield 16, 3) := by decide +kernel
theorem dX7_compareToLevel_33 : decode cX7_compareToLevel 33 = .ok (.invokevirtual 31, 3) := by decide +kernel
theorem dX7_compareToLevel_36 : decode cX7_compareToLevel 36 = .ok (.ireturn, 1) := by decide +kernel
theorem dX7_figureOf_0 : decode cX7_figureOf 0 = .ok (.aload_n 0, 1) := by decide +kernel
theorem dX7_figureOf_1 : decode cX7_figureOf 1 = .ok (.getfield 10, 3) := by decide +kernel
theorem dX7_figureOf_4 : decode cX7_figureOf 4 = .ok (.astore_n 3, 1) := by decide +kernel
theorem dX7_figureOf_5 : decode cX7_figureOf 5 = .ok (.aload_n 3, 1) := by decide +kernel
theorem dX7_figureOf_6 : decode cX7_figureOf 6 = .ok (.aload_n 1, 1) := by decide +kernel
theorem dX7_figureOf_7 : decode cX7_figureOf 7 = .ok (.getfield 19, 3) := by decide +kernel
theorem dX7_figureOf_10 : decode cX7_figureOf 10 = .ok (.invokevirtual 39, 3) := by decide +kernel
theorem dX7_figureOf_13 : decode cX7_figureOf 13 = .ok (.aload_n 3, 1) := by decide +kernel
theorem dX7_figureOf_14 : decode cX7_figureOf 14 = .ok (.aload_n 1, 1) := by decide +kernel
theorem dX7_figureOf_15 : decode cX7_figureOf 15 = .ok (.getfield 24, 3) := by decide +kernel
theorem dX7_figureOf_18 : decode cX7_figureOf 18 = .ok (.invokestatic 43, 3) := by decide +kernel
theorem dX7_figureOf_21 : decode cX7_figureOf 21 = .ok (.istore 4, 2) := by decide +kernel
theorem dX7_figureOf_23 : decode cX7_figureOf 23 = .ok (.iconst 0, 1) := by decide +kernel
theorem dX7_figureOf_24 : decode cX7_figureOf 24 = .ok (.istore 5, 2) := by decide +kernel
theorem dX7_figureOf_26 : decode cX7_figureOf 26 = .ok (.iload 5, 2) := by decide +kernel
theorem dX7_figureOf_28 : decode cX7_figureOf 28 = .ok (.iload_n 2, 1) := by decide +kernel
theorem dX7_figureOf_29 : decode cX7_figureOf 29 = .ok (.if_icmp .ge 38, 3) := by decide +kernel
theorem dX7_figureOf_32 : decode cX7_figureOf 32 = .ok (.aload_n 0, 1) := by decide +kernel
theorem dX7_figureOf_33 : decode cX7_figureOf 33 = .ok (.getfield 16, 3) := by decide +kernel
theorem dX7_figureOf_36 : decode cX7_figureOf 36 = .ok (.aload_n 3, 1) := by decide +kernel
theorem dX7_figureOf_37 : decode cX7_figureOf 37 = .ok (.invokevirtual 39, 3) := by decide +kernel
theorem dX7_figureOf_40 : decode cX7_figureOf 40 = .ok (.aload_n 3, 1) := by decide +kernel
theorem dX7_figureOf_41 : decode cX7_figureOf 41 = .ok (.aload_n 0, 1) := by decide +kernel
theorem dX7_figureOf_42 : decode cX7_figureOf 42 = .ok (.getfield 16, 3) := by decide +kernel
theorem dX7_figureOf_45 : decode cX7_figureOf 45 = .ok (.ldc2_w 47, 3) := by decide +kernel
theorem dX7_figureOf_48 : decode cX7_figureOf 48 = .ok (.invokevirtual 35, 3) := by decide +kernel
theorem dX7_figureOf_51 : decode cX7_figureOf 51 = .ok (.aload_n 3, 1) := by decide +kernel
theorem dX7_figureOf_52 : decode cX7_figureOf 52 = .ok (.aload_n 1, 1) := by decide +kernel
theorem dX7_figureOf_53 : decode cX7_figureOf 53 = .ok (.getfield 24, 3) := by decide +kernel
theorem dX7_figureOf_56 : decode cX7_figureOf 56 = .ok (.invokestatic 43, 3) := by decide +kernel
theorem dX7_figureOf_59 : decode cX7_figureOf 59 = .ok (.istore 4, 2) := by decide +kernel
theorem dX7_figureOf_61 : decode cX7_figureOf 61 = .ok (.iinc 5 1, 3) := by decide +kernel
theorem dX7_figureOf_64 : decode cX7_figureOf 64 = .ok (.goto (-38), 3) := by decide +kernel
theorem dX7_figureOf_67 : decode cX7_figureOf 67 = .ok (.iload 4, 2) := by decide +kernel
theorem dX7_figureOf_69 : decode cX7_figureOf 69 = .ok (.ireturn, 1) := by decide +kernel
theorem dX7_takeOut_0 : decode cX7_takeOut 0 = .ok (.iconst 0, 1) := by decide +kernel
theorem dX7_takeOut_1 : decode cX7_takeOut 1 = .ok (.istore_n 2, 1) := by decide +kernel
theorem dX7_takeOut_2 : decode cX7_takeOut 2 = .ok (.iload_n 2, 1) := by decide +kernel
theorem dX7_takeOut_3 : decode cX7_takeOut 3 = .ok (.bipush 9, 2) := by decide +kernel
theorem dX7_takeOut_5 : decode cX7_takeOut 5 = .ok (.if_icmp .ge 22, 3) := by decide +kernel
theorem dX7_takeOut_8 : decode cX7_takeOut 8 = .ok (.aload_n 0, 1) := by decide +kernel
theorem dX7_takeOut_9 : decode cX7_takeOut 9 = .ok (.aload_n 1, 1) := by decide +kernel
theorem dX7_takeOut_10 : decode cX7_takeOut 10 = .ok (.invokevirtual 31, 3) := by decide +kernel
theorem dX7_takeOut_13 : decode cX7_takeOut 13 = .ok (.ifCond .lt 14, 3) := by decide +kernel
theorem dX7_takeOut_16 : decode cX7_takeOut 16 = .ok (.aload_n 0, 1) := by decide +kernel
theorem dX7_takeOut_17 : decode cX7_takeOut 17 = .ok (.aload_n 1, 1) := by decide +kernel
theorem dX7_takeOut_18 : decode cX7_takeOut 18 = .ok (.invokevirtual 49, 3) := by decide +kernel
theorem dX7_takeOut_21 : decode cX7_takeOut 21 = .ok (.iinc 2 1, 3) := by decide +kernel
theorem dX7_takeOut_24 : decode cX7_takeOut 24 = .ok (.goto (-22), 3) := by decide +kernel
theorem dX7_takeOut_27 : decode cX7_takeOut 27 = .ok (.iload_n 2, 1) := by decide +kernel
theorem dX7_takeOut_28 : decode cX7_takeOut 28 = .ok (.ireturn, 1) := by decide +kernel
end
section
theorem dX8_init_0 : decode cX8_init 0 = .ok (.aload_n 0, 1) := by decide +kernel
theorem dX8_init_1 : decode cX8_init 1 = .ok (.invokespecial 1, 3) := by decide +kernel
theorem dX8_init_4 : decode cX8_init 4 = .ok (.aload_n 0, 1) := by decide +kernel
theorem dX8_init_5 : decode cX8_init 5 = .ok (.new 7, 3) := by decide +kernel
theorem dX8_init_8 : decode cX8_init 8 = .ok (.dup, 1) := by decide +kernel
theorem dX8_init_9 : decode cX8_init 9 = .ok (.invokespecial 9, 3) := by decide +kernel
theorem dX8_init_12 : decode cX8_init 12 = .ok (.putfield 10, 3) := by decide +kernel
theorem dX8_init_15 : decode cX8_init 15 = .ok (.aload_n 0, 1) := by decide +kernel
theorem dX8_init_16 : decode cX8_init 16 = .ok (.new 7, 3) := by decide +kernel
theorem dX8_init_19 : decode cX8_init 19 = .ok (.dup, 1) := by decide +kernel
theorem dX8_init_20 : decode cX8_init 20 = .ok (.invokespecial 9, 3) := by decide +kernel
theorem dX8_init_23 : decode cX8_init 23 = .ok (.putfield 16, 3) := by decide +kernel
theorem dX8_init_26 : decode cX8_init 26 = .ok (.return_, 1) := by decide +kernel
theorem dX8_beginTaking_0 : decode cX8_beginTaking 0 = .ok (.aload_n 0, 1) := by decide +kernel
theorem dX8_beginTaking_1 : decode cX8_beginTaking 1 = .ok (.invokevirtual 19, 3) := by decide +kernel
theorem dX8_beginTaking_4 : decode cX8_beginTaking 4 = .ok (.aload_n 0, 1) := by decide +kernel
theorem dX8_beginTaking_5 : decode cX8_beginTaking 5 = .ok (.ldc 22, 2) := by decide +kernel
theorem dX8_beginTaking_7 : decode cX8_beginTaking 7 = .ok (.putfield 23, 3) := by decide +kernel
theorem dX8_beginTaking_10 : decode cX8_beginTaking 10 = .ok (.aload_n 0, 1) := by decide +kernel
theorem dX8_beginTaking_11 : decode cX8_beginTaking 11 = .ok (.iload_n 1, 1) := by decide +kernel
theorem dX8_beginTaking_12 : decode cX8_beginTaking 12 = .ok (.ldc 22, 2) := by decide +kernel
theorem dX8_beginTaking_14 : decode cX8_beginTaking 14 = .ok (.imul, 1) := by decide +kernel
theorem dX8_beginTaking_15 : decode cX8_beginTaking 15 = .ok (.putfield 27, 3) := by decide +kernel
theorem dX8_beginTaking_18 : decode cX8_beginTaking 18 = .ok (.aload_n 0, 1) := by decide +kernel
theorem dX8_beginTaking_19 : decode cX8_beginTaking 19 = .ok (.lconst 0, 1) := by decide +kernel
theorem dX8_beginTaking_20 : decode cX8_beginTaking 20 = .ok (.putfield 30, 3) := by decide +kernel
theorem dX8_beginTaking_23 : decode cX8_beginTaking 23 = .ok (.aload_n 0, 1) := by decide +kernel
theorem dX8_beginTaking_24 : decode cX8_beginTaking 24 = .ok (.lconst 1, 1) := by decide +kernel
theorem dX8_beginTaking_25 : decode cX8_beginTaking 25 = .ok (.putfield 34, 3) := by decide +kernel
theorem dX8_beginTaking_28 : decode cX8_beginTaking 28 = .ok (.iconst 0, 1) := by decide +kernel
theorem dX8_beginTaking_29 : decode cX8_beginTaking 29 = .ok (.istore_n 3, 1) := by decide +kernel
theorem dX8_beginTaking_30 : decode cX8_beginTaking 30 = .ok (.iload_n 3, 1) := by decide +kernel
theorem dX8_beginTaking_31 : decode cX8_beginTaking 31 = .ok (.iload_n 1, 1) := by decide +kernel
theorem dX8_beginTaking_32 : decode cX8_beginTaking 32 = .ok (.if_icmp .ge 40, 3) := by decide +kernel
theorem dX8_beginTaking_35 : decode cX8_beginTaking 35 = .ok (.aload_n 0, 1) := by decide +kernel
theorem dX8_beginTaking_36 : decode cX8_beginTaking 36 = .ok (.dup, 1) := by decide +kernel
theorem dX8_beginTaking_37 : decode cX8_beginTaking 37 = .ok (.getfield 30, 3) := by decide +kernel
theorem dX8_beginTaking_40 : decode cX8_beginTaking 40 = .ok (.aload_n 0, 1) := by decide +kernel
theorem dX8_beginTaking_41 : decode cX8_beginTaking 41 = .ok (.getfield 34, 3) := by decide +kernel
theorem dX8_beginTaking_44 : decode cX8_beginTaking 44 = .ok (.ladd, 1) := by decide +kernel
theorem dX8_beginTaking_45 : decode cX8_beginTaking 45 = .ok (.putfield 30, 3) := by decide +kernel
theorem dX8_beginTaking_48 : decode cX8_beginTaking 48 = .ok (.aload_n 0, 1) := by decide +kernel
theorem dX8_beginTaking_49 : decode cX8_beginTaking 49 = .ok (.aload_n 0, 1) := by decide +kernel
theorem dX8_beginTaking_50 : decode cX8_beginTaking 50 = .ok (.getfield 34, 3) := by decide +kernel
theorem dX8_beginTaking_53 : decode cX8_beginTaking 53 = .ok (.iload_n 2, 1) := by decide +kernel
theorem dX8_beginTaking_54 : decode cX8_beginTaking 54 = .ok (.iload_n 3, 1) := by decide +kernel
theorem dX8_beginTaking_55 : decode cX8_beginTaking 55 = .ok (.isub, 1) := by decide +kernel
theorem dX8_beginTaking_56 : decode cX8_beginTaking 56 = .ok (.i2l, 1) := by decide +kernel
theorem dX8_beginTaking_57 : decode cX8_beginTaking 57 = .ok (.lmul, 1) := by decide +kernel
theorem dX8_beginTaking_58 : decode cX8_beginTaking 58 = .ok (.iload_n 3, 1) := by decide +kernel
theorem dX8_beginTaking_59 : decode cX8_beginTaking 59 = .ok (.iconst 1, 1) := by decide +kernel
theorem dX8_beginTaking_60 : decode cX8_beginTaking 60 = .ok (.iadd, 1) := by decide +kernel
theorem dX8_beginTaking_61 : decode cX8_beginTaking 61 = .ok (.i2l, 1) := by decide +kernel
theorem dX8_beginTaking_62 : decode cX8_beginTaking 62 = .ok (.ldiv, 1) := by decide +kernel
theorem dX8_beginTaking_63 : decode cX8_beginTaking 63 = .ok (.putfield 34, 3) := by decide +kernel
theorem dX8_beginTaking_66 : decode cX8_beginTaking 66 = .ok (.iinc 3 1, 3) := by decide +kernel
theorem dX8_beginTaking_69 : decode cX8_beginTaking 69 = .ok (.goto (-39), 3) := by decide +kernel
theorem dX8_beginTaking_72 : decode cX8_beginTaking 72 = .ok (.return_, 1) := by decide +kernel
theorem dX8_beginSigning_0 : decode cX8_beginSigning 0 = .ok (.aload_n 0, 1) := by decide +kernel
theorem dX8_beginSigning_1 : decode cX8_beginSigning 1 = .ok (.invokevirtual 19, 3) := by decide +kernel
theorem dX8_beginSigning_4 : decode cX8_beginSigning 4 = .ok (.aload_n 0, 1) := by decide +kernel
theorem dX8_beginSigning_5 : decode cX8_beginSigning 5 = .ok (.iconst 0, 1) := by decide +kernel
theorem dX8_beginSigning_6 : decode cX8_beginSigning 6 = .ok (.putfield 23, 3) := by decide +kernel
theorem dX8_beginSigning_9 : decode cX8_beginSigning 9 = .ok (.aload_n 0, 1) := by decide +kernel
theorem dX8_beginSigning_10 : decode cX8_beginSigning 10 = .ok (.iconst 0, 1) := by decide +kernel
theorem dX8_beginSigning_11 : decode cX8_beginSigning 11 = .ok (.putfield 27, 3) := by decide +kernel
theorem dX8_beginSigning_14 : decode cX8_beginSigning 14 = .ok (.aload_n 0, 1) := by decide +kernel
theorem dX8_beginSigning_15 : decode cX8_beginSigning 15 = .ok (.lconst 0, 1) := by decide +kernel
theorem dX8_beginSigning_16 : decode cX8_beginSigning 16 = .ok (.putfield 30, 3) := by decide +kernel
theorem dX8_beginSigning_19 : decode cX8_beginSigning 19 = .ok (.aload_n 0, 1) := by decide +kernel
theorem dX8_beginSigning_20 : decode cX8_beginSigning 20 = .ok (.lconst 1, 1) := by decide +kernel
theorem dX8_beginSigning_21 : decode cX8_beginSigning 21 = .ok (.iload_n 1, 1) := by decide +kernel
theorem dX8_beginSigning_22 : decode cX8_beginSigning 22 = .ok (.lshl, 1) := by decide +kernel
theorem dX8_beginSigning_23 : decode cX8_beginSigning 23 = .ok (.putfield 34, 3) := by decide +kernel
theorem dX8_beginSigning_26 : decode cX8_beginSigning 26 = .ok (.return_, 1) := by decide +kernel
theorem dX8_begin_0 : decode cX8_begin 0 = .ok (.aload_n 0, 1) := by decide +kernel
theorem dX8_begin_1 : decode cX8_begin 1 = .ok (.getfield 10, 3) := by decide +kernel
theorem dX8_begin_4 : decode cX8_begin 4 = .ok (.invokevirtual 37, 3) := by decide +kernel
theorem dX8_begin_7 : decode cX8_begin 7 = .ok (.aload_n 0, 1) := by decide +kernel
theorem dX8_begin_8 : decode cX8_begin 8 = .ok (.getfield 16, 3) := by decide +kernel
theorem dX8_begin_11 : decode cX8_begin 11 = .ok (.invokevirtual 37, 3) := by decide +kernel
theorem dX8_begin_14 : decode cX8_begin 14 = .ok (.aload_n 0, 1) := by decide +kernel
theorem dX8_begin_15 : decode cX8_begin 15 = .ok (.iconst 1, 1) := by decide +kernel
theorem dX8_begin_16 : decode cX8_begin 16 = .ok (.putfield 38, 3) := by decide +kernel
theorem dX8_begin_19 : decode cX8_begin 19 = .ok (.return_, 1) := by decide +kernel
theorem dX8_take_0 : decode cX8_take 0 = .ok (.aload_n 0, 1) := by decide +kernel
theorem dX8_take_1 : decode cX8_take 1 = .ok (.getfield 38, 3) := by decide +kernel
theorem dX8_take_4 : decode cX8_take 4 = .ok (.ifCond .eq 10, 3) := by decide +kernel
theorem dX8_take_7 : decode cX8_take 7 = .ok (.aload_n 0, 1) := by decide +kernel
theorem dX8_take_8 : decode cX8_take 8 = .ok (.getfield 10, 3) := by decide +kernel
theorem dX8_take_11 : decode cX8_take 11 = .ok (.goto 7, 3) := by decide +kernel
theorem dX8_take_14 : decode cX8_take 14 = .ok (.aload_n 0, 1) := by decide +kernel
theorem dX8_take_15 : decode cX8_take 15 = .ok (.getfield 16, 3) := by decide +kernel
theorem dX8_take_18 : decode cX8_take 18 = .ok (.astore_n 2, 1) := by decide +kernel
theorem dX8_take_19 : decode cX8_take 19 = .ok (.aload_n 2, 1) := by decide +kernel
theorem dX8_take_20 : decode cX8_take 20 = .ok (.iload_n 1, 1) := by decide +kernel
theorem dX8_take_21 : decode cX8_take 21 = .ok (.aload_n 0, 1) := by decide +kernel
theorem dX8_take_22 : decode cX8_take 22 = .ok (.getfield 23, 3) := by decide +kernel
theorem dX8_take_25 : decode cX8_take 25 = .ok (.iadd, 1) := by decide +kernel
theorem dX8_take_26 : decode cX8_take 26 = .ok (.invokevirtual 42, 3) := by decide +kernel
theorem dX8_take_29 : decode cX8_take 29 = .ok (.aload_n 0, 1) := by decide +kernel
theorem dX8_take_30 : decode cX8_take 30 = .ok (.aload_n 0, 1) := by decide +kernel
theorem dX8_take_31 : decode cX8_take 31 = .ok (.getfield 38, 3) := by decide +kernel
theorem dX8_take_34 : decode cX8_take 34 = .ok (.ifCond .ne 7, 3) := by decide +kernel
theorem dX8_take_37 : decode cX8_take 37 = .ok (.iconst 1, 1) := by decide +kernel
theorem dX8_take_38 : decode cX8_take 38 = .ok (.goto 4, 3) := by decide +kernel
theorem dX8_take_41 : decode cX8_take 41 = .ok (.iconst 0, 1) := by decide +kernel
theorem dX8_take_42 : decode cX8_take 42 = .ok (.putfield 38, 3) := by decide +kernel
theorem dX8_take_45 : decode cX8_take 45 = .ok (.return_, 1) := by decide +kernel
theorem dX8_countAll_0 : decode cX8_countAll 0 = .ok (.aload_n 0, 1) := by decide +kernel
theorem dX8_countAll_1 : decode cX8_countAll 1 = .ok (.getfield 34, 3) := by decide +kernel
theorem dX8_countAll_4 : decode cX8_countAll 4 = .ok (.lreturn, 1) := by decide +kernel
theorem dX8_upTo_0 : decode cX8_upTo 0 = .ok (.aload_n 0, 1) := by decide +kernel
theorem dX8_upTo_1 : decode cX8_upTo 1 = .ok (.getfield 27, 3) := by decide +kernel
theorem dX8_upTo_4 : decode cX8_upTo 4 = .ok (.iload_n 1, 1) := by decide +kernel
theorem dX8_upTo_5 : decode cX8_upTo 5 = .ok (.iadd, 1) := by decide +kernel
theorem dX8_upTo_6 : decode cX8_upTo 6 = .ok (.istore_n 2, 1) := by decide +kernel
theorem dX8_upTo_7 : decode cX8_upTo 7 = .ok (.aload_n 0, 1) := by decide +kernel
theorem dX8_upTo_8 : decode cX8_upTo 8 = .ok (.getfield 16, 3) := by decide +kernel
theorem dX8_upTo_11 : decode cX8_upTo 11 = .ok (.getfield 46, 3) := by decide +kernel
theorem dX8_upTo_14 : decode cX8_upTo 14 = .ok (.iconst 1, 1) := by decide +kernel
theorem dX8_upTo_15 : decode cX8_upTo 15 = .ok (.isub, 1) := by decide +kernel
theorem dX8_upTo_16 : decode cX8_upTo 16 = .ok (.istore_n 3, 1) := by decide +kernel
theorem dX8_upTo_17 : decode cX8_upTo 17 = .ok (.lconst 0, 1) := by decide +kernel
theorem dX8_upTo_18 : decode cX8_upTo 18 = .ok (.lstore 4, 2) := by decide +kernel
theorem dX8_upTo_20 : decode cX8_upTo 20 = .ok (.iconst 0, 1) := by decide +kernel
theorem dX8_upTo_21 : decode cX8_upTo 21 = .ok (.istore 6, 2) := by decide +kernel
theorem dX8_upTo_23 : decode cX8_upTo 23 = .ok (.iload 6, 2) := by decide +kernel
theorem dX8_upTo_25 : decode cX8_upTo 25 = .ok (.iload_n 3, 1) := by decide +kernel
theorem dX8_upTo_26 : decode cX8_upTo 26 = .ok (.if_icmp .gt 25, 3) := by decide +kernel
theorem dX8_upTo_29 : decode cX8_upTo 29 = .ok (.lload 4, 2) := by decide +kernel
theorem dX8_upTo_31 : decode cX8_upTo 31 = .ok (.aload_n 0, 1) := by decide +kernel
theorem dX8_upTo_32 : decode cX8_upTo 32 = .ok (.getfield 16, 3) := by decide +kernel
theorem dX8_upTo_35 : decode cX8_upTo 35 = .ok (.getfield 49, 3) := by decide +kernel
theorem dX8_upTo_38 : decode cX8_upTo 38 = .ok (.iload 6, 2) := by decide +kernel
theorem dX8_upTo_40 : decode cX8_upTo 40 = .ok (.iaload, 1) := by decide +kernel
theorem dX8_upTo_41 : decode cX8_upTo 41 = .ok (.i2l, 1) := by decide +kernel
theorem dX8_upTo_42 : decode cX8_upTo 42 = .ok (.ladd, 1) := by decide +kernel
theorem dX8_upTo_43 : decode cX8_upTo 43 = .ok (.lstore 4, 2) := by decide +kernel
theorem dX8_upTo_45 : decode cX8_upTo 45 = .ok (.iinc 6 1, 3) := by decide +kernel
theorem dX8_upTo_48 : decode cX8_upTo 48 = .ok (.goto (-25), 3) := by decide +kernel
theorem dX8_upTo_51 : decode cX8_upTo 51 = .ok (.lconst 0, 1) := by decide +kernel
theorem dX8_upTo_52 : decode cX8_upTo 52 = .ok (.lstore 6, 2) := by decide +kernel
theorem dX8_upTo_54 : decode cX8_upTo 54 = .ok (.iconst 0, 1) := by decide +kernel
theorem dX8_upTo_55 : decode cX8_upTo 55 = .ok (.istore 8, 2) := by decide +kernel
theorem dX8_upTo_57 : decode cX8_upTo 57 = .ok (.iload 8, 2) := by decide +kernel
theorem dX8_upTo_59 : decode cX8_upTo 59 = .ok (.aload_n 0, 1) := by decide +kernel
theorem dX8_upTo_60 : decode cX8_upTo 60 = .ok (.getfield 10, 3) := by decide +kernel
theorem dX8_upTo_63 : decode cX8_upTo 63 = .ok (.getfield 46, 3) := by decide +kernel
theorem dX8_upTo_66 : decode cX8_upTo 66 = .ok (.if_icmp .ge 85, 3) := by decide +kernel
theorem dX8_upTo_69 : decode cX8_upTo 69 = .ok (.iload_n 3, 1) := by decide +kernel
theorem dX8_upTo_70 : decode cX8_upTo 70 = .ok (.ifCond .lt 81, 3) := by decide +kernel
theorem dX8_upTo_73 : decode cX8_upTo 73 = .ok (.iload_n 2, 1) := by decide +kernel
theorem dX8_upTo_74 : decode cX8_upTo 74 = .ok (.aload_n 0, 1) := by decide +kernel
theorem dX8_upTo_75 : decode cX8_upTo 75 = .ok (.getfield 10, 3) := by decide +kernel
theorem dX8_upTo_78 : decode cX8_upTo 78 = .ok (.getfield 53, 3) := by decide +kernel
theorem dX8_upTo_81 : decode cX8_upTo 81 = .ok (.iload 8, 2) := by decide +kernel
theorem dX8_upTo_83 : decode cX8_upTo 83 = .ok (.iaload, 1) := by decide +kernel
theorem dX8_upTo_84 : decode cX8_upTo 84 = .ok (.isub, 1) := by decide +kernel
theorem dX8_upTo_85 : decode cX8_upTo 85 = .ok (.istore 9, 2) := by decide +kernel
theorem dX8_upTo_87 : decode cX8_upTo 87 = .ok (.iload_n 3, 1) := by decide +kernel
theorem dX8_upTo_88 : decode cX8_upTo 88 = .ok (.ifCond .lt 38, 3) := by decide +kernel
theorem dX8_upTo_91 : decode cX8_upTo 91 = .ok (.aload_n 0, 1) := by decide +kernel
theorem dX8_upTo_92 : decode cX8_upTo 92 = .ok (.getfield 16, 3) := by decide +kernel
theorem dX8_upTo_95 : decode cX8_upTo 95 = .ok (.getfield 53, 3) := by decide +kernel
theorem dX8_upTo_98 : decode cX8_upTo 98 = .ok (.iload_n 3, 1) := by decide +kernel
theorem dX8_upTo_99 : decode cX8_upTo 99 = .ok (.iaload, 1) := by decide +kernel
theorem dX8_upTo_100 : decode cX8_upTo 100 = .ok (.iload 9, 2) := by decide +kernel
theorem dX8_upTo_102 : decode cX8_upTo 102 = .ok (.if_icmp .le 24, 3) := by decide +kernel
theorem dX8_upTo_105 : decode cX8_upTo 105 = .ok (.lload 4, 2) := by decide +kernel
theorem dX8_upTo_107 : decode cX8_upTo 107 = .ok (.aload_n 0, 1) := by decide +kernel
theorem dX8_upTo_108 : decode cX8_upTo 108 = .ok (.getfield 16, 3) := by decide +kernel
theorem dX8_upTo_111 : decode cX8_upTo 111 = .ok (.getfield 49, 3) := by decide +kernel
theorem dX8_upTo_114 : decode cX8_upTo 114 = .ok (.iload_n 3, 1) := by decide +kernel
theorem dX8_upTo_115 : decode cX8_upTo 115 = .ok (.iaload, 1) := by decide +kernel
theorem dX8_upTo_116 : decode cX8_upTo 116 = .ok (.i2l, 1) := by decide +kernel
theorem dX8_upTo_117 : decode cX8_upTo 117 = .ok (.lsub, 1) := by decide +kernel
theorem dX8_upTo_118 : decode cX8_upTo 118 = .ok (.lstore 4, 2) := by decide +kernel
theorem dX8_upTo_120 : decode cX8_upTo 120 = .ok (.iinc 3 (-1), 3) := by decide +kernel
theorem dX8_upTo_123 : decode cX8_upTo 123 = .ok (.goto (-36), 3) := by decide +kernel
theorem dX8_upTo_126 : decode cX8_upTo 126 = .ok (.lload 6, 2) := by decide +kernel
theorem dX8_upTo_128 : decode cX8_upTo 128 = .ok (.aload_n 0, 1) := by decide +kernel
theorem dX8_upTo_129 : decode cX8_upTo 129 = .ok (.getfield 10, 3) := by decide +kernel
theorem dX8_upTo_132 : decode cX8_upTo 132 = .ok (.getfield 49, 3) := by decide +kernel
theorem dX8_upTo_135 : decode cX8_upTo 135 = .ok (.iload 8, 2) := by decide +kernel
theorem dX8_upTo_137 : decode cX8_upTo 137 = .ok (.iaload, 1) := by decide +kernel
theorem dX8_upTo_138 : decode cX8_upTo 138 = .ok (.i2l, 1) := by decide +kernel
theorem dX8_upTo_139 : decode cX8_upTo 139 = .ok (.lload 4, 2) := by decide +kernel
theorem dX8_upTo_141 : decode cX8_upTo 141 = .ok (.lmul, 1) := by decide +kernel
theorem dX8_upTo_142 : decode cX8_upTo 142 = .ok (.ladd, 1) := by decide +kernel
theorem dX8_upTo_143 : decode cX8_upTo 143 = .ok (.lstore 6, 2) := by decide +kernel
theorem dX8_upTo_145 : decode cX8_upTo 145 = .ok (.iinc 8 1, 3) := by decide +kernel
theorem dX8_upTo_148 : decode cX8_upTo 148 = .ok (.goto (-91), 3) := by decide +kernel
theorem dX8_upTo_151 : decode cX8_upTo 151 = .ok (.lload 6, 2) := by decide +kernel
theorem dX8_upTo_153 : decode cX8_upTo 153 = .ok (.aload_n 0, 1) := by decide +kernel
theorem dX8_upTo_154 : decode cX8_upTo 154 = .ok (.getfield 30, 3) := by decide +kernel
theorem dX8_upTo_157 : decode cX8_upTo 157 = .ok (.lsub, 1) := by decide +kernel
theorem dX8_upTo_158 : decode cX8_upTo 158 = .ok (.lreturn, 1) := by decide +kernel
theorem dX8_exactly_0 : decode cX8_exactly 0 = .ok (.aload_n 0, 1) := by decide +kernel
theorem dX8_exactly_1 : decode cX8_exactly 1 = .ok (.getfield 27, 3) := by decide +kernel
theorem dX8_exactly_4 : decode cX8_exactly 4 = .ok (.iload_n 1, 1) := by decide +kernel
theorem dX8_exactly_5 : decode cX8_exactly 5 = .ok (.iadd, 1) := by decide +kernel
theorem dX8_exactly_6 : decode cX8_exactly 6 = .ok (.istore_n 2, 1) := by decide +kernel
theorem dX8_exactly_7 : decode cX8_exactly 7 = .ok (.iconst 0, 1) := by decide +kernel
theorem dX8_exactly_8 : decode cX8_exactly 8 = .ok (.istore_n 3, 1) := by decide +kernel
theorem dX8_exactly_9 : decode cX8_exactly 9 = .ok (.aload_n 0, 1) := by decide +kernel
theorem dX8_exactly_10 : decode cX8_exactly 10 = .ok (.getfield 16, 3) := by decide +kernel
theorem dX8_exactly_13 : decode cX8_exactly 13 = .ok (.getfield 46, 3) := by decide +kernel
theorem dX8_exactly_16 : decode cX8_exactly 16 = .ok (.iconst 1, 1) := by decide +kernel
theorem dX8_exactly_17 : decode cX8_exactly 17 = .ok (.isub, 1) := by decide +kernel
theorem dX8_exactly_18 : decode cX8_exactly 18 = .ok (.istore 4, 2) := by decide +kernel
theorem dX8_exactly_20 : decode cX8_exactly 20 = .ok (.lconst 0, 1) := by decide +kernel
theorem dX8_exactly_21 : decode cX8_exactly 21 = .ok (.lstore 5, 2) := by decide +kernel
theorem dX8_exactly_23 : decode cX8_exactly 23 = .ok (.iload_n 3, 1) := by decide +kernel
theorem dX8_exactly_24 : decode cX8_exactly 24 = .ok (.aload_n 0, 1) := by decide +kernel
theorem dX8_exactly_25 : decode cX8_exactly 25 = .ok (.getfield 10, 3) := by decide +kernel
theorem dX8_exactly_28 : decode cX8_exactly 28 = .ok (.getfield 46, 3) := by decide +kernel
theorem dX8_exactly_31 : decode cX8_exactly 31 = .ok (.if_icmp .ge 81, 3) := by decide +kernel
theorem dX8_exactly_34 : decode cX8_exactly 34 = .ok (.iload 4, 2) := by decide +kernel
theorem dX8_exactly_36 : decode cX8_exactly 36 = .ok (.ifCond .lt 76, 3) := by decide +kernel
theorem dX8_exactly_39 : decode cX8_exactly 39 = .ok (.aload_n 0, 1) := by decide +kernel
theorem dX8_exactly_40 : decode cX8_exactly 40 = .ok (.getfield 10, 3) := by decide +kernel
theorem dX8_exactly_43 : decode cX8_exactly 43 = .ok (.getfield 53, 3) := by decide +kernel
theorem dX8_exactly_46 : decode cX8_exactly 46 = .ok (.iload_n 3, 1) := by decide +kernel
theorem dX8_exactly_47 : decode cX8_exactly 47 = .ok (.iaload, 1) := by decide +kernel
theorem dX8_exactly_48 : decode cX8_exactly 48 = .ok (.aload_n 0, 1) := by decide +kernel
theorem dX8_exactly_49 : decode cX8_exactly 49 = .ok (.getfield 16, 3) := by decide +kernel
theorem dX8_exactly_52 : decode cX8_exactly 52 = .ok (.getfield 53, 3) := by decide +kernel
theorem dX8_exactly_55 : decode cX8_exactly 55 = .ok (.iload 4, 2) := by decide +kernel
theorem dX8_exactly_57 : decode cX8_exactly 57 = .ok (.iaload, 1) := by decide +kernel
theorem dX8_exactly_58 : decode cX8_exactly 58 = .ok (.iadd, 1) := by decide +kernel
theorem dX8_exactly_59 : decode cX8_exactly 59 = .ok (.istore 7, 2) := by decide +kernel
theorem dX8_exactly_61 : decode cX8_exactly 61 = .ok (.iload 7, 2) := by decide +kernel
theorem dX8_exactly_63 : decode cX8_exactly 63 = .ok (.iload_n 2, 1) := by decide +kernel
theorem dX8_exactly_64 : decode cX8_exactly 64 = .ok (.if_icmp .ne 30, 3) := by decide +kernel
theorem dX8_exactly_67 : decode cX8_exactly 67 = .ok (.lload 5, 2) := by decide +kernel
theorem dX8_exactly_69 : decode cX8_exactly 69 = .ok (.aload_n 0, 1) := by decide +kernel
theorem dX8_exactly_70 : decode cX8_exactly 70 = .ok (.getfield 10, 3) := by decide +kernel
theorem dX8_exactly_73 : decode cX8_exactly 73 = .ok (.getfield 49, 3) := by decide +kernel
theorem dX8_exactly_76 : decode cX8_exactly 76 = .ok (.iload_n 3, 1) := by decide +kernel
theorem dX8_exactly_77 : decode cX8_exactly 77 = .ok (.iaload, 1) := by decide +kernel
theorem dX8_exactly_78 : decode cX8_exactly 78 = .ok (.i2l, 1) := by decide +kernel
theorem dX8_exactly_79 : decode cX8_exactly 79 = .ok (.aload_n 0, 1) := by decide +kernel
theorem dX8_exactly_80 : decode cX8_exactly 80 = .ok (.getfield 16, 3) := by decide +kernel
theorem dX8_exactly_83 : decode cX8_exactly 83 = .ok (.getfield 49, 3) := by decide +kernel
theorem dX8_exactly_86 : decode cX8_exactly 86 = .ok (.iload 4, 2) := by decide +kernel
theorem dX8_exactly_88 : decode cX8_exactly 88 = .ok (.iaload, 1) := by decide +kernel
theorem dX8_exactly_89 : decode cX8_exactly 89 = .ok (.i2l, 1) := by decide +kernel
theorem dX8_exactly_90 : decode cX8_exactly 90 = .ok (.lmul, 1) := by decide +kernel
theorem dX8_exactly_91 : decode cX8_exactly 91 = .ok (.ladd, 1) := by decide +kernel
theorem dX8_exactly_92 : decode cX8_exactly 92 = .ok (.lstore 5, 2) := by decide +kernel
theorem dX8_exactly_94 : decode cX8_exactly 94 = .ok (.iload 7, 2) := by decide +kernel
theorem dX8_exactly_96 : decode cX8_exactly 96 = .ok (.iload_n 2, 1) := by decide +kernel
theorem dX8_exactly_97 : decode cX8_exactly 97 = .ok (.if_icmp .gt 9, 3) := by decide +kernel
theorem dX8_exactly_100 : decode cX8_exactly 100 = .ok (.iinc 3 1, 3) := by decide +kernel
theorem dX8_exactly_103 : decode cX8_exactly 103 = .ok (.goto 6, 3) := by decide +kernel
theorem dX8_exactly_106 : decode cX8_exactly 106 = .ok (.iinc 4 (-1), 3) := by decide +kernel
theorem dX8_exactly_109 : decode cX8_exactly 109 = .ok (.goto (-86), 3) := by decide +kernel
theorem dX8_exactly_112 : decode cX8_exactly 112 = .ok (.lload 5, 2) := by decide +kernel
theorem dX8_exactly_114 : decode cX8_exactly 114 = .ok (.lreturn, 1) := by decide +kernel
end
section
theorem dX9_init_0 : decode cX9_init 0 = .ok (.aload_n 0, 1) := by decide +kernel
theorem dX9_init_1 : decode cX9_init 1 = .ok (.invokespecial 3, 3) := by decide +kernel
theorem dX9_init_4 : decode cX9_init 4 = .ok (.aload_n 0, 1) := by decide +kernel
theorem dX9_init_5 : decode cX9_init 5 = .ok (.sipush 1891, 3) := by decide +kernel
theorem dX9_init_8 : decode cX9_init 8 = .ok (.newarray .long, 2) := by decide +kernel
theorem dX9_init_10 : decode cX9_init 10 = .ok (.putfield 9, 3) := by decide +kernel
theorem dX9_init_13 : decode cX9_init 13 = .ok (.aload_n 0, 1) := by decide +kernel
theorem dX9_init_14 : decode cX9_init 14 = .ok (.iconst 5, 1) := by decide +kernel
theorem dX9_init_15 : decode cX9_init 15 = .ok (.newarray .int, 2) := by decide +kernel
theorem dX9_init_17 : decode cX9_init 17 = .ok (.putfield 15, 3) := by decide +kernel
theorem dX9_init_20 : decode cX9_init 20 = .ok (.aload_n 0, 1) := by decide +kernel
theorem dX9_init_21 : decode cX9_init 21 = .ok (.iconst 5, 1) := by decide +kernel
theorem dX9_init_22 : decode cX9_init 22 = .ok (.newarray .int, 2) := by decide +kernel
theorem dX9_init_24 : decode cX9_init 24 = .ok (.putfield 19, 3) := by decide +kernel
theorem dX9_init_27 : decode cX9_init 27 = .ok (.aload_n 0, 1) := by decide +kernel
theorem dX9_init_28 : decode cX9_init 28 = .ok (.bipush 25, 2) := by decide +kernel
theorem dX9_init_30 : decode cX9_init 30 = .ok (.newarray .int, 2) := by decide +kernel
theorem dX9_init_32 : decode cX9_init 32 = .ok (.putfield 22, 3) := by decide +kernel
theorem dX9_init_35 : decode cX9_init 35 = .ok (.aload_n 0, 1) := by decide +kernel
theorem dX9_init_36 : decode cX9_init 36 = .ok (.bipush 26, 2) := by decide +kernel
theorem dX9_init_38 : decode cX9_init 38 = .ok (.anewarray 25, 3) := by decide +kernel
theorem dX9_init_41 : decode cX9_init 41 = .ok (.putfield 27, 3) := by decide +kernel
theorem dX9_init_44 : decode cX9_init 44 = .ok (.aload_n 0, 1) := by decide +kernel
theorem dX9_init_45 : decode cX9_init 45 = .ok (.new 25, 3) := by decide +kernel
theorem dX9_init_48 : decode cX9_init 48 = .ok (.dup, 1) := by decide +kernel
theorem dX9_init_49 : decode cX9_init 49 = .ok (.invokespecial 31, 3) := by decide +kernel
theorem dX9_init_52 : decode cX9_init 52 = .ok (.putfield 32, 3) := by decide +kernel
theorem dX9_init_55 : decode cX9_init 55 = .ok (.aload_n 0, 1) := by decide +kernel
theorem dX9_init_56 : decode cX9_init 56 = .ok (.new 25, 3) := by decide +kernel
theorem dX9_init_59 : decode cX9_init 59 = .ok (.dup, 1) := by decide +kernel
theorem dX9_init_60 : decode cX9_init 60 = .ok (.invokespecial 31, 3) := by decide +kernel
theorem dX9_init_63 : decode cX9_init 63 = .ok (.putfield 36, 3) := by decide +kernel
theorem dX9_init_66 : decode cX9_init 66 = .ok (.aload_n 0, 1) := by decide +kernel
theorem dX9_init_67 : decode cX9_init 67 = .ok (.new 25, 3) := by decide +kernel
theorem dX9_init_70 : decode cX9_init 70 = .ok (.dup, 1) := by decide +kernel
theorem dX9_init_71 : decode cX9_init 71 = .ok (.invokespecial 31, 3) := by decide +kernel
theorem dX9_init_74 : decode cX9_init 74 = .ok (.putfield 39, 3) := by decide +kernel
theorem dX9_init_77 : decode cX9_init 77 = .ok (.aload_n 0, 1) := by decide +kernel
theorem dX9_init_78 : decode cX9_init 78 = .ok (.new 25, 3) := by decide +kernel
theorem dX9_init_81 : decode cX9_init 81 = .ok (.dup, 1) := by decide +kernel
theorem dX9_init_82 : decode cX9_init 82 = .ok (.invokespecial 31, 3) := by decide +kernel
theorem dX9_init_85 : decode cX9_init 85 = .ok (.putfield 42, 3) := by decide +kernel
theorem dX9_init_88 : decode cX9_init 88 = .ok (.aload_n 0, 1) := by decide +kernel
theorem dX9_init_89 : decode cX9_init 89 = .ok (.new 25, 3) := by decide +kernel
theorem dX9_init_92 : decode cX9_init 92 = .ok (.dup, 1) := by decide +kernel
theorem dX9_init_93 : decode cX9_init 93 = .ok (.invokespecial 31, 3) := by decide +kernel
theorem dX9_init_96 : decode cX9_init 96 = .ok (.putfield 45, 3) := by decide +kernel
theorem dX9_init_99 : decode cX9_init 99 = .ok (.iconst 0, 1) := by decide +kernel
theorem dX9_init_100 : decode cX9_init 100 = .ok (.istore_n 1, 1) := by decide +kernel
theorem dX9_init_101 : decode cX9_init 101 = .ok (.iload_n 1, 1) := by decide +kernel
theorem dX9_init_102 : decode cX9_init 102 = .ok (.bipush 25, 2) := by decide +kernel
theorem dX9_init_104 : decode cX9_init 104 = .ok (.if_icmp .gt 22, 3) := by decide +kernel
theorem dX9_init_107 : decode cX9_init 107 = .ok (.aload_n 0, 1) := by decide +kernel
theorem dX9_init_108 : decode cX9_init 108 = .ok (.getfield 27, 3) := by decide +kernel
theorem dX9_init_111 : decode cX9_init 111 = .ok (.iload_n 1, 1) := by decide +kernel
theorem dX9_init_112 : decode cX9_init 112 = .ok (.new 25, 3) := by decide +kernel
theorem dX9_init_115 : decode cX9_init 115 = .ok (.dup, 1) := by decide +kernel
theorem dX9_init_116 : decode cX9_init 116 = .ok (.invokespecial 31, 3) := by decide +kernel
theorem dX9_init_119 : decode cX9_init 119 = .ok (.aastore, 1) := by decide +kernel
theorem dX9_init_120 : decode cX9_init 120 = .ok (.iinc 1 1, 3) := by decide +kernel
theorem dX9_init_123 : decode cX9_init 123 = .ok (.goto (-22), 3) := by decide +kernel
theorem dX9_init_126 : decode cX9_init 126 = .ok (.iconst 0, 1) := by decide +kernel
theorem dX9_init_127 : decode cX9_init 127 = .ok (.istore_n 1, 1) := by decide +kernel
theorem dX9_init_128 : decode cX9_init 128 = .ok (.iconst 0, 1) := by decide +kernel
theorem dX9_init_129 : decode cX9_init 129 = .ok (.istore_n 2, 1) := by decide +kernel
theorem dX9_init_130 : decode cX9_init 130 = .ok (.iload_n 2, 1) := by decide +kernel
theorem dX9_init_131 : decode cX9_init 131 = .ok (.bipush 60, 2) := by decide +kernel
theorem dX9_init_133 : decode cX9_init 133 = .ok (.if_icmp .gt 75, 3) := by decide +kernel
theorem dX9_init_136 : decode cX9_init 136 = .ok (.iconst 0, 1) := by decide +kernel
theorem dX9_init_137 : decode cX9_init 137 = .ok (.istore_n 3, 1) := by decide +kernel
theorem dX9_init_138 : decode cX9_init 138 = .ok (.iload_n 3, 1) := by decide +kernel
theorem dX9_init_139 : decode cX9_init 139 = .ok (.iload_n 2, 1) := by decide +kernel
theorem dX9_init_140 : decode cX9_init 140 = .ok (.if_icmp .gt 62, 3) := by decide +kernel
theorem dX9_init_143 : decode cX9_init 143 = .ok (.iload_n 3, 1) := by decide +kernel
theorem dX9_init_144 : decode cX9_init 144 = .ok (.ifCond .eq 8, 3) := by decide +kernel
theorem dX9_init_147 : decode cX9_init 147 = .ok (.iload_n 3, 1) := by decide +kernel
theorem dX9_init_148 : decode cX9_init 148 = .ok (.iload_n 2, 1) := by decide +kernel
theorem dX9_init_149 : decode cX9_init 149 = .ok (.if_icmp .ne 7, 3) := by decide +kernel
theorem dX9_init_152 : decode cX9_init 152 = .ok (.iconst 1, 1) := by decide +kernel
theorem dX9_init_153 : decode cX9_init 153 = .ok (.goto 4, 3) := by decide +kernel
theorem dX9_init_156 : decode cX9_init 156 = .ok (.iconst 0, 1) := by decide +kernel
theorem dX9_init_157 : decode cX9_init 157 = .ok (.istore 4, 2) := by decide +kernel
theorem dX9_init_159 : decode cX9_init 159 = .ok (.aload_n 0, 1) := by decide +kernel
theorem dX9_init_160 : decode cX9_init 160 = .ok (.getfield 9, 3) := by decide +kernel
theorem dX9_init_163 : decode cX9_init 163 = .ok (.iload_n 1, 1) := by decide +kernel
theorem dX9_init_164 : decode cX9_init 164 = .ok (.iload 4, 2) := by decide +kernel
theorem dX9_init_166 : decode cX9_init 166 = .ok (.ifCond .eq 7, 3) := by decide +kernel
theorem dX9_init_169 : decode cX9_init 169 = .ok (.lconst 1, 1) := by decide +kernel
theorem dX9_init_170 : decode cX9_init 170 = .ok (.goto 22, 3) := by decide +kernel
theorem dX9_init_173 : decode cX9_init 173 = .ok (.aload_n 0, 1) := by decide +kernel
theorem dX9_init_174 : decode cX9_init 174 = .ok (.getfield 9, 3) := by decide +kernel
theorem dX9_init_177 : decode cX9_init 177 = .ok (.iload_n 1, 1) := by decide +kernel
theorem dX9_init_178 : decode cX9_init 178 = .ok (.iload_n 2, 1) := by decide +kernel
theorem dX9_init_179 : decode cX9_init 179 = .ok (.isub, 1) := by decide +kernel
theorem dX9_init_180 : decode cX9_init 180 = .ok (.iconst 1, 1) := by decide +kernel
theorem dX9_init_181 : decode cX9_init 181 = .ok (.isub, 1) := by decide +kernel
theorem dX9_init_182 : decode cX9_init 182 = .ok (.laload, 1) := by decide +kernel
theorem dX9_init_183 : decode cX9_init 183 = .ok (.aload_n 0, 1) := by decide +kernel
theorem dX9_init_184 : decode cX9_init 184 = .ok (.getfield 9, 3) := by decide +kernel
theorem dX9_init_187 : decode cX9_init 187 = .ok (.iload_n 1, 1) := by decide +kernel
theorem dX9_init_188 : decode cX9_init 188 = .ok (.iload_n 2, 1) := by decide +kernel
theorem dX9_init_189 : decode cX9_init 189 = .ok (.isub, 1) := by decide +kernel
theorem dX9_init_190 : decode cX9_init 190 = .ok (.laload, 1) := by decide +kernel
theorem dX9_init_191 : decode cX9_init 191 = .ok (.ladd, 1) := by decide +kernel
theorem dX9_init_192 : decode cX9_init 192 = .ok (.lastore, 1) := by decide +kernel
theorem dX9_init_193 : decode cX9_init 193 = .ok (.iinc 1 1, 3) := by decide +kernel
theorem dX9_init_196 : decode cX9_init 196 = .ok (.iinc 3 1, 3) := by decide +kernel
theorem dX9_init_199 : decode cX9_init 199 = .ok (.goto (-61), 3) := by decide +kernel
theorem dX9_init_202 : decode cX9_init 202 = .ok (.iinc 2 1, 3) := by decide +kernel
theorem dX9_init_205 : decode cX9_init 205 = .ok (.goto (-75), 3) := by decide +kernel
theorem dX9_init_208 : decode cX9_init 208 = .ok (.return_, 1) := by decide +kernel
theorem dX9_choose_0 : decode cX9_choose 0 = .ok (.iload_n 2, 1) := by decide +kernel
theorem dX9_choose_1 : decode cX9_choose 1 = .ok (.ifCond .lt 31, 3) := by decide +kernel
theorem dX9_choose_4 : decode cX9_choose 4 = .ok (.iload_n 2, 1) := by decide +kernel
theorem dX9_choose_5 : decode cX9_choose 5 = .ok (.iload_n 1, 1) := by decide +kernel
theorem dX9_choose_6 : decode cX9_choose 6 = .ok (.if_icmp .gt 26, 3) := by decide +kernel
theorem dX9_choose_9 : decode cX9_choose 9 = .ok (.iload_n 1, 1) := by decide +kernel
theorem dX9_choose_10 : decode cX9_choose 10 = .ok (.bipush 60, 2) := by decide +kernel
theorem dX9_choose_12 : decode cX9_choose 12 = .ok (.if_icmp .gt 20, 3) := by decide +kernel
theorem dX9_choose_15 : decode cX9_choose 15 = .ok (.aload_n 0, 1) := by decide +kernel
theorem dX9_choose_16 : decode cX9_choose 16 = .ok (.getfield 9, 3) := by decide +kernel
theorem dX9_choose_19 : decode cX9_choose 19 = .ok (.iload_n 1, 1) := by decide +kernel
theorem dX9_choose_20 : decode cX9_choose 20 = .ok (.iload_n 1, 1) := by decide +kernel
theorem dX9_choose_21 : decode cX9_choose 21 = .ok (.iconst 1, 1) := by decide +kernel
theorem dX9_choose_22 : decode cX9_choose 22 = .ok (.iadd, 1) := by decide +kernel
theorem dX9_choose_23 : decode cX9_choose 23 = .ok (.imul, 1) := by decide +kernel
theorem dX9_choose_24 : decode cX9_choose 24 = .ok (.iconst 2, 1) := by decide +kernel
theorem dX9_choose_25 : decode cX9_choose 25 = .ok (.idiv, 1) := by decide +kernel
theorem dX9_choose_26 : decode cX9_choose 26 = .ok (.iload_n 2, 1) := by decide +kernel
theorem dX9_choose_27 : decode cX9_choose 27 = .ok (.iadd, 1) := by decide +kernel
theorem dX9_choose_28 : decode cX9_choose 28 = .ok (.laload, 1) := by decide +kernel
theorem dX9_choose_29 : decode cX9_choose 29 = .ok (.goto 4, 3) := by decide +kernel
theorem dX9_choose_32 : decode cX9_choose 32 = .ok (.lconst 0, 1) := by decide +kernel
theorem dX9_choose_33 : decode cX9_choose 33 = .ok (.lreturn, 1) := by decide +kernel
theorem dX9_countCases_0 : decode cX9_countCases 0 = .ok (.aload_n 0, 1) := by decide +kernel
theorem dX9_countCases_1 : decode cX9_countCases 1 = .ok (.aload_n 1, 1) := by decide +kernel
theorem dX9_countCases_2 : decode cX9_countCases 2 = .ok (.invokevirtual 48, 3) := by decide +kernel
theorem dX9_countCases_5 : decode cX9_countCases 5 = .ok (.aload_n 0, 1) := by decide +kernel
theorem dX9_countCases_6 : decode cX9_countCases 6 = .ok (.iconst 0, 1) := by decide +kernel
theorem dX9_countCases_7 : decode cX9_countCases 7 = .ok (.putfield 52, 3) := by decide +kernel
theorem dX9_countCases_10 : decode cX9_countCases 10 = .ok (.aload_n 0, 1) := by decide +kernel
theorem dX9_countCases_11 : decode cX9_countCases 11 = .ok (.iconst 0, 1) := by decide +kernel
theorem dX9_countCases_12 : decode cX9_countCases 12 = .ok (.invokevirtual 56, 3) := by decide +kernel
theorem dX9_countCases_15 : decode cX9_countCases 15 = .ok (.aload_n 0, 1) := by decide +kernel
theorem dX9_countCases_16 : decode cX9_countCases 16 = .ok (.getfield 52, 3) := by decide +kernel
theorem dX9_countCases_19 : decode cX9_countCases 19 = .ok (.ireturn, 1) := by decide +kernel
theorem dX9_weighCases_0 : decode cX9_weighCases 0 = .ok (.aload_n 0, 1) := by decide +kernel
theorem dX9_weighCases_1 : decode cX9_weighCases 1 = .ok (.aload_n 1, 1) := by decide +kernel
theorem dX9_weighCases_2 : decode cX9_weighCases 2 = .ok (.invokevirtual 48, 3) := by decide +kernel
theorem dX9_weighCases_5 : decode cX9_weighCases 5 = .ok (.aload_n 0, 1) := by decide +kernel
theorem dX9_weighCases_6 : decode cX9_weighCases 6 = .ok (.aload_n 1, 1) := by decide +kernel
theorem dX9_weighCases_7 : decode cX9_weighCases 7 = .ok (.invokevirtual 60, 3) := by decide +kernel
theorem dX9_weighCases_10 : decode cX9_weighCases 10 = .ok (.invokevirtual 66, 3) := by decide +kernel
theorem dX9_weighCases_13 : decode cX9_weighCases 13 = .ok (.aload_n 0, 1) := by decide +kernel
theorem dX9_weighCases_14 : decode cX9_weighCases 14 = .ok (.aload_n 1, 1) := by decide +kernel
theorem dX9_weighCases_15 : decode cX9_weighCases 15 = .ok (.invokevirtual 69, 3) := by decide +kernel
theorem dX9_weighCases_18 : decode cX9_weighCases 18 = .ok (.aload_n 0, 1) := by decide +kernel
theorem dX9_weighCases_19 : decode cX9_weighCases 19 = .ok (.aload_n 1, 1) := by decide +kernel
theorem dX9_weighCases_20 : decode cX9_weighCases 20 = .ok (.invokevirtual 48, 3) := by decide +kernel
theorem dX9_weighCases_23 : decode cX9_weighCases 23 = .ok (.aload_n 0, 1) := by decide +kernel
theorem dX9_weighCases_24 : decode cX9_weighCases 24 = .ok (.getfield 39, 3) := by decide +kernel
theorem dX9_weighCases_27 : decode cX9_weighCases 27 = .ok (.lconst 0, 1) := by decide +kernel
theorem dX9_weighCases_28 : decode cX9_weighCases 28 = .ok (.invokevirtual 72, 3) := by decide +kernel
theorem dX9_weighCases_31 : decode cX9_weighCases 31 = .ok (.aload_n 0, 1) := by decide +kernel
theorem dX9_weighCases_32 : decode cX9_weighCases 32 = .ok (.getfield 42, 3) := by decide +kernel
theorem dX9_weighCases_35 : decode cX9_weighCases 35 = .ok (.lconst 0, 1) := by decide +kernel
theorem dX9_weighCases_36 : decode cX9_weighCases 36 = .ok (.invokevirtual 72, 3) := by decide +kernel
theorem dX9_weighCases_39 : decode cX9_weighCases 39 = .ok (.aload_n 0, 1) := by decide +kernel
theorem dX9_weighCases_40 : decode cX9_weighCases 40 = .ok (.getfield 45, 3) := by decide +kernel
theorem dX9_weighCases_43 : decode cX9_weighCases 43 = .ok (.lconst 0, 1) := by decide +kernel
theorem dX9_weighCases_44 : decode cX9_weighCases 44 = .ok (.invokevirtual 72, 3) := by decide +kernel
theorem dX9_weighCases_47 : decode cX9_weighCases 47 = .ok (.aload_n 0, 1) := by decide +kernel
theorem dX9_weighCases_48 : decode cX9_weighCases 48 = .ok (.getfield 27, 3) := by decide +kernel
theorem dX9_weighCases_51 : decode cX9_weighCases 51 = .ok (.iconst 0, 1) := by decide +kernel
theorem dX9_weighCases_52 : decode cX9_weighCases 52 = .ok (.aaload, 1) := by decide +kernel
theorem dX9_weighCases_53 : decode cX9_weighCases 53 = .ok (.lconst 1, 1) := by decide +kernel
theorem dX9_weighCases_54 : decode cX9_weighCases 54 = .ok (.invokevirtual 72, 3) := by decide +kernel
theorem dX9_weighCases_57 : decode cX9_weighCases 57 = .ok (.aload_n 0, 1) := by decide +kernel
theorem dX9_weighCases_58 : decode cX9_weighCases 58 = .ok (.aload_n 2, 1) := by decide +kernel
theorem dX9_weighCases_59 : decode cX9_weighCases 59 = .ok (.putfield 76, 3) := by decide +kernel
theorem dX9_weighCases_62 : decode cX9_weighCases 62 = .ok (.aload_n 0, 1) := by decide +kernel
theorem dX9_weighCases_63 : decode cX9_weighCases 63 = .ok (.iconst 0, 1) := by decide +kernel
theorem dX9_weighCases_64 : decode cX9_weighCases 64 = .ok (.invokevirtual 80, 3) := by decide +kernel
theorem dX9_weighCases_67 : decode cX9_weighCases 67 = .ok (.return_, 1) := by decide +kernel
theorem dX9_begin_0 : decode cX9_begin 0 = .ok (.aload_n 0, 1) := by decide +kernel
theorem dX9_begin_1 : decode cX9_begin 1 = .ok (.aload_n 1, 1) := by decide +kernel
theorem dX9_begin_2 : decode cX9_begin 2 = .ok (.invokevirtual 83, 3) := by decide +kernel
theorem dX9_begin_5 : decode cX9_begin 5 = .ok (.iconst 5, 1) := by decide +kernel
theorem dX9_begin_6 : decode cX9_begin 6 = .ok (.invokestatic 86, 3) := by decide +kernel
theorem dX9_begin_9 : decode cX9_begin 9 = .ok (.putfield 92, 3) := by decide +kernel
theorem dX9_begin_12 : decode cX9_begin 12 = .ok (.aload_n 0, 1) := by decide +kernel
theorem dX9_begin_13 : decode cX9_begin 13 = .ok (.aload_n 1, 1) := by decide +kernel
theorem dX9_begin_14 : decode cX9_begin 14 = .ok (.invokevirtual 94, 3) := by decide +kernel
theorem dX9_begin_17 : decode cX9_begin 17 = .ok (.iconst 5, 1) := by decide +kernel
theorem dX9_begin_18 : decode cX9_begin 18 = .ok (.invokestatic 86, 3) := by decide +kernel
theorem dX9_begin_21 : decode cX9_begin 21 = .ok (.putfield 97, 3) := by decide +kernel
theorem dX9_begin_24 : decode cX9_begin 24 = .ok (.aload_n 0, 1) := by decide +kernel
theorem dX9_begin_25 : decode cX9_begin 25 = .ok (.aload_n 1, 1) := by decide +kernel
theorem dX9_begin_26 : decode cX9_begin 26 = .ok (.iconst 0, 1) := by decide +kernel
theorem dX9_begin_27 : decode cX9_begin 27 = .ok (.iconst 0, 1) := by decide +kernel
theorem dX9_begin_28 : decode cX9_begin 28 = .ok (.invokevirtual 99, 3) := by decide +kernel
theorem dX9_begin_31 : decode cX9_begin 31 = .ok (.putfield 102, 3) := by decide +kernel
theorem dX9_begin_34 : decode cX9_begin 34 = .ok (.iconst 0, 1) := by decide +kernel
theorem dX9_begin_35 : decode cX9_begin 35 = .ok (.istore_n 2, 1) := by decide +kernel
theorem dX9_begin_36 : decode cX9_begin 36 = .ok (.iload_n 2, 1) := by decide +kernel
theorem dX9_begin_37 : decode cX9_begin 37 = .ok (.aload_n 0, 1) := by decide +kernel
theorem dX9_begin_38 : decode cX9_begin 38 = .ok (.getfield 92, 3) := by decide +kernel
theorem dX9_begin_41 : decode cX9_begin 41 = .ok (.if_icmp .ge 20, 3) := by decide +kernel
theorem dX9_begin_44 : decode cX9_begin 44 = .ok (.aload_n 0, 1) := by decide +kernel
theorem dX9_begin_45 : decode cX9_begin 45 = .ok (.getfield 15, 3) := by decide +kernel
theorem dX9_begin_48 : decode cX9_begin 48 = .ok (.iload_n 2, 1) := by decide +kernel
theorem dX9_begin_49 : decode cX9_begin 49 = .ok (.aload_n 1, 1) := by decide +kernel
theorem dX9_begin_50 : decode cX9_begin 50 = .ok (.iload_n 2, 1) := by decide +kernel
theorem dX9_begin_51 : decode cX9_begin 51 = .ok (.invokevirtual 105, 3) := by decide +kernel
theorem dX9_begin_54 : decode cX9_begin 54 = .ok (.iastore, 1) := by decide +kernel
theorem dX9_begin_55 : decode cX9_begin 55 = .ok (.iinc 2 1, 3) := by decide +kernel
theorem dX9_begin_58 : decode cX9_begin 58 = .ok (.goto (-22), 3) := by decide +kernel
theorem dX9_begin_61 : decode cX9_begin 61 = .ok (.iconst 0, 1) := by decide +kernel
theorem dX9_begin_62 : decode cX9_begin 62 = .ok (.istore_n 2, 1) := by decide +kernel
theorem dX9_begin_63 : decode cX9_begin 63 = .ok (.iload_n 2, 1) := by decide +kernel
theorem dX9_begin_64 : decode cX9_begin 64 = .ok (.aload_n 0, 1) := by decide +kernel
theorem dX9_begin_65 : decode cX9_begin 65 = .ok (.getfield 97, 3) := by decide +kernel
theorem dX9_begin_68 : decode cX9_begin 68 = .ok (.if_icmp .ge 20, 3) := by decide +kernel
theorem dX9_begin_71 : decode cX9_begin 71 = .ok (.aload_n 0, 1) := by decide +kernel
theorem dX9_begin_72 : decode cX9_begin 72 = .ok (.getfield 19, 3) := by decide +kernel
theorem dX9_begin_75 : decode cX9_begin 75 = .ok (.iload_n 2, 1) := by decide +kernel
theorem dX9_begin_76 : decode cX9_begin 76 = .ok (.aload_n 1, 1) := by decide +kernel
theorem dX9_begin_77 : decode cX9_begin 77 = .ok (.iload_n 2, 1) := by decide +kernel
theorem dX9_begin_78 : decode cX9_begin 78 = .ok (.invokevirtual 109, 3) := by decide +kernel
theorem dX9_begin_81 : decode cX9_begin 81 = .ok (.iastore, 1) := by decide +kernel
theorem dX9_begin_82 : decode cX9_begin 82 = .ok (.iinc 2 1, 3) := by decide +kernel
theorem dX9_begin_85 : decode cX9_begin 85 = .ok (.goto (-22), 3) := by decide +kernel
theorem dX9_begin_88 : decode cX9_begin 88 = .ok (.return_, 1) := by decide +kernel
theorem dX9_weighAll_0 : decode cX9_weighAll 0 = .ok (.iload_n 1, 1) := by decide +kernel
theorem dX9_weighAll_1 : decode cX9_weighAll 1 = .ok (.istore_n 2, 1) := by decide +kernel
theorem dX9_weighAll_2 : decode cX9_weighAll 2 = .ok (.aload_n 0, 1) := by decide +kernel
theorem dX9_weighAll_3 : decode cX9_weighAll 3 = .ok (.getfield 32, 3) := by decide +kernel
theorem dX9_weighAll_6 : decode cX9_weighAll 6 = .ok (.lconst 1, 1) := by decide +kernel
theorem dX9_weighAll_7 : decode cX9_weighAll 7 = .ok (.invokevirtual 72, 3) := by decide +kernel
theorem dX9_weighAll_10 : decode cX9_weighAll 10 = .ok (.iconst 0, 1) := by decide +kernel
theorem dX9_weighAll_11 : decode cX9_weighAll 11 = .ok (.istore_n 3, 1) := by decide +kernel
theorem dX9_weighAll_12 : decode cX9_weighAll 12 = .ok (.iload_n 3, 1) := by decide +kernel
theorem dX9_weighAll_13 : decode cX9_weighAll 13 = .ok (.aload_n 0, 1) := by decide +kernel
theorem dX9_weighAll_14 : decode cX9_weighAll 14 = .ok (.getfield 92, 3) := by decide +kernel
theorem dX9_weighAll_17 : decode cX9_weighAll 17 = .ok (.if_icmp .ge 55, 3) := by decide +kernel
theorem dX9_weighAll_20 : decode cX9_weighAll 20 = .ok (.aload_n 0, 1) := by decide +kernel
theorem dX9_weighAll_21 : decode cX9_weighAll 21 = .ok (.getfield 27, 3) := by decide +kernel
theorem dX9_weighAll_24 : decode cX9_weighAll 24 = .ok (.iconst 0, 1) := by decide +kernel
theorem dX9_weighAll_25 : decode cX9_weighAll 25 = .ok (.aaload, 1) := by decide +kernel
theorem dX9_weighAll_26 : decode cX9_weighAll 26 = .ok (.aload_n 0, 1) := by decide +kernel
theorem dX9_weighAll_27 : decode cX9_weighAll 27 = .ok (.getfield 32, 3) := by decide +kernel
theorem dX9_weighAll_30 : decode cX9_weighAll 30 = .ok (.invokevirtual 112, 3) := by decide +kernel
theorem dX9_weighAll_33 : decode cX9_weighAll 33 = .ok (.aload_n 0, 1) := by decide +kernel
theorem dX9_weighAll_34 : decode cX9_weighAll 34 = .ok (.getfield 32, 3) := by decide +kernel
theorem dX9_weighAll_37 : decode cX9_weighAll 37 = .ok (.aload_n 0, 1) := by decide +kernel
theorem dX9_weighAll_38 : decode cX9_weighAll 38 = .ok (.getfield 27, 3) := by decide +kernel
theorem dX9_weighAll_41 : decode cX9_weighAll 41 = .ok (.iconst 0, 1) := by decide +kernel
theorem dX9_weighAll_42 : decode cX9_weighAll 42 = .ok (.aaload, 1) := by decide +kernel
theorem dX9_weighAll_43 : decode cX9_weighAll 43 = .ok (.aload_n 0, 1) := by decide +kernel
theorem dX9_weighAll_44 : decode cX9_weighAll 44 = .ok (.iload_n 2, 1) := by decide +kernel
theorem dX9_weighAll_45 : decode cX9_weighAll 45 = .ok (.aload_n 0, 1) := by decide +kernel
theorem dX9_weighAll_46 : decode cX9_weighAll 46 = .ok (.getfield 15, 3) := by decide +kernel
theorem dX9_weighAll_49 : decode cX9_weighAll 49 = .ok (.iload_n 3, 1) := by decide +kernel
theorem dX9_weighAll_50 : decode cX9_weighAll 50 = .ok (.iaload, 1) := by decide +kernel
theorem dX9_weighAll_51 : decode cX9_weighAll 51 = .ok (.invokevirtual 116, 3) := by decide +kernel
theorem dX9_weighAll_54 : decode cX9_weighAll 54 = .ok (.invokevirtual 120, 3) := by decide +kernel
theorem dX9_weighAll_57 : decode cX9_weighAll 57 = .ok (.iload_n 2, 1) := by decide +kernel
theorem dX9_weighAll_58 : decode cX9_weighAll 58 = .ok (.aload_n 0, 1) := by decide +kernel
theorem dX9_weighAll_59 : decode cX9_weighAll 59 = .ok (.getfield 15, 3) := by decide +kernel
theorem dX9_weighAll_62 : decode cX9_weighAll 62 = .ok (.iload_n 3, 1) := by decide +kernel
theorem dX9_weighAll_63 : decode cX9_weighAll 63 = .ok (.iaload, 1) := by decide +kernel
theorem dX9_weighAll_64 : decode cX9_weighAll 64 = .ok (.isub, 1) := by decide +kernel
theorem dX9_weighAll_65 : decode cX9_weighAll 65 = .ok (.istore_n 2, 1) := by decide +kernel
theorem dX9_weighAll_66 : decode cX9_weighAll 66 = .ok (.iinc 3 1, 3) := by decide +kernel
theorem dX9_weighAll_69 : decode cX9_weighAll 69 = .ok (.goto (-57), 3) := by decide +kernel
theorem dX9_weighAll_72 : decode cX9_weighAll 72 = .ok (.return_, 1) := by decide +kernel
theorem dX9_weighSeen_0 : decode cX9_weighSeen 0 = .ok (.aload_n 0, 1) := by decide +kernel
theorem dX9_weighSeen_1 : decode cX9_weighSeen 1 = .ok (.getfield 36, 3) := by decide +kernel
theorem dX9_weighSeen_4 : decode cX9_weighSeen 4 = .ok (.lconst 1, 1) := by decide +kernel
theorem dX9_weighSeen_5 : decode cX9_weighSeen 5 = .ok (.invokevirtual 72, 3) := by decide +kernel
theorem dX9_weighSeen_8 : decode cX9_weighSeen 8 = .ok (.iconst 0, 1) := by decide +kernel
theorem dX9_weighSeen_9 : decode cX9_weighSeen 9 = .ok (.istore_n 2, 1) := by decide +kernel
theorem dX9_weighSeen_10 : decode cX9_weighSeen 10 = .ok (.iload_n 2, 1) := by decide +kernel
theorem dX9_weighSeen_11 : decode cX9_weighSeen 11 = .ok (.aload_n 0, 1) := by decide +kernel
theorem dX9_weighSeen_12 : decode cX9_weighSeen 12 = .ok (.getfield 92, 3) := by decide +kernel
theorem dX9_weighSeen_15 : decode cX9_weighSeen 15 = .ok (.if_icmp .ge 82, 3) := by decide +kernel
theorem dX9_weighSeen_18 : decode cX9_weighSeen 18 = .ok (.iconst 0, 1) := by decide +kernel
theorem dX9_weighSeen_19 : decode cX9_weighSeen 19 = .ok (.istore_n 3, 1) := by decide +kernel
theorem dX9_weighSeen_20 : decode cX9_weighSeen 20 = .ok (.iload_n 3, 1) := by decide +kernel
theorem dX9_weighSeen_21 : decode cX9_weighSeen 21 = .ok (.aload_n 0, 1) := by decide +kernel
theorem dX9_weighSeen_22 : decode cX9_weighSeen 22 = .ok (.getfield 97, 3) := by decide +kernel
theorem dX9_weighSeen_25 : decode cX9_weighSeen 25 = .ok (.if_icmp .ge 66, 3) := by decide +kernel
theorem dX9_weighSeen_28 : decode cX9_weighSeen 28 = .ok (.aload_n 1, 1) := by decide +kernel
theorem dX9_weighSeen_29 : decode cX9_weighSeen 29 = .ok (.iload_n 2, 1) := by decide +kernel
theorem dX9_weighSeen_30 : decode cX9_weighSeen 30 = .ok (.iload_n 3, 1) := by decide +kernel
theorem dX9_weighSeen_31 : decode cX9_weighSeen 31 = .ok (.invokevirtual 99, 3) := by decide +kernel
theorem dX9_weighSeen_34 : decode cX9_weighSeen 34 = .ok (.istore 4, 2) := by decide +kernel
theorem dX9_weighSeen_36 : decode cX9_weighSeen 36 = .ok (.aload_n 0, 1) := by decide +kernel
theorem dX9_weighSeen_37 : decode cX9_weighSeen 37 = .ok (.getfield 27, 3) := by decide +kernel
theorem dX9_weighSeen_40 : decode cX9_weighSeen 40 = .ok (.iconst 0, 1) := by decide +kernel
theorem dX9_weighSeen_41 : decode cX9_weighSeen 41 = .ok (.aaload, 1) := by decide +kernel
theorem dX9_weighSeen_42 : decode cX9_weighSeen 42 = .ok (.aload_n 0, 1) := by decide +kernel
theorem dX9_weighSeen_43 : decode cX9_weighSeen 43 = .ok (.getfield 36, 3) := by decide +kernel
theorem dX9_weighSeen_46 : decode cX9_weighSeen 46 = .ok (.invokevirtual 112, 3) := by decide +kernel
theorem dX9_weighSeen_49 : decode cX9_weighSeen 49 = .ok (.aload_n 0, 1) := by decide +kernel
theorem dX9_weighSeen_50 : decode cX9_weighSeen 50 = .ok (.getfield 36, 3) := by decide +kernel
theorem dX9_weighSeen_53 : decode cX9_weighSeen 53 = .ok (.aload_n 0, 1) := by decide +kernel
theorem dX9_weighSeen_54 : decode cX9_weighSeen 54 = .ok (.getfield 27, 3) := by decide +kernel
theorem dX9_weighSeen_57 : decode cX9_weighSeen 57 = .ok (.iconst 0, 1) := by decide +kernel
theorem dX9_weighSeen_58 : decode cX9_weighSeen 58 = .ok (.aaload, 1) := by decide +kernel
theorem dX9_weighSeen_59 : decode cX9_weighSeen 59 = .ok (.aload_n 0, 1) := by decide +kernel
theorem dX9_weighSeen_60 : decode cX9_weighSeen 60 = .ok (.aload_n 0, 1) := by decide +kernel
theorem dX9_weighSeen_61 : decode cX9_weighSeen 61 = .ok (.getfield 19, 3) := by decide +kernel
theorem dX9_weighSeen_64 : decode cX9_weighSeen 64 = .ok (.iload_n 3, 1) := by decide +kernel
theorem dX9_weighSeen_65 : decode cX9_weighSeen 65 = .ok (.iaload, 1) := by decide +kernel
theorem dX9_weighSeen_66 : decode cX9_weighSeen 66 = .ok (.iload 4, 2) := by decide +kernel
theorem dX9_weighSeen_68 : decode cX9_weighSeen 68 = .ok (.invokevirtual 116, 3) := by decide +kernel
theorem dX9_weighSeen_71 : decode cX9_weighSeen 71 = .ok (.invokevirtual 120, 3) := by decide +kernel
theorem dX9_weighSeen_74 : decode cX9_weighSeen 74 = .ok (.aload_n 0, 1) := by decide +kernel
theorem dX9_weighSeen_75 : decode cX9_weighSeen 75 = .ok (.getfield 19, 3) := by decide +kernel
theorem dX9_weighSeen_78 : decode cX9_weighSeen 78 = .ok (.iload_n 3, 1) := by decide +kernel
theorem dX9_weighSeen_79 : decode cX9_weighSeen 79 = .ok (.dup2, 1) := by decide +kernel
theorem dX9_weighSeen_80 : decode cX9_weighSeen 80 = .ok (.iaload, 1) := by decide +kernel
theorem dX9_weighSeen_81 : decode cX9_weighSeen 81 = .ok (.iload 4, 2) := by decide +kernel
theorem dX9_weighSeen_83 : decode cX9_weighSeen 83 = .ok (.isub, 1) := by decide +kernel
theorem dX9_weighSeen_84 : decode cX9_weighSeen 84 = .ok (.iastore, 1) := by decide +kernel
theorem dX9_weighSeen_85 : decode cX9_weighSeen 85 = .ok (.iinc 3 1, 3) := by decide +kernel
theorem dX9_weighSeen_88 : decode cX9_weighSeen 88 = .ok (.goto (-68), 3) := by decide +kernel
theorem dX9_weighSeen_91 : decode cX9_weighSeen 91 = .ok (.iinc 2 1, 3) := by decide +kernel
theorem dX9_weighSeen_94 : decode cX9_weighSeen 94 = .ok (.goto (-84), 3) := by decide +kernel
theorem dX9_weighSeen_97 : decode cX9_weighSeen 97 = .ok (.return_, 1) := by decide +kernel
theorem dX9_sumOfColumnsLeft_0 : decode cX9_sumOfColumnsLeft 0 = .ok (.iconst 0, 1) := by decide +kernel
theorem dX9_sumOfColumnsLeft_1 : decode cX9_sumOfColumnsLeft 1 = .ok (.istore_n 1, 1) := by decide +kernel
theorem dX9_sumOfColumnsLeft_2 : decode cX9_sumOfColumnsLeft 2 = .ok (.iconst 0, 1) := by decide +kernel
theorem dX9_sumOfColumnsLeft_3 : decode cX9_sumOfColumnsLeft 3 = .ok (.istore_n 2, 1) := by decide +kernel
theorem dX9_sumOfColumnsLeft_4 : decode cX9_sumOfColumnsLeft 4 = .ok (.iload_n 2, 1) := by decide +kernel
theorem dX9_sumOfColumnsLeft_5 : decode cX9_sumOfColumnsLeft 5 = .ok (.aload_n 0, 1) := by decide +kernel
theorem dX9_sumOfColumnsLeft_6 : decode cX9_sumOfColumnsLeft 6 = .ok (.getfield 97, 3) := by decide +kernel
theorem dX9_sumOfColumnsLeft_9 : decode cX9_sumOfColumnsLeft 9 = .ok (.if_icmp .ge 18, 3) := by decide +kernel
theorem dX9_sumOfColumnsLeft_12 : decode cX9_sumOfColumnsLeft 12 = .ok (.iload_n 1, 1) := by decide +kernel
theorem dX9_sumOfColumnsLeft_13 : decode cX9_sumOfColumnsLeft 13 = .ok (.aload_n 0, 1) := by decide +kernel
theorem dX9_sumOfColumnsLeft_14 : decode cX9_sumOfColumnsLeft 14 = .ok (.getfield 19, 3) := by decide +kernel
theorem dX9_sumOfColumnsLeft_17 : decode cX9_sumOfColumnsLeft 17 = .ok (.iload_n 2, 1) := by decide +kernel
theorem dX9_sumOfColumnsLeft_18 : decode cX9_sumOfColumnsLeft 18 = .ok (.iaload, 1) := by decide +kernel
theorem dX9_sumOfColumnsLeft_19 : decode cX9_sumOfColumnsLeft 19 = .ok (.iadd, 1) := by decide +kernel
theorem dX9_sumOfColumnsLeft_20 : decode cX9_sumOfColumnsLeft 20 = .ok (.istore_n 1, 1) := by decide +kernel
theorem dX9_sumOfColumnsLeft_21 : decode cX9_sumOfColumnsLeft 21 = .ok (.iinc 2 1, 3) := by decide +kernel
theorem dX9_sumOfColumnsLeft_24 : decode cX9_sumOfColumnsLeft 24 = .ok (.goto (-20), 3) := by decide +kernel
theorem dX9_sumOfColumnsLeft_27 : decode cX9_sumOfColumnsLeft 27 = .ok (.iload_n 1, 1) := by decide +kernel
theorem dX9_sumOfColumnsLeft_28 : decode cX9_sumOfColumnsLeft 28 = .ok (.ireturn, 1) := by decide +kernel
theorem dX9_countRow_0 : decode cX9_countRow 0 = .ok (.iload_n 1, 1) := by decide +kernel
theorem dX9_countRow_1 : decode cX9_countRow 1 = .ok (.iconst 1, 1) := by decide +kernel
theorem dX9_countRow_2 : decode cX9_countRow 2 = .ok (.iadd, 1) := by decide +kernel
theorem dX9_countRow_3 : decode cX9_countRow 3 = .ok (.aload_n 0, 1) := by decide +kernel
theorem dX9_countRow_4 : decode cX9_countRow 4 = .ok (.getfield 92, 3) := by decide +kernel
theorem dX9_countRow_7 : decode cX9_countRow 7 = .ok (.if_icmp .ge 22, 3) := by decide +kernel
theorem dX9_countRow_10 : decode cX9_countRow 10 = .ok (.aload_n 0, 1) := by decide +kernel
theorem dX9_countRow_11 : decode cX9_countRow 11 = .ok (.iload_n 1, 1) := by decide +kernel
theorem dX9_countRow_12 : decode cX9_countRow 12 = .ok (.iconst 0, 1) := by decide +kernel
theorem dX9_countRow_13 : decode cX9_countRow 13 = .ok (.aload_n 0, 1) := by decide +kernel
theorem dX9_countRow_14 : decode cX9_countRow 14 = .ok (.getfield 15, 3) := by decide +kernel
theorem dX9_countRow_17 : decode cX9_countRow 17 = .ok (.iload_n 1, 1) := by decide +kernel
theorem dX9_countRow_18 : decode cX9_countRow 18 = .ok (.iaload, 1) := by decide +kernel
theorem dX9_countRow_19 : decode cX9_countRow 19 = .ok (.aload_n 0, 1) := by decide +kernel
theorem dX9_countRow_20 : decode cX9_countRow 20 = .ok (.invokevirtual 124, 3) := by decide +kernel
theorem dX9_countRow_23 : decode cX9_countRow 23 = .ok (.invokevirtual 127, 3) := by decide +kernel
theorem dX9_countRow_26 : decode cX9_countRow 26 = .ok (.goto 13, 3) := by decide +kernel
theorem dX9_countRow_29 : decode cX9_countRow 29 = .ok (.aload_n 0, 1) := by decide +kernel
theorem dX9_countRow_30 : decode cX9_countRow 30 = .ok (.dup, 1) := by decide +kernel
theorem dX9_countRow_31 : decode cX9_countRow 31 = .ok (.getfield 52, 3) := by decide +kernel
theorem dX9_countRow_34 : decode cX9_countRow 34 = .ok (.iconst 1, 1) := by decide +kernel
theorem dX9_countRow_35 : decode cX9_countRow 35 = .ok (.iadd, 1) := by decide +kernel
theorem dX9_countRow_36 : decode cX9_countRow 36 = .ok (.putfield 52, 3) := by decide +kernel
theorem dX9_countRow_39 : decode cX9_countRow 39 = .ok (.return_, 1) := by decide +kernel
theorem dX9_countCell_0 : decode cX9_countCell 0 = .ok (.aload_n 0, 1) := by decide +kernel
theorem dX9_countCell_1 : decode cX9_countCell 1 = .ok (.getfield 19, 3) := by decide +kernel
theorem dX9_countCell_4 : decode cX9_countCell 4 = .ok (.iload_n 2, 1) := by decide +kernel
theorem dX9_countCell_5 : decode cX9_countCell 5 = .ok (.iaload, 1) := by decide +kernel
theorem dX9_countCell_6 : decode cX9_countCell 6 = .ok (.istore 5, 2) := by decide +kernel
theorem dX9_countCell_8 : decode cX9_countCell 8 = .ok (.iload 4, 2) := by decide +kernel
theorem dX9_countCell_10 : decode cX9_countCell 10 = .ok (.iload 5, 2) := by decide +kernel
theorem dX9_countCell_12 : decode cX9_countCell 12 = .ok (.isub, 1) := by decide +kernel
theorem dX9_countCell_13 : decode cX9_countCell 13 = .ok (.istore 6, 2) := by decide +kernel
theorem dX9_countCell_15 : decode cX9_countCell 15 = .ok (.iconst 0, 1) := by decide +kernel
theorem dX9_countCell_16 : decode cX9_countCell 16 = .ok (.iload_n 3, 1) := by decide +kernel
theorem dX9_countCell_17 : decode cX9_countCell 17 = .ok (.iload 6, 2) := by decide +kernel
theorem dX9_countCell_19 : decode cX9_countCell 19 = .ok (.isub, 1) := by decide +kernel
theorem dX9_countCell_20 : decode cX9_countCell 20 = .ok (.invokestatic 131, 3) := by decide +kernel
theorem dX9_countCell_23 : decode cX9_countCell 23 = .ok (.istore 7, 2) := by decide +kernel
theorem dX9_countCell_25 : decode cX9_countCell 25 = .ok (.iload_n 3, 1) := by decide +kernel
theorem dX9_countCell_26 : decode cX9_countCell 26 = .ok (.iload 5, 2) := by decide +kernel
theorem dX9_countCell_28 : decode cX9_countCell 28 = .ok (.invokestatic 86, 3) := by decide +kernel
theorem dX9_countCell_31 : decode cX9_countCell 31 = .ok (.istore 8, 2) := by decide +kernel
theorem dX9_countCell_33 : decode cX9_countCell 33 = .ok (.iload_n 1, 1) := by decide +kernel
theorem dX9_countCell_34 : decode cX9_countCell 34 = .ok (.iconst 2, 1) := by decide +kernel
theorem dX9_countCell_35 : decode cX9_countCell 35 = .ok (.iadd, 1) := by decide +kernel
theorem dX9_countCell_36 : decode cX9_countCell 36 = .ok (.aload_n 0, 1) := by decide +kernel
theorem dX9_countCell_37 : decode cX9_countCell 37 = .ok (.getfield 92, 3) := by decide +kernel
theorem dX9_countCell_40 : decode cX9_countCell 40 = .ok (.if_icmp .ne 30, 3) := by decide +kernel
theorem dX9_countCell_43 : decode cX9_countCell 43 = .ok (.iload_n 2, 1) := by decide +kernel
theorem dX9_countCell_44 : decode cX9_countCell 44 = .ok (.iconst 2, 1) := by decide +kernel
theorem dX9_countCell_45 : decode cX9_countCell 45 = .ok (.iadd, 1) := by decide +kernel
theorem dX9_countCell_46 : decode cX9_countCell 46 = .ok (.aload_n 0, 1) := by decide +kernel
theorem dX9_countCell_47 : decode cX9_countCell 47 = .ok (.getfield 97, 3) := by decide +kernel
theorem dX9_countCell_50 : decode cX9_countCell 50 = .ok (.if_icmp .ne 20, 3) := by decide +kernel
theorem dX9_countCell_53 : decode cX9_countCell 53 = .ok (.aload_n 0, 1) := by decide +kernel
theorem dX9_countCell_54 : decode cX9_countCell 54 = .ok (.dup, 1) := by decide +kernel
theorem dX9_countCell_55 : decode cX9_countCell 55 = .ok (.getfield 52, 3) := by decide +kernel
theorem dX9_countCell_58 : decode cX9_countCell 58 = .ok (.iload 8, 2) := by decide +kernel
theorem dX9_countCell_60 : decode cX9_countCell 60 = .ok (.iload 7, 2) := by decide +kernel
theorem dX9_countCell_62 : decode cX9_countCell 62 = .ok (.isub, 1) := by decide +kernel
theorem dX9_countCell_63 : decode cX9_countCell 63 = .ok (.iconst 1, 1) := by decide +kernel
theorem dX9_countCell_64 : decode cX9_countCell 64 = .ok (.iadd, 1) := by decide +kernel
theorem dX9_countCell_65 : decode cX9_countCell 65 = .ok (.iadd, 1) := by decide +kernel
theorem dX9_countCell_66 : decode cX9_countCell 66 = .ok (.putfield 52, 3) := by decide +kernel
theorem dX9_countCell_69 : decode cX9_countCell 69 = .ok (.return_, 1) := by decide +kernel
theorem dX9_countCell_70 : decode cX9_countCell 70 = .ok (.iload 7, 2) := by decide +kernel
theorem dX9_countCell_72 : decode cX9_countCell 72 = .ok (.istore 9, 2) := by decide +kernel
theorem dX9_countCell_74 : decode cX9_countCell 74 = .ok (.iload 9, 2) := by decide +kernel
theorem dX9_countCell_76 : decode cX9_countCell 76 = .ok (.iload 8, 2) := by decide +kernel
theorem dX9_countCell_78 : decode cX9_countCell 78 = .ok (.if_icmp .gt 64, 3) := by decide +kernel
theorem dX9_countCell_81 : decode cX9_countCell 81 = .ok (.aload_n 0, 1) := by decide +kernel
theorem dX9_countCell_82 : decode cX9_countCell 82 = .ok (.getfield 52, 3) := by decide +kernel
theorem dX9_countCell_85 : decode cX9_countCell 85 = .ok (.sipush 20000, 3) := by decide +kernel
theorem dX9_countCell_88 : decode cX9_countCell 88 = .ok (.if_icmp .gt 54, 3) := by decide +kernel
theorem dX9_countCell_91 : decode cX9_countCell 91 = .ok (.aload_n 0, 1) := by decide +kernel
theorem dX9_countCell_92 : decode cX9_countCell 92 = .ok (.getfield 19, 3) := by decide +kernel
theorem dX9_countCell_95 : decode cX9_countCell 95 = .ok (.iload_n 2, 1) := by decide +kernel
theorem dX9_countCell_96 : decode cX9_countCell 96 = .ok (.iload 5, 2) := by decide +kernel
theorem dX9_countCell_98 : decode cX9_countCell 98 = .ok (.iload 9, 2) := by decide +kernel
theorem dX9_countCell_100 : decode cX9_countCell 100 = .ok (.isub, 1) := by decide +kernel
theorem dX9_countCell_101 : decode cX9_countCell 101 = .ok (.iastore, 1) := by decide +kernel
theorem dX9_countCell_102 : decode cX9_countCell 102 = .ok (.iload_n 2, 1) := by decide +kernel
theorem dX9_countCell_103 : decode cX9_countCell 103 = .ok (.iconst 1, 1) := by decide +kernel
theorem dX9_countCell_104 : decode cX9_countCell 104 = .ok (.iadd, 1) := by decide +kernel
theorem dX9_countCell_105 : decode cX9_countCell 105 = .ok (.aload_n 0, 1) := by decide +kernel
theorem dX9_countCell_106 : decode cX9_countCell 106 = .ok (.getfield 97, 3) := by decide +kernel
theorem dX9_countCell_109 : decode cX9_countCell 109 = .ok (.if_icmp .ge 20, 3) := by decide +kernel
theorem dX9_countCell_112 : decode cX9_countCell 112 = .ok (.aload_n 0, 1) := by decide +kernel
theorem dX9_countCell_113 : decode cX9_countCell 113 = .ok (.iload_n 1, 1) := by decide +kernel
theorem dX9_countCell_114 : decode cX9_countCell 114 = .ok (.iload_n 2, 1) := by decide +kernel
theorem dX9_countCell_115 : decode cX9_countCell 115 = .ok (.iconst 1, 1) := by decide +kernel
theorem dX9_countCell_116 : decode cX9_countCell 116 = .ok (.iadd, 1) := by decide +kernel
theorem dX9_countCell_117 : decode cX9_countCell 117 = .ok (.iload_n 3, 1) := by decide +kernel
theorem dX9_countCell_118 : decode cX9_countCell 118 = .ok (.iload 9, 2) := by decide +kernel
theorem dX9_countCell_120 : decode cX9_countCell 120 = .ok (.isub, 1) := by decide +kernel
theorem dX9_countCell_121 : decode cX9_countCell 121 = .ok (.iload 6, 2) := by decide +kernel
theorem dX9_countCell_123 : decode cX9_countCell 123 = .ok (.invokevirtual 127, 3) := by decide +kernel
theorem dX9_countCell_126 : decode cX9_countCell 126 = .ok (.goto 10, 3) := by decide +kernel
theorem dX9_countCell_129 : decode cX9_countCell 129 = .ok (.aload_n 0, 1) := by decide +kernel
theorem dX9_countCell_130 : decode cX9_countCell 130 = .ok (.iload_n 1, 1) := by decide +kernel
theorem dX9_countCell_131 : decode cX9_countCell 131 = .ok (.iconst 1, 1) := by decide +kernel
theorem dX9_countCell_132 : decode cX9_countCell 132 = .ok (.iadd, 1) := by decide +kernel
theorem dX9_countCell_133 : decode cX9_countCell 133 = .ok (.invokevirtual 56, 3) := by decide +kernel
theorem dX9_countCell_136 : decode cX9_countCell 136 = .ok (.iinc 9 1, 3) := by decide +kernel
theorem dX9_countCell_139 : decode cX9_countCell 139 = .ok (.goto (-65), 3) := by decide +kernel
theorem dX9_countCell_142 : decode cX9_countCell 142 = .ok (.aload_n 0, 1) := by decide +kernel
theorem dX9_countCell_143 : decode cX9_countCell 143 = .ok (.getfield 19, 3) := by decide +kernel
theorem dX9_countCell_146 : decode cX9_countCell 146 = .ok (.iload_n 2, 1) := by decide +kernel
theorem dX9_countCell_147 : decode cX9_countCell 147 = .ok (.iload 5, 2) := by decide +kernel
theorem dX9_countCell_149 : decode cX9_countCell 149 = .ok (.iastore, 1) := by decide +kernel
theorem dX9_countCell_150 : decode cX9_countCell 150 = .ok (.return_, 1) := by decide +kernel
theorem dX9_fillRow_0 : decode cX9_fillRow 0 = .ok (.iload_n 1, 1) := by decide +kernel
theorem dX9_fillRow_1 : decode cX9_fillRow 1 = .ok (.iconst 1, 1) := by decide +kernel
theorem dX9_fillRow_2 : decode cX9_fillRow 2 = .ok (.iadd, 1) := by decide +kernel
theorem dX9_fillRow_3 : decode cX9_fillRow 3 = .ok (.aload_n 0, 1) := by decide +kernel
theorem dX9_fillRow_4 : decode cX9_fillRow 4 = .ok (.getfield 92, 3) := by decide +kernel
theorem dX9_fillRow_7 : decode cX9_fillRow 7 = .ok (.if_icmp .ge 22, 3) := by decide +kernel
theorem dX9_fillRow_10 : decode cX9_fillRow 10 = .ok (.aload_n 0, 1) := by decide +kernel
theorem dX9_fillRow_11 : decode cX9_fillRow 11 = .ok (.iload_n 1, 1) := by decide +kernel
theorem dX9_fillRow_12 : decode cX9_fillRow 12 = .ok (.iconst 0, 1) := by decide +kernel
theorem dX9_fillRow_13 : decode cX9_fillRow 13 = .ok (.aload_n 0, 1) := by decide +kernel
theorem dX9_fillRow_14 : decode cX9_fillRow 14 = .ok (.getfield 15, 3) := by decide +kernel
theorem dX9_fillRow_17 : decode cX9_fillRow 17 = .ok (.iload_n 1, 1) := by decide +kernel
theorem dX9_fillRow_18 : decode cX9_fillRow 18 = .ok (.iaload, 1) := by decide +kernel
theorem dX9_fillRow_19 : decode cX9_fillRow 19 = .ok (.aload_n 0, 1) := by decide +kernel
theorem dX9_fillRow_20 : decode cX9_fillRow 20 = .ok (.invokevirtual 124, 3) := by decide +kernel
theorem dX9_fillRow_23 : decode cX9_fillRow 23 = .ok (.invokevirtual 134, 3) := by decide +kernel
theorem dX9_fillRow_26 : decode cX9_fillRow 26 = .ok (.goto 13, 3) := by decide +kernel
theorem dX9_fillRow_29 : decode cX9_fillRow 29 = .ok (.aload_n 0, 1) := by decide +kernel
theorem dX9_fillRow_30 : decode cX9_fillRow 30 = .ok (.iload_n 1, 1) := by decide +kernel
theorem dX9_fillRow_31 : decode cX9_fillRow 31 = .ok (.aload_n 0, 1) := by decide +kernel
theorem dX9_fillRow_32 : decode cX9_fillRow 32 = .ok (.getfield 97, 3) := by decide +kernel
theorem dX9_fillRow_35 : decode cX9_fillRow 35 = .ok (.imul, 1) := by decide +kernel
theorem dX9_fillRow_36 : decode cX9_fillRow 36 = .ok (.invokevirtual 137, 3) := by decide +kernel
theorem dX9_fillRow_39 : decode cX9_fillRow 39 = .ok (.return_, 1) := by decide +kernel
theorem dX9_fillCell_0 : decode cX9_fillCell 0 = .ok (.iload_n 1, 1) := by decide +kernel
theorem dX9_fillCell_1 : decode cX9_fillCell 1 = .ok (.aload_n 0, 1) := by decide +kernel
theorem dX9_fillCell_2 : decode cX9_fillCell 2 = .ok (.getfield 97, 3) := by decide +kernel
theorem dX9_fillCell_5 : decode cX9_fillCell 5 = .ok (.imul, 1) := by decide +kernel
theorem dX9_fillCell_6 : decode cX9_fillCell 6 = .ok (.iload_n 2, 1) := by decide +kernel
theorem dX9_fillCell_7 : decode cX9_fillCell 7 = .ok (.iadd, 1) := by decide +kernel
theorem dX9_fillCell_8 : decode cX9_fillCell 8 = .ok (.istore 5, 2) := by decide +kernel
theorem dX9_fillCell_10 : decode cX9_fillCell 10 = .ok (.aload_n 0, 1) := by decide +kernel
theorem dX9_fillCell_11 : decode cX9_fillCell 11 = .ok (.getfield 19, 3) := by decide +kernel
theorem dX9_fillCell_14 : decode cX9_fillCell 14 = .ok (.iload_n 2, 1) := by decide +kernel
theorem dX9_fillCell_15 : decode cX9_fillCell 15 = .ok (.iaload, 1) := by decide +kernel
theorem dX9_fillCell_16 : decode cX9_fillCell 16 = .ok (.istore 6, 2) := by decide +kernel
theorem dX9_fillCell_18 : decode cX9_fillCell 18 = .ok (.iload 4, 2) := by decide +kernel
theorem dX9_fillCell_20 : decode cX9_fillCell 20 = .ok (.iload 6, 2) := by decide +kernel
theorem dX9_fillCell_22 : decode cX9_fillCell 22 = .ok (.isub, 1) := by decide +kernel
theorem dX9_fillCell_23 : decode cX9_fillCell 23 = .ok (.istore 7, 2) := by decide +kernel
theorem dX9_fillCell_25 : decode cX9_fillCell 25 = .ok (.iload_n 3, 1) := by decide +kernel
theorem dX9_fillCell_26 : decode cX9_fillCell 26 = .ok (.iload 6, 2) := by decide +kernel
theorem dX9_fillCell_28 : decode cX9_fillCell 28 = .ok (.invokestatic 86, 3) := by decide +kernel
theorem dX9_fillCell_31 : decode cX9_fillCell 31 = .ok (.istore 8, 2) := by decide +kernel
theorem dX9_fillCell_33 : decode cX9_fillCell 33 = .ok (.iconst 0, 1) := by decide +kernel
theorem dX9_fillCell_34 : decode cX9_fillCell 34 = .ok (.iload_n 3, 1) := by decide +kernel
theorem dX9_fillCell_35 : decode cX9_fillCell 35 = .ok (.iload 7, 2) := by decide +kernel
theorem dX9_fillCell_37 : decode cX9_fillCell 37 = .ok (.isub, 1) := by decide +kernel
theorem dX9_fillCell_38 : decode cX9_fillCell 38 = .ok (.invokestatic 131, 3) := by decide +kernel
theorem dX9_fillCell_41 : decode cX9_fillCell 41 = .ok (.istore 9, 2) := by decide +kernel
theorem dX9_fillCell_43 : decode cX9_fillCell 43 = .ok (.iload 9, 2) := by decide +kernel
theorem dX9_fillCell_45 : decode cX9_fillCell 45 = .ok (.iload 8, 2) := by decide +kernel
theorem dX9_fillCell_47 : decode cX9_fillCell 47 = .ok (.if_icmp .gt 90, 3) := by decide +kernel
theorem dX9_fillCell_50 : decode cX9_fillCell 50 = .ok (.aload_n 0, 1) := by decide +kernel
theorem dX9_fillCell_51 : decode cX9_fillCell 51 = .ok (.getfield 22, 3) := by decide +kernel
theorem dX9_fillCell_54 : decode cX9_fillCell 54 = .ok (.iload 5, 2) := by decide +kernel
theorem dX9_fillCell_56 : decode cX9_fillCell 56 = .ok (.iload 9, 2) := by decide +kernel
theorem dX9_fillCell_58 : decode cX9_fillCell 58 = .ok (.iastore, 1) := by decide +kernel
theorem dX9_fillCell_59 : decode cX9_fillCell 59 = .ok (.aload_n 0, 1) := by decide +kernel
theorem dX9_fillCell_60 : decode cX9_fillCell 60 = .ok (.getfield 19, 3) := by decide +kernel
theorem dX9_fillCell_63 : decode cX9_fillCell 63 = .ok (.iload_n 2, 1) := by decide +kernel
theorem dX9_fillCell_64 : decode cX9_fillCell 64 = .ok (.iload 6, 2) := by decide +kernel
theorem dX9_fillCell_66 : decode cX9_fillCell 66 = .ok (.iload 9, 2) := by decide +kernel
theorem dX9_fillCell_68 : decode cX9_fillCell 68 = .ok (.isub, 1) := by decide +kernel
theorem dX9_fillCell_69 : decode cX9_fillCell 69 = .ok (.iastore, 1) := by decide +kernel
theorem dX9_fillCell_70 : decode cX9_fillCell 70 = .ok (.aload_n 0, 1) := by decide +kernel
theorem dX9_fillCell_71 : decode cX9_fillCell 71 = .ok (.getfield 27, 3) := by decide +kernel
theorem dX9_fillCell_74 : decode cX9_fillCell 74 = .ok (.iload 5, 2) := by decide +kernel
theorem dX9_fillCell_76 : decode cX9_fillCell 76 = .ok (.iconst 1, 1) := by decide +kernel
theorem dX9_fillCell_77 : decode cX9_fillCell 77 = .ok (.iadd, 1) := by decide +kernel
theorem dX9_fillCell_78 : decode cX9_fillCell 78 = .ok (.aaload, 1) := by decide +kernel
theorem dX9_fillCell_79 : decode cX9_fillCell 79 = .ok (.aload_n 0, 1) := by decide +kernel
theorem dX9_fillCell_80 : decode cX9_fillCell 80 = .ok (.getfield 27, 3) := by decide +kernel
theorem dX9_fillCell_83 : decode cX9_fillCell 83 = .ok (.iload 5, 2) := by decide +kernel
theorem dX9_fillCell_85 : decode cX9_fillCell 85 = .ok (.aaload, 1) := by decide +kernel
theorem dX9_fillCell_86 : decode cX9_fillCell 86 = .ok (.aload_n 0, 1) := by decide +kernel
theorem dX9_fillCell_87 : decode cX9_fillCell 87 = .ok (.iload 6, 2) := by decide +kernel
theorem dX9_fillCell_89 : decode cX9_fillCell 89 = .ok (.iload 9, 2) := by decide +kernel
theorem dX9_fillCell_91 : decode cX9_fillCell 91 = .ok (.invokevirtual 116, 3) := by decide +kernel
theorem dX9_fillCell_94 : decode cX9_fillCell 94 = .ok (.invokevirtual 120, 3) := by decide +kernel
theorem dX9_fillCell_97 : decode cX9_fillCell 97 = .ok (.iload_n 2, 1) := by decide +kernel
theorem dX9_fillCell_98 : decode cX9_fillCell 98 = .ok (.iconst 1, 1) := by decide +kernel
theorem dX9_fillCell_99 : decode cX9_fillCell 99 = .ok (.iadd, 1) := by decide +kernel
theorem dX9_fillCell_100 : decode cX9_fillCell 100 = .ok (.aload_n 0, 1) := by decide +kernel
theorem dX9_fillCell_101 : decode cX9_fillCell 101 = .ok (.getfield 97, 3) := by decide +kernel
theorem dX9_fillCell_104 : decode cX9_fillCell 104 = .ok (.if_icmp .ge 20, 3) := by decide +kernel
theorem dX9_fillCell_107 : decode cX9_fillCell 107 = .ok (.aload_n 0, 1) := by decide +kernel
theorem dX9_fillCell_108 : decode cX9_fillCell 108 = .ok (.iload_n 1, 1) := by decide +kernel
theorem dX9_fillCell_109 : decode cX9_fillCell 109 = .ok (.iload_n 2, 1) := by decide +kernel
theorem dX9_fillCell_110 : decode cX9_fillCell 110 = .ok (.iconst 1, 1) := by decide +kernel
theorem dX9_fillCell_111 : decode cX9_fillCell 111 = .ok (.iadd, 1) := by decide +kernel
theorem dX9_fillCell_112 : decode cX9_fillCell 112 = .ok (.iload_n 3, 1) := by decide +kernel
theorem dX9_fillCell_113 : decode cX9_fillCell 113 = .ok (.iload 9, 2) := by decide +kernel
theorem dX9_fillCell_115 : decode cX9_fillCell 115 = .ok (.isub, 1) := by decide +kernel
theorem dX9_fillCell_116 : decode cX9_fillCell 116 = .ok (.iload 7, 2) := by decide +kernel
theorem dX9_fillCell_118 : decode cX9_fillCell 118 = .ok (.invokevirtual 134, 3) := by decide +kernel
theorem dX9_fillCell_121 : decode cX9_fillCell 121 = .ok (.goto 10, 3) := by decide +kernel
theorem dX9_fillCell_124 : decode cX9_fillCell 124 = .ok (.aload_n 0, 1) := by decide +kernel
theorem dX9_fillCell_125 : decode cX9_fillCell 125 = .ok (.iload_n 1, 1) := by decide +kernel
theorem dX9_fillCell_126 : decode cX9_fillCell 126 = .ok (.iconst 1, 1) := by decide +kernel
theorem dX9_fillCell_127 : decode cX9_fillCell 127 = .ok (.iadd, 1) := by decide +kernel
theorem dX9_fillCell_128 : decode cX9_fillCell 128 = .ok (.invokevirtual 80, 3) := by decide +kernel
theorem dX9_fillCell_131 : decode cX9_fillCell 131 = .ok (.iinc 9 1, 3) := by decide +kernel
theorem dX9_fillCell_134 : decode cX9_fillCell 134 = .ok (.goto (-91), 3) := by decide +kernel
theorem dX9_fillCell_137 : decode cX9_fillCell 137 = .ok (.aload_n 0, 1) := by decide +kernel
theorem dX9_fillCell_138 : decode cX9_fillCell 138 = .ok (.getfield 19, 3) := by decide +kernel
theorem dX9_fillCell_141 : decode cX9_fillCell 141 = .ok (.iload_n 2, 1) := by decide +kernel
theorem dX9_fillCell_142 : decode cX9_fillCell 142 = .ok (.iload 6, 2) := by decide +kernel
theorem dX9_fillCell_144 : decode cX9_fillCell 144 = .ok (.iastore, 1) := by decide +kernel
theorem dX9_fillCell_145 : decode cX9_fillCell 145 = .ok (.return_, 1) := by decide +kernel
theorem dX9_fillLastRow_0 : decode cX9_fillLastRow 0 = .ok (.iconst 0, 1) := by decide +kernel
theorem dX9_fillLastRow_1 : decode cX9_fillLastRow 1 = .ok (.istore_n 2, 1) := by decide +kernel
theorem dX9_fillLastRow_2 : decode cX9_fillLastRow 2 = .ok (.iload_n 2, 1) := by decide +kernel
theorem dX9_fillLastRow_3 : decode cX9_fillLastRow 3 = .ok (.aload_n 0, 1) := by decide +kernel
theorem dX9_fillLastRow_4 : decode cX9_fillLastRow 4 = .ok (.getfield 97, 3) := by decide +kernel
theorem dX9_fillLastRow_7 : decode cX9_fillLastRow 7 = .ok (.if_icmp .ge 23, 3) := by decide +kernel
theorem dX9_fillLastRow_10 : decode cX9_fillLastRow 10 = .ok (.aload_n 0, 1) := by decide +kernel
theorem dX9_fillLastRow_11 : decode cX9_fillLastRow 11 = .ok (.getfield 22, 3) := by decide +kernel
theorem dX9_fillLastRow_14 : decode cX9_fillLastRow 14 = .ok (.iload_n 1, 1) := by decide +kernel
theorem dX9_fillLastRow_15 : decode cX9_fillLastRow 15 = .ok (.iload_n 2, 1) := by decide +kernel
theorem dX9_fillLastRow_16 : decode cX9_fillLastRow 16 = .ok (.iadd, 1) := by decide +kernel
theorem dX9_fillLastRow_17 : decode cX9_fillLastRow 17 = .ok (.aload_n 0, 1) := by decide +kernel
theorem dX9_fillLastRow_18 : decode cX9_fillLastRow 18 = .ok (.getfield 19, 3) := by decide +kernel
theorem dX9_fillLastRow_21 : decode cX9_fillLastRow 21 = .ok (.iload_n 2, 1) := by decide +kernel
theorem dX9_fillLastRow_22 : decode cX9_fillLastRow 22 = .ok (.iaload, 1) := by decide +kernel
theorem dX9_fillLastRow_23 : decode cX9_fillLastRow 23 = .ok (.iastore, 1) := by decide +kernel
theorem dX9_fillLastRow_24 : decode cX9_fillLastRow 24 = .ok (.iinc 2 1, 3) := by decide +kernel
theorem dX9_fillLastRow_27 : decode cX9_fillLastRow 27 = .ok (.goto (-25), 3) := by decide +kernel
theorem dX9_fillLastRow_30 : decode cX9_fillLastRow 30 = .ok (.aload_n 0, 1) := by decide +kernel
theorem dX9_fillLastRow_31 : decode cX9_fillLastRow 31 = .ok (.getfield 27, 3) := by decide +kernel
theorem dX9_fillLastRow_34 : decode cX9_fillLastRow 34 = .ok (.iload_n 1, 1) := by decide +kernel
theorem dX9_fillLastRow_35 : decode cX9_fillLastRow 35 = .ok (.aaload, 1) := by decide +kernel
theorem dX9_fillLastRow_36 : decode cX9_fillLastRow 36 = .ok (.astore_n 2, 1) := by decide +kernel
theorem dX9_fillLastRow_37 : decode cX9_fillLastRow 37 = .ok (.aload_n 2, 1) := by decide +kernel
theorem dX9_fillLastRow_38 : decode cX9_fillLastRow 38 = .ok (.aload_n 0, 1) := by decide +kernel
theorem dX9_fillLastRow_39 : decode cX9_fillLastRow 39 = .ok (.getfield 36, 3) := by decide +kernel
theorem dX9_fillLastRow_42 : decode cX9_fillLastRow 42 = .ok (.invokevirtual 140, 3) := by decide +kernel
theorem dX9_fillLastRow_45 : decode cX9_fillLastRow 45 = .ok (.istore_n 3, 1) := by decide +kernel
theorem dX9_fillLastRow_46 : decode cX9_fillLastRow 46 = .ok (.iload_n 3, 1) := by decide +kernel
theorem dX9_fillLastRow_47 : decode cX9_fillLastRow 47 = .ok (.ifCond .gt 11, 3) := by decide +kernel
theorem dX9_fillLastRow_50 : decode cX9_fillLastRow 50 = .ok (.aload_n 0, 1) := by decide +kernel
theorem dX9_fillLastRow_51 : decode cX9_fillLastRow 51 = .ok (.getfield 39, 3) := by decide +kernel
theorem dX9_fillLastRow_54 : decode cX9_fillLastRow 54 = .ok (.aload_n 2, 1) := by decide +kernel
theorem dX9_fillLastRow_55 : decode cX9_fillLastRow 55 = .ok (.invokevirtual 144, 3) := by decide +kernel
theorem dX9_fillLastRow_58 : decode cX9_fillLastRow 58 = .ok (.aload_n 0, 1) := by decide +kernel
theorem dX9_fillLastRow_59 : decode cX9_fillLastRow 59 = .ok (.getfield 22, 3) := by decide +kernel
theorem dX9_fillLastRow_62 : decode cX9_fillLastRow 62 = .ok (.iconst 0, 1) := by decide +kernel
theorem dX9_fillLastRow_63 : decode cX9_fillLastRow 63 = .ok (.iaload, 1) := by decide +kernel
theorem dX9_fillLastRow_64 : decode cX9_fillLastRow 64 = .ok (.aload_n 0, 1) := by decide +kernel
theorem dX9_fillLastRow_65 : decode cX9_fillLastRow 65 = .ok (.getfield 102, 3) := by decide +kernel
theorem dX9_fillLastRow_68 : decode cX9_fillLastRow 68 = .ok (.if_icmp .gt 11, 3) := by decide +kernel
theorem dX9_fillLastRow_71 : decode cX9_fillLastRow 71 = .ok (.aload_n 0, 1) := by decide +kernel
theorem dX9_fillLastRow_72 : decode cX9_fillLastRow 72 = .ok (.getfield 42, 3) := by decide +kernel
theorem dX9_fillLastRow_75 : decode cX9_fillLastRow 75 = .ok (.aload_n 2, 1) := by decide +kernel
theorem dX9_fillLastRow_76 : decode cX9_fillLastRow 76 = .ok (.invokevirtual 144, 3) := by decide +kernel
theorem dX9_fillLastRow_79 : decode cX9_fillLastRow 79 = .ok (.aload_n 0, 1) := by decide +kernel
theorem dX9_fillLastRow_80 : decode cX9_fillLastRow 80 = .ok (.getfield 22, 3) := by decide +kernel
theorem dX9_fillLastRow_83 : decode cX9_fillLastRow 83 = .ok (.iconst 0, 1) := by decide +kernel
theorem dX9_fillLastRow_84 : decode cX9_fillLastRow 84 = .ok (.iaload, 1) := by decide +kernel
theorem dX9_fillLastRow_85 : decode cX9_fillLastRow 85 = .ok (.aload_n 0, 1) := by decide +kernel
theorem dX9_fillLastRow_86 : decode cX9_fillLastRow 86 = .ok (.getfield 102, 3) := by decide +kernel
theorem dX9_fillLastRow_89 : decode cX9_fillLastRow 89 = .ok (.if_icmp .lt 11, 3) := by decide +kernel
theorem dX9_fillLastRow_92 : decode cX9_fillLastRow 92 = .ok (.aload_n 0, 1) := by decide +kernel
theorem dX9_fillLastRow_93 : decode cX9_fillLastRow 93 = .ok (.getfield 45, 3) := by decide +kernel
theorem dX9_fillLastRow_96 : decode cX9_fillLastRow 96 = .ok (.aload_n 2, 1) := by decide +kernel
theorem dX9_fillLastRow_97 : decode cX9_fillLastRow 97 = .ok (.invokevirtual 144, 3) := by decide +kernel
theorem dX9_fillLastRow_100 : decode cX9_fillLastRow 100 = .ok (.aload_n 0, 1) := by decide +kernel
theorem dX9_fillLastRow_101 : decode cX9_fillLastRow 101 = .ok (.getfield 76, 3) := by decide +kernel
theorem dX9_fillLastRow_104 : decode cX9_fillLastRow 104 = .ok (.ifnull 15, 3) := by decide +kernel
theorem dX9_fillLastRow_107 : decode cX9_fillLastRow 107 = .ok (.aload_n 0, 1) := by decide +kernel
theorem dX9_fillLastRow_108 : decode cX9_fillLastRow 108 = .ok (.getfield 76, 3) := by decide +kernel
theorem dX9_fillLastRow_111 : decode cX9_fillLastRow 111 = .ok (.aload_n 0, 1) := by decide +kernel
theorem dX9_fillLastRow_112 : decode cX9_fillLastRow 112 = .ok (.getfield 22, 3) := by decide +kernel
theorem dX9_fillLastRow_115 : decode cX9_fillLastRow 115 = .ok (.iload_n 3, 1) := by decide +kernel
theorem dX9_fillLastRow_116 : decode cX9_fillLastRow 116 = .ok (.invokevirtual 147, 3) := by decide +kernel
theorem dX9_fillLastRow_119 : decode cX9_fillLastRow 119 = .ok (.return_, 1) := by decide +kernel
end
section
theorem dL_law_0 : decode cL_law 0 = .ok (.new 7, 3) := by decide +kernel
theorem dL_law_3 : decode cL_law 3 = .ok (.dup, 1) := by decide +kernel
theorem dL_law_4 : decode cL_law 4 = .ok (.invokespecial 9, 3) := by decide +kernel
theorem dL_law_7 : decode cL_law 7 = .ok (.astore_n 1, 1) := by decide +kernel
theorem dL_law_8 : decode cL_law 8 = .ok (.new 10, 3) := by decide +kernel
theorem dL_law_11 : decode cL_law 11 = .ok (.dup, 1) := by decide +kernel
theorem dL_law_12 : decode cL_law 12 = .ok (.invokespecial 12, 3) := by decide +kernel
theorem dL_law_15 : decode cL_law 15 = .ok (.astore_n 2, 1) := by decide +kernel
theorem dL_law_16 : decode cL_law 16 = .ok (.iconst 0, 1) := by decide +kernel
theorem dL_law_17 : decode cL_law 17 = .ok (.istore_n 3, 1) := by decide +kernel
theorem dL_law_18 : decode cL_law 18 = .ok (.iload_n 3, 1) := by decide +kernel
theorem dL_law_19 : decode cL_law 19 = .ok (.aload_n 0, 1) := by decide +kernel
theorem dL_law_20 : decode cL_law 20 = .ok (.arraylength, 1) := by decide +kernel
theorem dL_law_21 : decode cL_law 21 = .ok (.iconst 4, 1) := by decide +kernel
theorem dL_law_22 : decode cL_law 22 = .ok (.isub, 1) := by decide +kernel
theorem dL_law_23 : decode cL_law 23 = .ok (.if_icmp .gt 877, 3) := by decide +kernel
theorem dL_law_26 : decode cL_law 26 = .ok (.aload_n 0, 1) := by decide +kernel
theorem dL_law_27 : decode cL_law 27 = .ok (.iload_n 3, 1) := by decide +kernel
theorem dL_law_28 : decode cL_law 28 = .ok (.iaload, 1) := by decide +kernel
theorem dL_law_29 : decode cL_law 29 = .ok (.bipush 31, 2) := by decide +kernel
theorem dL_law_31 : decode cL_law 31 = .ok (.iand, 1) := by decide +kernel
theorem dL_law_32 : decode cL_law 32 = .ok (.tableswitch 862 0 24 #[116, 149, 192, 235, 268, 301, 324, 337, 360, 383, 416, 459, 482, 515, 558, 591, 634, 657, 681, 704, 737, 780, 803, 826, 839], 116) := by decide +kernel
theorem dL_law_148 : decode cL_law 148 = .ok (.aload_n 1, 1) := by decide +kernel
theorem dL_law_149 : decode cL_law 149 = .ok (.aload_n 0, 1) := by decide +kernel
theorem dL_law_150 : decode cL_law 150 = .ok (.iload_n 3, 1) := by decide +kernel
theorem dL_law_151 : decode cL_law 151 = .ok (.iconst 1, 1) := by decide +kernel
theorem dL_law_152 : decode cL_law 152 = .ok (.iadd, 1) := by decide +kernel
theorem dL_law_153 : decode cL_law 153 = .ok (.iaload, 1) := by decide +kernel
theorem dL_law_154 : decode cL_law 154 = .ok (.aload_n 0, 1) := by decide +kernel
theorem dL_law_155 : decode cL_law 155 = .ok (.iload_n 3, 1) := by decide +kernel
theorem dL_law_156 : decode cL_law 156 = .ok (.iconst 2, 1) := by decide +kernel
theorem dL_law_157 : decode cL_law 157 = .ok (.iadd, 1) := by decide +kernel
theorem dL_law_158 : decode cL_law 158 = .ok (.iaload, 1) := by decide +kernel
theorem dL_law_159 : decode cL_law 159 = .ok (.invokevirtual 13, 3) := by decide +kernel
theorem dL_law_162 : decode cL_law 162 = .ok (.aload_n 2, 1) := by decide +kernel
theorem dL_law_163 : decode cL_law 163 = .ok (.aload_n 0, 1) := by decide +kernel
theorem dL_law_164 : decode cL_law 164 = .ok (.iload_n 3, 1) := by decide +kernel
theorem dL_law_165 : decode cL_law 165 = .ok (.iconst 1, 1) := by decide +kernel
theorem dL_law_166 : decode cL_law 166 = .ok (.iadd, 1) := by decide +kernel
theorem dL_law_167 : decode cL_law 167 = .ok (.iaload, 1) := by decide +kernel
theorem dL_law_168 : decode cL_law 168 = .ok (.aload_n 0, 1) := by decide +kernel
theorem dL_law_169 : decode cL_law 169 = .ok (.iload_n 3, 1) := by decide +kernel
theorem dL_law_170 : decode cL_law 170 = .ok (.iconst 2, 1) := by decide +kernel
theorem dL_law_171 : decode cL_law 171 = .ok (.iadd, 1) := by decide +kernel
theorem dL_law_172 : decode cL_law 172 = .ok (.iaload, 1) := by decide +kernel
theorem dL_law_173 : decode cL_law 173 = .ok (.invokevirtual 17, 3) := by decide +kernel
theorem dL_law_176 : decode cL_law 176 = .ok (.if_icmp .eq 718, 3) := by decide +kernel
theorem dL_law_179 : decode cL_law 179 = .ok (.iconst 0, 1) := by decide +kernel
theorem dL_law_180 : decode cL_law 180 = .ok (.ireturn, 1) := by decide +kernel
theorem dL_law_181 : decode cL_law 181 = .ok (.aload_n 1, 1) := by decide +kernel
theorem dL_law_182 : decode cL_law 182 = .ok (.aload_n 0, 1) := by decide +kernel
theorem dL_law_183 : decode cL_law 183 = .ok (.iload_n 3, 1) := by decide +kernel
theorem dL_law_184 : decode cL_law 184 = .ok (.iconst 1, 1) := by decide +kernel
theorem dL_law_185 : decode cL_law 185 = .ok (.iadd, 1) := by decide +kernel
theorem dL_law_186 : decode cL_law 186 = .ok (.iaload, 1) := by decide +kernel
theorem dL_law_187 : decode cL_law 187 = .ok (.aload_n 0, 1) := by decide +kernel
theorem dL_law_188 : decode cL_law 188 = .ok (.iload_n 3, 1) := by decide +kernel
theorem dL_law_189 : decode cL_law 189 = .ok (.iconst 2, 1) := by decide +kernel
theorem dL_law_190 : decode cL_law 190 = .ok (.iadd, 1) := by decide +kernel
theorem dL_law_191 : decode cL_law 191 = .ok (.iaload, 1) := by decide +kernel
theorem dL_law_192 : decode cL_law 192 = .ok (.aload_n 0, 1) := by decide +kernel
theorem dL_law_193 : decode cL_law 193 = .ok (.iload_n 3, 1) := by decide +kernel
theorem dL_law_194 : decode cL_law 194 = .ok (.iconst 3, 1) := by decide +kernel
theorem dL_law_195 : decode cL_law 195 = .ok (.iadd, 1) := by decide +kernel
theorem dL_law_196 : decode cL_law 196 = .ok (.iaload, 1) := by decide +kernel
theorem dL_law_197 : decode cL_law 197 = .ok (.invokevirtual 18, 3) := by decide +kernel
theorem dL_law_200 : decode cL_law 200 = .ok (.aload_n 2, 1) := by decide +kernel
theorem dL_law_201 : decode cL_law 201 = .ok (.aload_n 0, 1) := by decide +kernel
theorem dL_law_202 : decode cL_law 202 = .ok (.iload_n 3, 1) := by decide +kernel
theorem dL_law_203 : decode cL_law 203 = .ok (.iconst 1, 1) := by decide +kernel
theorem dL_law_204 : decode cL_law 204 = .ok (.iadd, 1) := by decide +kernel
theorem dL_law_205 : decode cL_law 205 = .ok (.iaload, 1) := by decide +kernel
theorem dL_law_206 : decode cL_law 206 = .ok (.aload_n 0, 1) := by decide +kernel
theorem dL_law_207 : decode cL_law 207 = .ok (.iload_n 3, 1) := by decide +kernel
theorem dL_law_208 : decode cL_law 208 = .ok (.iconst 2, 1) := by decide +kernel
theorem dL_law_209 : decode cL_law 209 = .ok (.iadd, 1) := by decide +kernel
theorem dL_law_210 : decode cL_law 210 = .ok (.iaload, 1) := by decide +kernel
theorem dL_law_211 : decode cL_law 211 = .ok (.aload_n 0, 1) := by decide +kernel
theorem dL_law_212 : decode cL_law 212 = .ok (.iload_n 3, 1) := by decide +kernel
theorem dL_law_213 : decode cL_law 213 = .ok (.iconst 3, 1) := by decide +kernel
theorem dL_law_214 : decode cL_law 214 = .ok (.iadd, 1) := by decide +kernel
theorem dL_law_215 : decode cL_law 215 = .ok (.iaload, 1) := by decide +kernel
theorem dL_law_216 : decode cL_law 216 = .ok (.invokevirtual 22, 3) := by decide +kernel
theorem dL_law_219 : decode cL_law 219 = .ok (.if_icmp .eq 675, 3) := by decide +kernel
theorem dL_law_222 : decode cL_law 222 = .ok (.iconst 0, 1) := by decide +kernel
theorem dL_law_223 : decode cL_law 223 = .ok (.ireturn, 1) := by decide +kernel
theorem dL_law_224 : decode cL_law 224 = .ok (.aload_n 1, 1) := by decide +kernel
theorem dL_law_225 : decode cL_law 225 = .ok (.aload_n 0, 1) := by decide +kernel
theorem dL_law_226 : decode cL_law 226 = .ok (.iload_n 3, 1) := by decide +kernel
theorem dL_law_227 : decode cL_law 227 = .ok (.iconst 1, 1) := by decide +kernel
theorem dL_law_228 : decode cL_law 228 = .ok (.iadd, 1) := by decide +kernel
theorem dL_law_229 : decode cL_law 229 = .ok (.iaload, 1) := by decide +kernel
theorem dL_law_230 : decode cL_law 230 = .ok (.aload_n 0, 1) := by decide +kernel
theorem dL_law_231 : decode cL_law 231 = .ok (.iload_n 3, 1) := by decide +kernel
theorem dL_law_232 : decode cL_law 232 = .ok (.iconst 2, 1) := by decide +kernel
theorem dL_law_233 : decode cL_law 233 = .ok (.iadd, 1) := by decide +kernel
theorem dL_law_234 : decode cL_law 234 = .ok (.iaload, 1) := by decide +kernel
theorem dL_law_235 : decode cL_law 235 = .ok (.aload_n 0, 1) := by decide +kernel
theorem dL_law_236 : decode cL_law 236 = .ok (.iload_n 3, 1) := by decide +kernel
theorem dL_law_237 : decode cL_law 237 = .ok (.iconst 3, 1) := by decide +kernel
theorem dL_law_238 : decode cL_law 238 = .ok (.iadd, 1) := by decide +kernel
theorem dL_law_239 : decode cL_law 239 = .ok (.iaload, 1) := by decide +kernel
theorem dL_law_240 : decode cL_law 240 = .ok (.invokevirtual 23, 3) := by decide +kernel
theorem dL_law_243 : decode cL_law 243 = .ok (.aload_n 2, 1) := by decide +kernel
theorem dL_law_244 : decode cL_law 244 = .ok (.aload_n 0, 1) := by decide +kernel
theorem dL_law_245 : decode cL_law 245 = .ok (.iload_n 3, 1) := by decide +kernel
theorem dL_law_246 : decode cL_law 246 = .ok (.iconst 1, 1) := by decide +kernel
theorem dL_law_247 : decode cL_law 247 = .ok (.iadd, 1) := by decide +kernel
theorem dL_law_248 : decode cL_law 248 = .ok (.iaload, 1) := by decide +kernel
theorem dL_law_249 : decode cL_law 249 = .ok (.aload_n 0, 1) := by decide +kernel
theorem dL_law_250 : decode cL_law 250 = .ok (.iload_n 3, 1) := by decide +kernel
theorem dL_law_251 : decode cL_law 251 = .ok (.iconst 2, 1) := by decide +kernel
theorem dL_law_252 : decode cL_law 252 = .ok (.iadd, 1) := by decide +kernel
theorem dL_law_253 : decode cL_law 253 = .ok (.iaload, 1) := by decide +kernel
theorem dL_law_254 : decode cL_law 254 = .ok (.aload_n 0, 1) := by decide +kernel
theorem dL_law_255 : decode cL_law 255 = .ok (.iload_n 3, 1) := by decide +kernel
theorem dL_law_256 : decode cL_law 256 = .ok (.iconst 3, 1) := by decide +kernel
theorem dL_law_257 : decode cL_law 257 = .ok (.iadd, 1) := by decide +kernel
theorem dL_law_258 : decode cL_law 258 = .ok (.iaload, 1) := by decide +kernel
theorem dL_law_259 : decode cL_law 259 = .ok (.invokevirtual 26, 3) := by decide +kernel
theorem dL_law_262 : decode cL_law 262 = .ok (.if_icmp .eq 632, 3) := by decide +kernel
theorem dL_law_265 : decode cL_law 265 = .ok (.iconst 0, 1) := by decide +kernel
theorem dL_law_266 : decode cL_law 266 = .ok (.ireturn, 1) := by decide +kernel
theorem dL_law_267 : decode cL_law 267 = .ok (.aload_n 1, 1) := by decide +kernel
theorem dL_law_268 : decode cL_law 268 = .ok (.aload_n 0, 1) := by decide +kernel
theorem dL_law_269 : decode cL_law 269 = .ok (.iload_n 3, 1) := by decide +kernel
theorem dL_law_270 : decode cL_law 270 = .ok (.iconst 1, 1) := by decide +kernel
theorem dL_law_271 : decode cL_law 271 = .ok (.iadd, 1) := by decide +kernel
theorem dL_law_272 : decode cL_law 272 = .ok (.iaload, 1) := by decide +kernel
theorem dL_law_273 : decode cL_law 273 = .ok (.aload_n 0, 1) := by decide +kernel
theorem dL_law_274 : decode cL_law 274 = .ok (.iload_n 3, 1) := by decide +kernel
theorem dL_law_275 : decode cL_law 275 = .ok (.iconst 2, 1) := by decide +kernel
theorem dL_law_276 : decode cL_law 276 = .ok (.iadd, 1) := by decide +kernel
theorem dL_law_277 : decode cL_law 277 = .ok (.iaload, 1) := by decide +kernel
theorem dL_law_278 : decode cL_law 278 = .ok (.invokevirtual 27, 3) := by decide +kernel
theorem dL_law_281 : decode cL_law 281 = .ok (.aload_n 2, 1) := by decide +kernel
theorem dL_law_282 : decode cL_law 282 = .ok (.aload_n 0, 1) := by decide +kernel
theorem dL_law_283 : decode cL_law 283 = .ok (.iload_n 3, 1) := by decide +kernel
theorem dL_law_284 : decode cL_law 284 = .ok (.iconst 1, 1) := by decide +kernel
theorem dL_law_285 : decode cL_law 285 = .ok (.iadd, 1) := by decide +kernel
theorem dL_law_286 : decode cL_law 286 = .ok (.iaload, 1) := by decide +kernel
theorem dL_law_287 : decode cL_law 287 = .ok (.aload_n 0, 1) := by decide +kernel
theorem dL_law_288 : decode cL_law 288 = .ok (.iload_n 3, 1) := by decide +kernel
theorem dL_law_289 : decode cL_law 289 = .ok (.iconst 2, 1) := by decide +kernel
theorem dL_law_290 : decode cL_law 290 = .ok (.iadd, 1) := by decide +kernel
theorem dL_law_291 : decode cL_law 291 = .ok (.iaload, 1) := by decide +kernel
theorem dL_law_292 : decode cL_law 292 = .ok (.invokevirtual 30, 3) := by decide +kernel
theorem dL_law_295 : decode cL_law 295 = .ok (.if_icmp .eq 599, 3) := by decide +kernel
theorem dL_law_298 : decode cL_law 298 = .ok (.iconst 0, 1) := by decide +kernel
theorem dL_law_299 : decode cL_law 299 = .ok (.ireturn, 1) := by decide +kernel
theorem dL_law_300 : decode cL_law 300 = .ok (.aload_n 1, 1) := by decide +kernel
theorem dL_law_301 : decode cL_law 301 = .ok (.aload_n 0, 1) := by decide +kernel
theorem dL_law_302 : decode cL_law 302 = .ok (.iload_n 3, 1) := by decide +kernel
theorem dL_law_303 : decode cL_law 303 = .ok (.iconst 1, 1) := by decide +kernel
theorem dL_law_304 : decode cL_law 304 = .ok (.iadd, 1) := by decide +kernel
theorem dL_law_305 : decode cL_law 305 = .ok (.iaload, 1) := by decide +kernel
theorem dL_law_306 : decode cL_law 306 = .ok (.aload_n 0, 1) := by decide +kernel
theorem dL_law_307 : decode cL_law 307 = .ok (.iload_n 3, 1) := by decide +kernel
theorem dL_law_308 : decode cL_law 308 = .ok (.iconst 2, 1) := by decide +kernel
theorem dL_law_309 : decode cL_law 309 = .ok (.iadd, 1) := by decide +kernel
theorem dL_law_310 : decode cL_law 310 = .ok (.iaload, 1) := by decide +kernel
theorem dL_law_311 : decode cL_law 311 = .ok (.invokevirtual 31, 3) := by decide +kernel
theorem dL_law_314 : decode cL_law 314 = .ok (.aload_n 2, 1) := by decide +kernel
theorem dL_law_315 : decode cL_law 315 = .ok (.aload_n 0, 1) := by decide +kernel
theorem dL_law_316 : decode cL_law 316 = .ok (.iload_n 3, 1) := by decide +kernel
theorem dL_law_317 : decode cL_law 317 = .ok (.iconst 1, 1) := by decide +kernel
theorem dL_law_318 : decode cL_law 318 = .ok (.iadd, 1) := by decide +kernel
theorem dL_law_319 : decode cL_law 319 = .ok (.iaload, 1) := by decide +kernel
theorem dL_law_320 : decode cL_law 320 = .ok (.aload_n 0, 1) := by decide +kernel
theorem dL_law_321 : decode cL_law 321 = .ok (.iload_n 3, 1) := by decide +kernel
theorem dL_law_322 : decode cL_law 322 = .ok (.iconst 2, 1) := by decide +kernel
theorem dL_law_323 : decode cL_law 323 = .ok (.iadd, 1) := by decide +kernel
theorem dL_law_324 : decode cL_law 324 = .ok (.iaload, 1) := by decide +kernel
theorem dL_law_325 : decode cL_law 325 = .ok (.invokevirtual 34, 3) := by decide +kernel
theorem dL_law_328 : decode cL_law 328 = .ok (.if_icmp .eq 566, 3) := by decide +kernel
theorem dL_law_331 : decode cL_law 331 = .ok (.iconst 0, 1) := by decide +kernel
theorem dL_law_332 : decode cL_law 332 = .ok (.ireturn, 1) := by decide +kernel
theorem dL_law_333 : decode cL_law 333 = .ok (.aload_n 1, 1) := by decide +kernel
theorem dL_law_334 : decode cL_law 334 = .ok (.aload_n 0, 1) := by decide +kernel
theorem dL_law_335 : decode cL_law 335 = .ok (.iload_n 3, 1) := by decide +kernel
theorem dL_law_336 : decode cL_law 336 = .ok (.iconst 1, 1) := by decide +kernel
theorem dL_law_337 : decode cL_law 337 = .ok (.iadd, 1) := by decide +kernel
theorem dL_law_338 : decode cL_law 338 = .ok (.iaload, 1) := by decide +kernel
theorem dL_law_339 : decode cL_law 339 = .ok (.invokevirtual 35, 3) := by decide +kernel
theorem dL_law_342 : decode cL_law 342 = .ok (.aload_n 2, 1) := by decide +kernel
theorem dL_law_343 : decode cL_law 343 = .ok (.aload_n 0, 1) := by decide +kernel
theorem dL_law_344 : decode cL_law 344 = .ok (.iload_n 3, 1) := by decide +kernel
theorem dL_law_345 : decode cL_law 345 = .ok (.iconst 1, 1) := by decide +kernel
theorem dL_law_346 : decode cL_law 346 = .ok (.iadd, 1) := by decide +kernel
theorem dL_law_347 : decode cL_law 347 = .ok (.iaload, 1) := by decide +kernel
theorem dL_law_348 : decode cL_law 348 = .ok (.invokevirtual 39, 3) := by decide +kernel
theorem dL_law_351 : decode cL_law 351 = .ok (.if_icmp .eq 543, 3) := by decide +kernel
theorem dL_law_354 : decode cL_law 354 = .ok (.iconst 0, 1) := by decide +kernel
theorem dL_law_355 : decode cL_law 355 = .ok (.ireturn, 1) := by decide +kernel
theorem dL_law_356 : decode cL_law 356 = .ok (.aload_n 1, 1) := by decide +kernel
theorem dL_law_357 : decode cL_law 357 = .ok (.invokevirtual 40, 3) := by decide +kernel
theorem dL_law_360 : decode cL_law 360 = .ok (.aload_n 2, 1) := by decide +kernel
theorem dL_law_361 : decode cL_law 361 = .ok (.invokevirtual 44, 3) := by decide +kernel
theorem dL_law_364 : decode cL_law 364 = .ok (.if_icmp .eq 530, 3) := by decide +kernel
theorem dL_law_367 : decode cL_law 367 = .ok (.iconst 0, 1) := by decide +kernel
theorem dL_law_368 : decode cL_law 368 = .ok (.ireturn, 1) := by decide +kernel
theorem dL_law_369 : decode cL_law 369 = .ok (.aload_n 1, 1) := by decide +kernel
theorem dL_law_370 : decode cL_law 370 = .ok (.aload_n 0, 1) := by decide +kernel
theorem dL_law_371 : decode cL_law 371 = .ok (.iload_n 3, 1) := by decide +kernel
theorem dL_law_372 : decode cL_law 372 = .ok (.iconst 1, 1) := by decide +kernel
theorem dL_law_373 : decode cL_law 373 = .ok (.iadd, 1) := by decide +kernel
theorem dL_law_374 : decode cL_law 374 = .ok (.iaload, 1) := by decide +kernel
theorem dL_law_375 : decode cL_law 375 = .ok (.invokevirtual 45, 3) := by decide +kernel
theorem dL_law_378 : decode cL_law 378 = .ok (.aload_n 2, 1) := by decide +kernel
theorem dL_law_379 : decode cL_law 379 = .ok (.aload_n 0, 1) := by decide +kernel
theorem dL_law_380 : decode cL_law 380 = .ok (.iload_n 3, 1) := by decide +kernel
theorem dL_law_381 : decode cL_law 381 = .ok (.iconst 1, 1) := by decide +kernel
theorem dL_law_382 : decode cL_law 382 = .ok (.iadd, 1) := by decide +kernel
theorem dL_law_383 : decode cL_law 383 = .ok (.iaload, 1) := by decide +kernel
theorem dL_law_384 : decode cL_law 384 = .ok (.invokevirtual 48, 3) := by decide +kernel
theorem dL_law_387 : decode cL_law 387 = .ok (.if_icmp .eq 507, 3) := by decide +kernel
theorem dL_law_390 : decode cL_law 390 = .ok (.iconst 0, 1) := by decide +kernel
theorem dL_law_391 : decode cL_law 391 = .ok (.ireturn, 1) := by decide +kernel
theorem dL_law_392 : decode cL_law 392 = .ok (.aload_n 1, 1) := by decide +kernel
theorem dL_law_393 : decode cL_law 393 = .ok (.aload_n 0, 1) := by decide +kernel
theorem dL_law_394 : decode cL_law 394 = .ok (.iload_n 3, 1) := by decide +kernel
theorem dL_law_395 : decode cL_law 395 = .ok (.iconst 1, 1) := by decide +kernel
theorem dL_law_396 : decode cL_law 396 = .ok (.iadd, 1) := by decide +kernel
theorem dL_law_397 : decode cL_law 397 = .ok (.iaload, 1) := by decide +kernel
theorem dL_law_398 : decode cL_law 398 = .ok (.invokevirtual 49, 3) := by decide +kernel
theorem dL_law_401 : decode cL_law 401 = .ok (.aload_n 2, 1) := by decide +kernel
theorem dL_law_402 : decode cL_law 402 = .ok (.aload_n 0, 1) := by decide +kernel
theorem dL_law_403 : decode cL_law 403 = .ok (.iload_n 3, 1) := by decide +kernel
theorem dL_law_404 : decode cL_law 404 = .ok (.iconst 1, 1) := by decide +kernel
theorem dL_law_405 : decode cL_law 405 = .ok (.iadd, 1) := by decide +kernel
theorem dL_law_406 : decode cL_law 406 = .ok (.iaload, 1) := by decide +kernel
theorem dL_law_407 : decode cL_law 407 = .ok (.invokevirtual 52, 3) := by decide +kernel
theorem dL_law_410 : decode cL_law 410 = .ok (.if_icmp .eq 484, 3) := by decide +kernel
theorem dL_law_413 : decode cL_law 413 = .ok (.iconst 0, 1) := by decide +kernel
theorem dL_law_414 : decode cL_law 414 = .ok (.ireturn, 1) := by decide +kernel
theorem dL_law_415 : decode cL_law 415 = .ok (.aload_n 1, 1) := by decide +kernel
theorem dL_law_416 : decode cL_law 416 = .ok (.aload_n 0, 1) := by decide +kernel
theorem dL_law_417 : decode cL_law 417 = .ok (.iload_n 3, 1) := by decide +kernel
theorem dL_law_418 : decode cL_law 418 = .ok (.iconst 1, 1) := by decide +kernel
theorem dL_law_419 : decode cL_law 419 = .ok (.iadd, 1) := by decide +kernel
theorem dL_law_420 : decode cL_law 420 = .ok (.iaload, 1) := by decide +kernel
theorem dL_law_421 : decode cL_law 421 = .ok (.aload_n 0, 1) := by decide +kernel
theorem dL_law_422 : decode cL_law 422 = .ok (.iload_n 3, 1) := by decide +kernel
theorem dL_law_423 : decode cL_law 423 = .ok (.iconst 2, 1) := by decide +kernel
theorem dL_law_424 : decode cL_law 424 = .ok (.iadd, 1) := by decide +kernel
theorem dL_law_425 : decode cL_law 425 = .ok (.iaload, 1) := by decide +kernel
theorem dL_law_426 : decode cL_law 426 = .ok (.invokevirtual 53, 3) := by decide +kernel
theorem dL_law_429 : decode cL_law 429 = .ok (.aload_n 2, 1) := by decide +kernel
theorem dL_law_430 : decode cL_law 430 = .ok (.aload_n 0, 1) := by decide +kernel
theorem dL_law_431 : decode cL_law 431 = .ok (.iload_n 3, 1) := by decide +kernel
theorem dL_law_432 : decode cL_law 432 = .ok (.iconst 1, 1) := by decide +kernel
theorem dL_law_433 : decode cL_law 433 = .ok (.iadd, 1) := by decide +kernel
theorem dL_law_434 : decode cL_law 434 = .ok (.iaload, 1) := by decide +kernel
theorem dL_law_435 : decode cL_law 435 = .ok (.aload_n 0, 1) := by decide +kernel
theorem dL_law_436 : decode cL_law 436 = .ok (.iload_n 3, 1) := by decide +kernel
theorem dL_law_437 : decode cL_law 437 = .ok (.iconst 2, 1) := by decide +kernel
theorem dL_law_438 : decode cL_law 438 = .ok (.iadd, 1) := by decide +kernel
theorem dL_law_439 : decode cL_law 439 = .ok (.iaload, 1) := by decide +kernel
theorem dL_law_440 : decode cL_law 440 = .ok (.invokevirtual 56, 3) := by decide +kernel
theorem dL_law_443 : decode cL_law 443 = .ok (.if_icmp .eq 451, 3) := by decide +kernel
theorem dL_law_446 : decode cL_law 446 = .ok (.iconst 0, 1) := by decide +kernel
theorem dL_law_447 : decode cL_law 447 = .ok (.ireturn, 1) := by decide +kernel
theorem dL_law_448 : decode cL_law 448 = .ok (.aload_n 1, 1) := by decide +kernel
theorem dL_law_449 : decode cL_law 449 = .ok (.aload_n 0, 1) := by decide +kernel
theorem dL_law_450 : decode cL_law 450 = .ok (.iload_n 3, 1) := by decide +kernel
theorem dL_law_451 : decode cL_law 451 = .ok (.iconst 1, 1) := by decide +kernel
theorem dL_law_452 : decode cL_law 452 = .ok (.iadd, 1) := by decide +kernel
theorem dL_law_453 : decode cL_law 453 = .ok (.iaload, 1) := by decide +kernel
theorem dL_law_454 : decode cL_law 454 = .ok (.aload_n 0, 1) := by decide +kernel
theorem dL_law_455 : decode cL_law 455 = .ok (.iload_n 3, 1) := by decide +kernel
theorem dL_law_456 : decode cL_law 456 = .ok (.iconst 2, 1) := by decide +kernel
theorem dL_law_457 : decode cL_law 457 = .ok (.iadd, 1) := by decide +kernel
theorem dL_law_458 : decode cL_law 458 = .ok (.iaload, 1) := by decide +kernel
theorem dL_law_459 : decode cL_law 459 = .ok (.aload_n 0, 1) := by decide +kernel
theorem dL_law_460 : decode cL_law 460 = .ok (.iload_n 3, 1) := by decide +kernel
theorem dL_law_461 : decode cL_law 461 = .ok (.iconst 3, 1) := by decide +kernel
theorem dL_law_462 : decode cL_law 462 = .ok (.iadd, 1) := by decide +kernel
theorem dL_law_463 : decode cL_law 463 = .ok (.iaload, 1) := by decide +kernel
theorem dL_law_464 : decode cL_law 464 = .ok (.invokevirtual 57, 3) := by decide +kernel
theorem dL_law_467 : decode cL_law 467 = .ok (.aload_n 2, 1) := by decide +kernel
theorem dL_law_468 : decode cL_law 468 = .ok (.aload_n 0, 1) := by decide +kernel
theorem dL_law_469 : decode cL_law 469 = .ok (.iload_n 3, 1) := by decide +kernel
theorem dL_law_470 : decode cL_law 470 = .ok (.iconst 1, 1) := by decide +kernel
theorem dL_law_471 : decode cL_law 471 = .ok (.iadd, 1) := by decide +kernel
theorem dL_law_472 : decode cL_law 472 = .ok (.iaload, 1) := by decide +kernel
theorem dL_law_473 : decode cL_law 473 = .ok (.aload_n 0, 1) := by decide +kernel
theorem dL_law_474 : decode cL_law 474 = .ok (.iload_n 3, 1) := by decide +kernel
theorem dL_law_475 : decode cL_law 475 = .ok (.iconst 2, 1) := by decide +kernel
theorem dL_law_476 : decode cL_law 476 = .ok (.iadd, 1) := by decide +kernel
theorem dL_law_477 : decode cL_law 477 = .ok (.iaload, 1) := by decide +kernel
theorem dL_law_478 : decode cL_law 478 = .ok (.aload_n 0, 1) := by decide +kernel
theorem dL_law_479 : decode cL_law 479 = .ok (.iload_n 3, 1) := by decide +kernel
theorem dL_law_480 : decode cL_law 480 = .ok (.iconst 3, 1) := by decide +kernel
theorem dL_law_481 : decode cL_law 481 = .ok (.iadd, 1) := by decide +kernel
theorem dL_law_482 : decode cL_law 482 = .ok (.iaload, 1) := by decide +kernel
theorem dL_law_483 : decode cL_law 483 = .ok (.invokevirtual 60, 3) := by decide +kernel
theorem dL_law_486 : decode cL_law 486 = .ok (.if_icmp .eq 408, 3) := by decide +kernel
theorem dL_law_489 : decode cL_law 489 = .ok (.iconst 0, 1) := by decide +kernel
theorem dL_law_490 : decode cL_law 490 = .ok (.ireturn, 1) := by decide +kernel
theorem dL_law_491 : decode cL_law 491 = .ok (.aload_n 1, 1) := by decide +kernel
theorem dL_law_492 : decode cL_law 492 = .ok (.aload_n 0, 1) := by decide +kernel
theorem dL_law_493 : decode cL_law 493 = .ok (.iload_n 3, 1) := by decide +kernel
theorem dL_law_494 : decode cL_law 494 = .ok (.iconst 1, 1) := by decide +kernel
theorem dL_law_495 : decode cL_law 495 = .ok (.iadd, 1) := by decide +kernel
theorem dL_law_496 : decode cL_law 496 = .ok (.iaload, 1) := by decide +kernel
theorem dL_law_497 : decode cL_law 497 = .ok (.invokevirtual 61, 3) := by decide +kernel
theorem dL_law_500 : decode cL_law 500 = .ok (.aload_n 2, 1) := by decide +kernel
theorem dL_law_501 : decode cL_law 501 = .ok (.aload_n 0, 1) := by decide +kernel
theorem dL_law_502 : decode cL_law 502 = .ok (.iload_n 3, 1) := by decide +kernel
theorem dL_law_503 : decode cL_law 503 = .ok (.iconst 1, 1) := by decide +kernel
theorem dL_law_504 : decode cL_law 504 = .ok (.iadd, 1) := by decide +kernel
theorem dL_law_505 : decode cL_law 505 = .ok (.iaload, 1) := by decide +kernel
theorem dL_law_506 : decode cL_law 506 = .ok (.invokevirtual 64, 3) := by decide +kernel
theorem dL_law_509 : decode cL_law 509 = .ok (.if_icmp .eq 385, 3) := by decide +kernel
theorem dL_law_512 : decode cL_law 512 = .ok (.iconst 0, 1) := by decide +kernel
theorem dL_law_513 : decode cL_law 513 = .ok (.ireturn, 1) := by decide +kernel
theorem dL_law_514 : decode cL_law 514 = .ok (.aload_n 1, 1) := by decide +kernel
theorem dL_law_515 : decode cL_law 515 = .ok (.aload_n 0, 1) := by decide +kernel
theorem dL_law_516 : decode cL_law 516 = .ok (.iload_n 3, 1) := by decide +kernel
theorem dL_law_517 : decode cL_law 517 = .ok (.iconst 1, 1) := by decide +kernel
theorem dL_law_518 : decode cL_law 518 = .ok (.iadd, 1) := by decide +kernel
theorem dL_law_519 : decode cL_law 519 = .ok (.iaload, 1) := by decide +kernel
theorem dL_law_520 : decode cL_law 520 = .ok (.aload_n 0, 1) := by decide +kernel
theorem dL_law_521 : decode cL_law 521 = .ok (.iload_n 3, 1) := by decide +kernel
theorem dL_law_522 : decode cL_law 522 = .ok (.iconst 2, 1) := by decide +kernel
theorem dL_law_523 : decode cL_law 523 = .ok (.iadd, 1) := by decide +kernel
theorem dL_law_524 : decode cL_law 524 = .ok (.iaload, 1) := by decide +kernel
theorem dL_law_525 : decode cL_law 525 = .ok (.invokevirtual 65, 3) := by decide +kernel
theorem dL_law_528 : decode cL_law 528 = .ok (.aload_n 2, 1) := by decide +kernel
theorem dL_law_529 : decode cL_law 529 = .ok (.aload_n 0, 1) := by decide +kernel
theorem dL_law_530 : decode cL_law 530 = .ok (.iload_n 3, 1) := by decide +kernel
theorem dL_law_531 : decode cL_law 531 = .ok (.iconst 1, 1) := by decide +kernel
theorem dL_law_532 : decode cL_law 532 = .ok (.iadd, 1) := by decide +kernel
theorem dL_law_533 : decode cL_law 533 = .ok (.iaload, 1) := by decide +kernel
theorem dL_law_534 : decode cL_law 534 = .ok (.aload_n 0, 1) := by decide +kernel
theorem dL_law_535 : decode cL_law 535 = .ok (.iload_n 3, 1) := by decide +kernel
theorem dL_law_536 : decode cL_law 536 = .ok (.iconst 2, 1) := by decide +kernel
theorem dL_law_537 : decode cL_law 537 = .ok (.iadd, 1) := by decide +kernel
theorem dL_law_538 : decode cL_law 538 = .ok (.iaload, 1) := by decide +kernel
theorem dL_law_539 : decode cL_law 539 = .ok (.invokevirtual 68, 3) := by decide +kernel
theorem dL_law_542 : decode cL_law 542 = .ok (.if_icmp .eq 352, 3) := by decide +kernel
theorem dL_law_545 : decode cL_law 545 = .ok (.iconst 0, 1) := by decide +kernel
theorem dL_law_546 : decode cL_law 546 = .ok (.ireturn, 1) := by decide +kernel
theorem dL_law_547 : decode cL_law 547 = .ok (.aload_n 1, 1) := by decide +kernel
theorem dL_law_548 : decode cL_law 548 = .ok (.aload_n 0, 1) := by decide +kernel
theorem dL_law_549 : decode cL_law 549 = .ok (.iload_n 3, 1) := by decide +kernel
theorem dL_law_550 : decode cL_law 550 = .ok (.iconst 1, 1) := by decide +kernel
theorem dL_law_551 : decode cL_law 551 = .ok (.iadd, 1) := by decide +kernel
theorem dL_law_552 : decode cL_law 552 = .ok (.iaload, 1) := by decide +kernel
theorem dL_law_553 : decode cL_law 553 = .ok (.aload_n 0, 1) := by decide +kernel
theorem dL_law_554 : decode cL_law 554 = .ok (.iload_n 3, 1) := by decide +kernel
theorem dL_law_555 : decode cL_law 555 = .ok (.iconst 2, 1) := by decide +kernel
theorem dL_law_556 : decode cL_law 556 = .ok (.iadd, 1) := by decide +kernel
theorem dL_law_557 : decode cL_law 557 = .ok (.iaload, 1) := by decide +kernel
theorem dL_law_558 : decode cL_law 558 = .ok (.aload_n 0, 1) := by decide +kernel
theorem dL_law_559 : decode cL_law 559 = .ok (.iload_n 3, 1) := by decide +kernel
theorem dL_law_560 : decode cL_law 560 = .ok (.iconst 3, 1) := by decide +kernel
theorem dL_law_561 : decode cL_law 561 = .ok (.iadd, 1) := by decide +kernel
theorem dL_law_562 : decode cL_law 562 = .ok (.iaload, 1) := by decide +kernel
theorem dL_law_563 : decode cL_law 563 = .ok (.invokevirtual 69, 3) := by decide +kernel
theorem dL_law_566 : decode cL_law 566 = .ok (.aload_n 2, 1) := by decide +kernel
theorem dL_law_567 : decode cL_law 567 = .ok (.aload_n 0, 1) := by decide +kernel
theorem dL_law_568 : decode cL_law 568 = .ok (.iload_n 3, 1) := by decide +kernel
theorem dL_law_569 : decode cL_law 569 = .ok (.iconst 1, 1) := by decide +kernel
theorem dL_law_570 : decode cL_law 570 = .ok (.iadd, 1) := by decide +kernel
theorem dL_law_571 : decode cL_law 571 = .ok (.iaload, 1) := by decide +kernel
theorem dL_law_572 : decode cL_law 572 = .ok (.aload_n 0, 1) := by decide +kernel
theorem dL_law_573 : decode cL_law 573 = .ok (.iload_n 3, 1) := by decide +kernel
theorem dL_law_574 : decode cL_law 574 = .ok (.iconst 2, 1) := by decide +kernel
theorem dL_law_575 : decode cL_law 575 = .ok (.iadd, 1) := by decide +kernel
theorem dL_law_576 : decode cL_law 576 = .ok (.iaload, 1) := by decide +kernel
theorem dL_law_577 : decode cL_law 577 = .ok (.aload_n 0, 1) := by decide +kernel
theorem dL_law_578 : decode cL_law 578 = .ok (.iload_n 3, 1) := by decide +kernel
theorem dL_law_579 : decode cL_law 579 = .ok (.iconst 3, 1) := by decide +kernel
theorem dL_law_580 : decode cL_law 580 = .ok (.iadd, 1) := by decide +kernel
theorem dL_law_581 : decode cL_law 581 = .ok (.iaload, 1) := by decide +kernel
theorem dL_law_582 : decode cL_law 582 = .ok (.invokevirtual 72, 3) := by decide +kernel
theorem dL_law_585 : decode cL_law 585 = .ok (.if_icmp .eq 309, 3) := by decide +kernel
theorem dL_law_588 : decode cL_law 588 = .ok (.iconst 0, 1) := by decide +kernel
theorem dL_law_589 : decode cL_law 589 = .ok (.ireturn, 1) := by decide +kernel
theorem dL_law_590 : decode cL_law 590 = .ok (.aload_n 1, 1) := by decide +kernel
theorem dL_law_591 : decode cL_law 591 = .ok (.aload_n 0, 1) := by decide +kernel
theorem dL_law_592 : decode cL_law 592 = .ok (.iload_n 3, 1) := by decide +kernel
theorem dL_law_593 : decode cL_law 593 = .ok (.iconst 1, 1) := by decide +kernel
theorem dL_law_594 : decode cL_law 594 = .ok (.iadd, 1) := by decide +kernel
theorem dL_law_595 : decode cL_law 595 = .ok (.iaload, 1) := by decide +kernel
theorem dL_law_596 : decode cL_law 596 = .ok (.aload_n 0, 1) := by decide +kernel
theorem dL_law_597 : decode cL_law 597 = .ok (.iload_n 3, 1) := by decide +kernel
theorem dL_law_598 : decode cL_law 598 = .ok (.iconst 2, 1) := by decide +kernel
theorem dL_law_599 : decode cL_law 599 = .ok (.iadd, 1) := by decide +kernel
theorem dL_law_600 : decode cL_law 600 = .ok (.iaload, 1) := by decide +kernel
theorem dL_law_601 : decode cL_law 601 = .ok (.invokevirtual 73, 3) := by decide +kernel
theorem dL_law_604 : decode cL_law 604 = .ok (.aload_n 2, 1) := by decide +kernel
theorem dL_law_605 : decode cL_law 605 = .ok (.aload_n 0, 1) := by decide +kernel
theorem dL_law_606 : decode cL_law 606 = .ok (.iload_n 3, 1) := by decide +kernel
theorem dL_law_607 : decode cL_law 607 = .ok (.iconst 1, 1) := by decide +kernel
theorem dL_law_608 : decode cL_law 608 = .ok (.iadd, 1) := by decide +kernel
theorem dL_law_609 : decode cL_law 609 = .ok (.iaload, 1) := by decide +kernel
theorem dL_law_610 : decode cL_law 610 = .ok (.aload_n 0, 1) := by decide +kernel
theorem dL_law_611 : decode cL_law 611 = .ok (.iload_n 3, 1) := by decide +kernel
theorem dL_law_612 : decode cL_law 612 = .ok (.iconst 2, 1) := by decide +kernel
theorem dL_law_613 : decode cL_law 613 = .ok (.iadd, 1) := by decide +kernel
theorem dL_law_614 : decode cL_law 614 = .ok (.iaload, 1) := by decide +kernel
theorem dL_law_615 : decode cL_law 615 = .ok (.invokevirtual 76, 3) := by decide +kernel
theorem dL_law_618 : decode cL_law 618 = .ok (.if_icmp .eq 276, 3) := by decide +kernel
theorem dL_law_621 : decode cL_law 621 = .ok (.iconst 0, 1) := by decide +kernel
theorem dL_law_622 : decode cL_law 622 = .ok (.ireturn, 1) := by decide +kernel
theorem dL_law_623 : decode cL_law 623 = .ok (.aload_n 1, 1) := by decide +kernel
theorem dL_law_624 : decode cL_law 624 = .ok (.aload_n 0, 1) := by decide +kernel
theorem dL_law_625 : decode cL_law 625 = .ok (.iload_n 3, 1) := by decide +kernel
theorem dL_law_626 : decode cL_law 626 = .ok (.iconst 1, 1) := by decide +kernel
theorem dL_law_627 : decode cL_law 627 = .ok (.iadd, 1) := by decide +kernel
theorem dL_law_628 : decode cL_law 628 = .ok (.iaload, 1) := by decide +kernel
theorem dL_law_629 : decode cL_law 629 = .ok (.aload_n 0, 1) := by decide +kernel
theorem dL_law_630 : decode cL_law 630 = .ok (.iload_n 3, 1) := by decide +kernel
theorem dL_law_631 : decode cL_law 631 = .ok (.iconst 2, 1) := by decide +kernel
theorem dL_law_632 : decode cL_law 632 = .ok (.iadd, 1) := by decide +kernel
theorem dL_law_633 : decode cL_law 633 = .ok (.iaload, 1) := by decide +kernel
theorem dL_law_634 : decode cL_law 634 = .ok (.aload_n 0, 1) := by decide +kernel
theorem dL_law_635 : decode cL_law 635 = .ok (.iload_n 3, 1) := by decide +kernel
theorem dL_law_636 : decode cL_law 636 = .ok (.iconst 3, 1) := by decide +kernel
theorem dL_law_637 : decode cL_law 637 = .ok (.iadd, 1) := by decide +kernel
theorem dL_law_638 : decode cL_law 638 = .ok (.iaload, 1) := by decide +kernel
theorem dL_law_639 : decode cL_law 639 = .ok (.invokevirtual 77, 3) := by decide +kernel
theorem dL_law_642 : decode cL_law 642 = .ok (.aload_n 2, 1) := by decide +kernel
theorem dL_law_643 : decode cL_law 643 = .ok (.aload_n 0, 1) := by decide +kernel
theorem dL_law_644 : decode cL_law 644 = .ok (.iload_n 3, 1) := by decide +kernel
theorem dL_law_645 : decode cL_law 645 = .ok (.iconst 1, 1) := by decide +kernel
theorem dL_law_646 : decode cL_law 646 = .ok (.iadd, 1) := by decide +kernel
theorem dL_law_647 : decode cL_law 647 = .ok (.iaload, 1) := by decide +kernel
theorem dL_law_648 : decode cL_law 648 = .ok (.aload_n 0, 1) := by decide +kernel
theorem dL_law_649 : decode cL_law 649 = .ok (.iload_n 3, 1) := by decide +kernel
theorem dL_law_650 : decode cL_law 650 = .ok (.iconst 2, 1) := by decide +kernel
theorem dL_law_651 : decode cL_law 651 = .ok (.iadd, 1) := by decide +kernel
theorem dL_law_652 : decode cL_law 652 = .ok (.iaload, 1) := by decide +kernel
theorem dL_law_653 : decode cL_law 653 = .ok (.aload_n 0, 1) := by decide +kernel
theorem dL_law_654 : decode cL_law 654 = .ok (.iload_n 3, 1) := by decide +kernel
theorem dL_law_655 : decode cL_law 655 = .ok (.iconst 3, 1) := by decide +kernel
theorem dL_law_656 : decode cL_law 656 = .ok (.iadd, 1) := by decide +kernel
theorem dL_law_657 : decode cL_law 657 = .ok (.iaload, 1) := by decide +kernel
theorem dL_law_658 : decode cL_law 658 = .ok (.invokevirtual 80, 3) := by decide +kernel
theorem dL_law_661 : decode cL_law 661 = .ok (.if_icmp .eq 233, 3) := by decide +kernel
theorem dL_law_664 : decode cL_law 664 = .ok (.iconst 0, 1) := by decide +kernel
theorem dL_law_665 : decode cL_law 665 = .ok (.ireturn, 1) := by decide +kernel
theorem dL_law_666 : decode cL_law 666 = .ok (.aload_n 1, 1) := by decide +kernel
theorem dL_law_667 : decode cL_law 667 = .ok (.aload_n 0, 1) := by decide +kernel
theorem dL_law_668 : decode cL_law 668 = .ok (.iload_n 3, 1) := by decide +kernel
theorem dL_law_669 : decode cL_law 669 = .ok (.iconst 1, 1) := by decide +kernel
theorem dL_law_670 : decode cL_law 670 = .ok (.iadd, 1) := by decide +kernel
theorem dL_law_671 : decode cL_law 671 = .ok (.iaload, 1) := by decide +kernel
theorem dL_law_672 : decode cL_law 672 = .ok (.invokevirtual 81, 3) := by decide +kernel
theorem dL_law_675 : decode cL_law 675 = .ok (.aload_n 2, 1) := by decide +kernel
theorem dL_law_676 : decode cL_law 676 = .ok (.aload_n 0, 1) := by decide +kernel
theorem dL_law_677 : decode cL_law 677 = .ok (.iload_n 3, 1) := by decide +kernel
theorem dL_law_678 : decode cL_law 678 = .ok (.iconst 1, 1) := by decide +kernel
theorem dL_law_679 : decode cL_law 679 = .ok (.iadd, 1) := by decide +kernel
theorem dL_law_680 : decode cL_law 680 = .ok (.iaload, 1) := by decide +kernel
theorem dL_law_681 : decode cL_law 681 = .ok (.invokevirtual 84, 3) := by decide +kernel
theorem dL_law_684 : decode cL_law 684 = .ok (.if_icmp .eq 210, 3) := by decide +kernel
theorem dL_law_687 : decode cL_law 687 = .ok (.iconst 0, 1) := by decide +kernel
theorem dL_law_688 : decode cL_law 688 = .ok (.ireturn, 1) := by decide +kernel
theorem dL_law_689 : decode cL_law 689 = .ok (.aload_n 1, 1) := by decide +kernel
theorem dL_law_690 : decode cL_law 690 = .ok (.aload_n 0, 1) := by decide +kernel
theorem dL_law_691 : decode cL_law 691 = .ok (.iload_n 3, 1) := by decide +kernel
theorem dL_law_692 : decode cL_law 692 = .ok (.iconst 1, 1) := by decide +kernel
theorem dL_law_693 : decode cL_law 693 = .ok (.iadd, 1) := by decide +kernel
theorem dL_law_694 : decode cL_law 694 = .ok (.iaload, 1) := by decide +kernel
theorem dL_law_695 : decode cL_law 695 = .ok (.invokevirtual 85, 3) := by decide +kernel
theorem dL_law_698 : decode cL_law 698 = .ok (.aload_n 2, 1) := by decide +kernel
theorem dL_law_699 : decode cL_law 699 = .ok (.aload_n 0, 1) := by decide +kernel
theorem dL_law_700 : decode cL_law 700 = .ok (.iload_n 3, 1) := by decide +kernel
theorem dL_law_701 : decode cL_law 701 = .ok (.iconst 1, 1) := by decide +kernel
theorem dL_law_702 : decode cL_law 702 = .ok (.iadd, 1) := by decide +kernel
theorem dL_law_703 : decode cL_law 703 = .ok (.iaload, 1) := by decide +kernel
theorem dL_law_704 : decode cL_law 704 = .ok (.invokevirtual 89, 3) := by decide +kernel
theorem dL_law_707 : decode cL_law 707 = .ok (.lcmp, 1) := by decide +kernel
theorem dL_law_708 : decode cL_law 708 = .ok (.ifCond .eq 186, 3) := by decide +kernel
theorem dL_law_711 : decode cL_law 711 = .ok (.iconst 0, 1) := by decide +kernel
theorem dL_law_712 : decode cL_law 712 = .ok (.ireturn, 1) := by decide +kernel
theorem dL_law_713 : decode cL_law 713 = .ok (.aload_n 1, 1) := by decide +kernel
theorem dL_law_714 : decode cL_law 714 = .ok (.aload_n 0, 1) := by decide +kernel
theorem dL_law_715 : decode cL_law 715 = .ok (.iload_n 3, 1) := by decide +kernel
theorem dL_law_716 : decode cL_law 716 = .ok (.iconst 1, 1) := by decide +kernel
theorem dL_law_717 : decode cL_law 717 = .ok (.iadd, 1) := by decide +kernel
theorem dL_law_718 : decode cL_law 718 = .ok (.iaload, 1) := by decide +kernel
theorem dL_law_719 : decode cL_law 719 = .ok (.invokevirtual 90, 3) := by decide +kernel
theorem dL_law_722 : decode cL_law 722 = .ok (.aload_n 2, 1) := by decide +kernel
theorem dL_law_723 : decode cL_law 723 = .ok (.aload_n 0, 1) := by decide +kernel
theorem dL_law_724 : decode cL_law 724 = .ok (.iload_n 3, 1) := by decide +kernel
theorem dL_law_725 : decode cL_law 725 = .ok (.iconst 1, 1) := by decide +kernel
theorem dL_law_726 : decode cL_law 726 = .ok (.iadd, 1) := by decide +kernel
theorem dL_law_727 : decode cL_law 727 = .ok (.iaload, 1) := by decide +kernel
theorem dL_law_728 : decode cL_law 728 = .ok (.invokevirtual 93, 3) := by decide +kernel
theorem dL_law_731 : decode cL_law 731 = .ok (.if_icmp .eq 163, 3) := by decide +kernel
theorem dL_law_734 : decode cL_law 734 = .ok (.iconst 0, 1) := by decide +kernel
theorem dL_law_735 : decode cL_law 735 = .ok (.ireturn, 1) := by decide +kernel
theorem dL_law_736 : decode cL_law 736 = .ok (.aload_n 1, 1) := by decide +kernel
theorem dL_law_737 : decode cL_law 737 = .ok (.aload_n 0, 1) := by decide +kernel
theorem dL_law_738 : decode cL_law 738 = .ok (.iload_n 3, 1) := by decide +kernel
theorem dL_law_739 : decode cL_law 739 = .ok (.iconst 1, 1) := by decide +kernel
theorem dL_law_740 : decode cL_law 740 = .ok (.iadd, 1) := by decide +kernel
theorem dL_law_741 : decode cL_law 741 = .ok (.iaload, 1) := by decide +kernel
theorem dL_law_742 : decode cL_law 742 = .ok (.aload_n 0, 1) := by decide +kernel
theorem dL_law_743 : decode cL_law 743 = .ok (.iload_n 3, 1) := by decide +kernel
theorem dL_law_744 : decode cL_law 744 = .ok (.iconst 2, 1) := by decide +kernel
theorem dL_law_745 : decode cL_law 745 = .ok (.iadd, 1) := by decide +kernel
theorem dL_law_746 : decode cL_law 746 = .ok (.iaload, 1) := by decide +kernel
theorem dL_law_747 : decode cL_law 747 = .ok (.invokevirtual 94, 3) := by decide +kernel
theorem dL_law_750 : decode cL_law 750 = .ok (.aload_n 2, 1) := by decide +kernel
theorem dL_law_751 : decode cL_law 751 = .ok (.aload_n 0, 1) := by decide +kernel
theorem dL_law_752 : decode cL_law 752 = .ok (.iload_n 3, 1) := by decide +kernel
theorem dL_law_753 : decode cL_law 753 = .ok (.iconst 1, 1) := by decide +kernel
theorem dL_law_754 : decode cL_law 754 = .ok (.iadd, 1) := by decide +kernel
theorem dL_law_755 : decode cL_law 755 = .ok (.iaload, 1) := by decide +kernel
theorem dL_law_756 : decode cL_law 756 = .ok (.aload_n 0, 1) := by decide +kernel
theorem dL_law_757 : decode cL_law 757 = .ok (.iload_n 3, 1) := by decide +kernel
theorem dL_law_758 : decode cL_law 758 = .ok (.iconst 2, 1) := by decide +kernel
theorem dL_law_759 : decode cL_law 759 = .ok (.iadd, 1) := by decide +kernel
theorem dL_law_760 : decode cL_law 760 = .ok (.iaload, 1) := by decide +kernel
theorem dL_law_761 : decode cL_law 761 = .ok (.invokevirtual 97, 3) := by decide +kernel
theorem dL_law_764 : decode cL_law 764 = .ok (.if_icmp .eq 130, 3) := by decide +kernel
theorem dL_law_767 : decode cL_law 767 = .ok (.iconst 0, 1) := by decide +kernel
theorem dL_law_768 : decode cL_law 768 = .ok (.ireturn, 1) := by decide +kernel
theorem dL_law_769 : decode cL_law 769 = .ok (.aload_n 1, 1) := by decide +kernel
theorem dL_law_770 : decode cL_law 770 = .ok (.aload_n 0, 1) := by decide +kernel
theorem dL_law_771 : decode cL_law 771 = .ok (.iload_n 3, 1) := by decide +kernel
theorem dL_law_772 : decode cL_law 772 = .ok (.iconst 1, 1) := by decide +kernel
theorem dL_law_773 : decode cL_law 773 = .ok (.iadd, 1) := by decide +kernel
theorem dL_law_774 : decode cL_law 774 = .ok (.iaload, 1) := by decide +kernel
theorem dL_law_775 : decode cL_law 775 = .ok (.aload_n 0, 1) := by decide +kernel
theorem dL_law_776 : decode cL_law 776 = .ok (.iload_n 3, 1) := by decide +kernel
theorem dL_law_777 : decode cL_law 777 = .ok (.iconst 2, 1) := by decide +kernel
theorem dL_law_778 : decode cL_law 778 = .ok (.iadd, 1) := by decide +kernel
theorem dL_law_779 : decode cL_law 779 = .ok (.iaload, 1) := by decide +kernel
theorem dL_law_780 : decode cL_law 780 = .ok (.aload_n 0, 1) := by decide +kernel
theorem dL_law_781 : decode cL_law 781 = .ok (.iload_n 3, 1) := by decide +kernel
theorem dL_law_782 : decode cL_law 782 = .ok (.iconst 3, 1) := by decide +kernel
theorem dL_law_783 : decode cL_law 783 = .ok (.iadd, 1) := by decide +kernel
theorem dL_law_784 : decode cL_law 784 = .ok (.iaload, 1) := by decide +kernel
theorem dL_law_785 : decode cL_law 785 = .ok (.invokevirtual 98, 3) := by decide +kernel
theorem dL_law_788 : decode cL_law 788 = .ok (.aload_n 2, 1) := by decide +kernel
theorem dL_law_789 : decode cL_law 789 = .ok (.aload_n 0, 1) := by decide +kernel
theorem dL_law_790 : decode cL_law 790 = .ok (.iload_n 3, 1) := by decide +kernel
theorem dL_law_791 : decode cL_law 791 = .ok (.iconst 1, 1) := by decide +kernel
theorem dL_law_792 : decode cL_law 792 = .ok (.iadd, 1) := by decide +kernel
theorem dL_law_793 : decode cL_law 793 = .ok (.iaload, 1) := by decide +kernel
theorem dL_law_794 : decode cL_law 794 = .ok (.aload_n 0, 1) := by decide +kernel
theorem dL_law_795 : decode cL_law 795 = .ok (.iload_n 3, 1) := by decide +kernel
theorem dL_law_796 : decode cL_law 796 = .ok (.iconst 2, 1) := by decide +kernel
theorem dL_law_797 : decode cL_law 797 = .ok (.iadd, 1) := by decide +kernel
theorem dL_law_798 : decode cL_law 798 = .ok (.iaload, 1) := by decide +kernel
theorem dL_law_799 : decode cL_law 799 = .ok (.aload_n 0, 1) := by decide +kernel
theorem dL_law_800 : decode cL_law 800 = .ok (.iload_n 3, 1) := by decide +kernel
theorem dL_law_801 : decode cL_law 801 = .ok (.iconst 3, 1) := by decide +kernel
theorem dL_law_802 : decode cL_law 802 = .ok (.iadd, 1) := by decide +kernel
theorem dL_law_803 : decode cL_law 803 = .ok (.iaload, 1) := by decide +kernel
theorem dL_law_804 : decode cL_law 804 = .ok (.invokevirtual 101, 3) := by decide +kernel
theorem dL_law_807 : decode cL_law 807 = .ok (.if_icmp .eq 87, 3) := by decide +kernel
theorem dL_law_810 : decode cL_law 810 = .ok (.iconst 0, 1) := by decide +kernel
theorem dL_law_811 : decode cL_law 811 = .ok (.ireturn, 1) := by decide +kernel
theorem dL_law_812 : decode cL_law 812 = .ok (.aload_n 1, 1) := by decide +kernel
theorem dL_law_813 : decode cL_law 813 = .ok (.aload_n 0, 1) := by decide +kernel
theorem dL_law_814 : decode cL_law 814 = .ok (.iload_n 3, 1) := by decide +kernel
theorem dL_law_815 : decode cL_law 815 = .ok (.iconst 1, 1) := by decide +kernel
theorem dL_law_816 : decode cL_law 816 = .ok (.iadd, 1) := by decide +kernel
theorem dL_law_817 : decode cL_law 817 = .ok (.iaload, 1) := by decide +kernel
theorem dL_law_818 : decode cL_law 818 = .ok (.invokevirtual 102, 3) := by decide +kernel
theorem dL_law_821 : decode cL_law 821 = .ok (.aload_n 2, 1) := by decide +kernel
theorem dL_law_822 : decode cL_law 822 = .ok (.aload_n 0, 1) := by decide +kernel
theorem dL_law_823 : decode cL_law 823 = .ok (.iload_n 3, 1) := by decide +kernel
theorem dL_law_824 : decode cL_law 824 = .ok (.iconst 1, 1) := by decide +kernel
theorem dL_law_825 : decode cL_law 825 = .ok (.iadd, 1) := by decide +kernel
theorem dL_law_826 : decode cL_law 826 = .ok (.iaload, 1) := by decide +kernel
theorem dL_law_827 : decode cL_law 827 = .ok (.invokevirtual 105, 3) := by decide +kernel
theorem dL_law_830 : decode cL_law 830 = .ok (.if_icmp .eq 64, 3) := by decide +kernel
theorem dL_law_833 : decode cL_law 833 = .ok (.iconst 0, 1) := by decide +kernel
theorem dL_law_834 : decode cL_law 834 = .ok (.ireturn, 1) := by decide +kernel
theorem dL_law_835 : decode cL_law 835 = .ok (.aload_n 1, 1) := by decide +kernel
theorem dL_law_836 : decode cL_law 836 = .ok (.aload_n 0, 1) := by decide +kernel
theorem dL_law_837 : decode cL_law 837 = .ok (.iload_n 3, 1) := by decide +kernel
theorem dL_law_838 : decode cL_law 838 = .ok (.iconst 1, 1) := by decide +kernel
theorem dL_law_839 : decode cL_law 839 = .ok (.iadd, 1) := by decide +kernel
theorem dL_law_840 : decode cL_law 840 = .ok (.iaload, 1) := by decide +kernel
theorem dL_law_841 : decode cL_law 841 = .ok (.invokevirtual 106, 3) := by decide +kernel
theorem dL_law_844 : decode cL_law 844 = .ok (.aload_n 2, 1) := by decide +kernel
theorem dL_law_845 : decode cL_law 845 = .ok (.aload_n 0, 1) := by decide +kernel
theorem dL_law_846 : decode cL_law 846 = .ok (.iload_n 3, 1) := by decide +kernel
theorem dL_law_847 : decode cL_law 847 = .ok (.iconst 1, 1) := by decide +kernel
theorem dL_law_848 : decode cL_law 848 = .ok (.iadd, 1) := by decide +kernel
theorem dL_law_849 : decode cL_law 849 = .ok (.iaload, 1) := by decide +kernel
theorem dL_law_850 : decode cL_law 850 = .ok (.invokevirtual 109, 3) := by decide +kernel
theorem dL_law_853 : decode cL_law 853 = .ok (.if_icmp .eq 41, 3) := by decide +kernel
theorem dL_law_856 : decode cL_law 856 = .ok (.iconst 0, 1) := by decide +kernel
theorem dL_law_857 : decode cL_law 857 = .ok (.ireturn, 1) := by decide +kernel
theorem dL_law_858 : decode cL_law 858 = .ok (.aload_n 1, 1) := by decide +kernel
theorem dL_law_859 : decode cL_law 859 = .ok (.invokevirtual 110, 3) := by decide +kernel
theorem dL_law_862 : decode cL_law 862 = .ok (.aload_n 2, 1) := by decide +kernel
theorem dL_law_863 : decode cL_law 863 = .ok (.invokevirtual 113, 3) := by decide +kernel
theorem dL_law_866 : decode cL_law 866 = .ok (.if_icmp .eq 28, 3) := by decide +kernel
theorem dL_law_869 : decode cL_law 869 = .ok (.iconst 0, 1) := by decide +kernel
theorem dL_law_870 : decode cL_law 870 = .ok (.ireturn, 1) := by decide +kernel
theorem dL_law_871 : decode cL_law 871 = .ok (.aload_n 1, 1) := by decide +kernel
theorem dL_law_872 : decode cL_law 872 = .ok (.aload_n 0, 1) := by decide +kernel
theorem dL_law_873 : decode cL_law 873 = .ok (.iload_n 3, 1) := by decide +kernel
theorem dL_law_874 : decode cL_law 874 = .ok (.iconst 1, 1) := by decide +kernel
theorem dL_law_875 : decode cL_law 875 = .ok (.iadd, 1) := by decide +kernel
theorem dL_law_876 : decode cL_law 876 = .ok (.iaload, 1) := by decide +kernel
theorem dL_law_877 : decode cL_law 877 = .ok (.invokevirtual 114, 3) := by decide +kernel
theorem dL_law_880 : decode cL_law 880 = .ok (.aload_n 2, 1) := by decide +kernel
theorem dL_law_881 : decode cL_law 881 = .ok (.aload_n 0, 1) := by decide +kernel
theorem dL_law_882 : decode cL_law 882 = .ok (.iload_n 3, 1) := by decide +kernel
theorem dL_law_883 : decode cL_law 883 = .ok (.iconst 1, 1) := by decide +kernel
theorem dL_law_884 : decode cL_law 884 = .ok (.iadd, 1) := by decide +kernel
theorem dL_law_885 : decode cL_law 885 = .ok (.iaload, 1) := by decide +kernel
theorem dL_law_886 : decode cL_law 886 = .ok (.invokevirtual 117, 3) := by decide +kernel
theorem dL_law_889 : decode cL_law 889 = .ok (.if_icmp .eq 5, 3) := by decide +kernel
theorem dL_law_892 : decode cL_law 892 = .ok (.iconst 0, 1) := by decide +kernel
theorem dL_law_893 : decode cL_law 893 = .ok (.ireturn, 1) := by decide +kernel
theorem dL_law_894 : decode cL_law 894 = .ok (.iinc 3 4, 3) := by decide +kernel
theorem dL_law_897 : decode cL_law 897 = .ok (.goto (-879), 3) := by decide +kernel
theorem dL_law_900 : decode cL_law 900 = .ok (.iconst 1, 1) := by decide +kernel
theorem dL_law_901 : decode cL_law 901 = .ok (.ireturn, 1) := by decide +kernel
end
