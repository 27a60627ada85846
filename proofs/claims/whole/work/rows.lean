section
-- ===== PART A: goes FIRST, ahead of the names: the tables' words, and 'selects' of the private methods out of them =====
/-- a private method of a class that the tables say can be made, by its rows of tables_1 -/
def lw_okq (q : MethodName × Nat) : Prop := (q.1.cls ≠ "java/lang/invoke/MethodHandle" ∧ q.1.cls ≠ "java/lang/invoke/VarHandle") ∧ Cond.instantiable q.1.cls q.2 ∈ tables_1 ∧ Cond.privateMethod q.1 ∈ tables_1 ∧ Cond.instanceMethod q.1 ∈ tables_1
theorem lw_p0 : lw_okq (⟨"ExactTests$Walk", "begin", "(LExactTests$Grid;)V"⟩, 15) := ⟨⟨by decide +kernel, by decide +kernel⟩, List.mem_of_getElem? (i := 60) (by decide +kernel), List.mem_of_getElem? (i := 398) (by decide +kernel), List.mem_of_getElem? (i := 399) (by decide +kernel)⟩
theorem lw_p1 : lw_okq (⟨"ExactTests$Walk", "countRow", "(I)V"⟩, 15) := ⟨⟨by decide +kernel, by decide +kernel⟩, List.mem_of_getElem? (i := 60) (by decide +kernel), List.mem_of_getElem? (i := 416) (by decide +kernel), List.mem_of_getElem? (i := 417) (by decide +kernel)⟩
theorem lw_p2 : lw_okq (⟨"ExactTests$Walk", "sumOfColumnsLeft", "()I"⟩, 15) := ⟨⟨by decide +kernel, by decide +kernel⟩, List.mem_of_getElem? (i := 60) (by decide +kernel), List.mem_of_getElem? (i := 420) (by decide +kernel), List.mem_of_getElem? (i := 421) (by decide +kernel)⟩
theorem lw_p3 : lw_okq (⟨"ExactTests$Walk", "countCell", "(IIII)V"⟩, 15) := ⟨⟨by decide +kernel, by decide +kernel⟩, List.mem_of_getElem? (i := 60) (by decide +kernel), List.mem_of_getElem? (i := 424) (by decide +kernel), List.mem_of_getElem? (i := 425) (by decide +kernel)⟩
theorem lw_p4 : lw_okq (⟨"ExactTests$Walk", "weighAll", "(I)V"⟩, 15) := ⟨⟨by decide +kernel, by decide +kernel⟩, List.mem_of_getElem? (i := 60) (by decide +kernel), List.mem_of_getElem? (i := 441) (by decide +kernel), List.mem_of_getElem? (i := 442) (by decide +kernel)⟩
theorem lw_p5 : lw_okq (⟨"ExactTests$Whole", "empty", "()V"⟩, 2) := ⟨⟨by decide +kernel, by decide +kernel⟩, List.mem_of_getElem? (i := 67) (by decide +kernel), List.mem_of_getElem? (i := 449) (by decide +kernel), List.mem_of_getElem? (i := 450) (by decide +kernel)⟩
theorem lw_p6 : lw_okq (⟨"ExactTests$Whole", "trim", "(I)V"⟩, 2) := ⟨⟨by decide +kernel, by decide +kernel⟩, List.mem_of_getElem? (i := 67) (by decide +kernel), List.mem_of_getElem? (i := 454) (by decide +kernel), List.mem_of_getElem? (i := 455) (by decide +kernel)⟩
theorem lw_p7 : lw_okq (⟨"ExactTests$Walk", "choose", "(II)J"⟩, 15) := ⟨⟨by decide +kernel, by decide +kernel⟩, List.mem_of_getElem? (i := 60) (by decide +kernel), List.mem_of_getElem? (i := 463) (by decide +kernel), List.mem_of_getElem? (i := 464) (by decide +kernel)⟩
theorem lw_p8 : lw_okq (⟨"ExactTests$Whole", "addTimes", "(LExactTests$Whole;JI)V"⟩, 2) := ⟨⟨by decide +kernel, by decide +kernel⟩, List.mem_of_getElem? (i := 67) (by decide +kernel), List.mem_of_getElem? (i := 471) (by decide +kernel), List.mem_of_getElem? (i := 472) (by decide +kernel)⟩
theorem lw_p9 : lw_okq (⟨"ExactTests$Walk", "weighSeen", "(LExactTests$Grid;)V"⟩, 15) := ⟨⟨by decide +kernel, by decide +kernel⟩, List.mem_of_getElem? (i := 60) (by decide +kernel), List.mem_of_getElem? (i := 475) (by decide +kernel), List.mem_of_getElem? (i := 476) (by decide +kernel)⟩
theorem lw_p10 : lw_okq (⟨"ExactTests$Walk", "fillRow", "(I)V"⟩, 15) := ⟨⟨by decide +kernel, by decide +kernel⟩, List.mem_of_getElem? (i := 60) (by decide +kernel), List.mem_of_getElem? (i := 479) (by decide +kernel), List.mem_of_getElem? (i := 480) (by decide +kernel)⟩
theorem lw_p11 : lw_okq (⟨"ExactTests$Walk", "fillCell", "(IIII)V"⟩, 15) := ⟨⟨by decide +kernel, by decide +kernel⟩, List.mem_of_getElem? (i := 60) (by decide +kernel), List.mem_of_getElem? (i := 483) (by decide +kernel), List.mem_of_getElem? (i := 484) (by decide +kernel)⟩
theorem lw_p12 : lw_okq (⟨"ExactTests$Walk", "fillLastRow", "(I)V"⟩, 15) := ⟨⟨by decide +kernel, by decide +kernel⟩, List.mem_of_getElem? (i := 60) (by decide +kernel), List.mem_of_getElem? (i := 487) (by decide +kernel), List.mem_of_getElem? (i := 488) (by decide +kernel)⟩
theorem lw_p13 : lw_okq (⟨"ExactTests$Fraction", "reduce", "()V"⟩, 2) := ⟨⟨by decide +kernel, by decide +kernel⟩, List.mem_of_getElem? (i := 208) (by decide +kernel), List.mem_of_getElem? (i := 518) (by decide +kernel), List.mem_of_getElem? (i := 519) (by decide +kernel)⟩
theorem lw_p14 : lw_okq (⟨"ExactTests$Fraction", "isCommon", "(I)Z"⟩, 2) := ⟨⟨by decide +kernel, by decide +kernel⟩, List.mem_of_getElem? (i := 208) (by decide +kernel), List.mem_of_getElem? (i := 524) (by decide +kernel), List.mem_of_getElem? (i := 525) (by decide +kernel)⟩
theorem lw_p15 : lw_okq (⟨"ExactTests$Sums", "begin", "()V"⟩, 7) := ⟨⟨by decide +kernel, by decide +kernel⟩, List.mem_of_getElem? (i := 154) (by decide +kernel), List.mem_of_getElem? (i := 550) (by decide +kernel), List.mem_of_getElem? (i := 551) (by decide +kernel)⟩
def lw_privs_1 : List (MethodName × Nat) := [(⟨"ExactTests$Walk", "begin", "(LExactTests$Grid;)V"⟩, 15), (⟨"ExactTests$Walk", "countRow", "(I)V"⟩, 15), (⟨"ExactTests$Walk", "sumOfColumnsLeft", "()I"⟩, 15), (⟨"ExactTests$Walk", "countCell", "(IIII)V"⟩, 15), (⟨"ExactTests$Walk", "weighAll", "(I)V"⟩, 15), (⟨"ExactTests$Whole", "empty", "()V"⟩, 2), (⟨"ExactTests$Whole", "trim", "(I)V"⟩, 2), (⟨"ExactTests$Walk", "choose", "(II)J"⟩, 15), (⟨"ExactTests$Whole", "addTimes", "(LExactTests$Whole;JI)V"⟩, 2), (⟨"ExactTests$Walk", "weighSeen", "(LExactTests$Grid;)V"⟩, 15), (⟨"ExactTests$Walk", "fillRow", "(I)V"⟩, 15), (⟨"ExactTests$Walk", "fillCell", "(IIII)V"⟩, 15), (⟨"ExactTests$Walk", "fillLastRow", "(I)V"⟩, 15), (⟨"ExactTests$Fraction", "reduce", "()V"⟩, 2), (⟨"ExactTests$Fraction", "isCommon", "(I)Z"⟩, 2), (⟨"ExactTests$Sums", "begin", "()V"⟩, 7)]
theorem lw_r1 : ∀ q ∈ lw_privs_1, lw_okq q := List.forall_mem_cons.mpr ⟨lw_p0, List.forall_mem_cons.mpr ⟨lw_p1, List.forall_mem_cons.mpr ⟨lw_p2, List.forall_mem_cons.mpr ⟨lw_p3, List.forall_mem_cons.mpr ⟨lw_p4, List.forall_mem_cons.mpr ⟨lw_p5, List.forall_mem_cons.mpr ⟨lw_p6, List.forall_mem_cons.mpr ⟨lw_p7, List.forall_mem_cons.mpr ⟨lw_p8, List.forall_mem_cons.mpr ⟨lw_p9, List.forall_mem_cons.mpr ⟨lw_p10, List.forall_mem_cons.mpr ⟨lw_p11, List.forall_mem_cons.mpr ⟨lw_p12, List.forall_mem_cons.mpr ⟨lw_p13, List.forall_mem_cons.mpr ⟨lw_p14, List.forall_mem_cons.mpr ⟨lw_p15, fun _ h => absurd h List.not_mem_nil⟩⟩⟩⟩⟩⟩⟩⟩⟩⟩⟩⟩⟩⟩⟩⟩
theorem lw_p16 : lw_okq (⟨"ExactTests", "takeScores", "(LExactTests$Numbers;I)I"⟩, 11) := ⟨⟨by decide +kernel, by decide +kernel⟩, List.mem_of_getElem? (i := 19) (by decide +kernel), List.mem_of_getElem? (i := 559) (by decide +kernel), List.mem_of_getElem? (i := 560) (by decide +kernel)⟩
theorem lw_p17 : lw_okq (⟨"ExactTests", "rankOfNumber", "(I)I"⟩, 11) := ⟨⟨by decide +kernel, by decide +kernel⟩, List.mem_of_getElem? (i := 19) (by decide +kernel), List.mem_of_getElem? (i := 571) (by decide +kernel), List.mem_of_getElem? (i := 572) (by decide +kernel)⟩
theorem lw_p18 : lw_okq (⟨"ExactTests$HalfSums", "makeRoom", "(I)V"⟩, 3) := ⟨⟨by decide +kernel, by decide +kernel⟩, List.mem_of_getElem? (i := 160) (by decide +kernel), List.mem_of_getElem? (i := 595) (by decide +kernel), List.mem_of_getElem? (i := 596) (by decide +kernel)⟩
theorem lw_p19 : lw_okq (⟨"ExactTests", "judge", "(III)V"⟩, 11) := ⟨⟨by decide +kernel, by decide +kernel⟩, List.mem_of_getElem? (i := 19) (by decide +kernel), List.mem_of_getElem? (i := 604) (by decide +kernel), List.mem_of_getElem? (i := 605) (by decide +kernel)⟩
theorem lw_p20 : lw_okq (⟨"ExactTests", "scoreOfSize", "(II)I"⟩, 11) := ⟨⟨by decide +kernel, by decide +kernel⟩, List.mem_of_getElem? (i := 19) (by decide +kernel), List.mem_of_getElem? (i := 639) (by decide +kernel), List.mem_of_getElem? (i := 640) (by decide +kernel)⟩
theorem lw_p21 : lw_okq (⟨"ExactTests", "rankOfSize", "(I)I"⟩, 11) := ⟨⟨by decide +kernel, by decide +kernel⟩, List.mem_of_getElem? (i := 19) (by decide +kernel), List.mem_of_getElem? (i := 643) (by decide +kernel), List.mem_of_getElem? (i := 644) (by decide +kernel)⟩
theorem lw_p22 : lw_okq (⟨"ExactTests", "refusal", "(I)I"⟩, 11) := ⟨⟨by decide +kernel, by decide +kernel⟩, List.mem_of_getElem? (i := 19) (by decide +kernel), List.mem_of_getElem? (i := 686) (by decide +kernel), List.mem_of_getElem? (i := 687) (by decide +kernel)⟩
theorem lw_p23 : lw_okq (⟨"ExactTests", "shiftInPlace", "(I)I"⟩, 11) := ⟨⟨by decide +kernel, by decide +kernel⟩, List.mem_of_getElem? (i := 19) (by decide +kernel), List.mem_of_getElem? (i := 847) (by decide +kernel), List.mem_of_getElem? (i := 848) (by decide +kernel)⟩
theorem lw_p24 : lw_okq (⟨"ExactTests", "countShiftsUpTo", "(I)I"⟩, 11) := ⟨⟨by decide +kernel, by decide +kernel⟩, List.mem_of_getElem? (i := 19) (by decide +kernel), List.mem_of_getElem? (i := 851) (by decide +kernel), List.mem_of_getElem? (i := 852) (by decide +kernel)⟩
theorem lw_p25 : lw_okq (⟨"ExactTestsModel", "marginOfRow", "(I)I"⟩, 47) := ⟨⟨by decide +kernel, by decide +kernel⟩, List.mem_of_getElem? (i := 863) (by decide +kernel), List.mem_of_getElem? (i := 1033) (by decide +kernel), List.mem_of_getElem? (i := 1034) (by decide +kernel)⟩
theorem lw_p26 : lw_okq (⟨"ExactTestsModel", "marginOfColumn", "(I)I"⟩, 47) := ⟨⟨by decide +kernel, by decide +kernel⟩, List.mem_of_getElem? (i := 863) (by decide +kernel), List.mem_of_getElem? (i := 1037) (by decide +kernel), List.mem_of_getElem? (i := 1038) (by decide +kernel)⟩
theorem lw_p27 : lw_okq (⟨"ExactTestsModel", "firstTable", "()V"⟩, 47) := ⟨⟨by decide +kernel, by decide +kernel⟩, List.mem_of_getElem? (i := 863) (by decide +kernel), List.mem_of_getElem? (i := 1059) (by decide +kernel), List.mem_of_getElem? (i := 1060) (by decide +kernel)⟩
theorem lw_p28 : lw_okq (⟨"ExactTestsModel", "openFrom", "(I)V"⟩, 47) := ⟨⟨by decide +kernel, by decide +kernel⟩, List.mem_of_getElem? (i := 863) (by decide +kernel), List.mem_of_getElem? (i := 1063) (by decide +kernel), List.mem_of_getElem? (i := 1064) (by decide +kernel)⟩
theorem lw_p29 : lw_okq (⟨"ExactTestsModel", "open", "(I)V"⟩, 47) := ⟨⟨by decide +kernel, by decide +kernel⟩, List.mem_of_getElem? (i := 863) (by decide +kernel), List.mem_of_getElem? (i := 1067) (by decide +kernel), List.mem_of_getElem? (i := 1068) (by decide +kernel)⟩
theorem lw_p30 : lw_okq (⟨"ExactTestsModel", "columnLeft", "(II)I"⟩, 47) := ⟨⟨by decide +kernel, by decide +kernel⟩, List.mem_of_getElem? (i := 863) (by decide +kernel), List.mem_of_getElem? (i := 1071) (by decide +kernel), List.mem_of_getElem? (i := 1072) (by decide +kernel)⟩
theorem lw_p31 : lw_okq (⟨"ExactTestsModel", "nextTable", "()Z"⟩, 47) := ⟨⟨by decide +kernel, by decide +kernel⟩, List.mem_of_getElem? (i := 863) (by decide +kernel), List.mem_of_getElem? (i := 1075) (by decide +kernel), List.mem_of_getElem? (i := 1076) (by decide +kernel)⟩
def lw_privs_2 : List (MethodName × Nat) := [(⟨"ExactTests", "takeScores", "(LExactTests$Numbers;I)I"⟩, 11), (⟨"ExactTests", "rankOfNumber", "(I)I"⟩, 11), (⟨"ExactTests$HalfSums", "makeRoom", "(I)V"⟩, 3), (⟨"ExactTests", "judge", "(III)V"⟩, 11), (⟨"ExactTests", "scoreOfSize", "(II)I"⟩, 11), (⟨"ExactTests", "rankOfSize", "(I)I"⟩, 11), (⟨"ExactTests", "refusal", "(I)I"⟩, 11), (⟨"ExactTests", "shiftInPlace", "(I)I"⟩, 11), (⟨"ExactTests", "countShiftsUpTo", "(I)I"⟩, 11), (⟨"ExactTestsModel", "marginOfRow", "(I)I"⟩, 47), (⟨"ExactTestsModel", "marginOfColumn", "(I)I"⟩, 47), (⟨"ExactTestsModel", "firstTable", "()V"⟩, 47), (⟨"ExactTestsModel", "openFrom", "(I)V"⟩, 47), (⟨"ExactTestsModel", "open", "(I)V"⟩, 47), (⟨"ExactTestsModel", "columnLeft", "(II)I"⟩, 47), (⟨"ExactTestsModel", "nextTable", "()Z"⟩, 47)]
theorem lw_r2 : ∀ q ∈ lw_privs_2, lw_okq q := List.forall_mem_cons.mpr ⟨lw_p16, List.forall_mem_cons.mpr ⟨lw_p17, List.forall_mem_cons.mpr ⟨lw_p18, List.forall_mem_cons.mpr ⟨lw_p19, List.forall_mem_cons.mpr ⟨lw_p20, List.forall_mem_cons.mpr ⟨lw_p21, List.forall_mem_cons.mpr ⟨lw_p22, List.forall_mem_cons.mpr ⟨lw_p23, List.forall_mem_cons.mpr ⟨lw_p24, List.forall_mem_cons.mpr ⟨lw_p25, List.forall_mem_cons.mpr ⟨lw_p26, List.forall_mem_cons.mpr ⟨lw_p27, List.forall_mem_cons.mpr ⟨lw_p28, List.forall_mem_cons.mpr ⟨lw_p29, List.forall_mem_cons.mpr ⟨lw_p30, List.forall_mem_cons.mpr ⟨lw_p31, fun _ h => absurd h List.not_mem_nil⟩⟩⟩⟩⟩⟩⟩⟩⟩⟩⟩⟩⟩⟩⟩⟩
theorem lw_p32 : lw_okq (⟨"ExactTestsModel", "timesFactorial", "([II)V"⟩, 47) := ⟨⟨by decide +kernel, by decide +kernel⟩, List.mem_of_getElem? (i := 863) (by decide +kernel), List.mem_of_getElem? (i := 1083) (by decide +kernel), List.mem_of_getElem? (i := 1084) (by decide +kernel)⟩
theorem lw_p33 : lw_okq (⟨"ExactTestsModel", "weigh", "([I[I)V"⟩, 47) := ⟨⟨by decide +kernel, by decide +kernel⟩, List.mem_of_getElem? (i := 863) (by decide +kernel), List.mem_of_getElem? (i := 1090) (by decide +kernel), List.mem_of_getElem? (i := 1091) (by decide +kernel)⟩
theorem lw_p34 : lw_okq (⟨"ExactTestsModel", "keepCase", "(I)V"⟩, 47) := ⟨⟨by decide +kernel, by decide +kernel⟩, List.mem_of_getElem? (i := 863) (by decide +kernel), List.mem_of_getElem? (i := 1101) (by decide +kernel), List.mem_of_getElem? (i := 1102) (by decide +kernel)⟩
theorem lw_p35 : lw_okq (⟨"ExactTestsModel", "shorten", "([I)V"⟩, 47) := ⟨⟨by decide +kernel, by decide +kernel⟩, List.mem_of_getElem? (i := 863) (by decide +kernel), List.mem_of_getElem? (i := 1112) (by decide +kernel), List.mem_of_getElem? (i := 1113) (by decide +kernel)⟩
theorem lw_p36 : lw_okq (⟨"ExactTestsModel", "findCommon", "([II[II)V"⟩, 47) := ⟨⟨by decide +kernel, by decide +kernel⟩, List.mem_of_getElem? (i := 863) (by decide +kernel), List.mem_of_getElem? (i := 1116) (by decide +kernel), List.mem_of_getElem? (i := 1117) (by decide +kernel)⟩
theorem lw_p37 : lw_okq (⟨"ExactTestsModel", "part", "([II[II)V"⟩, 47) := ⟨⟨by decide +kernel, by decide +kernel⟩, List.mem_of_getElem? (i := 863) (by decide +kernel), List.mem_of_getElem? (i := 1123) (by decide +kernel), List.mem_of_getElem? (i := 1124) (by decide +kernel)⟩
theorem lw_p38 : lw_okq (⟨"ExactTestsModel", "takeSizes", "()V"⟩, 47) := ⟨⟨by decide +kernel, by decide +kernel⟩, List.mem_of_getElem? (i := 863) (by decide +kernel), List.mem_of_getElem? (i := 1150) (by decide +kernel), List.mem_of_getElem? (i := 1151) (by decide +kernel)⟩
theorem lw_p39 : lw_okq (⟨"ExactTestsModel", "rankOf", "(I)I"⟩, 47) := ⟨⟨by decide +kernel, by decide +kernel⟩, List.mem_of_getElem? (i := 863) (by decide +kernel), List.mem_of_getElem? (i := 1157) (by decide +kernel), List.mem_of_getElem? (i := 1158) (by decide +kernel)⟩
theorem lw_p40 : lw_okq (⟨"ExactTestsModel", "takeSamples", "()V"⟩, 47) := ⟨⟨by decide +kernel, by decide +kernel⟩, List.mem_of_getElem? (i := 863) (by decide +kernel), List.mem_of_getElem? (i := 1161) (by decide +kernel), List.mem_of_getElem? (i := 1162) (by decide +kernel)⟩
theorem lw_p41 : lw_okq (⟨"ExactTestsModel", "countWays", "(II)V"⟩, 47) := ⟨⟨by decide +kernel, by decide +kernel⟩, List.mem_of_getElem? (i := 863) (by decide +kernel), List.mem_of_getElem? (i := 1171) (by decide +kernel), List.mem_of_getElem? (i := 1172) (by decide +kernel)⟩
theorem lw_p42 : lw_okq (⟨"ExactTestsModel", "findChances", "(II)V"⟩, 47) := ⟨⟨by decide +kernel, by decide +kernel⟩, List.mem_of_getElem? (i := 863) (by decide +kernel), List.mem_of_getElem? (i := 1175) (by decide +kernel), List.mem_of_getElem? (i := 1176) (by decide +kernel)⟩
theorem lw_p43 : lw_okq (⟨"ExactTestsModel", "stands", "([II[IIIII)I"⟩, 47) := ⟨⟨by decide +kernel, by decide +kernel⟩, List.mem_of_getElem? (i := 863) (by decide +kernel), List.mem_of_getElem? (i := 1217) (by decide +kernel), List.mem_of_getElem? (i := 1218) (by decide +kernel)⟩
theorem lw_p44 : lw_okq (⟨"ExactTestsModel", "findRejected", "(II)I"⟩, 47) := ⟨⟨by decide +kernel, by decide +kernel⟩, List.mem_of_getElem? (i := 863) (by decide +kernel), List.mem_of_getElem? (i := 1234) (by decide +kernel), List.mem_of_getElem? (i := 1235) (by decide +kernel)⟩
theorem lw_p45 : lw_okq (⟨"ExactTestsModel", "isLess", "(II)Z"⟩, 47) := ⟨⟨by decide +kernel, by decide +kernel⟩, List.mem_of_getElem? (i := 863) (by decide +kernel), List.mem_of_getElem? (i := 1238) (by decide +kernel), List.mem_of_getElem? (i := 1239) (by decide +kernel)⟩
def lw_privs_3 : List (MethodName × Nat) := [(⟨"ExactTestsModel", "timesFactorial", "([II)V"⟩, 47), (⟨"ExactTestsModel", "weigh", "([I[I)V"⟩, 47), (⟨"ExactTestsModel", "keepCase", "(I)V"⟩, 47), (⟨"ExactTestsModel", "shorten", "([I)V"⟩, 47), (⟨"ExactTestsModel", "findCommon", "([II[II)V"⟩, 47), (⟨"ExactTestsModel", "part", "([II[II)V"⟩, 47), (⟨"ExactTestsModel", "takeSizes", "()V"⟩, 47), (⟨"ExactTestsModel", "rankOf", "(I)I"⟩, 47), (⟨"ExactTestsModel", "takeSamples", "()V"⟩, 47), (⟨"ExactTestsModel", "countWays", "(II)V"⟩, 47), (⟨"ExactTestsModel", "findChances", "(II)V"⟩, 47), (⟨"ExactTestsModel", "stands", "([II[IIIII)I"⟩, 47), (⟨"ExactTestsModel", "findRejected", "(II)I"⟩, 47), (⟨"ExactTestsModel", "isLess", "(II)Z"⟩, 47)]
theorem lw_r3 : ∀ q ∈ lw_privs_3, lw_okq q := List.forall_mem_cons.mpr ⟨lw_p32, List.forall_mem_cons.mpr ⟨lw_p33, List.forall_mem_cons.mpr ⟨lw_p34, List.forall_mem_cons.mpr ⟨lw_p35, List.forall_mem_cons.mpr ⟨lw_p36, List.forall_mem_cons.mpr ⟨lw_p37, List.forall_mem_cons.mpr ⟨lw_p38, List.forall_mem_cons.mpr ⟨lw_p39, List.forall_mem_cons.mpr ⟨lw_p40, List.forall_mem_cons.mpr ⟨lw_p41, List.forall_mem_cons.mpr ⟨lw_p42, List.forall_mem_cons.mpr ⟨lw_p43, List.forall_mem_cons.mpr ⟨lw_p44, List.forall_mem_cons.mpr ⟨lw_p45, fun _ h => absurd h List.not_mem_nil⟩⟩⟩⟩⟩⟩⟩⟩⟩⟩⟩⟩⟩⟩
def lw_privs : List (MethodName × Nat) := lw_privs_1 ++ (lw_privs_2 ++ (lw_privs_3))
def lw_tbl : List Cond := k2_sels lw_privs ++ tables_1
theorem lw_privs_ok : ∀ q ∈ lw_privs, lw_okq q := by
  show ∀ q ∈ lw_privs_1 ++ (lw_privs_2 ++ (lw_privs_3)), lw_okq q
  exact List.forall_mem_append.mpr ⟨lw_r1, List.forall_mem_append.mpr ⟨lw_r2, lw_r3⟩⟩
end
section
def RX0 : String := "ExactTests$Cases"
def TX0 : u_T := fun k => match k with
  | 0 => ("ExactTests$Cases", "kept", "[J", false)
  | 1 => ("ExactTests$Cases", "rows", "I", false)
  | 2 => ("ExactTests$Cases", "columns", "I", false)
  | 3 => ("ExactTests$Cases", "stride", "I", false)
  | _ => ("ExactTests$Cases", "count", "I", false)
def tyX0 : Nat → FieldType := fun k => match k with
  | 0 => .array .long
  | 1 => .int
  | 2 => .int
  | 3 => .int
  | _ => .int
theorem nmX0 : ∀ a, a < 5 → ∀ b, b < 5 → a ≠ b → (TX0 a).2.1 ≠ (TX0 b).2.1 := by decide +kernel
theorem tyX0_ok : ∀ k, k < 5 → parseFieldDescriptor (TX0 k).2.2.1 = some (tyX0 k) := by decide +kernel
abbrev cX0_init : ByteArray := prog_2_method_1_code
def yX0_init : MethodName := ⟨RX0, "<init>", "()V"⟩
abbrev cX0_renew : ByteArray := prog_2_method_2_code
def yX0_renew : MethodName := ⟨RX0, "renew", "(III)V"⟩
abbrev cX0_keep : ByteArray := prog_2_method_3_code
def yX0_keep : MethodName := ⟨RX0, "keep", "([II)V"⟩
abbrev cX0_count : ByteArray := prog_2_method_4_code
def yX0_count : MethodName := ⟨RX0, "count", "()I"⟩
abbrev cX0_has : ByteArray := prog_2_method_5_code
def yX0_has : MethodName := ⟨RX0, "has", "(I)Z"⟩
abbrev cX0_hasCell : ByteArray := prog_2_method_6_code
def yX0_hasCell : MethodName := ⟨RX0, "hasCell", "(II)Z"⟩
abbrev cX0_numberAt : ByteArray := prog_2_method_7_code
def yX0_numberAt : MethodName := ⟨RX0, "numberAt", "(III)I"⟩
abbrev cX0_orderOf : ByteArray := prog_2_method_8_code
def yX0_orderOf : MethodName := ⟨RX0, "orderOf", "(I)I"⟩
def RX1 : String := "ExactTests$Chances"
def TX1 : u_T := fun k => match k with
  | 0 => ("ExactTests$Chances", "noted", "[LExactTests$Fraction;", true)
  | 1 => ("ExactTests$Chances", "order", "[I", true)
  | 2 => ("ExactTests$Chances", "scale", "LExactTests$Scale;", true)
  | _ => ("ExactTests$Chances", "size", "I", false)
def tyX1 : Nat → FieldType := fun k => match k with
  | 0 => .array (.object "ExactTests$Fraction")
  | 1 => .array .int
  | 2 => .object "ExactTests$Scale"
  | _ => .int
theorem nmX1 : ∀ a, a < 4 → ∀ b, b < 4 → a ≠ b → (TX1 a).2.1 ≠ (TX1 b).2.1 := by decide +kernel
theorem tyX1_ok : ∀ k, k < 4 → parseFieldDescriptor (TX1 k).2.2.1 = some (tyX1 k) := by decide +kernel
abbrev cX1_init : ByteArray := prog_3_method_1_code
def yX1_init : MethodName := ⟨RX1, "<init>", "(LExactTests$Scale;)V"⟩
abbrev cX1_size : ByteArray := prog_3_method_2_code
def yX1_size : MethodName := ⟨RX1, "size", "()I"⟩
abbrev cX1_isFull : ByteArray := prog_3_method_3_code
def yX1_isFull : MethodName := ⟨RX1, "isFull", "()Z"⟩
abbrev cX1_has : ByteArray := prog_3_method_4_code
def yX1_has : MethodName := ⟨RX1, "has", "(I)Z"⟩
abbrev cX1_empty : ByteArray := prog_3_method_5_code
def yX1_empty : MethodName := ⟨RX1, "empty", "()I"⟩
abbrev cX1_add : ByteArray := prog_3_method_6_code
def yX1_add : MethodName := ⟨RX1, "add", "(LExactTests$Fraction;)I"⟩
abbrev cX1_placeOf : ByteArray := prog_3_method_7_code
def yX1_placeOf : MethodName := ⟨RX1, "placeOf", "(I)I"⟩
abbrev cX1_countRejected : ByteArray := prog_3_method_8_code
def yX1_countRejected : MethodName := ⟨RX1, "countRejected", "(II)I"⟩
def RX2 : String := "ExactTests$Fraction"
def TX2 : u_T := fun k => match k with
  | 0 => ("ExactTests$Fraction", "upper", "LExactTests$Whole;", true)
  | _ => ("ExactTests$Fraction", "lower", "LExactTests$Whole;", true)
def tyX2 : Nat → FieldType := fun k => match k with
  | 0 => .object "ExactTests$Whole"
  | _ => .object "ExactTests$Whole"
theorem nmX2 : ∀ a, a < 2 → ∀ b, b < 2 → a ≠ b → (TX2 a).2.1 ≠ (TX2 b).2.1 := by decide +kernel
theorem tyX2_ok : ∀ k, k < 2 → parseFieldDescriptor (TX2 k).2.2.1 = some (tyX2 k) := by decide +kernel
abbrev cX2_init : ByteArray := prog_4_method_1_code
def yX2_init : MethodName := ⟨RX2, "<init>", "()V"⟩
abbrev cX2_setWholes : ByteArray := prog_4_method_2_code
def yX2_setWholes : MethodName := ⟨RX2, "setWholes", "(LExactTests$Whole;LExactTests$Whole;)V"⟩
abbrev cX2_setLongs : ByteArray := prog_4_method_3_code
def yX2_setLongs : MethodName := ⟨RX2, "setLongs", "(JJ)V"⟩
abbrev cX2_copy : ByteArray := prog_4_method_4_code
def yX2_copy : MethodName := ⟨RX2, "copy", "(LExactTests$Fraction;)V"⟩
abbrev cX2_part : ByteArray := prog_4_method_5_code
def yX2_part : MethodName := ⟨RX2, "part", "(I)LExactTests$Whole;"⟩
abbrev cX2_countWords : ByteArray := prog_4_method_6_code
def yX2_countWords : MethodName := ⟨RX2, "countWords", "()I"⟩
abbrev cX2_wordInTurn : ByteArray := prog_4_method_7_code
def yX2_wordInTurn : MethodName := ⟨RX2, "wordInTurn", "(I)I"⟩
abbrev cX2_reduce : ByteArray := prog_4_method_8_code
def yX2_reduce : MethodName := ⟨RX2, "reduce", "()V"⟩
abbrev cX2_isCommon : ByteArray := prog_4_method_9_code
def yX2_isCommon : MethodName := ⟨RX2, "isCommon", "(I)Z"⟩
def RX3 : String := "ExactTests$Grid"
def TX3 : u_T := fun k => match k with
  | 0 => ("ExactTests$Grid", "cells", "[I", true)
  | 1 => ("ExactTests$Grid", "rows", "I", false)
  | _ => ("ExactTests$Grid", "columns", "I", false)
def tyX3 : Nat → FieldType := fun k => match k with
  | 0 => .array .int
  | 1 => .int
  | _ => .int
theorem nmX3 : ∀ a, a < 3 → ∀ b, b < 3 → a ≠ b → (TX3 a).2.1 ≠ (TX3 b).2.1 := by decide +kernel
theorem tyX3_ok : ∀ k, k < 3 → parseFieldDescriptor (TX3 k).2.2.1 = some (tyX3 k) := by decide +kernel
abbrev cX3_init : ByteArray := prog_5_method_1_code
def yX3_init : MethodName := ⟨RX3, "<init>", "()V"⟩
abbrev cX3_renew : ByteArray := prog_5_method_2_code
def yX3_renew : MethodName := ⟨RX3, "renew", "(II)V"⟩
abbrev cX3_rows : ByteArray := prog_5_method_3_code
def yX3_rows : MethodName := ⟨RX3, "rows", "()I"⟩
abbrev cX3_columns : ByteArray := prog_5_method_4_code
def yX3_columns : MethodName := ⟨RX3, "columns", "()I"⟩
abbrev cX3_hasRow : ByteArray := prog_5_method_5_code
def yX3_hasRow : MethodName := ⟨RX3, "hasRow", "(I)Z"⟩
abbrev cX3_hasColumn : ByteArray := prog_5_method_6_code
def yX3_hasColumn : MethodName := ⟨RX3, "hasColumn", "(I)Z"⟩
abbrev cX3_at : ByteArray := prog_5_method_7_code
def yX3_at : MethodName := ⟨RX3, "at", "(II)I"⟩
abbrev cX3_put : ByteArray := prog_5_method_8_code
def yX3_put : MethodName := ⟨RX3, "put", "(III)V"⟩
abbrev cX3_rowSum : ByteArray := prog_5_method_9_code
def yX3_rowSum : MethodName := ⟨RX3, "rowSum", "(I)I"⟩
abbrev cX3_columnSum : ByteArray := prog_5_method_10_code
def yX3_columnSum : MethodName := ⟨RX3, "columnSum", "(I)I"⟩
abbrev cX3_inAll : ByteArray := prog_5_method_11_code
def yX3_inAll : MethodName := ⟨RX3, "inAll", "()I"⟩
def RX4 : String := "ExactTests$HalfSums"
def TX4 : u_T := fun k => match k with
  | 0 => ("ExactTests$HalfSums", "sums", "[I", false)
  | 1 => ("ExactTests$HalfSums", "times", "[I", false)
  | _ => ("ExactTests$HalfSums", "size", "I", false)
def tyX4 : Nat → FieldType := fun k => match k with
  | 0 => .array .int
  | 1 => .array .int
  | _ => .int
theorem nmX4 : ∀ a, a < 3 → ∀ b, b < 3 → a ≠ b → (TX4 a).2.1 ≠ (TX4 b).2.1 := by decide +kernel
theorem tyX4_ok : ∀ k, k < 3 → parseFieldDescriptor (TX4 k).2.2.1 = some (tyX4 k) := by decide +kernel
abbrev cX4_init : ByteArray := prog_6_method_1_code
def yX4_init : MethodName := ⟨RX4, "<init>", "()V"⟩
abbrev cX4_begin : ByteArray := prog_6_method_2_code
def yX4_begin : MethodName := ⟨RX4, "begin", "()V"⟩
abbrev cX4_take : ByteArray := prog_6_method_3_code
def yX4_take : MethodName := ⟨RX4, "take", "(I)V"⟩
abbrev cX4_makeRoom : ByteArray := prog_6_method_4_code
def yX4_makeRoom : MethodName := ⟨RX4, "makeRoom", "(I)V"⟩
def RX5 : String := "ExactTests$Numbers"
def TX5 : u_T := fun k => match k with
  | 0 => ("ExactTests$Numbers", "values", "[I", true)
  | _ => ("ExactTests$Numbers", "size", "I", false)
def tyX5 : Nat → FieldType := fun k => match k with
  | 0 => .array .int
  | _ => .int
theorem nmX5 : ∀ a, a < 2 → ∀ b, b < 2 → a ≠ b → (TX5 a).2.1 ≠ (TX5 b).2.1 := by decide +kernel
theorem tyX5_ok : ∀ k, k < 2 → parseFieldDescriptor (TX5 k).2.2.1 = some (tyX5 k) := by decide +kernel
abbrev cX5_init : ByteArray := prog_7_method_1_code
def yX5_init : MethodName := ⟨RX5, "<init>", "(I)V"⟩
abbrev cX5_size : ByteArray := prog_7_method_2_code
def yX5_size : MethodName := ⟨RX5, "size", "()I"⟩
abbrev cX5_isFull : ByteArray := prog_7_method_3_code
def yX5_isFull : MethodName := ⟨RX5, "isFull", "()Z"⟩
abbrev cX5_has : ByteArray := prog_7_method_4_code
def yX5_has : MethodName := ⟨RX5, "has", "(I)Z"⟩
abbrev cX5_get : ByteArray := prog_7_method_5_code
def yX5_get : MethodName := ⟨RX5, "get", "(I)I"⟩
abbrev cX5_add : ByteArray := prog_7_method_6_code
def yX5_add : MethodName := ⟨RX5, "add", "(I)I"⟩
abbrev cX5_empty : ByteArray := prog_7_method_7_code
def yX5_empty : MethodName := ⟨RX5, "empty", "()I"⟩
abbrev cX5_countOf : ByteArray := prog_7_method_8_code
def yX5_countOf : MethodName := ⟨RX5, "countOf", "(I)I"⟩
abbrev cX5_countBelow : ByteArray := prog_7_method_9_code
def yX5_countBelow : MethodName := ⟨RX5, "countBelow", "(I)I"⟩
def RX6 : String := "ExactTests$Results"
def TX6 : u_T := fun k => match k with
  | 0 => ("ExactTests$Results", "chances", "[LExactTests$Fraction;", true)
  | 1 => ("ExactTests$Results", "there", "Z", false)
  | 2 => ("ExactTests$Results", "test", "I", false)
  | 3 => ("ExactTests$Results", "statistic", "I", false)
  | _ => ("ExactTests$Results", "asked", "I", false)
def tyX6 : Nat → FieldType := fun k => match k with
  | 0 => .array (.object "ExactTests$Fraction")
  | 1 => .boolean
  | 2 => .int
  | 3 => .int
  | _ => .int
theorem nmX6 : ∀ a, a < 5 → ∀ b, b < 5 → a ≠ b → (TX6 a).2.1 ≠ (TX6 b).2.1 := by decide +kernel
theorem tyX6_ok : ∀ k, k < 5 → parseFieldDescriptor (TX6 k).2.2.1 = some (tyX6 k) := by decide +kernel
abbrev cX6_init : ByteArray := prog_8_method_1_code
def yX6_init : MethodName := ⟨RX6, "<init>", "()V"⟩
abbrev cX6_begin : ByteArray := prog_8_method_2_code
def yX6_begin : MethodName := ⟨RX6, "begin", "(III)V"⟩
abbrev cX6_areThere : ByteArray := prog_8_method_3_code
def yX6_areThere : MethodName := ⟨RX6, "areThere", "()Z"⟩
abbrev cX6_test : ByteArray := prog_8_method_4_code
def yX6_test : MethodName := ⟨RX6, "test", "()I"⟩
abbrev cX6_statistic : ByteArray := prog_8_method_5_code
def yX6_statistic : MethodName := ⟨RX6, "statistic", "()I"⟩
abbrev cX6_asked : ByteArray := prog_8_method_6_code
def yX6_asked : MethodName := ⟨RX6, "asked", "()I"⟩
abbrev cX6_chance : ByteArray := prog_8_method_7_code
def yX6_chance : MethodName := ⟨RX6, "chance", "(I)LExactTests$Fraction;"⟩
def RX7 : String := "ExactTests$Scale"
def TX7 : u_T := fun k => match k with
  | 0 => ("ExactTests$Scale", "left", "LExactTests$Whole;", true)
  | _ => ("ExactTests$Scale", "right", "LExactTests$Whole;", true)
def tyX7 : Nat → FieldType := fun k => match k with
  | 0 => .object "ExactTests$Whole"
  | _ => .object "ExactTests$Whole"
theorem nmX7 : ∀ a, a < 2 → ∀ b, b < 2 → a ≠ b → (TX7 a).2.1 ≠ (TX7 b).2.1 := by decide +kernel
theorem tyX7_ok : ∀ k, k < 2 → parseFieldDescriptor (TX7 k).2.2.1 = some (tyX7 k) := by decide +kernel
abbrev cX7_init : ByteArray := prog_9_method_1_code
def yX7_init : MethodName := ⟨RX7, "<init>", "()V"⟩
abbrev cX7_compareChances : ByteArray := prog_9_method_2_code
def yX7_compareChances : MethodName := ⟨RX7, "compareChances", "(LExactTests$Fraction;LExactTests$Fraction;)I"⟩
abbrev cX7_compareToLevel : ByteArray := prog_9_method_3_code
def yX7_compareToLevel : MethodName := ⟨RX7, "compareToLevel", "(LExactTests$Fraction;JJ)I"⟩
abbrev cX7_figureOf : ByteArray := prog_9_method_4_code
def yX7_figureOf : MethodName := ⟨RX7, "figureOf", "(LExactTests$Fraction;I)I"⟩
abbrev cX7_takeOut : ByteArray := prog_9_method_5_code
def yX7_takeOut : MethodName := ⟨RX7, "takeOut", "(LExactTests$Whole;LExactTests$Whole;)I"⟩
def RX8 : String := "ExactTests$Sums"
def TX8 : u_T := fun k => match k with
  | 0 => ("ExactTests$Sums", "one", "LExactTests$HalfSums;", true)
  | 1 => ("ExactTests$Sums", "other", "LExactTests$HalfSums;", true)
  | 2 => ("ExactTests$Sums", "oneIsNext", "Z", false)
  | 3 => ("ExactTests$Sums", "mark", "I", false)
  | 4 => ("ExactTests$Sums", "offset", "I", false)
  | 5 => ("ExactTests$Sums", "ahead", "J", false)
  | _ => ("ExactTests$Sums", "all", "J", false)
def tyX8 : Nat → FieldType := fun k => match k with
  | 0 => .object "ExactTests$HalfSums"
  | 1 => .object "ExactTests$HalfSums"
  | 2 => .boolean
  | 3 => .int
  | 4 => .int
  | 5 => .long
  | _ => .long
theorem nmX8 : ∀ a, a < 7 → ∀ b, b < 7 → a ≠ b → (TX8 a).2.1 ≠ (TX8 b).2.1 := by decide +kernel
theorem tyX8_ok : ∀ k, k < 7 → parseFieldDescriptor (TX8 k).2.2.1 = some (tyX8 k) := by decide +kernel
abbrev cX8_init : ByteArray := prog_10_method_1_code
def yX8_init : MethodName := ⟨RX8, "<init>", "()V"⟩
abbrev cX8_beginTaking : ByteArray := prog_10_method_2_code
def yX8_beginTaking : MethodName := ⟨RX8, "beginTaking", "(II)V"⟩
abbrev cX8_beginSigning : ByteArray := prog_10_method_3_code
def yX8_beginSigning : MethodName := ⟨RX8, "beginSigning", "(I)V"⟩
abbrev cX8_begin : ByteArray := prog_10_method_4_code
def yX8_begin : MethodName := ⟨RX8, "begin", "()V"⟩
abbrev cX8_take : ByteArray := prog_10_method_5_code
def yX8_take : MethodName := ⟨RX8, "take", "(I)V"⟩
abbrev cX8_countAll : ByteArray := prog_10_method_6_code
def yX8_countAll : MethodName := ⟨RX8, "countAll", "()J"⟩
abbrev cX8_upTo : ByteArray := prog_10_method_7_code
def yX8_upTo : MethodName := ⟨RX8, "upTo", "(I)J"⟩
abbrev cX8_exactly : ByteArray := prog_10_method_8_code
def yX8_exactly : MethodName := ⟨RX8, "exactly", "(I)J"⟩
def RX9 : String := "ExactTests$Walk"
def TX9 : u_T := fun k => match k with
  | 0 => ("ExactTests$Walk", "triangle", "[J", true)
  | 1 => ("ExactTests$Walk", "rowSums", "[I", true)
  | 2 => ("ExactTests$Walk", "columnLeft", "[I", true)
  | 3 => ("ExactTests$Walk", "cells", "[I", true)
  | 4 => ("ExactTests$Walk", "weights", "[LExactTests$Whole;", true)
  | 5 => ("ExactTests$Walk", "rows", "I", false)
  | 6 => ("ExactTests$Walk", "columns", "I", false)
  | 7 => ("ExactTests$Walk", "corner", "I", false)
  | 8 => ("ExactTests$Walk", "found", "I", false)
  | 9 => ("ExactTests$Walk", "cases", "LExactTests$Cases;", false)
  | 10 => ("ExactTests$Walk", "all", "LExactTests$Whole;", true)
  | 11 => ("ExactTests$Walk", "seen", "LExactTests$Whole;", true)
  | 12 => ("ExactTests$Walk", "far", "LExactTests$Whole;", true)
  | 13 => ("ExactTests$Walk", "low", "LExactTests$Whole;", true)
  | _ => ("ExactTests$Walk", "high", "LExactTests$Whole;", true)
def tyX9 : Nat → FieldType := fun k => match k with
  | 0 => .array .long
  | 1 => .array .int
  | 2 => .array .int
  | 3 => .array .int
  | 4 => .array (.object "ExactTests$Whole")
  | 5 => .int
  | 6 => .int
  | 7 => .int
  | 8 => .int
  | 9 => .object "ExactTests$Cases"
  | 10 => .object "ExactTests$Whole"
  | 11 => .object "ExactTests$Whole"
  | 12 => .object "ExactTests$Whole"
  | 13 => .object "ExactTests$Whole"
  | _ => .object "ExactTests$Whole"
theorem nmX9 : ∀ a, a < 15 → ∀ b, b < 15 → a ≠ b → (TX9 a).2.1 ≠ (TX9 b).2.1 := by decide +kernel
theorem tyX9_ok : ∀ k, k < 15 → parseFieldDescriptor (TX9 k).2.2.1 = some (tyX9 k) := by decide +kernel
abbrev cX9_init : ByteArray := prog_11_method_1_code
def yX9_init : MethodName := ⟨RX9, "<init>", "()V"⟩
abbrev cX9_choose : ByteArray := prog_11_method_2_code
def yX9_choose : MethodName := ⟨RX9, "choose", "(II)J"⟩
abbrev cX9_countCases : ByteArray := prog_11_method_3_code
def yX9_countCases : MethodName := ⟨RX9, "countCases", "(LExactTests$Grid;)I"⟩
abbrev cX9_weighCases : ByteArray := prog_11_method_4_code
def yX9_weighCases : MethodName := ⟨RX9, "weighCases", "(LExactTests$Grid;LExactTests$Cases;)V"⟩
abbrev cX9_begin : ByteArray := prog_11_method_5_code
def yX9_begin : MethodName := ⟨RX9, "begin", "(LExactTests$Grid;)V"⟩
abbrev cX9_weighAll : ByteArray := prog_11_method_6_code
def yX9_weighAll : MethodName := ⟨RX9, "weighAll", "(I)V"⟩
abbrev cX9_weighSeen : ByteArray := prog_11_method_7_code
def yX9_weighSeen : MethodName := ⟨RX9, "weighSeen", "(LExactTests$Grid;)V"⟩
abbrev cX9_sumOfColumnsLeft : ByteArray := prog_11_method_8_code
def yX9_sumOfColumnsLeft : MethodName := ⟨RX9, "sumOfColumnsLeft", "()I"⟩
abbrev cX9_countRow : ByteArray := prog_11_method_9_code
def yX9_countRow : MethodName := ⟨RX9, "countRow", "(I)V"⟩
abbrev cX9_countCell : ByteArray := prog_11_method_10_code
def yX9_countCell : MethodName := ⟨RX9, "countCell", "(IIII)V"⟩
abbrev cX9_fillRow : ByteArray := prog_11_method_11_code
def yX9_fillRow : MethodName := ⟨RX9, "fillRow", "(I)V"⟩
abbrev cX9_fillCell : ByteArray := prog_11_method_12_code
def yX9_fillCell : MethodName := ⟨RX9, "fillCell", "(IIII)V"⟩
abbrev cX9_fillLastRow : ByteArray := prog_11_method_13_code
def yX9_fillLastRow : MethodName := ⟨RX9, "fillLastRow", "(I)V"⟩
def RX10 : String := "ExactTests$Whole"
def TX10 : u_T := fun k => match k with
  | 0 => ("ExactTests$Whole", "limbs", "[J", true)
  | _ => ("ExactTests$Whole", "size", "I", false)
def tyX10 : Nat → FieldType := fun k => match k with
  | 0 => .array .long
  | _ => .int
theorem nmX10 : ∀ a, a < 2 → ∀ b, b < 2 → a ≠ b → (TX10 a).2.1 ≠ (TX10 b).2.1 := by decide +kernel
theorem tyX10_ok : ∀ k, k < 2 → parseFieldDescriptor (TX10 k).2.2.1 = some (tyX10 k) := by decide +kernel
abbrev cX10_init : ByteArray := prog_12_method_1_code
def yX10_init : MethodName := ⟨RX10, "<init>", "()V"⟩
abbrev cX10_set : ByteArray := prog_12_method_2_code
def yX10_set : MethodName := ⟨RX10, "set", "(J)V"⟩
abbrev cX10_copy : ByteArray := prog_12_method_3_code
def yX10_copy : MethodName := ⟨RX10, "copy", "(LExactTests$Whole;)V"⟩
abbrev cX10_compare : ByteArray := prog_12_method_4_code
def yX10_compare : MethodName := ⟨RX10, "compare", "(LExactTests$Whole;)I"⟩
abbrev cX10_add : ByteArray := prog_12_method_5_code
def yX10_add : MethodName := ⟨RX10, "add", "(LExactTests$Whole;)V"⟩
abbrev cX10_subtract : ByteArray := prog_12_method_6_code
def yX10_subtract : MethodName := ⟨RX10, "subtract", "(LExactTests$Whole;)V"⟩
abbrev cX10_setProduct : ByteArray := prog_12_method_7_code
def yX10_setProduct : MethodName := ⟨RX10, "setProduct", "(LExactTests$Whole;J)V"⟩
abbrev cX10_setProductOf : ByteArray := prog_12_method_8_code
def yX10_setProductOf : MethodName := ⟨RX10, "setProductOf", "(LExactTests$Whole;LExactTests$Whole;)V"⟩
abbrev cX10_addTimes : ByteArray := prog_12_method_9_code
def yX10_addTimes : MethodName := ⟨RX10, "addTimes", "(LExactTests$Whole;JI)V"⟩
abbrev cX10_remainder : ByteArray := prog_12_method_10_code
def yX10_remainder : MethodName := ⟨RX10, "remainder", "(I)I"⟩
abbrev cX10_divide : ByteArray := prog_12_method_11_code
def yX10_divide : MethodName := ⟨RX10, "divide", "(I)V"⟩
abbrev cX10_bitLength : ByteArray := prog_12_method_12_code
def yX10_bitLength : MethodName := ⟨RX10, "bitLength", "()I"⟩
abbrev cX10_countWords : ByteArray := prog_12_method_13_code
def yX10_countWords : MethodName := ⟨RX10, "countWords", "()I"⟩
abbrev cX10_sixteenBits : ByteArray := prog_12_method_14_code
def yX10_sixteenBits : MethodName := ⟨RX10, "sixteenBits", "(I)I"⟩
abbrev cX10_empty : ByteArray := prog_12_method_15_code
def yX10_empty : MethodName := ⟨RX10, "empty", "()V"⟩
abbrev cX10_trim : ByteArray := prog_12_method_16_code
def yX10_trim : MethodName := ⟨RX10, "trim", "(I)V"⟩
def RX11 : String := "ExactTests"
def TX11 : u_T := fun k => match k with
  | 0 => ("ExactTests", "grid", "LExactTests$Grid;", true)
  | 1 => ("ExactTests", "sampleA", "LExactTests$Numbers;", true)
  | 2 => ("ExactTests", "sampleB", "LExactTests$Numbers;", true)
  | 3 => ("ExactTests", "differences", "LExactTests$Numbers;", true)
  | 4 => ("ExactTests", "claimed", "LExactTests$Numbers;", true)
  | 5 => ("ExactTests", "walk", "LExactTests$Walk;", true)
  | 6 => ("ExactTests", "cases", "LExactTests$Cases;", true)
  | 7 => ("ExactTests", "sums", "LExactTests$Sums;", true)
  | 8 => ("ExactTests", "results", "LExactTests$Results;", true)
  | 9 => ("ExactTests", "scale", "LExactTests$Scale;", true)
  | _ => ("ExactTests", "chances", "LExactTests$Chances;", true)
def tyX11 : Nat → FieldType := fun k => match k with
  | 0 => .object "ExactTests$Grid"
  | 1 => .object "ExactTests$Numbers"
  | 2 => .object "ExactTests$Numbers"
  | 3 => .object "ExactTests$Numbers"
  | 4 => .object "ExactTests$Numbers"
  | 5 => .object "ExactTests$Walk"
  | 6 => .object "ExactTests$Cases"
  | 7 => .object "ExactTests$Sums"
  | 8 => .object "ExactTests$Results"
  | 9 => .object "ExactTests$Scale"
  | _ => .object "ExactTests$Chances"
theorem nmX11 : ∀ a, a < 11 → ∀ b, b < 11 → a ≠ b → (TX11 a).2.1 ≠ (TX11 b).2.1 := by decide +kernel
theorem tyX11_ok : ∀ k, k < 11 → parseFieldDescriptor (TX11 k).2.2.1 = some (tyX11 k) := by decide +kernel
abbrev cX11_init : ByteArray := prog_1_method_1_code
def yX11_init : MethodName := ⟨RX11, "<init>", "()V"⟩
abbrev cX11_table : ByteArray := prog_1_method_2_code
def yX11_table : MethodName := ⟨RX11, "table", "(II)I"⟩
abbrev cX11_cell : ByteArray := prog_1_method_3_code
def yX11_cell : MethodName := ⟨RX11, "cell", "(III)I"⟩
abbrev cX11_about : ByteArray := prog_1_method_4_code
def yX11_about : MethodName := ⟨RX11, "about", "(III)I"⟩
abbrev cX11_sample : ByteArray := prog_1_method_5_code
def yX11_sample : MethodName := ⟨RX11, "sample", "(II)I"⟩
abbrev cX11_pair : ByteArray := prog_1_method_6_code
def yX11_pair : MethodName := ⟨RX11, "pair", "(II)I"⟩
abbrev cX11_clear : ByteArray := prog_1_method_7_code
def yX11_clear : MethodName := ⟨RX11, "clear", "(I)I"⟩
abbrev cX11_tables : ByteArray := prog_1_method_8_code
def yX11_tables : MethodName := ⟨RX11, "tables", "()I"⟩
abbrev cX11_labels : ByteArray := prog_1_method_9_code
def yX11_labels : MethodName := ⟨RX11, "labels", "(I)I"⟩
abbrev cX11_signs : ByteArray := prog_1_method_10_code
def yX11_signs : MethodName := ⟨RX11, "signs", "(I)I"⟩
abbrev cX11_rank : ByteArray := prog_1_method_11_code
def yX11_rank : MethodName := ⟨RX11, "rank", "(II)I"⟩
abbrev cX11_caseAt : ByteArray := prog_1_method_12_code
def yX11_caseAt : MethodName := ⟨RX11, "caseAt", "(III)I"⟩
abbrev cX11_weighs : ByteArray := prog_1_method_13_code
def yX11_weighs : MethodName := ⟨RX11, "weighs", "(I)I"⟩
abbrev cX11_bits : ByteArray := prog_1_method_14_code
def yX11_bits : MethodName := ⟨RX11, "bits", "(II)I"⟩
abbrev cX11_word : ByteArray := prog_1_method_15_code
def yX11_word : MethodName := ⟨RX11, "word", "(III)I"⟩
abbrev cX11_figure : ByteArray := prog_1_method_16_code
def yX11_figure : MethodName := ⟨RX11, "figure", "(II)I"⟩
abbrev cX11_against : ByteArray := prog_1_method_17_code
def yX11_against : MethodName := ⟨RX11, "against", "(III)I"⟩
abbrev cX11_result : ByteArray := prog_1_method_18_code
def yX11_result : MethodName := ⟨RX11, "result", "(I)I"⟩
abbrev cX11_ways : ByteArray := prog_1_method_19_code
def yX11_ways : MethodName := ⟨RX11, "ways", "(I)J"⟩
abbrev cX11_note : ByteArray := prog_1_method_20_code
def yX11_note : MethodName := ⟨RX11, "note", "(I)I"⟩
abbrev cX11_rejected : ByteArray := prog_1_method_21_code
def yX11_rejected : MethodName := ⟨RX11, "rejected", "(II)I"⟩
abbrev cX11_isRejected : ByteArray := prog_1_method_22_code
def yX11_isRejected : MethodName := ⟨RX11, "isRejected", "(III)I"⟩
abbrev cX11_claim : ByteArray := prog_1_method_23_code
def yX11_claim : MethodName := ⟨RX11, "claim", "(I)I"⟩
abbrev cX11_check : ByteArray := prog_1_method_24_code
def yX11_check : MethodName := ⟨RX11, "check", "(I)I"⟩
abbrev cX11_shift : ByteArray := prog_1_method_25_code
def yX11_shift : MethodName := ⟨RX11, "shift", "()I"⟩
abbrev cX11_told : ByteArray := prog_1_method_26_code
def yX11_told : MethodName := ⟨RX11, "told", "(I)I"⟩
abbrev cX11_within : ByteArray := prog_1_method_27_code
def yX11_within : MethodName := ⟨RX11, "within", "(III)Z"⟩
abbrev cX11_isLevel : ByteArray := prog_1_method_28_code
def yX11_isLevel : MethodName := ⟨RX11, "isLevel", "(II)Z"⟩
abbrev cX11_refusal : ByteArray := prog_1_method_29_code
def yX11_refusal : MethodName := ⟨RX11, "refusal", "(I)I"⟩
abbrev cX11_takeScores : ByteArray := prog_1_method_30_code
def yX11_takeScores : MethodName := ⟨RX11, "takeScores", "(LExactTests$Numbers;I)I"⟩
abbrev cX11_scoreOfSize : ByteArray := prog_1_method_31_code
def yX11_scoreOfSize : MethodName := ⟨RX11, "scoreOfSize", "(II)I"⟩
abbrev cX11_rankOfNumber : ByteArray := prog_1_method_32_code
def yX11_rankOfNumber : MethodName := ⟨RX11, "rankOfNumber", "(I)I"⟩
abbrev cX11_rankOfSize : ByteArray := prog_1_method_33_code
def yX11_rankOfSize : MethodName := ⟨RX11, "rankOfSize", "(I)I"⟩
abbrev cX11_twiceMeanPlace : ByteArray := prog_1_method_34_code
def yX11_twiceMeanPlace : MethodName := ⟨RX11, "twiceMeanPlace", "(II)I"⟩
abbrev cX11_judge : ByteArray := prog_1_method_35_code
def yX11_judge : MethodName := ⟨RX11, "judge", "(III)V"⟩
abbrev cX11_shiftInPlace : ByteArray := prog_1_method_36_code
def yX11_shiftInPlace : MethodName := ⟨RX11, "shiftInPlace", "(I)I"⟩
abbrev cX11_countShiftsUpTo : ByteArray := prog_1_method_37_code
def yX11_countShiftsUpTo : MethodName := ⟨RX11, "countShiftsUpTo", "(I)I"⟩
def RX12 : String := "ExactTestsModel"
def TX12 : u_T := fun k => match k with
  | 0 => ("ExactTestsModel", "quotient", "[I", true)
  | 1 => ("ExactTestsModel", "left", "[I", true)
  | 2 => ("ExactTestsModel", "one", "[I", true)
  | 3 => ("ExactTestsModel", "two", "[I", true)
  | 4 => ("ExactTestsModel", "rows", "I", false)
  | 5 => ("ExactTestsModel", "columns", "I", false)
  | 6 => ("ExactTestsModel", "cells", "[I", true)
  | 7 => ("ExactTestsModel", "all", "I", false)
  | 8 => ("ExactTestsModel", "samples", "[I", true)
  | 9 => ("ExactTestsModel", "many", "[I", true)
  | 10 => ("ExactTestsModel", "differences", "[I", true)
  | 11 => ("ExactTestsModel", "pairs", "I", false)
  | 12 => ("ExactTestsModel", "kind", "I", false)
  | 13 => ("ExactTestsModel", "statistic", "I", false)
  | 14 => ("ExactTestsModel", "asked", "I", false)
  | 15 => ("ExactTestsModel", "upper", "[I", true)
  | 16 => ("ExactTestsModel", "lower", "[I", true)
  | 17 => ("ExactTestsModel", "bySum", "[J", true)
  | 18 => ("ExactTestsModel", "sums", "I", false)
  | 19 => ("ExactTestsModel", "base", "I", false)
  | 20 => ("ExactTestsModel", "value", "[I", true)
  | 21 => ("ExactTestsModel", "highest", "[I", true)
  | 22 => ("ExactTestsModel", "rowMargin", "[I", true)
  | 23 => ("ExactTestsModel", "columnMargin", "[I", true)
  | 24 => ("ExactTestsModel", "kept", "[B", true)
  | 25 => ("ExactTestsModel", "keptMany", "I", false)
  | 26 => ("ExactTestsModel", "keptRows", "I", false)
  | 27 => ("ExactTestsModel", "keptColumns", "I", false)
  | 28 => ("ExactTestsModel", "keptAgainst", "[B", true)
  | 29 => ("ExactTestsModel", "top", "[I", true)
  | 30 => ("ExactTestsModel", "weight", "[I", true)
  | 31 => ("ExactTestsModel", "seen", "[I", true)
  | 32 => ("ExactTestsModel", "whole", "[I", true)
  | 33 => ("ExactTestsModel", "numbers", "[I", true)
  | 34 => ("ExactTestsModel", "numbersMany", "I", false)
  | 35 => ("ExactTestsModel", "scores", "[I", true)
  | 36 => ("ExactTestsModel", "ways", "[J", true)
  | 37 => ("ExactTestsModel", "run", "[I", true)
  | 38 => ("ExactTestsModel", "notedUpper", "[I", true)
  | 39 => ("ExactTestsModel", "notedLower", "[I", true)
  | 40 => ("ExactTestsModel", "noted", "I", false)
  | 41 => ("ExactTestsModel", "order", "[I", true)
  | 42 => ("ExactTestsModel", "wideOne", "[I", true)
  | 43 => ("ExactTestsModel", "wideTwo", "[I", true)
  | 44 => ("ExactTestsModel", "claimed", "[I", true)
  | 45 => ("ExactTestsModel", "claims", "I", false)
  | _ => ("ExactTestsModel", "shifts", "[I", true)
def tyX12 : Nat → FieldType := fun k => match k with
  | 0 => .array .int
  | 1 => .array .int
  | 2 => .array .int
  | 3 => .array .int
  | 4 => .int
  | 5 => .int
  | 6 => .array .int
  | 7 => .int
  | 8 => .array .int
  | 9 => .array .int
  | 10 => .array .int
  | 11 => .int
  | 12 => .int
  | 13 => .int
  | 14 => .int
  | 15 => .array .int
  | 16 => .array .int
  | 17 => .array .long
  | 18 => .int
  | 19 => .int
  | 20 => .array .int
  | 21 => .array .int
  | 22 => .array .int
  | 23 => .array .int
  | 24 => .array .byte
  | 25 => .int
  | 26 => .int
  | 27 => .int
  | 28 => .array .byte
  | 29 => .array .int
  | 30 => .array .int
  | 31 => .array .int
  | 32 => .array .int
  | 33 => .array .int
  | 34 => .int
  | 35 => .array .int
  | 36 => .array .long
  | 37 => .array .int
  | 38 => .array .int
  | 39 => .array .int
  | 40 => .int
  | 41 => .array .int
  | 42 => .array .int
  | 43 => .array .int
  | 44 => .array .int
  | 45 => .int
  | _ => .array .int
theorem nmX12 : ∀ a, a < 47 → ∀ b, b < 47 → a ≠ b → (TX12 a).2.1 ≠ (TX12 b).2.1 := by decide +kernel
theorem tyX12_ok : ∀ k, k < 47 → parseFieldDescriptor (TX12 k).2.2.1 = some (tyX12 k) := by decide +kernel
abbrev cX12_init : ByteArray := prog_14_method_1_code
def yX12_init : MethodName := ⟨RX12, "<init>", "()V"⟩
abbrev cX12_in : ByteArray := prog_14_method_3_code
def yX12_in : MethodName := ⟨RX12, "in", "(JJJ)Z"⟩
abbrev cX12_set : ByteArray := prog_14_method_4_code
def yX12_set : MethodName := ⟨RX12, "set", "([IIJ)V"⟩
abbrev cX12_copy : ByteArray := prog_14_method_5_code
def yX12_copy : MethodName := ⟨RX12, "copy", "([II[II)V"⟩
abbrev cX12_compare : ByteArray := prog_14_method_6_code
def yX12_compare : MethodName := ⟨RX12, "compare", "([II[II)I"⟩
abbrev cX12_add : ByteArray := prog_14_method_7_code
def yX12_add : MethodName := ⟨RX12, "add", "([II[II)V"⟩
abbrev cX12_subtract : ByteArray := prog_14_method_8_code
def yX12_subtract : MethodName := ⟨RX12, "subtract", "([II[II)V"⟩
abbrev cX12_multiply : ByteArray := prog_14_method_9_code
def yX12_multiply : MethodName := ⟨RX12, "multiply", "([III)V"⟩
abbrev cX12_divide : ByteArray := prog_14_method_10_code
def yX12_divide : MethodName := ⟨RX12, "divide", "([III)V"⟩
abbrev cX12_bitsOf : ByteArray := prog_14_method_11_code
def yX12_bitsOf : MethodName := ⟨RX12, "bitsOf", "([II)I"⟩
abbrev cX12_bitAt : ByteArray := prog_14_method_12_code
def yX12_bitAt : MethodName := ⟨RX12, "bitAt", "([III)I"⟩
abbrev cX12_twice : ByteArray := prog_14_method_13_code
def yX12_twice : MethodName := ⟨RX12, "twice", "([III)V"⟩
abbrev cX12_part : ByteArray := prog_14_method_14_code
def yX12_part : MethodName := ⟨RX12, "part", "([II[II)V"⟩
abbrev cX12_findCommon : ByteArray := prog_14_method_15_code
def yX12_findCommon : MethodName := ⟨RX12, "findCommon", "([II[II)V"⟩
abbrev cX12_table : ByteArray := prog_14_method_16_code
def yX12_table : MethodName := ⟨RX12, "table", "(II)I"⟩
abbrev cX12_cell : ByteArray := prog_14_method_17_code
def yX12_cell : MethodName := ⟨RX12, "cell", "(III)I"⟩
abbrev cX12_marginOfRow : ByteArray := prog_14_method_18_code
def yX12_marginOfRow : MethodName := ⟨RX12, "marginOfRow", "(I)I"⟩
abbrev cX12_marginOfColumn : ByteArray := prog_14_method_19_code
def yX12_marginOfColumn : MethodName := ⟨RX12, "marginOfColumn", "(I)I"⟩
abbrev cX12_about : ByteArray := prog_14_method_20_code
def yX12_about : MethodName := ⟨RX12, "about", "(III)I"⟩
abbrev cX12_sample : ByteArray := prog_14_method_21_code
def yX12_sample : MethodName := ⟨RX12, "sample", "(II)I"⟩
abbrev cX12_pair : ByteArray := prog_14_method_22_code
def yX12_pair : MethodName := ⟨RX12, "pair", "(II)I"⟩
abbrev cX12_clear : ByteArray := prog_14_method_23_code
def yX12_clear : MethodName := ⟨RX12, "clear", "(I)I"⟩
abbrev cX12_shorten : ByteArray := prog_14_method_24_code
def yX12_shorten : MethodName := ⟨RX12, "shorten", "([I)V"⟩
abbrev cX12_open : ByteArray := prog_14_method_25_code
def yX12_open : MethodName := ⟨RX12, "open", "(I)V"⟩
abbrev cX12_columnLeft : ByteArray := prog_14_method_26_code
def yX12_columnLeft : MethodName := ⟨RX12, "columnLeft", "(II)I"⟩
abbrev cX12_firstTable : ByteArray := prog_14_method_27_code
def yX12_firstTable : MethodName := ⟨RX12, "firstTable", "()V"⟩
abbrev cX12_openFrom : ByteArray := prog_14_method_28_code
def yX12_openFrom : MethodName := ⟨RX12, "openFrom", "(I)V"⟩
abbrev cX12_nextTable : ByteArray := prog_14_method_29_code
def yX12_nextTable : MethodName := ⟨RX12, "nextTable", "()Z"⟩
abbrev cX12_timesFactorial : ByteArray := prog_14_method_30_code
def yX12_timesFactorial : MethodName := ⟨RX12, "timesFactorial", "([II)V"⟩
abbrev cX12_weigh : ByteArray := prog_14_method_31_code
def yX12_weigh : MethodName := ⟨RX12, "weigh", "([I[I)V"⟩
abbrev cX12_tables : ByteArray := prog_14_method_32_code
def yX12_tables : MethodName := ⟨RX12, "tables", "()I"⟩
abbrev cX12_keepCase : ByteArray := prog_14_method_33_code
def yX12_keepCase : MethodName := ⟨RX12, "keepCase", "(I)V"⟩
abbrev cX12_caseAt : ByteArray := prog_14_method_34_code
def yX12_caseAt : MethodName := ⟨RX12, "caseAt", "(III)I"⟩
abbrev cX12_weighs : ByteArray := prog_14_method_35_code
def yX12_weighs : MethodName := ⟨RX12, "weighs", "(I)I"⟩
abbrev cX12_rankOf : ByteArray := prog_14_method_36_code
def yX12_rankOf : MethodName := ⟨RX12, "rankOf", "(I)I"⟩
abbrev cX12_takeSamples : ByteArray := prog_14_method_37_code
def yX12_takeSamples : MethodName := ⟨RX12, "takeSamples", "()V"⟩
abbrev cX12_takeSizes : ByteArray := prog_14_method_38_code
def yX12_takeSizes : MethodName := ⟨RX12, "takeSizes", "()V"⟩
abbrev cX12_sizeOf : ByteArray := prog_14_method_39_code
def yX12_sizeOf : MethodName := ⟨RX12, "sizeOf", "(I)I"⟩
abbrev cX12_rank : ByteArray := prog_14_method_40_code
def yX12_rank : MethodName := ⟨RX12, "rank", "(II)I"⟩
abbrev cX12_labels : ByteArray := prog_14_method_41_code
def yX12_labels : MethodName := ⟨RX12, "labels", "(I)I"⟩
abbrev cX12_countWays : ByteArray := prog_14_method_42_code
def yX12_countWays : MethodName := ⟨RX12, "countWays", "(II)V"⟩
abbrev cX12_signs : ByteArray := prog_14_method_43_code
def yX12_signs : MethodName := ⟨RX12, "signs", "(I)I"⟩
abbrev cX12_findChances : ByteArray := prog_14_method_44_code
def yX12_findChances : MethodName := ⟨RX12, "findChances", "(II)V"⟩
abbrev cX12_ways : ByteArray := prog_14_method_45_code
def yX12_ways : MethodName := ⟨RX12, "ways", "(I)J"⟩
abbrev cX12_isTail : ByteArray := prog_14_method_46_code
def yX12_isTail : MethodName := ⟨RX12, "isTail", "(I)Z"⟩
abbrev cX12_bits : ByteArray := prog_14_method_47_code
def yX12_bits : MethodName := ⟨RX12, "bits", "(II)I"⟩
abbrev cX12_wordOf : ByteArray := prog_14_method_48_code
def yX12_wordOf : MethodName := ⟨RX12, "wordOf", "([IIJ)I"⟩
abbrev cX12_word : ByteArray := prog_14_method_49_code
def yX12_word : MethodName := ⟨RX12, "word", "(III)I"⟩
abbrev cX12_figure : ByteArray := prog_14_method_50_code
def yX12_figure : MethodName := ⟨RX12, "figure", "(II)I"⟩
abbrev cX12_isLevel : ByteArray := prog_14_method_51_code
def yX12_isLevel : MethodName := ⟨RX12, "isLevel", "(II)Z"⟩
abbrev cX12_stands : ByteArray := prog_14_method_52_code
def yX12_stands : MethodName := ⟨RX12, "stands", "([II[IIIII)I"⟩
abbrev cX12_against : ByteArray := prog_14_method_53_code
def yX12_against : MethodName := ⟨RX12, "against", "(III)I"⟩
abbrev cX12_result : ByteArray := prog_14_method_54_code
def yX12_result : MethodName := ⟨RX12, "result", "(I)I"⟩
abbrev cX12_note : ByteArray := prog_14_method_55_code
def yX12_note : MethodName := ⟨RX12, "note", "(I)I"⟩
abbrev cX12_product : ByteArray := prog_14_method_56_code
def yX12_product : MethodName := ⟨RX12, "product", "([II[II[I)V"⟩
abbrev cX12_isLess : ByteArray := prog_14_method_57_code
def yX12_isLess : MethodName := ⟨RX12, "isLess", "(II)Z"⟩
abbrev cX12_findRejected : ByteArray := prog_14_method_58_code
def yX12_findRejected : MethodName := ⟨RX12, "findRejected", "(II)I"⟩
abbrev cX12_rejected : ByteArray := prog_14_method_59_code
def yX12_rejected : MethodName := ⟨RX12, "rejected", "(II)I"⟩
abbrev cX12_isRejected : ByteArray := prog_14_method_60_code
def yX12_isRejected : MethodName := ⟨RX12, "isRejected", "(III)I"⟩
abbrev cX12_claim : ByteArray := prog_14_method_61_code
def yX12_claim : MethodName := ⟨RX12, "claim", "(I)I"⟩
abbrev cX12_check : ByteArray := prog_14_method_62_code
def yX12_check : MethodName := ⟨RX12, "check", "(I)I"⟩
abbrev cX12_shift : ByteArray := prog_14_method_63_code
def yX12_shift : MethodName := ⟨RX12, "shift", "()I"⟩
abbrev cX12_told : ByteArray := prog_14_method_64_code
def yX12_told : MethodName := ⟨RX12, "told", "(I)I"⟩
def RJ6 : String := "java/lang/Integer"
def TJ6 : u_T := fun k => match k with
  | _ => ("", "", "", false)
def tyJ6 : Nat → FieldType := fun k => match k with
  | _ => .int
theorem nmJ6 : ∀ a, a < 0 → ∀ b, b < 0 → a ≠ b → (TJ6 a).2.1 ≠ (TJ6 b).2.1 := by decide +kernel
theorem tyJ6_ok : ∀ k, k < 0 → parseFieldDescriptor (TJ6 k).2.2.1 = some (tyJ6 k) := by decide +kernel
abbrev cJ6_numberOfLeadingZeros_0f7a4 : ByteArray := prog_15_method_47_code
def yJ6_numberOfLeadingZeros_0f7a4 : MethodName := ⟨RJ6, "numberOfLeadingZeros", "(I)I"⟩
def RJ13 : String := "java/lang/Long"
def TJ13 : u_T := fun k => match k with
  | _ => ("", "", "", false)
def tyJ13 : Nat → FieldType := fun k => match k with
  | _ => .int
theorem nmJ13 : ∀ a, a < 0 → ∀ b, b < 0 → a ≠ b → (TJ13 a).2.1 ≠ (TJ13 b).2.1 := by decide +kernel
theorem tyJ13_ok : ∀ k, k < 0 → parseFieldDescriptor (TJ13 k).2.2.1 = some (tyJ13 k) := by decide +kernel
abbrev cJ13_numberOfLeadingZeros_95d88 : ByteArray := prog_16_method_48_code
def yJ13_numberOfLeadingZeros_95d88 : MethodName := ⟨RJ13, "numberOfLeadingZeros", "(J)I"⟩
def RJ9 : String := "java/lang/Math"
def TJ9 : u_T := fun k => match k with
  | _ => ("", "", "", false)
def tyJ9 : Nat → FieldType := fun k => match k with
  | _ => .int
theorem nmJ9 : ∀ a, a < 0 → ∀ b, b < 0 → a ≠ b → (TJ9 a).2.1 ≠ (TJ9 b).2.1 := by decide +kernel
theorem tyJ9_ok : ∀ k, k < 0 → parseFieldDescriptor (TJ9 k).2.2.1 = some (tyJ9 k) := by decide +kernel
abbrev cJ9_floorDiv_7cf53 : ByteArray := prog_17_method_47_code
def yJ9_floorDiv_7cf53 : MethodName := ⟨RJ9, "floorDiv", "(II)I"⟩
abbrev cJ9_abs_0f7a4 : ByteArray := prog_17_method_59_code
def yJ9_abs_0f7a4 : MethodName := ⟨RJ9, "abs", "(I)I"⟩
abbrev cJ9_max_7cf53 : ByteArray := prog_17_method_65_code
def yJ9_max_7cf53 : MethodName := ⟨RJ9, "max", "(II)I"⟩
abbrev cJ9_min_7cf53 : ByteArray := prog_17_method_69_code
def yJ9_min_7cf53 : MethodName := ⟨RJ9, "min", "(II)I"⟩
def RJ10 : String := "java/lang/System"
def TJ10 : u_T := fun k => match k with
  | _ => ("", "", "", false)
def tyJ10 : Nat → FieldType := fun k => match k with
  | _ => .int
theorem nmJ10 : ∀ a, a < 0 → ∀ b, b < 0 → a ≠ b → (TJ10 a).2.1 ≠ (TJ10 b).2.1 := by decide +kernel
theorem tyJ10_ok : ∀ k, k < 0 → parseFieldDescriptor (TJ10 k).2.2.1 = some (tyJ10 k) := by decide +kernel
def RL : String := "ExactTestsLaw"
abbrev cL_law : ByteArray := code
def yL_law : MethodName := ⟨RL, "law", "([I)Z"⟩
abbrev gcl : List vw_C := [(RX0, TX0, 5), (RX1, TX1, 4), (RX2, TX2, 2), (RX3, TX3, 3), (RX4, TX4, 3), (RX5, TX5, 2), (RX6, TX6, 5), (RX7, TX7, 2), (RX8, TX8, 7), (RX9, TX9, 15), (RX10, TX10, 2), (RX11, TX11, 11), (RX12, TX12, 47)]
def gT0 : List Cond := lw_tbl.filter (fun w => k2_isCode w || goodWord w)
theorem gT0_good : ∀ w ∈ gT0, w ∈ gT0 ∧ ((w.onTables && w.keeps) = true ∨ ∃ ty, w = .arrayClass ty) := by
  intro w hw
  have h1 := (List.mem_filter.mp hw).2
  refine ⟨hw, ?_⟩
  by_cases hc : k2_isCode w = true
  · cases w <;> first | (simp [k2_isCode] at hc; done) | exact Or.inl rfl
  · rw [Bool.or_eq_true] at h1
    exact good_of_word (h1.resolve_left hc)
theorem gT0_tb {w : Cond} (i : Nat) (h : tables_1[i]? = some w) (hg : (k2_isCode w || goodWord w) = true) : w ∈ gT0 := List.mem_filter.mpr ⟨List.mem_append_right _ (List.mem_of_getElem? h), hg⟩
theorem gT0_sl {w : Cond} (i : Nat) (h : (k2_sels lw_privs)[i]? = some w) (hg : (k2_isCode w || goodWord w) = true) : w ∈ gT0 := List.mem_filter.mpr ⟨List.mem_append_left _ (List.mem_of_getElem? h), hg⟩
/-- the words that are carried by themselves -/
def gN : List Cond := [.methodLinkNest "ExactTests" 9 ⟨"ExactTests$Grid", "<init>", "()V"⟩ "ExactTests", .arrayOver (.object "ExactTests$Whole"), .methodLinkNest "ExactTests$Walk" 31 ⟨"ExactTests$Whole", "<init>", "()V"⟩ "ExactTests", .methodLinkNest "ExactTests" 43 ⟨"ExactTests$Cases", "<init>", "()V"⟩ "ExactTests", .methodLinkNest "ExactTests" 50 ⟨"ExactTests$Sums", "<init>", "()V"⟩ "ExactTests", .methodLinkNest "ExactTests$Sums" 9 ⟨"ExactTests$HalfSums", "<init>", "()V"⟩ "ExactTests", .fieldLinkNest "ExactTests$Sums" 53 "ExactTests$HalfSums" "sums" "[I" "ExactTests", .fieldLinkNest "ExactTests$Sums" 49 "ExactTests$HalfSums" "times" "[I" "ExactTests", .fieldLinkNest "ExactTests$Sums" 46 "ExactTests$HalfSums" "size" "I" "ExactTests", .arrayOver (.object "ExactTests$Fraction"), .methodLinkNest "ExactTests$Results" 17 ⟨"ExactTests$Fraction", "<init>", "()V"⟩ "ExactTests", .methodLinkNest "ExactTests$Fraction" 9 ⟨"ExactTests$Whole", "<init>", "()V"⟩ "ExactTests", .fieldLinkNest "ExactTests$Scale" 19 "ExactTests$Fraction" "upper" "LExactTests$Whole;" "ExactTests", .fieldLinkNest "ExactTests$Scale" 24 "ExactTests$Fraction" "lower" "LExactTests$Whole;" "ExactTests", .methodLinkNest "ExactTests" 64 ⟨"ExactTests$Scale", "<init>", "()V"⟩ "ExactTests", .methodLinkNest "ExactTests$Scale" 9 ⟨"ExactTests$Whole", "<init>", "()V"⟩ "ExactTests", .methodLinkNest "ExactTests$Chances" 25 ⟨"ExactTests$Fraction", "<init>", "()V"⟩ "ExactTests"]
theorem gN_moved {s U : State} (hW : s.WarmedH U.vm) (h : ∀ w ∈ gN, va_Nw w s) : ∀ w ∈ gN, va_Nw w U := List.forall_mem_cons.mpr ⟨va_Nw.warmM hW (h _ (by decide +kernel)), List.forall_mem_cons.mpr ⟨va_AO.moved hW.alike (h _ (by decide +kernel)), List.forall_mem_cons.mpr ⟨va_Nw.warmM hW (h _ (by decide +kernel)), List.forall_mem_cons.mpr ⟨va_Nw.warmM hW (h _ (by decide +kernel)), List.forall_mem_cons.mpr ⟨va_Nw.warmM hW (h _ (by decide +kernel)), List.forall_mem_cons.mpr ⟨va_Nw.warmM hW (h _ (by decide +kernel)), List.forall_mem_cons.mpr ⟨va_Nw.warmF hW (h _ (by decide +kernel)), List.forall_mem_cons.mpr ⟨va_Nw.warmF hW (h _ (by decide +kernel)), List.forall_mem_cons.mpr ⟨va_Nw.warmF hW (h _ (by decide +kernel)), List.forall_mem_cons.mpr ⟨va_AO.moved hW.alike (h _ (by decide +kernel)), List.forall_mem_cons.mpr ⟨va_Nw.warmM hW (h _ (by decide +kernel)), List.forall_mem_cons.mpr ⟨va_Nw.warmM hW (h _ (by decide +kernel)), List.forall_mem_cons.mpr ⟨va_Nw.warmF hW (h _ (by decide +kernel)), List.forall_mem_cons.mpr ⟨va_Nw.warmF hW (h _ (by decide +kernel)), List.forall_mem_cons.mpr ⟨va_Nw.warmM hW (h _ (by decide +kernel)), List.forall_mem_cons.mpr ⟨va_Nw.warmM hW (h _ (by decide +kernel)), List.forall_mem_cons.mpr ⟨va_Nw.warmM hW (h _ (by decide +kernel)), fun _ hh => absurd hh List.not_mem_nil⟩⟩⟩⟩⟩⟩⟩⟩⟩⟩⟩⟩⟩⟩⟩⟩⟩
theorem gN_same {s U : State} (hV : s.vm = U.vm) (h : ∀ w ∈ gN, va_Nw w s) : ∀ w ∈ gN, va_Nw w U := List.forall_mem_cons.mpr ⟨va_Nw.same rfl hV (h _ (by decide +kernel)), List.forall_mem_cons.mpr ⟨va_AO.moved (by rw [← hV]; exact Vm.Alike.refl _) (h _ (by decide +kernel)), List.forall_mem_cons.mpr ⟨va_Nw.same rfl hV (h _ (by decide +kernel)), List.forall_mem_cons.mpr ⟨va_Nw.same rfl hV (h _ (by decide +kernel)), List.forall_mem_cons.mpr ⟨va_Nw.same rfl hV (h _ (by decide +kernel)), List.forall_mem_cons.mpr ⟨va_Nw.same rfl hV (h _ (by decide +kernel)), List.forall_mem_cons.mpr ⟨va_Nw.same rfl hV (h _ (by decide +kernel)), List.forall_mem_cons.mpr ⟨va_Nw.same rfl hV (h _ (by decide +kernel)), List.forall_mem_cons.mpr ⟨va_Nw.same rfl hV (h _ (by decide +kernel)), List.forall_mem_cons.mpr ⟨va_AO.moved (by rw [← hV]; exact Vm.Alike.refl _) (h _ (by decide +kernel)), List.forall_mem_cons.mpr ⟨va_Nw.same rfl hV (h _ (by decide +kernel)), List.forall_mem_cons.mpr ⟨va_Nw.same rfl hV (h _ (by decide +kernel)), List.forall_mem_cons.mpr ⟨va_Nw.same rfl hV (h _ (by decide +kernel)), List.forall_mem_cons.mpr ⟨va_Nw.same rfl hV (h _ (by decide +kernel)), List.forall_mem_cons.mpr ⟨va_Nw.same rfl hV (h _ (by decide +kernel)), List.forall_mem_cons.mpr ⟨va_Nw.same rfl hV (h _ (by decide +kernel)), List.forall_mem_cons.mpr ⟨va_Nw.same rfl hV (h _ (by decide +kernel)), fun _ hh => absurd hh List.not_mem_nil⟩⟩⟩⟩⟩⟩⟩⟩⟩⟩⟩⟩⟩⟩⟩⟩⟩
end
section
/-! THE ENGINE. A world is a row of n cells: cell k lies at the address 'ad k' and holds 'ct k'. -/
def gw (ad : Nat → Nat) (ct : Nat → va_E) (n : Nat) : va_W := (List.range n).map (fun k => (ad k, ct k))
theorem gw_at {ad : Nat → Nat} {ct : Nat → va_E} {n k : Nat} (h : k < n) : (gw ad ct n)[k]? = some (ad k, ct k) := by
  simp [gw, h]
theorem gw_in {ad : Nat → Nat} {ct : Nat → va_E} {n k : Nat} {q : Nat × va_E} (h : (gw ad ct n)[k]? = some q) : k < n ∧ q = (ad k, ct k) := by
  have hk : k < n := by
    have := (List.getElem?_eq_some_iff.mp h).1
    simpa [gw] using this
  rw [gw_at hk] at h
  exact ⟨hk, (Option.some.inj h).symm⟩
theorem gw_atE {ad : Nat → Nat} {ct : Nat → va_E} {n k : Nat} {e : va_E} (h : k < n) (he : ct k = e) : (gw ad ct n)[k]? = some (ad k, e) := by
  rw [← he]; exact gw_at h
theorem gw_set {ad : Nat → Nat} {ct : Nat → va_E} {n k : Nat} {e : va_E} : (gw ad ct n).set k (ad k, e) = gw ad (va_up ct k e) n := by
  apply List.ext_getElem?
  intro i
  rw [List.getElem?_set]
  by_cases hi : i < n
  · by_cases hk : k = i
    · subst hk
      simp [gw, hi, va_up]
    · rw [if_neg hk, gw_at hi, gw_at hi, va_up_ne _ _ (fun z => hk z.symm)]
  · have h1 : ∀ c : Nat → va_E, (gw ad c n)[i]? = none := fun c => by simp [gw]; omega
    by_cases hk : k = i
    · subst hk
      rw [if_pos rfl, if_neg (by simp [gw]; omega), h1]
    · rw [if_neg hk, h1, h1]
theorem gw_push {ad : Nat → Nat} {ct : Nat → va_E} {n q : Nat} {e : va_E} : gw ad ct n ++ [(q, e)] = gw (va_up ad n q) (va_up ct n e) (n + 1) := by
  unfold gw
  rw [List.range_succ, List.map_append]
  congr 1
  · apply List.map_congr_left
    intro a ha
    have : a ≠ n := by have := List.mem_range.mp ha; omega
    rw [va_up_ne _ _ this, va_up_ne _ _ this]
  · simp [va_up]
/-- which cells a method may change: its world's, and those that it makes -/
def gA (ad : Nat → Nat) (n sz : Nat) : Nat → Prop := fun q => (∃ k, k < n ∧ q = ad k) ∨ sz ≤ q
/-- what is the same for all: the classes' numbers and slots, the array classes, the launch, where the primes lie -/
abbrev gB : Type := va_G × (Nat → ClassId) × Launch × Nat
/-- the array classes: int, long, byte, Whole, Fraction -/
def gTy (k : Nat → ClassId) : List (ClassId × FieldType) := [(k 0, .int), (k 1, .long), (k 2, .byte), (k 3, .object "ExactTests$Whole"), (k 4, .object "ExactTests$Fraction")]
def gPr : Nat → Int32 := fun k => ([2, 3, 5, 7, 11, 13, 17, 19, 23, 29, 31, 37, 41, 43, 47, 53, 59] : List Int32).getD k 0
/-- the static row of primes, which lies outside of what may change -/
def gZ (B : gB) (A : Nat → Prop) (U : State) : Prop := va_Z "ExactTests$Fraction" "PRIMES" "[I" (.ref B.2.2.2) A U U.heap ∧ va_T .int B.2.2.2 17 (fun k => .int (gPr k)) A U U.heap ∧ ∀ w ∈ gN, va_Nw w U
/-- a run's fixed things -/
abbrev gE : Type := (Program × Env × Room × State) × (MethodId × Array Value × List Frame × Method × Code) × ((Nat → Prop) × (State → Prop))
abbrev gE.p (E : gE) : Program := E.1.1
abbrev gE.e (E : gE) : Env := E.1.2.1
abbrev gE.R (E : gE) : Room := E.1.2.2.1
abbrev gE.s (E : gE) : State := E.1.2.2.2
abbrev gE.m (E : gE) : MethodId := E.2.1.1
abbrev gE.args (E : gE) : Array Value := E.2.1.2.1
abbrev gE.below (E : gE) : List Frame := E.2.1.2.2.1
abbrev gE.meth (E : gE) : Method := E.2.1.2.2.2.1
abbrev gE.c (E : gE) : Code := E.2.1.2.2.2.2
abbrev gE.A (E : gE) : Nat → Prop := E.2.2.1
abbrev gE.Q (E : gE) : State → Prop := E.2.2.2
def gWd (B : gB) (E : gE) (ad : Nat → Nat) (ct : Nat → va_E) (n : Nat) (H : Heap) (locs : List Loc) : Prop := va_P B.1 gcl (gw ad ct n) H ∧ va_D E.A (gw ad ct n) ∧ va_S E.A E.s.heap H locs
/-- at pc, with locals L and the stack st, any heap that holds the world comes to E's end -/
def G (B : gB) (nL : Nat) (E : gE) (ad : Nat → Nat) (ct : Nat → va_E) (n : Nat) (k0 s0 : Nat) (L : List (Nat × Value)) (pc : Nat) (st : List Value) : Prop :=
  ∀ (ls : Array Slot) (H : Heap) (locs : List Loc), lv_has ls nL L → gWd B E ad ct n H locs → W E.p B.2.2.1 E.e E.R E.s E.m E.args E.below E.meth E.c H locs k0 s0 E.Q (F0 E.m pc ls st)
def gFx (B : gB) (cc : ByteArray) (own : String) (nL : Nat) (rm : Room) (E : gE) : Prop :=
  CallFix E.p E.m E.c cc nL E.s E.args gT0 own ∧ va_K B.1 gcl (gTy B.2.1) E.s ∧ (∀ q, E.s.heap.size ≤ q → E.A q) ∧ E.R = rm ∧ gZ B E.A E.s
abbrev gP : Type := Option Value → (Nat → Nat) → (Nat → va_E) → Nat → Prop
def gQ (B : gB) (post : gP) (A : Nat → Prop) : Array Value → State → Outcome → State → Prop := fun _ st oc t => (∃ (v : Option Value) (ad : Nat → Nat) (ct : Nat → va_E) (n : Nat), oc = .returned v ∧ post v ad ct n ∧ va_P B.1 gcl (gw ad ct n) t.heap ∧ va_K B.1 gcl (gTy B.2.1) t ∧ va_D A (gw ad ct n)) ∧ va_F A st t
/-- a run's end -/
def gRt (B : gB) (post : gP) (mc ms : Nat) (ret : Option FieldType) (E : gE) : Prop := E.Q = MQ E.below (gQ B post E.A) E.args E.s mc ms E.A ∧ E.meth.sig.returnType = ret ∧ E.meth.locks = false
/-- a contract: from any heap that holds the world (ad, ct, n), called with As, the method comes back, 'post' holds of its answer and of the world then -/
def Ctr (B : gB) (y : MethodName) (cc : ByteArray) (nL : Nat) (ret : Option FieldType) (fr lo mc ms : Nat) (ad : Nat → Nat) (ct : Nat → va_E) (n : Nat) (As : List Value) (post : gP) : Prop :=
  ∀ sz : Nat, Met B.2.2.1 y (Cond.code y cc nL ret :: gT0) { frames := fr, cells := mc, slots := ms, locals := lo } (va_Pc As (fun U => U.heap.size = sz ∧ va_P B.1 gcl (gw ad ct n) U.heap ∧ va_K B.1 gcl (gTy B.2.1) U ∧ va_D (fun _ => True) (gw ad ct n) ∧ gZ B (gA ad n sz) U)) (gQ B post (gA ad n sz)) mc ms (gA ad n sz)
section GR
variable {B : gB} {cc : ByteArray} {own : String} {nL : Nat} {rm : Room} {E : gE} {ad : Nat → Nat} {ct : Nat → va_E} {n k0 s0 : Nat} {L : List (Nat × Value)} {pc : Nat} {st : List Value}
theorem g_locals {L' : List (Nat × Value)} (ks : List Nat) (hl : lv_pick L ks = L') (k : G B nL E ad ct n k0 s0 L' pc st) : G B nL E ad ct n k0 s0 L pc st :=
  fun ls H locs h w => k ls H locs (lv_sub h ks hl) w
theorem g_widen {k1 s1 : Nat} (h1 : k0 ≤ k1) (h2 : s0 ≤ s1) (k : G B nL E ad ct n k1 s1 L pc st) : G B nL E ad ct n k0 s0 L pc st :=
  fun ls H locs h w => W.widen h1 h2 (k ls H locs h w)
theorem g_topi {x : Int32} (k : ∀ y : Int32, y = x → G B nL E ad ct n k0 s0 L pc (.int y :: st)) : G B nL E ad ct n k0 s0 L pc (.int x :: st) := k x rfl
theorem g_topl {x : Int64} (k : ∀ y : Int64, y = x → G B nL E ad ct n k0 s0 L pc (.long y :: st)) : G B nL E ad ct n k0 s0 L pc (.long x :: st) := k x rfl
theorem g_iconst (fx : gFx B cc own nL rm E) {z : Int} {v : Int32} (d : decode cc pc = .ok (.iconst z, 1)) (hv : Int32.ofInt z = v) (k : G B nL E ad ct n k0 s0 L (pc + 1) (.int v :: st)) : G B nL E ad ct n k0 s0 L pc st :=
  fun ls H locs h w => lv_iconst fx.1.1 fx.1.2.1 d hv (k ls H locs h w)
theorem g_bipush (fx : gFx B cc own nL rm E) {z : Int} {v : Int32} (d : decode cc pc = .ok (.bipush z, 2)) (hv : (Int8.ofInt z).toInt32 = v) (k : G B nL E ad ct n k0 s0 L (pc + 2) (.int v :: st)) : G B nL E ad ct n k0 s0 L pc st :=
  fun ls H locs h w => lv_bipush fx.1.1 fx.1.2.1 d hv (k ls H locs h w)
theorem g_sipush (fx : gFx B cc own nL rm E) {z : Int} {v : Int32} (d : decode cc pc = .ok (.sipush z, 3)) (hv : (Int16.ofInt z).toInt32 = v) (k : G B nL E ad ct n k0 s0 L (pc + 3) (.int v :: st)) : G B nL E ad ct n k0 s0 L pc st :=
  fun ls H locs h w => lv_sipush fx.1.1 fx.1.2.1 d hv (k ls H locs h w)
theorem g_lconst (fx : gFx B cc own nL rm E) {z : Fin 2} {v : Int64} (d : decode cc pc = .ok (.lconst z, 1)) (hv : Int64.ofNat (z : Nat) = v) (k : G B nL E ad ct n k0 s0 L (pc + 1) (.long v :: st)) : G B nL E ad ct n k0 s0 L pc st :=
  fun ls H locs h w => lv_lconst fx.1.1 fx.1.2.1 d hv (k ls H locs h w)
theorem g_ldc (fx : gFx B cc own nL rm E) {index : Nat} {v : Int32} (hc : Cond.constant own index v ∈ gT0) (d : decode cc pc = .ok (.ldc index, 2)) (k : G B nL E ad ct n k0 s0 L (pc + 2) (.int v :: st)) : G B nL E ad ct n k0 s0 L pc st :=
  fun ls H locs h w => lv_ldc fx.1.1 fx.1.2.1 fx.1.2.2.2.1 (fx.1.2.2.2.2 _ hc) d (k ls H locs h w)
theorem g_ldc2 (fx : gFx B cc own nL rm E) {index : Nat} {v : Int64} (hc : Cond.constantLong own index v ∈ gT0) (d : decode cc pc = .ok (.ldc2_w index, 3)) (k : G B nL E ad ct n k0 s0 L (pc + 3) (.long v :: st)) : G B nL E ad ct n k0 s0 L pc st :=
  fun ls H locs h w => W.ldc2 fx.1.1 fx.1.2.1 fx.1.2.2.2.1 (fx.1.2.2.2.2 _ hc) rfl d (k ls H locs h w)
theorem g_iload_n (fx : gFx B cc own nL rm E) {z : Fin 4} {x : Int32} (j : Nat) (d : decode cc pc = .ok (.iload_n z, 1)) (hj : L[j]? = some ((z : Nat), .int x)) (k : G B nL E ad ct n k0 s0 L (pc + 1) (.int x :: st)) : G B nL E ad ct n k0 s0 L pc st :=
  fun ls H locs h w => lv_iload_n fx.1.1 fx.1.2.1 d rfl (lv_at h j hj) (k ls H locs h w)
theorem g_iload (fx : gFx B cc own nL rm E) {z : Nat} {x : Int32} (j : Nat) (d : decode cc pc = .ok (.iload z, 2)) (hj : L[j]? = some (z, .int x)) (k : G B nL E ad ct n k0 s0 L (pc + 2) (.int x :: st)) : G B nL E ad ct n k0 s0 L pc st :=
  fun ls H locs h w => lv_iload fx.1.1 fx.1.2.1 d (lv_at h j hj) (k ls H locs h w)
theorem g_lload_n (fx : gFx B cc own nL rm E) {z : Fin 4} {x : Int64} (j : Nat) (d : decode cc pc = .ok (.lload_n z, 1)) (hj : L[j]? = some ((z : Nat), .long x)) (k : G B nL E ad ct n k0 s0 L (pc + 1) (.long x :: st)) : G B nL E ad ct n k0 s0 L pc st :=
  fun ls H locs h w => lv_lload_n fx.1.1 fx.1.2.1 d rfl (lv_at h j hj) (k ls H locs h w)
theorem g_lload (fx : gFx B cc own nL rm E) {z : Nat} {x : Int64} (j : Nat) (d : decode cc pc = .ok (.lload z, 2)) (hj : L[j]? = some (z, .long x)) (k : G B nL E ad ct n k0 s0 L (pc + 2) (.long x :: st)) : G B nL E ad ct n k0 s0 L pc st :=
  fun ls H locs h w => lv_lload fx.1.1 fx.1.2.1 d (lv_at h j hj) (k ls H locs h w)
theorem g_aload_n (fx : gFx B cc own nL rm E) {z : Fin 4} {x : Nat} (j : Nat) (d : decode cc pc = .ok (.aload_n z, 1)) (hj : L[j]? = some ((z : Nat), .ref x)) (k : G B nL E ad ct n k0 s0 L (pc + 1) (.ref x :: st)) : G B nL E ad ct n k0 s0 L pc st :=
  fun ls H locs h w => lv_aload_n fx.1.1 fx.1.2.1 d rfl (lv_at h j hj) (k ls H locs h w)
theorem g_aload (fx : gFx B cc own nL rm E) {z : Nat} {x : Nat} (j : Nat) (d : decode cc pc = .ok (.aload z, 2)) (hj : L[j]? = some (z, .ref x)) (k : G B nL E ad ct n k0 s0 L (pc + 2) (.ref x :: st)) : G B nL E ad ct n k0 s0 L pc st :=
  fun ls H locs h w => lv_aload fx.1.1 fx.1.2.1 d (lv_at h j hj) (k ls H locs h w)
theorem g_istore_n (fx : gFx B cc own nL rm E) {z : Fin 4} {x : Int32} {L' : List (Nat × Value)} (d : decode cc pc = .ok (.istore_n z, 1)) (hn : (z : Nat) < nL) (hl : ((z : Nat), Value.int x) :: L.filter (fun q => !(q.1 == (z : Nat)) && !(q.1 + 1 == (z : Nat) && q.2.category == 2)) = L') (k : G B nL E ad ct n k0 s0 L' (pc + 1) st) : G B nL E ad ct n k0 s0 L pc (.int x :: st) :=
  fun ls H locs h w => lv_istore_n fx.1.1 fx.1.2.1 d rfl h hn hl (fun ls h => k ls H locs h w)
theorem g_istore (fx : gFx B cc own nL rm E) {z : Nat} {x : Int32} {L' : List (Nat × Value)} (d : decode cc pc = .ok (.istore z, 2)) (hn : z < nL) (hl : (z, Value.int x) :: L.filter (fun q => !(q.1 == z) && !(q.1 + 1 == z && q.2.category == 2)) = L') (k : G B nL E ad ct n k0 s0 L' (pc + 2) st) : G B nL E ad ct n k0 s0 L pc (.int x :: st) :=
  fun ls H locs h w => lv_istore fx.1.1 fx.1.2.1 d h hn hl (fun ls h => k ls H locs h w)
theorem g_astore_n (fx : gFx B cc own nL rm E) {z : Fin 4} {x : Nat} {L' : List (Nat × Value)} (d : decode cc pc = .ok (.astore_n z, 1)) (hn : (z : Nat) < nL) (hl : ((z : Nat), Value.ref x) :: L.filter (fun q => !(q.1 == (z : Nat)) && !(q.1 + 1 == (z : Nat) && q.2.category == 2)) = L') (k : G B nL E ad ct n k0 s0 L' (pc + 1) st) : G B nL E ad ct n k0 s0 L pc (.ref x :: st) :=
  fun ls H locs h w => lv_astore_n fx.1.1 fx.1.2.1 d rfl h hn hl (fun ls h => k ls H locs h w)
theorem g_astore (fx : gFx B cc own nL rm E) {z : Nat} {x : Nat} {L' : List (Nat × Value)} (d : decode cc pc = .ok (.astore z, 2)) (hn : z < nL) (hl : (z, Value.ref x) :: L.filter (fun q => !(q.1 == z) && !(q.1 + 1 == z && q.2.category == 2)) = L') (k : G B nL E ad ct n k0 s0 L' (pc + 2) st) : G B nL E ad ct n k0 s0 L pc (.ref x :: st) :=
  fun ls H locs h w => lv_astore fx.1.1 fx.1.2.1 d h hn hl (fun ls h => k ls H locs h w)
theorem g_lstore_n (fx : gFx B cc own nL rm E) {z : Fin 4} {x : Int64} {L' : List (Nat × Value)} (d : decode cc pc = .ok (.lstore_n z, 1)) (hn : (z : Nat) + 1 < nL) (hl : ((z : Nat), Value.long x) :: L.filter (fun q => !(q.1 == (z : Nat)) && (!(q.1 == (z : Nat) + 1) && !(q.1 + 1 == (z : Nat) && q.2.category == 2))) = L') (k : G B nL E ad ct n k0 s0 L' (pc + 1) st) : G B nL E ad ct n k0 s0 L pc (.long x :: st) :=
  fun ls H locs h w => lv_lstore_n fx.1.1 fx.1.2.1 d rfl h hn hl (fun ls h => k ls H locs h w)
theorem g_lstore (fx : gFx B cc own nL rm E) {z : Nat} {x : Int64} {L' : List (Nat × Value)} (d : decode cc pc = .ok (.lstore z, 2)) (hn : z + 1 < nL) (hl : (z, Value.long x) :: L.filter (fun q => !(q.1 == z) && (!(q.1 == z + 1) && !(q.1 + 1 == z && q.2.category == 2))) = L') (k : G B nL E ad ct n k0 s0 L' (pc + 2) st) : G B nL E ad ct n k0 s0 L pc (.long x :: st) :=
  fun ls H locs h w => lv_lstore fx.1.1 fx.1.2.1 d h hn hl (fun ls h => k ls H locs h w)
theorem g_iinc (fx : gFx B cc own nL rm E) {z : Nat} {u : Int} {x : Int32} {L' : List (Nat × Value)} (v : Int32) (j : Nat) (d : decode cc pc = .ok (.iinc z u, 3)) (hj : L[j]? = some (z, .int x)) (hv : x + Int32.ofInt u = v) (hn : z < nL) (hl : (z, Value.int v) :: L.filter (fun q => !(q.1 == z) && !(q.1 + 1 == z && q.2.category == 2)) = L') (k : G B nL E ad ct n k0 s0 L' (pc + 3) st) : G B nL E ad ct n k0 s0 L pc st :=
  fun ls H locs h w => lv_iinc fx.1.1 fx.1.2.1 d h hj hv hn hl (fun ls h => k ls H locs h w)
theorem g_iadd (fx : gFx B cc own nL rm E) {x y : Int32} (d : decode cc pc = .ok (.iadd, 1))  (k : G B nL E ad ct n k0 s0 L (pc + 1) (.int (x + y) :: st)) : G B nL E ad ct n k0 s0 L pc (.int y :: .int x :: st) :=
  fun ls H locs h w => lv_iadd fx.1.1 fx.1.2.1 d (k ls H locs h w)
theorem g_isub (fx : gFx B cc own nL rm E) {x y : Int32} (d : decode cc pc = .ok (.isub, 1))  (k : G B nL E ad ct n k0 s0 L (pc + 1) (.int (x - y) :: st)) : G B nL E ad ct n k0 s0 L pc (.int y :: .int x :: st) :=
  fun ls H locs h w => lv_isub fx.1.1 fx.1.2.1 d (k ls H locs h w)
theorem g_imul (fx : gFx B cc own nL rm E) {x y : Int32} (d : decode cc pc = .ok (.imul, 1))  (k : G B nL E ad ct n k0 s0 L (pc + 1) (.int (x * y) :: st)) : G B nL E ad ct n k0 s0 L pc (.int y :: .int x :: st) :=
  fun ls H locs h w => lv_imul fx.1.1 fx.1.2.1 d (k ls H locs h w)
theorem g_iand (fx : gFx B cc own nL rm E) {x y : Int32} (d : decode cc pc = .ok (.iand, 1))  (k : G B nL E ad ct n k0 s0 L (pc + 1) (.int (x &&& y) :: st)) : G B nL E ad ct n k0 s0 L pc (.int y :: .int x :: st) :=
  fun ls H locs h w => lv_iand fx.1.1 fx.1.2.1 d (k ls H locs h w)
theorem g_ior (fx : gFx B cc own nL rm E) {x y : Int32} (d : decode cc pc = .ok (.ior, 1))  (k : G B nL E ad ct n k0 s0 L (pc + 1) (.int (x ||| y) :: st)) : G B nL E ad ct n k0 s0 L pc (.int y :: .int x :: st) :=
  fun ls H locs h w => lv_ior fx.1.1 fx.1.2.1 d (k ls H locs h w)
theorem g_ixor (fx : gFx B cc own nL rm E) {x y : Int32} (d : decode cc pc = .ok (.ixor, 1))  (k : G B nL E ad ct n k0 s0 L (pc + 1) (.int (x ^^^ y) :: st)) : G B nL E ad ct n k0 s0 L pc (.int y :: .int x :: st) :=
  fun ls H locs h w => lv_ixor fx.1.1 fx.1.2.1 d (k ls H locs h w)
theorem g_ishl (fx : gFx B cc own nL rm E) {x y : Int32} (d : decode cc pc = .ok (.ishl, 1))  (k : G B nL E ad ct n k0 s0 L (pc + 1) (.int (x <<< (y &&& 31)) :: st)) : G B nL E ad ct n k0 s0 L pc (.int y :: .int x :: st) :=
  fun ls H locs h w => lv_ishl fx.1.1 fx.1.2.1 d (k ls H locs h w)
theorem g_ishr (fx : gFx B cc own nL rm E) {x y : Int32} (d : decode cc pc = .ok (.ishr, 1))  (k : G B nL E ad ct n k0 s0 L (pc + 1) (.int (x >>> (y &&& 31)) :: st)) : G B nL E ad ct n k0 s0 L pc (.int y :: .int x :: st) :=
  fun ls H locs h w => lv_ishr fx.1.1 fx.1.2.1 d (k ls H locs h w)
theorem g_idiv (fx : gFx B cc own nL rm E) {x y : Int32} (d : decode cc pc = .ok (.idiv, 1)) (hne : ¬ y = 0) (k : G B nL E ad ct n k0 s0 L (pc + 1) (.int (x / y) :: st)) : G B nL E ad ct n k0 s0 L pc (.int y :: .int x :: st) :=
  fun ls H locs h w => lv_idiv fx.1.1 fx.1.2.1 d hne (k ls H locs h w)
theorem g_irem (fx : gFx B cc own nL rm E) {x y : Int32} (d : decode cc pc = .ok (.irem, 1)) (hne : ¬ y = 0) (k : G B nL E ad ct n k0 s0 L (pc + 1) (.int (x - x / y * y) :: st)) : G B nL E ad ct n k0 s0 L pc (.int y :: .int x :: st) :=
  fun ls H locs h w => lv_irem fx.1.1 fx.1.2.1 d hne (k ls H locs h w)
theorem g_ineg (fx : gFx B cc own nL rm E) {x : Int32} (d : decode cc pc = .ok (.ineg, 1))  (k : G B nL E ad ct n k0 s0 L (pc + 1) (.int (-x) :: st)) : G B nL E ad ct n k0 s0 L pc (.int x :: st) :=
  fun ls H locs h w => lv_ineg fx.1.1 fx.1.2.1 d (k ls H locs h w)
theorem g_lneg (fx : gFx B cc own nL rm E) {x : Int64} (d : decode cc pc = .ok (.lneg, 1))  (k : G B nL E ad ct n k0 s0 L (pc + 1) (.long (-x) :: st)) : G B nL E ad ct n k0 s0 L pc (.long x :: st) :=
  fun ls H locs h w => lv_lneg fx.1.1 fx.1.2.1 d (k ls H locs h w)
theorem g_ladd (fx : gFx B cc own nL rm E) {x y : Int64} (d : decode cc pc = .ok (.ladd, 1))  (k : G B nL E ad ct n k0 s0 L (pc + 1) (.long (x + y) :: st)) : G B nL E ad ct n k0 s0 L pc (.long y :: .long x :: st) :=
  fun ls H locs h w => lv_ladd fx.1.1 fx.1.2.1 d (k ls H locs h w)
theorem g_lsub (fx : gFx B cc own nL rm E) {x y : Int64} (d : decode cc pc = .ok (.lsub, 1))  (k : G B nL E ad ct n k0 s0 L (pc + 1) (.long (x - y) :: st)) : G B nL E ad ct n k0 s0 L pc (.long y :: .long x :: st) :=
  fun ls H locs h w => lv_lsub fx.1.1 fx.1.2.1 d (k ls H locs h w)
theorem g_lmul (fx : gFx B cc own nL rm E) {x y : Int64} (d : decode cc pc = .ok (.lmul, 1))  (k : G B nL E ad ct n k0 s0 L (pc + 1) (.long (x * y) :: st)) : G B nL E ad ct n k0 s0 L pc (.long y :: .long x :: st) :=
  fun ls H locs h w => lv_lmul fx.1.1 fx.1.2.1 d (k ls H locs h w)
theorem g_land (fx : gFx B cc own nL rm E) {x y : Int64} (d : decode cc pc = .ok (.land, 1))  (k : G B nL E ad ct n k0 s0 L (pc + 1) (.long (x &&& y) :: st)) : G B nL E ad ct n k0 s0 L pc (.long y :: .long x :: st) :=
  fun ls H locs h w => lv_land fx.1.1 fx.1.2.1 d (k ls H locs h w)
theorem g_lor (fx : gFx B cc own nL rm E) {x y : Int64} (d : decode cc pc = .ok (.lor, 1))  (k : G B nL E ad ct n k0 s0 L (pc + 1) (.long (x ||| y) :: st)) : G B nL E ad ct n k0 s0 L pc (.long y :: .long x :: st) :=
  fun ls H locs h w => lv_lor fx.1.1 fx.1.2.1 d (k ls H locs h w)
theorem g_lxor (fx : gFx B cc own nL rm E) {x y : Int64} (d : decode cc pc = .ok (.lxor, 1))  (k : G B nL E ad ct n k0 s0 L (pc + 1) (.long (x ^^^ y) :: st)) : G B nL E ad ct n k0 s0 L pc (.long y :: .long x :: st) :=
  fun ls H locs h w => lv_lxor fx.1.1 fx.1.2.1 d (k ls H locs h w)
theorem g_ldiv (fx : gFx B cc own nL rm E) {x y : Int64} (d : decode cc pc = .ok (.ldiv, 1)) (hne : ¬ y = 0) (k : G B nL E ad ct n k0 s0 L (pc + 1) (.long (x / y) :: st)) : G B nL E ad ct n k0 s0 L pc (.long y :: .long x :: st) :=
  fun ls H locs h w => lv_ldiv fx.1.1 fx.1.2.1 d hne (k ls H locs h w)
theorem g_lrem (fx : gFx B cc own nL rm E) {x y : Int64} (d : decode cc pc = .ok (.lrem, 1)) (hne : ¬ y = 0) (k : G B nL E ad ct n k0 s0 L (pc + 1) (.long (x - x / y * y) :: st)) : G B nL E ad ct n k0 s0 L pc (.long y :: .long x :: st) :=
  fun ls H locs h w => lv_lrem fx.1.1 fx.1.2.1 d hne (k ls H locs h w)
theorem g_i2l (fx : gFx B cc own nL rm E) {x : Int32} (d : decode cc pc = .ok (.i2l, 1))  (k : G B nL E ad ct n k0 s0 L (pc + 1) (.long x.toInt64 :: st)) : G B nL E ad ct n k0 s0 L pc (.int x :: st) :=
  fun ls H locs h w => lv_i2l fx.1.1 fx.1.2.1 d rfl (k ls H locs h w)
theorem g_l2i (fx : gFx B cc own nL rm E) {x : Int64} (d : decode cc pc = .ok (.l2i, 1))  (k : G B nL E ad ct n k0 s0 L (pc + 1) (.int x.toInt32 :: st)) : G B nL E ad ct n k0 s0 L pc (.long x :: st) :=
  fun ls H locs h w => lv_l2i fx.1.1 fx.1.2.1 d rfl (k ls H locs h w)
theorem g_iushr (fx : gFx B cc own nL rm E) {x y : Int32} (d : decode cc pc = .ok (.iushr, 1))  (k : G B nL E ad ct n k0 s0 L (pc + 1) (.int (x.toUInt32 >>> (y.toUInt32 &&& Int32.toUInt32 31)).toInt32 :: st)) : G B nL E ad ct n k0 s0 L pc (.int y :: .int x :: st) :=
  fun ls H locs h w => lv_iushr fx.1.1 fx.1.2.1 d rfl (k ls H locs h w)
theorem g_lushr (fx : gFx B cc own nL rm E) {x : Int64} {y : Int32} (d : decode cc pc = .ok (.lushr, 1))  (k : G B nL E ad ct n k0 s0 L (pc + 1) (.long (x.toUInt64 >>> (y.toInt64.toUInt64 &&& Int64.toUInt64 63)).toInt64 :: st)) : G B nL E ad ct n k0 s0 L pc (.int y :: .long x :: st) :=
  fun ls H locs h w => lv_lushr fx.1.1 fx.1.2.1 d rfl (k ls H locs h w)
theorem g_lshl (fx : gFx B cc own nL rm E) {x : Int64} {y : Int32} (d : decode cc pc = .ok (.lshl, 1))  (k : G B nL E ad ct n k0 s0 L (pc + 1) (.long (x <<< (y.toInt64 &&& 63)) :: st)) : G B nL E ad ct n k0 s0 L pc (.int y :: .long x :: st) :=
  fun ls H locs h w => lv_lshl fx.1.1 fx.1.2.1 d rfl (k ls H locs h w)
theorem g_lshr (fx : gFx B cc own nL rm E) {x : Int64} {y : Int32} (d : decode cc pc = .ok (.lshr, 1))  (k : G B nL E ad ct n k0 s0 L (pc + 1) (.long (x >>> (y.toInt64 &&& 63)) :: st)) : G B nL E ad ct n k0 s0 L pc (.int y :: .long x :: st) :=
  fun ls H locs h w => lv_lshr fx.1.1 fx.1.2.1 d rfl (k ls H locs h w)
theorem g_lcmp (fx : gFx B cc own nL rm E) {x y : Int64} (d : decode cc pc = .ok (.lcmp, 1))  (k : G B nL E ad ct n k0 s0 L (pc + 1) (.int (lg_cmp x y) :: st)) : G B nL E ad ct n k0 s0 L pc (.long y :: .long x :: st) :=
  fun ls H locs h w => W.lcmp fx.1.1 fx.1.2.1 d (k ls H locs h w)
theorem g_dup (fx : gFx B cc own nL rm E) {va : Value} (d : decode cc pc = .ok (.dup, 1)) (h1 : va.category = 1) (k : G B nL E ad ct n k0 s0 L (pc + 1) (va :: va :: st)) : G B nL E ad ct n k0 s0 L pc (va :: st) :=
  fun ls H locs h w => lv_dup fx.1.1 fx.1.2.1 d h1 (k ls H locs h w)
theorem g_pop (fx : gFx B cc own nL rm E) {va : Value} (d : decode cc pc = .ok (.pop, 1)) (h1 : va.category = 1) (k : G B nL E ad ct n k0 s0 L (pc + 1) st) : G B nL E ad ct n k0 s0 L pc (va :: st) :=
  fun ls H locs h w => lv_pop fx.1.1 fx.1.2.1 d h1 (k ls H locs h w)
theorem g_dup_x1 (fx : gFx B cc own nL rm E) {va vb : Value} (d : decode cc pc = .ok (.dup_x1, 1)) (h1 : va.category = 1) (h2 : vb.category = 1) (k : G B nL E ad ct n k0 s0 L (pc + 1) (va :: vb :: va :: st)) : G B nL E ad ct n k0 s0 L pc (va :: vb :: st) :=
  fun ls H locs h w => lv_dup_x1 fx.1.1 fx.1.2.1 d h1 h2 (k ls H locs h w)
theorem g_dup_x2 (fx : gFx B cc own nL rm E) {va vb vd : Value} (d : decode cc pc = .ok (.dup_x2, 1)) (h1 : va.category = 1) (h2 : vb.category = 1) (h3 : vd.category = 1) (k : G B nL E ad ct n k0 s0 L (pc + 1) (va :: vb :: vd :: va :: st)) : G B nL E ad ct n k0 s0 L pc (va :: vb :: vd :: st) :=
  fun ls H locs h w => lv_dup_x2 fx.1.1 fx.1.2.1 d h1 h2 h3 (k ls H locs h w)
theorem g_dup2_11 (fx : gFx B cc own nL rm E) {va vb : Value} (d : decode cc pc = .ok (.dup2, 1)) (h1 : va.category = 1) (h2 : vb.category = 1) (k : G B nL E ad ct n k0 s0 L (pc + 1) (va :: vb :: va :: vb :: st)) : G B nL E ad ct n k0 s0 L pc (va :: vb :: st) :=
  fun ls H locs h w => lv_dup2_11 fx.1.1 fx.1.2.1 d h1 h2 (k ls H locs h w)
theorem g_dup2_2 (fx : gFx B cc own nL rm E) {va : Value} (d : decode cc pc = .ok (.dup2, 1)) (h1 : va.category = 2) (k : G B nL E ad ct n k0 s0 L (pc + 1) (va :: va :: st)) : G B nL E ad ct n k0 s0 L pc (va :: st) :=
  fun ls H locs h w => lv_dup2_2 fx.1.1 fx.1.2.1 d h1 (k ls H locs h w)
theorem g_pop2_2 (fx : gFx B cc own nL rm E) {va : Value} (d : decode cc pc = .ok (.pop2, 1)) (h1 : va.category = 2) (k : G B nL E ad ct n k0 s0 L (pc + 1) st) : G B nL E ad ct n k0 s0 L pc (va :: st) :=
  fun ls H locs h w => lv_pop2_2 fx.1.1 fx.1.2.1 d h1 (k ls H locs h w)
theorem g_if_eq (fx : gFx B cc own nL rm E) {x : Int32} {off : Int} (t : Nat) (d : decode cc pc = .ok (.ifCond .eq off, 3)) (ht : (pc : Int) + off = (t : Int)) (kt : x = 0 → G B nL E ad ct n k0 s0 L t st) (kf : ¬ x = 0 → G B nL E ad ct n k0 s0 L (pc + 3) st) : G B nL E ad ct n k0 s0 L pc (.int x :: st) :=
  fun ls H locs h w => lv_if_eq fx.1.1 fx.1.2.1 d ht (fun q => kt q ls H locs h w) (fun q => kf q ls H locs h w)
theorem g_if_ne (fx : gFx B cc own nL rm E) {x : Int32} {off : Int} (t : Nat) (d : decode cc pc = .ok (.ifCond .ne off, 3)) (ht : (pc : Int) + off = (t : Int)) (kt : ¬ x = 0 → G B nL E ad ct n k0 s0 L t st) (kf : x = 0 → G B nL E ad ct n k0 s0 L (pc + 3) st) : G B nL E ad ct n k0 s0 L pc (.int x :: st) :=
  fun ls H locs h w => lv_if_ne fx.1.1 fx.1.2.1 d ht (fun q => kt q ls H locs h w) (fun q => kf q ls H locs h w)
theorem g_if_lt (fx : gFx B cc own nL rm E) {x : Int32} {off : Int} (t : Nat) (d : decode cc pc = .ok (.ifCond .lt off, 3)) (ht : (pc : Int) + off = (t : Int)) (kt : x < 0 → G B nL E ad ct n k0 s0 L t st) (kf : ¬ x < 0 → G B nL E ad ct n k0 s0 L (pc + 3) st) : G B nL E ad ct n k0 s0 L pc (.int x :: st) :=
  fun ls H locs h w => lv_if_lt fx.1.1 fx.1.2.1 d ht (fun q => kt q ls H locs h w) (fun q => kf q ls H locs h w)
theorem g_if_ge (fx : gFx B cc own nL rm E) {x : Int32} {off : Int} (t : Nat) (d : decode cc pc = .ok (.ifCond .ge off, 3)) (ht : (pc : Int) + off = (t : Int)) (kt : 0 ≤ x → G B nL E ad ct n k0 s0 L t st) (kf : ¬ 0 ≤ x → G B nL E ad ct n k0 s0 L (pc + 3) st) : G B nL E ad ct n k0 s0 L pc (.int x :: st) :=
  fun ls H locs h w => lv_if_ge fx.1.1 fx.1.2.1 d ht (fun q => kt q ls H locs h w) (fun q => kf q ls H locs h w)
theorem g_if_gt (fx : gFx B cc own nL rm E) {x : Int32} {off : Int} (t : Nat) (d : decode cc pc = .ok (.ifCond .gt off, 3)) (ht : (pc : Int) + off = (t : Int)) (kt : 0 < x → G B nL E ad ct n k0 s0 L t st) (kf : ¬ 0 < x → G B nL E ad ct n k0 s0 L (pc + 3) st) : G B nL E ad ct n k0 s0 L pc (.int x :: st) :=
  fun ls H locs h w => lv_if_gt fx.1.1 fx.1.2.1 d ht (fun q => kt q ls H locs h w) (fun q => kf q ls H locs h w)
theorem g_if_le (fx : gFx B cc own nL rm E) {x : Int32} {off : Int} (t : Nat) (d : decode cc pc = .ok (.ifCond .le off, 3)) (ht : (pc : Int) + off = (t : Int)) (kt : x ≤ 0 → G B nL E ad ct n k0 s0 L t st) (kf : ¬ x ≤ 0 → G B nL E ad ct n k0 s0 L (pc + 3) st) : G B nL E ad ct n k0 s0 L pc (.int x :: st) :=
  fun ls H locs h w => lv_if_le fx.1.1 fx.1.2.1 d ht (fun q => kt q ls H locs h w) (fun q => kf q ls H locs h w)
theorem g_icmp_eq (fx : gFx B cc own nL rm E) {x y : Int32} {off : Int} (t : Nat) (d : decode cc pc = .ok (.if_icmp .eq off, 3)) (ht : (pc : Int) + off = (t : Int)) (kt : x = y → G B nL E ad ct n k0 s0 L t st) (kf : ¬ x = y → G B nL E ad ct n k0 s0 L (pc + 3) st) : G B nL E ad ct n k0 s0 L pc (.int y :: .int x :: st) :=
  fun ls H locs h w => lv_icmp_eq fx.1.1 fx.1.2.1 d ht (fun q => kt q ls H locs h w) (fun q => kf q ls H locs h w)
theorem g_icmp_ne (fx : gFx B cc own nL rm E) {x y : Int32} {off : Int} (t : Nat) (d : decode cc pc = .ok (.if_icmp .ne off, 3)) (ht : (pc : Int) + off = (t : Int)) (kt : ¬ x = y → G B nL E ad ct n k0 s0 L t st) (kf : x = y → G B nL E ad ct n k0 s0 L (pc + 3) st) : G B nL E ad ct n k0 s0 L pc (.int y :: .int x :: st) :=
  fun ls H locs h w => lv_icmp_ne fx.1.1 fx.1.2.1 d ht (fun q => kt q ls H locs h w) (fun q => kf q ls H locs h w)
theorem g_icmp_lt (fx : gFx B cc own nL rm E) {x y : Int32} {off : Int} (t : Nat) (d : decode cc pc = .ok (.if_icmp .lt off, 3)) (ht : (pc : Int) + off = (t : Int)) (kt : x < y → G B nL E ad ct n k0 s0 L t st) (kf : ¬ x < y → G B nL E ad ct n k0 s0 L (pc + 3) st) : G B nL E ad ct n k0 s0 L pc (.int y :: .int x :: st) :=
  fun ls H locs h w => lv_icmp_lt fx.1.1 fx.1.2.1 d ht (fun q => kt q ls H locs h w) (fun q => kf q ls H locs h w)
theorem g_icmp_ge (fx : gFx B cc own nL rm E) {x y : Int32} {off : Int} (t : Nat) (d : decode cc pc = .ok (.if_icmp .ge off, 3)) (ht : (pc : Int) + off = (t : Int)) (kt : y ≤ x → G B nL E ad ct n k0 s0 L t st) (kf : ¬ y ≤ x → G B nL E ad ct n k0 s0 L (pc + 3) st) : G B nL E ad ct n k0 s0 L pc (.int y :: .int x :: st) :=
  fun ls H locs h w => lv_icmp_ge fx.1.1 fx.1.2.1 d ht (fun q => kt q ls H locs h w) (fun q => kf q ls H locs h w)
theorem g_icmp_gt (fx : gFx B cc own nL rm E) {x y : Int32} {off : Int} (t : Nat) (d : decode cc pc = .ok (.if_icmp .gt off, 3)) (ht : (pc : Int) + off = (t : Int)) (kt : y < x → G B nL E ad ct n k0 s0 L t st) (kf : ¬ y < x → G B nL E ad ct n k0 s0 L (pc + 3) st) : G B nL E ad ct n k0 s0 L pc (.int y :: .int x :: st) :=
  fun ls H locs h w => lv_icmp_gt fx.1.1 fx.1.2.1 d ht (fun q => kt q ls H locs h w) (fun q => kf q ls H locs h w)
theorem g_icmp_le (fx : gFx B cc own nL rm E) {x y : Int32} {off : Int} (t : Nat) (d : decode cc pc = .ok (.if_icmp .le off, 3)) (ht : (pc : Int) + off = (t : Int)) (kt : x ≤ y → G B nL E ad ct n k0 s0 L t st) (kf : ¬ x ≤ y → G B nL E ad ct n k0 s0 L (pc + 3) st) : G B nL E ad ct n k0 s0 L pc (.int y :: .int x :: st) :=
  fun ls H locs h w => lv_icmp_le fx.1.1 fx.1.2.1 d ht (fun q => kt q ls H locs h w) (fun q => kf q ls H locs h w)
theorem g_goto (fx : gFx B cc own nL rm E) {off : Int} (t : Nat) (d : decode cc pc = .ok (.goto off, 3)) (ht : (pc : Int) + off = (t : Int)) (k : G B nL E ad ct n k0 s0 L t st) : G B nL E ad ct n k0 s0 L pc st :=
  fun ls H locs h w => lv_goto fx.1.1 fx.1.2.1 d ht (k ls H locs h w)
theorem g_null (fx : gFx B cc own nL rm E) (d : decode cc pc = .ok (.aconst_null, 1)) (k : G B nL E ad ct n k0 s0 L (pc + 1) (.null :: st)) : G B nL E ad ct n k0 s0 L pc st :=
  fun ls H locs h w => lv_null fx.1.1 fx.1.2.1 d (k ls H locs h w)
theorem g_ifnull (fx : gFx B cc own nL rm E) {x : Nat} {off : Int} (d : decode cc pc = .ok (.ifnull off, 3)) (k : G B nL E ad ct n k0 s0 L (pc + 3) st) : G B nL E ad ct n k0 s0 L pc (.ref x :: st) :=
  fun ls H locs h w => lv_ifnull fx.1.1 fx.1.2.1 d (k ls H locs h w)
theorem g_tableIn (fx : gFx B cc own nL rm E) {dflt lo hi : Int} {offs : Array Int} {len : Nat} {x : Int32} {off : Int} (t : Nat) (d : decode cc pc = .ok (.tableswitch dflt lo hi offs, len)) (h1 : ¬ x.toInt < lo) (h2 : ¬ hi < x.toInt) (ho : offs[(x.toInt - lo).toNat]? = some off) (ht : (pc : Int) + off = (t : Int)) (k : G B nL E ad ct n k0 s0 L t st) : G B nL E ad ct n k0 s0 L pc (.int x :: st) :=
  fun ls H locs h w => lv_tableIn fx.1.1 fx.1.2.1 d h1 h2 ho ht (k ls H locs h w)
theorem g_tableOut (fx : gFx B cc own nL rm E) {dflt lo hi : Int} {offs : Array Int} {len : Nat} {x : Int32} (t : Nat) (d : decode cc pc = .ok (.tableswitch dflt lo hi offs, len)) (h1 : x.toInt < lo ∨ hi < x.toInt) (ht : (pc : Int) + dflt = (t : Int)) (k : G B nL E ad ct n k0 s0 L t st) : G B nL E ad ct n k0 s0 L pc (.int x :: st) :=
  fun ls H locs h w => lv_tableOut fx.1.1 fx.1.2.1 d h1 ht (k ls H locs h w)
/-- a field's link: from class 'own', pool number 'index', field k of class ci -/
def gLk (own : String) (index ci k : Nat) : Prop := ∃ (C : String) (T : u_T) (N : Nat), gcl[ci]? = some (C, T, N) ∧ k < N ∧ (∀ w ∈ u_ws C T N, w ∈ gT0) ∧ (Cond.fieldLink own index (T k).1 (T k).2.1 (T k).2.2.1 ∈ gT0 ∨ ∃ host, Cond.fieldLinkNest own index (T k).1 (T k).2.1 (T k).2.2.1 host ∈ gN)
def gLp (own : String) (index ci k : Nat) (ty : FieldType) (fin : Bool) : Prop := ∃ (C : String) (T : u_T) (N : Nat) (ty0 : Nat → FieldType), gcl[ci]? = some (C, T, N) ∧ k < N ∧ (∀ w ∈ u_ws C T N, w ∈ gT0) ∧ (∀ k, k < N → parseFieldDescriptor (T k).2.2.1 = some (ty0 k)) ∧ (∀ a, a < N → ∀ b, b < N → a ≠ b → (T a).2.1 ≠ (T b).2.1) ∧ (T k).2.2.2 = fin ∧ parseFieldDescriptor (T k).2.2.1 = some ty ∧ (T k).1 = own ∧ Cond.fieldLink own index (T k).1 (T k).2.1 (T k).2.2.1 ∈ gT0
theorem g_get (fx : gFx B cc own nL rm E) {index ci k r : Nat} {fs : List Value} {v : Value} (lk : gLk own index ci k) (hr : r < n) (hc : ct r = .inr (ci, fs)) (hv : fs[k]? = some v) (d : decode cc pc = .ok (.getfield index, 3)) (kk : G B nL E ad ct n k0 s0 L (pc + 3) (v :: st)) : G B nL E ad ct n k0 s0 L pc (.ref (ad r) :: st) := by
  intro ls H locs h w
  obtain ⟨C, T, N, h1, h2, h3, h4⟩ := lk
  rcases h4 with h4 | ⟨host, h4⟩
  · exact va_get fx.1.1 fx.1.2.1 fx.1.2.2.2.2 h3 fx.1.2.2.2.1 fx.2.1 w.1 r (gw_atE hr hc) h1 k h2 (fx.1.2.2.2.2 _ h4) (fun _ h9 => h9) hv d (kk ls H locs h w)
  · exact va_getN fx.1.1 fx.1.2.1 fx.1.2.2.2.2 h3 fx.1.2.2.2.1 fx.2.1 w.1 r (gw_atE hr hc) h1 k h2 (va_Nw.use rfl (fx.2.2.2.2.2.2 _ h4)) (fun _ h9 => h9) hv d (kk ls H locs h w)
theorem gWd_set {r : Nat} {e : va_E} {H1 : Heap} {locs1 : List Loc} (hP : va_P B.1 gcl ((gw ad ct n).set r (ad r, e)) H1) (hD : va_D E.A ((gw ad ct n).set r (ad r, e))) (hS : va_S E.A E.s.heap H1 locs1) : gWd B E ad (va_up ct r e) n H1 locs1 := by
  rw [gw_set] at hP hD
  exact ⟨hP, hD, hS⟩
theorem g_put (fx : gFx B cc own nL rm E) {index ci k r : Nat} {fs fs' : List Value} {v : Value} {ty : FieldType} (lk : gLp own index ci k ty false) (hr : r < n) (hc : ct r = .inr (ci, fs)) (hn : narrow ty v = v) (hfit : fits ty v = true) (hl : k < fs.length) (hfs : fs.set k v = fs') (d : decode cc pc = .ok (.putfield index, 3)) (kk : ∀ ct', ct' = va_up ct r (.inr (ci, fs')) → G B nL E ad ct' n k0 s0 L (pc + 3) st) : G B nL E ad ct n k0 s0 L pc (v :: .ref (ad r) :: st) := by
  intro ls H locs h w
  obtain ⟨C, T, N, ty0, h1, h2, h3, h5, h6, h7, h8, -, h4⟩ := lk
  subst hfs
  exact va_put fx.1.1 fx.1.2.1 fx.1.2.2.2.2 h3 ty0 h5 h6 fx.1.2.2.2.1 fx.2.1 w.1 w.2.1 w.2.2 r (gw_atE hr hc) h1 k h2 (fx.1.2.2.2.2 _ h4) (fun _ h9 => h9) h7 h8 hn hfit hl d (fun H1 l1 hP hD hS => kk _ rfl ls H1 l1 h (gWd_set hP hD hS))
theorem g_putF (fx : gFx B cc own nL rm E) {index ci k r : Nat} {fs fs' : List Value} {v : Value} {ty : FieldType} (hin : E.meth.name = "<init>") (lk : gLp own index ci k ty true) (hr : r < n) (hc : ct r = .inr (ci, fs)) (hn : narrow ty v = v) (hfit : fits ty v = true) (hl : k < fs.length) (hfs : fs.set k v = fs') (d : decode cc pc = .ok (.putfield index, 3)) (kk : ∀ ct', ct' = va_up ct r (.inr (ci, fs')) → G B nL E ad ct' n k0 s0 L (pc + 3) st) : G B nL E ad ct n k0 s0 L pc (v :: .ref (ad r) :: st) := by
  intro ls H locs h w
  obtain ⟨C, T, N, ty0, h1, h2, h3, h5, h6, h7, h8, h9, h4⟩ := lk
  subst hfs
  exact va_putF fx.1.1 fx.1.2.1 fx.1.2.2.2.2 h3 ty0 h5 h6 fx.1.2.2.2.1 fx.2.1 w.1 w.2.1 w.2.2 r (gw_atE hr hc) h1 k h2 (fx.1.2.2.2.2 _ h4) (fun _ h9 => h9) h7 hin h9 h8 hn hfit hl d (fun H1 l1 hP hD hS => kk _ rfl ls H1 l1 h (gWd_set hP hD hS))
theorem gIx {i : Int32} {j N : Nat} (hi : i.toInt = (j : Int)) (hj : j < N) : vp_in i N := vp_in_iff.mpr ⟨by omega, by omega⟩
theorem gCl {i : Int32} {j : Nat} (hi : i.toInt = (j : Int)) : i.toNatClampNeg = j := by
  show i.toInt.toNat = j
  omega
theorem g_iald (fx : gFx B cc own nL rm E) {r N j : Nat} {f : Nat → Int32} {i : Int32} (hr : r < n) (hc : ct r = .inl (B.2.1 0, N, .inl f)) (hi : i.toInt = (j : Int)) (hj : j < N) (d : decode cc pc = .ok (.iaload, 1)) (kk : G B nL E ad ct n k0 s0 L (pc + 1) (.int (f j) :: st)) : G B nL E ad ct n k0 s0 L pc (.int i :: .ref (ad r) :: st) := by
  intro ls H locs h w
  refine va_iald fx.1.1 fx.1.2.1 fx.2.1 w.1 r 0 (gw_atE hr hc) rfl (gIx hi hj) d ?_
  rw [gCl hi]
  exact kk ls H locs h w
theorem g_lald (fx : gFx B cc own nL rm E) {r N j : Nat} {f : Nat → Int64} {i : Int32} (hr : r < n) (hc : ct r = .inl (B.2.1 1, N, .inr (.inl f))) (hi : i.toInt = (j : Int)) (hj : j < N) (d : decode cc pc = .ok (.laload, 1)) (kk : G B nL E ad ct n k0 s0 L (pc + 1) (.long (f j) :: st)) : G B nL E ad ct n k0 s0 L pc (.int i :: .ref (ad r) :: st) := by
  intro ls H locs h w
  refine va_lald fx.1.1 fx.1.2.1 fx.2.1 w.1 r 1 (gw_atE hr hc) rfl (gIx hi hj) d ?_
  rw [gCl hi]
  exact kk ls H locs h w
theorem g_aald (fx : gFx B cc own nL rm E) {r t0 N j q : Nat} {cA : ClassId} {C : String} {f : Nat → Option Nat} {i : Int32} (ht : (gTy B.2.1)[t0]? = some (cA, .object C)) (hr : r < n) (hc : ct r = .inl (cA, N, .inr (.inr (.inr (.inr f))))) (hi : i.toInt = (j : Int)) (hj : j < N) (hq : f j = some q) (d : decode cc pc = .ok (.aaload, 1)) (kk : G B nL E ad ct n k0 s0 L (pc + 1) (.ref q :: st)) : G B nL E ad ct n k0 s0 L pc (.int i :: .ref (ad r) :: st) := by
  intro ls H locs h w
  refine va_aldq fx.1.1 fx.1.2.1 fx.2.1 w.1 r t0 (gw_atE hr hc) ht (gIx hi hj) d ?_
  rw [gCl hi, hq]
  exact kk ls H locs h w
theorem g_iast (fx : gFx B cc own nL rm E) {r N j : Nat} {f : Nat → Int32} {i x : Int32} (hr : r < n) (hc : ct r = .inl (B.2.1 0, N, .inl f)) (hi : i.toInt = (j : Int)) (hj : j < N) (d : decode cc pc = .ok (.iastore, 1)) (kk : ∀ ct', ct' = va_up ct r (.inl (B.2.1 0, N, .inl (va_up f j x))) → G B nL E ad ct' n k0 s0 L (pc + 1) st) : G B nL E ad ct n k0 s0 L pc (.int x :: .int i :: .ref (ad r) :: st) := by
  intro ls H locs h w
  refine va_iast fx.1.1 fx.1.2.1 fx.2.1 w.1 w.2.1 w.2.2 r 0 (gw_atE hr hc) rfl (gIx hi hj) d (fun H1 l1 hP hD hS => ?_)
  rw [gCl hi] at hP hD
  exact kk _ rfl ls H1 l1 h (gWd_set hP hD hS)
theorem g_last (fx : gFx B cc own nL rm E) {r N j : Nat} {f : Nat → Int64} {i : Int32} {x : Int64} (hr : r < n) (hc : ct r = .inl (B.2.1 1, N, .inr (.inl f))) (hi : i.toInt = (j : Int)) (hj : j < N) (d : decode cc pc = .ok (.lastore, 1)) (kk : ∀ ct', ct' = va_up ct r (.inl (B.2.1 1, N, .inr (.inl (va_up f j x)))) → G B nL E ad ct' n k0 s0 L (pc + 1) st) : G B nL E ad ct n k0 s0 L pc (.long x :: .int i :: .ref (ad r) :: st) := by
  intro ls H locs h w
  refine va_last fx.1.1 fx.1.2.1 fx.2.1 w.1 w.2.1 w.2.2 r 1 (gw_atE hr hc) rfl (gIx hi hj) d (fun H1 l1 hP hD hS => ?_)
  rw [gCl hi] at hP hD
  exact kk _ rfl ls H1 l1 h (gWd_set hP hD hS)
theorem g_alen (fx : gFx B cc own nL rm E) {r t0 : Nat} {cA : ClassId} {ty : FieldType} {x : vp_A} (ht : (gTy B.2.1)[t0]? = some (cA, ty)) (hr : r < n) (hc : ct r = .inl (cA, x)) (d : decode cc pc = .ok (.arraylength, 1)) (kk : G B nL E ad ct n k0 s0 L (pc + 1) (.int (nI x.1) :: st)) : G B nL E ad ct n k0 s0 L pc (.ref (ad r) :: st) := by
  intro ls H locs h w
  exact va_alen fx.1.1 fx.1.2.1 fx.2.1 w.1 r t0 (gw_atE hr hc) ht rfl d (kk ls H locs h w)
theorem gA_sub {H : Heap} {locs : List Loc} (fx : gFx B cc own nL rm E) (w : gWd B E ad ct n H locs) : ∀ q, gA ad n H.size q → E.A q := by
  intro q h
  rcases h with ⟨k, hk, rfl⟩ | h
  · exact w.2.1.2 k _ (gw_at hk)
  · exact fx.2.2.1 q (Nat.le_trans w.2.2.1 h)
theorem g_blind {As : List Value} {sz : Nat} : FrameBlind (va_Pc As (fun U => U.heap.size = sz ∧ va_P B.1 gcl (gw ad ct n) U.heap ∧ va_K B.1 gcl (gTy B.2.1) U ∧ va_D (fun _ => True) (gw ad ct n) ∧ gZ B (gA ad n sz) U)) := by
  intro a U g mk q
  obtain ⟨q0, q1, qP, qK, qD, qZ⟩ := q
  exact ⟨q0, q1, qP, va_K.moved (u := U) (U := U.calling g mk a) (Vm.Alike.refl U.vm) qK, qD, qZ.1.moved (u := U) (U := U.calling g mk a) (Vm.Alike.refl U.vm), qZ.2.1.moved (u := U) (U := U.calling g mk a) (Vm.Alike.refl U.vm), gN_same (s := U) (U := U.calling g mk a) rfl qZ.2.2⟩
theorem g_pre {As : List Value} {H : Heap} {locs : List Loc} (fx : gFx B cc own nL rm E) (w : gWd B E ad ct n H locs) : ∀ U : State, U.heap = H → E.s.WarmedH U.vm → va_Pc As (fun U => U.heap.size = H.size ∧ va_P B.1 gcl (gw ad ct n) U.heap ∧ va_K B.1 gcl (gTy B.2.1) U ∧ va_D (fun _ => True) (gw ad ct n) ∧ gZ B (gA ad n H.size) U) As.toArray U := by
  intro U hU hW
  have hs := gA_sub fx w
  have hz := fx.2.2.2.2
  refine ⟨rfl, by rw [hU], by rw [hU]; exact w.1, va_K.moved hW.alike fx.2.1, w.2.1.weaken (fun _ _ _ _ => trivial), ?_, ?_, gN_moved hW hz.2.2⟩
  · exact ((hz.1.kept (H1 := U.heap) (fun a h1 h2 => by rw [hU]; exact w.2.2.2.1 a h1 h2)).narrow hs).moved hW.alike
  · exact ((hz.2.1.kept (H1 := U.heap) (fun a h1 h2 => by rw [hU]; exact w.2.2.2.1 a h1 h2)).narrow hs).moved hW.alike
/-- behind a call -/
theorem g_back (fx : gFx B cc own nL rm E) {post : gP} {mc ms : Nat} {rest st0 : List Value} {a : Array Value} {ls : Array Slot} {H : Heap} {locs : List Loc} (h : lv_has ls nL L) (w : gWd B E ad ct n H locs)
    (hr : va_Run E.p B.2.2.1 E.e E.R E.s E.m E.args E.below E.meth E.c H locs k0 s0 mc ms (F0 E.m pc ls st0) rest (gQ B post (gA ad n H.size) a) (gA ad n H.size))
    (kk : ∀ v ad' ct' n', post v ad' ct' n' → G B nL E ad' ct' n' (k0 + mc) (s0 + ms) L (pc + 3) (v.toList ++ rest)) : W E.p B.2.2.1 E.e E.R E.s E.m E.args E.below E.meth E.c H locs k0 s0 E.Q (F0 E.m pc ls st0) := by
  intro T hT X
  obtain ⟨v, st₀, t, T', L', h0, X', hL, e1, e2, ⟨⟨v', ad', ct', n', hv, hp, hP', hK', hD'⟩, hz, hk⟩, st'⟩ := hr T hT X
  cases hv
  rw [h0] at hz hk
  have hsub := gA_sub fx w
  have w' : gWd B E ad' ct' n' T'.heap (locs ++ L') := by
    refine ⟨by rw [e1]; exact hP', hD'.weaken (fun _ q _ hq => hsub q.1 hq), ⟨Nat.le_trans w.2.2.1 (by rw [e1]; exact hz), fun q h1 h2 => ?_, fun q hq => ?_⟩⟩
    · rw [e1, hk q (Nat.lt_of_lt_of_le h1 w.2.2.1) (fun z => h2 (hsub q z))]
      exact w.2.2.2.1 q h1 h2
    · rcases List.mem_append.mp hq with h1 | h1
      · exact w.2.2.2.2 q h1
      · exact hsub _ (hL q h1)
  obtain ⟨t2, a1, b1⟩ := kk v ad' ct' n' hp ls T'.heap (locs ++ L') h w' T' rfl X'
  exact ⟨t2, st' t2 a1, b1⟩
/-- a call's site: what the tables say of the method that is called from 'own' by pool number 'index' -/
def gMl (own : String) (index : Nat) (y : MethodName) (bytes : ByteArray) (maxL : Nat) (ret : Option FieldType) (na : Nat) : Prop :=
  (Cond.methodLink own index y ∈ gT0 ∨ ∃ host, Cond.methodLinkNest own index y host ∈ gN) ∧ Cond.initialized y.cls ∈ gT0 ∧ Cond.code y bytes maxL ret ∈ gT0 ∧ (y.cls ≠ "java/lang/invoke/MethodHandle" ∧ y.cls ≠ "java/lang/invoke/VarHandle" ∧ (parseMethodDescriptor y.desc).map (fun d => d.parameters.length) = some na)
def gVl (own : String) (index : Nat) (y : MethodName) (bytes : ByteArray) (maxL : Nat) (ret : Option FieldType) (na : Nat) : Prop := gMl own index y bytes maxL ret na ∧ Cond.instanceMethod y ∈ gT0 ∧ Cond.selects y.cls y y ∈ gT0
def gSl (own : String) (index : Nat) (y : MethodName) (bytes : ByteArray) (maxL : Nat) (ret : Option FieldType) (na : Nat) : Prop := gMl own index y bytes maxL ret na ∧ Cond.static y ∈ gT0
def gIl (own : String) (index : Nat) (y : MethodName) (bytes : ByteArray) (maxL : Nat) (na : Nat) : Prop := gMl own index y bytes maxL none na ∧ y.name = "<init>" ∧ Cond.instanceMethod y ∈ gT0
theorem gGood {y : MethodName} {bytes : ByteArray} {maxL : Nat} {ret : Option FieldType} (h : Cond.code y bytes maxL ret ∈ gT0) : GoodIn gT0 (Cond.code y bytes maxL ret :: gT0) := by
  intro w hw
  rcases List.mem_cons.mp hw with rfl | hw
  · exact gT0_good _ h
  · exact gT0_good _ hw
theorem g_callV (fx : gFx B cc own nL rm E) {index maxL na fr lo mc ms ci r : Nat} {y : MethodName} {bytes : ByteArray} {ret : Option FieldType} {post : gP} {As rest st0 fs : List Value} {T : u_T} {N : Nat}
    (sl : gVl own index y bytes maxL ret na) (hM : Ctr B y bytes maxL ret fr lo mc ms ad ct n (.ref (ad r) :: As) post) (hr : r < n) (hc : ct r = .inr (ci, fs)) (hci : gcl[ci]? = some (y.cls, T, N))
    (hst : st0 = As.reverse ++ .ref (ad r) :: rest) (hna : As.length = na) (hW : (rest.map fun v => v.category).sum ≤ 8) (hR : fr + 1 ≤ rm.frames ∧ 8 + (maxL + 11) + lo ≤ rm.locals) (hf : k0 + mc ≤ rm.cells ∧ s0 + ms ≤ rm.slots) (d : decode cc pc = .ok (.invokevirtual index, 3))
    (kk : ∀ v ad' ct' n', post v ad' ct' n' → G B nL E ad' ct' n' (k0 + mc) (s0 + ms) L (pc + 3) (v.toList ++ rest)) : G B nL E ad ct n k0 s0 L pc st0 := by
  intro ls H locs h w
  obtain ⟨fx1, fx2, fx3, rfl, fx4⟩ := id fx
  obtain ⟨⟨s1, s2, s3, s4⟩, s5, s6⟩ := sl
  have hG := gGood s3
  have hts := fx1.2.2.2.2
  have hp : PreV E.s H y.cls (ad r) (va_Pc (.ref (ad r) :: As) (fun U => U.heap.size = H.size ∧ va_P B.1 gcl (gw ad ct n) U.heap ∧ va_K B.1 gcl (gTy B.2.1) U ∧ va_D (fun _ => True) (gw ad ct n) ∧ gZ B (gA ad n H.size) U)) As :=
    ⟨g_blind, va_recv fx2 w.1 hci (gw_atE hr hc), g_pre fx w⟩
  subst hst
  rcases s1 with s1 | ⟨host, s1⟩
  · refine g_back fx h w (va_runV (As := As) (rest := rest) fx1 (hM H.size) (C := y.cls) ⟨callB_of na hts hG rfl rfl rfl (hts _ s2) (hts _ s1) s4 hR, hts _ s5, hts _ s6⟩ hp rfl hna h.1 rfl (lv_room hW) d hf) kk
  · refine g_back fx h w (va_runVN (As := As) (rest := rest) fx1 (hM H.size) (C := y.cls) (host := host) ⟨va_cnB na hts hG rfl rfl rfl (fx4.2.2 _ s1) (hts _ s2) s4 hR, hts _ s5, hts _ s6⟩ hp rfl hna h.1 rfl (lv_room hW) d hf) kk
theorem g_callS (fx : gFx B cc own nL rm E) {index maxL na fr lo mc ms : Nat} {y : MethodName} {bytes : ByteArray} {ret : Option FieldType} {post : gP} {As rest st0 : List Value}
    (sl : gSl own index y bytes maxL ret na) (hM : Ctr B y bytes maxL ret fr lo mc ms ad ct n As post)
    (hst : st0 = As.reverse ++ rest) (hna : As.length = na) (hW : (rest.map fun v => v.category).sum ≤ 8) (hR : fr + 1 ≤ rm.frames ∧ 8 + (maxL + 11) + lo ≤ rm.locals) (hf : k0 + mc ≤ rm.cells ∧ s0 + ms ≤ rm.slots) (d : decode cc pc = .ok (.invokestatic index, 3))
    (kk : ∀ v ad' ct' n', post v ad' ct' n' → G B nL E ad' ct' n' (k0 + mc) (s0 + ms) L (pc + 3) (v.toList ++ rest)) : G B nL E ad ct n k0 s0 L pc st0 := by
  intro ls H locs h w
  obtain ⟨fx1, fx2, fx3, rfl, fx4⟩ := id fx
  obtain ⟨⟨s1, s2, s3, s4⟩, s5⟩ := sl
  have hG := gGood s3
  have hts := fx1.2.2.2.2
  have hp : PreS E.s H (va_Pc As (fun U => U.heap.size = H.size ∧ va_P B.1 gcl (gw ad ct n) U.heap ∧ va_K B.1 gcl (gTy B.2.1) U ∧ va_D (fun _ => True) (gw ad ct n) ∧ gZ B (gA ad n H.size) U)) As := ⟨g_blind, g_pre fx w⟩
  subst hst
  rcases s1 with s1 | ⟨host, s1⟩
  · refine g_back fx h w (va_runS (As := As) (rest := rest) fx1 (hM H.size) ⟨callB_of na hts hG rfl rfl rfl (hts _ s2) (hts _ s1) s4 hR, hts _ s5⟩ hp rfl hna h.1 rfl (lv_room hW) d hf) kk
  · refine g_back fx h w (va_runSN (As := As) (rest := rest) fx1 (hM H.size) (host := host) ⟨va_cnB na hts hG rfl rfl rfl (fx4.2.2 _ s1) (hts _ s2) s4 hR, hts _ s5, trivial⟩ hp rfl hna h.1 rfl (lv_room hW) d hf) kk
theorem g_callI (fx : gFx B cc own nL rm E) {index maxL na fr lo mc ms b : Nat} {y : MethodName} {bytes : ByteArray} {post : gP} {As rest st0 : List Value}
    (sl : gIl own index y bytes maxL na) (hM : Ctr B y bytes maxL none fr lo mc ms ad ct n (.ref b :: As) post)
    (hst : st0 = As.reverse ++ .ref b :: rest) (hna : As.length = na) (hW : (rest.map fun v => v.category).sum ≤ 8) (hR : fr + 1 ≤ rm.frames ∧ 8 + (maxL + 11) + lo ≤ rm.locals) (hf : k0 + mc ≤ rm.cells ∧ s0 + ms ≤ rm.slots) (d : decode cc pc = .ok (.invokespecial index, 3))
    (kk : ∀ v ad' ct' n', post v ad' ct' n' → G B nL E ad' ct' n' (k0 + mc) (s0 + ms) L (pc + 3) (v.toList ++ rest)) : G B nL E ad ct n k0 s0 L pc st0 := by
  intro ls H locs h w
  obtain ⟨fx1, fx2, fx3, rfl, fx4⟩ := id fx
  obtain ⟨⟨s1, s2, s3, s4⟩, s5, s6⟩ := sl
  have hG := gGood s3
  have hts := fx1.2.2.2.2
  have hp : PreS E.s H (va_Pc (.ref b :: As) (fun U => U.heap.size = H.size ∧ va_P B.1 gcl (gw ad ct n) U.heap ∧ va_K B.1 gcl (gTy B.2.1) U ∧ va_D (fun _ => True) (gw ad ct n) ∧ gZ B (gA ad n H.size) U)) (.ref b :: As) := ⟨g_blind, g_pre fx w⟩
  subst hst
  rcases s1 with s1 | ⟨host, s1⟩
  · refine g_back fx h w (va_runI (As := As) (rest := rest) fx1 (hM H.size) ⟨callB_of na hts hG rfl rfl rfl (hts _ s2) (hts _ s1) s4 hR, s5, hts _ s6⟩ hp rfl hna h.1 rfl (lv_room hW) d hf) kk
  · refine g_back fx h w (va_runIN (As := As) (rest := rest) fx1 (hM H.size) (host := host) ⟨va_cnB na hts hG rfl rfl rfl (fx4.2.2 _ s1) (hts _ s2) s4 hR, s5, hts _ s6⟩ hp rfl hna h.1 rfl (lv_room hW) d hf) kk
/-- ends -/
theorem g_end {post : gP} {mc ms : Nat} {ret : Option FieldType} (rt : gRt B post mc ms ret E) {H : Heap} {locs : List Loc} (fx : gFx B cc own nL rm E) (w : gWd B E ad ct n H locs) {v : Option Value} (hp : post v ad ct n) : ∀ t : State, t.heap = H → E.s.WarmedH t.vm → gQ B post E.A E.args E.s (.returned v) t := by
  intro t ht hW
  exact ⟨⟨v, ad, ct, n, rfl, hp, by rw [ht]; exact w.1, va_K.moved hW.alike fx.2.1, w.2.1⟩, w.2.2.F ht⟩
theorem g_iret (fx : gFx B cc own nL rm E) {post : gP} {mc ms : Nat} (rt : gRt B post mc ms (some .int) E) {v : Int32} (d : decode cc pc = .ok (.ireturn, 1)) (hp : post (some (.int v)) ad ct n) : G B nL E ad ct n mc ms L pc [.int v] := by
  intro ls H locs h w
  rw [rt.1]
  exact W.iret fx.1.1 fx.1.2.1 rt.2.1 (g_end rt fx w hp) w.2.2.2.2 d rt.2.2
theorem g_zret (fx : gFx B cc own nL rm E) {post : gP} {mc ms : Nat} (rt : gRt B post mc ms (some .boolean) E) {v : Int32} (d : decode cc pc = .ok (.ireturn, 1)) (hn : narrow .boolean (.int v) = .int v) (hp : post (some (.int v)) ad ct n) : G B nL E ad ct n mc ms L pc [.int v] := by
  intro ls H locs h w
  rw [rt.1]
  exact W.zret fx.1.1 fx.1.2.1 rt.2.1 hn (g_end rt fx w hp) w.2.2.2.2 d rt.2.2
theorem g_lret (fx : gFx B cc own nL rm E) {post : gP} {mc ms : Nat} (rt : gRt B post mc ms (some .long) E) {v : Int64} (d : decode cc pc = .ok (.lreturn, 1)) (hp : post (some (.long v)) ad ct n) : G B nL E ad ct n mc ms L pc [.long v] := by
  intro ls H locs h w
  rw [rt.1]
  exact W.lret fx.1.1 fx.1.2.1 rt.2.1 (g_end rt fx w hp) w.2.2.2.2 d rt.2.2
theorem g_vret (fx : gFx B cc own nL rm E) {post : gP} {mc ms : Nat} (rt : gRt B post mc ms none E) (d : decode cc pc = .ok (.return_, 1)) (hp : post none ad ct n) : G B nL E ad ct n mc ms L pc [] := by
  intro ls H locs h w
  rw [rt.1]
  exact W.vret fx.1.1 fx.1.2.1 rt.2.1 (g_end rt fx w hp) w.2.2.2.2 d rt.2.2
theorem g_aret (fx : gFx B cc own nL rm E) {post : gP} {mc ms : Nat} {C : String} (rt : gRt B post mc ms (some (.object C)) E) {a : Nat} (d : decode cc pc = .ok (.areturn, 1)) (hp : post (some (.ref a)) ad ct n) : G B nL E ad ct n mc ms L pc [.ref a] := by
  intro ls H locs h w
  rw [rt.1]
  exact W.aret fx.1.1 fx.1.2.1 rt.2.1 (Or.inl ⟨C, rfl⟩) (Or.inr ⟨a, rfl⟩) (g_end rt fx w hp) w.2.2.2.2 d rt.2.2
theorem g_objInit (fx : gFx B cc own nL rm E) {index b : Nat} (h1 : Cond.methodLink own index Lib.objectInit ∈ gT0) (h2 : Cond.instanceMethod Lib.objectInit ∈ gT0) (h3 : Cond.code Lib.objectInit ⟨#[0xb1]⟩ 1 none ∈ gT0) (hR : 1 ≤ rm.frames) (hR2 : (st.map fun v => v.category).sum + 12 ≤ rm.locals) (d : decode cc pc = .ok (.invokespecial index, 3)) (kk : G B nL E ad ct n k0 s0 L (pc + 3) st) : G B nL E ad ct n k0 s0 L pc (.ref b :: st) := by
  intro ls H locs h w
  obtain ⟨fx1, fx2, fx3, rfl, fx4⟩ := id fx
  have hts := fx1.2.2.2.2
  exact W.objInit fx1.1 fx1.2.1 fx1.2.2.2.1 (hts _ h1) (hts _ h2) (hts _ h3) rfl (by rw [fx1.2.2.1]; exact h.1) rfl d hR (by simpa [F0, JFrame.monitorRoom] using hR2) (kk ls H locs h w)
theorem g_ldcw (fx : gFx B cc own nL rm E) {index : Nat} {v : Int32} (hc : Cond.constant own index v ∈ gT0) (d : decode cc pc = .ok (.ldc_w index, 3)) (k : G B nL E ad ct n k0 s0 L (pc + 3) (.int v :: st)) : G B nL E ad ct n k0 s0 L pc st :=
  fun ls H locs h w => lv_ldcw fx.1.1 fx.1.2.1 fx.1.2.2.2.1 (fx.1.2.2.2.2 _ hc) d (k ls H locs h w)
theorem g_i2b (fx : gFx B cc own nL rm E) {x : Int32} (d : decode cc pc = .ok (.i2b, 1)) (k : G B nL E ad ct n k0 s0 L (pc + 1) (.int x.toInt8.toInt32 :: st)) : G B nL E ad ct n k0 s0 L pc (.int x :: st) :=
  fun ls H locs h w => lv_i2b fx.1.1 fx.1.2.1 d rfl (k ls H locs h w)
theorem g_bald (fx : gFx B cc own nL rm E) {r N j : Nat} {f : Nat → Int32} {i : Int32} (hr : r < n) (hc : ct r = .inl (B.2.1 2, N, .inl f)) (hi : i.toInt = (j : Int)) (hj : j < N) (d : decode cc pc = .ok (.baload, 1)) (kk : G B nL E ad ct n k0 s0 L (pc + 1) (.int (f j) :: st)) : G B nL E ad ct n k0 s0 L pc (.int i :: .ref (ad r) :: st) := by
  intro ls H locs h w
  refine va_bald fx.1.1 fx.1.2.1 fx.2.1 w.1 r 2 (gw_atE hr hc) rfl (gIx hi hj) d ?_
  rw [gCl hi]
  exact kk ls H locs h w
theorem g_primes (fx : gFx B cc own nL rm E) {index : Nat} (hl : Cond.fieldLink own index "ExactTests$Fraction" "PRIMES" "[I" ∈ gT0) (d : decode cc pc = .ok (.getstatic index, 3)) (k : G B nL E ad ct n k0 s0 L (pc + 3) (.ref B.2.2.2 :: st)) : G B nL E ad ct n k0 s0 L pc st :=
  fun ls H locs h w => va_gets fx.1.1 fx.1.2.1 fx.2.2.2.2.1 w.2.2 fx.1.2.2.2.1 (fx.1.2.2.2.2 _ hl) (fun _ h9 => h9) d (k ls H locs h w)
theorem g_primeAt (fx : gFx B cc own nL rm E) {j : Nat} {i : Int32} (hi : i.toInt = (j : Int)) (hj : j < 17) (d : decode cc pc = .ok (.iaload, 1)) (kk : G B nL E ad ct n k0 s0 L (pc + 1) (.int (gPr j) :: st)) : G B nL E ad ct n k0 s0 L pc (.int i :: .ref B.2.2.2 :: st) := by
  intro ls H locs h w
  exact va_ti fx.1.1 fx.1.2.1 fx.2.2.2.2.2.1 w.2.2 (gIx hi hj) (by rw [gCl hi]) d (kk ls H locs h w)
theorem g_primesLen (fx : gFx B cc own nL rm E) (d : decode cc pc = .ok (.arraylength, 1)) (kk : G B nL E ad ct n k0 s0 L (pc + 1) (.int 17 :: st)) : G B nL E ad ct n k0 s0 L pc (.ref B.2.2.2 :: st) := by
  intro ls H locs h w
  exact va_tlen fx.1.1 fx.1.2.1 fx.2.2.2.2.2.1 w.2.2 rfl d (kk ls H locs h w)
end GR
theorem Ctr.ofG {B : gB} {y : MethodName} {cc : ByteArray} {nL : Nat} {ret : Option FieldType} {fr lo mc ms : Nat} {ad : Nat → Nat} {ct : Nat → va_E} {n : Nat} {As : List Value} {post : gP} {L : List (Nat × Value)} (hy : plainName y.cls = true) (hL : lv_args 0 As = L) (hn : (lg_sl As).length ≤ nL)
    (body : ∀ E : gE, gFx B cc y.cls nL { frames := fr, cells := mc, slots := ms, locals := lo } E → gRt B post mc ms ret E → E.meth.name = y.name → G B nL E ad ct n 0 0 L 0 []) : Ctr B y cc nL ret fr lo mc ms ad ct n As post := by
  intro sz
  refine Met.ofW (cc := cc) (maxL := nL) (ret := ret) hy rfl ?_
  intro p e s m args below meth c s₁ X hml hv
  obtain ⟨rfl, hsz, hP, hK, hD0, hZ⟩ := hv
  have hts := atoms_spec (ws := Cond.code y cc nL ret :: gT0) X.pre
  have hown : s.vm.findClass y.cls = some m.cls := findClass_of_methodNamed X.named
  have hl := lv_entry As (n := nL) hn
  rw [lg_entry_eq]
  rw [hL] at hl
  subst hsz
  have hD : va_D (gA ad n s.heap.size) (gw ad ct n) := ⟨hD0.1, fun k q hk => by
    obtain ⟨h1, rfl⟩ := gw_in hk
    exact Or.inl ⟨k, h1, rfl⟩⟩
  exact body ((p, e, _, s), (m, _, below, meth, c), (gA ad n s.heap.size, _)) ⟨⟨X.exec, X.bytes, hml, hown, fun w hw => hts w (List.mem_cons_of_mem _ hw)⟩, hK, fun q h => Or.inr h, rfl, hZ⟩ ⟨rfl, X.returns, X.notSynchronized⟩ (name_of_methodNamed X.named X.method).1 _ s.heap [] hl ⟨hP, hD, va_S.rf⟩
end
