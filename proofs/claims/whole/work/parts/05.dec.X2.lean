theorem dX2_init_0 : decode cX2_init 0 = .ok (.aload_n 0, 1) := by decide +kernel
theorem dX2_init_1 : decode cX2_init 1 = .ok (.invokespecial 1, 3) := by decide +kernel
theorem dX2_init_4 : decode cX2_init 4 = .ok (.aload_n 0, 1) := by decide +kernel
theorem dX2_init_5 : decode cX2_init 5 = .ok (.new 7, 3) := by decide +kernel
theorem dX2_init_8 : decode cX2_init 8 = .ok (.dup, 1) := by decide +kernel
theorem dX2_init_9 : decode cX2_init 9 = .ok (.invokespecial 9, 3) := by decide +kernel
theorem dX2_init_12 : decode cX2_init 12 = .ok (.putfield 10, 3) := by decide +kernel
theorem dX2_init_15 : decode cX2_init 15 = .ok (.aload_n 0, 1) := by decide +kernel
theorem dX2_init_16 : decode cX2_init 16 = .ok (.new 7, 3) := by decide +kernel
theorem dX2_init_19 : decode cX2_init 19 = .ok (.dup, 1) := by decide +kernel
theorem dX2_init_20 : decode cX2_init 20 = .ok (.invokespecial 9, 3) := by decide +kernel
theorem dX2_init_23 : decode cX2_init 23 = .ok (.putfield 16, 3) := by decide +kernel
theorem dX2_init_26 : decode cX2_init 26 = .ok (.return_, 1) := by decide +kernel
theorem dX2_setWholes_0 : decode cX2_setWholes 0 = .ok (.aload_n 0, 1) := by decide +kernel
theorem dX2_setWholes_1 : decode cX2_setWholes 1 = .ok (.getfield 10, 3) := by decide +kernel
theorem dX2_setWholes_4 : decode cX2_setWholes 4 = .ok (.aload_n 1, 1) := by decide +kernel
theorem dX2_setWholes_5 : decode cX2_setWholes 5 = .ok (.invokevirtual 19, 3) := by decide +kernel
theorem dX2_setWholes_8 : decode cX2_setWholes 8 = .ok (.aload_n 0, 1) := by decide +kernel
theorem dX2_setWholes_9 : decode cX2_setWholes 9 = .ok (.getfield 16, 3) := by decide +kernel
theorem dX2_setWholes_12 : decode cX2_setWholes 12 = .ok (.aload_n 2, 1) := by decide +kernel
theorem dX2_setWholes_13 : decode cX2_setWholes 13 = .ok (.invokevirtual 19, 3) := by decide +kernel
theorem dX2_setWholes_16 : decode cX2_setWholes 16 = .ok (.aload_n 0, 1) := by decide +kernel
theorem dX2_setWholes_17 : decode cX2_setWholes 17 = .ok (.invokevirtual 23, 3) := by decide +kernel
theorem dX2_setWholes_20 : decode cX2_setWholes 20 = .ok (.return_, 1) := by decide +kernel
theorem dX2_setLongs_0 : decode cX2_setLongs 0 = .ok (.aload_n 0, 1) := by decide +kernel
theorem dX2_setLongs_1 : decode cX2_setLongs 1 = .ok (.getfield 10, 3) := by decide +kernel
theorem dX2_setLongs_4 : decode cX2_setLongs 4 = .ok (.lload_n 1, 1) := by decide +kernel
theorem dX2_setLongs_5 : decode cX2_setLongs 5 = .ok (.invokevirtual 26, 3) := by decide +kernel
theorem dX2_setLongs_8 : decode cX2_setLongs 8 = .ok (.aload_n 0, 1) := by decide +kernel
theorem dX2_setLongs_9 : decode cX2_setLongs 9 = .ok (.getfield 16, 3) := by decide +kernel
theorem dX2_setLongs_12 : decode cX2_setLongs 12 = .ok (.lload_n 3, 1) := by decide +kernel
theorem dX2_setLongs_13 : decode cX2_setLongs 13 = .ok (.invokevirtual 26, 3) := by decide +kernel
theorem dX2_setLongs_16 : decode cX2_setLongs 16 = .ok (.aload_n 0, 1) := by decide +kernel
theorem dX2_setLongs_17 : decode cX2_setLongs 17 = .ok (.invokevirtual 23, 3) := by decide +kernel
theorem dX2_setLongs_20 : decode cX2_setLongs 20 = .ok (.return_, 1) := by decide +kernel
theorem dX2_copy_0 : decode cX2_copy 0 = .ok (.aload_n 0, 1) := by decide +kernel
theorem dX2_copy_1 : decode cX2_copy 1 = .ok (.getfield 10, 3) := by decide +kernel
theorem dX2_copy_4 : decode cX2_copy 4 = .ok (.aload_n 1, 1) := by decide +kernel
theorem dX2_copy_5 : decode cX2_copy 5 = .ok (.getfield 10, 3) := by decide +kernel
theorem dX2_copy_8 : decode cX2_copy 8 = .ok (.invokevirtual 19, 3) := by decide +kernel
theorem dX2_copy_11 : decode cX2_copy 11 = .ok (.aload_n 0, 1) := by decide +kernel
theorem dX2_copy_12 : decode cX2_copy 12 = .ok (.getfield 16, 3) := by decide +kernel
theorem dX2_copy_15 : decode cX2_copy 15 = .ok (.aload_n 1, 1) := by decide +kernel
theorem dX2_copy_16 : decode cX2_copy 16 = .ok (.getfield 16, 3) := by decide +kernel
theorem dX2_copy_19 : decode cX2_copy 19 = .ok (.invokevirtual 19, 3) := by decide +kernel
theorem dX2_copy_22 : decode cX2_copy 22 = .ok (.return_, 1) := by decide +kernel
theorem dX2_part_0 : decode cX2_part 0 = .ok (.iload_n 1, 1) := by decide +kernel
theorem dX2_part_1 : decode cX2_part 1 = .ok (.ifCond .ne 10, 3) := by decide +kernel
theorem dX2_part_4 : decode cX2_part 4 = .ok (.aload_n 0, 1) := by decide +kernel
theorem dX2_part_5 : decode cX2_part 5 = .ok (.getfield 10, 3) := by decide +kernel
theorem dX2_part_8 : decode cX2_part 8 = .ok (.goto 7, 3) := by decide +kernel
theorem dX2_part_11 : decode cX2_part 11 = .ok (.aload_n 0, 1) := by decide +kernel
theorem dX2_part_12 : decode cX2_part 12 = .ok (.getfield 16, 3) := by decide +kernel
theorem dX2_part_15 : decode cX2_part 15 = .ok (.areturn, 1) := by decide +kernel
theorem dX2_countWords_0 : decode cX2_countWords 0 = .ok (.aload_n 0, 1) := by decide +kernel
theorem dX2_countWords_1 : decode cX2_countWords 1 = .ok (.getfield 16, 3) := by decide +kernel
theorem dX2_countWords_4 : decode cX2_countWords 4 = .ok (.invokevirtual 30, 3) := by decide +kernel
theorem dX2_countWords_7 : decode cX2_countWords 7 = .ok (.aload_n 0, 1) := by decide +kernel
theorem dX2_countWords_8 : decode cX2_countWords 8 = .ok (.getfield 10, 3) := by decide +kernel
theorem dX2_countWords_11 : decode cX2_countWords 11 = .ok (.invokevirtual 30, 3) := by decide +kernel
theorem dX2_countWords_14 : decode cX2_countWords 14 = .ok (.iadd, 1) := by decide +kernel
theorem dX2_countWords_15 : decode cX2_countWords 15 = .ok (.ireturn, 1) := by decide +kernel
theorem dX2_wordInTurn_0 : decode cX2_wordInTurn 0 = .ok (.aload_n 0, 1) := by decide +kernel
theorem dX2_wordInTurn_1 : decode cX2_wordInTurn 1 = .ok (.getfield 16, 3) := by decide +kernel
theorem dX2_wordInTurn_4 : decode cX2_wordInTurn 4 = .ok (.invokevirtual 30, 3) := by decide +kernel
theorem dX2_wordInTurn_7 : decode cX2_wordInTurn 7 = .ok (.istore_n 2, 1) := by decide +kernel
theorem dX2_wordInTurn_8 : decode cX2_wordInTurn 8 = .ok (.iload_n 1, 1) := by decide +kernel
theorem dX2_wordInTurn_9 : decode cX2_wordInTurn 9 = .ok (.iload_n 2, 1) := by decide +kernel
theorem dX2_wordInTurn_10 : decode cX2_wordInTurn 10 = .ok (.if_icmp .ge 14, 3) := by decide +kernel
theorem dX2_wordInTurn_13 : decode cX2_wordInTurn 13 = .ok (.aload_n 0, 1) := by decide +kernel
theorem dX2_wordInTurn_14 : decode cX2_wordInTurn 14 = .ok (.getfield 16, 3) := by decide +kernel
theorem dX2_wordInTurn_17 : decode cX2_wordInTurn 17 = .ok (.iload_n 1, 1) := by decide +kernel
theorem dX2_wordInTurn_18 : decode cX2_wordInTurn 18 = .ok (.invokevirtual 34, 3) := by decide +kernel
theorem dX2_wordInTurn_21 : decode cX2_wordInTurn 21 = .ok (.goto 13, 3) := by decide +kernel
theorem dX2_wordInTurn_24 : decode cX2_wordInTurn 24 = .ok (.aload_n 0, 1) := by decide +kernel
theorem dX2_wordInTurn_25 : decode cX2_wordInTurn 25 = .ok (.getfield 10, 3) := by decide +kernel
theorem dX2_wordInTurn_28 : decode cX2_wordInTurn 28 = .ok (.iload_n 1, 1) := by decide +kernel
theorem dX2_wordInTurn_29 : decode cX2_wordInTurn 29 = .ok (.iload_n 2, 1) := by decide +kernel
theorem dX2_wordInTurn_30 : decode cX2_wordInTurn 30 = .ok (.isub, 1) := by decide +kernel
theorem dX2_wordInTurn_31 : decode cX2_wordInTurn 31 = .ok (.invokevirtual 34, 3) := by decide +kernel
theorem dX2_wordInTurn_34 : decode cX2_wordInTurn 34 = .ok (.ireturn, 1) := by decide +kernel
theorem dX2_reduce_0 : decode cX2_reduce 0 = .ok (.iconst 0, 1) := by decide +kernel
theorem dX2_reduce_1 : decode cX2_reduce 1 = .ok (.istore_n 1, 1) := by decide +kernel
theorem dX2_reduce_2 : decode cX2_reduce 2 = .ok (.iload_n 1, 1) := by decide +kernel
theorem dX2_reduce_3 : decode cX2_reduce 3 = .ok (.getstatic 38, 3) := by decide +kernel
theorem dX2_reduce_6 : decode cX2_reduce 6 = .ok (.arraylength, 1) := by decide +kernel
theorem dX2_reduce_7 : decode cX2_reduce 7 = .ok (.if_icmp .ge 54, 3) := by decide +kernel
theorem dX2_reduce_10 : decode cX2_reduce 10 = .ok (.getstatic 38, 3) := by decide +kernel
theorem dX2_reduce_13 : decode cX2_reduce 13 = .ok (.iload_n 1, 1) := by decide +kernel
theorem dX2_reduce_14 : decode cX2_reduce 14 = .ok (.iaload, 1) := by decide +kernel
theorem dX2_reduce_15 : decode cX2_reduce 15 = .ok (.istore_n 2, 1) := by decide +kernel
theorem dX2_reduce_16 : decode cX2_reduce 16 = .ok (.iconst 0, 1) := by decide +kernel
theorem dX2_reduce_17 : decode cX2_reduce 17 = .ok (.istore_n 3, 1) := by decide +kernel
theorem dX2_reduce_18 : decode cX2_reduce 18 = .ok (.iload_n 3, 1) := by decide +kernel
theorem dX2_reduce_19 : decode cX2_reduce 19 = .ok (.sipush 384, 3) := by decide +kernel
theorem dX2_reduce_22 : decode cX2_reduce 22 = .ok (.if_icmp .ge 33, 3) := by decide +kernel
theorem dX2_reduce_25 : decode cX2_reduce 25 = .ok (.aload_n 0, 1) := by decide +kernel
theorem dX2_reduce_26 : decode cX2_reduce 26 = .ok (.iload_n 2, 1) := by decide +kernel
theorem dX2_reduce_27 : decode cX2_reduce 27 = .ok (.invokevirtual 42, 3) := by decide +kernel
theorem dX2_reduce_30 : decode cX2_reduce 30 = .ok (.ifCond .eq 25, 3) := by decide +kernel
theorem dX2_reduce_33 : decode cX2_reduce 33 = .ok (.aload_n 0, 1) := by decide +kernel
theorem dX2_reduce_34 : decode cX2_reduce 34 = .ok (.getfield 10, 3) := by decide +kernel
theorem dX2_reduce_37 : decode cX2_reduce 37 = .ok (.iload_n 2, 1) := by decide +kernel
theorem dX2_reduce_38 : decode cX2_reduce 38 = .ok (.invokevirtual 46, 3) := by decide +kernel
theorem dX2_reduce_41 : decode cX2_reduce 41 = .ok (.aload_n 0, 1) := by decide +kernel
theorem dX2_reduce_42 : decode cX2_reduce 42 = .ok (.getfield 16, 3) := by decide +kernel
theorem dX2_reduce_45 : decode cX2_reduce 45 = .ok (.iload_n 2, 1) := by decide +kernel
theorem dX2_reduce_46 : decode cX2_reduce 46 = .ok (.invokevirtual 46, 3) := by decide +kernel
theorem dX2_reduce_49 : decode cX2_reduce 49 = .ok (.iinc 3 1, 3) := by decide +kernel
theorem dX2_reduce_52 : decode cX2_reduce 52 = .ok (.goto (-34), 3) := by decide +kernel
theorem dX2_reduce_55 : decode cX2_reduce 55 = .ok (.iinc 1 1, 3) := by decide +kernel
theorem dX2_reduce_58 : decode cX2_reduce 58 = .ok (.goto (-56), 3) := by decide +kernel
theorem dX2_reduce_61 : decode cX2_reduce 61 = .ok (.return_, 1) := by decide +kernel
theorem dX2_isCommon_0 : decode cX2_isCommon 0 = .ok (.aload_n 0, 1) := by decide +kernel
theorem dX2_isCommon_1 : decode cX2_isCommon 1 = .ok (.getfield 10, 3) := by decide +kernel
theorem dX2_isCommon_4 : decode cX2_isCommon 4 = .ok (.iload_n 1, 1) := by decide +kernel
theorem dX2_isCommon_5 : decode cX2_isCommon 5 = .ok (.invokevirtual 50, 3) := by decide +kernel
theorem dX2_isCommon_8 : decode cX2_isCommon 8 = .ok (.ifCond .ne 18, 3) := by decide +kernel
theorem dX2_isCommon_11 : decode cX2_isCommon 11 = .ok (.aload_n 0, 1) := by decide +kernel
theorem dX2_isCommon_12 : decode cX2_isCommon 12 = .ok (.getfield 16, 3) := by decide +kernel
theorem dX2_isCommon_15 : decode cX2_isCommon 15 = .ok (.iload_n 1, 1) := by decide +kernel
theorem dX2_isCommon_16 : decode cX2_isCommon 16 = .ok (.invokevirtual 50, 3) := by decide +kernel
theorem dX2_isCommon_19 : decode cX2_isCommon 19 = .ok (.ifCond .ne 7, 3) := by decide +kernel
theorem dX2_isCommon_22 : decode cX2_isCommon 22 = .ok (.iconst 1, 1) := by decide +kernel
theorem dX2_isCommon_23 : decode cX2_isCommon 23 = .ok (.goto 4, 3) := by decide +kernel
theorem dX2_isCommon_26 : decode cX2_isCommon 26 = .ok (.iconst 0, 1) := by decide +kernel
theorem dX2_isCommon_27 : decode cX2_isCommon 27 = .ok (.ireturn, 1) := by decide +kernel
