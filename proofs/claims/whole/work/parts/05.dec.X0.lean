theorem dX0_init_0 : decode cX0_init 0 = .ok (.aload_n 0, 1) := by decide +kernel
theorem dX0_init_1 : decode cX0_init 1 = .ok (.invokespecial 1, 3) := by decide +kernel
theorem dX0_init_4 : decode cX0_init 4 = .ok (.aload_n 0, 1) := by decide +kernel
theorem dX0_init_5 : decode cX0_init 5 = .ok (.iconst 0, 1) := by decide +kernel
theorem dX0_init_6 : decode cX0_init 6 = .ok (.newarray .long, 2) := by decide +kernel
theorem dX0_init_8 : decode cX0_init 8 = .ok (.putfield 7, 3) := by decide +kernel
theorem dX0_init_11 : decode cX0_init 11 = .ok (.return_, 1) := by decide +kernel
theorem dX0_renew_0 : decode cX0_renew 0 = .ok (.aload_n 0, 1) := by decide +kernel
theorem dX0_renew_1 : decode cX0_renew 1 = .ok (.iload_n 1, 1) := by decide +kernel
theorem dX0_renew_2 : decode cX0_renew 2 = .ok (.putfield 13, 3) := by decide +kernel
theorem dX0_renew_5 : decode cX0_renew 5 = .ok (.aload_n 0, 1) := by decide +kernel
theorem dX0_renew_6 : decode cX0_renew 6 = .ok (.iload_n 2, 1) := by decide +kernel
theorem dX0_renew_7 : decode cX0_renew 7 = .ok (.putfield 17, 3) := by decide +kernel
theorem dX0_renew_10 : decode cX0_renew 10 = .ok (.aload_n 0, 1) := by decide +kernel
theorem dX0_renew_11 : decode cX0_renew 11 = .ok (.aload_n 0, 1) := by decide +kernel
theorem dX0_renew_12 : decode cX0_renew 12 = .ok (.getfield 13, 3) := by decide +kernel
theorem dX0_renew_15 : decode cX0_renew 15 = .ok (.aload_n 0, 1) := by decide +kernel
theorem dX0_renew_16 : decode cX0_renew 16 = .ok (.getfield 17, 3) := by decide +kernel
theorem dX0_renew_19 : decode cX0_renew 19 = .ok (.imul, 1) := by decide +kernel
theorem dX0_renew_20 : decode cX0_renew 20 = .ok (.bipush 10, 2) := by decide +kernel
theorem dX0_renew_22 : decode cX0_renew 22 = .ok (.iadd, 1) := by decide +kernel
theorem dX0_renew_23 : decode cX0_renew 23 = .ok (.iconst 1, 1) := by decide +kernel
theorem dX0_renew_24 : decode cX0_renew 24 = .ok (.isub, 1) := by decide +kernel
theorem dX0_renew_25 : decode cX0_renew 25 = .ok (.bipush 10, 2) := by decide +kernel
theorem dX0_renew_27 : decode cX0_renew 27 = .ok (.idiv, 1) := by decide +kernel
theorem dX0_renew_28 : decode cX0_renew 28 = .ok (.putfield 20, 3) := by decide +kernel
theorem dX0_renew_31 : decode cX0_renew 31 = .ok (.aload_n 0, 1) := by decide +kernel
theorem dX0_renew_32 : decode cX0_renew 32 = .ok (.iconst 0, 1) := by decide +kernel
theorem dX0_renew_33 : decode cX0_renew 33 = .ok (.putfield 23, 3) := by decide +kernel
theorem dX0_renew_36 : decode cX0_renew 36 = .ok (.aload_n 0, 1) := by decide +kernel
theorem dX0_renew_37 : decode cX0_renew 37 = .ok (.getfield 20, 3) := by decide +kernel
theorem dX0_renew_40 : decode cX0_renew 40 = .ok (.iload_n 3, 1) := by decide +kernel
theorem dX0_renew_41 : decode cX0_renew 41 = .ok (.imul, 1) := by decide +kernel
theorem dX0_renew_42 : decode cX0_renew 42 = .ok (.istore 4, 2) := by decide +kernel
theorem dX0_renew_44 : decode cX0_renew 44 = .ok (.iload 4, 2) := by decide +kernel
theorem dX0_renew_46 : decode cX0_renew 46 = .ok (.aload_n 0, 1) := by decide +kernel
theorem dX0_renew_47 : decode cX0_renew 47 = .ok (.getfield 7, 3) := by decide +kernel
theorem dX0_renew_50 : decode cX0_renew 50 = .ok (.arraylength, 1) := by decide +kernel
theorem dX0_renew_51 : decode cX0_renew 51 = .ok (.if_icmp .le 21, 3) := by decide +kernel
theorem dX0_renew_54 : decode cX0_renew 54 = .ok (.aload_n 0, 1) := by decide +kernel
theorem dX0_renew_55 : decode cX0_renew 55 = .ok (.iload 4, 2) := by decide +kernel
theorem dX0_renew_57 : decode cX0_renew 57 = .ok (.iconst 2, 1) := by decide +kernel
theorem dX0_renew_58 : decode cX0_renew 58 = .ok (.aload_n 0, 1) := by decide +kernel
theorem dX0_renew_59 : decode cX0_renew 59 = .ok (.getfield 7, 3) := by decide +kernel
theorem dX0_renew_62 : decode cX0_renew 62 = .ok (.arraylength, 1) := by decide +kernel
theorem dX0_renew_63 : decode cX0_renew 63 = .ok (.imul, 1) := by decide +kernel
theorem dX0_renew_64 : decode cX0_renew 64 = .ok (.invokestatic 26, 3) := by decide +kernel
theorem dX0_renew_67 : decode cX0_renew 67 = .ok (.newarray .long, 2) := by decide +kernel
theorem dX0_renew_69 : decode cX0_renew 69 = .ok (.putfield 7, 3) := by decide +kernel
theorem dX0_renew_72 : decode cX0_renew 72 = .ok (.return_, 1) := by decide +kernel
theorem dX0_keep_0 : decode cX0_keep 0 = .ok (.aload_n 0, 1) := by decide +kernel
theorem dX0_keep_1 : decode cX0_keep 1 = .ok (.getfield 23, 3) := by decide +kernel
theorem dX0_keep_4 : decode cX0_keep 4 = .ok (.aload_n 0, 1) := by decide +kernel
theorem dX0_keep_5 : decode cX0_keep 5 = .ok (.getfield 20, 3) := by decide +kernel
theorem dX0_keep_8 : decode cX0_keep 8 = .ok (.imul, 1) := by decide +kernel
theorem dX0_keep_9 : decode cX0_keep 9 = .ok (.istore_n 3, 1) := by decide +kernel
theorem dX0_keep_10 : decode cX0_keep 10 = .ok (.iload_n 3, 1) := by decide +kernel
theorem dX0_keep_11 : decode cX0_keep 11 = .ok (.aload_n 0, 1) := by decide +kernel
theorem dX0_keep_12 : decode cX0_keep 12 = .ok (.getfield 20, 3) := by decide +kernel
theorem dX0_keep_15 : decode cX0_keep 15 = .ok (.iadd, 1) := by decide +kernel
theorem dX0_keep_16 : decode cX0_keep 16 = .ok (.aload_n 0, 1) := by decide +kernel
theorem dX0_keep_17 : decode cX0_keep 17 = .ok (.getfield 7, 3) := by decide +kernel
theorem dX0_keep_20 : decode cX0_keep 20 = .ok (.arraylength, 1) := by decide +kernel
theorem dX0_keep_21 : decode cX0_keep 21 = .ok (.if_icmp .gt 17, 3) := by decide +kernel
theorem dX0_keep_24 : decode cX0_keep 24 = .ok (.aload_n 0, 1) := by decide +kernel
theorem dX0_keep_25 : decode cX0_keep 25 = .ok (.getfield 13, 3) := by decide +kernel
theorem dX0_keep_28 : decode cX0_keep 28 = .ok (.aload_n 0, 1) := by decide +kernel
theorem dX0_keep_29 : decode cX0_keep 29 = .ok (.getfield 17, 3) := by decide +kernel
theorem dX0_keep_32 : decode cX0_keep 32 = .ok (.imul, 1) := by decide +kernel
theorem dX0_keep_33 : decode cX0_keep 33 = .ok (.aload_n 1, 1) := by decide +kernel
theorem dX0_keep_34 : decode cX0_keep 34 = .ok (.arraylength, 1) := by decide +kernel
theorem dX0_keep_35 : decode cX0_keep 35 = .ok (.if_icmp .le 4, 3) := by decide +kernel
theorem dX0_keep_38 : decode cX0_keep 38 = .ok (.return_, 1) := by decide +kernel
theorem dX0_keep_39 : decode cX0_keep 39 = .ok (.iconst 0, 1) := by decide +kernel
theorem dX0_keep_40 : decode cX0_keep 40 = .ok (.istore 4, 2) := by decide +kernel
theorem dX0_keep_42 : decode cX0_keep 42 = .ok (.iconst 0, 1) := by decide +kernel
theorem dX0_keep_43 : decode cX0_keep 43 = .ok (.istore 5, 2) := by decide +kernel
theorem dX0_keep_45 : decode cX0_keep 45 = .ok (.iload 5, 2) := by decide +kernel
theorem dX0_keep_47 : decode cX0_keep 47 = .ok (.aload_n 0, 1) := by decide +kernel
theorem dX0_keep_48 : decode cX0_keep 48 = .ok (.getfield 20, 3) := by decide +kernel
theorem dX0_keep_51 : decode cX0_keep 51 = .ok (.if_icmp .ge 74, 3) := by decide +kernel
theorem dX0_keep_54 : decode cX0_keep 54 = .ok (.aload_n 0, 1) := by decide +kernel
theorem dX0_keep_55 : decode cX0_keep 55 = .ok (.getfield 13, 3) := by decide +kernel
theorem dX0_keep_58 : decode cX0_keep 58 = .ok (.aload_n 0, 1) := by decide +kernel
theorem dX0_keep_59 : decode cX0_keep 59 = .ok (.getfield 17, 3) := by decide +kernel
theorem dX0_keep_62 : decode cX0_keep 62 = .ok (.imul, 1) := by decide +kernel
theorem dX0_keep_63 : decode cX0_keep 63 = .ok (.iload 4, 2) := by decide +kernel
theorem dX0_keep_65 : decode cX0_keep 65 = .ok (.bipush 10, 2) := by decide +kernel
theorem dX0_keep_67 : decode cX0_keep 67 = .ok (.iadd, 1) := by decide +kernel
theorem dX0_keep_68 : decode cX0_keep 68 = .ok (.invokestatic 32, 3) := by decide +kernel
theorem dX0_keep_71 : decode cX0_keep 71 = .ok (.istore 6, 2) := by decide +kernel
theorem dX0_keep_73 : decode cX0_keep 73 = .ok (.lconst 0, 1) := by decide +kernel
theorem dX0_keep_74 : decode cX0_keep 74 = .ok (.lstore 7, 2) := by decide +kernel
theorem dX0_keep_76 : decode cX0_keep 76 = .ok (.iconst 0, 1) := by decide +kernel
theorem dX0_keep_77 : decode cX0_keep 77 = .ok (.istore 9, 2) := by decide +kernel
theorem dX0_keep_79 : decode cX0_keep 79 = .ok (.iload 4, 2) := by decide +kernel
theorem dX0_keep_81 : decode cX0_keep 81 = .ok (.iload 6, 2) := by decide +kernel
theorem dX0_keep_83 : decode cX0_keep 83 = .ok (.if_icmp .ge 25, 3) := by decide +kernel
theorem dX0_keep_86 : decode cX0_keep 86 = .ok (.lload 7, 2) := by decide +kernel
theorem dX0_keep_88 : decode cX0_keep 88 = .ok (.aload_n 1, 1) := by decide +kernel
theorem dX0_keep_89 : decode cX0_keep 89 = .ok (.iload 4, 2) := by decide +kernel
theorem dX0_keep_91 : decode cX0_keep 91 = .ok (.iaload, 1) := by decide +kernel
theorem dX0_keep_92 : decode cX0_keep 92 = .ok (.i2l, 1) := by decide +kernel
theorem dX0_keep_93 : decode cX0_keep 93 = .ok (.iload 9, 2) := by decide +kernel
theorem dX0_keep_95 : decode cX0_keep 95 = .ok (.lshl, 1) := by decide +kernel
theorem dX0_keep_96 : decode cX0_keep 96 = .ok (.lor, 1) := by decide +kernel
theorem dX0_keep_97 : decode cX0_keep 97 = .ok (.lstore 7, 2) := by decide +kernel
theorem dX0_keep_99 : decode cX0_keep 99 = .ok (.iinc 9 6, 3) := by decide +kernel
theorem dX0_keep_102 : decode cX0_keep 102 = .ok (.iinc 4 1, 3) := by decide +kernel
theorem dX0_keep_105 : decode cX0_keep 105 = .ok (.goto (-26), 3) := by decide +kernel
theorem dX0_keep_108 : decode cX0_keep 108 = .ok (.aload_n 0, 1) := by decide +kernel
theorem dX0_keep_109 : decode cX0_keep 109 = .ok (.getfield 7, 3) := by decide +kernel
theorem dX0_keep_112 : decode cX0_keep 112 = .ok (.iload_n 3, 1) := by decide +kernel
theorem dX0_keep_113 : decode cX0_keep 113 = .ok (.iload 5, 2) := by decide +kernel
theorem dX0_keep_115 : decode cX0_keep 115 = .ok (.iadd, 1) := by decide +kernel
theorem dX0_keep_116 : decode cX0_keep 116 = .ok (.lload 7, 2) := by decide +kernel
theorem dX0_keep_118 : decode cX0_keep 118 = .ok (.lastore, 1) := by decide +kernel
theorem dX0_keep_119 : decode cX0_keep 119 = .ok (.iinc 5 1, 3) := by decide +kernel
theorem dX0_keep_122 : decode cX0_keep 122 = .ok (.goto (-77), 3) := by decide +kernel
theorem dX0_keep_125 : decode cX0_keep 125 = .ok (.aload_n 0, 1) := by decide +kernel
theorem dX0_keep_126 : decode cX0_keep 126 = .ok (.getfield 7, 3) := by decide +kernel
theorem dX0_keep_129 : decode cX0_keep 129 = .ok (.iload_n 3, 1) := by decide +kernel
theorem dX0_keep_130 : decode cX0_keep 130 = .ok (.dup2, 1) := by decide +kernel
theorem dX0_keep_131 : decode cX0_keep 131 = .ok (.laload, 1) := by decide +kernel
theorem dX0_keep_132 : decode cX0_keep 132 = .ok (.iload_n 2, 1) := by decide +kernel
theorem dX0_keep_133 : decode cX0_keep 133 = .ok (.iconst 1, 1) := by decide +kernel
theorem dX0_keep_134 : decode cX0_keep 134 = .ok (.iadd, 1) := by decide +kernel
theorem dX0_keep_135 : decode cX0_keep 135 = .ok (.i2l, 1) := by decide +kernel
theorem dX0_keep_136 : decode cX0_keep 136 = .ok (.bipush 60, 2) := by decide +kernel
theorem dX0_keep_138 : decode cX0_keep 138 = .ok (.lshl, 1) := by decide +kernel
theorem dX0_keep_139 : decode cX0_keep 139 = .ok (.lor, 1) := by decide +kernel
theorem dX0_keep_140 : decode cX0_keep 140 = .ok (.lastore, 1) := by decide +kernel
theorem dX0_keep_141 : decode cX0_keep 141 = .ok (.aload_n 0, 1) := by decide +kernel
theorem dX0_keep_142 : decode cX0_keep 142 = .ok (.dup, 1) := by decide +kernel
theorem dX0_keep_143 : decode cX0_keep 143 = .ok (.getfield 23, 3) := by decide +kernel
theorem dX0_keep_146 : decode cX0_keep 146 = .ok (.iconst 1, 1) := by decide +kernel
theorem dX0_keep_147 : decode cX0_keep 147 = .ok (.iadd, 1) := by decide +kernel
theorem dX0_keep_148 : decode cX0_keep 148 = .ok (.putfield 23, 3) := by decide +kernel
theorem dX0_keep_151 : decode cX0_keep 151 = .ok (.return_, 1) := by decide +kernel
theorem dX0_count_0 : decode cX0_count 0 = .ok (.aload_n 0, 1) := by decide +kernel
theorem dX0_count_1 : decode cX0_count 1 = .ok (.getfield 23, 3) := by decide +kernel
theorem dX0_count_4 : decode cX0_count 4 = .ok (.ireturn, 1) := by decide +kernel
theorem dX0_has_0 : decode cX0_has 0 = .ok (.iload_n 1, 1) := by decide +kernel
theorem dX0_has_1 : decode cX0_has 1 = .ok (.ifCond .lt 15, 3) := by decide +kernel
theorem dX0_has_4 : decode cX0_has 4 = .ok (.iload_n 1, 1) := by decide +kernel
theorem dX0_has_5 : decode cX0_has 5 = .ok (.aload_n 0, 1) := by decide +kernel
theorem dX0_has_6 : decode cX0_has 6 = .ok (.getfield 23, 3) := by decide +kernel
theorem dX0_has_9 : decode cX0_has 9 = .ok (.if_icmp .ge 7, 3) := by decide +kernel
theorem dX0_has_12 : decode cX0_has 12 = .ok (.iconst 1, 1) := by decide +kernel
theorem dX0_has_13 : decode cX0_has 13 = .ok (.goto 4, 3) := by decide +kernel
theorem dX0_has_16 : decode cX0_has 16 = .ok (.iconst 0, 1) := by decide +kernel
theorem dX0_has_17 : decode cX0_has 17 = .ok (.ireturn, 1) := by decide +kernel
theorem dX0_hasCell_0 : decode cX0_hasCell 0 = .ok (.iload_n 1, 1) := by decide +kernel
theorem dX0_hasCell_1 : decode cX0_hasCell 1 = .ok (.ifCond .lt 27, 3) := by decide +kernel
theorem dX0_hasCell_4 : decode cX0_hasCell 4 = .ok (.iload_n 1, 1) := by decide +kernel
theorem dX0_hasCell_5 : decode cX0_hasCell 5 = .ok (.aload_n 0, 1) := by decide +kernel
theorem dX0_hasCell_6 : decode cX0_hasCell 6 = .ok (.getfield 13, 3) := by decide +kernel
theorem dX0_hasCell_9 : decode cX0_hasCell 9 = .ok (.if_icmp .ge 19, 3) := by decide +kernel
theorem dX0_hasCell_12 : decode cX0_hasCell 12 = .ok (.iload_n 2, 1) := by decide +kernel
theorem dX0_hasCell_13 : decode cX0_hasCell 13 = .ok (.ifCond .lt 15, 3) := by decide +kernel
theorem dX0_hasCell_16 : decode cX0_hasCell 16 = .ok (.iload_n 2, 1) := by decide +kernel
theorem dX0_hasCell_17 : decode cX0_hasCell 17 = .ok (.aload_n 0, 1) := by decide +kernel
theorem dX0_hasCell_18 : decode cX0_hasCell 18 = .ok (.getfield 17, 3) := by decide +kernel
theorem dX0_hasCell_21 : decode cX0_hasCell 21 = .ok (.if_icmp .ge 7, 3) := by decide +kernel
theorem dX0_hasCell_24 : decode cX0_hasCell 24 = .ok (.iconst 1, 1) := by decide +kernel
theorem dX0_hasCell_25 : decode cX0_hasCell 25 = .ok (.goto 4, 3) := by decide +kernel
theorem dX0_hasCell_28 : decode cX0_hasCell 28 = .ok (.iconst 0, 1) := by decide +kernel
theorem dX0_hasCell_29 : decode cX0_hasCell 29 = .ok (.ireturn, 1) := by decide +kernel
theorem dX0_numberAt_0 : decode cX0_numberAt 0 = .ok (.aload_n 0, 1) := by decide +kernel
theorem dX0_numberAt_1 : decode cX0_numberAt 1 = .ok (.iload_n 1, 1) := by decide +kernel
theorem dX0_numberAt_2 : decode cX0_numberAt 2 = .ok (.invokevirtual 35, 3) := by decide +kernel
theorem dX0_numberAt_5 : decode cX0_numberAt 5 = .ok (.ifCond .eq 12, 3) := by decide +kernel
theorem dX0_numberAt_8 : decode cX0_numberAt 8 = .ok (.aload_n 0, 1) := by decide +kernel
theorem dX0_numberAt_9 : decode cX0_numberAt 9 = .ok (.iload_n 2, 1) := by decide +kernel
theorem dX0_numberAt_10 : decode cX0_numberAt 10 = .ok (.iload_n 3, 1) := by decide +kernel
theorem dX0_numberAt_11 : decode cX0_numberAt 11 = .ok (.invokevirtual 39, 3) := by decide +kernel
theorem dX0_numberAt_14 : decode cX0_numberAt 14 = .ok (.ifCond .ne 5, 3) := by decide +kernel
theorem dX0_numberAt_17 : decode cX0_numberAt 17 = .ok (.iconst 0, 1) := by decide +kernel
theorem dX0_numberAt_18 : decode cX0_numberAt 18 = .ok (.ireturn, 1) := by decide +kernel
theorem dX0_numberAt_19 : decode cX0_numberAt 19 = .ok (.iload_n 2, 1) := by decide +kernel
theorem dX0_numberAt_20 : decode cX0_numberAt 20 = .ok (.aload_n 0, 1) := by decide +kernel
theorem dX0_numberAt_21 : decode cX0_numberAt 21 = .ok (.getfield 17, 3) := by decide +kernel
theorem dX0_numberAt_24 : decode cX0_numberAt 24 = .ok (.imul, 1) := by decide +kernel
theorem dX0_numberAt_25 : decode cX0_numberAt 25 = .ok (.iload_n 3, 1) := by decide +kernel
theorem dX0_numberAt_26 : decode cX0_numberAt 26 = .ok (.iadd, 1) := by decide +kernel
theorem dX0_numberAt_27 : decode cX0_numberAt 27 = .ok (.istore 4, 2) := by decide +kernel
theorem dX0_numberAt_29 : decode cX0_numberAt 29 = .ok (.aload_n 0, 1) := by decide +kernel
theorem dX0_numberAt_30 : decode cX0_numberAt 30 = .ok (.getfield 7, 3) := by decide +kernel
theorem dX0_numberAt_33 : decode cX0_numberAt 33 = .ok (.iload_n 1, 1) := by decide +kernel
theorem dX0_numberAt_34 : decode cX0_numberAt 34 = .ok (.aload_n 0, 1) := by decide +kernel
theorem dX0_numberAt_35 : decode cX0_numberAt 35 = .ok (.getfield 20, 3) := by decide +kernel
theorem dX0_numberAt_38 : decode cX0_numberAt 38 = .ok (.imul, 1) := by decide +kernel
theorem dX0_numberAt_39 : decode cX0_numberAt 39 = .ok (.iload 4, 2) := by decide +kernel
theorem dX0_numberAt_41 : decode cX0_numberAt 41 = .ok (.bipush 10, 2) := by decide +kernel
theorem dX0_numberAt_43 : decode cX0_numberAt 43 = .ok (.idiv, 1) := by decide +kernel
theorem dX0_numberAt_44 : decode cX0_numberAt 44 = .ok (.iadd, 1) := by decide +kernel
theorem dX0_numberAt_45 : decode cX0_numberAt 45 = .ok (.laload, 1) := by decide +kernel
theorem dX0_numberAt_46 : decode cX0_numberAt 46 = .ok (.bipush 6, 2) := by decide +kernel
theorem dX0_numberAt_48 : decode cX0_numberAt 48 = .ok (.iload 4, 2) := by decide +kernel
theorem dX0_numberAt_50 : decode cX0_numberAt 50 = .ok (.bipush 10, 2) := by decide +kernel
theorem dX0_numberAt_52 : decode cX0_numberAt 52 = .ok (.irem, 1) := by decide +kernel
theorem dX0_numberAt_53 : decode cX0_numberAt 53 = .ok (.imul, 1) := by decide +kernel
theorem dX0_numberAt_54 : decode cX0_numberAt 54 = .ok (.lshr, 1) := by decide +kernel
theorem dX0_numberAt_55 : decode cX0_numberAt 55 = .ok (.l2i, 1) := by decide +kernel
theorem dX0_numberAt_56 : decode cX0_numberAt 56 = .ok (.bipush 63, 2) := by decide +kernel
theorem dX0_numberAt_58 : decode cX0_numberAt 58 = .ok (.iand, 1) := by decide +kernel
theorem dX0_numberAt_59 : decode cX0_numberAt 59 = .ok (.ireturn, 1) := by decide +kernel
theorem dX0_orderOf_0 : decode cX0_orderOf 0 = .ok (.aload_n 0, 1) := by decide +kernel
theorem dX0_orderOf_1 : decode cX0_orderOf 1 = .ok (.iload_n 1, 1) := by decide +kernel
theorem dX0_orderOf_2 : decode cX0_orderOf 2 = .ok (.invokevirtual 35, 3) := by decide +kernel
theorem dX0_orderOf_5 : decode cX0_orderOf 5 = .ok (.ifCond .eq 23, 3) := by decide +kernel
theorem dX0_orderOf_8 : decode cX0_orderOf 8 = .ok (.aload_n 0, 1) := by decide +kernel
theorem dX0_orderOf_9 : decode cX0_orderOf 9 = .ok (.getfield 7, 3) := by decide +kernel
theorem dX0_orderOf_12 : decode cX0_orderOf 12 = .ok (.iload_n 1, 1) := by decide +kernel
theorem dX0_orderOf_13 : decode cX0_orderOf 13 = .ok (.aload_n 0, 1) := by decide +kernel
theorem dX0_orderOf_14 : decode cX0_orderOf 14 = .ok (.getfield 20, 3) := by decide +kernel
theorem dX0_orderOf_17 : decode cX0_orderOf 17 = .ok (.imul, 1) := by decide +kernel
theorem dX0_orderOf_18 : decode cX0_orderOf 18 = .ok (.laload, 1) := by decide +kernel
theorem dX0_orderOf_19 : decode cX0_orderOf 19 = .ok (.bipush 60, 2) := by decide +kernel
theorem dX0_orderOf_21 : decode cX0_orderOf 21 = .ok (.lshr, 1) := by decide +kernel
theorem dX0_orderOf_22 : decode cX0_orderOf 22 = .ok (.l2i, 1) := by decide +kernel
theorem dX0_orderOf_23 : decode cX0_orderOf 23 = .ok (.iconst 1, 1) := by decide +kernel
theorem dX0_orderOf_24 : decode cX0_orderOf 24 = .ok (.isub, 1) := by decide +kernel
theorem dX0_orderOf_25 : decode cX0_orderOf 25 = .ok (.goto 4, 3) := by decide +kernel
theorem dX0_orderOf_28 : decode cX0_orderOf 28 = .ok (.iconst 0, 1) := by decide +kernel
theorem dX0_orderOf_29 : decode cX0_orderOf 29 = .ok (.ireturn, 1) := by decide +kernel
