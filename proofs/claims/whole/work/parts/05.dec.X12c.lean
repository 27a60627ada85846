theorem dX12_ways_43 : decode cX12_ways 43 = .ok (.isub, 1) := by decide +kernel
theorem dX12_ways_44 : decode cX12_ways 44 = .ok (.laload, 1) := by decide +kernel
theorem dX12_ways_45 : decode cX12_ways 45 = .ok (.goto 4, 3) := by decide +kernel
theorem dX12_ways_48 : decode cX12_ways 48 = .ok (.lconst 0, 1) := by decide +kernel
theorem dX12_ways_49 : decode cX12_ways 49 = .ok (.lreturn, 1) := by decide +kernel
theorem dX12_isTail_0 : decode cX12_isTail 0 = .ok (.iload_n 0, 1) := by decide +kernel
theorem dX12_isTail_1 : decode cX12_isTail 1 = .ok (.i2l, 1) := by decide +kernel
theorem dX12_isTail_2 : decode cX12_isTail 2 = .ok (.lconst 0, 1) := by decide +kernel
theorem dX12_isTail_3 : decode cX12_isTail 3 = .ok (.ldc2_w 168, 3) := by decide +kernel
theorem dX12_isTail_6 : decode cX12_isTail 6 = .ok (.invokestatic 159, 3) := by decide +kernel
theorem dX12_isTail_9 : decode cX12_isTail 9 = .ok (.ireturn, 1) := by decide +kernel
theorem dX12_bits_0 : decode cX12_bits 0 = .ok (.aload_n 0, 1) := by decide +kernel
theorem dX12_bits_1 : decode cX12_bits 1 = .ok (.getfield 34, 3) := by decide +kernel
theorem dX12_bits_4 : decode cX12_bits 4 = .ok (.ifCond .ge 6, 3) := by decide +kernel
theorem dX12_bits_7 : decode cX12_bits 7 = .ok (.bipush (-3), 2) := by decide +kernel
theorem dX12_bits_9 : decode cX12_bits 9 = .ok (.ireturn, 1) := by decide +kernel
theorem dX12_bits_10 : decode cX12_bits 10 = .ok (.iload_n 1, 1) := by decide +kernel
theorem dX12_bits_11 : decode cX12_bits 11 = .ok (.invokestatic 285, 3) := by decide +kernel
theorem dX12_bits_14 : decode cX12_bits 14 = .ok (.ifCond .ne 5, 3) := by decide +kernel
theorem dX12_bits_17 : decode cX12_bits 17 = .ok (.iconst (-1), 1) := by decide +kernel
theorem dX12_bits_18 : decode cX12_bits 18 = .ok (.ireturn, 1) := by decide +kernel
theorem dX12_bits_19 : decode cX12_bits 19 = .ok (.iload_n 2, 1) := by decide +kernel
theorem dX12_bits_20 : decode cX12_bits 20 = .ok (.ifCond .ne 17, 3) := by decide +kernel
theorem dX12_bits_23 : decode cX12_bits 23 = .ok (.aload_n 0, 1) := by decide +kernel
theorem dX12_bits_24 : decode cX12_bits 24 = .ok (.getfield 38, 3) := by decide +kernel
theorem dX12_bits_27 : decode cX12_bits 27 = .ok (.bipush 40, 2) := by decide +kernel
theorem dX12_bits_29 : decode cX12_bits 29 = .ok (.iload_n 1, 1) := by decide +kernel
theorem dX12_bits_30 : decode cX12_bits 30 = .ok (.imul, 1) := by decide +kernel
theorem dX12_bits_31 : decode cX12_bits 31 = .ok (.invokestatic 131, 3) := by decide +kernel
theorem dX12_bits_34 : decode cX12_bits 34 = .ok (.goto 24, 3) := by decide +kernel
theorem dX12_bits_37 : decode cX12_bits 37 = .ok (.iload_n 2, 1) := by decide +kernel
theorem dX12_bits_38 : decode cX12_bits 38 = .ok (.iconst 1, 1) := by decide +kernel
theorem dX12_bits_39 : decode cX12_bits 39 = .ok (.if_icmp .ne 17, 3) := by decide +kernel
theorem dX12_bits_42 : decode cX12_bits 42 = .ok (.aload_n 0, 1) := by decide +kernel
theorem dX12_bits_43 : decode cX12_bits 43 = .ok (.getfield 41, 3) := by decide +kernel
theorem dX12_bits_46 : decode cX12_bits 46 = .ok (.bipush 40, 2) := by decide +kernel
theorem dX12_bits_48 : decode cX12_bits 48 = .ok (.iload_n 1, 1) := by decide +kernel
theorem dX12_bits_49 : decode cX12_bits 49 = .ok (.imul, 1) := by decide +kernel
theorem dX12_bits_50 : decode cX12_bits 50 = .ok (.invokestatic 131, 3) := by decide +kernel
theorem dX12_bits_53 : decode cX12_bits 53 = .ok (.goto 5, 3) := by decide +kernel
theorem dX12_bits_56 : decode cX12_bits 56 = .ok (.bipush (-2), 2) := by decide +kernel
theorem dX12_bits_58 : decode cX12_bits 58 = .ok (.ireturn, 1) := by decide +kernel
theorem dX12_wordOf_0 : decode cX12_wordOf 0 = .ok (.iconst 0, 1) := by decide +kernel
theorem dX12_wordOf_1 : decode cX12_wordOf 1 = .ok (.istore 4, 2) := by decide +kernel
theorem dX12_wordOf_3 : decode cX12_wordOf 3 = .ok (.bipush 15, 2) := by decide +kernel
theorem dX12_wordOf_5 : decode cX12_wordOf 5 = .ok (.istore 5, 2) := by decide +kernel
theorem dX12_wordOf_7 : decode cX12_wordOf 7 = .ok (.iload 5, 2) := by decide +kernel
theorem dX12_wordOf_9 : decode cX12_wordOf 9 = .ok (.ifCond .lt 48, 3) := by decide +kernel
theorem dX12_wordOf_12 : decode cX12_wordOf 12 = .ok (.ldc2_w 289, 3) := by decide +kernel
theorem dX12_wordOf_15 : decode cX12_wordOf 15 = .ok (.lload_n 2, 1) := by decide +kernel
theorem dX12_wordOf_16 : decode cX12_wordOf 16 = .ok (.lmul, 1) := by decide +kernel
theorem dX12_wordOf_17 : decode cX12_wordOf 17 = .ok (.iload 5, 2) := by decide +kernel
theorem dX12_wordOf_19 : decode cX12_wordOf 19 = .ok (.i2l, 1) := by decide +kernel
theorem dX12_wordOf_20 : decode cX12_wordOf 20 = .ok (.ladd, 1) := by decide +kernel
theorem dX12_wordOf_21 : decode cX12_wordOf 21 = .ok (.lstore 6, 2) := by decide +kernel
theorem dX12_wordOf_23 : decode cX12_wordOf 23 = .ok (.iload 4, 2) := by decide +kernel
theorem dX12_wordOf_25 : decode cX12_wordOf 25 = .ok (.iconst 2, 1) := by decide +kernel
theorem dX12_wordOf_26 : decode cX12_wordOf 26 = .ok (.imul, 1) := by decide +kernel
theorem dX12_wordOf_27 : decode cX12_wordOf 27 = .ok (.lload 6, 2) := by decide +kernel
theorem dX12_wordOf_29 : decode cX12_wordOf 29 = .ok (.ldc2_w 291, 3) := by decide +kernel
theorem dX12_wordOf_32 : decode cX12_wordOf 32 = .ok (.lcmp, 1) := by decide +kernel
theorem dX12_wordOf_33 : decode cX12_wordOf 33 = .ok (.ifCond .ge 14, 3) := by decide +kernel
theorem dX12_wordOf_36 : decode cX12_wordOf 36 = .ok (.aload_n 0, 1) := by decide +kernel
theorem dX12_wordOf_37 : decode cX12_wordOf 37 = .ok (.iload_n 1, 1) := by decide +kernel
theorem dX12_wordOf_38 : decode cX12_wordOf 38 = .ok (.lload 6, 2) := by decide +kernel
theorem dX12_wordOf_40 : decode cX12_wordOf 40 = .ok (.l2i, 1) := by decide +kernel
theorem dX12_wordOf_41 : decode cX12_wordOf 41 = .ok (.invokestatic 135, 3) := by decide +kernel
theorem dX12_wordOf_44 : decode cX12_wordOf 44 = .ok (.goto 4, 3) := by decide +kernel
theorem dX12_wordOf_47 : decode cX12_wordOf 47 = .ok (.iconst 0, 1) := by decide +kernel
theorem dX12_wordOf_48 : decode cX12_wordOf 48 = .ok (.iadd, 1) := by decide +kernel
theorem dX12_wordOf_49 : decode cX12_wordOf 49 = .ok (.istore 4, 2) := by decide +kernel
theorem dX12_wordOf_51 : decode cX12_wordOf 51 = .ok (.iinc 5 (-1), 3) := by decide +kernel
theorem dX12_wordOf_54 : decode cX12_wordOf 54 = .ok (.goto (-47), 3) := by decide +kernel
theorem dX12_wordOf_57 : decode cX12_wordOf 57 = .ok (.iload 4, 2) := by decide +kernel
theorem dX12_wordOf_59 : decode cX12_wordOf 59 = .ok (.ireturn, 1) := by decide +kernel
theorem dX12_word_0 : decode cX12_word 0 = .ok (.aload_n 0, 1) := by decide +kernel
theorem dX12_word_1 : decode cX12_word 1 = .ok (.getfield 34, 3) := by decide +kernel
theorem dX12_word_4 : decode cX12_word 4 = .ok (.ifCond .ge 6, 3) := by decide +kernel
theorem dX12_word_7 : decode cX12_word 7 = .ok (.bipush (-3), 2) := by decide +kernel
theorem dX12_word_9 : decode cX12_word 9 = .ok (.ireturn, 1) := by decide +kernel
theorem dX12_word_10 : decode cX12_word 10 = .ok (.iload_n 1, 1) := by decide +kernel
theorem dX12_word_11 : decode cX12_word 11 = .ok (.invokestatic 285, 3) := by decide +kernel
theorem dX12_word_14 : decode cX12_word 14 = .ok (.ifCond .ne 5, 3) := by decide +kernel
theorem dX12_word_17 : decode cX12_word 17 = .ok (.iconst (-1), 1) := by decide +kernel
theorem dX12_word_18 : decode cX12_word 18 = .ok (.ireturn, 1) := by decide +kernel
theorem dX12_word_19 : decode cX12_word 19 = .ok (.iload_n 2, 1) := by decide +kernel
theorem dX12_word_20 : decode cX12_word 20 = .ok (.i2l, 1) := by decide +kernel
theorem dX12_word_21 : decode cX12_word 21 = .ok (.lconst 0, 1) := by decide +kernel
theorem dX12_word_22 : decode cX12_word 22 = .ok (.lconst 1, 1) := by decide +kernel
theorem dX12_word_23 : decode cX12_word 23 = .ok (.invokestatic 159, 3) := by decide +kernel
theorem dX12_word_26 : decode cX12_word 26 = .ok (.ifCond .eq 7, 3) := by decide +kernel
theorem dX12_word_29 : decode cX12_word 29 = .ok (.iload_n 3, 1) := by decide +kernel
theorem dX12_word_30 : decode cX12_word 30 = .ok (.ifCond .ge 6, 3) := by decide +kernel
theorem dX12_word_33 : decode cX12_word 33 = .ok (.bipush (-2), 2) := by decide +kernel
theorem dX12_word_35 : decode cX12_word 35 = .ok (.ireturn, 1) := by decide +kernel
theorem dX12_word_36 : decode cX12_word 36 = .ok (.iload_n 2, 1) := by decide +kernel
theorem dX12_word_37 : decode cX12_word 37 = .ok (.ifCond .ne 19, 3) := by decide +kernel
theorem dX12_word_40 : decode cX12_word 40 = .ok (.aload_n 0, 1) := by decide +kernel
theorem dX12_word_41 : decode cX12_word 41 = .ok (.getfield 38, 3) := by decide +kernel
theorem dX12_word_44 : decode cX12_word 44 = .ok (.bipush 40, 2) := by decide +kernel
theorem dX12_word_46 : decode cX12_word 46 = .ok (.iload_n 1, 1) := by decide +kernel
theorem dX12_word_47 : decode cX12_word 47 = .ok (.imul, 1) := by decide +kernel
theorem dX12_word_48 : decode cX12_word 48 = .ok (.iload_n 3, 1) := by decide +kernel
theorem dX12_word_49 : decode cX12_word 49 = .ok (.i2l, 1) := by decide +kernel
theorem dX12_word_50 : decode cX12_word 50 = .ok (.invokestatic 293, 3) := by decide +kernel
theorem dX12_word_53 : decode cX12_word 53 = .ok (.goto 16, 3) := by decide +kernel
theorem dX12_word_56 : decode cX12_word 56 = .ok (.aload_n 0, 1) := by decide +kernel
theorem dX12_word_57 : decode cX12_word 57 = .ok (.getfield 41, 3) := by decide +kernel
theorem dX12_word_60 : decode cX12_word 60 = .ok (.bipush 40, 2) := by decide +kernel
theorem dX12_word_62 : decode cX12_word 62 = .ok (.iload_n 1, 1) := by decide +kernel
theorem dX12_word_63 : decode cX12_word 63 = .ok (.imul, 1) := by decide +kernel
theorem dX12_word_64 : decode cX12_word 64 = .ok (.iload_n 3, 1) := by decide +kernel
theorem dX12_word_65 : decode cX12_word 65 = .ok (.i2l, 1) := by decide +kernel
theorem dX12_word_66 : decode cX12_word 66 = .ok (.invokestatic 293, 3) := by decide +kernel
theorem dX12_word_69 : decode cX12_word 69 = .ok (.ireturn, 1) := by decide +kernel
theorem dX12_figure_0 : decode cX12_figure 0 = .ok (.aload_n 0, 1) := by decide +kernel
theorem dX12_figure_1 : decode cX12_figure 1 = .ok (.getfield 34, 3) := by decide +kernel
theorem dX12_figure_4 : decode cX12_figure 4 = .ok (.ifCond .ge 6, 3) := by decide +kernel
theorem dX12_figure_7 : decode cX12_figure 7 = .ok (.bipush (-3), 2) := by decide +kernel
theorem dX12_figure_9 : decode cX12_figure 9 = .ok (.ireturn, 1) := by decide +kernel
theorem dX12_figure_10 : decode cX12_figure 10 = .ok (.iload_n 1, 1) := by decide +kernel
theorem dX12_figure_11 : decode cX12_figure 11 = .ok (.invokestatic 285, 3) := by decide +kernel
theorem dX12_figure_14 : decode cX12_figure 14 = .ok (.ifCond .ne 5, 3) := by decide +kernel
theorem dX12_figure_17 : decode cX12_figure 17 = .ok (.iconst (-1), 1) := by decide +kernel
theorem dX12_figure_18 : decode cX12_figure 18 = .ok (.ireturn, 1) := by decide +kernel
theorem dX12_figure_19 : decode cX12_figure 19 = .ok (.iload_n 2, 1) := by decide +kernel
theorem dX12_figure_20 : decode cX12_figure 20 = .ok (.i2l, 1) := by decide +kernel
theorem dX12_figure_21 : decode cX12_figure 21 = .ok (.lconst 0, 1) := by decide +kernel
theorem dX12_figure_22 : decode cX12_figure 22 = .ok (.ldc2_w 166, 3) := by decide +kernel
theorem dX12_figure_25 : decode cX12_figure 25 = .ok (.invokestatic 159, 3) := by decide +kernel
theorem dX12_figure_28 : decode cX12_figure 28 = .ok (.ifCond .ne 6, 3) := by decide +kernel
theorem dX12_figure_31 : decode cX12_figure 31 = .ok (.bipush (-2), 2) := by decide +kernel
theorem dX12_figure_33 : decode cX12_figure 33 = .ok (.ireturn, 1) := by decide +kernel
theorem dX12_figure_34 : decode cX12_figure 34 = .ok (.aload_n 0, 1) := by decide +kernel
theorem dX12_figure_35 : decode cX12_figure 35 = .ok (.getfield 38, 3) := by decide +kernel
theorem dX12_figure_38 : decode cX12_figure 38 = .ok (.bipush 40, 2) := by decide +kernel
theorem dX12_figure_40 : decode cX12_figure 40 = .ok (.iload_n 1, 1) := by decide +kernel
theorem dX12_figure_41 : decode cX12_figure 41 = .ok (.imul, 1) := by decide +kernel
theorem dX12_figure_42 : decode cX12_figure 42 = .ok (.aload_n 0, 1) := by decide +kernel
theorem dX12_figure_43 : decode cX12_figure 43 = .ok (.getfield 91, 3) := by decide +kernel
theorem dX12_figure_46 : decode cX12_figure 46 = .ok (.iconst 0, 1) := by decide +kernel
theorem dX12_figure_47 : decode cX12_figure 47 = .ok (.invokestatic 151, 3) := by decide +kernel
theorem dX12_figure_50 : decode cX12_figure 50 = .ok (.aload_n 0, 1) := by decide +kernel
theorem dX12_figure_51 : decode cX12_figure 51 = .ok (.aload_n 0, 1) := by decide +kernel
theorem dX12_figure_52 : decode cX12_figure 52 = .ok (.getfield 91, 3) := by decide +kernel
theorem dX12_figure_55 : decode cX12_figure 55 = .ok (.iconst 0, 1) := by decide +kernel
theorem dX12_figure_56 : decode cX12_figure 56 = .ok (.aload_n 0, 1) := by decide +kernel
theorem dX12_figure_57 : decode cX12_figure 57 = .ok (.getfield 41, 3) := by decide +kernel
theorem dX12_figure_60 : decode cX12_figure 60 = .ok (.bipush 40, 2) := by decide +kernel
theorem dX12_figure_62 : decode cX12_figure 62 = .ok (.iload_n 1, 1) := by decide +kernel
theorem dX12_figure_63 : decode cX12_figure 63 = .ok (.imul, 1) := by decide +kernel
theorem dX12_figure_64 : decode cX12_figure 64 = .ok (.invokevirtual 154, 3) := by decide +kernel
theorem dX12_figure_67 : decode cX12_figure 67 = .ok (.iconst 0, 1) := by decide +kernel
theorem dX12_figure_68 : decode cX12_figure 68 = .ok (.istore_n 3, 1) := by decide +kernel
theorem dX12_figure_69 : decode cX12_figure 69 = .ok (.iload_n 3, 1) := by decide +kernel
theorem dX12_figure_70 : decode cX12_figure 70 = .ok (.iload_n 2, 1) := by decide +kernel
theorem dX12_figure_71 : decode cX12_figure 71 = .ok (.if_icmp .ge 49, 3) := by decide +kernel
theorem dX12_figure_74 : decode cX12_figure 74 = .ok (.aload_n 0, 1) := by decide +kernel
theorem dX12_figure_75 : decode cX12_figure 75 = .ok (.getfield 13, 3) := by decide +kernel
theorem dX12_figure_78 : decode cX12_figure 78 = .ok (.iconst 0, 1) := by decide +kernel
theorem dX12_figure_79 : decode cX12_figure 79 = .ok (.aload_n 0, 1) := by decide +kernel
theorem dX12_figure_80 : decode cX12_figure 80 = .ok (.getfield 91, 3) := by decide +kernel
theorem dX12_figure_83 : decode cX12_figure 83 = .ok (.iconst 0, 1) := by decide +kernel
theorem dX12_figure_84 : decode cX12_figure 84 = .ok (.invokestatic 151, 3) := by decide +kernel
theorem dX12_figure_87 : decode cX12_figure 87 = .ok (.aload_n 0, 1) := by decide +kernel
theorem dX12_figure_88 : decode cX12_figure 88 = .ok (.getfield 91, 3) := by decide +kernel
theorem dX12_figure_91 : decode cX12_figure 91 = .ok (.iconst 0, 1) := by decide +kernel
theorem dX12_figure_92 : decode cX12_figure 92 = .ok (.bipush 10, 2) := by decide +kernel
theorem dX12_figure_94 : decode cX12_figure 94 = .ok (.invokestatic 204, 3) := by decide +kernel
theorem dX12_figure_97 : decode cX12_figure 97 = .ok (.aload_n 0, 1) := by decide +kernel
theorem dX12_figure_98 : decode cX12_figure 98 = .ok (.aload_n 0, 1) := by decide +kernel
theorem dX12_figure_99 : decode cX12_figure 99 = .ok (.getfield 91, 3) := by decide +kernel
theorem dX12_figure_102 : decode cX12_figure 102 = .ok (.iconst 0, 1) := by decide +kernel
theorem dX12_figure_103 : decode cX12_figure 103 = .ok (.aload_n 0, 1) := by decide +kernel
theorem dX12_figure_104 : decode cX12_figure 104 = .ok (.getfield 41, 3) := by decide +kernel
theorem dX12_figure_107 : decode cX12_figure 107 = .ok (.bipush 40, 2) := by decide +kernel
theorem dX12_figure_109 : decode cX12_figure 109 = .ok (.iload_n 1, 1) := by decide +kernel
theorem dX12_figure_110 : decode cX12_figure 110 = .ok (.imul, 1) := by decide +kernel
theorem dX12_figure_111 : decode cX12_figure 111 = .ok (.invokevirtual 154, 3) := by decide +kernel
theorem dX12_figure_114 : decode cX12_figure 114 = .ok (.iinc 3 1, 3) := by decide +kernel
theorem dX12_figure_117 : decode cX12_figure 117 = .ok (.goto (-48), 3) := by decide +kernel
theorem dX12_figure_120 : decode cX12_figure 120 = .ok (.aload_n 0, 1) := by decide +kernel
theorem dX12_figure_121 : decode cX12_figure 121 = .ok (.getfield 7, 3) := by decide +kernel
theorem dX12_figure_124 : decode cX12_figure 124 = .ok (.iconst 0, 1) := by decide +kernel
theorem dX12_figure_125 : decode cX12_figure 125 = .ok (.iaload, 1) := by decide +kernel
theorem dX12_figure_126 : decode cX12_figure 126 = .ok (.ireturn, 1) := by decide +kernel
theorem dX12_isLevel_0 : decode cX12_isLevel 0 = .ok (.iload_n 0, 1) := by decide +kernel
theorem dX12_isLevel_1 : decode cX12_isLevel 1 = .ok (.i2l, 1) := by decide +kernel
theorem dX12_isLevel_2 : decode cX12_isLevel 2 = .ok (.lconst 0, 1) := by decide +kernel
theorem dX12_isLevel_3 : decode cX12_isLevel 3 = .ok (.ldc2_w 297, 3) := by decide +kernel
theorem dX12_isLevel_6 : decode cX12_isLevel 6 = .ok (.invokestatic 159, 3) := by decide +kernel
theorem dX12_isLevel_9 : decode cX12_isLevel 9 = .ok (.ifCond .eq 19, 3) := by decide +kernel
theorem dX12_isLevel_12 : decode cX12_isLevel 12 = .ok (.iload_n 1, 1) := by decide +kernel
theorem dX12_isLevel_13 : decode cX12_isLevel 13 = .ok (.i2l, 1) := by decide +kernel
theorem dX12_isLevel_14 : decode cX12_isLevel 14 = .ok (.lconst 1, 1) := by decide +kernel
theorem dX12_isLevel_15 : decode cX12_isLevel 15 = .ok (.ldc2_w 297, 3) := by decide +kernel
theorem dX12_isLevel_18 : decode cX12_isLevel 18 = .ok (.invokestatic 159, 3) := by decide +kernel
theorem dX12_isLevel_21 : decode cX12_isLevel 21 = .ok (.ifCond .eq 7, 3) := by decide +kernel
theorem dX12_isLevel_24 : decode cX12_isLevel 24 = .ok (.iconst 1, 1) := by decide +kernel
theorem dX12_isLevel_25 : decode cX12_isLevel 25 = .ok (.goto 4, 3) := by decide +kernel
theorem dX12_isLevel_28 : decode cX12_isLevel 28 = .ok (.iconst 0, 1) := by decide +kernel
theorem dX12_isLevel_29 : decode cX12_isLevel 29 = .ok (.ireturn, 1) := by decide +kernel
theorem dX12_stands_0 : decode cX12_stands 0 = .ok (.aload_n 1, 1) := by decide +kernel
theorem dX12_stands_1 : decode cX12_stands 1 = .ok (.iload_n 2, 1) := by decide +kernel
theorem dX12_stands_2 : decode cX12_stands 2 = .ok (.aload_n 0, 1) := by decide +kernel
theorem dX12_stands_3 : decode cX12_stands 3 = .ok (.getfield 16, 3) := by decide +kernel
theorem dX12_stands_6 : decode cX12_stands 6 = .ok (.iconst 0, 1) := by decide +kernel
theorem dX12_stands_7 : decode cX12_stands 7 = .ok (.invokestatic 151, 3) := by decide +kernel
theorem dX12_stands_10 : decode cX12_stands 10 = .ok (.aload_n 0, 1) := by decide +kernel
theorem dX12_stands_11 : decode cX12_stands 11 = .ok (.getfield 16, 3) := by decide +kernel
theorem dX12_stands_14 : decode cX12_stands 14 = .ok (.iconst 0, 1) := by decide +kernel
theorem dX12_stands_15 : decode cX12_stands 15 = .ok (.iload 6, 2) := by decide +kernel
theorem dX12_stands_17 : decode cX12_stands 17 = .ok (.invokestatic 204, 3) := by decide +kernel
theorem dX12_stands_20 : decode cX12_stands 20 = .ok (.aload_n 0, 1) := by decide +kernel
theorem dX12_stands_21 : decode cX12_stands 21 = .ok (.getfield 16, 3) := by decide +kernel
theorem dX12_stands_24 : decode cX12_stands 24 = .ok (.iconst 0, 1) := by decide +kernel
theorem dX12_stands_25 : decode cX12_stands 25 = .ok (.iload 7, 2) := by decide +kernel
theorem dX12_stands_27 : decode cX12_stands 27 = .ok (.invokestatic 204, 3) := by decide +kernel
theorem dX12_stands_30 : decode cX12_stands 30 = .ok (.aload_n 3, 1) := by decide +kernel
theorem dX12_stands_31 : decode cX12_stands 31 = .ok (.iload 4, 2) := by decide +kernel
theorem dX12_stands_33 : decode cX12_stands 33 = .ok (.aload_n 0, 1) := by decide +kernel
theorem dX12_stands_34 : decode cX12_stands 34 = .ok (.getfield 19, 3) := by decide +kernel
theorem dX12_stands_37 : decode cX12_stands 37 = .ok (.iconst 0, 1) := by decide +kernel
theorem dX12_stands_38 : decode cX12_stands 38 = .ok (.invokestatic 151, 3) := by decide +kernel
theorem dX12_stands_41 : decode cX12_stands 41 = .ok (.aload_n 0, 1) := by decide +kernel
theorem dX12_stands_42 : decode cX12_stands 42 = .ok (.getfield 19, 3) := by decide +kernel
theorem dX12_stands_45 : decode cX12_stands 45 = .ok (.iconst 0, 1) := by decide +kernel
theorem dX12_stands_46 : decode cX12_stands 46 = .ok (.iload 5, 2) := by decide +kernel
theorem dX12_stands_48 : decode cX12_stands 48 = .ok (.invokestatic 204, 3) := by decide +kernel
theorem dX12_stands_51 : decode cX12_stands 51 = .ok (.aload_n 0, 1) := by decide +kernel
theorem dX12_stands_52 : decode cX12_stands 52 = .ok (.getfield 16, 3) := by decide +kernel
theorem dX12_stands_55 : decode cX12_stands 55 = .ok (.iconst 0, 1) := by decide +kernel
theorem dX12_stands_56 : decode cX12_stands 56 = .ok (.aload_n 0, 1) := by decide +kernel
theorem dX12_stands_57 : decode cX12_stands 57 = .ok (.getfield 19, 3) := by decide +kernel
theorem dX12_stands_60 : decode cX12_stands 60 = .ok (.iconst 0, 1) := by decide +kernel
theorem dX12_stands_61 : decode cX12_stands 61 = .ok (.invokestatic 143, 3) := by decide +kernel
theorem dX12_stands_64 : decode cX12_stands 64 = .ok (.ireturn, 1) := by decide +kernel
theorem dX12_against_0 : decode cX12_against 0 = .ok (.aload_n 0, 1) := by decide +kernel
theorem dX12_against_1 : decode cX12_against 1 = .ok (.getfield 34, 3) := by decide +kernel
theorem dX12_against_4 : decode cX12_against 4 = .ok (.ifCond .ge 6, 3) := by decide +kernel
theorem dX12_against_7 : decode cX12_against 7 = .ok (.bipush (-30), 2) := by decide +kernel
theorem dX12_against_9 : decode cX12_against 9 = .ok (.ireturn, 1) := by decide +kernel
theorem dX12_against_10 : decode cX12_against 10 = .ok (.iload_n 1, 1) := by decide +kernel
theorem dX12_against_11 : decode cX12_against 11 = .ok (.invokestatic 285, 3) := by decide +kernel
theorem dX12_against_14 : decode cX12_against 14 = .ok (.ifCond .ne 6, 3) := by decide +kernel
theorem dX12_against_17 : decode cX12_against 17 = .ok (.bipush (-10), 2) := by decide +kernel
theorem dX12_against_19 : decode cX12_against 19 = .ok (.ireturn, 1) := by decide +kernel
theorem dX12_against_20 : decode cX12_against 20 = .ok (.iload_n 2, 1) := by decide +kernel
theorem dX12_against_21 : decode cX12_against 21 = .ok (.iload_n 3, 1) := by decide +kernel
theorem dX12_against_22 : decode cX12_against 22 = .ok (.invokestatic 299, 3) := by decide +kernel
theorem dX12_against_25 : decode cX12_against 25 = .ok (.ifCond .eq 29, 3) := by decide +kernel
theorem dX12_against_28 : decode cX12_against 28 = .ok (.aload_n 0, 1) := by decide +kernel
theorem dX12_against_29 : decode cX12_against 29 = .ok (.aload_n 0, 1) := by decide +kernel
theorem dX12_against_30 : decode cX12_against 30 = .ok (.getfield 38, 3) := by decide +kernel
theorem dX12_against_33 : decode cX12_against 33 = .ok (.bipush 40, 2) := by decide +kernel
theorem dX12_against_35 : decode cX12_against 35 = .ok (.iload_n 1, 1) := by decide +kernel
theorem dX12_against_36 : decode cX12_against 36 = .ok (.imul, 1) := by decide +kernel
theorem dX12_against_37 : decode cX12_against 37 = .ok (.aload_n 0, 1) := by decide +kernel
theorem dX12_against_38 : decode cX12_against 38 = .ok (.getfield 41, 3) := by decide +kernel
theorem dX12_against_41 : decode cX12_against 41 = .ok (.bipush 40, 2) := by decide +kernel
theorem dX12_against_43 : decode cX12_against 43 = .ok (.iload_n 1, 1) := by decide +kernel
theorem dX12_against_44 : decode cX12_against 44 = .ok (.imul, 1) := by decide +kernel
theorem dX12_against_45 : decode cX12_against 45 = .ok (.iload_n 2, 1) := by decide +kernel
theorem dX12_against_46 : decode cX12_against 46 = .ok (.iload_n 3, 1) := by decide +kernel
theorem dX12_against_47 : decode cX12_against 47 = .ok (.iconst 1, 1) := by decide +kernel
theorem dX12_against_48 : decode cX12_against 48 = .ok (.invokevirtual 303, 3) := by decide +kernel
theorem dX12_against_51 : decode cX12_against 51 = .ok (.goto 5, 3) := by decide +kernel
theorem dX12_against_54 : decode cX12_against 54 = .ok (.bipush (-20), 2) := by decide +kernel
theorem dX12_against_56 : decode cX12_against 56 = .ok (.ireturn, 1) := by decide +kernel
theorem dX12_result_0 : decode cX12_result 0 = .ok (.aload_n 0, 1) := by decide +kernel
theorem dX12_result_1 : decode cX12_result 1 = .ok (.getfield 34, 3) := by decide +kernel
theorem dX12_result_4 : decode cX12_result 4 = .ok (.ifCond .ge 7, 3) := by decide +kernel
theorem dX12_result_7 : decode cX12_result 7 = .ok (.ldc_w 268, 3) := by decide +kernel
theorem dX12_result_10 : decode cX12_result 10 = .ok (.ireturn, 1) := by decide +kernel
theorem dX12_result_11 : decode cX12_result 11 = .ok (.iload_n 1, 1) := by decide +kernel
theorem dX12_result_12 : decode cX12_result 12 = .ok (.ifCond .ne 10, 3) := by decide +kernel
theorem dX12_result_15 : decode cX12_result 15 = .ok (.aload_n 0, 1) := by decide +kernel
theorem dX12_result_16 : decode cX12_result 16 = .ok (.getfield 34, 3) := by decide +kernel
theorem dX12_result_19 : decode cX12_result 19 = .ok (.goto 30, 3) := by decide +kernel
theorem dX12_result_22 : decode cX12_result 22 = .ok (.iload_n 1, 1) := by decide +kernel
theorem dX12_result_23 : decode cX12_result 23 = .ok (.iconst 1, 1) := by decide +kernel
theorem dX12_result_24 : decode cX12_result 24 = .ok (.if_icmp .ne 10, 3) := by decide +kernel
theorem dX12_result_27 : decode cX12_result 27 = .ok (.aload_n 0, 1) := by decide +kernel
theorem dX12_result_28 : decode cX12_result 28 = .ok (.getfield 237, 3) := by decide +kernel
theorem dX12_result_31 : decode cX12_result 31 = .ok (.goto 18, 3) := by decide +kernel
theorem dX12_result_34 : decode cX12_result 34 = .ok (.iload_n 1, 1) := by decide +kernel
theorem dX12_result_35 : decode cX12_result 35 = .ok (.iconst 2, 1) := by decide +kernel
theorem dX12_result_36 : decode cX12_result 36 = .ok (.if_icmp .ne 10, 3) := by decide +kernel
theorem dX12_result_39 : decode cX12_result 39 = .ok (.aload_n 0, 1) := by decide +kernel
theorem dX12_result_40 : decode cX12_result 40 = .ok (.getfield 240, 3) := by decide +kernel
theorem dX12_result_43 : decode cX12_result 43 = .ok (.goto 6, 3) := by decide +kernel
theorem dX12_result_46 : decode cX12_result 46 = .ok (.ldc_w 307, 3) := by decide +kernel
theorem dX12_result_49 : decode cX12_result 49 = .ok (.ireturn, 1) := by decide +kernel
theorem dX12_note_0 : decode cX12_note 0 = .ok (.aload_n 0, 1) := by decide +kernel
theorem dX12_note_1 : decode cX12_note 1 = .ok (.getfield 34, 3) := by decide +kernel
theorem dX12_note_4 : decode cX12_note 4 = .ok (.ifCond .ge 6, 3) := by decide +kernel
theorem dX12_note_7 : decode cX12_note 7 = .ok (.bipush (-3), 2) := by decide +kernel
theorem dX12_note_9 : decode cX12_note 9 = .ok (.ireturn, 1) := by decide +kernel
theorem dX12_note_10 : decode cX12_note 10 = .ok (.iload_n 1, 1) := by decide +kernel
theorem dX12_note_11 : decode cX12_note 11 = .ok (.invokestatic 285, 3) := by decide +kernel
theorem dX12_note_14 : decode cX12_note 14 = .ok (.ifCond .ne 5, 3) := by decide +kernel
theorem dX12_note_17 : decode cX12_note 17 = .ok (.iconst (-1), 1) := by decide +kernel
theorem dX12_note_18 : decode cX12_note 18 = .ok (.ireturn, 1) := by decide +kernel
theorem dX12_note_19 : decode cX12_note 19 = .ok (.aload_n 0, 1) := by decide +kernel
theorem dX12_note_20 : decode cX12_note 20 = .ok (.getfield 184, 3) := by decide +kernel
theorem dX12_note_23 : decode cX12_note 23 = .ok (.bipush 12, 2) := by decide +kernel
theorem dX12_note_25 : decode cX12_note 25 = .ok (.if_icmp .ne 6, 3) := by decide +kernel
theorem dX12_note_28 : decode cX12_note 28 = .ok (.bipush (-4), 2) := by decide +kernel
theorem dX12_note_30 : decode cX12_note 30 = .ok (.ireturn, 1) := by decide +kernel
theorem dX12_note_31 : decode cX12_note 31 = .ok (.aload_n 0, 1) := by decide +kernel
theorem dX12_note_32 : decode cX12_note 32 = .ok (.getfield 38, 3) := by decide +kernel
theorem dX12_note_35 : decode cX12_note 35 = .ok (.bipush 40, 2) := by decide +kernel
theorem dX12_note_37 : decode cX12_note 37 = .ok (.iload_n 1, 1) := by decide +kernel
theorem dX12_note_38 : decode cX12_note 38 = .ok (.imul, 1) := by decide +kernel
theorem dX12_note_39 : decode cX12_note 39 = .ok (.aload_n 0, 1) := by decide +kernel
theorem dX12_note_40 : decode cX12_note 40 = .ok (.getfield 94, 3) := by decide +kernel
theorem dX12_note_43 : decode cX12_note 43 = .ok (.bipush 40, 2) := by decide +kernel
theorem dX12_note_45 : decode cX12_note 45 = .ok (.aload_n 0, 1) := by decide +kernel
theorem dX12_note_46 : decode cX12_note 46 = .ok (.getfield 184, 3) := by decide +kernel
theorem dX12_note_49 : decode cX12_note 49 = .ok (.imul, 1) := by decide +kernel
theorem dX12_note_50 : decode cX12_note 50 = .ok (.invokestatic 151, 3) := by decide +kernel
theorem dX12_note_53 : decode cX12_note 53 = .ok (.aload_n 0, 1) := by decide +kernel
theorem dX12_note_54 : decode cX12_note 54 = .ok (.getfield 41, 3) := by decide +kernel
theorem dX12_note_57 : decode cX12_note 57 = .ok (.bipush 40, 2) := by decide +kernel
theorem dX12_note_59 : decode cX12_note 59 = .ok (.iload_n 1, 1) := by decide +kernel
theorem dX12_note_60 : decode cX12_note 60 = .ok (.imul, 1) := by decide +kernel
theorem dX12_note_61 : decode cX12_note 61 = .ok (.aload_n 0, 1) := by decide +kernel
theorem dX12_note_62 : decode cX12_note 62 = .ok (.getfield 97, 3) := by decide +kernel
theorem dX12_note_65 : decode cX12_note 65 = .ok (.bipush 40, 2) := by decide +kernel
theorem dX12_note_67 : decode cX12_note 67 = .ok (.aload_n 0, 1) := by decide +kernel
theorem dX12_note_68 : decode cX12_note 68 = .ok (.getfield 184, 3) := by decide +kernel
theorem dX12_note_71 : decode cX12_note 71 = .ok (.imul, 1) := by decide +kernel
theorem dX12_note_72 : decode cX12_note 72 = .ok (.invokestatic 151, 3) := by decide +kernel
theorem dX12_note_75 : decode cX12_note 75 = .ok (.aload_n 0, 1) := by decide +kernel
theorem dX12_note_76 : decode cX12_note 76 = .ok (.dup, 1) := by decide +kernel
theorem dX12_note_77 : decode cX12_note 77 = .ok (.getfield 184, 3) := by decide +kernel
theorem dX12_note_80 : decode cX12_note 80 = .ok (.iconst 1, 1) := by decide +kernel
theorem dX12_note_81 : decode cX12_note 81 = .ok (.iadd, 1) := by decide +kernel
theorem dX12_note_82 : decode cX12_note 82 = .ok (.putfield 184, 3) := by decide +kernel
theorem dX12_note_85 : decode cX12_note 85 = .ok (.aload_n 0, 1) := by decide +kernel
theorem dX12_note_86 : decode cX12_note 86 = .ok (.getfield 184, 3) := by decide +kernel
theorem dX12_note_89 : decode cX12_note 89 = .ok (.ireturn, 1) := by decide +kernel
theorem dX12_product_0 : decode cX12_product 0 = .ok (.iconst 0, 1) := by decide +kernel
theorem dX12_product_1 : decode cX12_product 1 = .ok (.istore 5, 2) := by decide +kernel
theorem dX12_product_3 : decode cX12_product 3 = .ok (.iload 5, 2) := by decide +kernel
theorem dX12_product_5 : decode cX12_product 5 = .ok (.bipush 80, 2) := by decide +kernel
theorem dX12_product_7 : decode cX12_product 7 = .ok (.if_icmp .ge 15, 3) := by decide +kernel
theorem dX12_product_10 : decode cX12_product 10 = .ok (.aload 4, 2) := by decide +kernel
theorem dX12_product_12 : decode cX12_product 12 = .ok (.iload 5, 2) := by decide +kernel
theorem dX12_product_14 : decode cX12_product 14 = .ok (.iconst 0, 1) := by decide +kernel
theorem dX12_product_15 : decode cX12_product 15 = .ok (.iastore, 1) := by decide +kernel
theorem dX12_product_16 : decode cX12_product 16 = .ok (.iinc 5 1, 3) := by decide +kernel
theorem dX12_product_19 : decode cX12_product 19 = .ok (.goto (-16), 3) := by decide +kernel
theorem dX12_product_22 : decode cX12_product 22 = .ok (.iconst 0, 1) := by decide +kernel
theorem dX12_product_23 : decode cX12_product 23 = .ok (.istore 5, 2) := by decide +kernel
theorem dX12_product_25 : decode cX12_product 25 = .ok (.iload 5, 2) := by decide +kernel
theorem dX12_product_27 : decode cX12_product 27 = .ok (.bipush 40, 2) := by decide +kernel
theorem dX12_product_29 : decode cX12_product 29 = .ok (.if_icmp .ge 91, 3) := by decide +kernel
theorem dX12_product_32 : decode cX12_product 32 = .ok (.lconst 0, 1) := by decide +kernel
theorem dX12_product_33 : decode cX12_product 33 = .ok (.lstore 6, 2) := by decide +kernel
theorem dX12_product_35 : decode cX12_product 35 = .ok (.iconst 0, 1) := by decide +kernel
theorem dX12_product_36 : decode cX12_product 36 = .ok (.istore 8, 2) := by decide +kernel
theorem dX12_product_38 : decode cX12_product 38 = .ok (.iload 8, 2) := by decide +kernel
theorem dX12_product_40 : decode cX12_product 40 = .ok (.bipush 40, 2) := by decide +kernel
theorem dX12_product_42 : decode cX12_product 42 = .ok (.if_icmp .ge 61, 3) := by decide +kernel
theorem dX12_product_45 : decode cX12_product 45 = .ok (.lload 6, 2) := by decide +kernel
theorem dX12_product_47 : decode cX12_product 47 = .ok (.aload_n 0, 1) := by decide +kernel
theorem dX12_product_48 : decode cX12_product 48 = .ok (.iload_n 1, 1) := by decide +kernel
theorem dX12_product_49 : decode cX12_product 49 = .ok (.iload 5, 2) := by decide +kernel
theorem dX12_product_51 : decode cX12_product 51 = .ok (.iadd, 1) := by decide +kernel
theorem dX12_product_52 : decode cX12_product 52 = .ok (.iaload, 1) := by decide +kernel
theorem dX12_product_53 : decode cX12_product 53 = .ok (.i2l, 1) := by decide +kernel
theorem dX12_product_54 : decode cX12_product 54 = .ok (.aload_n 2, 1) := by decide +kernel
theorem dX12_product_55 : decode cX12_product 55 = .ok (.iload_n 3, 1) := by decide +kernel
theorem dX12_product_56 : decode cX12_product 56 = .ok (.iload 8, 2) := by decide +kernel
theorem dX12_product_58 : decode cX12_product 58 = .ok (.iadd, 1) := by decide +kernel
theorem dX12_product_59 : decode cX12_product 59 = .ok (.iaload, 1) := by decide +kernel
theorem dX12_product_60 : decode cX12_product 60 = .ok (.i2l, 1) := by decide +kernel
theorem dX12_product_61 : decode cX12_product 61 = .ok (.lmul, 1) := by decide +kernel
theorem dX12_product_62 : decode cX12_product 62 = .ok (.aload 4, 2) := by decide +kernel
theorem dX12_product_64 : decode cX12_product 64 = .ok (.iload 5, 2) := by decide +kernel
theorem dX12_product_66 : decode cX12_product 66 = .ok (.iload 8, 2) := by decide +kernel
theorem dX12_product_68 : decode cX12_product 68 = .ok (.iadd, 1) := by decide +kernel
theorem dX12_product_69 : decode cX12_product 69 = .ok (.iaload, 1) := by decide +kernel
theorem dX12_product_70 : decode cX12_product 70 = .ok (.i2l, 1) := by decide +kernel
theorem dX12_product_71 : decode cX12_product 71 = .ok (.ladd, 1) := by decide +kernel
theorem dX12_product_72 : decode cX12_product 72 = .ok (.ladd, 1) := by decide +kernel
theorem dX12_product_73 : decode cX12_product 73 = .ok (.lstore 6, 2) := by decide +kernel
theorem dX12_product_75 : decode cX12_product 75 = .ok (.aload 4, 2) := by decide +kernel
theorem dX12_product_77 : decode cX12_product 77 = .ok (.iload 5, 2) := by decide +kernel
theorem dX12_product_79 : decode cX12_product 79 = .ok (.iload 8, 2) := by decide +kernel
theorem dX12_product_81 : decode cX12_product 81 = .ok (.iadd, 1) := by decide +kernel
theorem dX12_product_82 : decode cX12_product 82 = .ok (.lload 6, 2) := by decide +kernel
theorem dX12_product_84 : decode cX12_product 84 = .ok (.ldc2_w 121, 3) := by decide +kernel
theorem dX12_product_87 : decode cX12_product 87 = .ok (.land, 1) := by decide +kernel
theorem dX12_product_88 : decode cX12_product 88 = .ok (.l2i, 1) := by decide +kernel
theorem dX12_product_89 : decode cX12_product 89 = .ok (.iastore, 1) := by decide +kernel
theorem dX12_product_90 : decode cX12_product 90 = .ok (.lload 6, 2) := by decide +kernel
theorem dX12_product_92 : decode cX12_product 92 = .ok (.bipush 24, 2) := by decide +kernel
theorem dX12_product_94 : decode cX12_product 94 = .ok (.lshr, 1) := by decide +kernel
theorem dX12_product_95 : decode cX12_product 95 = .ok (.lstore 6, 2) := by decide +kernel
theorem dX12_product_97 : decode cX12_product 97 = .ok (.iinc 8 1, 3) := by decide +kernel
theorem dX12_product_100 : decode cX12_product 100 = .ok (.goto (-62), 3) := by decide +kernel
theorem dX12_product_103 : decode cX12_product 103 = .ok (.aload 4, 2) := by decide +kernel
theorem dX12_product_105 : decode cX12_product 105 = .ok (.iload 5, 2) := by decide +kernel
theorem dX12_product_107 : decode cX12_product 107 = .ok (.bipush 40, 2) := by decide +kernel
theorem dX12_product_109 : decode cX12_product 109 = .ok (.iadd, 1) := by decide +kernel
theorem dX12_product_110 : decode cX12_product 110 = .ok (.lload 6, 2) := by decide +kernel
theorem dX12_product_112 : decode cX12_product 112 = .ok (.l2i, 1) := by decide +kernel
theorem dX12_product_113 : decode cX12_product 113 = .ok (.iastore, 1) := by decide +kernel
theorem dX12_product_114 : decode cX12_product 114 = .ok (.iinc 5 1, 3) := by decide +kernel
theorem dX12_product_117 : decode cX12_product 117 = .ok (.goto (-92), 3) := by decide +kernel
theorem dX12_product_120 : decode cX12_product 120 = .ok (.return_, 1) := by decide +kernel
theorem dX12_isLess_0 : decode cX12_isLess 0 = .ok (.aload_n 0, 1) := by decide +kernel
theorem dX12_isLess_1 : decode cX12_isLess 1 = .ok (.getfield 94, 3) := by decide +kernel
theorem dX12_isLess_4 : decode cX12_isLess 4 = .ok (.bipush 40, 2) := by decide +kernel
theorem dX12_isLess_6 : decode cX12_isLess 6 = .ok (.iload_n 1, 1) := by decide +kernel
theorem dX12_isLess_7 : decode cX12_isLess 7 = .ok (.imul, 1) := by decide +kernel
theorem dX12_isLess_8 : decode cX12_isLess 8 = .ok (.aload_n 0, 1) := by decide +kernel
theorem dX12_isLess_9 : decode cX12_isLess 9 = .ok (.getfield 97, 3) := by decide +kernel
theorem dX12_isLess_12 : decode cX12_isLess 12 = .ok (.bipush 40, 2) := by decide +kernel
theorem dX12_isLess_14 : decode cX12_isLess 14 = .ok (.iload_n 2, 1) := by decide +kernel
theorem dX12_isLess_15 : decode cX12_isLess 15 = .ok (.imul, 1) := by decide +kernel
theorem dX12_isLess_16 : decode cX12_isLess 16 = .ok (.aload_n 0, 1) := by decide +kernel
theorem dX12_isLess_17 : decode cX12_isLess 17 = .ok (.getfield 103, 3) := by decide +kernel
theorem dX12_isLess_20 : decode cX12_isLess 20 = .ok (.invokestatic 308, 3) := by decide +kernel
theorem dX12_isLess_23 : decode cX12_isLess 23 = .ok (.aload_n 0, 1) := by decide +kernel
theorem dX12_isLess_24 : decode cX12_isLess 24 = .ok (.getfield 94, 3) := by decide +kernel
theorem dX12_isLess_27 : decode cX12_isLess 27 = .ok (.bipush 40, 2) := by decide +kernel
theorem dX12_isLess_29 : decode cX12_isLess 29 = .ok (.iload_n 2, 1) := by decide +kernel
theorem dX12_isLess_30 : decode cX12_isLess 30 = .ok (.imul, 1) := by decide +kernel
theorem dX12_isLess_31 : decode cX12_isLess 31 = .ok (.aload_n 0, 1) := by decide +kernel
theorem dX12_isLess_32 : decode cX12_isLess 32 = .ok (.getfield 97, 3) := by decide +kernel
theorem dX12_isLess_35 : decode cX12_isLess 35 = .ok (.bipush 40, 2) := by decide +kernel
theorem dX12_isLess_37 : decode cX12_isLess 37 = .ok (.iload_n 1, 1) := by decide +kernel
theorem dX12_isLess_38 : decode cX12_isLess 38 = .ok (.imul, 1) := by decide +kernel
theorem dX12_isLess_39 : decode cX12_isLess 39 = .ok (.aload_n 0, 1) := by decide +kernel
theorem dX12_isLess_40 : decode cX12_isLess 40 = .ok (.getfield 106, 3) := by decide +kernel
theorem dX12_isLess_43 : decode cX12_isLess 43 = .ok (.invokestatic 308, 3) := by decide +kernel
theorem dX12_isLess_46 : decode cX12_isLess 46 = .ok (.bipush 79, 2) := by decide +kernel
theorem dX12_isLess_48 : decode cX12_isLess 48 = .ok (.istore_n 3, 1) := by decide +kernel
theorem dX12_isLess_49 : decode cX12_isLess 49 = .ok (.iload_n 3, 1) := by decide +kernel
theorem dX12_isLess_50 : decode cX12_isLess 50 = .ok (.ifCond .lt 45, 3) := by decide +kernel
theorem dX12_isLess_53 : decode cX12_isLess 53 = .ok (.aload_n 0, 1) := by decide +kernel
theorem dX12_isLess_54 : decode cX12_isLess 54 = .ok (.getfield 103, 3) := by decide +kernel
theorem dX12_isLess_57 : decode cX12_isLess 57 = .ok (.iload_n 3, 1) := by decide +kernel
theorem dX12_isLess_58 : decode cX12_isLess 58 = .ok (.iaload, 1) := by decide +kernel
theorem dX12_isLess_59 : decode cX12_isLess 59 = .ok (.aload_n 0, 1) := by decide +kernel
theorem dX12_isLess_60 : decode cX12_isLess 60 = .ok (.getfield 106, 3) := by decide +kernel
theorem dX12_isLess_63 : decode cX12_isLess 63 = .ok (.iload_n 3, 1) := by decide +kernel
theorem dX12_isLess_64 : decode cX12_isLess 64 = .ok (.iaload, 1) := by decide +kernel
theorem dX12_isLess_65 : decode cX12_isLess 65 = .ok (.if_icmp .eq 24, 3) := by decide +kernel
theorem dX12_isLess_68 : decode cX12_isLess 68 = .ok (.aload_n 0, 1) := by decide +kernel
theorem dX12_isLess_69 : decode cX12_isLess 69 = .ok (.getfield 103, 3) := by decide +kernel
theorem dX12_isLess_72 : decode cX12_isLess 72 = .ok (.iload_n 3, 1) := by decide +kernel
theorem dX12_isLess_73 : decode cX12_isLess 73 = .ok (.iaload, 1) := by decide +kernel
theorem dX12_isLess_74 : decode cX12_isLess 74 = .ok (.aload_n 0, 1) := by decide +kernel
theorem dX12_isLess_75 : decode cX12_isLess 75 = .ok (.getfield 106, 3) := by decide +kernel
theorem dX12_isLess_78 : decode cX12_isLess 78 = .ok (.iload_n 3, 1) := by decide +kernel
theorem dX12_isLess_79 : decode cX12_isLess 79 = .ok (.iaload, 1) := by decide +kernel
theorem dX12_isLess_80 : decode cX12_isLess 80 = .ok (.if_icmp .ge 7, 3) := by decide +kernel
theorem dX12_isLess_83 : decode cX12_isLess 83 = .ok (.iconst 1, 1) := by decide +kernel
theorem dX12_isLess_84 : decode cX12_isLess 84 = .ok (.goto 4, 3) := by decide +kernel
theorem dX12_isLess_87 : decode cX12_isLess 87 = .ok (.iconst 0, 1) := by decide +kernel
theorem dX12_isLess_88 : decode cX12_isLess 88 = .ok (.ireturn, 1) := by decide +kernel
theorem dX12_isLess_89 : decode cX12_isLess 89 = .ok (.iinc 3 (-1), 3) := by decide +kernel
theorem dX12_isLess_92 : decode cX12_isLess 92 = .ok (.goto (-43), 3) := by decide +kernel
theorem dX12_isLess_95 : decode cX12_isLess 95 = .ok (.iconst 0, 1) := by decide +kernel
theorem dX12_isLess_96 : decode cX12_isLess 96 = .ok (.ireturn, 1) := by decide +kernel
theorem dX12_findRejected_0 : decode cX12_findRejected 0 = .ok (.iconst 0, 1) := by decide +kernel
theorem dX12_findRejected_1 : decode cX12_findRejected 1 = .ok (.istore_n 3, 1) := by decide +kernel
theorem dX12_findRejected_2 : decode cX12_findRejected 2 = .ok (.iload_n 3, 1) := by decide +kernel
theorem dX12_findRejected_3 : decode cX12_findRejected 3 = .ok (.aload_n 0, 1) := by decide +kernel
theorem dX12_findRejected_4 : decode cX12_findRejected 4 = .ok (.getfield 184, 3) := by decide +kernel
theorem dX12_findRejected_7 : decode cX12_findRejected 7 = .ok (.if_icmp .ge 64, 3) := by decide +kernel
theorem dX12_findRejected_10 : decode cX12_findRejected 10 = .ok (.iload_n 3, 1) := by decide +kernel
theorem dX12_findRejected_11 : decode cX12_findRejected 11 = .ok (.istore 4, 2) := by decide +kernel
theorem dX12_findRejected_13 : decode cX12_findRejected 13 = .ok (.iload 4, 2) := by decide +kernel
theorem dX12_findRejected_15 : decode cX12_findRejected 15 = .ok (.ifCond .le 42, 3) := by decide +kernel
theorem dX12_findRejected_18 : decode cX12_findRejected 18 = .ok (.aload_n 0, 1) := by decide +kernel
theorem dX12_findRejected_19 : decode cX12_findRejected 19 = .ok (.iload_n 3, 1) := by decide +kernel
theorem dX12_findRejected_20 : decode cX12_findRejected 20 = .ok (.aload_n 0, 1) := by decide +kernel
theorem dX12_findRejected_21 : decode cX12_findRejected 21 = .ok (.getfield 100, 3) := by decide +kernel
theorem dX12_findRejected_24 : decode cX12_findRejected 24 = .ok (.iload 4, 2) := by decide +kernel
theorem dX12_findRejected_26 : decode cX12_findRejected 26 = .ok (.iconst 1, 1) := by decide +kernel
theorem dX12_findRejected_27 : decode cX12_findRejected 27 = .ok (.isub, 1) := by decide +kernel
theorem dX12_findRejected_28 : decode cX12_findRejected 28 = .ok (.iaload, 1) := by decide +kernel
theorem dX12_findRejected_29 : decode cX12_findRejected 29 = .ok (.invokevirtual 312, 3) := by decide +kernel
theorem dX12_findRejected_32 : decode cX12_findRejected 32 = .ok (.ifCond .eq 25, 3) := by decide +kernel
theorem dX12_findRejected_35 : decode cX12_findRejected 35 = .ok (.aload_n 0, 1) := by decide +kernel
theorem dX12_findRejected_36 : decode cX12_findRejected 36 = .ok (.getfield 100, 3) := by decide +kernel
theorem dX12_findRejected_39 : decode cX12_findRejected 39 = .ok (.iload 4, 2) := by decide +kernel
theorem dX12_findRejected_41 : decode cX12_findRejected 41 = .ok (.aload_n 0, 1) := by decide +kernel
theorem dX12_findRejected_42 : decode cX12_findRejected 42 = .ok (.getfield 100, 3) := by decide +kernel
theorem dX12_findRejected_45 : decode cX12_findRejected 45 = .ok (.iload 4, 2) := by decide +kernel
theorem dX12_findRejected_47 : decode cX12_findRejected 47 = .ok (.iconst 1, 1) := by decide +kernel
theorem dX12_findRejected_48 : decode cX12_findRejected 48 = .ok (.isub, 1) := by decide +kernel
theorem dX12_findRejected_49 : decode cX12_findRejected 49 = .ok (.iaload, 1) := by decide +kernel
theorem dX12_findRejected_50 : decode cX12_findRejected 50 = .ok (.iastore, 1) := by decide +kernel
theorem dX12_findRejected_51 : decode cX12_findRejected 51 = .ok (.iinc 4 (-1), 3) := by decide +kernel
theorem dX12_findRejected_54 : decode cX12_findRejected 54 = .ok (.goto (-41), 3) := by decide +kernel
theorem dX12_findRejected_57 : decode cX12_findRejected 57 = .ok (.aload_n 0, 1) := by decide +kernel
theorem dX12_findRejected_58 : decode cX12_findRejected 58 = .ok (.getfield 100, 3) := by decide +kernel
theorem dX12_findRejected_61 : decode cX12_findRejected 61 = .ok (.iload 4, 2) := by decide +kernel
theorem dX12_findRejected_63 : decode cX12_findRejected 63 = .ok (.iload_n 3, 1) := by decide +kernel
theorem dX12_findRejected_64 : decode cX12_findRejected 64 = .ok (.iastore, 1) := by decide +kernel
theorem dX12_findRejected_65 : decode cX12_findRejected 65 = .ok (.iinc 3 1, 3) := by decide +kernel
theorem dX12_findRejected_68 : decode cX12_findRejected 68 = .ok (.goto (-66), 3) := by decide +kernel
theorem dX12_findRejected_71 : decode cX12_findRejected 71 = .ok (.iconst 0, 1) := by decide +kernel
theorem dX12_findRejected_72 : decode cX12_findRejected 72 = .ok (.istore_n 3, 1) := by decide +kernel
theorem dX12_findRejected_73 : decode cX12_findRejected 73 = .ok (.iload_n 3, 1) := by decide +kernel
theorem dX12_findRejected_74 : decode cX12_findRejected 74 = .ok (.aload_n 0, 1) := by decide +kernel
theorem dX12_findRejected_75 : decode cX12_findRejected 75 = .ok (.getfield 184, 3) := by decide +kernel
theorem dX12_findRejected_78 : decode cX12_findRejected 78 = .ok (.if_icmp .ge 50, 3) := by decide +kernel
theorem dX12_findRejected_81 : decode cX12_findRejected 81 = .ok (.aload_n 0, 1) := by decide +kernel
theorem dX12_findRejected_82 : decode cX12_findRejected 82 = .ok (.aload_n 0, 1) := by decide +kernel
theorem dX12_findRejected_83 : decode cX12_findRejected 83 = .ok (.getfield 94, 3) := by decide +kernel
theorem dX12_findRejected_86 : decode cX12_findRejected 86 = .ok (.bipush 40, 2) := by decide +kernel
theorem dX12_findRejected_88 : decode cX12_findRejected 88 = .ok (.aload_n 0, 1) := by decide +kernel
theorem dX12_findRejected_89 : decode cX12_findRejected 89 = .ok (.getfield 100, 3) := by decide +kernel
theorem dX12_findRejected_92 : decode cX12_findRejected 92 = .ok (.iload_n 3, 1) := by decide +kernel
theorem dX12_findRejected_93 : decode cX12_findRejected 93 = .ok (.iaload, 1) := by decide +kernel
theorem dX12_findRejected_94 : decode cX12_findRejected 94 = .ok (.imul, 1) := by decide +kernel
theorem dX12_findRejected_95 : decode cX12_findRejected 95 = .ok (.aload_n 0, 1) := by decide +kernel
theorem dX12_findRejected_96 : decode cX12_findRejected 96 = .ok (.getfield 97, 3) := by decide +kernel
theorem dX12_findRejected_99 : decode cX12_findRejected 99 = .ok (.bipush 40, 2) := by decide +kernel
theorem dX12_findRejected_101 : decode cX12_findRejected 101 = .ok (.aload_n 0, 1) := by decide +kernel
theorem dX12_findRejected_102 : decode cX12_findRejected 102 = .ok (.getfield 100, 3) := by decide +kernel
theorem dX12_findRejected_105 : decode cX12_findRejected 105 = .ok (.iload_n 3, 1) := by decide +kernel
theorem dX12_findRejected_106 : decode cX12_findRejected 106 = .ok (.iaload, 1) := by decide +kernel
theorem dX12_findRejected_107 : decode cX12_findRejected 107 = .ok (.imul, 1) := by decide +kernel
theorem dX12_findRejected_108 : decode cX12_findRejected 108 = .ok (.iload_n 1, 1) := by decide +kernel
theorem dX12_findRejected_109 : decode cX12_findRejected 109 = .ok (.iload_n 2, 1) := by decide +kernel
theorem dX12_findRejected_110 : decode cX12_findRejected 110 = .ok (.aload_n 0, 1) := by decide +kernel
theorem dX12_findRejected_111 : decode cX12_findRejected 111 = .ok (.getfield 184, 3) := by decide +kernel
theorem dX12_findRejected_114 : decode cX12_findRejected 114 = .ok (.iload_n 3, 1) := by decide +kernel
theorem dX12_findRejected_115 : decode cX12_findRejected 115 = .ok (.isub, 1) := by decide +kernel
theorem dX12_findRejected_116 : decode cX12_findRejected 116 = .ok (.invokevirtual 303, 3) := by decide +kernel
theorem dX12_findRejected_119 : decode cX12_findRejected 119 = .ok (.ifCond .gt 9, 3) := by decide +kernel
theorem dX12_findRejected_122 : decode cX12_findRejected 122 = .ok (.iinc 3 1, 3) := by decide +kernel
theorem dX12_findRejected_125 : decode cX12_findRejected 125 = .ok (.goto (-52), 3) := by decide +kernel
theorem dX12_findRejected_128 : decode cX12_findRejected 128 = .ok (.iload_n 3, 1) := by decide +kernel
theorem dX12_findRejected_129 : decode cX12_findRejected 129 = .ok (.ireturn, 1) := by decide +kernel
theorem dX12_rejected_0 : decode cX12_rejected 0 = .ok (.iload_n 1, 1) := by decide +kernel
theorem dX12_rejected_1 : decode cX12_rejected 1 = .ok (.iload_n 2, 1) := by decide +kernel
theorem dX12_rejected_2 : decode cX12_rejected 2 = .ok (.invokestatic 299, 3) := by decide +kernel
theorem dX12_rejected_5 : decode cX12_rejected 5 = .ok (.ifCond .eq 12, 3) := by decide +kernel
theorem dX12_rejected_8 : decode cX12_rejected 8 = .ok (.aload_n 0, 1) := by decide +kernel
theorem dX12_rejected_9 : decode cX12_rejected 9 = .ok (.iload_n 1, 1) := by decide +kernel
theorem dX12_rejected_10 : decode cX12_rejected 10 = .ok (.iload_n 2, 1) := by decide +kernel
theorem dX12_rejected_11 : decode cX12_rejected 11 = .ok (.invokevirtual 315, 3) := by decide +kernel
theorem dX12_rejected_14 : decode cX12_rejected 14 = .ok (.goto 5, 3) := by decide +kernel
theorem dX12_rejected_17 : decode cX12_rejected 17 = .ok (.bipush (-2), 2) := by decide +kernel
theorem dX12_rejected_19 : decode cX12_rejected 19 = .ok (.ireturn, 1) := by decide +kernel
theorem dX12_isRejected_0 : decode cX12_isRejected 0 = .ok (.iload_n 1, 1) := by decide +kernel
theorem dX12_isRejected_1 : decode cX12_isRejected 1 = .ok (.i2l, 1) := by decide +kernel
theorem dX12_isRejected_2 : decode cX12_isRejected 2 = .ok (.lconst 0, 1) := by decide +kernel
theorem dX12_isRejected_3 : decode cX12_isRejected 3 = .ok (.aload_n 0, 1) := by decide +kernel
theorem dX12_isRejected_4 : decode cX12_isRejected 4 = .ok (.getfield 184, 3) := by decide +kernel
theorem dX12_isRejected_7 : decode cX12_isRejected 7 = .ok (.iconst 1, 1) := by decide +kernel
theorem dX12_isRejected_8 : decode cX12_isRejected 8 = .ok (.isub, 1) := by decide +kernel
theorem dX12_isRejected_9 : decode cX12_isRejected 9 = .ok (.i2l, 1) := by decide +kernel
theorem dX12_isRejected_10 : decode cX12_isRejected 10 = .ok (.invokestatic 159, 3) := by decide +kernel
theorem dX12_isRejected_13 : decode cX12_isRejected 13 = .ok (.ifCond .ne 5, 3) := by decide +kernel
theorem dX12_isRejected_16 : decode cX12_isRejected 16 = .ok (.iconst (-1), 1) := by decide +kernel
theorem dX12_isRejected_17 : decode cX12_isRejected 17 = .ok (.ireturn, 1) := by decide +kernel
theorem dX12_isRejected_18 : decode cX12_isRejected 18 = .ok (.iload_n 2, 1) := by decide +kernel
theorem dX12_isRejected_19 : decode cX12_isRejected 19 = .ok (.iload_n 3, 1) := by decide +kernel
theorem dX12_isRejected_20 : decode cX12_isRejected 20 = .ok (.invokestatic 299, 3) := by decide +kernel
theorem dX12_isRejected_23 : decode cX12_isRejected 23 = .ok (.ifCond .ne 6, 3) := by decide +kernel
theorem dX12_isRejected_26 : decode cX12_isRejected 26 = .ok (.bipush (-2), 2) := by decide +kernel
theorem dX12_isRejected_28 : decode cX12_isRejected 28 = .ok (.ireturn, 1) := by decide +kernel
theorem dX12_isRejected_29 : decode cX12_isRejected 29 = .ok (.aload_n 0, 1) := by decide +kernel
theorem dX12_isRejected_30 : decode cX12_isRejected 30 = .ok (.iload_n 2, 1) := by decide +kernel
theorem dX12_isRejected_31 : decode cX12_isRejected 31 = .ok (.iload_n 3, 1) := by decide +kernel
theorem dX12_isRejected_32 : decode cX12_isRejected 32 = .ok (.invokevirtual 315, 3) := by decide +kernel
theorem dX12_isRejected_35 : decode cX12_isRejected 35 = .ok (.istore 4, 2) := by decide +kernel
theorem dX12_isRejected_37 : decode cX12_isRejected 37 = .ok (.iconst 0, 1) := by decide +kernel
theorem dX12_isRejected_38 : decode cX12_isRejected 38 = .ok (.istore 5, 2) := by decide +kernel
theorem dX12_isRejected_40 : decode cX12_isRejected 40 = .ok (.iconst 0, 1) := by decide +kernel
theorem dX12_isRejected_41 : decode cX12_isRejected 41 = .ok (.istore 6, 2) := by decide +kernel
theorem dX12_isRejected_43 : decode cX12_isRejected 43 = .ok (.iload 6, 2) := by decide +kernel
theorem dX12_isRejected_45 : decode cX12_isRejected 45 = .ok (.iload 4, 2) := by decide +kernel
theorem dX12_isRejected_47 : decode cX12_isRejected 47 = .ok (.if_icmp .ge 28, 3) := by decide +kernel
theorem dX12_isRejected_50 : decode cX12_isRejected 50 = .ok (.aload_n 0, 1) := by decide +kernel
theorem dX12_isRejected_51 : decode cX12_isRejected 51 = .ok (.getfield 100, 3) := by decide +kernel
theorem dX12_isRejected_54 : decode cX12_isRejected 54 = .ok (.iload 6, 2) := by decide +kernel
theorem dX12_isRejected_56 : decode cX12_isRejected 56 = .ok (.iaload, 1) := by decide +kernel
theorem dX12_isRejected_57 : decode cX12_isRejected 57 = .ok (.iload_n 1, 1) := by decide +kernel
theorem dX12_isRejected_58 : decode cX12_isRejected 58 = .ok (.if_icmp .ne 7, 3) := by decide +kernel
theorem dX12_isRejected_61 : decode cX12_isRejected 61 = .ok (.iconst 1, 1) := by decide +kernel
theorem dX12_isRejected_62 : decode cX12_isRejected 62 = .ok (.goto 5, 3) := by decide +kernel
theorem dX12_isRejected_65 : decode cX12_isRejected 65 = .ok (.iload 5, 2) := by decide +kernel
theorem dX12_isRejected_67 : decode cX12_isRejected 67 = .ok (.istore 5, 2) := by decide +kernel
theorem dX12_isRejected_69 : decode cX12_isRejected 69 = .ok (.iinc 6 1, 3) := by decide +kernel
theorem dX12_isRejected_72 : decode cX12_isRejected 72 = .ok (.goto (-29), 3) := by decide +kernel
theorem dX12_isRejected_75 : decode cX12_isRejected 75 = .ok (.iload 5, 2) := by decide +kernel
theorem dX12_isRejected_77 : decode cX12_isRejected 77 = .ok (.ireturn, 1) := by decide +kernel
theorem dX12_claim_0 : decode cX12_claim 0 = .ok (.iload_n 1, 1) := by decide +kernel
theorem dX12_claim_1 : decode cX12_claim 1 = .ok (.i2l, 1) := by decide +kernel
theorem dX12_claim_2 : decode cX12_claim 2 = .ok (.lconst 0, 1) := by decide +kernel
theorem dX12_claim_3 : decode cX12_claim 3 = .ok (.ldc2_w 318, 3) := by decide +kernel
theorem dX12_claim_6 : decode cX12_claim 6 = .ok (.invokestatic 159, 3) := by decide +kernel
theorem dX12_claim_9 : decode cX12_claim 9 = .ok (.ifCond .ne 6, 3) := by decide +kernel
theorem dX12_claim_12 : decode cX12_claim 12 = .ok (.bipush (-2), 2) := by decide +kernel
theorem dX12_claim_14 : decode cX12_claim 14 = .ok (.ireturn, 1) := by decide +kernel
theorem dX12_claim_15 : decode cX12_claim 15 = .ok (.aload_n 0, 1) := by decide +kernel
theorem dX12_claim_16 : decode cX12_claim 16 = .ok (.getfield 187, 3) := by decide +kernel
theorem dX12_claim_19 : decode cX12_claim 19 = .ok (.bipush 40, 2) := by decide +kernel
theorem dX12_claim_21 : decode cX12_claim 21 = .ok (.if_icmp .ne 6, 3) := by decide +kernel
theorem dX12_claim_24 : decode cX12_claim 24 = .ok (.bipush (-4), 2) := by decide +kernel
theorem dX12_claim_26 : decode cX12_claim 26 = .ok (.ireturn, 1) := by decide +kernel
theorem dX12_claim_27 : decode cX12_claim 27 = .ok (.aload_n 0, 1) := by decide +kernel
theorem dX12_claim_28 : decode cX12_claim 28 = .ok (.getfield 109, 3) := by decide +kernel
theorem dX12_claim_31 : decode cX12_claim 31 = .ok (.aload_n 0, 1) := by decide +kernel
theorem dX12_claim_32 : decode cX12_claim 32 = .ok (.getfield 187, 3) := by decide +kernel
theorem dX12_claim_35 : decode cX12_claim 35 = .ok (.iload_n 1, 1) := by decide +kernel
theorem dX12_claim_36 : decode cX12_claim 36 = .ok (.iastore, 1) := by decide +kernel
theorem dX12_claim_37 : decode cX12_claim 37 = .ok (.aload_n 0, 1) := by decide +kernel
theorem dX12_claim_38 : decode cX12_claim 38 = .ok (.dup, 1) := by decide +kernel
theorem dX12_claim_39 : decode cX12_claim 39 = .ok (.getfield 187, 3) := by decide +kernel
theorem dX12_claim_42 : decode cX12_claim 42 = .ok (.iconst 1, 1) := by decide +kernel
theorem dX12_claim_43 : decode cX12_claim 43 = .ok (.iadd, 1) := by decide +kernel
theorem dX12_claim_44 : decode cX12_claim 44 = .ok (.putfield 187, 3) := by decide +kernel
theorem dX12_claim_47 : decode cX12_claim 47 = .ok (.aload_n 0, 1) := by decide +kernel
theorem dX12_claim_48 : decode cX12_claim 48 = .ok (.getfield 187, 3) := by decide +kernel
theorem dX12_claim_51 : decode cX12_claim 51 = .ok (.ireturn, 1) := by decide +kernel
theorem dX12_check_0 : decode cX12_check 0 = .ok (.aload_n 0, 1) := by decide +kernel
theorem dX12_check_1 : decode cX12_check 1 = .ok (.getfield 34, 3) := by decide +kernel
theorem dX12_check_4 : decode cX12_check 4 = .ok (.ifCond .ge 6, 3) := by decide +kernel
theorem dX12_check_7 : decode cX12_check 7 = .ok (.bipush (-30), 2) := by decide +kernel
theorem dX12_check_9 : decode cX12_check 9 = .ok (.ireturn, 1) := by decide +kernel
theorem dX12_check_10 : decode cX12_check 10 = .ok (.iload_n 1, 1) := by decide +kernel
theorem dX12_check_11 : decode cX12_check 11 = .ok (.invokestatic 285, 3) := by decide +kernel
theorem dX12_check_14 : decode cX12_check 14 = .ok (.ifCond .ne 6, 3) := by decide +kernel
theorem dX12_check_17 : decode cX12_check 17 = .ok (.bipush (-10), 2) := by decide +kernel
theorem dX12_check_19 : decode cX12_check 19 = .ok (.ireturn, 1) := by decide +kernel
theorem dX12_check_20 : decode cX12_check 20 = .ok (.aload_n 0, 1) := by decide +kernel
theorem dX12_check_21 : decode cX12_check 21 = .ok (.getfield 41, 3) := by decide +kernel
theorem dX12_check_24 : decode cX12_check 24 = .ok (.bipush 40, 2) := by decide +kernel
theorem dX12_check_26 : decode cX12_check 26 = .ok (.iload_n 1, 1) := by decide +kernel
theorem dX12_check_27 : decode cX12_check 27 = .ok (.imul, 1) := by decide +kernel
theorem dX12_check_28 : decode cX12_check 28 = .ok (.invokestatic 131, 3) := by decide +kernel
theorem dX12_check_31 : decode cX12_check 31 = .ok (.bipush 15, 2) := by decide +kernel
theorem dX12_check_33 : decode cX12_check 33 = .ok (.iadd, 1) := by decide +kernel
theorem dX12_check_34 : decode cX12_check 34 = .ok (.bipush 16, 2) := by decide +kernel
theorem dX12_check_36 : decode cX12_check 36 = .ok (.idiv, 1) := by decide +kernel
theorem dX12_check_37 : decode cX12_check 37 = .ok (.istore_n 2, 1) := by decide +kernel
theorem dX12_check_38 : decode cX12_check 38 = .ok (.iload_n 2, 1) := by decide +kernel
theorem dX12_check_39 : decode cX12_check 39 = .ok (.aload_n 0, 1) := by decide +kernel
theorem dX12_check_40 : decode cX12_check 40 = .ok (.getfield 38, 3) := by decide +kernel
theorem dX12_check_43 : decode cX12_check 43 = .ok (.bipush 40, 2) := by decide +kernel
theorem dX12_check_45 : decode cX12_check 45 = .ok (.iload_n 1, 1) := by decide +kernel
theorem dX12_check_46 : decode cX12_check 46 = .ok (.imul, 1) := by decide +kernel
theorem dX12_check_47 : decode cX12_check 47 = .ok (.invokestatic 131, 3) := by decide +kernel
theorem dX12_check_50 : decode cX12_check 50 = .ok (.bipush 15, 2) := by decide +kernel
theorem dX12_check_52 : decode cX12_check 52 = .ok (.iadd, 1) := by decide +kernel
theorem dX12_check_53 : decode cX12_check 53 = .ok (.bipush 16, 2) := by decide +kernel
theorem dX12_check_55 : decode cX12_check 55 = .ok (.idiv, 1) := by decide +kernel
theorem dX12_check_56 : decode cX12_check 56 = .ok (.iadd, 1) := by decide +kernel
theorem dX12_check_57 : decode cX12_check 57 = .ok (.istore_n 3, 1) := by decide +kernel
theorem dX12_check_58 : decode cX12_check 58 = .ok (.iconst 0, 1) := by decide +kernel
theorem dX12_check_59 : decode cX12_check 59 = .ok (.istore 4, 2) := by decide +kernel
theorem dX12_check_61 : decode cX12_check 61 = .ok (.iload 4, 2) := by decide +kernel
theorem dX12_check_63 : decode cX12_check 63 = .ok (.iload_n 3, 1) := by decide +kernel
theorem dX12_check_64 : decode cX12_check 64 = .ok (.if_icmp .ge 77, 3) := by decide +kernel
theorem dX12_check_67 : decode cX12_check 67 = .ok (.iload 4, 2) := by decide +kernel
theorem dX12_check_69 : decode cX12_check 69 = .ok (.iload_n 2, 1) := by decide +kernel
theorem dX12_check_70 : decode cX12_check 70 = .ok (.if_icmp .ge 20, 3) := by decide +kernel
theorem dX12_check_73 : decode cX12_check 73 = .ok (.aload_n 0, 1) := by decide +kernel
theorem dX12_check_74 : decode cX12_check 74 = .ok (.getfield 41, 3) := by decide +kernel
theorem dX12_check_77 : decode cX12_check 77 = .ok (.bipush 40, 2) := by decide +kernel
theorem dX12_check_79 : decode cX12_check 79 = .ok (.iload_n 1, 1) := by decide +kernel
theorem dX12_check_80 : decode cX12_check 80 = .ok (.imul, 1) := by decide +kernel
theorem dX12_check_81 : decode cX12_check 81 = .ok (.iload 4, 2) := by decide +kernel
theorem dX12_check_83 : decode cX12_check 83 = .ok (.i2l, 1) := by decide +kernel
theorem dX12_check_84 : decode cX12_check 84 = .ok (.invokestatic 293, 3) := by decide +kernel
theorem dX12_check_87 : decode cX12_check 87 = .ok (.goto 19, 3) := by decide +kernel
theorem dX12_check_90 : decode cX12_check 90 = .ok (.aload_n 0, 1) := by decide +kernel
theorem dX12_check_91 : decode cX12_check 91 = .ok (.getfield 38, 3) := by decide +kernel
theorem dX12_check_94 : decode cX12_check 94 = .ok (.bipush 40, 2) := by decide +kernel
theorem dX12_check_96 : decode cX12_check 96 = .ok (.iload_n 1, 1) := by decide +kernel
theorem dX12_check_97 : decode cX12_check 97 = .ok (.imul, 1) := by decide +kernel
theorem dX12_check_98 : decode cX12_check 98 = .ok (.iload 4, 2) := by decide +kernel
theorem dX12_check_100 : decode cX12_check 100 = .ok (.iload_n 2, 1) := by decide +kernel
theorem dX12_check_101 : decode cX12_check 101 = .ok (.isub, 1) := by decide +kernel
theorem dX12_check_102 : decode cX12_check 102 = .ok (.i2l, 1) := by decide +kernel
theorem dX12_check_103 : decode cX12_check 103 = .ok (.invokestatic 293, 3) := by decide +kernel
theorem dX12_check_106 : decode cX12_check 106 = .ok (.istore 5, 2) := by decide +kernel
theorem dX12_check_108 : decode cX12_check 108 = .ok (.iload 4, 2) := by decide +kernel
theorem dX12_check_110 : decode cX12_check 110 = .ok (.aload_n 0, 1) := by decide +kernel
theorem dX12_check_111 : decode cX12_check 111 = .ok (.getfield 187, 3) := by decide +kernel
theorem dX12_check_114 : decode cX12_check 114 = .ok (.if_icmp .ge 15, 3) := by decide +kernel
theorem dX12_check_117 : decode cX12_check 117 = .ok (.aload_n 0, 1) := by decide +kernel
theorem dX12_check_118 : decode cX12_check 118 = .ok (.getfield 109, 3) := by decide +kernel
theorem dX12_check_121 : decode cX12_check 121 = .ok (.iload 4, 2) := by decide +kernel
theorem dX12_check_123 : decode cX12_check 123 = .ok (.iaload, 1) := by decide +kernel
theorem dX12_check_124 : decode cX12_check 124 = .ok (.iload 5, 2) := by decide +kernel
theorem dX12_check_126 : decode cX12_check 126 = .ok (.if_icmp .eq 9, 3) := by decide +kernel
theorem dX12_check_129 : decode cX12_check 129 = .ok (.bipush (-100), 2) := by decide +kernel
theorem dX12_check_131 : decode cX12_check 131 = .ok (.iload 4, 2) := by decide +kernel
theorem dX12_check_133 : decode cX12_check 133 = .ok (.isub, 1) := by decide +kernel
theorem dX12_check_134 : decode cX12_check 134 = .ok (.ireturn, 1) := by decide +kernel
theorem dX12_check_135 : decode cX12_check 135 = .ok (.iinc 4 1, 3) := by decide +kernel
theorem dX12_check_138 : decode cX12_check 138 = .ok (.goto (-77), 3) := by decide +kernel
theorem dX12_check_141 : decode cX12_check 141 = .ok (.aload_n 0, 1) := by decide +kernel
theorem dX12_check_142 : decode cX12_check 142 = .ok (.getfield 187, 3) := by decide +kernel
theorem dX12_check_145 : decode cX12_check 145 = .ok (.iload_n 3, 1) := by decide +kernel
theorem dX12_check_146 : decode cX12_check 146 = .ok (.if_icmp .le 10, 3) := by decide +kernel
theorem dX12_check_149 : decode cX12_check 149 = .ok (.bipush (-100), 2) := by decide +kernel
theorem dX12_check_151 : decode cX12_check 151 = .ok (.iload_n 3, 1) := by decide +kernel
theorem dX12_check_152 : decode cX12_check 152 = .ok (.isub, 1) := by decide +kernel
theorem dX12_check_153 : decode cX12_check 153 = .ok (.goto 4, 3) := by decide +kernel
theorem dX12_check_156 : decode cX12_check 156 = .ok (.iconst 1, 1) := by decide +kernel
theorem dX12_check_157 : decode cX12_check 157 = .ok (.ireturn, 1) := by decide +kernel
theorem dX12_shift_0 : decode cX12_shift 0 = .ok (.aload_n 0, 1) := by decide +kernel
theorem dX12_shift_1 : decode cX12_shift 1 = .ok (.getfield 28, 3) := by decide +kernel
theorem dX12_shift_4 : decode cX12_shift 4 = .ok (.iconst 0, 1) := by decide +kernel
theorem dX12_shift_5 : decode cX12_shift 5 = .ok (.iaload, 1) := by decide +kernel
theorem dX12_shift_6 : decode cX12_shift 6 = .ok (.ifCond .eq 12, 3) := by decide +kernel
theorem dX12_shift_9 : decode cX12_shift 9 = .ok (.aload_n 0, 1) := by decide +kernel
theorem dX12_shift_10 : decode cX12_shift 10 = .ok (.getfield 28, 3) := by decide +kernel
theorem dX12_shift_13 : decode cX12_shift 13 = .ok (.iconst 1, 1) := by decide +kernel
theorem dX12_shift_14 : decode cX12_shift 14 = .ok (.iaload, 1) := by decide +kernel
theorem dX12_shift_15 : decode cX12_shift 15 = .ok (.ifCond .ne 7, 3) := by decide +kernel
theorem dX12_shift_18 : decode cX12_shift 18 = .ok (.ldc_w 268, 3) := by decide +kernel
theorem dX12_shift_21 : decode cX12_shift 21 = .ok (.ireturn, 1) := by decide +kernel
theorem dX12_shift_22 : decode cX12_shift 22 = .ok (.iconst 0, 1) := by decide +kernel
theorem dX12_shift_23 : decode cX12_shift 23 = .ok (.istore_n 1, 1) := by decide +kernel
theorem dX12_shift_24 : decode cX12_shift 24 = .ok (.iconst 0, 1) := by decide +kernel
theorem dX12_shift_25 : decode cX12_shift 25 = .ok (.istore_n 2, 1) := by decide +kernel
theorem dX12_shift_26 : decode cX12_shift 26 = .ok (.iload_n 2, 1) := by decide +kernel
theorem dX12_shift_27 : decode cX12_shift 27 = .ok (.aload_n 0, 1) := by decide +kernel
theorem dX12_shift_28 : decode cX12_shift 28 = .ok (.getfield 28, 3) := by decide +kernel
theorem dX12_shift_31 : decode cX12_shift 31 = .ok (.iconst 0, 1) := by decide +kernel
theorem dX12_shift_32 : decode cX12_shift 32 = .ok (.iaload, 1) := by decide +kernel
theorem dX12_shift_33 : decode cX12_shift 33 = .ok (.if_icmp .ge 101, 3) := by decide +kernel
theorem dX12_shift_36 : decode cX12_shift 36 = .ok (.iconst 0, 1) := by decide +kernel
theorem dX12_shift_37 : decode cX12_shift 37 = .ok (.istore_n 3, 1) := by decide +kernel
theorem dX12_shift_38 : decode cX12_shift 38 = .ok (.iload_n 3, 1) := by decide +kernel
theorem dX12_shift_39 : decode cX12_shift 39 = .ok (.aload_n 0, 1) := by decide +kernel
theorem dX12_shift_40 : decode cX12_shift 40 = .ok (.getfield 28, 3) := by decide +kernel
theorem dX12_shift_43 : decode cX12_shift 43 = .ok (.iconst 1, 1) := by decide +kernel
theorem dX12_shift_44 : decode cX12_shift 44 = .ok (.iaload, 1) := by decide +kernel
theorem dX12_shift_45 : decode cX12_shift 45 = .ok (.if_icmp .ge 83, 3) := by decide +kernel
theorem dX12_shift_48 : decode cX12_shift 48 = .ok (.aload_n 0, 1) := by decide +kernel
theorem dX12_shift_49 : decode cX12_shift 49 = .ok (.getfield 25, 3) := by decide +kernel
theorem dX12_shift_52 : decode cX12_shift 52 = .ok (.iload_n 2, 1) := by decide +kernel
theorem dX12_shift_53 : decode cX12_shift 53 = .ok (.iaload, 1) := by decide +kernel
theorem dX12_shift_54 : decode cX12_shift 54 = .ok (.aload_n 0, 1) := by decide +kernel
theorem dX12_shift_55 : decode cX12_shift 55 = .ok (.getfield 25, 3) := by decide +kernel
theorem dX12_shift_58 : decode cX12_shift 58 = .ok (.bipush 15, 2) := by decide +kernel
theorem dX12_shift_60 : decode cX12_shift 60 = .ok (.iload_n 3, 1) := by decide +kernel
theorem dX12_shift_61 : decode cX12_shift 61 = .ok (.iadd, 1) := by decide +kernel
theorem dX12_shift_62 : decode cX12_shift 62 = .ok (.iaload, 1) := by decide +kernel
theorem dX12_shift_63 : decode cX12_shift 63 = .ok (.isub, 1) := by decide +kernel
theorem dX12_shift_64 : decode cX12_shift 64 = .ok (.istore 4, 2) := by decide +kernel
theorem dX12_shift_66 : decode cX12_shift 66 = .ok (.iload_n 1, 1) := by decide +kernel
theorem dX12_shift_67 : decode cX12_shift 67 = .ok (.istore 5, 2) := by decide +kernel
theorem dX12_shift_69 : decode cX12_shift 69 = .ok (.iload 5, 2) := by decide +kernel
theorem dX12_shift_71 : decode cX12_shift 71 = .ok (.ifCond .le 39, 3) := by decide +kernel
theorem dX12_shift_74 : decode cX12_shift 74 = .ok (.aload_n 0, 1) := by decide +kernel
theorem dX12_shift_75 : decode cX12_shift 75 = .ok (.getfield 112, 3) := by decide +kernel
theorem dX12_shift_78 : decode cX12_shift 78 = .ok (.iload 5, 2) := by decide +kernel
theorem dX12_shift_80 : decode cX12_shift 80 = .ok (.iconst 1, 1) := by decide +kernel
theorem dX12_shift_81 : decode cX12_shift 81 = .ok (.isub, 1) := by decide +kernel
theorem dX12_shift_82 : decode cX12_shift 82 = .ok (.iaload, 1) := by decide +kernel
theorem dX12_shift_83 : decode cX12_shift 83 = .ok (.iload 4, 2) := by decide +kernel
theorem dX12_shift_85 : decode cX12_shift 85 = .ok (.if_icmp .le 25, 3) := by decide +kernel
theorem dX12_shift_88 : decode cX12_shift 88 = .ok (.aload_n 0, 1) := by decide +kernel
theorem dX12_shift_89 : decode cX12_shift 89 = .ok (.getfield 112, 3) := by decide +kernel
theorem dX12_shift_92 : decode cX12_shift 92 = .ok (.iload 5, 2) := by decide +kernel
theorem dX12_shift_94 : decode cX12_shift 94 = .ok (.aload_n 0, 1) := by decide +kernel
theorem dX12_shift_95 : decode cX12_shift 95 = .ok (.getfield 112, 3) := by decide +kernel
theorem dX12_shift_98 : decode cX12_shift 98 = .ok (.iload 5, 2) := by decide +kernel
theorem dX12_shift_100 : decode cX12_shift 100 = .ok (.iconst 1, 1) := by decide +kernel
theorem dX12_shift_101 : decode cX12_shift 101 = .ok (.isub, 1) := by decide +kernel
theorem dX12_shift_102 : decode cX12_shift 102 = .ok (.iaload, 1) := by decide +kernel
theorem dX12_shift_103 : decode cX12_shift 103 = .ok (.iastore, 1) := by decide +kernel
theorem dX12_shift_104 : decode cX12_shift 104 = .ok (.iinc 5 (-1), 3) := by decide +kernel
theorem dX12_shift_107 : decode cX12_shift 107 = .ok (.goto (-38), 3) := by decide +kernel
theorem dX12_shift_110 : decode cX12_shift 110 = .ok (.aload_n 0, 1) := by decide +kernel
theorem dX12_shift_111 : decode cX12_shift 111 = .ok (.getfield 112, 3) := by decide +kernel
theorem dX12_shift_114 : decode cX12_shift 114 = .ok (.iload 5, 2) := by decide +kernel
theorem dX12_shift_116 : decode cX12_shift 116 = .ok (.iload 4, 2) := by decide +kernel
theorem dX12_shift_118 : decode cX12_shift 118 = .ok (.iastore, 1) := by decide +kernel
theorem dX12_shift_119 : decode cX12_shift 119 = .ok (.iinc 1 1, 3) := by decide +kernel
theorem dX12_shift_122 : decode cX12_shift 122 = .ok (.iinc 3 1, 3) := by decide +kernel
theorem dX12_shift_125 : decode cX12_shift 125 = .ok (.goto (-87), 3) := by decide +kernel
theorem dX12_shift_128 : decode cX12_shift 128 = .ok (.iinc 2 1, 3) := by decide +kernel
theorem dX12_shift_131 : decode cX12_shift 131 = .ok (.goto (-105), 3) := by decide +kernel
theorem dX12_shift_134 : decode cX12_shift 134 = .ok (.iload_n 1, 1) := by decide +kernel
theorem dX12_shift_135 : decode cX12_shift 135 = .ok (.iconst 2, 1) := by decide +kernel
theorem dX12_shift_136 : decode cX12_shift 136 = .ok (.irem, 1) := by decide +kernel
theorem dX12_shift_137 : decode cX12_shift 137 = .ok (.iconst 1, 1) := by decide +kernel
theorem dX12_shift_138 : decode cX12_shift 138 = .ok (.if_icmp .ne 16, 3) := by decide +kernel
theorem dX12_shift_141 : decode cX12_shift 141 = .ok (.iconst 2, 1) := by decide +kernel
theorem dX12_shift_142 : decode cX12_shift 142 = .ok (.aload_n 0, 1) := by decide +kernel
theorem dX12_shift_143 : decode cX12_shift 143 = .ok (.getfield 112, 3) := by decide +kernel
theorem dX12_shift_146 : decode cX12_shift 146 = .ok (.iload_n 1, 1) := by decide +kernel
theorem dX12_shift_147 : decode cX12_shift 147 = .ok (.iconst 2, 1) := by decide +kernel
theorem dX12_shift_148 : decode cX12_shift 148 = .ok (.idiv, 1) := by decide +kernel
theorem dX12_shift_149 : decode cX12_shift 149 = .ok (.iaload, 1) := by decide +kernel
theorem dX12_shift_150 : decode cX12_shift 150 = .ok (.imul, 1) := by decide +kernel
theorem dX12_shift_151 : decode cX12_shift 151 = .ok (.goto 22, 3) := by decide +kernel
theorem dX12_shift_154 : decode cX12_shift 154 = .ok (.aload_n 0, 1) := by decide +kernel
theorem dX12_shift_155 : decode cX12_shift 155 = .ok (.getfield 112, 3) := by decide +kernel
theorem dX12_shift_158 : decode cX12_shift 158 = .ok (.iload_n 1, 1) := by decide +kernel
theorem dX12_shift_159 : decode cX12_shift 159 = .ok (.iconst 2, 1) := by decide +kernel
theorem dX12_shift_160 : decode cX12_shift 160 = .ok (.idiv, 1) := by decide +kernel
theorem dX12_shift_161 : decode cX12_shift 161 = .ok (.iconst 1, 1) := by decide +kernel
theorem dX12_shift_162 : decode cX12_shift 162 = .ok (.isub, 1) := by decide +kernel
theorem dX12_shift_163 : decode cX12_shift 163 = .ok (.iaload, 1) := by decide +kernel
theorem dX12_shift_164 : decode cX12_shift 164 = .ok (.aload_n 0, 1) := by decide +kernel
theorem dX12_shift_165 : decode cX12_shift 165 = .ok (.getfield 112, 3) := by decide +kernel
theorem dX12_shift_168 : decode cX12_shift 168 = .ok (.iload_n 1, 1) := by decide +kernel
theorem dX12_shift_169 : decode cX12_shift 169 = .ok (.iconst 2, 1) := by decide +kernel
theorem dX12_shift_170 : decode cX12_shift 170 = .ok (.idiv, 1) := by decide +kernel
theorem dX12_shift_171 : decode cX12_shift 171 = .ok (.iaload, 1) := by decide +kernel
theorem dX12_shift_172 : decode cX12_shift 172 = .ok (.iadd, 1) := by decide +kernel
theorem dX12_shift_173 : decode cX12_shift 173 = .ok (.ireturn, 1) := by decide +kernel
theorem dX12_told_0 : decode cX12_told 0 = .ok (.iload_n 1, 1) := by decide +kernel
theorem dX12_told_1 : decode cX12_told 1 = .ok (.tableswitch 91 0 7 #[47, 54, 61, 66, 71, 76, 81, 86], 47) := by decide +kernel
theorem dX12_told_48 : decode cX12_told 48 = .ok (.aload_n 0, 1) := by decide +kernel
theorem dX12_told_49 : decode cX12_told 49 = .ok (.getfield 28, 3) := by decide +kernel
theorem dX12_told_52 : decode cX12_told 52 = .ok (.iconst 0, 1) := by decide +kernel
theorem dX12_told_53 : decode cX12_told 53 = .ok (.iaload, 1) := by decide +kernel
theorem dX12_told_54 : decode cX12_told 54 = .ok (.ireturn, 1) := by decide +kernel
theorem dX12_told_55 : decode cX12_told 55 = .ok (.aload_n 0, 1) := by decide +kernel
theorem dX12_told_56 : decode cX12_told 56 = .ok (.getfield 28, 3) := by decide +kernel
theorem dX12_told_59 : decode cX12_told 59 = .ok (.iconst 1, 1) := by decide +kernel
theorem dX12_told_60 : decode cX12_told 60 = .ok (.iaload, 1) := by decide +kernel
theorem dX12_told_61 : decode cX12_told 61 = .ok (.ireturn, 1) := by decide +kernel
theorem dX12_told_62 : decode cX12_told 62 = .ok (.aload_n 0, 1) := by decide +kernel
theorem dX12_told_63 : decode cX12_told 63 = .ok (.getfield 181, 3) := by decide +kernel
theorem dX12_told_66 : decode cX12_told 66 = .ok (.ireturn, 1) := by decide +kernel
theorem dX12_told_67 : decode cX12_told 67 = .ok (.aload_n 0, 1) := by decide +kernel
theorem dX12_told_68 : decode cX12_told 68 = .ok (.getfield 184, 3) := by decide +kernel
theorem dX12_told_71 : decode cX12_told 71 = .ok (.ireturn, 1) := by decide +kernel
theorem dX12_told_72 : decode cX12_told 72 = .ok (.aload_n 0, 1) := by decide +kernel
theorem dX12_told_73 : decode cX12_told 73 = .ok (.getfield 187, 3) := by decide +kernel
theorem dX12_told_76 : decode cX12_told 76 = .ok (.ireturn, 1) := by decide +kernel
theorem dX12_told_77 : decode cX12_told 77 = .ok (.aload_n 0, 1) := by decide +kernel
theorem dX12_told_78 : decode cX12_told 78 = .ok (.getfield 115, 3) := by decide +kernel
theorem dX12_told_81 : decode cX12_told 81 = .ok (.ireturn, 1) := by decide +kernel
theorem dX12_told_82 : decode cX12_told 82 = .ok (.aload_n 0, 1) := by decide +kernel
theorem dX12_told_83 : decode cX12_told 83 = .ok (.getfield 118, 3) := by decide +kernel
theorem dX12_told_86 : decode cX12_told 86 = .ok (.ireturn, 1) := by decide +kernel
theorem dX12_told_87 : decode cX12_told 87 = .ok (.aload_n 0, 1) := by decide +kernel
theorem dX12_told_88 : decode cX12_told 88 = .ok (.getfield 228, 3) := by decide +kernel
theorem dX12_told_91 : decode cX12_told 91 = .ok (.ireturn, 1) := by decide +kernel
theorem dX12_told_92 : decode cX12_told 92 = .ok (.bipush (-2), 2) := by decide +kernel
theorem dX12_told_94 : decode cX12_told 94 = .ok (.ireturn, 1) := by decide +kernel
