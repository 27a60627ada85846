theorem dX11_judge_24 : decode cX11_judge 24 = .ok (.invokevirtual 270, 3) := by decide +kernel
theorem dX11_judge_27 : decode cX11_judge 27 = .ok (.lstore 8, 2) := by decide +kernel
theorem dX11_judge_29 : decode cX11_judge 29 = .ok (.lload 4, 2) := by decide +kernel
theorem dX11_judge_31 : decode cX11_judge 31 = .ok (.lload 6, 2) := by decide +kernel
theorem dX11_judge_33 : decode cX11_judge 33 = .ok (.lsub, 1) := by decide +kernel
theorem dX11_judge_34 : decode cX11_judge 34 = .ok (.lload 8, 2) := by decide +kernel
theorem dX11_judge_36 : decode cX11_judge 36 = .ok (.ladd, 1) := by decide +kernel
theorem dX11_judge_37 : decode cX11_judge 37 = .ok (.lstore 10, 2) := by decide +kernel
theorem dX11_judge_39 : decode cX11_judge 39 = .ok (.aload_n 0, 1) := by decide +kernel
theorem dX11_judge_40 : decode cX11_judge 40 = .ok (.getfield 58, 3) := by decide +kernel
theorem dX11_judge_43 : decode cX11_judge 43 = .ok (.iconst 1, 1) := by decide +kernel
theorem dX11_judge_44 : decode cX11_judge 44 = .ok (.invokevirtual 142, 3) := by decide +kernel
theorem dX11_judge_47 : decode cX11_judge 47 = .ok (.lload 6, 2) := by decide +kernel
theorem dX11_judge_49 : decode cX11_judge 49 = .ok (.lload 4, 2) := by decide +kernel
theorem dX11_judge_51 : decode cX11_judge 51 = .ok (.invokevirtual 313, 3) := by decide +kernel
theorem dX11_judge_54 : decode cX11_judge 54 = .ok (.aload_n 0, 1) := by decide +kernel
theorem dX11_judge_55 : decode cX11_judge 55 = .ok (.getfield 58, 3) := by decide +kernel
theorem dX11_judge_58 : decode cX11_judge 58 = .ok (.iconst 2, 1) := by decide +kernel
theorem dX11_judge_59 : decode cX11_judge 59 = .ok (.invokevirtual 142, 3) := by decide +kernel
theorem dX11_judge_62 : decode cX11_judge 62 = .ok (.lload 10, 2) := by decide +kernel
theorem dX11_judge_64 : decode cX11_judge 64 = .ok (.lload 4, 2) := by decide +kernel
theorem dX11_judge_66 : decode cX11_judge 66 = .ok (.invokevirtual 313, 3) := by decide +kernel
theorem dX11_judge_69 : decode cX11_judge 69 = .ok (.aload_n 0, 1) := by decide +kernel
theorem dX11_judge_70 : decode cX11_judge 70 = .ok (.getfield 58, 3) := by decide +kernel
theorem dX11_judge_73 : decode cX11_judge 73 = .ok (.iconst 3, 1) := by decide +kernel
theorem dX11_judge_74 : decode cX11_judge 74 = .ok (.invokevirtual 142, 3) := by decide +kernel
theorem dX11_judge_77 : decode cX11_judge 77 = .ok (.lload 8, 2) := by decide +kernel
theorem dX11_judge_79 : decode cX11_judge 79 = .ok (.lload 4, 2) := by decide +kernel
theorem dX11_judge_81 : decode cX11_judge 81 = .ok (.invokevirtual 313, 3) := by decide +kernel
theorem dX11_judge_84 : decode cX11_judge 84 = .ok (.iload_n 3, 1) := by decide +kernel
theorem dX11_judge_85 : decode cX11_judge 85 = .ok (.iload_n 1, 1) := by decide +kernel
theorem dX11_judge_86 : decode cX11_judge 86 = .ok (.imul, 1) := by decide +kernel
theorem dX11_judge_87 : decode cX11_judge 87 = .ok (.iload_n 2, 1) := by decide +kernel
theorem dX11_judge_88 : decode cX11_judge 88 = .ok (.isub, 1) := by decide +kernel
theorem dX11_judge_89 : decode cX11_judge 89 = .ok (.istore 12, 2) := by decide +kernel
theorem dX11_judge_91 : decode cX11_judge 91 = .ok (.lload 4, 2) := by decide +kernel
theorem dX11_judge_93 : decode cX11_judge 93 = .ok (.lstore 13, 2) := by decide +kernel
theorem dX11_judge_95 : decode cX11_judge 95 = .ok (.iload 12, 2) := by decide +kernel
theorem dX11_judge_97 : decode cX11_judge 97 = .ok (.ifCond .ge 40, 3) := by decide +kernel
theorem dX11_judge_100 : decode cX11_judge 100 = .ok (.iload_n 3, 1) := by decide +kernel
theorem dX11_judge_101 : decode cX11_judge 101 = .ok (.ifCond .le 36, 3) := by decide +kernel
theorem dX11_judge_104 : decode cX11_judge 104 = .ok (.iload 12, 2) := by decide +kernel
theorem dX11_judge_106 : decode cX11_judge 106 = .ok (.iload_n 2, 1) := by decide +kernel
theorem dX11_judge_107 : decode cX11_judge 107 = .ok (.isub, 1) := by decide +kernel
theorem dX11_judge_108 : decode cX11_judge 108 = .ok (.iload_n 3, 1) := by decide +kernel
theorem dX11_judge_109 : decode cX11_judge 109 = .ok (.invokestatic 317, 3) := by decide +kernel
theorem dX11_judge_112 : decode cX11_judge 112 = .ok (.ineg, 1) := by decide +kernel
theorem dX11_judge_113 : decode cX11_judge 113 = .ok (.istore 15, 2) := by decide +kernel
theorem dX11_judge_115 : decode cX11_judge 115 = .ok (.lload 6, 2) := by decide +kernel
theorem dX11_judge_117 : decode cX11_judge 117 = .ok (.lload 4, 2) := by decide +kernel
theorem dX11_judge_119 : decode cX11_judge 119 = .ok (.ladd, 1) := by decide +kernel
theorem dX11_judge_120 : decode cX11_judge 120 = .ok (.aload_n 0, 1) := by decide +kernel
theorem dX11_judge_121 : decode cX11_judge 121 = .ok (.getfield 51, 3) := by decide +kernel
theorem dX11_judge_124 : decode cX11_judge 124 = .ok (.iload 15, 2) := by decide +kernel
theorem dX11_judge_126 : decode cX11_judge 126 = .ok (.iconst 1, 1) := by decide +kernel
theorem dX11_judge_127 : decode cX11_judge 127 = .ok (.isub, 1) := by decide +kernel
theorem dX11_judge_128 : decode cX11_judge 128 = .ok (.invokevirtual 310, 3) := by decide +kernel
theorem dX11_judge_131 : decode cX11_judge 131 = .ok (.lsub, 1) := by decide +kernel
theorem dX11_judge_132 : decode cX11_judge 132 = .ok (.lstore 13, 2) := by decide +kernel
theorem dX11_judge_134 : decode cX11_judge 134 = .ok (.goto 36, 3) := by decide +kernel
theorem dX11_judge_137 : decode cX11_judge 137 = .ok (.iload 12, 2) := by decide +kernel
theorem dX11_judge_139 : decode cX11_judge 139 = .ok (.ifCond .le 31, 3) := by decide +kernel
theorem dX11_judge_142 : decode cX11_judge 142 = .ok (.iload_n 3, 1) := by decide +kernel
theorem dX11_judge_143 : decode cX11_judge 143 = .ok (.ifCond .le 27, 3) := by decide +kernel
theorem dX11_judge_146 : decode cX11_judge 146 = .ok (.iload_n 2, 1) := by decide +kernel
theorem dX11_judge_147 : decode cX11_judge 147 = .ok (.iload 12, 2) := by decide +kernel
theorem dX11_judge_149 : decode cX11_judge 149 = .ok (.isub, 1) := by decide +kernel
theorem dX11_judge_150 : decode cX11_judge 150 = .ok (.iload_n 3, 1) := by decide +kernel
theorem dX11_judge_151 : decode cX11_judge 151 = .ok (.invokestatic 317, 3) := by decide +kernel
theorem dX11_judge_154 : decode cX11_judge 154 = .ok (.istore 15, 2) := by decide +kernel
theorem dX11_judge_156 : decode cX11_judge 156 = .ok (.lload 10, 2) := by decide +kernel
theorem dX11_judge_158 : decode cX11_judge 158 = .ok (.aload_n 0, 1) := by decide +kernel
theorem dX11_judge_159 : decode cX11_judge 159 = .ok (.getfield 51, 3) := by decide +kernel
theorem dX11_judge_162 : decode cX11_judge 162 = .ok (.iload 15, 2) := by decide +kernel
theorem dX11_judge_164 : decode cX11_judge 164 = .ok (.invokevirtual 310, 3) := by decide +kernel
theorem dX11_judge_167 : decode cX11_judge 167 = .ok (.ladd, 1) := by decide +kernel
theorem dX11_judge_168 : decode cX11_judge 168 = .ok (.lstore 13, 2) := by decide +kernel
theorem dX11_judge_170 : decode cX11_judge 170 = .ok (.aload_n 0, 1) := by decide +kernel
theorem dX11_judge_171 : decode cX11_judge 171 = .ok (.getfield 58, 3) := by decide +kernel
theorem dX11_judge_174 : decode cX11_judge 174 = .ok (.iconst 0, 1) := by decide +kernel
theorem dX11_judge_175 : decode cX11_judge 175 = .ok (.invokevirtual 142, 3) := by decide +kernel
theorem dX11_judge_178 : decode cX11_judge 178 = .ok (.lload 13, 2) := by decide +kernel
theorem dX11_judge_180 : decode cX11_judge 180 = .ok (.lload 4, 2) := by decide +kernel
theorem dX11_judge_182 : decode cX11_judge 182 = .ok (.invokevirtual 313, 3) := by decide +kernel
theorem dX11_judge_185 : decode cX11_judge 185 = .ok (.return_, 1) := by decide +kernel
theorem dX11_shiftInPlace_0 : decode cX11_shiftInPlace 0 = .ok (.sipush (-2000), 3) := by decide +kernel
theorem dX11_shiftInPlace_3 : decode cX11_shiftInPlace 3 = .ok (.istore_n 2, 1) := by decide +kernel
theorem dX11_shiftInPlace_4 : decode cX11_shiftInPlace 4 = .ok (.sipush 2000, 3) := by decide +kernel
theorem dX11_shiftInPlace_7 : decode cX11_shiftInPlace 7 = .ok (.istore_n 3, 1) := by decide +kernel
theorem dX11_shiftInPlace_8 : decode cX11_shiftInPlace 8 = .ok (.iconst 0, 1) := by decide +kernel
theorem dX11_shiftInPlace_9 : decode cX11_shiftInPlace 9 = .ok (.istore 4, 2) := by decide +kernel
theorem dX11_shiftInPlace_11 : decode cX11_shiftInPlace 11 = .ok (.iload 4, 2) := by decide +kernel
theorem dX11_shiftInPlace_13 : decode cX11_shiftInPlace 13 = .ok (.bipush 12, 2) := by decide +kernel
theorem dX11_shiftInPlace_15 : decode cX11_shiftInPlace 15 = .ok (.if_icmp .ge 42, 3) := by decide +kernel
theorem dX11_shiftInPlace_18 : decode cX11_shiftInPlace 18 = .ok (.iload_n 2, 1) := by decide +kernel
theorem dX11_shiftInPlace_19 : decode cX11_shiftInPlace 19 = .ok (.iload_n 3, 1) := by decide +kernel
theorem dX11_shiftInPlace_20 : decode cX11_shiftInPlace 20 = .ok (.if_icmp .ge 37, 3) := by decide +kernel
theorem dX11_shiftInPlace_23 : decode cX11_shiftInPlace 23 = .ok (.iload_n 2, 1) := by decide +kernel
theorem dX11_shiftInPlace_24 : decode cX11_shiftInPlace 24 = .ok (.iload_n 3, 1) := by decide +kernel
theorem dX11_shiftInPlace_25 : decode cX11_shiftInPlace 25 = .ok (.iadd, 1) := by decide +kernel
theorem dX11_shiftInPlace_26 : decode cX11_shiftInPlace 26 = .ok (.iconst 1, 1) := by decide +kernel
theorem dX11_shiftInPlace_27 : decode cX11_shiftInPlace 27 = .ok (.ishr, 1) := by decide +kernel
theorem dX11_shiftInPlace_28 : decode cX11_shiftInPlace 28 = .ok (.istore 5, 2) := by decide +kernel
theorem dX11_shiftInPlace_30 : decode cX11_shiftInPlace 30 = .ok (.aload_n 0, 1) := by decide +kernel
theorem dX11_shiftInPlace_31 : decode cX11_shiftInPlace 31 = .ok (.iload 5, 2) := by decide +kernel
theorem dX11_shiftInPlace_33 : decode cX11_shiftInPlace 33 = .ok (.invokevirtual 320, 3) := by decide +kernel
theorem dX11_shiftInPlace_36 : decode cX11_shiftInPlace 36 = .ok (.iload_n 1, 1) := by decide +kernel
theorem dX11_shiftInPlace_37 : decode cX11_shiftInPlace 37 = .ok (.if_icmp .lt 9, 3) := by decide +kernel
theorem dX11_shiftInPlace_40 : decode cX11_shiftInPlace 40 = .ok (.iload 5, 2) := by decide +kernel
theorem dX11_shiftInPlace_42 : decode cX11_shiftInPlace 42 = .ok (.istore_n 3, 1) := by decide +kernel
theorem dX11_shiftInPlace_43 : decode cX11_shiftInPlace 43 = .ok (.goto 8, 3) := by decide +kernel
theorem dX11_shiftInPlace_46 : decode cX11_shiftInPlace 46 = .ok (.iload 5, 2) := by decide +kernel
theorem dX11_shiftInPlace_48 : decode cX11_shiftInPlace 48 = .ok (.iconst 1, 1) := by decide +kernel
theorem dX11_shiftInPlace_49 : decode cX11_shiftInPlace 49 = .ok (.iadd, 1) := by decide +kernel
theorem dX11_shiftInPlace_50 : decode cX11_shiftInPlace 50 = .ok (.istore_n 2, 1) := by decide +kernel
theorem dX11_shiftInPlace_51 : decode cX11_shiftInPlace 51 = .ok (.iinc 4 1, 3) := by decide +kernel
theorem dX11_shiftInPlace_54 : decode cX11_shiftInPlace 54 = .ok (.goto (-43), 3) := by decide +kernel
theorem dX11_shiftInPlace_57 : decode cX11_shiftInPlace 57 = .ok (.iload_n 2, 1) := by decide +kernel
theorem dX11_shiftInPlace_58 : decode cX11_shiftInPlace 58 = .ok (.ireturn, 1) := by decide +kernel
theorem dX11_countShiftsUpTo_0 : decode cX11_countShiftsUpTo 0 = .ok (.iconst 0, 1) := by decide +kernel
theorem dX11_countShiftsUpTo_1 : decode cX11_countShiftsUpTo 1 = .ok (.istore_n 2, 1) := by decide +kernel
theorem dX11_countShiftsUpTo_2 : decode cX11_countShiftsUpTo 2 = .ok (.iconst 0, 1) := by decide +kernel
theorem dX11_countShiftsUpTo_3 : decode cX11_countShiftsUpTo 3 = .ok (.istore_n 3, 1) := by decide +kernel
theorem dX11_countShiftsUpTo_4 : decode cX11_countShiftsUpTo 4 = .ok (.iload_n 3, 1) := by decide +kernel
theorem dX11_countShiftsUpTo_5 : decode cX11_countShiftsUpTo 5 = .ok (.aload_n 0, 1) := by decide +kernel
theorem dX11_countShiftsUpTo_6 : decode cX11_countShiftsUpTo 6 = .ok (.getfield 21, 3) := by decide +kernel
theorem dX11_countShiftsUpTo_9 : decode cX11_countShiftsUpTo 9 = .ok (.invokevirtual 169, 3) := by decide +kernel
theorem dX11_countShiftsUpTo_12 : decode cX11_countShiftsUpTo 12 = .ok (.if_icmp .ge 37, 3) := by decide +kernel
theorem dX11_countShiftsUpTo_15 : decode cX11_countShiftsUpTo 15 = .ok (.iload_n 2, 1) := by decide +kernel
theorem dX11_countShiftsUpTo_16 : decode cX11_countShiftsUpTo 16 = .ok (.aload_n 0, 1) := by decide +kernel
theorem dX11_countShiftsUpTo_17 : decode cX11_countShiftsUpTo 17 = .ok (.getfield 25, 3) := by decide +kernel
theorem dX11_countShiftsUpTo_20 : decode cX11_countShiftsUpTo 20 = .ok (.invokevirtual 169, 3) := by decide +kernel
theorem dX11_countShiftsUpTo_23 : decode cX11_countShiftsUpTo 23 = .ok (.aload_n 0, 1) := by decide +kernel
theorem dX11_countShiftsUpTo_24 : decode cX11_countShiftsUpTo 24 = .ok (.getfield 25, 3) := by decide +kernel
theorem dX11_countShiftsUpTo_27 : decode cX11_countShiftsUpTo 27 = .ok (.aload_n 0, 1) := by decide +kernel
theorem dX11_countShiftsUpTo_28 : decode cX11_countShiftsUpTo 28 = .ok (.getfield 21, 3) := by decide +kernel
theorem dX11_countShiftsUpTo_31 : decode cX11_countShiftsUpTo 31 = .ok (.iload_n 3, 1) := by decide +kernel
theorem dX11_countShiftsUpTo_32 : decode cX11_countShiftsUpTo 32 = .ok (.invokevirtual 189, 3) := by decide +kernel
theorem dX11_countShiftsUpTo_35 : decode cX11_countShiftsUpTo 35 = .ok (.iload_n 1, 1) := by decide +kernel
theorem dX11_countShiftsUpTo_36 : decode cX11_countShiftsUpTo 36 = .ok (.isub, 1) := by decide +kernel
theorem dX11_countShiftsUpTo_37 : decode cX11_countShiftsUpTo 37 = .ok (.invokevirtual 300, 3) := by decide +kernel
theorem dX11_countShiftsUpTo_40 : decode cX11_countShiftsUpTo 40 = .ok (.isub, 1) := by decide +kernel
theorem dX11_countShiftsUpTo_41 : decode cX11_countShiftsUpTo 41 = .ok (.iadd, 1) := by decide +kernel
theorem dX11_countShiftsUpTo_42 : decode cX11_countShiftsUpTo 42 = .ok (.istore_n 2, 1) := by decide +kernel
theorem dX11_countShiftsUpTo_43 : decode cX11_countShiftsUpTo 43 = .ok (.iinc 3 1, 3) := by decide +kernel
theorem dX11_countShiftsUpTo_46 : decode cX11_countShiftsUpTo 46 = .ok (.goto (-42), 3) := by decide +kernel
theorem dX11_countShiftsUpTo_49 : decode cX11_countShiftsUpTo 49 = .ok (.iload_n 2, 1) := by decide +kernel
theorem dX11_countShiftsUpTo_50 : decode cX11_countShiftsUpTo 50 = .ok (.ireturn, 1) := by decide +kernel
