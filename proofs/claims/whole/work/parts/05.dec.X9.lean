theorem dX9_init_0 : decode cX9_init 0 = .ok (.aload_n 0, 1) := by decide +kernel
theorem dX9_init_1 : decode cX9_init 1 = .ok (.invokespecial 3, 3) := by decide +kernel
theorem dX9_init_4 : decode cX9_init 4 = .ok (.aload_n 0, 1) := by decide +kernel
theorem dX9_init_5 : decode cX9_init 5 = .ok (.sipush 1891, 3) := by decide +kernel
theorem dX9_init_8 : decode cX9_init 8 = .ok (.newarray .long, 2) := by decide +kernel
theorem dX9_init_10 : decode cX9_init 10 = .ok (.putfield 9, 3) := by decide +kernel
theorem dX9_init_13 : decode cX9_init 13 = .ok (.aload_n 0, 1) := by decide +kernel
theorem dX9_init_14 : decode cX9_init 14 = .ok (.iconst 5, 1) := by decide +kernel
theorem dX9_init_15 : decode cX9_init 15 = .ok (.newarray .int, 2) := by decide +kernel
theorem dX9_init_17 : decode cX9_init 17 = .ok (.putfield 15, 3) := by decide +kernel
theorem dX9_init_20 : decode cX9_init 20 = .ok (.aload_n 0, 1) := by decide +kernel
theorem dX9_init_21 : decode cX9_init 21 = .ok (.iconst 5, 1) := by decide +kernel
theorem dX9_init_22 : decode cX9_init 22 = .ok (.newarray .int, 2) := by decide +kernel
theorem dX9_init_24 : decode cX9_init 24 = .ok (.putfield 19, 3) := by decide +kernel
theorem dX9_init_27 : decode cX9_init 27 = .ok (.aload_n 0, 1) := by decide +kernel
theorem dX9_init_28 : decode cX9_init 28 = .ok (.bipush 25, 2) := by decide +kernel
theorem dX9_init_30 : decode cX9_init 30 = .ok (.newarray .int, 2) := by decide +kernel
theorem dX9_init_32 : decode cX9_init 32 = .ok (.putfield 22, 3) := by decide +kernel
theorem dX9_init_35 : decode cX9_init 35 = .ok (.aload_n 0, 1) := by decide +kernel
theorem dX9_init_36 : decode cX9_init 36 = .ok (.bipush 26, 2) := by decide +kernel
theorem dX9_init_38 : decode cX9_init 38 = .ok (.anewarray 25, 3) := by decide +kernel
theorem dX9_init_41 : decode cX9_init 41 = .ok (.putfield 27, 3) := by decide +kernel
theorem dX9_init_44 : decode cX9_init 44 = .ok (.aload_n 0, 1) := by decide +kernel
theorem dX9_init_45 : decode cX9_init 45 = .ok (.new 25, 3) := by decide +kernel
theorem dX9_init_48 : decode cX9_init 48 = .ok (.dup, 1) := by decide +kernel
theorem dX9_init_49 : decode cX9_init 49 = .ok (.invokespecial 31, 3) := by decide +kernel
theorem dX9_init_52 : decode cX9_init 52 = .ok (.putfield 32, 3) := by decide +kernel
theorem dX9_init_55 : decode cX9_init 55 = .ok (.aload_n 0, 1) := by decide +kernel
theorem dX9_init_56 : decode cX9_init 56 = .ok (.new 25, 3) := by decide +kernel
theorem dX9_init_59 : decode cX9_init 59 = .ok (.dup, 1) := by decide +kernel
theorem dX9_init_60 : decode cX9_init 60 = .ok (.invokespecial 31, 3) := by decide +kernel
theorem dX9_init_63 : decode cX9_init 63 = .ok (.putfield 36, 3) := by decide +kernel
theorem dX9_init_66 : decode cX9_init 66 = .ok (.aload_n 0, 1) := by decide +kernel
theorem dX9_init_67 : decode cX9_init 67 = .ok (.new 25, 3) := by decide +kernel
theorem dX9_init_70 : decode cX9_init 70 = .ok (.dup, 1) := by decide +kernel
theorem dX9_init_71 : decode cX9_init 71 = .ok (.invokespecial 31, 3) := by decide +kernel
theorem dX9_init_74 : decode cX9_init 74 = .ok (.putfield 39, 3) := by decide +kernel
theorem dX9_init_77 : decode cX9_init 77 = .ok (.aload_n 0, 1) := by decide +kernel
theorem dX9_init_78 : decode cX9_init 78 = .ok (.new 25, 3) := by decide +kernel
theorem dX9_init_81 : decode cX9_init 81 = .ok (.dup, 1) := by decide +kernel
theorem dX9_init_82 : decode cX9_init 82 = .ok (.invokespecial 31, 3) := by decide +kernel
theorem dX9_init_85 : decode cX9_init 85 = .ok (.putfield 42, 3) := by decide +kernel
theorem dX9_init_88 : decode cX9_init 88 = .ok (.aload_n 0, 1) := by decide +kernel
theorem dX9_init_89 : decode cX9_init 89 = .ok (.new 25, 3) := by decide +kernel
theorem dX9_init_92 : decode cX9_init 92 = .ok (.dup, 1) := by decide +kernel
theorem dX9_init_93 : decode cX9_init 93 = .ok (.invokespecial 31, 3) := by decide +kernel
theorem dX9_init_96 : decode cX9_init 96 = .ok (.putfield 45, 3) := by decide +kernel
theorem dX9_init_99 : decode cX9_init 99 = .ok (.iconst 0, 1) := by decide +kernel
theorem dX9_init_100 : decode cX9_init 100 = .ok (.istore_n 1, 1) := by decide +kernel
theorem dX9_init_101 : decode cX9_init 101 = .ok (.iload_n 1, 1) := by decide +kernel
theorem dX9_init_102 : decode cX9_init 102 = .ok (.bipush 25, 2) := by decide +kernel
theorem dX9_init_104 : decode cX9_init 104 = .ok (.if_icmp .gt 22, 3) := by decide +kernel
theorem dX9_init_107 : decode cX9_init 107 = .ok (.aload_n 0, 1) := by decide +kernel
theorem dX9_init_108 : decode cX9_init 108 = .ok (.getfield 27, 3) := by decide +kernel
theorem dX9_init_111 : decode cX9_init 111 = .ok (.iload_n 1, 1) := by decide +kernel
theorem dX9_init_112 : decode cX9_init 112 = .ok (.new 25, 3) := by decide +kernel
theorem dX9_init_115 : decode cX9_init 115 = .ok (.dup, 1) := by decide +kernel
theorem dX9_init_116 : decode cX9_init 116 = .ok (.invokespecial 31, 3) := by decide +kernel
theorem dX9_init_119 : decode cX9_init 119 = .ok (.aastore, 1) := by decide +kernel
theorem dX9_init_120 : decode cX9_init 120 = .ok (.iinc 1 1, 3) := by decide +kernel
theorem dX9_init_123 : decode cX9_init 123 = .ok (.goto (-22), 3) := by decide +kernel
theorem dX9_init_126 : decode cX9_init 126 = .ok (.iconst 0, 1) := by decide +kernel
theorem dX9_init_127 : decode cX9_init 127 = .ok (.istore_n 1, 1) := by decide +kernel
theorem dX9_init_128 : decode cX9_init 128 = .ok (.iconst 0, 1) := by decide +kernel
theorem dX9_init_129 : decode cX9_init 129 = .ok (.istore_n 2, 1) := by decide +kernel
theorem dX9_init_130 : decode cX9_init 130 = .ok (.iload_n 2, 1) := by decide +kernel
theorem dX9_init_131 : decode cX9_init 131 = .ok (.bipush 60, 2) := by decide +kernel
theorem dX9_init_133 : decode cX9_init 133 = .ok (.if_icmp .gt 75, 3) := by decide +kernel
theorem dX9_init_136 : decode cX9_init 136 = .ok (.iconst 0, 1) := by decide +kernel
theorem dX9_init_137 : decode cX9_init 137 = .ok (.istore_n 3, 1) := by decide +kernel
theorem dX9_init_138 : decode cX9_init 138 = .ok (.iload_n 3, 1) := by decide +kernel
theorem dX9_init_139 : decode cX9_init 139 = .ok (.iload_n 2, 1) := by decide +kernel
theorem dX9_init_140 : decode cX9_init 140 = .ok (.if_icmp .gt 62, 3) := by decide +kernel
theorem dX9_init_143 : decode cX9_init 143 = .ok (.iload_n 3, 1) := by decide +kernel
theorem dX9_init_144 : decode cX9_init 144 = .ok (.ifCond .eq 8, 3) := by decide +kernel
theorem dX9_init_147 : decode cX9_init 147 = .ok (.iload_n 3, 1) := by decide +kernel
theorem dX9_init_148 : decode cX9_init 148 = .ok (.iload_n 2, 1) := by decide +kernel
theorem dX9_init_149 : decode cX9_init 149 = .ok (.if_icmp .ne 7, 3) := by decide +kernel
theorem dX9_init_152 : decode cX9_init 152 = .ok (.iconst 1, 1) := by decide +kernel
theorem dX9_init_153 : decode cX9_init 153 = .ok (.goto 4, 3) := by decide +kernel
theorem dX9_init_156 : decode cX9_init 156 = .ok (.iconst 0, 1) := by decide +kernel
theorem dX9_init_157 : decode cX9_init 157 = .ok (.istore 4, 2) := by decide +kernel
theorem dX9_init_159 : decode cX9_init 159 = .ok (.aload_n 0, 1) := by decide +kernel
theorem dX9_init_160 : decode cX9_init 160 = .ok (.getfield 9, 3) := by decide +kernel
theorem dX9_init_163 : decode cX9_init 163 = .ok (.iload_n 1, 1) := by decide +kernel
theorem dX9_init_164 : decode cX9_init 164 = .ok (.iload 4, 2) := by decide +kernel
theorem dX9_init_166 : decode cX9_init 166 = .ok (.ifCond .eq 7, 3) := by decide +kernel
theorem dX9_init_169 : decode cX9_init 169 = .ok (.lconst 1, 1) := by decide +kernel
theorem dX9_init_170 : decode cX9_init 170 = .ok (.goto 22, 3) := by decide +kernel
theorem dX9_init_173 : decode cX9_init 173 = .ok (.aload_n 0, 1) := by decide +kernel
theorem dX9_init_174 : decode cX9_init 174 = .ok (.getfield 9, 3) := by decide +kernel
theorem dX9_init_177 : decode cX9_init 177 = .ok (.iload_n 1, 1) := by decide +kernel
theorem dX9_init_178 : decode cX9_init 178 = .ok (.iload_n 2, 1) := by decide +kernel
theorem dX9_init_179 : decode cX9_init 179 = .ok (.isub, 1) := by decide +kernel
theorem dX9_init_180 : decode cX9_init 180 = .ok (.iconst 1, 1) := by decide +kernel
theorem dX9_init_181 : decode cX9_init 181 = .ok (.isub, 1) := by decide +kernel
theorem dX9_init_182 : decode cX9_init 182 = .ok (.laload, 1) := by decide +kernel
theorem dX9_init_183 : decode cX9_init 183 = .ok (.aload_n 0, 1) := by decide +kernel
theorem dX9_init_184 : decode cX9_init 184 = .ok (.getfield 9, 3) := by decide +kernel
theorem dX9_init_187 : decode cX9_init 187 = .ok (.iload_n 1, 1) := by decide +kernel
theorem dX9_init_188 : decode cX9_init 188 = .ok (.iload_n 2, 1) := by decide +kernel
theorem dX9_init_189 : decode cX9_init 189 = .ok (.isub, 1) := by decide +kernel
theorem dX9_init_190 : decode cX9_init 190 = .ok (.laload, 1) := by decide +kernel
theorem dX9_init_191 : decode cX9_init 191 = .ok (.ladd, 1) := by decide +kernel
theorem dX9_init_192 : decode cX9_init 192 = .ok (.lastore, 1) := by decide +kernel
theorem dX9_init_193 : decode cX9_init 193 = .ok (.iinc 1 1, 3) := by decide +kernel
theorem dX9_init_196 : decode cX9_init 196 = .ok (.iinc 3 1, 3) := by decide +kernel
theorem dX9_init_199 : decode cX9_init 199 = .ok (.goto (-61), 3) := by decide +kernel
theorem dX9_init_202 : decode cX9_init 202 = .ok (.iinc 2 1, 3) := by decide +kernel
theorem dX9_init_205 : decode cX9_init 205 = .ok (.goto (-75), 3) := by decide +kernel
theorem dX9_init_208 : decode cX9_init 208 = .ok (.return_, 1) := by decide +kernel
theorem dX9_choose_0 : decode cX9_choose 0 = .ok (.iload_n 2, 1) := by decide +kernel
theorem dX9_choose_1 : decode cX9_choose 1 = .ok (.ifCond .lt 31, 3) := by decide +kernel
theorem dX9_choose_4 : decode cX9_choose 4 = .ok (.iload_n 2, 1) := by decide +kernel
theorem dX9_choose_5 : decode cX9_choose 5 = .ok (.iload_n 1, 1) := by decide +kernel
theorem dX9_choose_6 : decode cX9_choose 6 = .ok (.if_icmp .gt 26, 3) := by decide +kernel
theorem dX9_choose_9 : decode cX9_choose 9 = .ok (.iload_n 1, 1) := by decide +kernel
theorem dX9_choose_10 : decode cX9_choose 10 = .ok (.bipush 60, 2) := by decide +kernel
theorem dX9_choose_12 : decode cX9_choose 12 = .ok (.if_icmp .gt 20, 3) := by decide +kernel
theorem dX9_choose_15 : decode cX9_choose 15 = .ok (.aload_n 0, 1) := by decide +kernel
theorem dX9_choose_16 : decode cX9_choose 16 = .ok (.getfield 9, 3) := by decide +kernel
theorem dX9_choose_19 : decode cX9_choose 19 = .ok (.iload_n 1, 1) := by decide +kernel
theorem dX9_choose_20 : decode cX9_choose 20 = .ok (.iload_n 1, 1) := by decide +kernel
theorem dX9_choose_21 : decode cX9_choose 21 = .ok (.iconst 1, 1) := by decide +kernel
theorem dX9_choose_22 : decode cX9_choose 22 = .ok (.iadd, 1) := by decide +kernel
theorem dX9_choose_23 : decode cX9_choose 23 = .ok (.imul, 1) := by decide +kernel
theorem dX9_choose_24 : decode cX9_choose 24 = .ok (.iconst 2, 1) := by decide +kernel
theorem dX9_choose_25 : decode cX9_choose 25 = .ok (.idiv, 1) := by decide +kernel
theorem dX9_choose_26 : decode cX9_choose 26 = .ok (.iload_n 2, 1) := by decide +kernel
theorem dX9_choose_27 : decode cX9_choose 27 = .ok (.iadd, 1) := by decide +kernel
theorem dX9_choose_28 : decode cX9_choose 28 = .ok (.laload, 1) := by decide +kernel
theorem dX9_choose_29 : decode cX9_choose 29 = .ok (.goto 4, 3) := by decide +kernel
theorem dX9_choose_32 : decode cX9_choose 32 = .ok (.lconst 0, 1) := by decide +kernel
theorem dX9_choose_33 : decode cX9_choose 33 = .ok (.lreturn, 1) := by decide +kernel
theorem dX9_countCases_0 : decode cX9_countCases 0 = .ok (.aload_n 0, 1) := by decide +kernel
theorem dX9_countCases_1 : decode cX9_countCases 1 = .ok (.aload_n 1, 1) := by decide +kernel
theorem dX9_countCases_2 : decode cX9_countCases 2 = .ok (.invokevirtual 48, 3) := by decide +kernel
theorem dX9_countCases_5 : decode cX9_countCases 5 = .ok (.aload_n 0, 1) := by decide +kernel
theorem dX9_countCases_6 : decode cX9_countCases 6 = .ok (.iconst 0, 1) := by decide +kernel
theorem dX9_countCases_7 : decode cX9_countCases 7 = .ok (.putfield 52, 3) := by decide +kernel
theorem dX9_countCases_10 : decode cX9_countCases 10 = .ok (.aload_n 0, 1) := by decide +kernel
theorem dX9_countCases_11 : decode cX9_countCases 11 = .ok (.iconst 0, 1) := by decide +kernel
theorem dX9_countCases_12 : decode cX9_countCases 12 = .ok (.invokevirtual 56, 3) := by decide +kernel
theorem dX9_countCases_15 : decode cX9_countCases 15 = .ok (.aload_n 0, 1) := by decide +kernel
theorem dX9_countCases_16 : decode cX9_countCases 16 = .ok (.getfield 52, 3) := by decide +kernel
theorem dX9_countCases_19 : decode cX9_countCases 19 = .ok (.ireturn, 1) := by decide +kernel
theorem dX9_weighCases_0 : decode cX9_weighCases 0 = .ok (.aload_n 0, 1) := by decide +kernel
theorem dX9_weighCases_1 : decode cX9_weighCases 1 = .ok (.aload_n 1, 1) := by decide +kernel
theorem dX9_weighCases_2 : decode cX9_weighCases 2 = .ok (.invokevirtual 48, 3) := by decide +kernel
theorem dX9_weighCases_5 : decode cX9_weighCases 5 = .ok (.aload_n 0, 1) := by decide +kernel
theorem dX9_weighCases_6 : decode cX9_weighCases 6 = .ok (.aload_n 1, 1) := by decide +kernel
theorem dX9_weighCases_7 : decode cX9_weighCases 7 = .ok (.invokevirtual 60, 3) := by decide +kernel
theorem dX9_weighCases_10 : decode cX9_weighCases 10 = .ok (.invokevirtual 66, 3) := by decide +kernel
theorem dX9_weighCases_13 : decode cX9_weighCases 13 = .ok (.aload_n 0, 1) := by decide +kernel
theorem dX9_weighCases_14 : decode cX9_weighCases 14 = .ok (.aload_n 1, 1) := by decide +kernel
theorem dX9_weighCases_15 : decode cX9_weighCases 15 = .ok (.invokevirtual 69, 3) := by decide +kernel
theorem dX9_weighCases_18 : decode cX9_weighCases 18 = .ok (.aload_n 0, 1) := by decide +kernel
theorem dX9_weighCases_19 : decode cX9_weighCases 19 = .ok (.aload_n 1, 1) := by decide +kernel
theorem dX9_weighCases_20 : decode cX9_weighCases 20 = .ok (.invokevirtual 48, 3) := by decide +kernel
theorem dX9_weighCases_23 : decode cX9_weighCases 23 = .ok (.aload_n 0, 1) := by decide +kernel
theorem dX9_weighCases_24 : decode cX9_weighCases 24 = .ok (.getfield 39, 3) := by decide +kernel
theorem dX9_weighCases_27 : decode cX9_weighCases 27 = .ok (.lconst 0, 1) := by decide +kernel
theorem dX9_weighCases_28 : decode cX9_weighCases 28 = .ok (.invokevirtual 72, 3) := by decide +kernel
theorem dX9_weighCases_31 : decode cX9_weighCases 31 = .ok (.aload_n 0, 1) := by decide +kernel
theorem dX9_weighCases_32 : decode cX9_weighCases 32 = .ok (.getfield 42, 3) := by decide +kernel
theorem dX9_weighCases_35 : decode cX9_weighCases 35 = .ok (.lconst 0, 1) := by decide +kernel
theorem dX9_weighCases_36 : decode cX9_weighCases 36 = .ok (.invokevirtual 72, 3) := by decide +kernel
theorem dX9_weighCases_39 : decode cX9_weighCases 39 = .ok (.aload_n 0, 1) := by decide +kernel
theorem dX9_weighCases_40 : decode cX9_weighCases 40 = .ok (.getfield 45, 3) := by decide +kernel
theorem dX9_weighCases_43 : decode cX9_weighCases 43 = .ok (.lconst 0, 1) := by decide +kernel
theorem dX9_weighCases_44 : decode cX9_weighCases 44 = .ok (.invokevirtual 72, 3) := by decide +kernel
theorem dX9_weighCases_47 : decode cX9_weighCases 47 = .ok (.aload_n 0, 1) := by decide +kernel
theorem dX9_weighCases_48 : decode cX9_weighCases 48 = .ok (.getfield 27, 3) := by decide +kernel
theorem dX9_weighCases_51 : decode cX9_weighCases 51 = .ok (.iconst 0, 1) := by decide +kernel
theorem dX9_weighCases_52 : decode cX9_weighCases 52 = .ok (.aaload, 1) := by decide +kernel
theorem dX9_weighCases_53 : decode cX9_weighCases 53 = .ok (.lconst 1, 1) := by decide +kernel
theorem dX9_weighCases_54 : decode cX9_weighCases 54 = .ok (.invokevirtual 72, 3) := by decide +kernel
theorem dX9_weighCases_57 : decode cX9_weighCases 57 = .ok (.aload_n 0, 1) := by decide +kernel
theorem dX9_weighCases_58 : decode cX9_weighCases 58 = .ok (.aload_n 2, 1) := by decide +kernel
theorem dX9_weighCases_59 : decode cX9_weighCases 59 = .ok (.putfield 76, 3) := by decide +kernel
theorem dX9_weighCases_62 : decode cX9_weighCases 62 = .ok (.aload_n 0, 1) := by decide +kernel
theorem dX9_weighCases_63 : decode cX9_weighCases 63 = .ok (.iconst 0, 1) := by decide +kernel
theorem dX9_weighCases_64 : decode cX9_weighCases 64 = .ok (.invokevirtual 80, 3) := by decide +kernel
theorem dX9_weighCases_67 : decode cX9_weighCases 67 = .ok (.return_, 1) := by decide +kernel
theorem dX9_begin_0 : decode cX9_begin 0 = .ok (.aload_n 0, 1) := by decide +kernel
theorem dX9_begin_1 : decode cX9_begin 1 = .ok (.aload_n 1, 1) := by decide +kernel
theorem dX9_begin_2 : decode cX9_begin 2 = .ok (.invokevirtual 83, 3) := by decide +kernel
theorem dX9_begin_5 : decode cX9_begin 5 = .ok (.iconst 5, 1) := by decide +kernel
theorem dX9_begin_6 : decode cX9_begin 6 = .ok (.invokestatic 86, 3) := by decide +kernel
theorem dX9_begin_9 : decode cX9_begin 9 = .ok (.putfield 92, 3) := by decide +kernel
theorem dX9_begin_12 : decode cX9_begin 12 = .ok (.aload_n 0, 1) := by decide +kernel
theorem dX9_begin_13 : decode cX9_begin 13 = .ok (.aload_n 1, 1) := by decide +kernel
theorem dX9_begin_14 : decode cX9_begin 14 = .ok (.invokevirtual 94, 3) := by decide +kernel
theorem dX9_begin_17 : decode cX9_begin 17 = .ok (.iconst 5, 1) := by decide +kernel
theorem dX9_begin_18 : decode cX9_begin 18 = .ok (.invokestatic 86, 3) := by decide +kernel
theorem dX9_begin_21 : decode cX9_begin 21 = .ok (.putfield 97, 3) := by decide +kernel
theorem dX9_begin_24 : decode cX9_begin 24 = .ok (.aload_n 0, 1) := by decide +kernel
theorem dX9_begin_25 : decode cX9_begin 25 = .ok (.aload_n 1, 1) := by decide +kernel
theorem dX9_begin_26 : decode cX9_begin 26 = .ok (.iconst 0, 1) := by decide +kernel
theorem dX9_begin_27 : decode cX9_begin 27 = .ok (.iconst 0, 1) := by decide +kernel
theorem dX9_begin_28 : decode cX9_begin 28 = .ok (.invokevirtual 99, 3) := by decide +kernel
theorem dX9_begin_31 : decode cX9_begin 31 = .ok (.putfield 102, 3) := by decide +kernel
theorem dX9_begin_34 : decode cX9_begin 34 = .ok (.iconst 0, 1) := by decide +kernel
theorem dX9_begin_35 : decode cX9_begin 35 = .ok (.istore_n 2, 1) := by decide +kernel
theorem dX9_begin_36 : decode cX9_begin 36 = .ok (.iload_n 2, 1) := by decide +kernel
theorem dX9_begin_37 : decode cX9_begin 37 = .ok (.aload_n 0, 1) := by decide +kernel
theorem dX9_begin_38 : decode cX9_begin 38 = .ok (.getfield 92, 3) := by decide +kernel
theorem dX9_begin_41 : decode cX9_begin 41 = .ok (.if_icmp .ge 20, 3) := by decide +kernel
theorem dX9_begin_44 : decode cX9_begin 44 = .ok (.aload_n 0, 1) := by decide +kernel
theorem dX9_begin_45 : decode cX9_begin 45 = .ok (.getfield 15, 3) := by decide +kernel
theorem dX9_begin_48 : decode cX9_begin 48 = .ok (.iload_n 2, 1) := by decide +kernel
theorem dX9_begin_49 : decode cX9_begin 49 = .ok (.aload_n 1, 1) := by decide +kernel
theorem dX9_begin_50 : decode cX9_begin 50 = .ok (.iload_n 2, 1) := by decide +kernel
theorem dX9_begin_51 : decode cX9_begin 51 = .ok (.invokevirtual 105, 3) := by decide +kernel
theorem dX9_begin_54 : decode cX9_begin 54 = .ok (.iastore, 1) := by decide +kernel
theorem dX9_begin_55 : decode cX9_begin 55 = .ok (.iinc 2 1, 3) := by decide +kernel
theorem dX9_begin_58 : decode cX9_begin 58 = .ok (.goto (-22), 3) := by decide +kernel
theorem dX9_begin_61 : decode cX9_begin 61 = .ok (.iconst 0, 1) := by decide +kernel
theorem dX9_begin_62 : decode cX9_begin 62 = .ok (.istore_n 2, 1) := by decide +kernel
theorem dX9_begin_63 : decode cX9_begin 63 = .ok (.iload_n 2, 1) := by decide +kernel
theorem dX9_begin_64 : decode cX9_begin 64 = .ok (.aload_n 0, 1) := by decide +kernel
theorem dX9_begin_65 : decode cX9_begin 65 = .ok (.getfield 97, 3) := by decide +kernel
theorem dX9_begin_68 : decode cX9_begin 68 = .ok (.if_icmp .ge 20, 3) := by decide +kernel
theorem dX9_begin_71 : decode cX9_begin 71 = .ok (.aload_n 0, 1) := by decide +kernel
theorem dX9_begin_72 : decode cX9_begin 72 = .ok (.getfield 19, 3) := by decide +kernel
theorem dX9_begin_75 : decode cX9_begin 75 = .ok (.iload_n 2, 1) := by decide +kernel
theorem dX9_begin_76 : decode cX9_begin 76 = .ok (.aload_n 1, 1) := by decide +kernel
theorem dX9_begin_77 : decode cX9_begin 77 = .ok (.iload_n 2, 1) := by decide +kernel
theorem dX9_begin_78 : decode cX9_begin 78 = .ok (.invokevirtual 109, 3) := by decide +kernel
theorem dX9_begin_81 : decode cX9_begin 81 = .ok (.iastore, 1) := by decide +kernel
theorem dX9_begin_82 : decode cX9_begin 82 = .ok (.iinc 2 1, 3) := by decide +kernel
theorem dX9_begin_85 : decode cX9_begin 85 = .ok (.goto (-22), 3) := by decide +kernel
theorem dX9_begin_88 : decode cX9_begin 88 = .ok (.return_, 1) := by decide +kernel
theorem dX9_weighAll_0 : decode cX9_weighAll 0 = .ok (.iload_n 1, 1) := by decide +kernel
theorem dX9_weighAll_1 : decode cX9_weighAll 1 = .ok (.istore_n 2, 1) := by decide +kernel
theorem dX9_weighAll_2 : decode cX9_weighAll 2 = .ok (.aload_n 0, 1) := by decide +kernel
theorem dX9_weighAll_3 : decode cX9_weighAll 3 = .ok (.getfield 32, 3) := by decide +kernel
theorem dX9_weighAll_6 : decode cX9_weighAll 6 = .ok (.lconst 1, 1) := by decide +kernel
theorem dX9_weighAll_7 : decode cX9_weighAll 7 = .ok (.invokevirtual 72, 3) := by decide +kernel
theorem dX9_weighAll_10 : decode cX9_weighAll 10 = .ok (.iconst 0, 1) := by decide +kernel
theorem dX9_weighAll_11 : decode cX9_weighAll 11 = .ok (.istore_n 3, 1) := by decide +kernel
theorem dX9_weighAll_12 : decode cX9_weighAll 12 = .ok (.iload_n 3, 1) := by decide +kernel
theorem dX9_weighAll_13 : decode cX9_weighAll 13 = .ok (.aload_n 0, 1) := by decide +kernel
theorem dX9_weighAll_14 : decode cX9_weighAll 14 = .ok (.getfield 92, 3) := by decide +kernel
theorem dX9_weighAll_17 : decode cX9_weighAll 17 = .ok (.if_icmp .ge 55, 3) := by decide +kernel
theorem dX9_weighAll_20 : decode cX9_weighAll 20 = .ok (.aload_n 0, 1) := by decide +kernel
theorem dX9_weighAll_21 : decode cX9_weighAll 21 = .ok (.getfield 27, 3) := by decide +kernel
theorem dX9_weighAll_24 : decode cX9_weighAll 24 = .ok (.iconst 0, 1) := by decide +kernel
theorem dX9_weighAll_25 : decode cX9_weighAll 25 = .ok (.aaload, 1) := by decide +kernel
theorem dX9_weighAll_26 : decode cX9_weighAll 26 = .ok (.aload_n 0, 1) := by decide +kernel
theorem dX9_weighAll_27 : decode cX9_weighAll 27 = .ok (.getfield 32, 3) := by decide +kernel
theorem dX9_weighAll_30 : decode cX9_weighAll 30 = .ok (.invokevirtual 112, 3) := by decide +kernel
theorem dX9_weighAll_33 : decode cX9_weighAll 33 = .ok (.aload_n 0, 1) := by decide +kernel
theorem dX9_weighAll_34 : decode cX9_weighAll 34 = .ok (.getfield 32, 3) := by decide +kernel
theorem dX9_weighAll_37 : decode cX9_weighAll 37 = .ok (.aload_n 0, 1) := by decide +kernel
theorem dX9_weighAll_38 : decode cX9_weighAll 38 = .ok (.getfield 27, 3) := by decide +kernel
theorem dX9_weighAll_41 : decode cX9_weighAll 41 = .ok (.iconst 0, 1) := by decide +kernel
theorem dX9_weighAll_42 : decode cX9_weighAll 42 = .ok (.aaload, 1) := by decide +kernel
theorem dX9_weighAll_43 : decode cX9_weighAll 43 = .ok (.aload_n 0, 1) := by decide +kernel
theorem dX9_weighAll_44 : decode cX9_weighAll 44 = .ok (.iload_n 2, 1) := by decide +kernel
theorem dX9_weighAll_45 : decode cX9_weighAll 45 = .ok (.aload_n 0, 1) := by decide +kernel
theorem dX9_weighAll_46 : decode cX9_weighAll 46 = .ok (.getfield 15, 3) := by decide +kernel
theorem dX9_weighAll_49 : decode cX9_weighAll 49 = .ok (.iload_n 3, 1) := by decide +kernel
theorem dX9_weighAll_50 : decode cX9_weighAll 50 = .ok (.iaload, 1) := by decide +kernel
theorem dX9_weighAll_51 : decode cX9_weighAll 51 = .ok (.invokevirtual 116, 3) := by decide +kernel
theorem dX9_weighAll_54 : decode cX9_weighAll 54 = .ok (.invokevirtual 120, 3) := by decide +kernel
theorem dX9_weighAll_57 : decode cX9_weighAll 57 = .ok (.iload_n 2, 1) := by decide +kernel
theorem dX9_weighAll_58 : decode cX9_weighAll 58 = .ok (.aload_n 0, 1) := by decide +kernel
theorem dX9_weighAll_59 : decode cX9_weighAll 59 = .ok (.getfield 15, 3) := by decide +kernel
theorem dX9_weighAll_62 : decode cX9_weighAll 62 = .ok (.iload_n 3, 1) := by decide +kernel
theorem dX9_weighAll_63 : decode cX9_weighAll 63 = .ok (.iaload, 1) := by decide +kernel
theorem dX9_weighAll_64 : decode cX9_weighAll 64 = .ok (.isub, 1) := by decide +kernel
theorem dX9_weighAll_65 : decode cX9_weighAll 65 = .ok (.istore_n 2, 1) := by decide +kernel
theorem dX9_weighAll_66 : decode cX9_weighAll 66 = .ok (.iinc 3 1, 3) := by decide +kernel
theorem dX9_weighAll_69 : decode cX9_weighAll 69 = .ok (.goto (-57), 3) := by decide +kernel
theorem dX9_weighAll_72 : decode cX9_weighAll 72 = .ok (.return_, 1) := by decide +kernel
theorem dX9_weighSeen_0 : decode cX9_weighSeen 0 = .ok (.aload_n 0, 1) := by decide +kernel
theorem dX9_weighSeen_1 : decode cX9_weighSeen 1 = .ok (.getfield 36, 3) := by decide +kernel
theorem dX9_weighSeen_4 : decode cX9_weighSeen 4 = .ok (.lconst 1, 1) := by decide +kernel
theorem dX9_weighSeen_5 : decode cX9_weighSeen 5 = .ok (.invokevirtual 72, 3) := by decide +kernel
theorem dX9_weighSeen_8 : decode cX9_weighSeen 8 = .ok (.iconst 0, 1) := by decide +kernel
theorem dX9_weighSeen_9 : decode cX9_weighSeen 9 = .ok (.istore_n 2, 1) := by decide +kernel
theorem dX9_weighSeen_10 : decode cX9_weighSeen 10 = .ok (.iload_n 2, 1) := by decide +kernel
theorem dX9_weighSeen_11 : decode cX9_weighSeen 11 = .ok (.aload_n 0, 1) := by decide +kernel
theorem dX9_weighSeen_12 : decode cX9_weighSeen 12 = .ok (.getfield 92, 3) := by decide +kernel
theorem dX9_weighSeen_15 : decode cX9_weighSeen 15 = .ok (.if_icmp .ge 82, 3) := by decide +kernel
theorem dX9_weighSeen_18 : decode cX9_weighSeen 18 = .ok (.iconst 0, 1) := by decide +kernel
theorem dX9_weighSeen_19 : decode cX9_weighSeen 19 = .ok (.istore_n 3, 1) := by decide +kernel
theorem dX9_weighSeen_20 : decode cX9_weighSeen 20 = .ok (.iload_n 3, 1) := by decide +kernel
theorem dX9_weighSeen_21 : decode cX9_weighSeen 21 = .ok (.aload_n 0, 1) := by decide +kernel
theorem dX9_weighSeen_22 : decode cX9_weighSeen 22 = .ok (.getfield 97, 3) := by decide +kernel
theorem dX9_weighSeen_25 : decode cX9_weighSeen 25 = .ok (.if_icmp .ge 66, 3) := by decide +kernel
theorem dX9_weighSeen_28 : decode cX9_weighSeen 28 = .ok (.aload_n 1, 1) := by decide +kernel
theorem dX9_weighSeen_29 : decode cX9_weighSeen 29 = .ok (.iload_n 2, 1) := by decide +kernel
theorem dX9_weighSeen_30 : decode cX9_weighSeen 30 = .ok (.iload_n 3, 1) := by decide +kernel
theorem dX9_weighSeen_31 : decode cX9_weighSeen 31 = .ok (.invokevirtual 99, 3) := by decide +kernel
theorem dX9_weighSeen_34 : decode cX9_weighSeen 34 = .ok (.istore 4, 2) := by decide +kernel
theorem dX9_weighSeen_36 : decode cX9_weighSeen 36 = .ok (.aload_n 0, 1) := by decide +kernel
theorem dX9_weighSeen_37 : decode cX9_weighSeen 37 = .ok (.getfield 27, 3) := by decide +kernel
theorem dX9_weighSeen_40 : decode cX9_weighSeen 40 = .ok (.iconst 0, 1) := by decide +kernel
theorem dX9_weighSeen_41 : decode cX9_weighSeen 41 = .ok (.aaload, 1) := by decide +kernel
theorem dX9_weighSeen_42 : decode cX9_weighSeen 42 = .ok (.aload_n 0, 1) := by decide +kernel
theorem dX9_weighSeen_43 : decode cX9_weighSeen 43 = .ok (.getfield 36, 3) := by decide +kernel
theorem dX9_weighSeen_46 : decode cX9_weighSeen 46 = .ok (.invokevirtual 112, 3) := by decide +kernel
theorem dX9_weighSeen_49 : decode cX9_weighSeen 49 = .ok (.aload_n 0, 1) := by decide +kernel
theorem dX9_weighSeen_50 : decode cX9_weighSeen 50 = .ok (.getfield 36, 3) := by decide +kernel
theorem dX9_weighSeen_53 : decode cX9_weighSeen 53 = .ok (.aload_n 0, 1) := by decide +kernel
theorem dX9_weighSeen_54 : decode cX9_weighSeen 54 = .ok (.getfield 27, 3) := by decide +kernel
theorem dX9_weighSeen_57 : decode cX9_weighSeen 57 = .ok (.iconst 0, 1) := by decide +kernel
theorem dX9_weighSeen_58 : decode cX9_weighSeen 58 = .ok (.aaload, 1) := by decide +kernel
theorem dX9_weighSeen_59 : decode cX9_weighSeen 59 = .ok (.aload_n 0, 1) := by decide +kernel
theorem dX9_weighSeen_60 : decode cX9_weighSeen 60 = .ok (.aload_n 0, 1) := by decide +kernel
theorem dX9_weighSeen_61 : decode cX9_weighSeen 61 = .ok (.getfield 19, 3) := by decide +kernel
theorem dX9_weighSeen_64 : decode cX9_weighSeen 64 = .ok (.iload_n 3, 1) := by decide +kernel
theorem dX9_weighSeen_65 : decode cX9_weighSeen 65 = .ok (.iaload, 1) := by decide +kernel
theorem dX9_weighSeen_66 : decode cX9_weighSeen 66 = .ok (.iload 4, 2) := by decide +kernel
theorem dX9_weighSeen_68 : decode cX9_weighSeen 68 = .ok (.invokevirtual 116, 3) := by decide +kernel
theorem dX9_weighSeen_71 : decode cX9_weighSeen 71 = .ok (.invokevirtual 120, 3) := by decide +kernel
theorem dX9_weighSeen_74 : decode cX9_weighSeen 74 = .ok (.aload_n 0, 1) := by decide +kernel
theorem dX9_weighSeen_75 : decode cX9_weighSeen 75 = .ok (.getfield 19, 3) := by decide +kernel
theorem dX9_weighSeen_78 : decode cX9_weighSeen 78 = .ok (.iload_n 3, 1) := by decide +kernel
theorem dX9_weighSeen_79 : decode cX9_weighSeen 79 = .ok (.dup2, 1) := by decide +kernel
theorem dX9_weighSeen_80 : decode cX9_weighSeen 80 = .ok (.iaload, 1) := by decide +kernel
theorem dX9_weighSeen_81 : decode cX9_weighSeen 81 = .ok (.iload 4, 2) := by decide +kernel
theorem dX9_weighSeen_83 : decode cX9_weighSeen 83 = .ok (.isub, 1) := by decide +kernel
theorem dX9_weighSeen_84 : decode cX9_weighSeen 84 = .ok (.iastore, 1) := by decide +kernel
theorem dX9_weighSeen_85 : decode cX9_weighSeen 85 = .ok (.iinc 3 1, 3) := by decide +kernel
theorem dX9_weighSeen_88 : decode cX9_weighSeen 88 = .ok (.goto (-68), 3) := by decide +kernel
theorem dX9_weighSeen_91 : decode cX9_weighSeen 91 = .ok (.iinc 2 1, 3) := by decide +kernel
theorem dX9_weighSeen_94 : decode cX9_weighSeen 94 = .ok (.goto (-84), 3) := by decide +kernel
theorem dX9_weighSeen_97 : decode cX9_weighSeen 97 = .ok (.return_, 1) := by decide +kernel
theorem dX9_sumOfColumnsLeft_0 : decode cX9_sumOfColumnsLeft 0 = .ok (.iconst 0, 1) := by decide +kernel
theorem dX9_sumOfColumnsLeft_1 : decode cX9_sumOfColumnsLeft 1 = .ok (.istore_n 1, 1) := by decide +kernel
theorem dX9_sumOfColumnsLeft_2 : decode cX9_sumOfColumnsLeft 2 = .ok (.iconst 0, 1) := by decide +kernel
theorem dX9_sumOfColumnsLeft_3 : decode cX9_sumOfColumnsLeft 3 = .ok (.istore_n 2, 1) := by decide +kernel
theorem dX9_sumOfColumnsLeft_4 : decode cX9_sumOfColumnsLeft 4 = .ok (.iload_n 2, 1) := by decide +kernel
theorem dX9_sumOfColumnsLeft_5 : decode cX9_sumOfColumnsLeft 5 = .ok (.aload_n 0, 1) := by decide +kernel
theorem dX9_sumOfColumnsLeft_6 : decode cX9_sumOfColumnsLeft 6 = .ok (.getfield 97, 3) := by decide +kernel
theorem dX9_sumOfColumnsLeft_9 : decode cX9_sumOfColumnsLeft 9 = .ok (.if_icmp .ge 18, 3) := by decide +kernel
theorem dX9_sumOfColumnsLeft_12 : decode cX9_sumOfColumnsLeft 12 = .ok (.iload_n 1, 1) := by decide +kernel
theorem dX9_sumOfColumnsLeft_13 : decode cX9_sumOfColumnsLeft 13 = .ok (.aload_n 0, 1) := by decide +kernel
theorem dX9_sumOfColumnsLeft_14 : decode cX9_sumOfColumnsLeft 14 = .ok (.getfield 19, 3) := by decide +kernel
theorem dX9_sumOfColumnsLeft_17 : decode cX9_sumOfColumnsLeft 17 = .ok (.iload_n 2, 1) := by decide +kernel
theorem dX9_sumOfColumnsLeft_18 : decode cX9_sumOfColumnsLeft 18 = .ok (.iaload, 1) := by decide +kernel
theorem dX9_sumOfColumnsLeft_19 : decode cX9_sumOfColumnsLeft 19 = .ok (.iadd, 1) := by decide +kernel
theorem dX9_sumOfColumnsLeft_20 : decode cX9_sumOfColumnsLeft 20 = .ok (.istore_n 1, 1) := by decide +kernel
theorem dX9_sumOfColumnsLeft_21 : decode cX9_sumOfColumnsLeft 21 = .ok (.iinc 2 1, 3) := by decide +kernel
theorem dX9_sumOfColumnsLeft_24 : decode cX9_sumOfColumnsLeft 24 = .ok (.goto (-20), 3) := by decide +kernel
theorem dX9_sumOfColumnsLeft_27 : decode cX9_sumOfColumnsLeft 27 = .ok (.iload_n 1, 1) := by decide +kernel
theorem dX9_sumOfColumnsLeft_28 : decode cX9_sumOfColumnsLeft 28 = .ok (.ireturn, 1) := by decide +kernel
theorem dX9_countRow_0 : decode cX9_countRow 0 = .ok (.iload_n 1, 1) := by decide +kernel
theorem dX9_countRow_1 : decode cX9_countRow 1 = .ok (.iconst 1, 1) := by decide +kernel
theorem dX9_countRow_2 : decode cX9_countRow 2 = .ok (.iadd, 1) := by decide +kernel
theorem dX9_countRow_3 : decode cX9_countRow 3 = .ok (.aload_n 0, 1) := by decide +kernel
theorem dX9_countRow_4 : decode cX9_countRow 4 = .ok (.getfield 92, 3) := by decide +kernel
theorem dX9_countRow_7 : decode cX9_countRow 7 = .ok (.if_icmp .ge 22, 3) := by decide +kernel
theorem dX9_countRow_10 : decode cX9_countRow 10 = .ok (.aload_n 0, 1) := by decide +kernel
theorem dX9_countRow_11 : decode cX9_countRow 11 = .ok (.iload_n 1, 1) := by decide +kernel
theorem dX9_countRow_12 : decode cX9_countRow 12 = .ok (.iconst 0, 1) := by decide +kernel
theorem dX9_countRow_13 : decode cX9_countRow 13 = .ok (.aload_n 0, 1) := by decide +kernel
theorem dX9_countRow_14 : decode cX9_countRow 14 = .ok (.getfield 15, 3) := by decide +kernel
theorem dX9_countRow_17 : decode cX9_countRow 17 = .ok (.iload_n 1, 1) := by decide +kernel
theorem dX9_countRow_18 : decode cX9_countRow 18 = .ok (.iaload, 1) := by decide +kernel
theorem dX9_countRow_19 : decode cX9_countRow 19 = .ok (.aload_n 0, 1) := by decide +kernel
theorem dX9_countRow_20 : decode cX9_countRow 20 = .ok (.invokevirtual 124, 3) := by decide +kernel
theorem dX9_countRow_23 : decode cX9_countRow 23 = .ok (.invokevirtual 127, 3) := by decide +kernel
theorem dX9_countRow_26 : decode cX9_countRow 26 = .ok (.goto 13, 3) := by decide +kernel
theorem dX9_countRow_29 : decode cX9_countRow 29 = .ok (.aload_n 0, 1) := by decide +kernel
theorem dX9_countRow_30 : decode cX9_countRow 30 = .ok (.dup, 1) := by decide +kernel
theorem dX9_countRow_31 : decode cX9_countRow 31 = .ok (.getfield 52, 3) := by decide +kernel
theorem dX9_countRow_34 : decode cX9_countRow 34 = .ok (.iconst 1, 1) := by decide +kernel
theorem dX9_countRow_35 : decode cX9_countRow 35 = .ok (.iadd, 1) := by decide +kernel
theorem dX9_countRow_36 : decode cX9_countRow 36 = .ok (.putfield 52, 3) := by decide +kernel
theorem dX9_countRow_39 : decode cX9_countRow 39 = .ok (.return_, 1) := by decide +kernel
theorem dX9_countCell_0 : decode cX9_countCell 0 = .ok (.aload_n 0, 1) := by decide +kernel
theorem dX9_countCell_1 : decode cX9_countCell 1 = .ok (.getfield 19, 3) := by decide +kernel
theorem dX9_countCell_4 : decode cX9_countCell 4 = .ok (.iload_n 2, 1) := by decide +kernel
theorem dX9_countCell_5 : decode cX9_countCell 5 = .ok (.iaload, 1) := by decide +kernel
theorem dX9_countCell_6 : decode cX9_countCell 6 = .ok (.istore 5, 2) := by decide +kernel
theorem dX9_countCell_8 : decode cX9_countCell 8 = .ok (.iload 4, 2) := by decide +kernel
theorem dX9_countCell_10 : decode cX9_countCell 10 = .ok (.iload 5, 2) := by decide +kernel
theorem dX9_countCell_12 : decode cX9_countCell 12 = .ok (.isub, 1) := by decide +kernel
theorem dX9_countCell_13 : decode cX9_countCell 13 = .ok (.istore 6, 2) := by decide +kernel
theorem dX9_countCell_15 : decode cX9_countCell 15 = .ok (.iconst 0, 1) := by decide +kernel
theorem dX9_countCell_16 : decode cX9_countCell 16 = .ok (.iload_n 3, 1) := by decide +kernel
theorem dX9_countCell_17 : decode cX9_countCell 17 = .ok (.iload 6, 2) := by decide +kernel
theorem dX9_countCell_19 : decode cX9_countCell 19 = .ok (.isub, 1) := by decide +kernel
theorem dX9_countCell_20 : decode cX9_countCell 20 = .ok (.invokestatic 131, 3) := by decide +kernel
theorem dX9_countCell_23 : decode cX9_countCell 23 = .ok (.istore 7, 2) := by decide +kernel
theorem dX9_countCell_25 : decode cX9_countCell 25 = .ok (.iload_n 3, 1) := by decide +kernel
theorem dX9_countCell_26 : decode cX9_countCell 26 = .ok (.iload 5, 2) := by decide +kernel
theorem dX9_countCell_28 : decode cX9_countCell 28 = .ok (.invokestatic 86, 3) := by decide +kernel
theorem dX9_countCell_31 : decode cX9_countCell 31 = .ok (.istore 8, 2) := by decide +kernel
theorem dX9_countCell_33 : decode cX9_countCell 33 = .ok (.iload_n 1, 1) := by decide +kernel
theorem dX9_countCell_34 : decode cX9_countCell 34 = .ok (.iconst 2, 1) := by decide +kernel
theorem dX9_countCell_35 : decode cX9_countCell 35 = .ok (.iadd, 1) := by decide +kernel
theorem dX9_countCell_36 : decode cX9_countCell 36 = .ok (.aload_n 0, 1) := by decide +kernel
theorem dX9_countCell_37 : decode cX9_countCell 37 = .ok (.getfield 92, 3) := by decide +kernel
theorem dX9_countCell_40 : decode cX9_countCell 40 = .ok (.if_icmp .ne 30, 3) := by decide +kernel
theorem dX9_countCell_43 : decode cX9_countCell 43 = .ok (.iload_n 2, 1) := by decide +kernel
theorem dX9_countCell_44 : decode cX9_countCell 44 = .ok (.iconst 2, 1) := by decide +kernel
theorem dX9_countCell_45 : decode cX9_countCell 45 = .ok (.iadd, 1) := by decide +kernel
theorem dX9_countCell_46 : decode cX9_countCell 46 = .ok (.aload_n 0, 1) := by decide +kernel
theorem dX9_countCell_47 : decode cX9_countCell 47 = .ok (.getfield 97, 3) := by decide +kernel
theorem dX9_countCell_50 : decode cX9_countCell 50 = .ok (.if_icmp .ne 20, 3) := by decide +kernel
theorem dX9_countCell_53 : decode cX9_countCell 53 = .ok (.aload_n 0, 1) := by decide +kernel
theorem dX9_countCell_54 : decode cX9_countCell 54 = .ok (.dup, 1) := by decide +kernel
theorem dX9_countCell_55 : decode cX9_countCell 55 = .ok (.getfield 52, 3) := by decide +kernel
theorem dX9_countCell_58 : decode cX9_countCell 58 = .ok (.iload 8, 2) := by decide +kernel
theorem dX9_countCell_60 : decode cX9_countCell 60 = .ok (.iload 7, 2) := by decide +kernel
theorem dX9_countCell_62 : decode cX9_countCell 62 = .ok (.isub, 1) := by decide +kernel
theorem dX9_countCell_63 : decode cX9_countCell 63 = .ok (.iconst 1, 1) := by decide +kernel
theorem dX9_countCell_64 : decode cX9_countCell 64 = .ok (.iadd, 1) := by decide +kernel
theorem dX9_countCell_65 : decode cX9_countCell 65 = .ok (.iadd, 1) := by decide +kernel
theorem dX9_countCell_66 : decode cX9_countCell 66 = .ok (.putfield 52, 3) := by decide +kernel
theorem dX9_countCell_69 : decode cX9_countCell 69 = .ok (.return_, 1) := by decide +kernel
theorem dX9_countCell_70 : decode cX9_countCell 70 = .ok (.iload 7, 2) := by decide +kernel
theorem dX9_countCell_72 : decode cX9_countCell 72 = .ok (.istore 9, 2) := by decide +kernel
theorem dX9_countCell_74 : decode cX9_countCell 74 = .ok (.iload 9, 2) := by decide +kernel
theorem dX9_countCell_76 : decode cX9_countCell 76 = .ok (.iload 8, 2) := by decide +kernel
theorem dX9_countCell_78 : decode cX9_countCell 78 = .ok (.if_icmp .gt 64, 3) := by decide +kernel
theorem dX9_countCell_81 : decode cX9_countCell 81 = .ok (.aload_n 0, 1) := by decide +kernel
theorem dX9_countCell_82 : decode cX9_countCell 82 = .ok (.getfield 52, 3) := by decide +kernel
theorem dX9_countCell_85 : decode cX9_countCell 85 = .ok (.sipush 20000, 3) := by decide +kernel
theorem dX9_countCell_88 : decode cX9_countCell 88 = .ok (.if_icmp .gt 54, 3) := by decide +kernel
theorem dX9_countCell_91 : decode cX9_countCell 91 = .ok (.aload_n 0, 1) := by decide +kernel
theorem dX9_countCell_92 : decode cX9_countCell 92 = .ok (.getfield 19, 3) := by decide +kernel
theorem dX9_countCell_95 : decode cX9_countCell 95 = .ok (.iload_n 2, 1) := by decide +kernel
theorem dX9_countCell_96 : decode cX9_countCell 96 = .ok (.iload 5, 2) := by decide +kernel
theorem dX9_countCell_98 : decode cX9_countCell 98 = .ok (.iload 9, 2) := by decide +kernel
theorem dX9_countCell_100 : decode cX9_countCell 100 = .ok (.isub, 1) := by decide +kernel
theorem dX9_countCell_101 : decode cX9_countCell 101 = .ok (.iastore, 1) := by decide +kernel
theorem dX9_countCell_102 : decode cX9_countCell 102 = .ok (.iload_n 2, 1) := by decide +kernel
theorem dX9_countCell_103 : decode cX9_countCell 103 = .ok (.iconst 1, 1) := by decide +kernel
theorem dX9_countCell_104 : decode cX9_countCell 104 = .ok (.iadd, 1) := by decide +kernel
theorem dX9_countCell_105 : decode cX9_countCell 105 = .ok (.aload_n 0, 1) := by decide +kernel
theorem dX9_countCell_106 : decode cX9_countCell 106 = .ok (.getfield 97, 3) := by decide +kernel
theorem dX9_countCell_109 : decode cX9_countCell 109 = .ok (.if_icmp .ge 20, 3) := by decide +kernel
theorem dX9_countCell_112 : decode cX9_countCell 112 = .ok (.aload_n 0, 1) := by decide +kernel
theorem dX9_countCell_113 : decode cX9_countCell 113 = .ok (.iload_n 1, 1) := by decide +kernel
theorem dX9_countCell_114 : decode cX9_countCell 114 = .ok (.iload_n 2, 1) := by decide +kernel
theorem dX9_countCell_115 : decode cX9_countCell 115 = .ok (.iconst 1, 1) := by decide +kernel
theorem dX9_countCell_116 : decode cX9_countCell 116 = .ok (.iadd, 1) := by decide +kernel
theorem dX9_countCell_117 : decode cX9_countCell 117 = .ok (.iload_n 3, 1) := by decide +kernel
theorem dX9_countCell_118 : decode cX9_countCell 118 = .ok (.iload 9, 2) := by decide +kernel
theorem dX9_countCell_120 : decode cX9_countCell 120 = .ok (.isub, 1) := by decide +kernel
theorem dX9_countCell_121 : decode cX9_countCell 121 = .ok (.iload 6, 2) := by decide +kernel
theorem dX9_countCell_123 : decode cX9_countCell 123 = .ok (.invokevirtual 127, 3) := by decide +kernel
theorem dX9_countCell_126 : decode cX9_countCell 126 = .ok (.goto 10, 3) := by decide +kernel
theorem dX9_countCell_129 : decode cX9_countCell 129 = .ok (.aload_n 0, 1) := by decide +kernel
theorem dX9_countCell_130 : decode cX9_countCell 130 = .ok (.iload_n 1, 1) := by decide +kernel
theorem dX9_countCell_131 : decode cX9_countCell 131 = .ok (.iconst 1, 1) := by decide +kernel
theorem dX9_countCell_132 : decode cX9_countCell 132 = .ok (.iadd, 1) := by decide +kernel
theorem dX9_countCell_133 : decode cX9_countCell 133 = .ok (.invokevirtual 56, 3) := by decide +kernel
theorem dX9_countCell_136 : decode cX9_countCell 136 = .ok (.iinc 9 1, 3) := by decide +kernel
theorem dX9_countCell_139 : decode cX9_countCell 139 = .ok (.goto (-65), 3) := by decide +kernel
theorem dX9_countCell_142 : decode cX9_countCell 142 = .ok (.aload_n 0, 1) := by decide +kernel
theorem dX9_countCell_143 : decode cX9_countCell 143 = .ok (.getfield 19, 3) := by decide +kernel
theorem dX9_countCell_146 : decode cX9_countCell 146 = .ok (.iload_n 2, 1) := by decide +kernel
theorem dX9_countCell_147 : decode cX9_countCell 147 = .ok (.iload 5, 2) := by decide +kernel
theorem dX9_countCell_149 : decode cX9_countCell 149 = .ok (.iastore, 1) := by decide +kernel
theorem dX9_countCell_150 : decode cX9_countCell 150 = .ok (.return_, 1) := by decide +kernel
theorem dX9_fillRow_0 : decode cX9_fillRow 0 = .ok (.iload_n 1, 1) := by decide +kernel
theorem dX9_fillRow_1 : decode cX9_fillRow 1 = .ok (.iconst 1, 1) := by decide +kernel
theorem dX9_fillRow_2 : decode cX9_fillRow 2 = .ok (.iadd, 1) := by decide +kernel
theorem dX9_fillRow_3 : decode cX9_fillRow 3 = .ok (.aload_n 0, 1) := by decide +kernel
theorem dX9_fillRow_4 : decode cX9_fillRow 4 = .ok (.getfield 92, 3) := by decide +kernel
theorem dX9_fillRow_7 : decode cX9_fillRow 7 = .ok (.if_icmp .ge 22, 3) := by decide +kernel
theorem dX9_fillRow_10 : decode cX9_fillRow 10 = .ok (.aload_n 0, 1) := by decide +kernel
theorem dX9_fillRow_11 : decode cX9_fillRow 11 = .ok (.iload_n 1, 1) := by decide +kernel
theorem dX9_fillRow_12 : decode cX9_fillRow 12 = .ok (.iconst 0, 1) := by decide +kernel
theorem dX9_fillRow_13 : decode cX9_fillRow 13 = .ok (.aload_n 0, 1) := by decide +kernel
theorem dX9_fillRow_14 : decode cX9_fillRow 14 = .ok (.getfield 15, 3) := by decide +kernel
theorem dX9_fillRow_17 : decode cX9_fillRow 17 = .ok (.iload_n 1, 1) := by decide +kernel
theorem dX9_fillRow_18 : decode cX9_fillRow 18 = .ok (.iaload, 1) := by decide +kernel
theorem dX9_fillRow_19 : decode cX9_fillRow 19 = .ok (.aload_n 0, 1) := by decide +kernel
theorem dX9_fillRow_20 : decode cX9_fillRow 20 = .ok (.invokevirtual 124, 3) := by decide +kernel
theorem dX9_fillRow_23 : decode cX9_fillRow 23 = .ok (.invokevirtual 134, 3) := by decide +kernel
theorem dX9_fillRow_26 : decode cX9_fillRow 26 = .ok (.goto 13, 3) := by decide +kernel
theorem dX9_fillRow_29 : decode cX9_fillRow 29 = .ok (.aload_n 0, 1) := by decide +kernel
theorem dX9_fillRow_30 : decode cX9_fillRow 30 = .ok (.iload_n 1, 1) := by decide +kernel
theorem dX9_fillRow_31 : decode cX9_fillRow 31 = .ok (.aload_n 0, 1) := by decide +kernel
theorem dX9_fillRow_32 : decode cX9_fillRow 32 = .ok (.getfield 97, 3) := by decide +kernel
theorem dX9_fillRow_35 : decode cX9_fillRow 35 = .ok (.imul, 1) := by decide +kernel
theorem dX9_fillRow_36 : decode cX9_fillRow 36 = .ok (.invokevirtual 137, 3) := by decide +kernel
theorem dX9_fillRow_39 : decode cX9_fillRow 39 = .ok (.return_, 1) := by decide +kernel
theorem dX9_fillCell_0 : decode cX9_fillCell 0 = .ok (.iload_n 1, 1) := by decide +kernel
theorem dX9_fillCell_1 : decode cX9_fillCell 1 = .ok (.aload_n 0, 1) := by decide +kernel
theorem dX9_fillCell_2 : decode cX9_fillCell 2 = .ok (.getfield 97, 3) := by decide +kernel
theorem dX9_fillCell_5 : decode cX9_fillCell 5 = .ok (.imul, 1) := by decide +kernel
theorem dX9_fillCell_6 : decode cX9_fillCell 6 = .ok (.iload_n 2, 1) := by decide +kernel
theorem dX9_fillCell_7 : decode cX9_fillCell 7 = .ok (.iadd, 1) := by decide +kernel
theorem dX9_fillCell_8 : decode cX9_fillCell 8 = .ok (.istore 5, 2) := by decide +kernel
theorem dX9_fillCell_10 : decode cX9_fillCell 10 = .ok (.aload_n 0, 1) := by decide +kernel
theorem dX9_fillCell_11 : decode cX9_fillCell 11 = .ok (.getfield 19, 3) := by decide +kernel
theorem dX9_fillCell_14 : decode cX9_fillCell 14 = .ok (.iload_n 2, 1) := by decide +kernel
theorem dX9_fillCell_15 : decode cX9_fillCell 15 = .ok (.iaload, 1) := by decide +kernel
theorem dX9_fillCell_16 : decode cX9_fillCell 16 = .ok (.istore 6, 2) := by decide +kernel
theorem dX9_fillCell_18 : decode cX9_fillCell 18 = .ok (.iload 4, 2) := by decide +kernel
theorem dX9_fillCell_20 : decode cX9_fillCell 20 = .ok (.iload 6, 2) := by decide +kernel
theorem dX9_fillCell_22 : decode cX9_fillCell 22 = .ok (.isub, 1) := by decide +kernel
theorem dX9_fillCell_23 : decode cX9_fillCell 23 = .ok (.istore 7, 2) := by decide +kernel
theorem dX9_fillCell_25 : decode cX9_fillCell 25 = .ok (.iload_n 3, 1) := by decide +kernel
theorem dX9_fillCell_26 : decode cX9_fillCell 26 = .ok (.iload 6, 2) := by decide +kernel
theorem dX9_fillCell_28 : decode cX9_fillCell 28 = .ok (.invokestatic 86, 3) := by decide +kernel
theorem dX9_fillCell_31 : decode cX9_fillCell 31 = .ok (.istore 8, 2) := by decide +kernel
theorem dX9_fillCell_33 : decode cX9_fillCell 33 = .ok (.iconst 0, 1) := by decide +kernel
theorem dX9_fillCell_34 : decode cX9_fillCell 34 = .ok (.iload_n 3, 1) := by decide +kernel
theorem dX9_fillCell_35 : decode cX9_fillCell 35 = .ok (.iload 7, 2) := by decide +kernel
theorem dX9_fillCell_37 : decode cX9_fillCell 37 = .ok (.isub, 1) := by decide +kernel
theorem dX9_fillCell_38 : decode cX9_fillCell 38 = .ok (.invokestatic 131, 3) := by decide +kernel
theorem dX9_fillCell_41 : decode cX9_fillCell 41 = .ok (.istore 9, 2) := by decide +kernel
theorem dX9_fillCell_43 : decode cX9_fillCell 43 = .ok (.iload 9, 2) := by decide +kernel
theorem dX9_fillCell_45 : decode cX9_fillCell 45 = .ok (.iload 8, 2) := by decide +kernel
theorem dX9_fillCell_47 : decode cX9_fillCell 47 = .ok (.if_icmp .gt 90, 3) := by decide +kernel
theorem dX9_fillCell_50 : decode cX9_fillCell 50 = .ok (.aload_n 0, 1) := by decide +kernel
theorem dX9_fillCell_51 : decode cX9_fillCell 51 = .ok (.getfield 22, 3) := by decide +kernel
theorem dX9_fillCell_54 : decode cX9_fillCell 54 = .ok (.iload 5, 2) := by decide +kernel
theorem dX9_fillCell_56 : decode cX9_fillCell 56 = .ok (.iload 9, 2) := by decide +kernel
theorem dX9_fillCell_58 : decode cX9_fillCell 58 = .ok (.iastore, 1) := by decide +kernel
theorem dX9_fillCell_59 : decode cX9_fillCell 59 = .ok (.aload_n 0, 1) := by decide +kernel
theorem dX9_fillCell_60 : decode cX9_fillCell 60 = .ok (.getfield 19, 3) := by decide +kernel
theorem dX9_fillCell_63 : decode cX9_fillCell 63 = .ok (.iload_n 2, 1) := by decide +kernel
theorem dX9_fillCell_64 : decode cX9_fillCell 64 = .ok (.iload 6, 2) := by decide +kernel
theorem dX9_fillCell_66 : decode cX9_fillCell 66 = .ok (.iload 9, 2) := by decide +kernel
theorem dX9_fillCell_68 : decode cX9_fillCell 68 = .ok (.isub, 1) := by decide +kernel
theorem dX9_fillCell_69 : decode cX9_fillCell 69 = .ok (.iastore, 1) := by decide +kernel
theorem dX9_fillCell_70 : decode cX9_fillCell 70 = .ok (.aload_n 0, 1) := by decide +kernel
theorem dX9_fillCell_71 : decode cX9_fillCell 71 = .ok (.getfield 27, 3) := by decide +kernel
theorem dX9_fillCell_74 : decode cX9_fillCell 74 = .ok (.iload 5, 2) := by decide +kernel
theorem dX9_fillCell_76 : decode cX9_fillCell 76 = .ok (.iconst 1, 1) := by decide +kernel
theorem dX9_fillCell_77 : decode cX9_fillCell 77 = .ok (.iadd, 1) := by decide +kernel
theorem dX9_fillCell_78 : decode cX9_fillCell 78 = .ok (.aaload, 1) := by decide +kernel
theorem dX9_fillCell_79 : decode cX9_fillCell 79 = .ok (.aload_n 0, 1) := by decide +kernel
theorem dX9_fillCell_80 : decode cX9_fillCell 80 = .ok (.getfield 27, 3) := by decide +kernel
theorem dX9_fillCell_83 : decode cX9_fillCell 83 = .ok (.iload 5, 2) := by decide +kernel
theorem dX9_fillCell_85 : decode cX9_fillCell 85 = .ok (.aaload, 1) := by decide +kernel
theorem dX9_fillCell_86 : decode cX9_fillCell 86 = .ok (.aload_n 0, 1) := by decide +kernel
theorem dX9_fillCell_87 : decode cX9_fillCell 87 = .ok (.iload 6, 2) := by decide +kernel
theorem dX9_fillCell_89 : decode cX9_fillCell 89 = .ok (.iload 9, 2) := by decide +kernel
theorem dX9_fillCell_91 : decode cX9_fillCell 91 = .ok (.invokevirtual 116, 3) := by decide +kernel
theorem dX9_fillCell_94 : decode cX9_fillCell 94 = .ok (.invokevirtual 120, 3) := by decide +kernel
theorem dX9_fillCell_97 : decode cX9_fillCell 97 = .ok (.iload_n 2, 1) := by decide +kernel
theorem dX9_fillCell_98 : decode cX9_fillCell 98 = .ok (.iconst 1, 1) := by decide +kernel
theorem dX9_fillCell_99 : decode cX9_fillCell 99 = .ok (.iadd, 1) := by decide +kernel
theorem dX9_fillCell_100 : decode cX9_fillCell 100 = .ok (.aload_n 0, 1) := by decide +kernel
theorem dX9_fillCell_101 : decode cX9_fillCell 101 = .ok (.getfield 97, 3) := by decide +kernel
theorem dX9_fillCell_104 : decode cX9_fillCell 104 = .ok (.if_icmp .ge 20, 3) := by decide +kernel
theorem dX9_fillCell_107 : decode cX9_fillCell 107 = .ok (.aload_n 0, 1) := by decide +kernel
theorem dX9_fillCell_108 : decode cX9_fillCell 108 = .ok (.iload_n 1, 1) := by decide +kernel
theorem dX9_fillCell_109 : decode cX9_fillCell 109 = .ok (.iload_n 2, 1) := by decide +kernel
theorem dX9_fillCell_110 : decode cX9_fillCell 110 = .ok (.iconst 1, 1) := by decide +kernel
theorem dX9_fillCell_111 : decode cX9_fillCell 111 = .ok (.iadd, 1) := by decide +kernel
theorem dX9_fillCell_112 : decode cX9_fillCell 112 = .ok (.iload_n 3, 1) := by decide +kernel
theorem dX9_fillCell_113 : decode cX9_fillCell 113 = .ok (.iload 9, 2) := by decide +kernel
theorem dX9_fillCell_115 : decode cX9_fillCell 115 = .ok (.isub, 1) := by decide +kernel
theorem dX9_fillCell_116 : decode cX9_fillCell 116 = .ok (.iload 7, 2) := by decide +kernel
theorem dX9_fillCell_118 : decode cX9_fillCell 118 = .ok (.invokevirtual 134, 3) := by decide +kernel
theorem dX9_fillCell_121 : decode cX9_fillCell 121 = .ok (.goto 10, 3) := by decide +kernel
theorem dX9_fillCell_124 : decode cX9_fillCell 124 = .ok (.aload_n 0, 1) := by decide +kernel
theorem dX9_fillCell_125 : decode cX9_fillCell 125 = .ok (.iload_n 1, 1) := by decide +kernel
theorem dX9_fillCell_126 : decode cX9_fillCell 126 = .ok (.iconst 1, 1) := by decide +kernel
theorem dX9_fillCell_127 : decode cX9_fillCell 127 = .ok (.iadd, 1) := by decide +kernel
theorem dX9_fillCell_128 : decode cX9_fillCell 128 = .ok (.invokevirtual 80, 3) := by decide +kernel
theorem dX9_fillCell_131 : decode cX9_fillCell 131 = .ok (.iinc 9 1, 3) := by decide +kernel
theorem dX9_fillCell_134 : decode cX9_fillCell 134 = .ok (.goto (-91), 3) := by decide +kernel
theorem dX9_fillCell_137 : decode cX9_fillCell 137 = .ok (.aload_n 0, 1) := by decide +kernel
theorem dX9_fillCell_138 : decode cX9_fillCell 138 = .ok (.getfield 19, 3) := by decide +kernel
theorem dX9_fillCell_141 : decode cX9_fillCell 141 = .ok (.iload_n 2, 1) := by decide +kernel
theorem dX9_fillCell_142 : decode cX9_fillCell 142 = .ok (.iload 6, 2) := by decide +kernel
theorem dX9_fillCell_144 : decode cX9_fillCell 144 = .ok (.iastore, 1) := by decide +kernel
theorem dX9_fillCell_145 : decode cX9_fillCell 145 = .ok (.return_, 1) := by decide +kernel
theorem dX9_fillLastRow_0 : decode cX9_fillLastRow 0 = .ok (.iconst 0, 1) := by decide +kernel
theorem dX9_fillLastRow_1 : decode cX9_fillLastRow 1 = .ok (.istore_n 2, 1) := by decide +kernel
theorem dX9_fillLastRow_2 : decode cX9_fillLastRow 2 = .ok (.iload_n 2, 1) := by decide +kernel
theorem dX9_fillLastRow_3 : decode cX9_fillLastRow 3 = .ok (.aload_n 0, 1) := by decide +kernel
theorem dX9_fillLastRow_4 : decode cX9_fillLastRow 4 = .ok (.getfield 97, 3) := by decide +kernel
theorem dX9_fillLastRow_7 : decode cX9_fillLastRow 7 = .ok (.if_icmp .ge 23, 3) := by decide +kernel
theorem dX9_fillLastRow_10 : decode cX9_fillLastRow 10 = .ok (.aload_n 0, 1) := by decide +kernel
theorem dX9_fillLastRow_11 : decode cX9_fillLastRow 11 = .ok (.getfield 22, 3) := by decide +kernel
theorem dX9_fillLastRow_14 : decode cX9_fillLastRow 14 = .ok (.iload_n 1, 1) := by decide +kernel
theorem dX9_fillLastRow_15 : decode cX9_fillLastRow 15 = .ok (.iload_n 2, 1) := by decide +kernel
theorem dX9_fillLastRow_16 : decode cX9_fillLastRow 16 = .ok (.iadd, 1) := by decide +kernel
theorem dX9_fillLastRow_17 : decode cX9_fillLastRow 17 = .ok (.aload_n 0, 1) := by decide +kernel
theorem dX9_fillLastRow_18 : decode cX9_fillLastRow 18 = .ok (.getfield 19, 3) := by decide +kernel
theorem dX9_fillLastRow_21 : decode cX9_fillLastRow 21 = .ok (.iload_n 2, 1) := by decide +kernel
theorem dX9_fillLastRow_22 : decode cX9_fillLastRow 22 = .ok (.iaload, 1) := by decide +kernel
theorem dX9_fillLastRow_23 : decode cX9_fillLastRow 23 = .ok (.iastore, 1) := by decide +kernel
theorem dX9_fillLastRow_24 : decode cX9_fillLastRow 24 = .ok (.iinc 2 1, 3) := by decide +kernel
theorem dX9_fillLastRow_27 : decode cX9_fillLastRow 27 = .ok (.goto (-25), 3) := by decide +kernel
theorem dX9_fillLastRow_30 : decode cX9_fillLastRow 30 = .ok (.aload_n 0, 1) := by decide +kernel
theorem dX9_fillLastRow_31 : decode cX9_fillLastRow 31 = .ok (.getfield 27, 3) := by decide +kernel
theorem dX9_fillLastRow_34 : decode cX9_fillLastRow 34 = .ok (.iload_n 1, 1) := by decide +kernel
theorem dX9_fillLastRow_35 : decode cX9_fillLastRow 35 = .ok (.aaload, 1) := by decide +kernel
theorem dX9_fillLastRow_36 : decode cX9_fillLastRow 36 = .ok (.astore_n 2, 1) := by decide +kernel
theorem dX9_fillLastRow_37 : decode cX9_fillLastRow 37 = .ok (.aload_n 2, 1) := by decide +kernel
theorem dX9_fillLastRow_38 : decode cX9_fillLastRow 38 = .ok (.aload_n 0, 1) := by decide +kernel
theorem dX9_fillLastRow_39 : decode cX9_fillLastRow 39 = .ok (.getfield 36, 3) := by decide +kernel
theorem dX9_fillLastRow_42 : decode cX9_fillLastRow 42 = .ok (.invokevirtual 140, 3) := by decide +kernel
theorem dX9_fillLastRow_45 : decode cX9_fillLastRow 45 = .ok (.istore_n 3, 1) := by decide +kernel
theorem dX9_fillLastRow_46 : decode cX9_fillLastRow 46 = .ok (.iload_n 3, 1) := by decide +kernel
theorem dX9_fillLastRow_47 : decode cX9_fillLastRow 47 = .ok (.ifCond .gt 11, 3) := by decide +kernel
theorem dX9_fillLastRow_50 : decode cX9_fillLastRow 50 = .ok (.aload_n 0, 1) := by decide +kernel
theorem dX9_fillLastRow_51 : decode cX9_fillLastRow 51 = .ok (.getfield 39, 3) := by decide +kernel
theorem dX9_fillLastRow_54 : decode cX9_fillLastRow 54 = .ok (.aload_n 2, 1) := by decide +kernel
theorem dX9_fillLastRow_55 : decode cX9_fillLastRow 55 = .ok (.invokevirtual 144, 3) := by decide +kernel
theorem dX9_fillLastRow_58 : decode cX9_fillLastRow 58 = .ok (.aload_n 0, 1) := by decide +kernel
theorem dX9_fillLastRow_59 : decode cX9_fillLastRow 59 = .ok (.getfield 22, 3) := by decide +kernel
theorem dX9_fillLastRow_62 : decode cX9_fillLastRow 62 = .ok (.iconst 0, 1) := by decide +kernel
theorem dX9_fillLastRow_63 : decode cX9_fillLastRow 63 = .ok (.iaload, 1) := by decide +kernel
theorem dX9_fillLastRow_64 : decode cX9_fillLastRow 64 = .ok (.aload_n 0, 1) := by decide +kernel
theorem dX9_fillLastRow_65 : decode cX9_fillLastRow 65 = .ok (.getfield 102, 3) := by decide +kernel
theorem dX9_fillLastRow_68 : decode cX9_fillLastRow 68 = .ok (.if_icmp .gt 11, 3) := by decide +kernel
theorem dX9_fillLastRow_71 : decode cX9_fillLastRow 71 = .ok (.aload_n 0, 1) := by decide +kernel
theorem dX9_fillLastRow_72 : decode cX9_fillLastRow 72 = .ok (.getfield 42, 3) := by decide +kernel
theorem dX9_fillLastRow_75 : decode cX9_fillLastRow 75 = .ok (.aload_n 2, 1) := by decide +kernel
theorem dX9_fillLastRow_76 : decode cX9_fillLastRow 76 = .ok (.invokevirtual 144, 3) := by decide +kernel
theorem dX9_fillLastRow_79 : decode cX9_fillLastRow 79 = .ok (.aload_n 0, 1) := by decide +kernel
theorem dX9_fillLastRow_80 : decode cX9_fillLastRow 80 = .ok (.getfield 22, 3) := by decide +kernel
theorem dX9_fillLastRow_83 : decode cX9_fillLastRow 83 = .ok (.iconst 0, 1) := by decide +kernel
theorem dX9_fillLastRow_84 : decode cX9_fillLastRow 84 = .ok (.iaload, 1) := by decide +kernel
theorem dX9_fillLastRow_85 : decode cX9_fillLastRow 85 = .ok (.aload_n 0, 1) := by decide +kernel
theorem dX9_fillLastRow_86 : decode cX9_fillLastRow 86 = .ok (.getfield 102, 3) := by decide +kernel
theorem dX9_fillLastRow_89 : decode cX9_fillLastRow 89 = .ok (.if_icmp .lt 11, 3) := by decide +kernel
theorem dX9_fillLastRow_92 : decode cX9_fillLastRow 92 = .ok (.aload_n 0, 1) := by decide +kernel
theorem dX9_fillLastRow_93 : decode cX9_fillLastRow 93 = .ok (.getfield 45, 3) := by decide +kernel
theorem dX9_fillLastRow_96 : decode cX9_fillLastRow 96 = .ok (.aload_n 2, 1) := by decide +kernel
theorem dX9_fillLastRow_97 : decode cX9_fillLastRow 97 = .ok (.invokevirtual 144, 3) := by decide +kernel
theorem dX9_fillLastRow_100 : decode cX9_fillLastRow 100 = .ok (.aload_n 0, 1) := by decide +kernel
theorem dX9_fillLastRow_101 : decode cX9_fillLastRow 101 = .ok (.getfield 76, 3) := by decide +kernel
theorem dX9_fillLastRow_104 : decode cX9_fillLastRow 104 = .ok (.ifnull 15, 3) := by decide +kernel
theorem dX9_fillLastRow_107 : decode cX9_fillLastRow 107 = .ok (.aload_n 0, 1) := by decide +kernel
theorem dX9_fillLastRow_108 : decode cX9_fillLastRow 108 = .ok (.getfield 76, 3) := by decide +kernel
theorem dX9_fillLastRow_111 : decode cX9_fillLastRow 111 = .ok (.aload_n 0, 1) := by decide +kernel
theorem dX9_fillLastRow_112 : decode cX9_fillLastRow 112 = .ok (.getfield 22, 3) := by decide +kernel
theorem dX9_fillLastRow_115 : decode cX9_fillLastRow 115 = .ok (.iload_n 3, 1) := by decide +kernel
theorem dX9_fillLastRow_116 : decode cX9_fillLastRow 116 = .ok (.invokevirtual 147, 3) := by decide +kernel
theorem dX9_fillLastRow_119 : decode cX9_fillLastRow 119 = .ok (.return_, 1) := by decide +kernel
