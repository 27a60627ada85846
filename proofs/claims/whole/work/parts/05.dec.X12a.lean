theorem dX12_init_0 : decode cX12_init 0 = .ok (.aload_n 0, 1) := by decide +kernel
theorem dX12_init_1 : decode cX12_init 1 = .ok (.invokespecial 1, 3) := by decide +kernel
theorem dX12_init_4 : decode cX12_init 4 = .ok (.aload_n 0, 1) := by decide +kernel
theorem dX12_init_5 : decode cX12_init 5 = .ok (.bipush 40, 2) := by decide +kernel
theorem dX12_init_7 : decode cX12_init 7 = .ok (.newarray .int, 2) := by decide +kernel
theorem dX12_init_9 : decode cX12_init 9 = .ok (.putfield 7, 3) := by decide +kernel
theorem dX12_init_12 : decode cX12_init 12 = .ok (.aload_n 0, 1) := by decide +kernel
theorem dX12_init_13 : decode cX12_init 13 = .ok (.bipush 40, 2) := by decide +kernel
theorem dX12_init_15 : decode cX12_init 15 = .ok (.newarray .int, 2) := by decide +kernel
theorem dX12_init_17 : decode cX12_init 17 = .ok (.putfield 13, 3) := by decide +kernel
theorem dX12_init_20 : decode cX12_init 20 = .ok (.aload_n 0, 1) := by decide +kernel
theorem dX12_init_21 : decode cX12_init 21 = .ok (.bipush 40, 2) := by decide +kernel
theorem dX12_init_23 : decode cX12_init 23 = .ok (.newarray .int, 2) := by decide +kernel
theorem dX12_init_25 : decode cX12_init 25 = .ok (.putfield 16, 3) := by decide +kernel
theorem dX12_init_28 : decode cX12_init 28 = .ok (.aload_n 0, 1) := by decide +kernel
theorem dX12_init_29 : decode cX12_init 29 = .ok (.bipush 40, 2) := by decide +kernel
theorem dX12_init_31 : decode cX12_init 31 = .ok (.newarray .int, 2) := by decide +kernel
theorem dX12_init_33 : decode cX12_init 33 = .ok (.putfield 19, 3) := by decide +kernel
theorem dX12_init_36 : decode cX12_init 36 = .ok (.aload_n 0, 1) := by decide +kernel
theorem dX12_init_37 : decode cX12_init 37 = .ok (.bipush 25, 2) := by decide +kernel
theorem dX12_init_39 : decode cX12_init 39 = .ok (.newarray .int, 2) := by decide +kernel
theorem dX12_init_41 : decode cX12_init 41 = .ok (.putfield 22, 3) := by decide +kernel
theorem dX12_init_44 : decode cX12_init 44 = .ok (.aload_n 0, 1) := by decide +kernel
theorem dX12_init_45 : decode cX12_init 45 = .ok (.bipush 30, 2) := by decide +kernel
theorem dX12_init_47 : decode cX12_init 47 = .ok (.newarray .int, 2) := by decide +kernel
theorem dX12_init_49 : decode cX12_init 49 = .ok (.putfield 25, 3) := by decide +kernel
theorem dX12_init_52 : decode cX12_init 52 = .ok (.aload_n 0, 1) := by decide +kernel
theorem dX12_init_53 : decode cX12_init 53 = .ok (.iconst 2, 1) := by decide +kernel
theorem dX12_init_54 : decode cX12_init 54 = .ok (.newarray .int, 2) := by decide +kernel
theorem dX12_init_56 : decode cX12_init 56 = .ok (.putfield 28, 3) := by decide +kernel
theorem dX12_init_59 : decode cX12_init 59 = .ok (.aload_n 0, 1) := by decide +kernel
theorem dX12_init_60 : decode cX12_init 60 = .ok (.bipush 30, 2) := by decide +kernel
theorem dX12_init_62 : decode cX12_init 62 = .ok (.newarray .int, 2) := by decide +kernel
theorem dX12_init_64 : decode cX12_init 64 = .ok (.putfield 31, 3) := by decide +kernel
theorem dX12_init_67 : decode cX12_init 67 = .ok (.aload_n 0, 1) := by decide +kernel
theorem dX12_init_68 : decode cX12_init 68 = .ok (.iconst (-1), 1) := by decide +kernel
theorem dX12_init_69 : decode cX12_init 69 = .ok (.putfield 34, 3) := by decide +kernel
theorem dX12_init_72 : decode cX12_init 72 = .ok (.aload_n 0, 1) := by decide +kernel
theorem dX12_init_73 : decode cX12_init 73 = .ok (.sipush 160, 3) := by decide +kernel
theorem dX12_init_76 : decode cX12_init 76 = .ok (.newarray .int, 2) := by decide +kernel
theorem dX12_init_78 : decode cX12_init 78 = .ok (.putfield 38, 3) := by decide +kernel
theorem dX12_init_81 : decode cX12_init 81 = .ok (.aload_n 0, 1) := by decide +kernel
theorem dX12_init_82 : decode cX12_init 82 = .ok (.sipush 160, 3) := by decide +kernel
theorem dX12_init_85 : decode cX12_init 85 = .ok (.newarray .int, 2) := by decide +kernel
theorem dX12_init_87 : decode cX12_init 87 = .ok (.putfield 41, 3) := by decide +kernel
theorem dX12_init_90 : decode cX12_init 90 = .ok (.aload_n 0, 1) := by decide +kernel
theorem dX12_init_91 : decode cX12_init 91 = .ok (.ldc 44, 2) := by decide +kernel
theorem dX12_init_93 : decode cX12_init 93 = .ok (.newarray .long, 2) := by decide +kernel
theorem dX12_init_95 : decode cX12_init 95 = .ok (.putfield 45, 3) := by decide +kernel
theorem dX12_init_98 : decode cX12_init 98 = .ok (.aload_n 0, 1) := by decide +kernel
theorem dX12_init_99 : decode cX12_init 99 = .ok (.bipush 25, 2) := by decide +kernel
theorem dX12_init_101 : decode cX12_init 101 = .ok (.newarray .int, 2) := by decide +kernel
theorem dX12_init_103 : decode cX12_init 103 = .ok (.putfield 49, 3) := by decide +kernel
theorem dX12_init_106 : decode cX12_init 106 = .ok (.aload_n 0, 1) := by decide +kernel
theorem dX12_init_107 : decode cX12_init 107 = .ok (.bipush 25, 2) := by decide +kernel
theorem dX12_init_109 : decode cX12_init 109 = .ok (.newarray .int, 2) := by decide +kernel
theorem dX12_init_111 : decode cX12_init 111 = .ok (.putfield 52, 3) := by decide +kernel
theorem dX12_init_114 : decode cX12_init 114 = .ok (.aload_n 0, 1) := by decide +kernel
theorem dX12_init_115 : decode cX12_init 115 = .ok (.iconst 5, 1) := by decide +kernel
theorem dX12_init_116 : decode cX12_init 116 = .ok (.newarray .int, 2) := by decide +kernel
theorem dX12_init_118 : decode cX12_init 118 = .ok (.putfield 55, 3) := by decide +kernel
theorem dX12_init_121 : decode cX12_init 121 = .ok (.aload_n 0, 1) := by decide +kernel
theorem dX12_init_122 : decode cX12_init 122 = .ok (.iconst 5, 1) := by decide +kernel
theorem dX12_init_123 : decode cX12_init 123 = .ok (.newarray .int, 2) := by decide +kernel
theorem dX12_init_125 : decode cX12_init 125 = .ok (.putfield 58, 3) := by decide +kernel
theorem dX12_init_128 : decode cX12_init 128 = .ok (.aload_n 0, 1) := by decide +kernel
theorem dX12_init_129 : decode cX12_init 129 = .ok (.ldc 61, 2) := by decide +kernel
theorem dX12_init_131 : decode cX12_init 131 = .ok (.newarray .byte, 2) := by decide +kernel
theorem dX12_init_133 : decode cX12_init 133 = .ok (.putfield 62, 3) := by decide +kernel
theorem dX12_init_136 : decode cX12_init 136 = .ok (.aload_n 0, 1) := by decide +kernel
theorem dX12_init_137 : decode cX12_init 137 = .ok (.sipush 20000, 3) := by decide +kernel
theorem dX12_init_140 : decode cX12_init 140 = .ok (.newarray .byte, 2) := by decide +kernel
theorem dX12_init_142 : decode cX12_init 142 = .ok (.putfield 66, 3) := by decide +kernel
theorem dX12_init_145 : decode cX12_init 145 = .ok (.aload_n 0, 1) := by decide +kernel
theorem dX12_init_146 : decode cX12_init 146 = .ok (.bipush 40, 2) := by decide +kernel
theorem dX12_init_148 : decode cX12_init 148 = .ok (.newarray .int, 2) := by decide +kernel
theorem dX12_init_150 : decode cX12_init 150 = .ok (.putfield 69, 3) := by decide +kernel
theorem dX12_init_153 : decode cX12_init 153 = .ok (.aload_n 0, 1) := by decide +kernel
theorem dX12_init_154 : decode cX12_init 154 = .ok (.bipush 40, 2) := by decide +kernel
theorem dX12_init_156 : decode cX12_init 156 = .ok (.newarray .int, 2) := by decide +kernel
theorem dX12_init_158 : decode cX12_init 158 = .ok (.putfield 72, 3) := by decide +kernel
theorem dX12_init_161 : decode cX12_init 161 = .ok (.aload_n 0, 1) := by decide +kernel
theorem dX12_init_162 : decode cX12_init 162 = .ok (.bipush 40, 2) := by decide +kernel
theorem dX12_init_164 : decode cX12_init 164 = .ok (.newarray .int, 2) := by decide +kernel
theorem dX12_init_166 : decode cX12_init 166 = .ok (.putfield 75, 3) := by decide +kernel
theorem dX12_init_169 : decode cX12_init 169 = .ok (.aload_n 0, 1) := by decide +kernel
theorem dX12_init_170 : decode cX12_init 170 = .ok (.bipush 40, 2) := by decide +kernel
theorem dX12_init_172 : decode cX12_init 172 = .ok (.newarray .int, 2) := by decide +kernel
theorem dX12_init_174 : decode cX12_init 174 = .ok (.putfield 78, 3) := by decide +kernel
theorem dX12_init_177 : decode cX12_init 177 = .ok (.aload_n 0, 1) := by decide +kernel
theorem dX12_init_178 : decode cX12_init 178 = .ok (.bipush 30, 2) := by decide +kernel
theorem dX12_init_180 : decode cX12_init 180 = .ok (.newarray .int, 2) := by decide +kernel
theorem dX12_init_182 : decode cX12_init 182 = .ok (.putfield 81, 3) := by decide +kernel
theorem dX12_init_185 : decode cX12_init 185 = .ok (.aload_n 0, 1) := by decide +kernel
theorem dX12_init_186 : decode cX12_init 186 = .ok (.bipush 30, 2) := by decide +kernel
theorem dX12_init_188 : decode cX12_init 188 = .ok (.newarray .int, 2) := by decide +kernel
theorem dX12_init_190 : decode cX12_init 190 = .ok (.putfield 84, 3) := by decide +kernel
theorem dX12_init_193 : decode cX12_init 193 = .ok (.aload_n 0, 1) := by decide +kernel
theorem dX12_init_194 : decode cX12_init 194 = .ok (.ldc 87, 2) := by decide +kernel
theorem dX12_init_196 : decode cX12_init 196 = .ok (.newarray .long, 2) := by decide +kernel
theorem dX12_init_198 : decode cX12_init 198 = .ok (.putfield 88, 3) := by decide +kernel
theorem dX12_init_201 : decode cX12_init 201 = .ok (.aload_n 0, 1) := by decide +kernel
theorem dX12_init_202 : decode cX12_init 202 = .ok (.bipush 40, 2) := by decide +kernel
theorem dX12_init_204 : decode cX12_init 204 = .ok (.newarray .int, 2) := by decide +kernel
theorem dX12_init_206 : decode cX12_init 206 = .ok (.putfield 91, 3) := by decide +kernel
theorem dX12_init_209 : decode cX12_init 209 = .ok (.aload_n 0, 1) := by decide +kernel
theorem dX12_init_210 : decode cX12_init 210 = .ok (.sipush 480, 3) := by decide +kernel
theorem dX12_init_213 : decode cX12_init 213 = .ok (.newarray .int, 2) := by decide +kernel
theorem dX12_init_215 : decode cX12_init 215 = .ok (.putfield 94, 3) := by decide +kernel
theorem dX12_init_218 : decode cX12_init 218 = .ok (.aload_n 0, 1) := by decide +kernel
theorem dX12_init_219 : decode cX12_init 219 = .ok (.sipush 480, 3) := by decide +kernel
theorem dX12_init_222 : decode cX12_init 222 = .ok (.newarray .int, 2) := by decide +kernel
theorem dX12_init_224 : decode cX12_init 224 = .ok (.putfield 97, 3) := by decide +kernel
theorem dX12_init_227 : decode cX12_init 227 = .ok (.aload_n 0, 1) := by decide +kernel
theorem dX12_init_228 : decode cX12_init 228 = .ok (.bipush 12, 2) := by decide +kernel
theorem dX12_init_230 : decode cX12_init 230 = .ok (.newarray .int, 2) := by decide +kernel
theorem dX12_init_232 : decode cX12_init 232 = .ok (.putfield 100, 3) := by decide +kernel
theorem dX12_init_235 : decode cX12_init 235 = .ok (.aload_n 0, 1) := by decide +kernel
theorem dX12_init_236 : decode cX12_init 236 = .ok (.bipush 80, 2) := by decide +kernel
theorem dX12_init_238 : decode cX12_init 238 = .ok (.newarray .int, 2) := by decide +kernel
theorem dX12_init_240 : decode cX12_init 240 = .ok (.putfield 103, 3) := by decide +kernel
theorem dX12_init_243 : decode cX12_init 243 = .ok (.aload_n 0, 1) := by decide +kernel
theorem dX12_init_244 : decode cX12_init 244 = .ok (.bipush 80, 2) := by decide +kernel
theorem dX12_init_246 : decode cX12_init 246 = .ok (.newarray .int, 2) := by decide +kernel
theorem dX12_init_248 : decode cX12_init 248 = .ok (.putfield 106, 3) := by decide +kernel
theorem dX12_init_251 : decode cX12_init 251 = .ok (.aload_n 0, 1) := by decide +kernel
theorem dX12_init_252 : decode cX12_init 252 = .ok (.bipush 40, 2) := by decide +kernel
theorem dX12_init_254 : decode cX12_init 254 = .ok (.newarray .int, 2) := by decide +kernel
theorem dX12_init_256 : decode cX12_init 256 = .ok (.putfield 109, 3) := by decide +kernel
theorem dX12_init_259 : decode cX12_init 259 = .ok (.aload_n 0, 1) := by decide +kernel
theorem dX12_init_260 : decode cX12_init 260 = .ok (.sipush 225, 3) := by decide +kernel
theorem dX12_init_263 : decode cX12_init 263 = .ok (.newarray .int, 2) := by decide +kernel
theorem dX12_init_265 : decode cX12_init 265 = .ok (.putfield 112, 3) := by decide +kernel
theorem dX12_init_268 : decode cX12_init 268 = .ok (.aload_n 0, 1) := by decide +kernel
theorem dX12_init_269 : decode cX12_init 269 = .ok (.iconst 1, 1) := by decide +kernel
theorem dX12_init_270 : decode cX12_init 270 = .ok (.putfield 115, 3) := by decide +kernel
theorem dX12_init_273 : decode cX12_init 273 = .ok (.aload_n 0, 1) := by decide +kernel
theorem dX12_init_274 : decode cX12_init 274 = .ok (.iconst 1, 1) := by decide +kernel
theorem dX12_init_275 : decode cX12_init 275 = .ok (.putfield 118, 3) := by decide +kernel
theorem dX12_init_278 : decode cX12_init 278 = .ok (.return_, 1) := by decide +kernel
theorem dX12_in_0 : decode cX12_in 0 = .ok (.lload_n 0, 1) := by decide +kernel
theorem dX12_in_1 : decode cX12_in 1 = .ok (.lload_n 2, 1) := by decide +kernel
theorem dX12_in_2 : decode cX12_in 2 = .ok (.lcmp, 1) := by decide +kernel
theorem dX12_in_3 : decode cX12_in 3 = .ok (.ifCond .lt 14, 3) := by decide +kernel
theorem dX12_in_6 : decode cX12_in 6 = .ok (.lload_n 0, 1) := by decide +kernel
theorem dX12_in_7 : decode cX12_in 7 = .ok (.lload 4, 2) := by decide +kernel
theorem dX12_in_9 : decode cX12_in 9 = .ok (.lcmp, 1) := by decide +kernel
theorem dX12_in_10 : decode cX12_in 10 = .ok (.ifCond .gt 7, 3) := by decide +kernel
theorem dX12_in_13 : decode cX12_in 13 = .ok (.iconst 1, 1) := by decide +kernel
theorem dX12_in_14 : decode cX12_in 14 = .ok (.goto 4, 3) := by decide +kernel
theorem dX12_in_17 : decode cX12_in 17 = .ok (.iconst 0, 1) := by decide +kernel
theorem dX12_in_18 : decode cX12_in 18 = .ok (.ireturn, 1) := by decide +kernel
theorem dX12_set_0 : decode cX12_set 0 = .ok (.lload_n 2, 1) := by decide +kernel
theorem dX12_set_1 : decode cX12_set 1 = .ok (.lstore 4, 2) := by decide +kernel
theorem dX12_set_3 : decode cX12_set 3 = .ok (.iconst 0, 1) := by decide +kernel
theorem dX12_set_4 : decode cX12_set 4 = .ok (.istore 6, 2) := by decide +kernel
theorem dX12_set_6 : decode cX12_set 6 = .ok (.iload 6, 2) := by decide +kernel
theorem dX12_set_8 : decode cX12_set 8 = .ok (.bipush 40, 2) := by decide +kernel
theorem dX12_set_10 : decode cX12_set 10 = .ok (.if_icmp .ge 29, 3) := by decide +kernel
theorem dX12_set_13 : decode cX12_set 13 = .ok (.aload_n 0, 1) := by decide +kernel
theorem dX12_set_14 : decode cX12_set 14 = .ok (.iload_n 1, 1) := by decide +kernel
theorem dX12_set_15 : decode cX12_set 15 = .ok (.iload 6, 2) := by decide +kernel
theorem dX12_set_17 : decode cX12_set 17 = .ok (.iadd, 1) := by decide +kernel
theorem dX12_set_18 : decode cX12_set 18 = .ok (.lload 4, 2) := by decide +kernel
theorem dX12_set_20 : decode cX12_set 20 = .ok (.ldc2_w 121, 3) := by decide +kernel
theorem dX12_set_23 : decode cX12_set 23 = .ok (.land, 1) := by decide +kernel
theorem dX12_set_24 : decode cX12_set 24 = .ok (.l2i, 1) := by decide +kernel
theorem dX12_set_25 : decode cX12_set 25 = .ok (.iastore, 1) := by decide +kernel
theorem dX12_set_26 : decode cX12_set 26 = .ok (.lload 4, 2) := by decide +kernel
theorem dX12_set_28 : decode cX12_set 28 = .ok (.bipush 24, 2) := by decide +kernel
theorem dX12_set_30 : decode cX12_set 30 = .ok (.lshr, 1) := by decide +kernel
theorem dX12_set_31 : decode cX12_set 31 = .ok (.lstore 4, 2) := by decide +kernel
theorem dX12_set_33 : decode cX12_set 33 = .ok (.iinc 6 1, 3) := by decide +kernel
theorem dX12_set_36 : decode cX12_set 36 = .ok (.goto (-30), 3) := by decide +kernel
theorem dX12_set_39 : decode cX12_set 39 = .ok (.return_, 1) := by decide +kernel
theorem dX12_copy_0 : decode cX12_copy 0 = .ok (.iconst 0, 1) := by decide +kernel
theorem dX12_copy_1 : decode cX12_copy 1 = .ok (.istore 4, 2) := by decide +kernel
theorem dX12_copy_3 : decode cX12_copy 3 = .ok (.iload 4, 2) := by decide +kernel
theorem dX12_copy_5 : decode cX12_copy 5 = .ok (.bipush 40, 2) := by decide +kernel
theorem dX12_copy_7 : decode cX12_copy 7 = .ok (.if_icmp .ge 21, 3) := by decide +kernel
theorem dX12_copy_10 : decode cX12_copy 10 = .ok (.aload_n 2, 1) := by decide +kernel
theorem dX12_copy_11 : decode cX12_copy 11 = .ok (.iload_n 3, 1) := by decide +kernel
theorem dX12_copy_12 : decode cX12_copy 12 = .ok (.iload 4, 2) := by decide +kernel
theorem dX12_copy_14 : decode cX12_copy 14 = .ok (.iadd, 1) := by decide +kernel
theorem dX12_copy_15 : decode cX12_copy 15 = .ok (.aload_n 0, 1) := by decide +kernel
theorem dX12_copy_16 : decode cX12_copy 16 = .ok (.iload_n 1, 1) := by decide +kernel
theorem dX12_copy_17 : decode cX12_copy 17 = .ok (.iload 4, 2) := by decide +kernel
theorem dX12_copy_19 : decode cX12_copy 19 = .ok (.iadd, 1) := by decide +kernel
theorem dX12_copy_20 : decode cX12_copy 20 = .ok (.iaload, 1) := by decide +kernel
theorem dX12_copy_21 : decode cX12_copy 21 = .ok (.iastore, 1) := by decide +kernel
theorem dX12_copy_22 : decode cX12_copy 22 = .ok (.iinc 4 1, 3) := by decide +kernel
theorem dX12_copy_25 : decode cX12_copy 25 = .ok (.goto (-22), 3) := by decide +kernel
theorem dX12_copy_28 : decode cX12_copy 28 = .ok (.return_, 1) := by decide +kernel
theorem dX12_compare_0 : decode cX12_compare 0 = .ok (.bipush 39, 2) := by decide +kernel
theorem dX12_compare_2 : decode cX12_compare 2 = .ok (.istore 4, 2) := by decide +kernel
theorem dX12_compare_4 : decode cX12_compare 4 = .ok (.iload 4, 2) := by decide +kernel
theorem dX12_compare_6 : decode cX12_compare 6 = .ok (.ifCond .lt 45, 3) := by decide +kernel
theorem dX12_compare_9 : decode cX12_compare 9 = .ok (.aload_n 0, 1) := by decide +kernel
theorem dX12_compare_10 : decode cX12_compare 10 = .ok (.iload_n 1, 1) := by decide +kernel
theorem dX12_compare_11 : decode cX12_compare 11 = .ok (.iload 4, 2) := by decide +kernel
theorem dX12_compare_13 : decode cX12_compare 13 = .ok (.iadd, 1) := by decide +kernel
theorem dX12_compare_14 : decode cX12_compare 14 = .ok (.iaload, 1) := by decide +kernel
theorem dX12_compare_15 : decode cX12_compare 15 = .ok (.aload_n 2, 1) := by decide +kernel
theorem dX12_compare_16 : decode cX12_compare 16 = .ok (.iload_n 3, 1) := by decide +kernel
theorem dX12_compare_17 : decode cX12_compare 17 = .ok (.iload 4, 2) := by decide +kernel
theorem dX12_compare_19 : decode cX12_compare 19 = .ok (.iadd, 1) := by decide +kernel
theorem dX12_compare_20 : decode cX12_compare 20 = .ok (.iaload, 1) := by decide +kernel
theorem dX12_compare_21 : decode cX12_compare 21 = .ok (.if_icmp .eq 24, 3) := by decide +kernel
theorem dX12_compare_24 : decode cX12_compare 24 = .ok (.aload_n 0, 1) := by decide +kernel
theorem dX12_compare_25 : decode cX12_compare 25 = .ok (.iload_n 1, 1) := by decide +kernel
theorem dX12_compare_26 : decode cX12_compare 26 = .ok (.iload 4, 2) := by decide +kernel
theorem dX12_compare_28 : decode cX12_compare 28 = .ok (.iadd, 1) := by decide +kernel
theorem dX12_compare_29 : decode cX12_compare 29 = .ok (.iaload, 1) := by decide +kernel
theorem dX12_compare_30 : decode cX12_compare 30 = .ok (.aload_n 2, 1) := by decide +kernel
theorem dX12_compare_31 : decode cX12_compare 31 = .ok (.iload_n 3, 1) := by decide +kernel
theorem dX12_compare_32 : decode cX12_compare 32 = .ok (.iload 4, 2) := by decide +kernel
theorem dX12_compare_34 : decode cX12_compare 34 = .ok (.iadd, 1) := by decide +kernel
theorem dX12_compare_35 : decode cX12_compare 35 = .ok (.iaload, 1) := by decide +kernel
theorem dX12_compare_36 : decode cX12_compare 36 = .ok (.if_icmp .ge 7, 3) := by decide +kernel
theorem dX12_compare_39 : decode cX12_compare 39 = .ok (.iconst (-1), 1) := by decide +kernel
theorem dX12_compare_40 : decode cX12_compare 40 = .ok (.goto 4, 3) := by decide +kernel
theorem dX12_compare_43 : decode cX12_compare 43 = .ok (.iconst 1, 1) := by decide +kernel
theorem dX12_compare_44 : decode cX12_compare 44 = .ok (.ireturn, 1) := by decide +kernel
theorem dX12_compare_45 : decode cX12_compare 45 = .ok (.iinc 4 (-1), 3) := by decide +kernel
theorem dX12_compare_48 : decode cX12_compare 48 = .ok (.goto (-44), 3) := by decide +kernel
theorem dX12_compare_51 : decode cX12_compare 51 = .ok (.iconst 0, 1) := by decide +kernel
theorem dX12_compare_52 : decode cX12_compare 52 = .ok (.ireturn, 1) := by decide +kernel
theorem dX12_add_0 : decode cX12_add 0 = .ok (.iconst 0, 1) := by decide +kernel
theorem dX12_add_1 : decode cX12_add 1 = .ok (.istore 4, 2) := by decide +kernel
theorem dX12_add_3 : decode cX12_add 3 = .ok (.iconst 0, 1) := by decide +kernel
theorem dX12_add_4 : decode cX12_add 4 = .ok (.istore 5, 2) := by decide +kernel
theorem dX12_add_6 : decode cX12_add 6 = .ok (.iload 5, 2) := by decide +kernel
theorem dX12_add_8 : decode cX12_add 8 = .ok (.bipush 40, 2) := by decide +kernel
theorem dX12_add_10 : decode cX12_add 10 = .ok (.if_icmp .ge 45, 3) := by decide +kernel
theorem dX12_add_13 : decode cX12_add 13 = .ok (.aload_n 0, 1) := by decide +kernel
theorem dX12_add_14 : decode cX12_add 14 = .ok (.iload_n 1, 1) := by decide +kernel
theorem dX12_add_15 : decode cX12_add 15 = .ok (.iload 5, 2) := by decide +kernel
theorem dX12_add_17 : decode cX12_add 17 = .ok (.iadd, 1) := by decide +kernel
theorem dX12_add_18 : decode cX12_add 18 = .ok (.iaload, 1) := by decide +kernel
theorem dX12_add_19 : decode cX12_add 19 = .ok (.aload_n 2, 1) := by decide +kernel
theorem dX12_add_20 : decode cX12_add 20 = .ok (.iload_n 3, 1) := by decide +kernel
theorem dX12_add_21 : decode cX12_add 21 = .ok (.iload 5, 2) := by decide +kernel
theorem dX12_add_23 : decode cX12_add 23 = .ok (.iadd, 1) := by decide +kernel
theorem dX12_add_24 : decode cX12_add 24 = .ok (.iaload, 1) := by decide +kernel
theorem dX12_add_25 : decode cX12_add 25 = .ok (.iadd, 1) := by decide +kernel
theorem dX12_add_26 : decode cX12_add 26 = .ok (.iload 4, 2) := by decide +kernel
theorem dX12_add_28 : decode cX12_add 28 = .ok (.iadd, 1) := by decide +kernel
theorem dX12_add_29 : decode cX12_add 29 = .ok (.istore 6, 2) := by decide +kernel
theorem dX12_add_31 : decode cX12_add 31 = .ok (.aload_n 0, 1) := by decide +kernel
theorem dX12_add_32 : decode cX12_add 32 = .ok (.iload_n 1, 1) := by decide +kernel
theorem dX12_add_33 : decode cX12_add 33 = .ok (.iload 5, 2) := by decide +kernel
theorem dX12_add_35 : decode cX12_add 35 = .ok (.iadd, 1) := by decide +kernel
theorem dX12_add_36 : decode cX12_add 36 = .ok (.iload 6, 2) := by decide +kernel
theorem dX12_add_38 : decode cX12_add 38 = .ok (.ldc 123, 2) := by decide +kernel
theorem dX12_add_40 : decode cX12_add 40 = .ok (.iand, 1) := by decide +kernel
theorem dX12_add_41 : decode cX12_add 41 = .ok (.iastore, 1) := by decide +kernel
theorem dX12_add_42 : decode cX12_add 42 = .ok (.iload 6, 2) := by decide +kernel
theorem dX12_add_44 : decode cX12_add 44 = .ok (.bipush 24, 2) := by decide +kernel
theorem dX12_add_46 : decode cX12_add 46 = .ok (.ishr, 1) := by decide +kernel
theorem dX12_add_47 : decode cX12_add 47 = .ok (.istore 4, 2) := by decide +kernel
theorem dX12_add_49 : decode cX12_add 49 = .ok (.iinc 5 1, 3) := by decide +kernel
theorem dX12_add_52 : decode cX12_add 52 = .ok (.goto (-46), 3) := by decide +kernel
theorem dX12_add_55 : decode cX12_add 55 = .ok (.return_, 1) := by decide +kernel
theorem dX12_subtract_0 : decode cX12_subtract 0 = .ok (.iconst 0, 1) := by decide +kernel
theorem dX12_subtract_1 : decode cX12_subtract 1 = .ok (.istore 4, 2) := by decide +kernel
theorem dX12_subtract_3 : decode cX12_subtract 3 = .ok (.iconst 0, 1) := by decide +kernel
theorem dX12_subtract_4 : decode cX12_subtract 4 = .ok (.istore 5, 2) := by decide +kernel
theorem dX12_subtract_6 : decode cX12_subtract 6 = .ok (.iload 5, 2) := by decide +kernel
theorem dX12_subtract_8 : decode cX12_subtract 8 = .ok (.bipush 40, 2) := by decide +kernel
theorem dX12_subtract_10 : decode cX12_subtract 10 = .ok (.if_icmp .ge 53, 3) := by decide +kernel
theorem dX12_subtract_13 : decode cX12_subtract 13 = .ok (.aload_n 0, 1) := by decide +kernel
theorem dX12_subtract_14 : decode cX12_subtract 14 = .ok (.iload_n 1, 1) := by decide +kernel
theorem dX12_subtract_15 : decode cX12_subtract 15 = .ok (.iload 5, 2) := by decide +kernel
theorem dX12_subtract_17 : decode cX12_subtract 17 = .ok (.iadd, 1) := by decide +kernel
theorem dX12_subtract_18 : decode cX12_subtract 18 = .ok (.iaload, 1) := by decide +kernel
theorem dX12_subtract_19 : decode cX12_subtract 19 = .ok (.aload_n 2, 1) := by decide +kernel
theorem dX12_subtract_20 : decode cX12_subtract 20 = .ok (.iload_n 3, 1) := by decide +kernel
theorem dX12_subtract_21 : decode cX12_subtract 21 = .ok (.iload 5, 2) := by decide +kernel
theorem dX12_subtract_23 : decode cX12_subtract 23 = .ok (.iadd, 1) := by decide +kernel
theorem dX12_subtract_24 : decode cX12_subtract 24 = .ok (.iaload, 1) := by decide +kernel
theorem dX12_subtract_25 : decode cX12_subtract 25 = .ok (.isub, 1) := by decide +kernel
theorem dX12_subtract_26 : decode cX12_subtract 26 = .ok (.iload 4, 2) := by decide +kernel
theorem dX12_subtract_28 : decode cX12_subtract 28 = .ok (.isub, 1) := by decide +kernel
theorem dX12_subtract_29 : decode cX12_subtract 29 = .ok (.istore 6, 2) := by decide +kernel
theorem dX12_subtract_31 : decode cX12_subtract 31 = .ok (.iload 6, 2) := by decide +kernel
theorem dX12_subtract_33 : decode cX12_subtract 33 = .ok (.ifCond .ge 7, 3) := by decide +kernel
theorem dX12_subtract_36 : decode cX12_subtract 36 = .ok (.iconst 1, 1) := by decide +kernel
theorem dX12_subtract_37 : decode cX12_subtract 37 = .ok (.goto 4, 3) := by decide +kernel
theorem dX12_subtract_40 : decode cX12_subtract 40 = .ok (.iconst 0, 1) := by decide +kernel
theorem dX12_subtract_41 : decode cX12_subtract 41 = .ok (.istore 4, 2) := by decide +kernel
theorem dX12_subtract_43 : decode cX12_subtract 43 = .ok (.aload_n 0, 1) := by decide +kernel
theorem dX12_subtract_44 : decode cX12_subtract 44 = .ok (.iload_n 1, 1) := by decide +kernel
theorem dX12_subtract_45 : decode cX12_subtract 45 = .ok (.iload 5, 2) := by decide +kernel
theorem dX12_subtract_47 : decode cX12_subtract 47 = .ok (.iadd, 1) := by decide +kernel
theorem dX12_subtract_48 : decode cX12_subtract 48 = .ok (.iload 6, 2) := by decide +kernel
theorem dX12_subtract_50 : decode cX12_subtract 50 = .ok (.iload 4, 2) := by decide +kernel
theorem dX12_subtract_52 : decode cX12_subtract 52 = .ok (.ldc 124, 2) := by decide +kernel
theorem dX12_subtract_54 : decode cX12_subtract 54 = .ok (.imul, 1) := by decide +kernel
theorem dX12_subtract_55 : decode cX12_subtract 55 = .ok (.iadd, 1) := by decide +kernel
theorem dX12_subtract_56 : decode cX12_subtract 56 = .ok (.iastore, 1) := by decide +kernel
theorem dX12_subtract_57 : decode cX12_subtract 57 = .ok (.iinc 5 1, 3) := by decide +kernel
theorem dX12_subtract_60 : decode cX12_subtract 60 = .ok (.goto (-54), 3) := by decide +kernel
theorem dX12_subtract_63 : decode cX12_subtract 63 = .ok (.return_, 1) := by decide +kernel
theorem dX12_multiply_0 : decode cX12_multiply 0 = .ok (.lconst 0, 1) := by decide +kernel
theorem dX12_multiply_1 : decode cX12_multiply 1 = .ok (.lstore_n 3, 1) := by decide +kernel
theorem dX12_multiply_2 : decode cX12_multiply 2 = .ok (.iconst 0, 1) := by decide +kernel
theorem dX12_multiply_3 : decode cX12_multiply 3 = .ok (.istore 5, 2) := by decide +kernel
theorem dX12_multiply_5 : decode cX12_multiply 5 = .ok (.iload 5, 2) := by decide +kernel
theorem dX12_multiply_7 : decode cX12_multiply 7 = .ok (.bipush 40, 2) := by decide +kernel
theorem dX12_multiply_9 : decode cX12_multiply 9 = .ok (.if_icmp .ge 39, 3) := by decide +kernel
theorem dX12_multiply_12 : decode cX12_multiply 12 = .ok (.lload_n 3, 1) := by decide +kernel
theorem dX12_multiply_13 : decode cX12_multiply 13 = .ok (.aload_n 0, 1) := by decide +kernel
theorem dX12_multiply_14 : decode cX12_multiply 14 = .ok (.iload_n 1, 1) := by decide +kernel
theorem dX12_multiply_15 : decode cX12_multiply 15 = .ok (.iload 5, 2) := by decide +kernel
theorem dX12_multiply_17 : decode cX12_multiply 17 = .ok (.iadd, 1) := by decide +kernel
theorem dX12_multiply_18 : decode cX12_multiply 18 = .ok (.iaload, 1) := by decide +kernel
theorem dX12_multiply_19 : decode cX12_multiply 19 = .ok (.i2l, 1) := by decide +kernel
theorem dX12_multiply_20 : decode cX12_multiply 20 = .ok (.iload_n 2, 1) := by decide +kernel
theorem dX12_multiply_21 : decode cX12_multiply 21 = .ok (.i2l, 1) := by decide +kernel
theorem dX12_multiply_22 : decode cX12_multiply 22 = .ok (.lmul, 1) := by decide +kernel
theorem dX12_multiply_23 : decode cX12_multiply 23 = .ok (.ladd, 1) := by decide +kernel
theorem dX12_multiply_24 : decode cX12_multiply 24 = .ok (.lstore_n 3, 1) := by decide +kernel
theorem dX12_multiply_25 : decode cX12_multiply 25 = .ok (.aload_n 0, 1) := by decide +kernel
theorem dX12_multiply_26 : decode cX12_multiply 26 = .ok (.iload_n 1, 1) := by decide +kernel
theorem dX12_multiply_27 : decode cX12_multiply 27 = .ok (.iload 5, 2) := by decide +kernel
theorem dX12_multiply_29 : decode cX12_multiply 29 = .ok (.iadd, 1) := by decide +kernel
theorem dX12_multiply_30 : decode cX12_multiply 30 = .ok (.lload_n 3, 1) := by decide +kernel
theorem dX12_multiply_31 : decode cX12_multiply 31 = .ok (.ldc2_w 121, 3) := by decide +kernel
theorem dX12_multiply_34 : decode cX12_multiply 34 = .ok (.land, 1) := by decide +kernel
theorem dX12_multiply_35 : decode cX12_multiply 35 = .ok (.l2i, 1) := by decide +kernel
theorem dX12_multiply_36 : decode cX12_multiply 36 = .ok (.iastore, 1) := by decide +kernel
theorem dX12_multiply_37 : decode cX12_multiply 37 = .ok (.lload_n 3, 1) := by decide +kernel
theorem dX12_multiply_38 : decode cX12_multiply 38 = .ok (.bipush 24, 2) := by decide +kernel
theorem dX12_multiply_40 : decode cX12_multiply 40 = .ok (.lshr, 1) := by decide +kernel
theorem dX12_multiply_41 : decode cX12_multiply 41 = .ok (.lstore_n 3, 1) := by decide +kernel
theorem dX12_multiply_42 : decode cX12_multiply 42 = .ok (.iinc 5 1, 3) := by decide +kernel
theorem dX12_multiply_45 : decode cX12_multiply 45 = .ok (.goto (-40), 3) := by decide +kernel
theorem dX12_multiply_48 : decode cX12_multiply 48 = .ok (.return_, 1) := by decide +kernel
theorem dX12_divide_0 : decode cX12_divide 0 = .ok (.lconst 0, 1) := by decide +kernel
theorem dX12_divide_1 : decode cX12_divide 1 = .ok (.lstore_n 3, 1) := by decide +kernel
theorem dX12_divide_2 : decode cX12_divide 2 = .ok (.bipush 39, 2) := by decide +kernel
theorem dX12_divide_4 : decode cX12_divide 4 = .ok (.istore 5, 2) := by decide +kernel
theorem dX12_divide_6 : decode cX12_divide 6 = .ok (.iload 5, 2) := by decide +kernel
theorem dX12_divide_8 : decode cX12_divide 8 = .ok (.ifCond .lt 39, 3) := by decide +kernel
theorem dX12_divide_11 : decode cX12_divide 11 = .ok (.lload_n 3, 1) := by decide +kernel
theorem dX12_divide_12 : decode cX12_divide 12 = .ok (.ldc2_w 125, 3) := by decide +kernel
theorem dX12_divide_15 : decode cX12_divide 15 = .ok (.lmul, 1) := by decide +kernel
theorem dX12_divide_16 : decode cX12_divide 16 = .ok (.aload_n 0, 1) := by decide +kernel
theorem dX12_divide_17 : decode cX12_divide 17 = .ok (.iload_n 1, 1) := by decide +kernel
theorem dX12_divide_18 : decode cX12_divide 18 = .ok (.iload 5, 2) := by decide +kernel
theorem dX12_divide_20 : decode cX12_divide 20 = .ok (.iadd, 1) := by decide +kernel
theorem dX12_divide_21 : decode cX12_divide 21 = .ok (.iaload, 1) := by decide +kernel
theorem dX12_divide_22 : decode cX12_divide 22 = .ok (.i2l, 1) := by decide +kernel
theorem dX12_divide_23 : decode cX12_divide 23 = .ok (.ladd, 1) := by decide +kernel
theorem dX12_divide_24 : decode cX12_divide 24 = .ok (.lstore_n 3, 1) := by decide +kernel
theorem dX12_divide_25 : decode cX12_divide 25 = .ok (.aload_n 0, 1) := by decide +kernel
theorem dX12_divide_26 : decode cX12_divide 26 = .ok (.iload_n 1, 1) := by decide +kernel
theorem dX12_divide_27 : decode cX12_divide 27 = .ok (.iload 5, 2) := by decide +kernel
theorem dX12_divide_29 : decode cX12_divide 29 = .ok (.iadd, 1) := by decide +kernel
theorem dX12_divide_30 : decode cX12_divide 30 = .ok (.lload_n 3, 1) := by decide +kernel
theorem dX12_divide_31 : decode cX12_divide 31 = .ok (.iload_n 2, 1) := by decide +kernel
theorem dX12_divide_32 : decode cX12_divide 32 = .ok (.i2l, 1) := by decide +kernel
theorem dX12_divide_33 : decode cX12_divide 33 = .ok (.ldiv, 1) := by decide +kernel
theorem dX12_divide_34 : decode cX12_divide 34 = .ok (.l2i, 1) := by decide +kernel
theorem dX12_divide_35 : decode cX12_divide 35 = .ok (.iastore, 1) := by decide +kernel
theorem dX12_divide_36 : decode cX12_divide 36 = .ok (.lload_n 3, 1) := by decide +kernel
theorem dX12_divide_37 : decode cX12_divide 37 = .ok (.iload_n 2, 1) := by decide +kernel
theorem dX12_divide_38 : decode cX12_divide 38 = .ok (.i2l, 1) := by decide +kernel
theorem dX12_divide_39 : decode cX12_divide 39 = .ok (.lrem, 1) := by decide +kernel
theorem dX12_divide_40 : decode cX12_divide 40 = .ok (.lstore_n 3, 1) := by decide +kernel
theorem dX12_divide_41 : decode cX12_divide 41 = .ok (.iinc 5 (-1), 3) := by decide +kernel
theorem dX12_divide_44 : decode cX12_divide 44 = .ok (.goto (-38), 3) := by decide +kernel
theorem dX12_divide_47 : decode cX12_divide 47 = .ok (.return_, 1) := by decide +kernel
theorem dX12_bitsOf_0 : decode cX12_bitsOf 0 = .ok (.bipush 39, 2) := by decide +kernel
theorem dX12_bitsOf_2 : decode cX12_bitsOf 2 = .ok (.istore_n 2, 1) := by decide +kernel
theorem dX12_bitsOf_3 : decode cX12_bitsOf 3 = .ok (.iload_n 2, 1) := by decide +kernel
theorem dX12_bitsOf_4 : decode cX12_bitsOf 4 = .ok (.ifCond .lt 42, 3) := by decide +kernel
theorem dX12_bitsOf_7 : decode cX12_bitsOf 7 = .ok (.aload_n 0, 1) := by decide +kernel
theorem dX12_bitsOf_8 : decode cX12_bitsOf 8 = .ok (.iload_n 1, 1) := by decide +kernel
theorem dX12_bitsOf_9 : decode cX12_bitsOf 9 = .ok (.iload_n 2, 1) := by decide +kernel
theorem dX12_bitsOf_10 : decode cX12_bitsOf 10 = .ok (.iadd, 1) := by decide +kernel
theorem dX12_bitsOf_11 : decode cX12_bitsOf 11 = .ok (.iaload, 1) := by decide +kernel
theorem dX12_bitsOf_12 : decode cX12_bitsOf 12 = .ok (.ifCond .eq 28, 3) := by decide +kernel
theorem dX12_bitsOf_15 : decode cX12_bitsOf 15 = .ok (.iconst 0, 1) := by decide +kernel
theorem dX12_bitsOf_16 : decode cX12_bitsOf 16 = .ok (.istore_n 3, 1) := by decide +kernel
theorem dX12_bitsOf_17 : decode cX12_bitsOf 17 = .ok (.aload_n 0, 1) := by decide +kernel
theorem dX12_bitsOf_18 : decode cX12_bitsOf 18 = .ok (.iload_n 1, 1) := by decide +kernel
theorem dX12_bitsOf_19 : decode cX12_bitsOf 19 = .ok (.iload_n 2, 1) := by decide +kernel
theorem dX12_bitsOf_20 : decode cX12_bitsOf 20 = .ok (.iadd, 1) := by decide +kernel
theorem dX12_bitsOf_21 : decode cX12_bitsOf 21 = .ok (.iaload, 1) := by decide +kernel
theorem dX12_bitsOf_22 : decode cX12_bitsOf 22 = .ok (.iload_n 3, 1) := by decide +kernel
theorem dX12_bitsOf_23 : decode cX12_bitsOf 23 = .ok (.ishr, 1) := by decide +kernel
theorem dX12_bitsOf_24 : decode cX12_bitsOf 24 = .ok (.ifCond .eq 9, 3) := by decide +kernel
theorem dX12_bitsOf_27 : decode cX12_bitsOf 27 = .ok (.iinc 3 1, 3) := by decide +kernel
theorem dX12_bitsOf_30 : decode cX12_bitsOf 30 = .ok (.goto (-13), 3) := by decide +kernel
theorem dX12_bitsOf_33 : decode cX12_bitsOf 33 = .ok (.bipush 24, 2) := by decide +kernel
theorem dX12_bitsOf_35 : decode cX12_bitsOf 35 = .ok (.iload_n 2, 1) := by decide +kernel
theorem dX12_bitsOf_36 : decode cX12_bitsOf 36 = .ok (.imul, 1) := by decide +kernel
theorem dX12_bitsOf_37 : decode cX12_bitsOf 37 = .ok (.iload_n 3, 1) := by decide +kernel
theorem dX12_bitsOf_38 : decode cX12_bitsOf 38 = .ok (.iadd, 1) := by decide +kernel
theorem dX12_bitsOf_39 : decode cX12_bitsOf 39 = .ok (.ireturn, 1) := by decide +kernel
theorem dX12_bitsOf_40 : decode cX12_bitsOf 40 = .ok (.iinc 2 (-1), 3) := by decide +kernel
theorem dX12_bitsOf_43 : decode cX12_bitsOf 43 = .ok (.goto (-40), 3) := by decide +kernel
theorem dX12_bitsOf_46 : decode cX12_bitsOf 46 = .ok (.iconst 0, 1) := by decide +kernel
theorem dX12_bitsOf_47 : decode cX12_bitsOf 47 = .ok (.ireturn, 1) := by decide +kernel
theorem dX12_bitAt_0 : decode cX12_bitAt 0 = .ok (.aload_n 0, 1) := by decide +kernel
theorem dX12_bitAt_1 : decode cX12_bitAt 1 = .ok (.iload_n 1, 1) := by decide +kernel
theorem dX12_bitAt_2 : decode cX12_bitAt 2 = .ok (.iload_n 2, 1) := by decide +kernel
theorem dX12_bitAt_3 : decode cX12_bitAt 3 = .ok (.bipush 24, 2) := by decide +kernel
theorem dX12_bitAt_5 : decode cX12_bitAt 5 = .ok (.idiv, 1) := by decide +kernel
theorem dX12_bitAt_6 : decode cX12_bitAt 6 = .ok (.iadd, 1) := by decide +kernel
theorem dX12_bitAt_7 : decode cX12_bitAt 7 = .ok (.iaload, 1) := by decide +kernel
theorem dX12_bitAt_8 : decode cX12_bitAt 8 = .ok (.iload_n 2, 1) := by decide +kernel
theorem dX12_bitAt_9 : decode cX12_bitAt 9 = .ok (.bipush 24, 2) := by decide +kernel
theorem dX12_bitAt_11 : decode cX12_bitAt 11 = .ok (.irem, 1) := by decide +kernel
theorem dX12_bitAt_12 : decode cX12_bitAt 12 = .ok (.ishr, 1) := by decide +kernel
theorem dX12_bitAt_13 : decode cX12_bitAt 13 = .ok (.iconst 1, 1) := by decide +kernel
theorem dX12_bitAt_14 : decode cX12_bitAt 14 = .ok (.iand, 1) := by decide +kernel
theorem dX12_bitAt_15 : decode cX12_bitAt 15 = .ok (.ireturn, 1) := by decide +kernel
theorem dX12_twice_0 : decode cX12_twice 0 = .ok (.iload_n 2, 1) := by decide +kernel
theorem dX12_twice_1 : decode cX12_twice 1 = .ok (.istore_n 3, 1) := by decide +kernel
theorem dX12_twice_2 : decode cX12_twice 2 = .ok (.iconst 0, 1) := by decide +kernel
theorem dX12_twice_3 : decode cX12_twice 3 = .ok (.istore 4, 2) := by decide +kernel
theorem dX12_twice_5 : decode cX12_twice 5 = .ok (.iload 4, 2) := by decide +kernel
theorem dX12_twice_7 : decode cX12_twice 7 = .ok (.bipush 40, 2) := by decide +kernel
theorem dX12_twice_9 : decode cX12_twice 9 = .ok (.if_icmp .ge 38, 3) := by decide +kernel
theorem dX12_twice_12 : decode cX12_twice 12 = .ok (.aload_n 0, 1) := by decide +kernel
theorem dX12_twice_13 : decode cX12_twice 13 = .ok (.iload_n 1, 1) := by decide +kernel
theorem dX12_twice_14 : decode cX12_twice 14 = .ok (.iload 4, 2) := by decide +kernel
theorem dX12_twice_16 : decode cX12_twice 16 = .ok (.iadd, 1) := by decide +kernel
theorem dX12_twice_17 : decode cX12_twice 17 = .ok (.iaload, 1) := by decide +kernel
theorem dX12_twice_18 : decode cX12_twice 18 = .ok (.iconst 2, 1) := by decide +kernel
theorem dX12_twice_19 : decode cX12_twice 19 = .ok (.imul, 1) := by decide +kernel
theorem dX12_twice_20 : decode cX12_twice 20 = .ok (.iload_n 3, 1) := by decide +kernel
theorem dX12_twice_21 : decode cX12_twice 21 = .ok (.iadd, 1) := by decide +kernel
theorem dX12_twice_22 : decode cX12_twice 22 = .ok (.istore 5, 2) := by decide +kernel
theorem dX12_twice_24 : decode cX12_twice 24 = .ok (.aload_n 0, 1) := by decide +kernel
theorem dX12_twice_25 : decode cX12_twice 25 = .ok (.iload_n 1, 1) := by decide +kernel
theorem dX12_twice_26 : decode cX12_twice 26 = .ok (.iload 4, 2) := by decide +kernel
theorem dX12_twice_28 : decode cX12_twice 28 = .ok (.iadd, 1) := by decide +kernel
theorem dX12_twice_29 : decode cX12_twice 29 = .ok (.iload 5, 2) := by decide +kernel
theorem dX12_twice_31 : decode cX12_twice 31 = .ok (.ldc 123, 2) := by decide +kernel
theorem dX12_twice_33 : decode cX12_twice 33 = .ok (.iand, 1) := by decide +kernel
theorem dX12_twice_34 : decode cX12_twice 34 = .ok (.iastore, 1) := by decide +kernel
theorem dX12_twice_35 : decode cX12_twice 35 = .ok (.iload 5, 2) := by decide +kernel
theorem dX12_twice_37 : decode cX12_twice 37 = .ok (.bipush 24, 2) := by decide +kernel
theorem dX12_twice_39 : decode cX12_twice 39 = .ok (.ishr, 1) := by decide +kernel
theorem dX12_twice_40 : decode cX12_twice 40 = .ok (.istore_n 3, 1) := by decide +kernel
theorem dX12_twice_41 : decode cX12_twice 41 = .ok (.iinc 4 1, 3) := by decide +kernel
theorem dX12_twice_44 : decode cX12_twice 44 = .ok (.goto (-39), 3) := by decide +kernel
theorem dX12_twice_47 : decode cX12_twice 47 = .ok (.return_, 1) := by decide +kernel
theorem dX12_part_0 : decode cX12_part 0 = .ok (.aload_n 0, 1) := by decide +kernel
theorem dX12_part_1 : decode cX12_part 1 = .ok (.getfield 7, 3) := by decide +kernel
theorem dX12_part_4 : decode cX12_part 4 = .ok (.iconst 0, 1) := by decide +kernel
theorem dX12_part_5 : decode cX12_part 5 = .ok (.lconst 0, 1) := by decide +kernel
theorem dX12_part_6 : decode cX12_part 6 = .ok (.invokestatic 127, 3) := by decide +kernel
theorem dX12_part_9 : decode cX12_part 9 = .ok (.aload_n 0, 1) := by decide +kernel
theorem dX12_part_10 : decode cX12_part 10 = .ok (.getfield 13, 3) := by decide +kernel
theorem dX12_part_13 : decode cX12_part 13 = .ok (.iconst 0, 1) := by decide +kernel
theorem dX12_part_14 : decode cX12_part 14 = .ok (.lconst 0, 1) := by decide +kernel
theorem dX12_part_15 : decode cX12_part 15 = .ok (.invokestatic 127, 3) := by decide +kernel
theorem dX12_part_18 : decode cX12_part 18 = .ok (.aload_n 1, 1) := by decide +kernel
theorem dX12_part_19 : decode cX12_part 19 = .ok (.iload_n 2, 1) := by decide +kernel
theorem dX12_part_20 : decode cX12_part 20 = .ok (.invokestatic 131, 3) := by decide +kernel
theorem dX12_part_23 : decode cX12_part 23 = .ok (.iconst 1, 1) := by decide +kernel
theorem dX12_part_24 : decode cX12_part 24 = .ok (.isub, 1) := by decide +kernel
theorem dX12_part_25 : decode cX12_part 25 = .ok (.istore 5, 2) := by decide +kernel
theorem dX12_part_27 : decode cX12_part 27 = .ok (.iload 5, 2) := by decide +kernel
theorem dX12_part_29 : decode cX12_part 29 = .ok (.ifCond .lt 72, 3) := by decide +kernel
theorem dX12_part_32 : decode cX12_part 32 = .ok (.aload_n 0, 1) := by decide +kernel
theorem dX12_part_33 : decode cX12_part 33 = .ok (.getfield 13, 3) := by decide +kernel
theorem dX12_part_36 : decode cX12_part 36 = .ok (.iconst 0, 1) := by decide +kernel
theorem dX12_part_37 : decode cX12_part 37 = .ok (.aload_n 1, 1) := by decide +kernel
theorem dX12_part_38 : decode cX12_part 38 = .ok (.iload_n 2, 1) := by decide +kernel
theorem dX12_part_39 : decode cX12_part 39 = .ok (.iload 5, 2) := by decide +kernel
theorem dX12_part_41 : decode cX12_part 41 = .ok (.invokestatic 135, 3) := by decide +kernel
theorem dX12_part_44 : decode cX12_part 44 = .ok (.invokestatic 139, 3) := by decide +kernel
theorem dX12_part_47 : decode cX12_part 47 = .ok (.aload_n 0, 1) := by decide +kernel
theorem dX12_part_48 : decode cX12_part 48 = .ok (.getfield 7, 3) := by decide +kernel
theorem dX12_part_51 : decode cX12_part 51 = .ok (.iconst 0, 1) := by decide +kernel
theorem dX12_part_52 : decode cX12_part 52 = .ok (.iconst 0, 1) := by decide +kernel
theorem dX12_part_53 : decode cX12_part 53 = .ok (.invokestatic 139, 3) := by decide +kernel
theorem dX12_part_56 : decode cX12_part 56 = .ok (.aload_n 0, 1) := by decide +kernel
theorem dX12_part_57 : decode cX12_part 57 = .ok (.getfield 13, 3) := by decide +kernel
theorem dX12_part_60 : decode cX12_part 60 = .ok (.iconst 0, 1) := by decide +kernel
theorem dX12_part_61 : decode cX12_part 61 = .ok (.aload_n 3, 1) := by decide +kernel
theorem dX12_part_62 : decode cX12_part 62 = .ok (.iload 4, 2) := by decide +kernel
theorem dX12_part_64 : decode cX12_part 64 = .ok (.invokestatic 143, 3) := by decide +kernel
theorem dX12_part_67 : decode cX12_part 67 = .ok (.ifCond .lt 28, 3) := by decide +kernel
theorem dX12_part_70 : decode cX12_part 70 = .ok (.aload_n 0, 1) := by decide +kernel
theorem dX12_part_71 : decode cX12_part 71 = .ok (.getfield 13, 3) := by decide +kernel
theorem dX12_part_74 : decode cX12_part 74 = .ok (.iconst 0, 1) := by decide +kernel
theorem dX12_part_75 : decode cX12_part 75 = .ok (.aload_n 3, 1) := by decide +kernel
theorem dX12_part_76 : decode cX12_part 76 = .ok (.iload 4, 2) := by decide +kernel
theorem dX12_part_78 : decode cX12_part 78 = .ok (.invokestatic 147, 3) := by decide +kernel
theorem dX12_part_81 : decode cX12_part 81 = .ok (.aload_n 0, 1) := by decide +kernel
theorem dX12_part_82 : decode cX12_part 82 = .ok (.getfield 7, 3) := by decide +kernel
theorem dX12_part_85 : decode cX12_part 85 = .ok (.iconst 0, 1) := by decide +kernel
theorem dX12_part_86 : decode cX12_part 86 = .ok (.aload_n 0, 1) := by decide +kernel
theorem dX12_part_87 : decode cX12_part 87 = .ok (.getfield 7, 3) := by decide +kernel
theorem dX12_part_90 : decode cX12_part 90 = .ok (.iconst 0, 1) := by decide +kernel
theorem dX12_part_91 : decode cX12_part 91 = .ok (.iaload, 1) := by decide +kernel
theorem dX12_part_92 : decode cX12_part 92 = .ok (.iconst 1, 1) := by decide +kernel
theorem dX12_part_93 : decode cX12_part 93 = .ok (.ior, 1) := by decide +kernel
theorem dX12_part_94 : decode cX12_part 94 = .ok (.iastore, 1) := by decide +kernel
theorem dX12_part_95 : decode cX12_part 95 = .ok (.iinc 5 (-1), 3) := by decide +kernel
theorem dX12_part_98 : decode cX12_part 98 = .ok (.goto (-71), 3) := by decide +kernel
theorem dX12_part_101 : decode cX12_part 101 = .ok (.return_, 1) := by decide +kernel
theorem dX12_findCommon_0 : decode cX12_findCommon 0 = .ok (.aload_n 1, 1) := by decide +kernel
theorem dX12_findCommon_1 : decode cX12_findCommon 1 = .ok (.iload_n 2, 1) := by decide +kernel
theorem dX12_findCommon_2 : decode cX12_findCommon 2 = .ok (.aload_n 0, 1) := by decide +kernel
theorem dX12_findCommon_3 : decode cX12_findCommon 3 = .ok (.getfield 16, 3) := by decide +kernel
theorem dX12_findCommon_6 : decode cX12_findCommon 6 = .ok (.iconst 0, 1) := by decide +kernel
theorem dX12_findCommon_7 : decode cX12_findCommon 7 = .ok (.invokestatic 151, 3) := by decide +kernel
theorem dX12_findCommon_10 : decode cX12_findCommon 10 = .ok (.aload_n 3, 1) := by decide +kernel
theorem dX12_findCommon_11 : decode cX12_findCommon 11 = .ok (.iload 4, 2) := by decide +kernel
theorem dX12_findCommon_13 : decode cX12_findCommon 13 = .ok (.aload_n 0, 1) := by decide +kernel
theorem dX12_findCommon_14 : decode cX12_findCommon 14 = .ok (.getfield 19, 3) := by decide +kernel
theorem dX12_findCommon_17 : decode cX12_findCommon 17 = .ok (.iconst 0, 1) := by decide +kernel
theorem dX12_findCommon_18 : decode cX12_findCommon 18 = .ok (.invokestatic 151, 3) := by decide +kernel
theorem dX12_findCommon_21 : decode cX12_findCommon 21 = .ok (.aload_n 0, 1) := by decide +kernel
theorem dX12_findCommon_22 : decode cX12_findCommon 22 = .ok (.getfield 19, 3) := by decide +kernel
theorem dX12_findCommon_25 : decode cX12_findCommon 25 = .ok (.iconst 0, 1) := by decide +kernel
theorem dX12_findCommon_26 : decode cX12_findCommon 26 = .ok (.invokestatic 131, 3) := by decide +kernel
theorem dX12_findCommon_29 : decode cX12_findCommon 29 = .ok (.ifCond .le 46, 3) := by decide +kernel
theorem dX12_findCommon_32 : decode cX12_findCommon 32 = .ok (.aload_n 0, 1) := by decide +kernel
theorem dX12_findCommon_33 : decode cX12_findCommon 33 = .ok (.aload_n 0, 1) := by decide +kernel
theorem dX12_findCommon_34 : decode cX12_findCommon 34 = .ok (.getfield 16, 3) := by decide +kernel
theorem dX12_findCommon_37 : decode cX12_findCommon 37 = .ok (.iconst 0, 1) := by decide +kernel
theorem dX12_findCommon_38 : decode cX12_findCommon 38 = .ok (.aload_n 0, 1) := by decide +kernel
theorem dX12_findCommon_39 : decode cX12_findCommon 39 = .ok (.getfield 19, 3) := by decide +kernel
theorem dX12_findCommon_42 : decode cX12_findCommon 42 = .ok (.iconst 0, 1) := by decide +kernel
theorem dX12_findCommon_43 : decode cX12_findCommon 43 = .ok (.invokevirtual 154, 3) := by decide +kernel
theorem dX12_findCommon_46 : decode cX12_findCommon 46 = .ok (.aload_n 0, 1) := by decide +kernel
theorem dX12_findCommon_47 : decode cX12_findCommon 47 = .ok (.getfield 19, 3) := by decide +kernel
theorem dX12_findCommon_50 : decode cX12_findCommon 50 = .ok (.iconst 0, 1) := by decide +kernel
theorem dX12_findCommon_51 : decode cX12_findCommon 51 = .ok (.aload_n 0, 1) := by decide +kernel
theorem dX12_findCommon_52 : decode cX12_findCommon 52 = .ok (.getfield 16, 3) := by decide +kernel
theorem dX12_findCommon_55 : decode cX12_findCommon 55 = .ok (.iconst 0, 1) := by decide +kernel
theorem dX12_findCommon_56 : decode cX12_findCommon 56 = .ok (.invokestatic 151, 3) := by decide +kernel
theorem dX12_findCommon_59 : decode cX12_findCommon 59 = .ok (.aload_n 0, 1) := by decide +kernel
theorem dX12_findCommon_60 : decode cX12_findCommon 60 = .ok (.getfield 13, 3) := by decide +kernel
theorem dX12_findCommon_63 : decode cX12_findCommon 63 = .ok (.iconst 0, 1) := by decide +kernel
theorem dX12_findCommon_64 : decode cX12_findCommon 64 = .ok (.aload_n 0, 1) := by decide +kernel
theorem dX12_findCommon_65 : decode cX12_findCommon 65 = .ok (.getfield 19, 3) := by decide +kernel
theorem dX12_findCommon_68 : decode cX12_findCommon 68 = .ok (.iconst 0, 1) := by decide +kernel
theorem dX12_findCommon_69 : decode cX12_findCommon 69 = .ok (.invokestatic 151, 3) := by decide +kernel
theorem dX12_findCommon_72 : decode cX12_findCommon 72 = .ok (.goto (-51), 3) := by decide +kernel
theorem dX12_findCommon_75 : decode cX12_findCommon 75 = .ok (.return_, 1) := by decide +kernel
theorem dX12_table_0 : decode cX12_table 0 = .ok (.iload_n 1, 1) := by decide +kernel
theorem dX12_table_1 : decode cX12_table 1 = .ok (.i2l, 1) := by decide +kernel
theorem dX12_table_2 : decode cX12_table 2 = .ok (.lconst 1, 1) := by decide +kernel
theorem dX12_table_3 : decode cX12_table 3 = .ok (.ldc2_w 157, 3) := by decide +kernel
theorem dX12_table_6 : decode cX12_table 6 = .ok (.invokestatic 159, 3) := by decide +kernel
theorem dX12_table_9 : decode cX12_table 9 = .ok (.ifCond .eq 15, 3) := by decide +kernel
theorem dX12_table_12 : decode cX12_table 12 = .ok (.iload_n 2, 1) := by decide +kernel
theorem dX12_table_13 : decode cX12_table 13 = .ok (.i2l, 1) := by decide +kernel
theorem dX12_table_14 : decode cX12_table 14 = .ok (.lconst 1, 1) := by decide +kernel
theorem dX12_table_15 : decode cX12_table 15 = .ok (.ldc2_w 157, 3) := by decide +kernel
theorem dX12_table_18 : decode cX12_table 18 = .ok (.invokestatic 159, 3) := by decide +kernel
theorem dX12_table_21 : decode cX12_table 21 = .ok (.ifCond .ne 6, 3) := by decide +kernel
theorem dX12_table_24 : decode cX12_table 24 = .ok (.bipush (-2), 2) := by decide +kernel
theorem dX12_table_26 : decode cX12_table 26 = .ok (.ireturn, 1) := by decide +kernel
theorem dX12_table_27 : decode cX12_table 27 = .ok (.aload_n 0, 1) := by decide +kernel
theorem dX12_table_28 : decode cX12_table 28 = .ok (.iload_n 1, 1) := by decide +kernel
theorem dX12_table_29 : decode cX12_table 29 = .ok (.putfield 115, 3) := by decide +kernel
theorem dX12_table_32 : decode cX12_table 32 = .ok (.aload_n 0, 1) := by decide +kernel
theorem dX12_table_33 : decode cX12_table 33 = .ok (.iload_n 2, 1) := by decide +kernel
theorem dX12_table_34 : decode cX12_table 34 = .ok (.putfield 118, 3) := by decide +kernel
theorem dX12_table_37 : decode cX12_table 37 = .ok (.iconst 0, 1) := by decide +kernel
theorem dX12_table_38 : decode cX12_table 38 = .ok (.istore_n 3, 1) := by decide +kernel
theorem dX12_table_39 : decode cX12_table 39 = .ok (.iload_n 3, 1) := by decide +kernel
theorem dX12_table_40 : decode cX12_table 40 = .ok (.bipush 25, 2) := by decide +kernel
theorem dX12_table_42 : decode cX12_table 42 = .ok (.if_icmp .ge 16, 3) := by decide +kernel
theorem dX12_table_45 : decode cX12_table 45 = .ok (.aload_n 0, 1) := by decide +kernel
theorem dX12_table_46 : decode cX12_table 46 = .ok (.getfield 22, 3) := by decide +kernel
theorem dX12_table_49 : decode cX12_table 49 = .ok (.iload_n 3, 1) := by decide +kernel
theorem dX12_table_50 : decode cX12_table 50 = .ok (.iconst 0, 1) := by decide +kernel
theorem dX12_table_51 : decode cX12_table 51 = .ok (.iastore, 1) := by decide +kernel
theorem dX12_table_52 : decode cX12_table 52 = .ok (.iinc 3 1, 3) := by decide +kernel
theorem dX12_table_55 : decode cX12_table 55 = .ok (.goto (-16), 3) := by decide +kernel
theorem dX12_table_58 : decode cX12_table 58 = .ok (.aload_n 0, 1) := by decide +kernel
theorem dX12_table_59 : decode cX12_table 59 = .ok (.iconst 0, 1) := by decide +kernel
theorem dX12_table_60 : decode cX12_table 60 = .ok (.putfield 163, 3) := by decide +kernel
theorem dX12_table_63 : decode cX12_table 63 = .ok (.iconst 1, 1) := by decide +kernel
theorem dX12_table_64 : decode cX12_table 64 = .ok (.ireturn, 1) := by decide +kernel
theorem dX12_cell_0 : decode cX12_cell 0 = .ok (.iload_n 1, 1) := by decide +kernel
theorem dX12_cell_1 : decode cX12_cell 1 = .ok (.i2l, 1) := by decide +kernel
theorem dX12_cell_2 : decode cX12_cell 2 = .ok (.lconst 0, 1) := by decide +kernel
theorem dX12_cell_3 : decode cX12_cell 3 = .ok (.aload_n 0, 1) := by decide +kernel
theorem dX12_cell_4 : decode cX12_cell 4 = .ok (.getfield 115, 3) := by decide +kernel
theorem dX12_cell_7 : decode cX12_cell 7 = .ok (.iconst 1, 1) := by decide +kernel
theorem dX12_cell_8 : decode cX12_cell 8 = .ok (.isub, 1) := by decide +kernel
theorem dX12_cell_9 : decode cX12_cell 9 = .ok (.i2l, 1) := by decide +kernel
theorem dX12_cell_10 : decode cX12_cell 10 = .ok (.invokestatic 159, 3) := by decide +kernel
theorem dX12_cell_13 : decode cX12_cell 13 = .ok (.ifCond .eq 19, 3) := by decide +kernel
theorem dX12_cell_16 : decode cX12_cell 16 = .ok (.iload_n 2, 1) := by decide +kernel
theorem dX12_cell_17 : decode cX12_cell 17 = .ok (.i2l, 1) := by decide +kernel
theorem dX12_cell_18 : decode cX12_cell 18 = .ok (.lconst 0, 1) := by decide +kernel
theorem dX12_cell_19 : decode cX12_cell 19 = .ok (.aload_n 0, 1) := by decide +kernel
theorem dX12_cell_20 : decode cX12_cell 20 = .ok (.getfield 118, 3) := by decide +kernel
theorem dX12_cell_23 : decode cX12_cell 23 = .ok (.iconst 1, 1) := by decide +kernel
theorem dX12_cell_24 : decode cX12_cell 24 = .ok (.isub, 1) := by decide +kernel
theorem dX12_cell_25 : decode cX12_cell 25 = .ok (.i2l, 1) := by decide +kernel
theorem dX12_cell_26 : decode cX12_cell 26 = .ok (.invokestatic 159, 3) := by decide +kernel
theorem dX12_cell_29 : decode cX12_cell 29 = .ok (.ifCond .ne 5, 3) := by decide +kernel
theorem dX12_cell_32 : decode cX12_cell 32 = .ok (.iconst (-1), 1) := by decide +kernel
theorem dX12_cell_33 : decode cX12_cell 33 = .ok (.ireturn, 1) := by decide +kernel
theorem dX12_cell_34 : decode cX12_cell 34 = .ok (.iload_n 3, 1) := by decide +kernel
theorem dX12_cell_35 : decode cX12_cell 35 = .ok (.i2l, 1) := by decide +kernel
theorem dX12_cell_36 : decode cX12_cell 36 = .ok (.lconst 0, 1) := by decide +kernel
theorem dX12_cell_37 : decode cX12_cell 37 = .ok (.ldc2_w 166, 3) := by decide +kernel
theorem dX12_cell_40 : decode cX12_cell 40 = .ok (.invokestatic 159, 3) := by decide +kernel
theorem dX12_cell_43 : decode cX12_cell 43 = .ok (.ifCond .ne 6, 3) := by decide +kernel
theorem dX12_cell_46 : decode cX12_cell 46 = .ok (.bipush (-2), 2) := by decide +kernel
theorem dX12_cell_48 : decode cX12_cell 48 = .ok (.ireturn, 1) := by decide +kernel
theorem dX12_cell_49 : decode cX12_cell 49 = .ok (.aload_n 0, 1) := by decide +kernel
theorem dX12_cell_50 : decode cX12_cell 50 = .ok (.getfield 118, 3) := by decide +kernel
theorem dX12_cell_53 : decode cX12_cell 53 = .ok (.iload_n 1, 1) := by decide +kernel
theorem dX12_cell_54 : decode cX12_cell 54 = .ok (.imul, 1) := by decide +kernel
theorem dX12_cell_55 : decode cX12_cell 55 = .ok (.iload_n 2, 1) := by decide +kernel
theorem dX12_cell_56 : decode cX12_cell 56 = .ok (.iadd, 1) := by decide +kernel
theorem dX12_cell_57 : decode cX12_cell 57 = .ok (.istore 4, 2) := by decide +kernel
theorem dX12_cell_59 : decode cX12_cell 59 = .ok (.aload_n 0, 1) := by decide +kernel
theorem dX12_cell_60 : decode cX12_cell 60 = .ok (.getfield 22, 3) := by decide +kernel
theorem dX12_cell_63 : decode cX12_cell 63 = .ok (.iload 4, 2) := by decide +kernel
theorem dX12_cell_65 : decode cX12_cell 65 = .ok (.iaload, 1) := by decide +kernel
theorem dX12_cell_66 : decode cX12_cell 66 = .ok (.istore 5, 2) := by decide +kernel
theorem dX12_cell_68 : decode cX12_cell 68 = .ok (.aload_n 0, 1) := by decide +kernel
theorem dX12_cell_69 : decode cX12_cell 69 = .ok (.getfield 163, 3) := by decide +kernel
theorem dX12_cell_72 : decode cX12_cell 72 = .ok (.iload 5, 2) := by decide +kernel
theorem dX12_cell_74 : decode cX12_cell 74 = .ok (.isub, 1) := by decide +kernel
theorem dX12_cell_75 : decode cX12_cell 75 = .ok (.iload_n 3, 1) := by decide +kernel
theorem dX12_cell_76 : decode cX12_cell 76 = .ok (.iadd, 1) := by decide +kernel
theorem dX12_cell_77 : decode cX12_cell 77 = .ok (.bipush 60, 2) := by decide +kernel
theorem dX12_cell_79 : decode cX12_cell 79 = .ok (.if_icmp .le 6, 3) := by decide +kernel
theorem dX12_cell_82 : decode cX12_cell 82 = .ok (.bipush (-4), 2) := by decide +kernel
theorem dX12_cell_84 : decode cX12_cell 84 = .ok (.ireturn, 1) := by decide +kernel
theorem dX12_cell_85 : decode cX12_cell 85 = .ok (.aload_n 0, 1) := by decide +kernel
theorem dX12_cell_86 : decode cX12_cell 86 = .ok (.dup, 1) := by decide +kernel
theorem dX12_cell_87 : decode cX12_cell 87 = .ok (.getfield 163, 3) := by decide +kernel
theorem dX12_cell_90 : decode cX12_cell 90 = .ok (.iload_n 3, 1) := by decide +kernel
theorem dX12_cell_91 : decode cX12_cell 91 = .ok (.iload 5, 2) := by decide +kernel
theorem dX12_cell_93 : decode cX12_cell 93 = .ok (.isub, 1) := by decide +kernel
theorem dX12_cell_94 : decode cX12_cell 94 = .ok (.iadd, 1) := by decide +kernel
theorem dX12_cell_95 : decode cX12_cell 95 = .ok (.putfield 163, 3) := by decide +kernel
theorem dX12_cell_98 : decode cX12_cell 98 = .ok (.aload_n 0, 1) := by decide +kernel
theorem dX12_cell_99 : decode cX12_cell 99 = .ok (.getfield 22, 3) := by decide +kernel
theorem dX12_cell_102 : decode cX12_cell 102 = .ok (.iload 4, 2) := by decide +kernel
theorem dX12_cell_104 : decode cX12_cell 104 = .ok (.iload_n 3, 1) := by decide +kernel
theorem dX12_cell_105 : decode cX12_cell 105 = .ok (.iastore, 1) := by decide +kernel
theorem dX12_cell_106 : decode cX12_cell 106 = .ok (.iload 5, 2) := by decide +kernel
theorem dX12_cell_108 : decode cX12_cell 108 = .ok (.ireturn, 1) := by decide +kernel
theorem dX12_marginOfRow_0 : decode cX12_marginOfRow 0 = .ok (.iconst 0, 1) := by decide +kernel
theorem dX12_marginOfRow_1 : decode cX12_marginOfRow 1 = .ok (.istore_n 2, 1) := by decide +kernel
theorem dX12_marginOfRow_2 : decode cX12_marginOfRow 2 = .ok (.iconst 0, 1) := by decide +kernel
theorem dX12_marginOfRow_3 : decode cX12_marginOfRow 3 = .ok (.istore_n 3, 1) := by decide +kernel
theorem dX12_marginOfRow_4 : decode cX12_marginOfRow 4 = .ok (.iload_n 3, 1) := by decide +kernel
theorem dX12_marginOfRow_5 : decode cX12_marginOfRow 5 = .ok (.aload_n 0, 1) := by decide +kernel
theorem dX12_marginOfRow_6 : decode cX12_marginOfRow 6 = .ok (.getfield 118, 3) := by decide +kernel
theorem dX12_marginOfRow_9 : decode cX12_marginOfRow 9 = .ok (.if_icmp .ge 25, 3) := by decide +kernel
theorem dX12_marginOfRow_12 : decode cX12_marginOfRow 12 = .ok (.iload_n 2, 1) := by decide +kernel
theorem dX12_marginOfRow_13 : decode cX12_marginOfRow 13 = .ok (.aload_n 0, 1) := by decide +kernel
theorem dX12_marginOfRow_14 : decode cX12_marginOfRow 14 = .ok (.getfield 22, 3) := by decide +kernel
theorem dX12_marginOfRow_17 : decode cX12_marginOfRow 17 = .ok (.aload_n 0, 1) := by decide +kernel
theorem dX12_marginOfRow_18 : decode cX12_marginOfRow 18 = .ok (.getfield 118, 3) := by decide +kernel
theorem dX12_marginOfRow_21 : decode cX12_marginOfRow 21 = .ok (.iload_n 1, 1) := by decide +kernel
theorem dX12_marginOfRow_22 : decode cX12_marginOfRow 22 = .ok (.imul, 1) := by decide +kernel
theorem dX12_marginOfRow_23 : decode cX12_marginOfRow 23 = .ok (.iload_n 3, 1) := by decide +kernel
theorem dX12_marginOfRow_24 : decode cX12_marginOfRow 24 = .ok (.iadd, 1) := by decide +kernel
theorem dX12_marginOfRow_25 : decode cX12_marginOfRow 25 = .ok (.iaload, 1) := by decide +kernel
theorem dX12_marginOfRow_26 : decode cX12_marginOfRow 26 = .ok (.iadd, 1) := by decide +kernel
theorem dX12_marginOfRow_27 : decode cX12_marginOfRow 27 = .ok (.istore_n 2, 1) := by decide +kernel
theorem dX12_marginOfRow_28 : decode cX12_marginOfRow 28 = .ok (.iinc 3 1, 3) := by decide +kernel
theorem dX12_marginOfRow_31 : decode cX12_marginOfRow 31 = .ok (.goto (-27), 3) := by decide +kernel
theorem dX12_marginOfRow_34 : decode cX12_marginOfRow 34 = .ok (.iload_n 2, 1) := by decide +kernel
theorem dX12_marginOfRow_35 : decode cX12_marginOfRow 35 = .ok (.ireturn, 1) := by decide +kernel
theorem dX12_marginOfColumn_0 : decode cX12_marginOfColumn 0 = .ok (.iconst 0, 1) := by decide +kernel
theorem dX12_marginOfColumn_1 : decode cX12_marginOfColumn 1 = .ok (.istore_n 2, 1) := by decide +kernel
theorem dX12_marginOfColumn_2 : decode cX12_marginOfColumn 2 = .ok (.iconst 0, 1) := by decide +kernel
theorem dX12_marginOfColumn_3 : decode cX12_marginOfColumn 3 = .ok (.istore_n 3, 1) := by decide +kernel
theorem dX12_marginOfColumn_4 : decode cX12_marginOfColumn 4 = .ok (.iload_n 3, 1) := by decide +kernel
theorem dX12_marginOfColumn_5 : decode cX12_marginOfColumn 5 = .ok (.aload_n 0, 1) := by decide +kernel
theorem dX12_marginOfColumn_6 : decode cX12_marginOfColumn 6 = .ok (.getfield 115, 3) := by decide +kernel
theorem dX12_marginOfColumn_9 : decode cX12_marginOfColumn 9 = .ok (.if_icmp .ge 25, 3) := by decide +kernel
theorem dX12_marginOfColumn_12 : decode cX12_marginOfColumn 12 = .ok (.iload_n 2, 1) := by decide +kernel
theorem dX12_marginOfColumn_13 : decode cX12_marginOfColumn 13 = .ok (.aload_n 0, 1) := by decide +kernel
theorem dX12_marginOfColumn_14 : decode cX12_marginOfColumn 14 = .ok (.getfield 22, 3) := by decide +kernel
theorem dX12_marginOfColumn_17 : decode cX12_marginOfColumn 17 = .ok (.aload_n 0, 1) := by decide +kernel
theorem dX12_marginOfColumn_18 : decode cX12_marginOfColumn 18 = .ok (.getfield 118, 3) := by decide +kernel
theorem dX12_marginOfColumn_21 : decode cX12_marginOfColumn 21 = .ok (.iload_n 3, 1) := by decide +kernel
theorem dX12_marginOfColumn_22 : decode cX12_marginOfColumn 22 = .ok (.imul, 1) := by decide +kernel
theorem dX12_marginOfColumn_23 : decode cX12_marginOfColumn 23 = .ok (.iload_n 1, 1) := by decide +kernel
theorem dX12_marginOfColumn_24 : decode cX12_marginOfColumn 24 = .ok (.iadd, 1) := by decide +kernel
theorem dX12_marginOfColumn_25 : decode cX12_marginOfColumn 25 = .ok (.iaload, 1) := by decide +kernel
theorem dX12_marginOfColumn_26 : decode cX12_marginOfColumn 26 = .ok (.iadd, 1) := by decide +kernel
theorem dX12_marginOfColumn_27 : decode cX12_marginOfColumn 27 = .ok (.istore_n 2, 1) := by decide +kernel
theorem dX12_marginOfColumn_28 : decode cX12_marginOfColumn 28 = .ok (.iinc 3 1, 3) := by decide +kernel
theorem dX12_marginOfColumn_31 : decode cX12_marginOfColumn 31 = .ok (.goto (-27), 3) := by decide +kernel
theorem dX12_marginOfColumn_34 : decode cX12_marginOfColumn 34 = .ok (.iload_n 2, 1) := by decide +kernel
theorem dX12_marginOfColumn_35 : decode cX12_marginOfColumn 35 = .ok (.ireturn, 1) := by decide +kernel
theorem dX12_about_0 : decode cX12_about 0 = .ok (.iload_n 3, 1) := by decide +kernel
theorem dX12_about_1 : decode cX12_about 1 = .ok (.i2l, 1) := by decide +kernel
theorem dX12_about_2 : decode cX12_about 2 = .ok (.lconst 0, 1) := by decide +kernel
theorem dX12_about_3 : decode cX12_about 3 = .ok (.ldc2_w 168, 3) := by decide +kernel
theorem dX12_about_6 : decode cX12_about 6 = .ok (.invokestatic 159, 3) := by decide +kernel
theorem dX12_about_9 : decode cX12_about 9 = .ok (.ifCond .ne 6, 3) := by decide +kernel
theorem dX12_about_12 : decode cX12_about 12 = .ok (.bipush (-2), 2) := by decide +kernel
theorem dX12_about_14 : decode cX12_about 14 = .ok (.ireturn, 1) := by decide +kernel
theorem dX12_about_15 : decode cX12_about 15 = .ok (.iload_n 3, 1) := by decide +kernel
theorem dX12_about_16 : decode cX12_about 16 = .ok (.iconst 2, 1) := by decide +kernel
theorem dX12_about_17 : decode cX12_about 17 = .ok (.if_icmp .ge 19, 3) := by decide +kernel
theorem dX12_about_20 : decode cX12_about 20 = .ok (.iload_n 1, 1) := by decide +kernel
theorem dX12_about_21 : decode cX12_about 21 = .ok (.i2l, 1) := by decide +kernel
theorem dX12_about_22 : decode cX12_about 22 = .ok (.lconst 0, 1) := by decide +kernel
theorem dX12_about_23 : decode cX12_about 23 = .ok (.aload_n 0, 1) := by decide +kernel
theorem dX12_about_24 : decode cX12_about 24 = .ok (.getfield 115, 3) := by decide +kernel
theorem dX12_about_27 : decode cX12_about 27 = .ok (.iconst 1, 1) := by decide +kernel
theorem dX12_about_28 : decode cX12_about 28 = .ok (.isub, 1) := by decide +kernel
theorem dX12_about_29 : decode cX12_about 29 = .ok (.i2l, 1) := by decide +kernel
theorem dX12_about_30 : decode cX12_about 30 = .ok (.invokestatic 159, 3) := by decide +kernel
theorem dX12_about_33 : decode cX12_about 33 = .ok (.ifCond .eq 28, 3) := by decide +kernel
theorem dX12_about_36 : decode cX12_about 36 = .ok (.iload_n 3, 1) := by decide +kernel
theorem dX12_about_37 : decode cX12_about 37 = .ok (.ifCond .eq 8, 3) := by decide +kernel
theorem dX12_about_40 : decode cX12_about 40 = .ok (.iload_n 3, 1) := by decide +kernel
theorem dX12_about_41 : decode cX12_about 41 = .ok (.iconst 2, 1) := by decide +kernel
theorem dX12_about_42 : decode cX12_about 42 = .ok (.if_icmp .ne 21, 3) := by decide +kernel
theorem dX12_about_45 : decode cX12_about 45 = .ok (.iload_n 2, 1) := by decide +kernel
theorem dX12_about_46 : decode cX12_about 46 = .ok (.i2l, 1) := by decide +kernel
theorem dX12_about_47 : decode cX12_about 47 = .ok (.lconst 0, 1) := by decide +kernel
theorem dX12_about_48 : decode cX12_about 48 = .ok (.aload_n 0, 1) := by decide +kernel
theorem dX12_about_49 : decode cX12_about 49 = .ok (.getfield 118, 3) := by decide +kernel
theorem dX12_about_52 : decode cX12_about 52 = .ok (.iconst 1, 1) := by decide +kernel
theorem dX12_about_53 : decode cX12_about 53 = .ok (.isub, 1) := by decide +kernel
theorem dX12_about_54 : decode cX12_about 54 = .ok (.i2l, 1) := by decide +kernel
theorem dX12_about_55 : decode cX12_about 55 = .ok (.invokestatic 159, 3) := by decide +kernel
theorem dX12_about_58 : decode cX12_about 58 = .ok (.ifCond .ne 5, 3) := by decide +kernel
theorem dX12_about_61 : decode cX12_about 61 = .ok (.iconst (-1), 1) := by decide +kernel
theorem dX12_about_62 : decode cX12_about 62 = .ok (.ireturn, 1) := by decide +kernel
theorem dX12_about_63 : decode cX12_about 63 = .ok (.iload_n 3, 1) := by decide +kernel
theorem dX12_about_64 : decode cX12_about 64 = .ok (.ifCond .ne 19, 3) := by decide +kernel
theorem dX12_about_67 : decode cX12_about 67 = .ok (.aload_n 0, 1) := by decide +kernel
theorem dX12_about_68 : decode cX12_about 68 = .ok (.getfield 22, 3) := by decide +kernel
theorem dX12_about_71 : decode cX12_about 71 = .ok (.aload_n 0, 1) := by decide +kernel
theorem dX12_about_72 : decode cX12_about 72 = .ok (.getfield 118, 3) := by decide +kernel
theorem dX12_about_75 : decode cX12_about 75 = .ok (.iload_n 1, 1) := by decide +kernel
theorem dX12_about_76 : decode cX12_about 76 = .ok (.imul, 1) := by decide +kernel
theorem dX12_about_77 : decode cX12_about 77 = .ok (.iload_n 2, 1) := by decide +kernel
theorem dX12_about_78 : decode cX12_about 78 = .ok (.iadd, 1) := by decide +kernel
theorem dX12_about_79 : decode cX12_about 79 = .ok (.iaload, 1) := by decide +kernel
theorem dX12_about_80 : decode cX12_about 80 = .ok (.goto 33, 3) := by decide +kernel
theorem dX12_about_83 : decode cX12_about 83 = .ok (.iload_n 3, 1) := by decide +kernel
theorem dX12_about_84 : decode cX12_about 84 = .ok (.iconst 1, 1) := by decide +kernel
theorem dX12_about_85 : decode cX12_about 85 = .ok (.if_icmp .ne 11, 3) := by decide +kernel
theorem dX12_about_88 : decode cX12_about 88 = .ok (.aload_n 0, 1) := by decide +kernel
theorem dX12_about_89 : decode cX12_about 89 = .ok (.iload_n 1, 1) := by decide +kernel
theorem dX12_about_90 : decode cX12_about 90 = .ok (.invokevirtual 170, 3) := by decide +kernel
theorem dX12_about_93 : decode cX12_about 93 = .ok (.goto 20, 3) := by decide +kernel
theorem dX12_about_96 : decode cX12_about 96 = .ok (.iload_n 3, 1) := by decide +kernel
theorem dX12_about_97 : decode cX12_about 97 = .ok (.iconst 2, 1) := by decide +kernel
theorem dX12_about_98 : decode cX12_about 98 = .ok (.if_icmp .ne 11, 3) := by decide +kernel
theorem dX12_about_101 : decode cX12_about 101 = .ok (.aload_n 0, 1) := by decide +kernel
theorem dX12_about_102 : decode cX12_about 102 = .ok (.iload_n 2, 1) := by decide +kernel
theorem dX12_about_103 : decode cX12_about 103 = .ok (.invokevirtual 174, 3) := by decide +kernel
theorem dX12_about_106 : decode cX12_about 106 = .ok (.goto 7, 3) := by decide +kernel
theorem dX12_about_109 : decode cX12_about 109 = .ok (.aload_n 0, 1) := by decide +kernel
theorem dX12_about_110 : decode cX12_about 110 = .ok (.getfield 163, 3) := by decide +kernel
theorem dX12_about_113 : decode cX12_about 113 = .ok (.ireturn, 1) := by decide +kernel
theorem dX12_sample_0 : decode cX12_sample 0 = .ok (.iload_n 1, 1) := by decide +kernel
theorem dX12_sample_1 : decode cX12_sample 1 = .ok (.i2l, 1) := by decide +kernel
theorem dX12_sample_2 : decode cX12_sample 2 = .ok (.lconst 0, 1) := by decide +kernel
theorem dX12_sample_3 : decode cX12_sample 3 = .ok (.lconst 1, 1) := by decide +kernel
theorem dX12_sample_4 : decode cX12_sample 4 = .ok (.invokestatic 159, 3) := by decide +kernel
theorem dX12_sample_7 : decode cX12_sample 7 = .ok (.ifCond .ne 5, 3) := by decide +kernel
theorem dX12_sample_10 : decode cX12_sample 10 = .ok (.iconst (-1), 1) := by decide +kernel
theorem dX12_sample_11 : decode cX12_sample 11 = .ok (.ireturn, 1) := by decide +kernel
theorem dX12_sample_12 : decode cX12_sample 12 = .ok (.iload_n 2, 1) := by decide +kernel
theorem dX12_sample_13 : decode cX12_sample 13 = .ok (.i2l, 1) := by decide +kernel
theorem dX12_sample_14 : decode cX12_sample 14 = .ok (.ldc2_w 177, 3) := by decide +kernel
theorem dX12_sample_17 : decode cX12_sample 17 = .ok (.ldc2_w 179, 3) := by decide +kernel
theorem dX12_sample_20 : decode cX12_sample 20 = .ok (.invokestatic 159, 3) := by decide +kernel
theorem dX12_sample_23 : decode cX12_sample 23 = .ok (.ifCond .ne 6, 3) := by decide +kernel
theorem dX12_sample_26 : decode cX12_sample 26 = .ok (.bipush (-2), 2) := by decide +kernel
theorem dX12_sample_28 : decode cX12_sample 28 = .ok (.ireturn, 1) := by decide +kernel
theorem dX12_sample_29 : decode cX12_sample 29 = .ok (.aload_n 0, 1) := by decide +kernel
theorem dX12_sample_30 : decode cX12_sample 30 = .ok (.getfield 28, 3) := by decide +kernel
theorem dX12_sample_33 : decode cX12_sample 33 = .ok (.iload_n 1, 1) := by decide +kernel
theorem dX12_sample_34 : decode cX12_sample 34 = .ok (.iaload, 1) := by decide +kernel
theorem dX12_sample_35 : decode cX12_sample 35 = .ok (.bipush 15, 2) := by decide +kernel
theorem dX12_sample_37 : decode cX12_sample 37 = .ok (.if_icmp .ne 6, 3) := by decide +kernel
theorem dX12_sample_40 : decode cX12_sample 40 = .ok (.bipush (-4), 2) := by decide +kernel
theorem dX12_sample_42 : decode cX12_sample 42 = .ok (.ireturn, 1) := by decide +kernel
theorem dX12_sample_43 : decode cX12_sample 43 = .ok (.aload_n 0, 1) := by decide +kernel
theorem dX12_sample_44 : decode cX12_sample 44 = .ok (.getfield 25, 3) := by decide +kernel
theorem dX12_sample_47 : decode cX12_sample 47 = .ok (.bipush 15, 2) := by decide +kernel
theorem dX12_sample_49 : decode cX12_sample 49 = .ok (.iload_n 1, 1) := by decide +kernel
theorem dX12_sample_50 : decode cX12_sample 50 = .ok (.imul, 1) := by decide +kernel
theorem dX12_sample_51 : decode cX12_sample 51 = .ok (.aload_n 0, 1) := by decide +kernel
theorem dX12_sample_52 : decode cX12_sample 52 = .ok (.getfield 28, 3) := by decide +kernel
theorem dX12_sample_55 : decode cX12_sample 55 = .ok (.iload_n 1, 1) := by decide +kernel
theorem dX12_sample_56 : decode cX12_sample 56 = .ok (.iaload, 1) := by decide +kernel
theorem dX12_sample_57 : decode cX12_sample 57 = .ok (.iadd, 1) := by decide +kernel
theorem dX12_sample_58 : decode cX12_sample 58 = .ok (.iload_n 2, 1) := by decide +kernel
theorem dX12_sample_59 : decode cX12_sample 59 = .ok (.iastore, 1) := by decide +kernel
theorem dX12_sample_60 : decode cX12_sample 60 = .ok (.aload_n 0, 1) := by decide +kernel
theorem dX12_sample_61 : decode cX12_sample 61 = .ok (.getfield 28, 3) := by decide +kernel
theorem dX12_sample_64 : decode cX12_sample 64 = .ok (.iload_n 1, 1) := by decide +kernel
theorem dX12_sample_65 : decode cX12_sample 65 = .ok (.dup2, 1) := by decide +kernel
theorem dX12_sample_66 : decode cX12_sample 66 = .ok (.iaload, 1) := by decide +kernel
theorem dX12_sample_67 : decode cX12_sample 67 = .ok (.iconst 1, 1) := by decide +kernel
theorem dX12_sample_68 : decode cX12_sample 68 = .ok (.iadd, 1) := by decide +kernel
theorem dX12_sample_69 : decode cX12_sample 69 = .ok (.iastore, 1) := by decide +kernel
theorem dX12_sample_70 : decode cX12_sample 70 = .ok (.aload_n 0, 1) := by decide +kernel
theorem dX12_sample_71 : decode cX12_sample 71 = .ok (.getfield 28, 3) := by decide +kernel
theorem dX12_sample_74 : decode cX12_sample 74 = .ok (.iload_n 1, 1) := by decide +kernel
theorem dX12_sample_75 : decode cX12_sample 75 = .ok (.iaload, 1) := by decide +kernel
theorem dX12_sample_76 : decode cX12_sample 76 = .ok (.ireturn, 1) := by decide +kernel
theorem dX12_pair_0 : decode cX12_pair 0 = .ok (.iload_n 1, 1) := by decide +kernel
theorem dX12_pair_1 : decode cX12_pair 1 = .ok (.i2l, 1) := by decide +kernel
theorem dX12_pair_2 : decode cX12_pair 2 = .ok (.ldc2_w 177, 3) := by decide +kernel
theorem dX12_pair_5 : decode cX12_pair 5 = .ok (.ldc2_w 179, 3) := by decide +kernel
theorem dX12_pair_8 : decode cX12_pair 8 = .ok (.invokestatic 159, 3) := by decide +kernel
theorem dX12_pair_11 : decode cX12_pair 11 = .ok (.ifCond .eq 17, 3) := by decide +kernel
theorem dX12_pair_14 : decode cX12_pair 14 = .ok (.iload_n 2, 1) := by decide +kernel
theorem dX12_pair_15 : decode cX12_pair 15 = .ok (.i2l, 1) := by decide +kernel
theorem dX12_pair_16 : decode cX12_pair 16 = .ok (.ldc2_w 177, 3) := by decide +kernel
theorem dX12_pair_19 : decode cX12_pair 19 = .ok (.ldc2_w 179, 3) := by decide +kernel
theorem dX12_pair_22 : decode cX12_pair 22 = .ok (.invokestatic 159, 3) := by decide +kernel
theorem dX12_pair_25 : decode cX12_pair 25 = .ok (.ifCond .ne 6, 3) := by decide +kernel
theorem dX12_pair_28 : decode cX12_pair 28 = .ok (.bipush (-2), 2) := by decide +kernel
theorem dX12_pair_30 : decode cX12_pair 30 = .ok (.ireturn, 1) := by decide +kernel
theorem dX12_pair_31 : decode cX12_pair 31 = .ok (.aload_n 0, 1) := by decide +kernel
theorem dX12_pair_32 : decode cX12_pair 32 = .ok (.getfield 181, 3) := by decide +kernel
theorem dX12_pair_35 : decode cX12_pair 35 = .ok (.bipush 30, 2) := by decide +kernel
theorem dX12_pair_37 : decode cX12_pair 37 = .ok (.if_icmp .ne 6, 3) := by decide +kernel
theorem dX12_pair_40 : decode cX12_pair 40 = .ok (.bipush (-4), 2) := by decide +kernel
theorem dX12_pair_42 : decode cX12_pair 42 = .ok (.ireturn, 1) := by decide +kernel
theorem dX12_pair_43 : decode cX12_pair 43 = .ok (.aload_n 0, 1) := by decide +kernel
theorem dX12_pair_44 : decode cX12_pair 44 = .ok (.getfield 31, 3) := by decide +kernel
theorem dX12_pair_47 : decode cX12_pair 47 = .ok (.aload_n 0, 1) := by decide +kernel
theorem dX12_pair_48 : decode cX12_pair 48 = .ok (.getfield 181, 3) := by decide +kernel
theorem dX12_pair_51 : decode cX12_pair 51 = .ok (.iload_n 1, 1) := by decide +kernel
theorem dX12_pair_52 : decode cX12_pair 52 = .ok (.iload_n 2, 1) := by decide +kernel
theorem dX12_pair_53 : decode cX12_pair 53 = .ok (.isub, 1) := by decide +kernel
theorem dX12_pair_54 : decode cX12_pair 54 = .ok (.iastore, 1) := by decide +kernel
theorem dX12_pair_55 : decode cX12_pair 55 = .ok (.aload_n 0, 1) := by decide +kernel
theorem dX12_pair_56 : decode cX12_pair 56 = .ok (.dup, 1) := by decide +kernel
theorem dX12_pair_57 : decode cX12_pair 57 = .ok (.getfield 181, 3) := by decide +kernel
theorem dX12_pair_60 : decode cX12_pair 60 = .ok (.iconst 1, 1) := by decide +kernel
theorem dX12_pair_61 : decode cX12_pair 61 = .ok (.iadd, 1) := by decide +kernel
theorem dX12_pair_62 : decode cX12_pair 62 = .ok (.putfield 181, 3) := by decide +kernel
theorem dX12_pair_65 : decode cX12_pair 65 = .ok (.aload_n 0, 1) := by decide +kernel
theorem dX12_pair_66 : decode cX12_pair 66 = .ok (.getfield 181, 3) := by decide +kernel
theorem dX12_pair_69 : decode cX12_pair 69 = .ok (.ireturn, 1) := by decide +kernel
theorem dX12_clear_0 : decode cX12_clear 0 = .ok (.iload_n 1, 1) := by decide +kernel
theorem dX12_clear_1 : decode cX12_clear 1 = .ok (.tableswitch 97 0 3 #[31, 61, 73, 85], 31) := by decide +kernel
theorem dX12_clear_32 : decode cX12_clear 32 = .ok (.aload_n 0, 1) := by decide +kernel
theorem dX12_clear_33 : decode cX12_clear 33 = .ok (.getfield 28, 3) := by decide +kernel
theorem dX12_clear_36 : decode cX12_clear 36 = .ok (.iconst 0, 1) := by decide +kernel
theorem dX12_clear_37 : decode cX12_clear 37 = .ok (.iaload, 1) := by decide +kernel
theorem dX12_clear_38 : decode cX12_clear 38 = .ok (.aload_n 0, 1) := by decide +kernel
theorem dX12_clear_39 : decode cX12_clear 39 = .ok (.getfield 28, 3) := by decide +kernel
theorem dX12_clear_42 : decode cX12_clear 42 = .ok (.iconst 1, 1) := by decide +kernel
theorem dX12_clear_43 : decode cX12_clear 43 = .ok (.iaload, 1) := by decide +kernel
theorem dX12_clear_44 : decode cX12_clear 44 = .ok (.iadd, 1) := by decide +kernel
theorem dX12_clear_45 : decode cX12_clear 45 = .ok (.istore_n 2, 1) := by decide +kernel
theorem dX12_clear_46 : decode cX12_clear 46 = .ok (.aload_n 0, 1) := by decide +kernel
theorem dX12_clear_47 : decode cX12_clear 47 = .ok (.getfield 28, 3) := by decide +kernel
theorem dX12_clear_50 : decode cX12_clear 50 = .ok (.iconst 0, 1) := by decide +kernel
theorem dX12_clear_51 : decode cX12_clear 51 = .ok (.iconst 0, 1) := by decide +kernel
theorem dX12_clear_52 : decode cX12_clear 52 = .ok (.iastore, 1) := by decide +kernel
theorem dX12_clear_53 : decode cX12_clear 53 = .ok (.aload_n 0, 1) := by decide +kernel
theorem dX12_clear_54 : decode cX12_clear 54 = .ok (.getfield 28, 3) := by decide +kernel
theorem dX12_clear_57 : decode cX12_clear 57 = .ok (.iconst 1, 1) := by decide +kernel
theorem dX12_clear_58 : decode cX12_clear 58 = .ok (.iconst 0, 1) := by decide +kernel
theorem dX12_clear_59 : decode cX12_clear 59 = .ok (.iastore, 1) := by decide +kernel
theorem dX12_clear_60 : decode cX12_clear 60 = .ok (.iload_n 2, 1) := by decide +kernel
theorem dX12_clear_61 : decode cX12_clear 61 = .ok (.ireturn, 1) := by decide +kernel
theorem dX12_clear_62 : decode cX12_clear 62 = .ok (.aload_n 0, 1) := by decide +kernel
theorem dX12_clear_63 : decode cX12_clear 63 = .ok (.getfield 181, 3) := by decide +kernel
theorem dX12_clear_66 : decode cX12_clear 66 = .ok (.istore_n 2, 1) := by decide +kernel
theorem dX12_clear_67 : decode cX12_clear 67 = .ok (.aload_n 0, 1) := by decide +kernel
theorem dX12_clear_68 : decode cX12_clear 68 = .ok (.iconst 0, 1) := by decide +kernel
theorem dX12_clear_69 : decode cX12_clear 69 = .ok (.putfield 181, 3) := by decide +kernel
theorem dX12_clear_72 : decode cX12_clear 72 = .ok (.iload_n 2, 1) := by decide +kernel
theorem dX12_clear_73 : decode cX12_clear 73 = .ok (.ireturn, 1) := by decide +kernel
theorem dX12_clear_74 : decode cX12_clear 74 = .ok (.aload_n 0, 1) := by decide +kernel
theorem dX12_clear_75 : decode cX12_clear 75 = .ok (.getfield 184, 3) := by decide +kernel
theorem dX12_clear_78 : decode cX12_clear 78 = .ok (.istore_n 2, 1) := by decide +kernel
theorem dX12_clear_79 : decode cX12_clear 79 = .ok (.aload_n 0, 1) := by decide +kernel
theorem dX12_clear_80 : decode cX12_clear 80 = .ok (.iconst 0, 1) := by decide +kernel
theorem dX12_clear_81 : decode cX12_clear 81 = .ok (.putfield 184, 3) := by decide +kernel
theorem dX12_clear_84 : decode cX12_clear 84 = .ok (.iload_n 2, 1) := by decide +kernel
theorem dX12_clear_85 : decode cX12_clear 85 = .ok (.ireturn, 1) := by decide +kernel
theorem dX12_clear_86 : decode cX12_clear 86 = .ok (.aload_n 0, 1) := by decide +kernel
theorem dX12_clear_87 : decode cX12_clear 87 = .ok (.getfield 187, 3) := by decide +kernel
theorem dX12_clear_90 : decode cX12_clear 90 = .ok (.istore_n 2, 1) := by decide +kernel
theorem dX12_clear_91 : decode cX12_clear 91 = .ok (.aload_n 0, 1) := by decide +kernel
theorem dX12_clear_92 : decode cX12_clear 92 = .ok (.iconst 0, 1) := by decide +kernel
theorem dX12_clear_93 : decode cX12_clear 93 = .ok (.putfield 187, 3) := by decide +kernel
theorem dX12_clear_96 : decode cX12_clear 96 = .ok (.iload_n 2, 1) := by decide +kernel
theorem dX12_clear_97 : decode cX12_clear 97 = .ok (.ireturn, 1) := by decide +kernel
theorem dX12_clear_98 : decode cX12_clear 98 = .ok (.iconst (-1), 1) := by decide +kernel
theorem dX12_clear_99 : decode cX12_clear 99 = .ok (.ireturn, 1) := by decide +kernel
theorem dX12_shorten_0 : decode cX12_shorten 0 = .ok (.iconst 0, 1) := by decide +kernel
theorem dX12_shorten_1 : decode cX12_shorten 1 = .ok (.istore_n 2, 1) := by decide +kernel
theorem dX12_shorten_2 : decode cX12_shorten 2 = .ok (.iload_n 2, 1) := by decide +kernel
theorem dX12_shorten_3 : decode cX12_shorten 3 = .ok (.iconst 4, 1) := by decide +kernel
theorem dX12_shorten_4 : decode cX12_shorten 4 = .ok (.if_icmp .ge 96, 3) := by decide +kernel
theorem dX12_shorten_7 : decode cX12_shorten 7 = .ok (.aload_n 0, 1) := by decide +kernel
theorem dX12_shorten_8 : decode cX12_shorten 8 = .ok (.aload_n 0, 1) := by decide +kernel
theorem dX12_shorten_9 : decode cX12_shorten 9 = .ok (.getfield 38, 3) := by decide +kernel
theorem dX12_shorten_12 : decode cX12_shorten 12 = .ok (.bipush 40, 2) := by decide +kernel
theorem dX12_shorten_14 : decode cX12_shorten 14 = .ok (.iload_n 2, 1) := by decide +kernel
theorem dX12_shorten_15 : decode cX12_shorten 15 = .ok (.imul, 1) := by decide +kernel
theorem dX12_shorten_16 : decode cX12_shorten 16 = .ok (.aload_n 1, 1) := by decide +kernel
theorem dX12_shorten_17 : decode cX12_shorten 17 = .ok (.iconst 0, 1) := by decide +kernel
theorem dX12_shorten_18 : decode cX12_shorten 18 = .ok (.invokevirtual 190, 3) := by decide +kernel
theorem dX12_shorten_21 : decode cX12_shorten 21 = .ok (.aload_n 0, 1) := by decide +kernel
theorem dX12_shorten_22 : decode cX12_shorten 22 = .ok (.getfield 16, 3) := by decide +kernel
theorem dX12_shorten_25 : decode cX12_shorten 25 = .ok (.iconst 0, 1) := by decide +kernel
theorem dX12_shorten_26 : decode cX12_shorten 26 = .ok (.aload_n 0, 1) := by decide +kernel
theorem dX12_shorten_27 : decode cX12_shorten 27 = .ok (.getfield 19, 3) := by decide +kernel
theorem dX12_shorten_30 : decode cX12_shorten 30 = .ok (.iconst 0, 1) := by decide +kernel
theorem dX12_shorten_31 : decode cX12_shorten 31 = .ok (.invokestatic 151, 3) := by decide +kernel
theorem dX12_shorten_34 : decode cX12_shorten 34 = .ok (.aload_n 0, 1) := by decide +kernel
theorem dX12_shorten_35 : decode cX12_shorten 35 = .ok (.aload_n 0, 1) := by decide +kernel
theorem dX12_shorten_36 : decode cX12_shorten 36 = .ok (.getfield 38, 3) := by decide +kernel
theorem dX12_shorten_39 : decode cX12_shorten 39 = .ok (.bipush 40, 2) := by decide +kernel
theorem dX12_shorten_41 : decode cX12_shorten 41 = .ok (.iload_n 2, 1) := by decide +kernel
theorem dX12_shorten_42 : decode cX12_shorten 42 = .ok (.imul, 1) := by decide +kernel
theorem dX12_shorten_43 : decode cX12_shorten 43 = .ok (.aload_n 0, 1) := by decide +kernel
theorem dX12_shorten_44 : decode cX12_shorten 44 = .ok (.getfield 19, 3) := by decide +kernel
theorem dX12_shorten_47 : decode cX12_shorten 47 = .ok (.iconst 0, 1) := by decide +kernel
theorem dX12_shorten_48 : decode cX12_shorten 48 = .ok (.invokevirtual 154, 3) := by decide +kernel
theorem dX12_shorten_51 : decode cX12_shorten 51 = .ok (.aload_n 0, 1) := by decide +kernel
theorem dX12_shorten_52 : decode cX12_shorten 52 = .ok (.getfield 7, 3) := by decide +kernel
theorem dX12_shorten_55 : decode cX12_shorten 55 = .ok (.iconst 0, 1) := by decide +kernel
theorem dX12_shorten_56 : decode cX12_shorten 56 = .ok (.aload_n 0, 1) := by decide +kernel
theorem dX12_shorten_57 : decode cX12_shorten 57 = .ok (.getfield 38, 3) := by decide +kernel
theorem dX12_shorten_60 : decode cX12_shorten 60 = .ok (.bipush 40, 2) := by decide +kernel
theorem dX12_shorten_62 : decode cX12_shorten 62 = .ok (.iload_n 2, 1) := by decide +kernel
theorem dX12_shorten_63 : decode cX12_shorten 63 = .ok (.imul, 1) := by decide +kernel
theorem dX12_shorten_64 : decode cX12_shorten 64 = .ok (.invokestatic 151, 3) := by decide +kernel
theorem dX12_shorten_67 : decode cX12_shorten 67 = .ok (.aload_n 0, 1) := by decide +kernel
theorem dX12_shorten_68 : decode cX12_shorten 68 = .ok (.aload_n 1, 1) := by decide +kernel
theorem dX12_shorten_69 : decode cX12_shorten 69 = .ok (.iconst 0, 1) := by decide +kernel
theorem dX12_shorten_70 : decode cX12_shorten 70 = .ok (.aload_n 0, 1) := by decide +kernel
theorem dX12_shorten_71 : decode cX12_shorten 71 = .ok (.getfield 19, 3) := by decide +kernel
theorem dX12_shorten_74 : decode cX12_shorten 74 = .ok (.iconst 0, 1) := by decide +kernel
theorem dX12_shorten_75 : decode cX12_shorten 75 = .ok (.invokevirtual 154, 3) := by decide +kernel
theorem dX12_shorten_78 : decode cX12_shorten 78 = .ok (.aload_n 0, 1) := by decide +kernel
theorem dX12_shorten_79 : decode cX12_shorten 79 = .ok (.getfield 7, 3) := by decide +kernel
theorem dX12_shorten_82 : decode cX12_shorten 82 = .ok (.iconst 0, 1) := by decide +kernel
theorem dX12_shorten_83 : decode cX12_shorten 83 = .ok (.aload_n 0, 1) := by decide +kernel
theorem dX12_shorten_84 : decode cX12_shorten 84 = .ok (.getfield 41, 3) := by decide +kernel
theorem dX12_shorten_87 : decode cX12_shorten 87 = .ok (.bipush 40, 2) := by decide +kernel
theorem dX12_shorten_89 : decode cX12_shorten 89 = .ok (.iload_n 2, 1) := by decide +kernel
theorem dX12_shorten_90 : decode cX12_shorten 90 = .ok (.imul, 1) := by decide +kernel
theorem dX12_shorten_91 : decode cX12_shorten 91 = .ok (.invokestatic 151, 3) := by decide +kernel
theorem dX12_shorten_94 : decode cX12_shorten 94 = .ok (.iinc 2 1, 3) := by decide +kernel
theorem dX12_shorten_97 : decode cX12_shorten 97 = .ok (.goto (-95), 3) := by decide +kernel
theorem dX12_shorten_100 : decode cX12_shorten 100 = .ok (.return_, 1) := by decide +kernel
theorem dX12_open_0 : decode cX12_open 0 = .ok (.iload_n 1, 1) := by decide +kernel
theorem dX12_open_1 : decode cX12_open 1 = .ok (.aload_n 0, 1) := by decide +kernel
theorem dX12_open_2 : decode cX12_open 2 = .ok (.getfield 118, 3) := by decide +kernel
theorem dX12_open_5 : decode cX12_open 5 = .ok (.idiv, 1) := by decide +kernel
theorem dX12_open_6 : decode cX12_open 6 = .ok (.istore_n 2, 1) := by decide +kernel
theorem dX12_open_7 : decode cX12_open 7 = .ok (.iload_n 1, 1) := by decide +kernel
theorem dX12_open_8 : decode cX12_open 8 = .ok (.aload_n 0, 1) := by decide +kernel
theorem dX12_open_9 : decode cX12_open 9 = .ok (.getfield 118, 3) := by decide +kernel
theorem dX12_open_12 : decode cX12_open 12 = .ok (.irem, 1) := by decide +kernel
theorem dX12_open_13 : decode cX12_open 13 = .ok (.istore_n 3, 1) := by decide +kernel
theorem dX12_open_14 : decode cX12_open 14 = .ok (.aload_n 0, 1) := by decide +kernel
theorem dX12_open_15 : decode cX12_open 15 = .ok (.getfield 55, 3) := by decide +kernel
theorem dX12_open_18 : decode cX12_open 18 = .ok (.iload_n 2, 1) := by decide +kernel
theorem dX12_open_19 : decode cX12_open 19 = .ok (.iaload, 1) := by decide +kernel
theorem dX12_open_20 : decode cX12_open 20 = .ok (.istore 4, 2) := by decide +kernel
theorem dX12_open_22 : decode cX12_open 22 = .ok (.iconst 0, 1) := by decide +kernel
theorem dX12_open_23 : decode cX12_open 23 = .ok (.istore 5, 2) := by decide +kernel
theorem dX12_open_25 : decode cX12_open 25 = .ok (.iload 5, 2) := by decide +kernel
theorem dX12_open_27 : decode cX12_open 27 = .ok (.iload_n 3, 1) := by decide +kernel
theorem dX12_open_28 : decode cX12_open 28 = .ok (.if_icmp .ge 28, 3) := by decide +kernel
theorem dX12_open_31 : decode cX12_open 31 = .ok (.iload 4, 2) := by decide +kernel
theorem dX12_open_33 : decode cX12_open 33 = .ok (.aload_n 0, 1) := by decide +kernel
theorem dX12_open_34 : decode cX12_open 34 = .ok (.getfield 49, 3) := by decide +kernel
theorem dX12_open_37 : decode cX12_open 37 = .ok (.aload_n 0, 1) := by decide +kernel
theorem dX12_open_38 : decode cX12_open 38 = .ok (.getfield 118, 3) := by decide +kernel
theorem dX12_open_41 : decode cX12_open 41 = .ok (.iload_n 2, 1) := by decide +kernel
theorem dX12_open_42 : decode cX12_open 42 = .ok (.imul, 1) := by decide +kernel
theorem dX12_open_43 : decode cX12_open 43 = .ok (.iload 5, 2) := by decide +kernel
theorem dX12_open_45 : decode cX12_open 45 = .ok (.iadd, 1) := by decide +kernel
theorem dX12_open_46 : decode cX12_open 46 = .ok (.iaload, 1) := by decide +kernel
theorem dX12_open_47 : decode cX12_open 47 = .ok (.isub, 1) := by decide +kernel
theorem dX12_open_48 : decode cX12_open 48 = .ok (.istore 4, 2) := by decide +kernel
theorem dX12_open_50 : decode cX12_open 50 = .ok (.iinc 5 1, 3) := by decide +kernel
theorem dX12_open_53 : decode cX12_open 53 = .ok (.goto (-28), 3) := by decide +kernel
theorem dX12_open_56 : decode cX12_open 56 = .ok (.iconst 0, 1) := by decide +kernel
theorem dX12_open_57 : decode cX12_open 57 = .ok (.istore 5, 2) := by decide +kernel
theorem dX12_open_59 : decode cX12_open 59 = .ok (.iload_n 3, 1) := by decide +kernel
theorem dX12_open_60 : decode cX12_open 60 = .ok (.iconst 1, 1) := by decide +kernel
theorem dX12_open_61 : decode cX12_open 61 = .ok (.iadd, 1) := by decide +kernel
theorem dX12_open_62 : decode cX12_open 62 = .ok (.istore 6, 2) := by decide +kernel
theorem dX12_open_64 : decode cX12_open 64 = .ok (.iload 6, 2) := by decide +kernel
theorem dX12_open_66 : decode cX12_open 66 = .ok (.aload_n 0, 1) := by decide +kernel
theorem dX12_open_67 : decode cX12_open 67 = .ok (.getfield 118, 3) := by decide +kernel
theorem dX12_open_70 : decode cX12_open 70 = .ok (.if_icmp .ge 21, 3) := by decide +kernel
theorem dX12_open_73 : decode cX12_open 73 = .ok (.iload 5, 2) := by decide +kernel
theorem dX12_open_75 : decode cX12_open 75 = .ok (.aload_n 0, 1) := by decide +kernel
theorem dX12_open_76 : decode cX12_open 76 = .ok (.iload_n 2, 1) := by decide +kernel
theorem dX12_open_77 : decode cX12_open 77 = .ok (.iload 6, 2) := by decide +kernel
theorem dX12_open_79 : decode cX12_open 79 = .ok (.invokevirtual 193, 3) := by decide +kernel
theorem dX12_open_82 : decode cX12_open 82 = .ok (.iadd, 1) := by decide +kernel
theorem dX12_open_83 : decode cX12_open 83 = .ok (.istore 5, 2) := by decide +kernel
theorem dX12_open_85 : decode cX12_open 85 = .ok (.iinc 6 1, 3) := by decide +kernel
theorem dX12_open_88 : decode cX12_open 88 = .ok (.goto (-24), 3) := by decide +kernel
theorem dX12_open_91 : decode cX12_open 91 = .ok (.aload_n 0, 1) := by decide +kernel
theorem dX12_open_92 : decode cX12_open 92 = .ok (.iload_n 2, 1) := by decide +kernel
theorem dX12_open_93 : decode cX12_open 93 = .ok (.iload_n 3, 1) := by decide +kernel
theorem dX12_open_94 : decode cX12_open 94 = .ok (.invokevirtual 193, 3) := by decide +kernel
theorem dX12_open_97 : decode cX12_open 97 = .ok (.istore 6, 2) := by decide +kernel
theorem dX12_open_99 : decode cX12_open 99 = .ok (.aload_n 0, 1) := by decide +kernel
theorem dX12_open_100 : decode cX12_open 100 = .ok (.getfield 49, 3) := by decide +kernel
theorem dX12_open_103 : decode cX12_open 103 = .ok (.iload_n 1, 1) := by decide +kernel
theorem dX12_open_104 : decode cX12_open 104 = .ok (.iload 4, 2) := by decide +kernel
theorem dX12_open_106 : decode cX12_open 106 = .ok (.iload 5, 2) := by decide +kernel
theorem dX12_open_108 : decode cX12_open 108 = .ok (.if_icmp .le 11, 3) := by decide +kernel
theorem dX12_open_111 : decode cX12_open 111 = .ok (.iload 4, 2) := by decide +kernel
theorem dX12_open_113 : decode cX12_open 113 = .ok (.iload 5, 2) := by decide +kernel
theorem dX12_open_115 : decode cX12_open 115 = .ok (.isub, 1) := by decide +kernel
theorem dX12_open_116 : decode cX12_open 116 = .ok (.goto 4, 3) := by decide +kernel
theorem dX12_open_119 : decode cX12_open 119 = .ok (.iconst 0, 1) := by decide +kernel
theorem dX12_open_120 : decode cX12_open 120 = .ok (.iastore, 1) := by decide +kernel
theorem dX12_open_121 : decode cX12_open 121 = .ok (.aload_n 0, 1) := by decide +kernel
theorem dX12_open_122 : decode cX12_open 122 = .ok (.getfield 52, 3) := by decide +kernel
theorem dX12_open_125 : decode cX12_open 125 = .ok (.iload_n 1, 1) := by decide +kernel
theorem dX12_open_126 : decode cX12_open 126 = .ok (.iload 4, 2) := by decide +kernel
theorem dX12_open_128 : decode cX12_open 128 = .ok (.iload 6, 2) := by decide +kernel
theorem dX12_open_130 : decode cX12_open 130 = .ok (.if_icmp .ge 8, 3) := by decide +kernel
theorem dX12_open_133 : decode cX12_open 133 = .ok (.iload 4, 2) := by decide +kernel
theorem dX12_open_135 : decode cX12_open 135 = .ok (.goto 5, 3) := by decide +kernel
theorem dX12_open_138 : decode cX12_open 138 = .ok (.iload 6, 2) := by decide +kernel
theorem dX12_open_140 : decode cX12_open 140 = .ok (.iastore, 1) := by decide +kernel
theorem dX12_open_141 : decode cX12_open 141 = .ok (.return_, 1) := by decide +kernel
theorem dX12_columnLeft_0 : decode cX12_columnLeft 0 = .ok (.aload_n 0, 1) := by decide +kernel
theorem dX12_columnLeft_1 : decode cX12_columnLeft 1 = .ok (.getfield 58, 3) := by decide +kernel
theorem dX12_columnLeft_4 : decode cX12_columnLeft 4 = .ok (.iload_n 2, 1) := by decide +kernel
theorem dX12_columnLeft_5 : decode cX12_columnLeft 5 = .ok (.iaload, 1) := by decide +kernel
theorem dX12_columnLeft_6 : decode cX12_columnLeft 6 = .ok (.istore_n 3, 1) := by decide +kernel
theorem dX12_columnLeft_7 : decode cX12_columnLeft 7 = .ok (.iconst 0, 1) := by decide +kernel
theorem dX12_columnLeft_8 : decode cX12_columnLeft 8 = .ok (.istore 4, 2) := by decide +kernel
theorem dX12_columnLeft_10 : decode cX12_columnLeft 10 = .ok (.iload 4, 2) := by decide +kernel
theorem dX12_columnLeft_12 : decode cX12_columnLeft 12 = .ok (.iload_n 1, 1) := by decide +kernel
theorem dX12_columnLeft_13 : decode cX12_columnLeft 13 = .ok (.if_icmp .ge 26, 3) := by decide +kernel
theorem dX12_columnLeft_16 : decode cX12_columnLeft 16 = .ok (.iload_n 3, 1) := by decide +kernel
theorem dX12_columnLeft_17 : decode cX12_columnLeft 17 = .ok (.aload_n 0, 1) := by decide +kernel
theorem dX12_columnLeft_18 : decode cX12_columnLeft 18 = .ok (.getfield 49, 3) := by decide +kernel
theorem dX12_columnLeft_21 : decode cX12_columnLeft 21 = .ok (.aload_n 0, 1) := by decide +kernel
theorem dX12_columnLeft_22 : decode cX12_columnLeft 22 = .ok (.getfield 118, 3) := by decide +kernel
theorem dX12_columnLeft_25 : decode cX12_columnLeft 25 = .ok (.iload 4, 2) := by decide +kernel
theorem dX12_columnLeft_27 : decode cX12_columnLeft 27 = .ok (.imul, 1) := by decide +kernel
theorem dX12_columnLeft_28 : decode cX12_columnLeft 28 = .ok (.iload_n 2, 1) := by decide +kernel
theorem dX12_columnLeft_29 : decode cX12_columnLeft 29 = .ok (.iadd, 1) := by decide +kernel
theorem dX12_columnLeft_30 : decode cX12_columnLeft 30 = .ok (.iaload, 1) := by decide +kernel
theorem dX12_columnLeft_31 : decode cX12_columnLeft 31 = .ok (.isub, 1) := by decide +kernel
theorem dX12_columnLeft_32 : decode cX12_columnLeft 32 = .ok (.istore_n 3, 1) := by decide +kernel
theorem dX12_columnLeft_33 : decode cX12_columnLeft 33 = .ok (.iinc 4 1, 3) := by decide +kernel
theorem dX12_columnLeft_36 : decode cX12_columnLeft 36 = .ok (.goto (-26), 3) := by decide +kernel
theorem dX12_columnLeft_39 : decode cX12_columnLeft 39 = .ok (.iload_n 3, 1) := by decide +kernel
theorem dX12_columnLeft_40 : decode cX12_columnLeft 40 = .ok (.ireturn, 1) := by decide +kernel
theorem dX12_firstTable_0 : decode cX12_firstTable 0 = .ok (.iconst 0, 1) := by decide +kernel
theorem dX12_firstTable_1 : decode cX12_firstTable 1 = .ok (.istore_n 1, 1) := by decide +kernel
theorem dX12_firstTable_2 : decode cX12_firstTable 2 = .ok (.iload_n 1, 1) := by decide +kernel
theorem dX12_firstTable_3 : decode cX12_firstTable 3 = .ok (.aload_n 0, 1) := by decide +kernel
theorem dX12_firstTable_4 : decode cX12_firstTable 4 = .ok (.getfield 115, 3) := by decide +kernel
theorem dX12_firstTable_7 : decode cX12_firstTable 7 = .ok (.if_icmp .ge 20, 3) := by decide +kernel
theorem dX12_firstTable_10 : decode cX12_firstTable 10 = .ok (.aload_n 0, 1) := by decide +kernel
theorem dX12_firstTable_11 : decode cX12_firstTable 11 = .ok (.getfield 55, 3) := by decide +kernel
theorem dX12_firstTable_14 : decode cX12_firstTable 14 = .ok (.iload_n 1, 1) := by decide +kernel
theorem dX12_firstTable_15 : decode cX12_firstTable 15 = .ok (.aload_n 0, 1) := by decide +kernel
theorem dX12_firstTable_16 : decode cX12_firstTable 16 = .ok (.iload_n 1, 1) := by decide +kernel
theorem dX12_firstTable_17 : decode cX12_firstTable 17 = .ok (.invokevirtual 170, 3) := by decide +kernel
theorem dX12_firstTable_20 : decode cX12_firstTable 20 = .ok (.iastore, 1) := by decide +kernel
theorem dX12_firstTable_21 : decode cX12_firstTable 21 = .ok (.iinc 1 1, 3) := by decide +kernel
theorem dX12_firstTable_24 : decode cX12_firstTable 24 = .ok (.goto (-22), 3) := by decide +kernel
theorem dX12_firstTable_27 : decode cX12_firstTable 27 = .ok (.iconst 0, 1) := by decide +kernel
theorem dX12_firstTable_28 : decode cX12_firstTable 28 = .ok (.istore_n 1, 1) := by decide +kernel
theorem dX12_firstTable_29 : decode cX12_firstTable 29 = .ok (.iload_n 1, 1) := by decide +kernel
theorem dX12_firstTable_30 : decode cX12_firstTable 30 = .ok (.aload_n 0, 1) := by decide +kernel
theorem dX12_firstTable_31 : decode cX12_firstTable 31 = .ok (.getfield 118, 3) := by decide +kernel
theorem dX12_firstTable_34 : decode cX12_firstTable 34 = .ok (.if_icmp .ge 20, 3) := by decide +kernel
theorem dX12_firstTable_37 : decode cX12_firstTable 37 = .ok (.aload_n 0, 1) := by decide +kernel
theorem dX12_firstTable_38 : decode cX12_firstTable 38 = .ok (.getfield 58, 3) := by decide +kernel
theorem dX12_firstTable_41 : decode cX12_firstTable 41 = .ok (.iload_n 1, 1) := by decide +kernel
theorem dX12_firstTable_42 : decode cX12_firstTable 42 = .ok (.aload_n 0, 1) := by decide +kernel
theorem dX12_firstTable_43 : decode cX12_firstTable 43 = .ok (.iload_n 1, 1) := by decide +kernel
theorem dX12_firstTable_44 : decode cX12_firstTable 44 = .ok (.invokevirtual 174, 3) := by decide +kernel
theorem dX12_firstTable_47 : decode cX12_firstTable 47 = .ok (.iastore, 1) := by decide +kernel
theorem dX12_firstTable_48 : decode cX12_firstTable 48 = .ok (.iinc 1 1, 3) := by decide +kernel
theorem dX12_firstTable_51 : decode cX12_firstTable 51 = .ok (.goto (-22), 3) := by decide +kernel
