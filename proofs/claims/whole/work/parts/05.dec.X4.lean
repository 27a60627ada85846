theorem dX4_init_0 : decode cX4_init 0 = .ok (.aload_n 0, 1) := by decide +kernel
theorem dX4_init_1 : decode cX4_init 1 = .ok (.invokespecial 1, 3) := by decide +kernel
theorem dX4_init_4 : decode cX4_init 4 = .ok (.aload_n 0, 1) := by decide +kernel
theorem dX4_init_5 : decode cX4_init 5 = .ok (.bipush 64, 2) := by decide +kernel
theorem dX4_init_7 : decode cX4_init 7 = .ok (.newarray .int, 2) := by decide +kernel
theorem dX4_init_9 : decode cX4_init 9 = .ok (.putfield 7, 3) := by decide +kernel
theorem dX4_init_12 : decode cX4_init 12 = .ok (.aload_n 0, 1) := by decide +kernel
theorem dX4_init_13 : decode cX4_init 13 = .ok (.bipush 64, 2) := by decide +kernel
theorem dX4_init_15 : decode cX4_init 15 = .ok (.newarray .int, 2) := by decide +kernel
theorem dX4_init_17 : decode cX4_init 17 = .ok (.putfield 13, 3) := by decide +kernel
theorem dX4_init_20 : decode cX4_init 20 = .ok (.return_, 1) := by decide +kernel
theorem dX4_begin_0 : decode cX4_begin 0 = .ok (.aload_n 0, 1) := by decide +kernel
theorem dX4_begin_1 : decode cX4_begin 1 = .ok (.getfield 7, 3) := by decide +kernel
theorem dX4_begin_4 : decode cX4_begin 4 = .ok (.iconst 0, 1) := by decide +kernel
theorem dX4_begin_5 : decode cX4_begin 5 = .ok (.iconst 0, 1) := by decide +kernel
theorem dX4_begin_6 : decode cX4_begin 6 = .ok (.iastore, 1) := by decide +kernel
theorem dX4_begin_7 : decode cX4_begin 7 = .ok (.aload_n 0, 1) := by decide +kernel
theorem dX4_begin_8 : decode cX4_begin 8 = .ok (.getfield 13, 3) := by decide +kernel
theorem dX4_begin_11 : decode cX4_begin 11 = .ok (.iconst 0, 1) := by decide +kernel
theorem dX4_begin_12 : decode cX4_begin 12 = .ok (.iconst 1, 1) := by decide +kernel
theorem dX4_begin_13 : decode cX4_begin 13 = .ok (.iastore, 1) := by decide +kernel
theorem dX4_begin_14 : decode cX4_begin 14 = .ok (.aload_n 0, 1) := by decide +kernel
theorem dX4_begin_15 : decode cX4_begin 15 = .ok (.iconst 1, 1) := by decide +kernel
theorem dX4_begin_16 : decode cX4_begin 16 = .ok (.putfield 16, 3) := by decide +kernel
theorem dX4_begin_19 : decode cX4_begin 19 = .ok (.return_, 1) := by decide +kernel
theorem dX4_take_0 : decode cX4_take 0 = .ok (.iconst 2, 1) := by decide +kernel
theorem dX4_take_1 : decode cX4_take 1 = .ok (.aload_n 0, 1) := by decide +kernel
theorem dX4_take_2 : decode cX4_take 2 = .ok (.getfield 16, 3) := by decide +kernel
theorem dX4_take_5 : decode cX4_take 5 = .ok (.imul, 1) := by decide +kernel
theorem dX4_take_6 : decode cX4_take 6 = .ok (.istore_n 2, 1) := by decide +kernel
theorem dX4_take_7 : decode cX4_take 7 = .ok (.iload_n 2, 1) := by decide +kernel
theorem dX4_take_8 : decode cX4_take 8 = .ok (.ldc 20, 2) := by decide +kernel
theorem dX4_take_10 : decode cX4_take 10 = .ok (.if_icmp .gt 7, 3) := by decide +kernel
theorem dX4_take_13 : decode cX4_take 13 = .ok (.iload_n 1, 1) := by decide +kernel
theorem dX4_take_14 : decode cX4_take 14 = .ok (.ifCond .gt 4, 3) := by decide +kernel
theorem dX4_take_17 : decode cX4_take 17 = .ok (.return_, 1) := by decide +kernel
theorem dX4_take_18 : decode cX4_take 18 = .ok (.aload_n 0, 1) := by decide +kernel
theorem dX4_take_19 : decode cX4_take 19 = .ok (.iload_n 2, 1) := by decide +kernel
theorem dX4_take_20 : decode cX4_take 20 = .ok (.invokevirtual 21, 3) := by decide +kernel
theorem dX4_take_23 : decode cX4_take 23 = .ok (.aload_n 0, 1) := by decide +kernel
theorem dX4_take_24 : decode cX4_take 24 = .ok (.getfield 16, 3) := by decide +kernel
theorem dX4_take_27 : decode cX4_take 27 = .ok (.iconst 1, 1) := by decide +kernel
theorem dX4_take_28 : decode cX4_take 28 = .ok (.isub, 1) := by decide +kernel
theorem dX4_take_29 : decode cX4_take 29 = .ok (.istore_n 3, 1) := by decide +kernel
theorem dX4_take_30 : decode cX4_take 30 = .ok (.aload_n 0, 1) := by decide +kernel
theorem dX4_take_31 : decode cX4_take 31 = .ok (.getfield 16, 3) := by decide +kernel
theorem dX4_take_34 : decode cX4_take 34 = .ok (.iconst 1, 1) := by decide +kernel
theorem dX4_take_35 : decode cX4_take 35 = .ok (.isub, 1) := by decide +kernel
theorem dX4_take_36 : decode cX4_take 36 = .ok (.istore 4, 2) := by decide +kernel
theorem dX4_take_38 : decode cX4_take 38 = .ok (.iload_n 2, 1) := by decide +kernel
theorem dX4_take_39 : decode cX4_take 39 = .ok (.istore 5, 2) := by decide +kernel
theorem dX4_take_41 : decode cX4_take 41 = .ok (.iload_n 2, 1) := by decide +kernel
theorem dX4_take_42 : decode cX4_take 42 = .ok (.istore 6, 2) := by decide +kernel
theorem dX4_take_44 : decode cX4_take 44 = .ok (.iload 6, 2) := by decide +kernel
theorem dX4_take_46 : decode cX4_take 46 = .ok (.ifCond .le 159, 3) := by decide +kernel
theorem dX4_take_49 : decode cX4_take 49 = .ok (.iload_n 3, 1) := by decide +kernel
theorem dX4_take_50 : decode cX4_take 50 = .ok (.ifCond .lt 155, 3) := by decide +kernel
theorem dX4_take_53 : decode cX4_take 53 = .ok (.iload 4, 2) := by decide +kernel
theorem dX4_take_55 : decode cX4_take 55 = .ok (.ifCond .lt 25, 3) := by decide +kernel
theorem dX4_take_58 : decode cX4_take 58 = .ok (.aload_n 0, 1) := by decide +kernel
theorem dX4_take_59 : decode cX4_take 59 = .ok (.getfield 7, 3) := by decide +kernel
theorem dX4_take_62 : decode cX4_take 62 = .ok (.iload 4, 2) := by decide +kernel
theorem dX4_take_64 : decode cX4_take 64 = .ok (.iaload, 1) := by decide +kernel
theorem dX4_take_65 : decode cX4_take 65 = .ok (.iload_n 1, 1) := by decide +kernel
theorem dX4_take_66 : decode cX4_take 66 = .ok (.iadd, 1) := by decide +kernel
theorem dX4_take_67 : decode cX4_take 67 = .ok (.aload_n 0, 1) := by decide +kernel
theorem dX4_take_68 : decode cX4_take 68 = .ok (.getfield 7, 3) := by decide +kernel
theorem dX4_take_71 : decode cX4_take 71 = .ok (.iload_n 3, 1) := by decide +kernel
theorem dX4_take_72 : decode cX4_take 72 = .ok (.iaload, 1) := by decide +kernel
theorem dX4_take_73 : decode cX4_take 73 = .ok (.if_icmp .lt 7, 3) := by decide +kernel
theorem dX4_take_76 : decode cX4_take 76 = .ok (.iconst 1, 1) := by decide +kernel
theorem dX4_take_77 : decode cX4_take 77 = .ok (.goto 4, 3) := by decide +kernel
theorem dX4_take_80 : decode cX4_take 80 = .ok (.iconst 0, 1) := by decide +kernel
theorem dX4_take_81 : decode cX4_take 81 = .ok (.istore 7, 2) := by decide +kernel
theorem dX4_take_83 : decode cX4_take 83 = .ok (.iload 7, 2) := by decide +kernel
theorem dX4_take_85 : decode cX4_take 85 = .ok (.ifCond .eq 8, 3) := by decide +kernel
theorem dX4_take_88 : decode cX4_take 88 = .ok (.iload 4, 2) := by decide +kernel
theorem dX4_take_90 : decode cX4_take 90 = .ok (.goto 4, 3) := by decide +kernel
theorem dX4_take_93 : decode cX4_take 93 = .ok (.iload_n 3, 1) := by decide +kernel
theorem dX4_take_94 : decode cX4_take 94 = .ok (.istore 8, 2) := by decide +kernel
theorem dX4_take_96 : decode cX4_take 96 = .ok (.iload 7, 2) := by decide +kernel
theorem dX4_take_98 : decode cX4_take 98 = .ok (.ifCond .eq 15, 3) := by decide +kernel
theorem dX4_take_101 : decode cX4_take 101 = .ok (.aload_n 0, 1) := by decide +kernel
theorem dX4_take_102 : decode cX4_take 102 = .ok (.getfield 7, 3) := by decide +kernel
theorem dX4_take_105 : decode cX4_take 105 = .ok (.iload 8, 2) := by decide +kernel
theorem dX4_take_107 : decode cX4_take 107 = .ok (.iaload, 1) := by decide +kernel
theorem dX4_take_108 : decode cX4_take 108 = .ok (.iload_n 1, 1) := by decide +kernel
theorem dX4_take_109 : decode cX4_take 109 = .ok (.iadd, 1) := by decide +kernel
theorem dX4_take_110 : decode cX4_take 110 = .ok (.goto 10, 3) := by decide +kernel
theorem dX4_take_113 : decode cX4_take 113 = .ok (.aload_n 0, 1) := by decide +kernel
theorem dX4_take_114 : decode cX4_take 114 = .ok (.getfield 7, 3) := by decide +kernel
theorem dX4_take_117 : decode cX4_take 117 = .ok (.iload 8, 2) := by decide +kernel
theorem dX4_take_119 : decode cX4_take 119 = .ok (.iaload, 1) := by decide +kernel
theorem dX4_take_120 : decode cX4_take 120 = .ok (.istore 9, 2) := by decide +kernel
theorem dX4_take_122 : decode cX4_take 122 = .ok (.aload_n 0, 1) := by decide +kernel
theorem dX4_take_123 : decode cX4_take 123 = .ok (.getfield 13, 3) := by decide +kernel
theorem dX4_take_126 : decode cX4_take 126 = .ok (.iload 8, 2) := by decide +kernel
theorem dX4_take_128 : decode cX4_take 128 = .ok (.iaload, 1) := by decide +kernel
theorem dX4_take_129 : decode cX4_take 129 = .ok (.istore 10, 2) := by decide +kernel
theorem dX4_take_131 : decode cX4_take 131 = .ok (.iload 7, 2) := by decide +kernel
theorem dX4_take_133 : decode cX4_take 133 = .ok (.ifCond .eq 9, 3) := by decide +kernel
theorem dX4_take_136 : decode cX4_take 136 = .ok (.iinc 4 (-1), 3) := by decide +kernel
theorem dX4_take_139 : decode cX4_take 139 = .ok (.goto 6, 3) := by decide +kernel
theorem dX4_take_142 : decode cX4_take 142 = .ok (.iinc 3 (-1), 3) := by decide +kernel
theorem dX4_take_145 : decode cX4_take 145 = .ok (.iload 5, 2) := by decide +kernel
theorem dX4_take_147 : decode cX4_take 147 = .ok (.iload_n 2, 1) := by decide +kernel
theorem dX4_take_148 : decode cX4_take 148 = .ok (.if_icmp .ge 30, 3) := by decide +kernel
theorem dX4_take_151 : decode cX4_take 151 = .ok (.aload_n 0, 1) := by decide +kernel
theorem dX4_take_152 : decode cX4_take 152 = .ok (.getfield 7, 3) := by decide +kernel
theorem dX4_take_155 : decode cX4_take 155 = .ok (.iload 5, 2) := by decide +kernel
theorem dX4_take_157 : decode cX4_take 157 = .ok (.iaload, 1) := by decide +kernel
theorem dX4_take_158 : decode cX4_take 158 = .ok (.iload 9, 2) := by decide +kernel
theorem dX4_take_160 : decode cX4_take 160 = .ok (.if_icmp .ne 18, 3) := by decide +kernel
theorem dX4_take_163 : decode cX4_take 163 = .ok (.aload_n 0, 1) := by decide +kernel
theorem dX4_take_164 : decode cX4_take 164 = .ok (.getfield 13, 3) := by decide +kernel
theorem dX4_take_167 : decode cX4_take 167 = .ok (.iload 5, 2) := by decide +kernel
theorem dX4_take_169 : decode cX4_take 169 = .ok (.dup2, 1) := by decide +kernel
theorem dX4_take_170 : decode cX4_take 170 = .ok (.iaload, 1) := by decide +kernel
theorem dX4_take_171 : decode cX4_take 171 = .ok (.iload 10, 2) := by decide +kernel
theorem dX4_take_173 : decode cX4_take 173 = .ok (.iadd, 1) := by decide +kernel
theorem dX4_take_174 : decode cX4_take 174 = .ok (.iastore, 1) := by decide +kernel
theorem dX4_take_175 : decode cX4_take 175 = .ok (.goto 24, 3) := by decide +kernel
theorem dX4_take_178 : decode cX4_take 178 = .ok (.iinc 5 (-1), 3) := by decide +kernel
theorem dX4_take_181 : decode cX4_take 181 = .ok (.aload_n 0, 1) := by decide +kernel
theorem dX4_take_182 : decode cX4_take 182 = .ok (.getfield 7, 3) := by decide +kernel
theorem dX4_take_185 : decode cX4_take 185 = .ok (.iload 5, 2) := by decide +kernel
theorem dX4_take_187 : decode cX4_take 187 = .ok (.iload 9, 2) := by decide +kernel
theorem dX4_take_189 : decode cX4_take 189 = .ok (.iastore, 1) := by decide +kernel
theorem dX4_take_190 : decode cX4_take 190 = .ok (.aload_n 0, 1) := by decide +kernel
theorem dX4_take_191 : decode cX4_take 191 = .ok (.getfield 13, 3) := by decide +kernel
theorem dX4_take_194 : decode cX4_take 194 = .ok (.iload 5, 2) := by decide +kernel
theorem dX4_take_196 : decode cX4_take 196 = .ok (.iload 10, 2) := by decide +kernel
theorem dX4_take_198 : decode cX4_take 198 = .ok (.iastore, 1) := by decide +kernel
theorem dX4_take_199 : decode cX4_take 199 = .ok (.iinc 6 (-1), 3) := by decide +kernel
theorem dX4_take_202 : decode cX4_take 202 = .ok (.goto (-158), 3) := by decide +kernel
theorem dX4_take_205 : decode cX4_take 205 = .ok (.aload_n 0, 1) := by decide +kernel
theorem dX4_take_206 : decode cX4_take 206 = .ok (.iload_n 2, 1) := by decide +kernel
theorem dX4_take_207 : decode cX4_take 207 = .ok (.iload 5, 2) := by decide +kernel
theorem dX4_take_209 : decode cX4_take 209 = .ok (.isub, 1) := by decide +kernel
theorem dX4_take_210 : decode cX4_take 210 = .ok (.putfield 16, 3) := by decide +kernel
theorem dX4_take_213 : decode cX4_take 213 = .ok (.aload_n 0, 1) := by decide +kernel
theorem dX4_take_214 : decode cX4_take 214 = .ok (.getfield 7, 3) := by decide +kernel
theorem dX4_take_217 : decode cX4_take 217 = .ok (.iload 5, 2) := by decide +kernel
theorem dX4_take_219 : decode cX4_take 219 = .ok (.aload_n 0, 1) := by decide +kernel
theorem dX4_take_220 : decode cX4_take 220 = .ok (.getfield 7, 3) := by decide +kernel
theorem dX4_take_223 : decode cX4_take 223 = .ok (.iconst 0, 1) := by decide +kernel
theorem dX4_take_224 : decode cX4_take 224 = .ok (.aload_n 0, 1) := by decide +kernel
theorem dX4_take_225 : decode cX4_take 225 = .ok (.getfield 16, 3) := by decide +kernel
theorem dX4_take_228 : decode cX4_take 228 = .ok (.invokestatic 25, 3) := by decide +kernel
theorem dX4_take_231 : decode cX4_take 231 = .ok (.aload_n 0, 1) := by decide +kernel
theorem dX4_take_232 : decode cX4_take 232 = .ok (.getfield 13, 3) := by decide +kernel
theorem dX4_take_235 : decode cX4_take 235 = .ok (.iload 5, 2) := by decide +kernel
theorem dX4_take_237 : decode cX4_take 237 = .ok (.aload_n 0, 1) := by decide +kernel
theorem dX4_take_238 : decode cX4_take 238 = .ok (.getfield 13, 3) := by decide +kernel
theorem dX4_take_241 : decode cX4_take 241 = .ok (.iconst 0, 1) := by decide +kernel
theorem dX4_take_242 : decode cX4_take 242 = .ok (.aload_n 0, 1) := by decide +kernel
theorem dX4_take_243 : decode cX4_take 243 = .ok (.getfield 16, 3) := by decide +kernel
theorem dX4_take_246 : decode cX4_take 246 = .ok (.invokestatic 25, 3) := by decide +kernel
theorem dX4_take_249 : decode cX4_take 249 = .ok (.return_, 1) := by decide +kernel
theorem dX4_makeRoom_0 : decode cX4_makeRoom 0 = .ok (.iload_n 1, 1) := by decide +kernel
theorem dX4_makeRoom_1 : decode cX4_makeRoom 1 = .ok (.aload_n 0, 1) := by decide +kernel
theorem dX4_makeRoom_2 : decode cX4_makeRoom 2 = .ok (.getfield 7, 3) := by decide +kernel
theorem dX4_makeRoom_5 : decode cX4_makeRoom 5 = .ok (.arraylength, 1) := by decide +kernel
theorem dX4_makeRoom_6 : decode cX4_makeRoom 6 = .ok (.if_icmp .gt 4, 3) := by decide +kernel
theorem dX4_makeRoom_9 : decode cX4_makeRoom 9 = .ok (.return_, 1) := by decide +kernel
theorem dX4_makeRoom_10 : decode cX4_makeRoom 10 = .ok (.iload_n 1, 1) := by decide +kernel
theorem dX4_makeRoom_11 : decode cX4_makeRoom 11 = .ok (.ldc 20, 2) := by decide +kernel
theorem dX4_makeRoom_13 : decode cX4_makeRoom 13 = .ok (.bipush 8, 2) := by decide +kernel
theorem dX4_makeRoom_15 : decode cX4_makeRoom 15 = .ok (.aload_n 0, 1) := by decide +kernel
theorem dX4_makeRoom_16 : decode cX4_makeRoom 16 = .ok (.getfield 7, 3) := by decide +kernel
theorem dX4_makeRoom_19 : decode cX4_makeRoom 19 = .ok (.arraylength, 1) := by decide +kernel
theorem dX4_makeRoom_20 : decode cX4_makeRoom 20 = .ok (.imul, 1) := by decide +kernel
theorem dX4_makeRoom_21 : decode cX4_makeRoom 21 = .ok (.invokestatic 31, 3) := by decide +kernel
theorem dX4_makeRoom_24 : decode cX4_makeRoom 24 = .ok (.invokestatic 37, 3) := by decide +kernel
theorem dX4_makeRoom_27 : decode cX4_makeRoom 27 = .ok (.istore_n 2, 1) := by decide +kernel
theorem dX4_makeRoom_28 : decode cX4_makeRoom 28 = .ok (.iload_n 2, 1) := by decide +kernel
theorem dX4_makeRoom_29 : decode cX4_makeRoom 29 = .ok (.newarray .int, 2) := by decide +kernel
theorem dX4_makeRoom_31 : decode cX4_makeRoom 31 = .ok (.astore_n 3, 1) := by decide +kernel
theorem dX4_makeRoom_32 : decode cX4_makeRoom 32 = .ok (.iload_n 2, 1) := by decide +kernel
theorem dX4_makeRoom_33 : decode cX4_makeRoom 33 = .ok (.newarray .int, 2) := by decide +kernel
theorem dX4_makeRoom_35 : decode cX4_makeRoom 35 = .ok (.astore 4, 2) := by decide +kernel
theorem dX4_makeRoom_37 : decode cX4_makeRoom 37 = .ok (.aload_n 0, 1) := by decide +kernel
theorem dX4_makeRoom_38 : decode cX4_makeRoom 38 = .ok (.getfield 7, 3) := by decide +kernel
theorem dX4_makeRoom_41 : decode cX4_makeRoom 41 = .ok (.iconst 0, 1) := by decide +kernel
theorem dX4_makeRoom_42 : decode cX4_makeRoom 42 = .ok (.aload_n 3, 1) := by decide +kernel
theorem dX4_makeRoom_43 : decode cX4_makeRoom 43 = .ok (.iconst 0, 1) := by decide +kernel
theorem dX4_makeRoom_44 : decode cX4_makeRoom 44 = .ok (.aload_n 0, 1) := by decide +kernel
theorem dX4_makeRoom_45 : decode cX4_makeRoom 45 = .ok (.getfield 16, 3) := by decide +kernel
theorem dX4_makeRoom_48 : decode cX4_makeRoom 48 = .ok (.invokestatic 25, 3) := by decide +kernel
theorem dX4_makeRoom_51 : decode cX4_makeRoom 51 = .ok (.aload_n 0, 1) := by decide +kernel
theorem dX4_makeRoom_52 : decode cX4_makeRoom 52 = .ok (.getfield 13, 3) := by decide +kernel
theorem dX4_makeRoom_55 : decode cX4_makeRoom 55 = .ok (.iconst 0, 1) := by decide +kernel
theorem dX4_makeRoom_56 : decode cX4_makeRoom 56 = .ok (.aload 4, 2) := by decide +kernel
theorem dX4_makeRoom_58 : decode cX4_makeRoom 58 = .ok (.iconst 0, 1) := by decide +kernel
theorem dX4_makeRoom_59 : decode cX4_makeRoom 59 = .ok (.aload_n 0, 1) := by decide +kernel
theorem dX4_makeRoom_60 : decode cX4_makeRoom 60 = .ok (.getfield 16, 3) := by decide +kernel
theorem dX4_makeRoom_63 : decode cX4_makeRoom 63 = .ok (.invokestatic 25, 3) := by decide +kernel
theorem dX4_makeRoom_66 : decode cX4_makeRoom 66 = .ok (.aload_n 0, 1) := by decide +kernel
theorem dX4_makeRoom_67 : decode cX4_makeRoom 67 = .ok (.aload_n 3, 1) := by decide +kernel
theorem dX4_makeRoom_68 : decode cX4_makeRoom 68 = .ok (.putfield 7, 3) := by decide +kernel
theorem dX4_makeRoom_71 : decode cX4_makeRoom 71 = .ok (.aload_n 0, 1) := by decide +kernel
theorem dX4_makeRoom_72 : decode cX4_makeRoom 72 = .ok (.aload 4, 2) := by decide +kernel
theorem dX4_makeRoom_74 : decode cX4_makeRoom 74 = .ok (.putfield 13, 3) := by decide +kernel
theorem dX4_makeRoom_77 : decode cX4_makeRoom 77 = .ok (.return_, 1) := by decide +kernel
