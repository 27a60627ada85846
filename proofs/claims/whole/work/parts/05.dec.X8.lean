theorem dX8_init_0 : decode cX8_init 0 = .ok (.aload_n 0, 1) := by decide +kernel
theorem dX8_init_1 : decode cX8_init 1 = .ok (.invokespecial 1, 3) := by decide +kernel
theorem dX8_init_4 : decode cX8_init 4 = .ok (.aload_n 0, 1) := by decide +kernel
theorem dX8_init_5 : decode cX8_init 5 = .ok (.new 7, 3) := by decide +kernel
theorem dX8_init_8 : decode cX8_init 8 = .ok (.dup, 1) := by decide +kernel
theorem dX8_init_9 : decode cX8_init 9 = .ok (.invokespecial 9, 3) := by decide +kernel
theorem dX8_init_12 : decode cX8_init 12 = .ok (.putfield 10, 3) := by decide +kernel
theorem dX8_init_15 : decode cX8_init 15 = .ok (.aload_n 0, 1) := by decide +kernel
theorem dX8_init_16 : decode cX8_init 16 = .ok (.new 7, 3) := by decide +kernel
theorem dX8_init_19 : decode cX8_init 19 = .ok (.dup, 1) := by decide +kernel
theorem dX8_init_20 : decode cX8_init 20 = .ok (.invokespecial 9, 3) := by decide +kernel
theorem dX8_init_23 : decode cX8_init 23 = .ok (.putfield 16, 3) := by decide +kernel
theorem dX8_init_26 : decode cX8_init 26 = .ok (.return_, 1) := by decide +kernel
theorem dX8_beginTaking_0 : decode cX8_beginTaking 0 = .ok (.aload_n 0, 1) := by decide +kernel
theorem dX8_beginTaking_1 : decode cX8_beginTaking 1 = .ok (.invokevirtual 19, 3) := by decide +kernel
theorem dX8_beginTaking_4 : decode cX8_beginTaking 4 = .ok (.aload_n 0, 1) := by decide +kernel
theorem dX8_beginTaking_5 : decode cX8_beginTaking 5 = .ok (.ldc 22, 2) := by decide +kernel
theorem dX8_beginTaking_7 : decode cX8_beginTaking 7 = .ok (.putfield 23, 3) := by decide +kernel
theorem dX8_beginTaking_10 : decode cX8_beginTaking 10 = .ok (.aload_n 0, 1) := by decide +kernel
theorem dX8_beginTaking_11 : decode cX8_beginTaking 11 = .ok (.iload_n 1, 1) := by decide +kernel
theorem dX8_beginTaking_12 : decode cX8_beginTaking 12 = .ok (.ldc 22, 2) := by decide +kernel
theorem dX8_beginTaking_14 : decode cX8_beginTaking 14 = .ok (.imul, 1) := by decide +kernel
theorem dX8_beginTaking_15 : decode cX8_beginTaking 15 = .ok (.putfield 27, 3) := by decide +kernel
theorem dX8_beginTaking_18 : decode cX8_beginTaking 18 = .ok (.aload_n 0, 1) := by decide +kernel
theorem dX8_beginTaking_19 : decode cX8_beginTaking 19 = .ok (.lconst 0, 1) := by decide +kernel
theorem dX8_beginTaking_20 : decode cX8_beginTaking 20 = .ok (.putfield 30, 3) := by decide +kernel
theorem dX8_beginTaking_23 : decode cX8_beginTaking 23 = .ok (.aload_n 0, 1) := by decide +kernel
theorem dX8_beginTaking_24 : decode cX8_beginTaking 24 = .ok (.lconst 1, 1) := by decide +kernel
theorem dX8_beginTaking_25 : decode cX8_beginTaking 25 = .ok (.putfield 34, 3) := by decide +kernel
theorem dX8_beginTaking_28 : decode cX8_beginTaking 28 = .ok (.iconst 0, 1) := by decide +kernel
theorem dX8_beginTaking_29 : decode cX8_beginTaking 29 = .ok (.istore_n 3, 1) := by decide +kernel
theorem dX8_beginTaking_30 : decode cX8_beginTaking 30 = .ok (.iload_n 3, 1) := by decide +kernel
theorem dX8_beginTaking_31 : decode cX8_beginTaking 31 = .ok (.iload_n 1, 1) := by decide +kernel
theorem dX8_beginTaking_32 : decode cX8_beginTaking 32 = .ok (.if_icmp .ge 40, 3) := by decide +kernel
theorem dX8_beginTaking_35 : decode cX8_beginTaking 35 = .ok (.aload_n 0, 1) := by decide +kernel
theorem dX8_beginTaking_36 : decode cX8_beginTaking 36 = .ok (.dup, 1) := by decide +kernel
theorem dX8_beginTaking_37 : decode cX8_beginTaking 37 = .ok (.getfield 30, 3) := by decide +kernel
theorem dX8_beginTaking_40 : decode cX8_beginTaking 40 = .ok (.aload_n 0, 1) := by decide +kernel
theorem dX8_beginTaking_41 : decode cX8_beginTaking 41 = .ok (.getfield 34, 3) := by decide +kernel
theorem dX8_beginTaking_44 : decode cX8_beginTaking 44 = .ok (.ladd, 1) := by decide +kernel
theorem dX8_beginTaking_45 : decode cX8_beginTaking 45 = .ok (.putfield 30, 3) := by decide +kernel
theorem dX8_beginTaking_48 : decode cX8_beginTaking 48 = .ok (.aload_n 0, 1) := by decide +kernel
theorem dX8_beginTaking_49 : decode cX8_beginTaking 49 = .ok (.aload_n 0, 1) := by decide +kernel
theorem dX8_beginTaking_50 : decode cX8_beginTaking 50 = .ok (.getfield 34, 3) := by decide +kernel
theorem dX8_beginTaking_53 : decode cX8_beginTaking 53 = .ok (.iload_n 2, 1) := by decide +kernel
theorem dX8_beginTaking_54 : decode cX8_beginTaking 54 = .ok (.iload_n 3, 1) := by decide +kernel
theorem dX8_beginTaking_55 : decode cX8_beginTaking 55 = .ok (.isub, 1) := by decide +kernel
theorem dX8_beginTaking_56 : decode cX8_beginTaking 56 = .ok (.i2l, 1) := by decide +kernel
theorem dX8_beginTaking_57 : decode cX8_beginTaking 57 = .ok (.lmul, 1) := by decide +kernel
theorem dX8_beginTaking_58 : decode cX8_beginTaking 58 = .ok (.iload_n 3, 1) := by decide +kernel
theorem dX8_beginTaking_59 : decode cX8_beginTaking 59 = .ok (.iconst 1, 1) := by decide +kernel
theorem dX8_beginTaking_60 : decode cX8_beginTaking 60 = .ok (.iadd, 1) := by decide +kernel
theorem dX8_beginTaking_61 : decode cX8_beginTaking 61 = .ok (.i2l, 1) := by decide +kernel
theorem dX8_beginTaking_62 : decode cX8_beginTaking 62 = .ok (.ldiv, 1) := by decide +kernel
theorem dX8_beginTaking_63 : decode cX8_beginTaking 63 = .ok (.putfield 34, 3) := by decide +kernel
theorem dX8_beginTaking_66 : decode cX8_beginTaking 66 = .ok (.iinc 3 1, 3) := by decide +kernel
theorem dX8_beginTaking_69 : decode cX8_beginTaking 69 = .ok (.goto (-39), 3) := by decide +kernel
theorem dX8_beginTaking_72 : decode cX8_beginTaking 72 = .ok (.return_, 1) := by decide +kernel
theorem dX8_beginSigning_0 : decode cX8_beginSigning 0 = .ok (.aload_n 0, 1) := by decide +kernel
theorem dX8_beginSigning_1 : decode cX8_beginSigning 1 = .ok (.invokevirtual 19, 3) := by decide +kernel
theorem dX8_beginSigning_4 : decode cX8_beginSigning 4 = .ok (.aload_n 0, 1) := by decide +kernel
theorem dX8_beginSigning_5 : decode cX8_beginSigning 5 = .ok (.iconst 0, 1) := by decide +kernel
theorem dX8_beginSigning_6 : decode cX8_beginSigning 6 = .ok (.putfield 23, 3) := by decide +kernel
theorem dX8_beginSigning_9 : decode cX8_beginSigning 9 = .ok (.aload_n 0, 1) := by decide +kernel
theorem dX8_beginSigning_10 : decode cX8_beginSigning 10 = .ok (.iconst 0, 1) := by decide +kernel
theorem dX8_beginSigning_11 : decode cX8_beginSigning 11 = .ok (.putfield 27, 3) := by decide +kernel
theorem dX8_beginSigning_14 : decode cX8_beginSigning 14 = .ok (.aload_n 0, 1) := by decide +kernel
theorem dX8_beginSigning_15 : decode cX8_beginSigning 15 = .ok (.lconst 0, 1) := by decide +kernel
theorem dX8_beginSigning_16 : decode cX8_beginSigning 16 = .ok (.putfield 30, 3) := by decide +kernel
theorem dX8_beginSigning_19 : decode cX8_beginSigning 19 = .ok (.aload_n 0, 1) := by decide +kernel
theorem dX8_beginSigning_20 : decode cX8_beginSigning 20 = .ok (.lconst 1, 1) := by decide +kernel
theorem dX8_beginSigning_21 : decode cX8_beginSigning 21 = .ok (.iload_n 1, 1) := by decide +kernel
theorem dX8_beginSigning_22 : decode cX8_beginSigning 22 = .ok (.lshl, 1) := by decide +kernel
theorem dX8_beginSigning_23 : decode cX8_beginSigning 23 = .ok (.putfield 34, 3) := by decide +kernel
theorem dX8_beginSigning_26 : decode cX8_beginSigning 26 = .ok (.return_, 1) := by decide +kernel
theorem dX8_begin_0 : decode cX8_begin 0 = .ok (.aload_n 0, 1) := by decide +kernel
theorem dX8_begin_1 : decode cX8_begin 1 = .ok (.getfield 10, 3) := by decide +kernel
theorem dX8_begin_4 : decode cX8_begin 4 = .ok (.invokevirtual 37, 3) := by decide +kernel
theorem dX8_begin_7 : decode cX8_begin 7 = .ok (.aload_n 0, 1) := by decide +kernel
theorem dX8_begin_8 : decode cX8_begin 8 = .ok (.getfield 16, 3) := by decide +kernel
theorem dX8_begin_11 : decode cX8_begin 11 = .ok (.invokevirtual 37, 3) := by decide +kernel
theorem dX8_begin_14 : decode cX8_begin 14 = .ok (.aload_n 0, 1) := by decide +kernel
theorem dX8_begin_15 : decode cX8_begin 15 = .ok (.iconst 1, 1) := by decide +kernel
theorem dX8_begin_16 : decode cX8_begin 16 = .ok (.putfield 38, 3) := by decide +kernel
theorem dX8_begin_19 : decode cX8_begin 19 = .ok (.return_, 1) := by decide +kernel
theorem dX8_take_0 : decode cX8_take 0 = .ok (.aload_n 0, 1) := by decide +kernel
theorem dX8_take_1 : decode cX8_take 1 = .ok (.getfield 38, 3) := by decide +kernel
theorem dX8_take_4 : decode cX8_take 4 = .ok (.ifCond .eq 10, 3) := by decide +kernel
theorem dX8_take_7 : decode cX8_take 7 = .ok (.aload_n 0, 1) := by decide +kernel
theorem dX8_take_8 : decode cX8_take 8 = .ok (.getfield 10, 3) := by decide +kernel
theorem dX8_take_11 : decode cX8_take 11 = .ok (.goto 7, 3) := by decide +kernel
theorem dX8_take_14 : decode cX8_take 14 = .ok (.aload_n 0, 1) := by decide +kernel
theorem dX8_take_15 : decode cX8_take 15 = .ok (.getfield 16, 3) := by decide +kernel
theorem dX8_take_18 : decode cX8_take 18 = .ok (.astore_n 2, 1) := by decide +kernel
theorem dX8_take_19 : decode cX8_take 19 = .ok (.aload_n 2, 1) := by decide +kernel
theorem dX8_take_20 : decode cX8_take 20 = .ok (.iload_n 1, 1) := by decide +kernel
theorem dX8_take_21 : decode cX8_take 21 = .ok (.aload_n 0, 1) := by decide +kernel
theorem dX8_take_22 : decode cX8_take 22 = .ok (.getfield 23, 3) := by decide +kernel
theorem dX8_take_25 : decode cX8_take 25 = .ok (.iadd, 1) := by decide +kernel
theorem dX8_take_26 : decode cX8_take 26 = .ok (.invokevirtual 42, 3) := by decide +kernel
theorem dX8_take_29 : decode cX8_take 29 = .ok (.aload_n 0, 1) := by decide +kernel
theorem dX8_take_30 : decode cX8_take 30 = .ok (.aload_n 0, 1) := by decide +kernel
theorem dX8_take_31 : decode cX8_take 31 = .ok (.getfield 38, 3) := by decide +kernel
theorem dX8_take_34 : decode cX8_take 34 = .ok (.ifCond .ne 7, 3) := by decide +kernel
theorem dX8_take_37 : decode cX8_take 37 = .ok (.iconst 1, 1) := by decide +kernel
theorem dX8_take_38 : decode cX8_take 38 = .ok (.goto 4, 3) := by decide +kernel
theorem dX8_take_41 : decode cX8_take 41 = .ok (.iconst 0, 1) := by decide +kernel
theorem dX8_take_42 : decode cX8_take 42 = .ok (.putfield 38, 3) := by decide +kernel
theorem dX8_take_45 : decode cX8_take 45 = .ok (.return_, 1) := by decide +kernel
theorem dX8_countAll_0 : decode cX8_countAll 0 = .ok (.aload_n 0, 1) := by decide +kernel
theorem dX8_countAll_1 : decode cX8_countAll 1 = .ok (.getfield 34, 3) := by decide +kernel
theorem dX8_countAll_4 : decode cX8_countAll 4 = .ok (.lreturn, 1) := by decide +kernel
theorem dX8_upTo_0 : decode cX8_upTo 0 = .ok (.aload_n 0, 1) := by decide +kernel
theorem dX8_upTo_1 : decode cX8_upTo 1 = .ok (.getfield 27, 3) := by decide +kernel
theorem dX8_upTo_4 : decode cX8_upTo 4 = .ok (.iload_n 1, 1) := by decide +kernel
theorem dX8_upTo_5 : decode cX8_upTo 5 = .ok (.iadd, 1) := by decide +kernel
theorem dX8_upTo_6 : decode cX8_upTo 6 = .ok (.istore_n 2, 1) := by decide +kernel
theorem dX8_upTo_7 : decode cX8_upTo 7 = .ok (.aload_n 0, 1) := by decide +kernel
theorem dX8_upTo_8 : decode cX8_upTo 8 = .ok (.getfield 16, 3) := by decide +kernel
theorem dX8_upTo_11 : decode cX8_upTo 11 = .ok (.getfield 46, 3) := by decide +kernel
theorem dX8_upTo_14 : decode cX8_upTo 14 = .ok (.iconst 1, 1) := by decide +kernel
theorem dX8_upTo_15 : decode cX8_upTo 15 = .ok (.isub, 1) := by decide +kernel
theorem dX8_upTo_16 : decode cX8_upTo 16 = .ok (.istore_n 3, 1) := by decide +kernel
theorem dX8_upTo_17 : decode cX8_upTo 17 = .ok (.lconst 0, 1) := by decide +kernel
theorem dX8_upTo_18 : decode cX8_upTo 18 = .ok (.lstore 4, 2) := by decide +kernel
theorem dX8_upTo_20 : decode cX8_upTo 20 = .ok (.iconst 0, 1) := by decide +kernel
theorem dX8_upTo_21 : decode cX8_upTo 21 = .ok (.istore 6, 2) := by decide +kernel
theorem dX8_upTo_23 : decode cX8_upTo 23 = .ok (.iload 6, 2) := by decide +kernel
theorem dX8_upTo_25 : decode cX8_upTo 25 = .ok (.iload_n 3, 1) := by decide +kernel
theorem dX8_upTo_26 : decode cX8_upTo 26 = .ok (.if_icmp .gt 25, 3) := by decide +kernel
theorem dX8_upTo_29 : decode cX8_upTo 29 = .ok (.lload 4, 2) := by decide +kernel
theorem dX8_upTo_31 : decode cX8_upTo 31 = .ok (.aload_n 0, 1) := by decide +kernel
theorem dX8_upTo_32 : decode cX8_upTo 32 = .ok (.getfield 16, 3) := by decide +kernel
theorem dX8_upTo_35 : decode cX8_upTo 35 = .ok (.getfield 49, 3) := by decide +kernel
theorem dX8_upTo_38 : decode cX8_upTo 38 = .ok (.iload 6, 2) := by decide +kernel
theorem dX8_upTo_40 : decode cX8_upTo 40 = .ok (.iaload, 1) := by decide +kernel
theorem dX8_upTo_41 : decode cX8_upTo 41 = .ok (.i2l, 1) := by decide +kernel
theorem dX8_upTo_42 : decode cX8_upTo 42 = .ok (.ladd, 1) := by decide +kernel
theorem dX8_upTo_43 : decode cX8_upTo 43 = .ok (.lstore 4, 2) := by decide +kernel
theorem dX8_upTo_45 : decode cX8_upTo 45 = .ok (.iinc 6 1, 3) := by decide +kernel
theorem dX8_upTo_48 : decode cX8_upTo 48 = .ok (.goto (-25), 3) := by decide +kernel
theorem dX8_upTo_51 : decode cX8_upTo 51 = .ok (.lconst 0, 1) := by decide +kernel
theorem dX8_upTo_52 : decode cX8_upTo 52 = .ok (.lstore 6, 2) := by decide +kernel
theorem dX8_upTo_54 : decode cX8_upTo 54 = .ok (.iconst 0, 1) := by decide +kernel
theorem dX8_upTo_55 : decode cX8_upTo 55 = .ok (.istore 8, 2) := by decide +kernel
theorem dX8_upTo_57 : decode cX8_upTo 57 = .ok (.iload 8, 2) := by decide +kernel
theorem dX8_upTo_59 : decode cX8_upTo 59 = .ok (.aload_n 0, 1) := by decide +kernel
theorem dX8_upTo_60 : decode cX8_upTo 60 = .ok (.getfield 10, 3) := by decide +kernel
theorem dX8_upTo_63 : decode cX8_upTo 63 = .ok (.getfield 46, 3) := by decide +kernel
theorem dX8_upTo_66 : decode cX8_upTo 66 = .ok (.if_icmp .ge 85, 3) := by decide +kernel
theorem dX8_upTo_69 : decode cX8_upTo 69 = .ok (.iload_n 3, 1) := by decide +kernel
theorem dX8_upTo_70 : decode cX8_upTo 70 = .ok (.ifCond .lt 81, 3) := by decide +kernel
theorem dX8_upTo_73 : decode cX8_upTo 73 = .ok (.iload_n 2, 1) := by decide +kernel
theorem dX8_upTo_74 : decode cX8_upTo 74 = .ok (.aload_n 0, 1) := by decide +kernel
theorem dX8_upTo_75 : decode cX8_upTo 75 = .ok (.getfield 10, 3) := by decide +kernel
theorem dX8_upTo_78 : decode cX8_upTo 78 = .ok (.getfield 53, 3) := by decide +kernel
theorem dX8_upTo_81 : decode cX8_upTo 81 = .ok (.iload 8, 2) := by decide +kernel
theorem dX8_upTo_83 : decode cX8_upTo 83 = .ok (.iaload, 1) := by decide +kernel
theorem dX8_upTo_84 : decode cX8_upTo 84 = .ok (.isub, 1) := by decide +kernel
theorem dX8_upTo_85 : decode cX8_upTo 85 = .ok (.istore 9, 2) := by decide +kernel
theorem dX8_upTo_87 : decode cX8_upTo 87 = .ok (.iload_n 3, 1) := by decide +kernel
theorem dX8_upTo_88 : decode cX8_upTo 88 = .ok (.ifCond .lt 38, 3) := by decide +kernel
theorem dX8_upTo_91 : decode cX8_upTo 91 = .ok (.aload_n 0, 1) := by decide +kernel
theorem dX8_upTo_92 : decode cX8_upTo 92 = .ok (.getfield 16, 3) := by decide +kernel
theorem dX8_upTo_95 : decode cX8_upTo 95 = .ok (.getfield 53, 3) := by decide +kernel
theorem dX8_upTo_98 : decode cX8_upTo 98 = .ok (.iload_n 3, 1) := by decide +kernel
theorem dX8_upTo_99 : decode cX8_upTo 99 = .ok (.iaload, 1) := by decide +kernel
theorem dX8_upTo_100 : decode cX8_upTo 100 = .ok (.iload 9, 2) := by decide +kernel
theorem dX8_upTo_102 : decode cX8_upTo 102 = .ok (.if_icmp .le 24, 3) := by decide +kernel
theorem dX8_upTo_105 : decode cX8_upTo 105 = .ok (.lload 4, 2) := by decide +kernel
theorem dX8_upTo_107 : decode cX8_upTo 107 = .ok (.aload_n 0, 1) := by decide +kernel
theorem dX8_upTo_108 : decode cX8_upTo 108 = .ok (.getfield 16, 3) := by decide +kernel
theorem dX8_upTo_111 : decode cX8_upTo 111 = .ok (.getfield 49, 3) := by decide +kernel
theorem dX8_upTo_114 : decode cX8_upTo 114 = .ok (.iload_n 3, 1) := by decide +kernel
theorem dX8_upTo_115 : decode cX8_upTo 115 = .ok (.iaload, 1) := by decide +kernel
theorem dX8_upTo_116 : decode cX8_upTo 116 = .ok (.i2l, 1) := by decide +kernel
theorem dX8_upTo_117 : decode cX8_upTo 117 = .ok (.lsub, 1) := by decide +kernel
theorem dX8_upTo_118 : decode cX8_upTo 118 = .ok (.lstore 4, 2) := by decide +kernel
theorem dX8_upTo_120 : decode cX8_upTo 120 = .ok (.iinc 3 (-1), 3) := by decide +kernel
theorem dX8_upTo_123 : decode cX8_upTo 123 = .ok (.goto (-36), 3) := by decide +kernel
theorem dX8_upTo_126 : decode cX8_upTo 126 = .ok (.lload 6, 2) := by decide +kernel
theorem dX8_upTo_128 : decode cX8_upTo 128 = .ok (.aload_n 0, 1) := by decide +kernel
theorem dX8_upTo_129 : decode cX8_upTo 129 = .ok (.getfield 10, 3) := by decide +kernel
theorem dX8_upTo_132 : decode cX8_upTo 132 = .ok (.getfield 49, 3) := by decide +kernel
theorem dX8_upTo_135 : decode cX8_upTo 135 = .ok (.iload 8, 2) := by decide +kernel
theorem dX8_upTo_137 : decode cX8_upTo 137 = .ok (.iaload, 1) := by decide +kernel
theorem dX8_upTo_138 : decode cX8_upTo 138 = .ok (.i2l, 1) := by decide +kernel
theorem dX8_upTo_139 : decode cX8_upTo 139 = .ok (.lload 4, 2) := by decide +kernel
theorem dX8_upTo_141 : decode cX8_upTo 141 = .ok (.lmul, 1) := by decide +kernel
theorem dX8_upTo_142 : decode cX8_upTo 142 = .ok (.ladd, 1) := by decide +kernel
theorem dX8_upTo_143 : decode cX8_upTo 143 = .ok (.lstore 6, 2) := by decide +kernel
theorem dX8_upTo_145 : decode cX8_upTo 145 = .ok (.iinc 8 1, 3) := by decide +kernel
theorem dX8_upTo_148 : decode cX8_upTo 148 = .ok (.goto (-91), 3) := by decide +kernel
theorem dX8_upTo_151 : decode cX8_upTo 151 = .ok (.lload 6, 2) := by decide +kernel
theorem dX8_upTo_153 : decode cX8_upTo 153 = .ok (.aload_n 0, 1) := by decide +kernel
theorem dX8_upTo_154 : decode cX8_upTo 154 = .ok (.getfield 30, 3) := by decide +kernel
theorem dX8_upTo_157 : decode cX8_upTo 157 = .ok (.lsub, 1) := by decide +kernel
theorem dX8_upTo_158 : decode cX8_upTo 158 = .ok (.lreturn, 1) := by decide +kernel
theorem dX8_exactly_0 : decode cX8_exactly 0 = .ok (.aload_n 0, 1) := by decide +kernel
theorem dX8_exactly_1 : decode cX8_exactly 1 = .ok (.getfield 27, 3) := by decide +kernel
theorem dX8_exactly_4 : decode cX8_exactly 4 = .ok (.iload_n 1, 1) := by decide +kernel
theorem dX8_exactly_5 : decode cX8_exactly 5 = .ok (.iadd, 1) := by decide +kernel
theorem dX8_exactly_6 : decode cX8_exactly 6 = .ok (.istore_n 2, 1) := by decide +kernel
theorem dX8_exactly_7 : decode cX8_exactly 7 = .ok (.iconst 0, 1) := by decide +kernel
theorem dX8_exactly_8 : decode cX8_exactly 8 = .ok (.istore_n 3, 1) := by decide +kernel
theorem dX8_exactly_9 : decode cX8_exactly 9 = .ok (.aload_n 0, 1) := by decide +kernel
theorem dX8_exactly_10 : decode cX8_exactly 10 = .ok (.getfield 16, 3) := by decide +kernel
theorem dX8_exactly_13 : decode cX8_exactly 13 = .ok (.getfield 46, 3) := by decide +kernel
theorem dX8_exactly_16 : decode cX8_exactly 16 = .ok (.iconst 1, 1) := by decide +kernel
theorem dX8_exactly_17 : decode cX8_exactly 17 = .ok (.isub, 1) := by decide +kernel
theorem dX8_exactly_18 : decode cX8_exactly 18 = .ok (.istore 4, 2) := by decide +kernel
theorem dX8_exactly_20 : decode cX8_exactly 20 = .ok (.lconst 0, 1) := by decide +kernel
theorem dX8_exactly_21 : decode cX8_exactly 21 = .ok (.lstore 5, 2) := by decide +kernel
theorem dX8_exactly_23 : decode cX8_exactly 23 = .ok (.aload_n 0, 1) := by decide +kernel
theorem dX8_exactly_24 : decode cX8_exactly 24 = .ok (.getfield 10, 3) := by decide +kernel
theorem dX8_exactly_27 : decode cX8_exactly 27 = .ok (.getfield 46, 3) := by decide +kernel
theorem dX8_exactly_30 : decode cX8_exactly 30 = .ok (.aload_n 0, 1) := by decide +kernel
theorem dX8_exactly_31 : decode cX8_exactly 31 = .ok (.getfield 16, 3) := by decide +kernel
theorem dX8_exactly_34 : decode cX8_exactly 34 = .ok (.getfield 46, 3) := by decide +kernel
theorem dX8_exactly_37 : decode cX8_exactly 37 = .ok (.iadd, 1) := by decide +kernel
theorem dX8_exactly_38 : decode cX8_exactly 38 = .ok (.istore 7, 2) := by decide +kernel
theorem dX8_exactly_40 : decode cX8_exactly 40 = .ok (.iload 7, 2) := by decide +kernel
theorem dX8_exactly_42 : decode cX8_exactly 42 = .ok (.ifCond .le 95, 3) := by decide +kernel
theorem dX8_exactly_45 : decode cX8_exactly 45 = .ok (.iload_n 3, 1) := by decide +kernel
theorem dX8_exactly_46 : decode cX8_exactly 46 = .ok (.aload_n 0, 1) := by decide +kernel
theorem dX8_exactly_47 : decode cX8_exactly 47 = .ok (.getfield 10, 3) := by decide +kernel
theorem dX8_exactly_50 : decode cX8_exactly 50 = .ok (.getfield 46, 3) := by decide +kernel
theorem dX8_exactly_53 : decode cX8_exactly 53 = .ok (.if_icmp .ge 84, 3) := by decide +kernel
theorem dX8_exactly_56 : decode cX8_exactly 56 = .ok (.iload 4, 2) := by decide +kernel
theorem dX8_exactly_58 : decode cX8_exactly 58 = .ok (.ifCond .lt 79, 3) := by decide +kernel
theorem dX8_exactly_61 : decode cX8_exactly 61 = .ok (.aload_n 0, 1) := by decide +kernel
theorem dX8_exactly_62 : decode cX8_exactly 62 = .ok (.getfield 10, 3) := by decide +kernel
theorem dX8_exactly_65 : decode cX8_exactly 65 = .ok (.getfield 53, 3) := by decide +kernel
theorem dX8_exactly_68 : decode cX8_exactly 68 = .ok (.iload_n 3, 1) := by decide +kernel
theorem dX8_exactly_69 : decode cX8_exactly 69 = .ok (.iaload, 1) := by decide +kernel
theorem dX8_exactly_70 : decode cX8_exactly 70 = .ok (.aload_n 0, 1) := by decide +kernel
theorem dX8_exactly_71 : decode cX8_exactly 71 = .ok (.getfield 16, 3) := by decide +kernel
theorem dX8_exactly_74 : decode cX8_exactly 74 = .ok (.getfield 53, 3) := by decide +kernel
theorem dX8_exactly_77 : decode cX8_exactly 77 = .ok (.iload 4, 2) := by decide +kernel
theorem dX8_exactly_79 : decode cX8_exactly 79 = .ok (.iaload, 1) := by decide +kernel
theorem dX8_exactly_80 : decode cX8_exactly 80 = .ok (.iadd, 1) := by decide +kernel
theorem dX8_exactly_81 : decode cX8_exactly 81 = .ok (.istore 8, 2) := by decide +kernel
theorem dX8_exactly_83 : decode cX8_exactly 83 = .ok (.iload 8, 2) := by decide +kernel
theorem dX8_exactly_85 : decode cX8_exactly 85 = .ok (.iload_n 2, 1) := by decide +kernel
theorem dX8_exactly_86 : decode cX8_exactly 86 = .ok (.if_icmp .ne 30, 3) := by decide +kernel
theorem dX8_exactly_89 : decode cX8_exactly 89 = .ok (.lload 5, 2) := by decide +kernel
theorem dX8_exactly_91 : decode cX8_exactly 91 = .ok (.aload_n 0, 1) := by decide +kernel
theorem dX8_exactly_92 : decode cX8_exactly 92 = .ok (.getfield 10, 3) := by decide +kernel
theorem dX8_exactly_95 : decode cX8_exactly 95 = .ok (.getfield 49, 3) := by decide +kernel
theorem dX8_exactly_98 : decode cX8_exactly 98 = .ok (.iload_n 3, 1) := by decide +kernel
theorem dX8_exactly_99 : decode cX8_exactly 99 = .ok (.iaload, 1) := by decide +kernel
theorem dX8_exactly_100 : decode cX8_exactly 100 = .ok (.i2l, 1) := by decide +kernel
theorem dX8_exactly_101 : decode cX8_exactly 101 = .ok (.aload_n 0, 1) := by decide +kernel
theorem dX8_exactly_102 : decode cX8_exactly 102 = .ok (.getfield 16, 3) := by decide +kernel
theorem dX8_exactly_105 : decode cX8_exactly 105 = .ok (.getfield 49, 3) := by decide +kernel
theorem dX8_exactly_108 : decode cX8_exactly 108 = .ok (.iload 4, 2) := by decide +kernel
theorem dX8_exactly_110 : decode cX8_exactly 110 = .ok (.iaload, 1) := by decide +kernel
theorem dX8_exactly_111 : decode cX8_exactly 111 = .ok (.i2l, 1) := by decide +kernel
theorem dX8_exactly_112 : decode cX8_exactly 112 = .ok (.lmul, 1) := by decide +kernel
theorem dX8_exactly_113 : decode cX8_exactly 113 = .ok (.ladd, 1) := by decide +kernel
theorem dX8_exactly_114 : decode cX8_exactly 114 = .ok (.lstore 5, 2) := by decide +kernel
theorem dX8_exactly_116 : decode cX8_exactly 116 = .ok (.iload 8, 2) := by decide +kernel
theorem dX8_exactly_118 : decode cX8_exactly 118 = .ok (.iload_n 2, 1) := by decide +kernel
theorem dX8_exactly_119 : decode cX8_exactly 119 = .ok (.if_icmp .gt 9, 3) := by decide +kernel
theorem dX8_exactly_122 : decode cX8_exactly 122 = .ok (.iinc 3 1, 3) := by decide +kernel
theorem dX8_exactly_125 : decode cX8_exactly 125 = .ok (.goto 6, 3) := by decide +kernel
theorem dX8_exactly_128 : decode cX8_exactly 128 = .ok (.iinc 4 (-1), 3) := by decide +kernel
theorem dX8_exactly_131 : decode cX8_exactly 131 = .ok (.iinc 7 (-1), 3) := by decide +kernel
theorem dX8_exactly_134 : decode cX8_exactly 134 = .ok (.goto (-94), 3) := by decide +kernel
theorem dX8_exactly_137 : decode cX8_exactly 137 = .ok (.lload 5, 2) := by decide +kernel
theorem dX8_exactly_139 : decode cX8_exactly 139 = .ok (.lreturn, 1) := by decide +kernel
