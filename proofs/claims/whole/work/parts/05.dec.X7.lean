theorem dX7_init_0 : decode cX7_init 0 = .ok (.aload_n 0, 1) := by decide +kernel
theorem dX7_init_1 : decode cX7_init 1 = .ok (.invokespecial 1, 3) := by decide +kernel
theorem dX7_init_4 : decode cX7_init 4 = .ok (.aload_n 0, 1) := by decide +kernel
theorem dX7_init_5 : decode cX7_init 5 = .ok (.new 7, 3) := by decide +kernel
theorem dX7_init_8 : decode cX7_init 8 = .ok (.dup, 1) := by decide +kernel
theorem dX7_init_9 : decode cX7_init 9 = .ok (.invokespecial 9, 3) := by decide +kernel
theorem dX7_init_12 : decode cX7_init 12 = .ok (.putfield 10, 3) := by decide +kernel
theorem dX7_init_15 : decode cX7_init 15 = .ok (.aload_n 0, 1) := by decide +kernel
theorem dX7_init_16 : decode cX7_init 16 = .ok (.new 7, 3) := by decide +kernel
theorem dX7_init_19 : decode cX7_init 19 = .ok (.dup, 1) := by decide +kernel
theorem dX7_init_20 : decode cX7_init 20 = .ok (.invokespecial 9, 3) := by decide +kernel
theorem dX7_init_23 : decode cX7_init 23 = .ok (.putfield 16, 3) := by decide +kernel
theorem dX7_init_26 : decode cX7_init 26 = .ok (.return_, 1) := by decide +kernel
theorem dX7_compareChances_0 : decode cX7_compareChances 0 = .ok (.aload_n 0, 1) := by decide +kernel
theorem dX7_compareChances_1 : decode cX7_compareChances 1 = .ok (.getfield 10, 3) := by decide +kernel
theorem dX7_compareChances_4 : decode cX7_compareChances 4 = .ok (.aload_n 1, 1) := by decide +kernel
theorem dX7_compareChances_5 : decode cX7_compareChances 5 = .ok (.getfield 19, 3) := by decide +kernel
theorem dX7_compareChances_8 : decode cX7_compareChances 8 = .ok (.aload_n 2, 1) := by decide +kernel
theorem dX7_compareChances_9 : decode cX7_compareChances 9 = .ok (.getfield 24, 3) := by decide +kernel
theorem dX7_compareChances_12 : decode cX7_compareChances 12 = .ok (.invokevirtual 27, 3) := by decide +kernel
theorem dX7_compareChances_15 : decode cX7_compareChances 15 = .ok (.aload_n 0, 1) := by decide +kernel
theorem dX7_compareChances_16 : decode cX7_compareChances 16 = .ok (.getfield 16, 3) := by decide +kernel
theorem dX7_compareChances_19 : decode cX7_compareChances 19 = .ok (.aload_n 2, 1) := by decide +kernel
theorem dX7_compareChances_20 : decode cX7_compareChances 20 = .ok (.getfield 19, 3) := by decide +kernel
theorem dX7_compareChances_23 : decode cX7_compareChances 23 = .ok (.aload_n 1, 1) := by decide +kernel
theorem dX7_compareChances_24 : decode cX7_compareChances 24 = .ok (.getfield 24, 3) := by decide +kernel
theorem dX7_compareChances_27 : decode cX7_compareChances 27 = .ok (.invokevirtual 27, 3) := by decide +kernel
theorem dX7_compareChances_30 : decode cX7_compareChances 30 = .ok (.aload_n 0, 1) := by decide +kernel
theorem dX7_compareChances_31 : decode cX7_compareChances 31 = .ok (.getfield 10, 3) := by decide +kernel
theorem dX7_compareChances_34 : decode cX7_compareChances 34 = .ok (.aload_n 0, 1) := by decide +kernel
theorem dX7_compareChances_35 : decode cX7_compareChances 35 = .ok (.getfield 16, 3) := by decide +kernel
theorem dX7_compareChances_38 : decode cX7_compareChances 38 = .ok (.invokevirtual 31, 3) := by decide +kernel
theorem dX7_compareChances_41 : decode cX7_compareChances 41 = .ok (.ireturn, 1) := by decide +kernel
theorem dX7_compareToLevel_0 : decode cX7_compareToLevel 0 = .ok (.aload_n 0, 1) := by decide +kernel
theorem dX7_compareToLevel_1 : decode cX7_compareToLevel 1 = .ok (.getfield 10, 3) := by decide +kernel
theorem dX7_compareToLevel_4 : decode cX7_compareToLevel 4 = .ok (.aload_n 1, 1) := by decide +kernel
theorem dX7_compareToLevel_5 : decode cX7_compareToLevel 5 = .ok (.getfield 19, 3) := by decide +kernel
theorem dX7_compareToLevel_8 : decode cX7_compareToLevel 8 = .ok (.lload 4, 2) := by decide +kernel
theorem dX7_compareToLevel_10 : decode cX7_compareToLevel 10 = .ok (.invokevirtual 35, 3) := by decide +kernel
theorem dX7_compareToLevel_13 : decode cX7_compareToLevel 13 = .ok (.aload_n 0, 1) := by decide +kernel
theorem dX7_compareToLevel_14 : decode cX7_compareToLevel 14 = .ok (.getfield 16, 3) := by decide +kernel
theorem dX7_compareToLevel_17 : decode cX7_compareToLevel 17 = .ok (.aload_n 1, 1) := by decide +kernel
theorem dX7_compareToLevel_18 : decode cX7_compareToLevel 18 = .ok (.getfield 24, 3) := by decide +kernel
theorem dX7_compareToLevel_21 : decode cX7_compareToLevel 21 = .ok (.lload_n 2, 1) := by decide +kernel
theorem dX7_compareToLevel_22 : decode cX7_compareToLevel 22 = .ok (.invokevirtual 35, 3) := by decide +kernel
theorem dX7_compareToLevel_25 : decode cX7_compareToLevel 25 = .ok (.aload_n 0, 1) := by decide +kernel
theorem dX7_compareToLevel_26 : decode cX7_compareToLevel 26 = .ok (.getfield 10, 3) := by decide +kernel
theorem dX7_compareToLevel_29 : decode cX7_compareToLevel 29 = .ok (.aload_n 0, 1) := by decide +kernel
theorem dX7_compareToLevel_30 : decode cX7_compareToLevel 30 = .ok (.getfield 16, 3) := by decide +kernel
theorem dX7_compareToLevel_33 : decode cX7_compareToLevel 33 = .ok (.invokevirtual 31, 3) := by decide +kernel
theorem dX7_compareToLevel_36 : decode cX7_compareToLevel 36 = .ok (.ireturn, 1) := by decide +kernel
theorem dX7_figureOf_0 : decode cX7_figureOf 0 = .ok (.aload_n 0, 1) := by decide +kernel
theorem dX7_figureOf_1 : decode cX7_figureOf 1 = .ok (.getfield 10, 3) := by decide +kernel
theorem dX7_figureOf_4 : decode cX7_figureOf 4 = .ok (.astore_n 3, 1) := by decide +kernel
theorem dX7_figureOf_5 : decode cX7_figureOf 5 = .ok (.aload_n 3, 1) := by decide +kernel
theorem dX7_figureOf_6 : decode cX7_figureOf 6 = .ok (.aload_n 1, 1) := by decide +kernel
theorem dX7_figureOf_7 : decode cX7_figureOf 7 = .ok (.getfield 19, 3) := by decide +kernel
theorem dX7_figureOf_10 : decode cX7_figureOf 10 = .ok (.invokevirtual 39, 3) := by decide +kernel
theorem dX7_figureOf_13 : decode cX7_figureOf 13 = .ok (.aload_n 3, 1) := by decide +kernel
theorem dX7_figureOf_14 : decode cX7_figureOf 14 = .ok (.aload_n 1, 1) := by decide +kernel
theorem dX7_figureOf_15 : decode cX7_figureOf 15 = .ok (.getfield 24, 3) := by decide +kernel
theorem dX7_figureOf_18 : decode cX7_figureOf 18 = .ok (.invokestatic 43, 3) := by decide +kernel
theorem dX7_figureOf_21 : decode cX7_figureOf 21 = .ok (.istore 4, 2) := by decide +kernel
theorem dX7_figureOf_23 : decode cX7_figureOf 23 = .ok (.iconst 0, 1) := by decide +kernel
theorem dX7_figureOf_24 : decode cX7_figureOf 24 = .ok (.istore 5, 2) := by decide +kernel
theorem dX7_figureOf_26 : decode cX7_figureOf 26 = .ok (.iload 5, 2) := by decide +kernel
theorem dX7_figureOf_28 : decode cX7_figureOf 28 = .ok (.iload_n 2, 1) := by decide +kernel
theorem dX7_figureOf_29 : decode cX7_figureOf 29 = .ok (.if_icmp .ge 38, 3) := by decide +kernel
theorem dX7_figureOf_32 : decode cX7_figureOf 32 = .ok (.aload_n 0, 1) := by decide +kernel
theorem dX7_figureOf_33 : decode cX7_figureOf 33 = .ok (.getfield 16, 3) := by decide +kernel
theorem dX7_figureOf_36 : decode cX7_figureOf 36 = .ok (.aload_n 3, 1) := by decide +kernel
theorem dX7_figureOf_37 : decode cX7_figureOf 37 = .ok (.invokevirtual 39, 3) := by decide +kernel
theorem dX7_figureOf_40 : decode cX7_figureOf 40 = .ok (.aload_n 3, 1) := by decide +kernel
theorem dX7_figureOf_41 : decode cX7_figureOf 41 = .ok (.aload_n 0, 1) := by decide +kernel
theorem dX7_figureOf_42 : decode cX7_figureOf 42 = .ok (.getfield 16, 3) := by decide +kernel
theorem dX7_figureOf_45 : decode cX7_figureOf 45 = .ok (.ldc2_w 47, 3) := by decide +kernel
theorem dX7_figureOf_48 : decode cX7_figureOf 48 = .ok (.invokevirtual 35, 3) := by decide +kernel
theorem dX7_figureOf_51 : decode cX7_figureOf 51 = .ok (.aload_n 3, 1) := by decide +kernel
theorem dX7_figureOf_52 : decode cX7_figureOf 52 = .ok (.aload_n 1, 1) := by decide +kernel
theorem dX7_figureOf_53 : decode cX7_figureOf 53 = .ok (.getfield 24, 3) := by decide +kernel
theorem dX7_figureOf_56 : decode cX7_figureOf 56 = .ok (.invokestatic 43, 3) := by decide +kernel
theorem dX7_figureOf_59 : decode cX7_figureOf 59 = .ok (.istore 4, 2) := by decide +kernel
theorem dX7_figureOf_61 : decode cX7_figureOf 61 = .ok (.iinc 5 1, 3) := by decide +kernel
theorem dX7_figureOf_64 : decode cX7_figureOf 64 = .ok (.goto (-38), 3) := by decide +kernel
theorem dX7_figureOf_67 : decode cX7_figureOf 67 = .ok (.iload 4, 2) := by decide +kernel
theorem dX7_figureOf_69 : decode cX7_figureOf 69 = .ok (.ireturn, 1) := by decide +kernel
theorem dX7_takeOut_0 : decode cX7_takeOut 0 = .ok (.iconst 0, 1) := by decide +kernel
theorem dX7_takeOut_1 : decode cX7_takeOut 1 = .ok (.istore_n 2, 1) := by decide +kernel
theorem dX7_takeOut_2 : decode cX7_takeOut 2 = .ok (.iload_n 2, 1) := by decide +kernel
theorem dX7_takeOut_3 : decode cX7_takeOut 3 = .ok (.bipush 9, 2) := by decide +kernel
theorem dX7_takeOut_5 : decode cX7_takeOut 5 = .ok (.if_icmp .ge 22, 3) := by decide +kernel
theorem dX7_takeOut_8 : decode cX7_takeOut 8 = .ok (.aload_n 0, 1) := by decide +kernel
theorem dX7_takeOut_9 : decode cX7_takeOut 9 = .ok (.aload_n 1, 1) := by decide +kernel
theorem dX7_takeOut_10 : decode cX7_takeOut 10 = .ok (.invokevirtual 31, 3) := by decide +kernel
theorem dX7_takeOut_13 : decode cX7_takeOut 13 = .ok (.ifCond .lt 14, 3) := by decide +kernel
theorem dX7_takeOut_16 : decode cX7_takeOut 16 = .ok (.aload_n 0, 1) := by decide +kernel
theorem dX7_takeOut_17 : decode cX7_takeOut 17 = .ok (.aload_n 1, 1) := by decide +kernel
theorem dX7_takeOut_18 : decode cX7_takeOut 18 = .ok (.invokevirtual 49, 3) := by decide +kernel
theorem dX7_takeOut_21 : decode cX7_takeOut 21 = .ok (.iinc 2 1, 3) := by decide +kernel
theorem dX7_takeOut_24 : decode cX7_takeOut 24 = .ok (.goto (-22), 3) := by decide +kernel
theorem dX7_takeOut_27 : decode cX7_takeOut 27 = .ok (.iload_n 2, 1) := by decide +kernel
theorem dX7_takeOut_28 : decode cX7_takeOut 28 = .ok (.ireturn, 1) := by decide +kernel
