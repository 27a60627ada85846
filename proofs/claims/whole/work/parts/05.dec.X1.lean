theorem dX1_init_0 : decode cX1_init 0 = .ok (.aload_n 0, 1) := by decide +kernel
theorem dX1_init_1 : decode cX1_init 1 = .ok (.invokespecial 3, 3) := by decide +kernel
theorem dX1_init_4 : decode cX1_init 4 = .ok (.aload_n 0, 1) := by decide +kernel
theorem dX1_init_5 : decode cX1_init 5 = .ok (.bipush 12, 2) := by decide +kernel
theorem dX1_init_7 : decode cX1_init 7 = .ok (.anewarray 9, 3) := by decide +kernel
theorem dX1_init_10 : decode cX1_init 10 = .ok (.putfield 11, 3) := by decide +kernel
theorem dX1_init_13 : decode cX1_init 13 = .ok (.aload_n 0, 1) := by decide +kernel
theorem dX1_init_14 : decode cX1_init 14 = .ok (.bipush 12, 2) := by decide +kernel
theorem dX1_init_16 : decode cX1_init 16 = .ok (.newarray .int, 2) := by decide +kernel
theorem dX1_init_18 : decode cX1_init 18 = .ok (.putfield 17, 3) := by decide +kernel
theorem dX1_init_21 : decode cX1_init 21 = .ok (.aload_n 0, 1) := by decide +kernel
theorem dX1_init_22 : decode cX1_init 22 = .ok (.aload_n 1, 1) := by decide +kernel
theorem dX1_init_23 : decode cX1_init 23 = .ok (.putfield 21, 3) := by decide +kernel
theorem dX1_init_26 : decode cX1_init 26 = .ok (.iconst 0, 1) := by decide +kernel
theorem dX1_init_27 : decode cX1_init 27 = .ok (.istore_n 2, 1) := by decide +kernel
theorem dX1_init_28 : decode cX1_init 28 = .ok (.iload_n 2, 1) := by decide +kernel
theorem dX1_init_29 : decode cX1_init 29 = .ok (.bipush 12, 2) := by decide +kernel
theorem dX1_init_31 : decode cX1_init 31 = .ok (.if_icmp .ge 22, 3) := by decide +kernel
theorem dX1_init_34 : decode cX1_init 34 = .ok (.aload_n 0, 1) := by decide +kernel
theorem dX1_init_35 : decode cX1_init 35 = .ok (.getfield 11, 3) := by decide +kernel
theorem dX1_init_38 : decode cX1_init 38 = .ok (.iload_n 2, 1) := by decide +kernel
theorem dX1_init_39 : decode cX1_init 39 = .ok (.new 9, 3) := by decide +kernel
theorem dX1_init_42 : decode cX1_init 42 = .ok (.dup, 1) := by decide +kernel
theorem dX1_init_43 : decode cX1_init 43 = .ok (.invokespecial 25, 3) := by decide +kernel
theorem dX1_init_46 : decode cX1_init 46 = .ok (.aastore, 1) := by decide +kernel
theorem dX1_init_47 : decode cX1_init 47 = .ok (.iinc 2 1, 3) := by decide +kernel
theorem dX1_init_50 : decode cX1_init 50 = .ok (.goto (-22), 3) := by decide +kernel
theorem dX1_init_53 : decode cX1_init 53 = .ok (.return_, 1) := by decide +kernel
theorem dX1_size_0 : decode cX1_size 0 = .ok (.aload_n 0, 1) := by decide +kernel
theorem dX1_size_1 : decode cX1_size 1 = .ok (.getfield 26, 3) := by decide +kernel
theorem dX1_size_4 : decode cX1_size 4 = .ok (.ireturn, 1) := by decide +kernel
theorem dX1_isFull_0 : decode cX1_isFull 0 = .ok (.aload_n 0, 1) := by decide +kernel
theorem dX1_isFull_1 : decode cX1_isFull 1 = .ok (.getfield 26, 3) := by decide +kernel
theorem dX1_isFull_4 : decode cX1_isFull 4 = .ok (.bipush 12, 2) := by decide +kernel
theorem dX1_isFull_6 : decode cX1_isFull 6 = .ok (.if_icmp .lt 7, 3) := by decide +kernel
theorem dX1_isFull_9 : decode cX1_isFull 9 = .ok (.iconst 1, 1) := by decide +kernel
theorem dX1_isFull_10 : decode cX1_isFull 10 = .ok (.goto 4, 3) := by decide +kernel
theorem dX1_isFull_13 : decode cX1_isFull 13 = .ok (.iconst 0, 1) := by decide +kernel
theorem dX1_isFull_14 : decode cX1_isFull 14 = .ok (.ireturn, 1) := by decide +kernel
theorem dX1_has_0 : decode cX1_has 0 = .ok (.iload_n 1, 1) := by decide +kernel
theorem dX1_has_1 : decode cX1_has 1 = .ok (.ifCond .lt 15, 3) := by decide +kernel
theorem dX1_has_4 : decode cX1_has 4 = .ok (.iload_n 1, 1) := by decide +kernel
theorem dX1_has_5 : decode cX1_has 5 = .ok (.aload_n 0, 1) := by decide +kernel
theorem dX1_has_6 : decode cX1_has 6 = .ok (.getfield 26, 3) := by decide +kernel
theorem dX1_has_9 : decode cX1_has 9 = .ok (.if_icmp .ge 7, 3) := by decide +kernel
theorem dX1_has_12 : decode cX1_has 12 = .ok (.iconst 1, 1) := by decide +kernel
theorem dX1_has_13 : decode cX1_has 13 = .ok (.goto 4, 3) := by decide +kernel
theorem dX1_has_16 : decode cX1_has 16 = .ok (.iconst 0, 1) := by decide +kernel
theorem dX1_has_17 : decode cX1_has 17 = .ok (.ireturn, 1) := by decide +kernel
theorem dX1_empty_0 : decode cX1_empty 0 = .ok (.aload_n 0, 1) := by decide +kernel
theorem dX1_empty_1 : decode cX1_empty 1 = .ok (.getfield 26, 3) := by decide +kernel
theorem dX1_empty_4 : decode cX1_empty 4 = .ok (.istore_n 1, 1) := by decide +kernel
theorem dX1_empty_5 : decode cX1_empty 5 = .ok (.aload_n 0, 1) := by decide +kernel
theorem dX1_empty_6 : decode cX1_empty 6 = .ok (.iconst 0, 1) := by decide +kernel
theorem dX1_empty_7 : decode cX1_empty 7 = .ok (.putfield 26, 3) := by decide +kernel
theorem dX1_empty_10 : decode cX1_empty 10 = .ok (.iload_n 1, 1) := by decide +kernel
theorem dX1_empty_11 : decode cX1_empty 11 = .ok (.ireturn, 1) := by decide +kernel
theorem dX1_add_0 : decode cX1_add 0 = .ok (.aload_n 0, 1) := by decide +kernel
theorem dX1_add_1 : decode cX1_add 1 = .ok (.invokevirtual 30, 3) := by decide +kernel
theorem dX1_add_4 : decode cX1_add 4 = .ok (.ifCond .eq 8, 3) := by decide +kernel
theorem dX1_add_7 : decode cX1_add 7 = .ok (.aload_n 0, 1) := by decide +kernel
theorem dX1_add_8 : decode cX1_add 8 = .ok (.getfield 26, 3) := by decide +kernel
theorem dX1_add_11 : decode cX1_add 11 = .ok (.ireturn, 1) := by decide +kernel
theorem dX1_add_12 : decode cX1_add 12 = .ok (.aload_n 0, 1) := by decide +kernel
theorem dX1_add_13 : decode cX1_add 13 = .ok (.getfield 11, 3) := by decide +kernel
theorem dX1_add_16 : decode cX1_add 16 = .ok (.aload_n 0, 1) := by decide +kernel
theorem dX1_add_17 : decode cX1_add 17 = .ok (.getfield 26, 3) := by decide +kernel
theorem dX1_add_20 : decode cX1_add 20 = .ok (.aaload, 1) := by decide +kernel
theorem dX1_add_21 : decode cX1_add 21 = .ok (.aload_n 1, 1) := by decide +kernel
theorem dX1_add_22 : decode cX1_add 22 = .ok (.invokevirtual 34, 3) := by decide +kernel
theorem dX1_add_25 : decode cX1_add 25 = .ok (.aload_n 0, 1) := by decide +kernel
theorem dX1_add_26 : decode cX1_add 26 = .ok (.getfield 26, 3) := by decide +kernel
theorem dX1_add_29 : decode cX1_add 29 = .ok (.istore_n 2, 1) := by decide +kernel
theorem dX1_add_30 : decode cX1_add 30 = .ok (.iload_n 2, 1) := by decide +kernel
theorem dX1_add_31 : decode cX1_add 31 = .ok (.ifCond .le 47, 3) := by decide +kernel
theorem dX1_add_34 : decode cX1_add 34 = .ok (.aload_n 0, 1) := by decide +kernel
theorem dX1_add_35 : decode cX1_add 35 = .ok (.getfield 21, 3) := by decide +kernel
theorem dX1_add_38 : decode cX1_add 38 = .ok (.aload_n 1, 1) := by decide +kernel
theorem dX1_add_39 : decode cX1_add 39 = .ok (.aload_n 0, 1) := by decide +kernel
theorem dX1_add_40 : decode cX1_add 40 = .ok (.getfield 11, 3) := by decide +kernel
theorem dX1_add_43 : decode cX1_add 43 = .ok (.aload_n 0, 1) := by decide +kernel
theorem dX1_add_44 : decode cX1_add 44 = .ok (.getfield 17, 3) := by decide +kernel
theorem dX1_add_47 : decode cX1_add 47 = .ok (.iload_n 2, 1) := by decide +kernel
theorem dX1_add_48 : decode cX1_add 48 = .ok (.iconst 1, 1) := by decide +kernel
theorem dX1_add_49 : decode cX1_add 49 = .ok (.isub, 1) := by decide +kernel
theorem dX1_add_50 : decode cX1_add 50 = .ok (.iaload, 1) := by decide +kernel
theorem dX1_add_51 : decode cX1_add 51 = .ok (.aaload, 1) := by decide +kernel
theorem dX1_add_52 : decode cX1_add 52 = .ok (.invokevirtual 38, 3) := by decide +kernel
theorem dX1_add_55 : decode cX1_add 55 = .ok (.ifCond .ge 23, 3) := by decide +kernel
theorem dX1_add_58 : decode cX1_add 58 = .ok (.aload_n 0, 1) := by decide +kernel
theorem dX1_add_59 : decode cX1_add 59 = .ok (.getfield 17, 3) := by decide +kernel
theorem dX1_add_62 : decode cX1_add 62 = .ok (.iload_n 2, 1) := by decide +kernel
theorem dX1_add_63 : decode cX1_add 63 = .ok (.aload_n 0, 1) := by decide +kernel
theorem dX1_add_64 : decode cX1_add 64 = .ok (.getfield 17, 3) := by decide +kernel
theorem dX1_add_67 : decode cX1_add 67 = .ok (.iload_n 2, 1) := by decide +kernel
theorem dX1_add_68 : decode cX1_add 68 = .ok (.iconst 1, 1) := by decide +kernel
theorem dX1_add_69 : decode cX1_add 69 = .ok (.isub, 1) := by decide +kernel
theorem dX1_add_70 : decode cX1_add 70 = .ok (.iaload, 1) := by decide +kernel
theorem dX1_add_71 : decode cX1_add 71 = .ok (.iastore, 1) := by decide +kernel
theorem dX1_add_72 : decode cX1_add 72 = .ok (.iinc 2 (-1), 3) := by decide +kernel
theorem dX1_add_75 : decode cX1_add 75 = .ok (.goto (-45), 3) := by decide +kernel
theorem dX1_add_78 : decode cX1_add 78 = .ok (.aload_n 0, 1) := by decide +kernel
theorem dX1_add_79 : decode cX1_add 79 = .ok (.getfield 17, 3) := by decide +kernel
theorem dX1_add_82 : decode cX1_add 82 = .ok (.iload_n 2, 1) := by decide +kernel
theorem dX1_add_83 : decode cX1_add 83 = .ok (.aload_n 0, 1) := by decide +kernel
theorem dX1_add_84 : decode cX1_add 84 = .ok (.getfield 26, 3) := by decide +kernel
theorem dX1_add_87 : decode cX1_add 87 = .ok (.iastore, 1) := by decide +kernel
theorem dX1_add_88 : decode cX1_add 88 = .ok (.aload_n 0, 1) := by decide +kernel
theorem dX1_add_89 : decode cX1_add 89 = .ok (.dup, 1) := by decide +kernel
theorem dX1_add_90 : decode cX1_add 90 = .ok (.getfield 26, 3) := by decide +kernel
theorem dX1_add_93 : decode cX1_add 93 = .ok (.iconst 1, 1) := by decide +kernel
theorem dX1_add_94 : decode cX1_add 94 = .ok (.iadd, 1) := by decide +kernel
theorem dX1_add_95 : decode cX1_add 95 = .ok (.putfield 26, 3) := by decide +kernel
theorem dX1_add_98 : decode cX1_add 98 = .ok (.aload_n 0, 1) := by decide +kernel
theorem dX1_add_99 : decode cX1_add 99 = .ok (.getfield 26, 3) := by decide +kernel
theorem dX1_add_102 : decode cX1_add 102 = .ok (.ireturn, 1) := by decide +kernel
theorem dX1_placeOf_0 : decode cX1_placeOf 0 = .ok (.iconst 0, 1) := by decide +kernel
theorem dX1_placeOf_1 : decode cX1_placeOf 1 = .ok (.istore_n 2, 1) := by decide +kernel
theorem dX1_placeOf_2 : decode cX1_placeOf 2 = .ok (.iload_n 2, 1) := by decide +kernel
theorem dX1_placeOf_3 : decode cX1_placeOf 3 = .ok (.aload_n 0, 1) := by decide +kernel
theorem dX1_placeOf_4 : decode cX1_placeOf 4 = .ok (.getfield 26, 3) := by decide +kernel
theorem dX1_placeOf_7 : decode cX1_placeOf 7 = .ok (.if_icmp .ge 21, 3) := by decide +kernel
theorem dX1_placeOf_10 : decode cX1_placeOf 10 = .ok (.aload_n 0, 1) := by decide +kernel
theorem dX1_placeOf_11 : decode cX1_placeOf 11 = .ok (.getfield 17, 3) := by decide +kernel
theorem dX1_placeOf_14 : decode cX1_placeOf 14 = .ok (.iload_n 2, 1) := by decide +kernel
theorem dX1_placeOf_15 : decode cX1_placeOf 15 = .ok (.iaload, 1) := by decide +kernel
theorem dX1_placeOf_16 : decode cX1_placeOf 16 = .ok (.iload_n 1, 1) := by decide +kernel
theorem dX1_placeOf_17 : decode cX1_placeOf 17 = .ok (.if_icmp .ne 5, 3) := by decide +kernel
theorem dX1_placeOf_20 : decode cX1_placeOf 20 = .ok (.iload_n 2, 1) := by decide +kernel
theorem dX1_placeOf_21 : decode cX1_placeOf 21 = .ok (.ireturn, 1) := by decide +kernel
theorem dX1_placeOf_22 : decode cX1_placeOf 22 = .ok (.iinc 2 1, 3) := by decide +kernel
theorem dX1_placeOf_25 : decode cX1_placeOf 25 = .ok (.goto (-23), 3) := by decide +kernel
theorem dX1_placeOf_28 : decode cX1_placeOf 28 = .ok (.aload_n 0, 1) := by decide +kernel
theorem dX1_placeOf_29 : decode cX1_placeOf 29 = .ok (.getfield 26, 3) := by decide +kernel
theorem dX1_placeOf_32 : decode cX1_placeOf 32 = .ok (.ireturn, 1) := by decide +kernel
theorem dX1_countRejected_0 : decode cX1_countRejected 0 = .ok (.iconst 0, 1) := by decide +kernel
theorem dX1_countRejected_1 : decode cX1_countRejected 1 = .ok (.istore_n 3, 1) := by decide +kernel
theorem dX1_countRejected_2 : decode cX1_countRejected 2 = .ok (.iload_n 3, 1) := by decide +kernel
theorem dX1_countRejected_3 : decode cX1_countRejected 3 = .ok (.aload_n 0, 1) := by decide +kernel
theorem dX1_countRejected_4 : decode cX1_countRejected 4 = .ok (.getfield 26, 3) := by decide +kernel
theorem dX1_countRejected_7 : decode cX1_countRejected 7 = .ok (.if_icmp .ge 48, 3) := by decide +kernel
theorem dX1_countRejected_10 : decode cX1_countRejected 10 = .ok (.aload_n 0, 1) := by decide +kernel
theorem dX1_countRejected_11 : decode cX1_countRejected 11 = .ok (.getfield 26, 3) := by decide +kernel
theorem dX1_countRejected_14 : decode cX1_countRejected 14 = .ok (.iload_n 3, 1) := by decide +kernel
theorem dX1_countRejected_15 : decode cX1_countRejected 15 = .ok (.isub, 1) := by decide +kernel
theorem dX1_countRejected_16 : decode cX1_countRejected 16 = .ok (.i2l, 1) := by decide +kernel
theorem dX1_countRejected_17 : decode cX1_countRejected 17 = .ok (.lstore 4, 2) := by decide +kernel
theorem dX1_countRejected_19 : decode cX1_countRejected 19 = .ok (.aload_n 0, 1) := by decide +kernel
theorem dX1_countRejected_20 : decode cX1_countRejected 20 = .ok (.getfield 21, 3) := by decide +kernel
theorem dX1_countRejected_23 : decode cX1_countRejected 23 = .ok (.aload_n 0, 1) := by decide +kernel
theorem dX1_countRejected_24 : decode cX1_countRejected 24 = .ok (.getfield 11, 3) := by decide +kernel
theorem dX1_countRejected_27 : decode cX1_countRejected 27 = .ok (.aload_n 0, 1) := by decide +kernel
theorem dX1_countRejected_28 : decode cX1_countRejected 28 = .ok (.getfield 17, 3) := by decide +kernel
theorem dX1_countRejected_31 : decode cX1_countRejected 31 = .ok (.iload_n 3, 1) := by decide +kernel
theorem dX1_countRejected_32 : decode cX1_countRejected 32 = .ok (.iaload, 1) := by decide +kernel
theorem dX1_countRejected_33 : decode cX1_countRejected 33 = .ok (.aaload, 1) := by decide +kernel
theorem dX1_countRejected_34 : decode cX1_countRejected 34 = .ok (.iload_n 1, 1) := by decide +kernel
theorem dX1_countRejected_35 : decode cX1_countRejected 35 = .ok (.i2l, 1) := by decide +kernel
theorem dX1_countRejected_36 : decode cX1_countRejected 36 = .ok (.iload_n 2, 1) := by decide +kernel
theorem dX1_countRejected_37 : decode cX1_countRejected 37 = .ok (.i2l, 1) := by decide +kernel
theorem dX1_countRejected_38 : decode cX1_countRejected 38 = .ok (.lload 4, 2) := by decide +kernel
theorem dX1_countRejected_40 : decode cX1_countRejected 40 = .ok (.lmul, 1) := by decide +kernel
theorem dX1_countRejected_41 : decode cX1_countRejected 41 = .ok (.invokevirtual 44, 3) := by decide +kernel
theorem dX1_countRejected_44 : decode cX1_countRejected 44 = .ok (.ifCond .le 5, 3) := by decide +kernel
theorem dX1_countRejected_47 : decode cX1_countRejected 47 = .ok (.iload_n 3, 1) := by decide +kernel
theorem dX1_countRejected_48 : decode cX1_countRejected 48 = .ok (.ireturn, 1) := by decide +kernel
theorem dX1_countRejected_49 : decode cX1_countRejected 49 = .ok (.iinc 3 1, 3) := by decide +kernel
theorem dX1_countRejected_52 : decode cX1_countRejected 52 = .ok (.goto (-50), 3) := by decide +kernel
theorem dX1_countRejected_55 : decode cX1_countRejected 55 = .ok (.aload_n 0, 1) := by decide +kernel
theorem dX1_countRejected_56 : decode cX1_countRejected 56 = .ok (.getfield 26, 3) := by decide +kernel
theorem dX1_countRejected_59 : decode cX1_countRejected 59 = .ok (.ireturn, 1) := by decide +kernel
