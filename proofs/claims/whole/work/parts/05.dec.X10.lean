theorem dX10_init_0 : decode cX10_init 0 = .ok (.aload_n 0, 1) := by decide +kernel
theorem dX10_init_1 : decode cX10_init 1 = .ok (.invokespecial 3, 3) := by decide +kernel
theorem dX10_init_4 : decode cX10_init 4 = .ok (.aload_n 0, 1) := by decide +kernel
theorem dX10_init_5 : decode cX10_init 5 = .ok (.bipush 12, 2) := by decide +kernel
theorem dX10_init_7 : decode cX10_init 7 = .ok (.newarray .long, 2) := by decide +kernel
theorem dX10_init_9 : decode cX10_init 9 = .ok (.putfield 11, 3) := by decide +kernel
theorem dX10_init_12 : decode cX10_init 12 = .ok (.return_, 1) := by decide +kernel
theorem dX10_set_0 : decode cX10_set 0 = .ok (.aload_n 0, 1) := by decide +kernel
theorem dX10_set_1 : decode cX10_set 1 = .ok (.invokevirtual 15, 3) := by decide +kernel
theorem dX10_set_4 : decode cX10_set 4 = .ok (.aload_n 0, 1) := by decide +kernel
theorem dX10_set_5 : decode cX10_set 5 = .ok (.getfield 11, 3) := by decide +kernel
theorem dX10_set_8 : decode cX10_set 8 = .ok (.iconst 0, 1) := by decide +kernel
theorem dX10_set_9 : decode cX10_set 9 = .ok (.lload_n 1, 1) := by decide +kernel
theorem dX10_set_10 : decode cX10_set 10 = .ok (.ldc2_w 18, 3) := by decide +kernel
theorem dX10_set_13 : decode cX10_set 13 = .ok (.land, 1) := by decide +kernel
theorem dX10_set_14 : decode cX10_set 14 = .ok (.lastore, 1) := by decide +kernel
theorem dX10_set_15 : decode cX10_set 15 = .ok (.aload_n 0, 1) := by decide +kernel
theorem dX10_set_16 : decode cX10_set 16 = .ok (.getfield 11, 3) := by decide +kernel
theorem dX10_set_19 : decode cX10_set 19 = .ok (.iconst 1, 1) := by decide +kernel
theorem dX10_set_20 : decode cX10_set 20 = .ok (.lload_n 1, 1) := by decide +kernel
theorem dX10_set_21 : decode cX10_set 21 = .ok (.bipush 32, 2) := by decide +kernel
theorem dX10_set_23 : decode cX10_set 23 = .ok (.lushr, 1) := by decide +kernel
theorem dX10_set_24 : decode cX10_set 24 = .ok (.lastore, 1) := by decide +kernel
theorem dX10_set_25 : decode cX10_set 25 = .ok (.aload_n 0, 1) := by decide +kernel
theorem dX10_set_26 : decode cX10_set 26 = .ok (.iconst 2, 1) := by decide +kernel
theorem dX10_set_27 : decode cX10_set 27 = .ok (.invokevirtual 20, 3) := by decide +kernel
theorem dX10_set_30 : decode cX10_set 30 = .ok (.return_, 1) := by decide +kernel
theorem dX10_copy_0 : decode cX10_copy 0 = .ok (.aload_n 0, 1) := by decide +kernel
theorem dX10_copy_1 : decode cX10_copy 1 = .ok (.invokevirtual 15, 3) := by decide +kernel
theorem dX10_copy_4 : decode cX10_copy 4 = .ok (.aload_n 0, 1) := by decide +kernel
theorem dX10_copy_5 : decode cX10_copy 5 = .ok (.aload_n 1, 1) := by decide +kernel
theorem dX10_copy_6 : decode cX10_copy 6 = .ok (.getfield 24, 3) := by decide +kernel
theorem dX10_copy_9 : decode cX10_copy 9 = .ok (.putfield 24, 3) := by decide +kernel
theorem dX10_copy_12 : decode cX10_copy 12 = .ok (.iconst 0, 1) := by decide +kernel
theorem dX10_copy_13 : decode cX10_copy 13 = .ok (.istore_n 2, 1) := by decide +kernel
theorem dX10_copy_14 : decode cX10_copy 14 = .ok (.iload_n 2, 1) := by decide +kernel
theorem dX10_copy_15 : decode cX10_copy 15 = .ok (.aload_n 0, 1) := by decide +kernel
theorem dX10_copy_16 : decode cX10_copy 16 = .ok (.getfield 24, 3) := by decide +kernel
theorem dX10_copy_19 : decode cX10_copy 19 = .ok (.if_icmp .ge 21, 3) := by decide +kernel
theorem dX10_copy_22 : decode cX10_copy 22 = .ok (.aload_n 0, 1) := by decide +kernel
theorem dX10_copy_23 : decode cX10_copy 23 = .ok (.getfield 11, 3) := by decide +kernel
theorem dX10_copy_26 : decode cX10_copy 26 = .ok (.iload_n 2, 1) := by decide +kernel
theorem dX10_copy_27 : decode cX10_copy 27 = .ok (.aload_n 1, 1) := by decide +kernel
theorem dX10_copy_28 : decode cX10_copy 28 = .ok (.getfield 11, 3) := by decide +kernel
theorem dX10_copy_31 : decode cX10_copy 31 = .ok (.iload_n 2, 1) := by decide +kernel
theorem dX10_copy_32 : decode cX10_copy 32 = .ok (.laload, 1) := by decide +kernel
theorem dX10_copy_33 : decode cX10_copy 33 = .ok (.lastore, 1) := by decide +kernel
theorem dX10_copy_34 : decode cX10_copy 34 = .ok (.iinc 2 1, 3) := by decide +kernel
theorem dX10_copy_37 : decode cX10_copy 37 = .ok (.goto (-23), 3) := by decide +kernel
theorem dX10_copy_40 : decode cX10_copy 40 = .ok (.return_, 1) := by decide +kernel
theorem dX10_compare_0 : decode cX10_compare 0 = .ok (.aload_n 0, 1) := by decide +kernel
theorem dX10_compare_1 : decode cX10_compare 1 = .ok (.getfield 24, 3) := by decide +kernel
theorem dX10_compare_4 : decode cX10_compare 4 = .ok (.aload_n 1, 1) := by decide +kernel
theorem dX10_compare_5 : decode cX10_compare 5 = .ok (.getfield 24, 3) := by decide +kernel
theorem dX10_compare_8 : decode cX10_compare 8 = .ok (.if_icmp .eq 20, 3) := by decide +kernel
theorem dX10_compare_11 : decode cX10_compare 11 = .ok (.aload_n 0, 1) := by decide +kernel
theorem dX10_compare_12 : decode cX10_compare 12 = .ok (.getfield 24, 3) := by decide +kernel
theorem dX10_compare_15 : decode cX10_compare 15 = .ok (.aload_n 1, 1) := by decide +kernel
theorem dX10_compare_16 : decode cX10_compare 16 = .ok (.getfield 24, 3) := by decide +kernel
theorem dX10_compare_19 : decode cX10_compare 19 = .ok (.if_icmp .ge 7, 3) := by decide +kernel
theorem dX10_compare_22 : decode cX10_compare 22 = .ok (.iconst (-1), 1) := by decide +kernel
theorem dX10_compare_23 : decode cX10_compare 23 = .ok (.goto 4, 3) := by decide +kernel
theorem dX10_compare_26 : decode cX10_compare 26 = .ok (.iconst 1, 1) := by decide +kernel
theorem dX10_compare_27 : decode cX10_compare 27 = .ok (.ireturn, 1) := by decide +kernel
theorem dX10_compare_28 : decode cX10_compare 28 = .ok (.aload_n 0, 1) := by decide +kernel
theorem dX10_compare_29 : decode cX10_compare 29 = .ok (.getfield 24, 3) := by decide +kernel
theorem dX10_compare_32 : decode cX10_compare 32 = .ok (.iconst 1, 1) := by decide +kernel
theorem dX10_compare_33 : decode cX10_compare 33 = .ok (.isub, 1) := by decide +kernel
theorem dX10_compare_34 : decode cX10_compare 34 = .ok (.istore_n 2, 1) := by decide +kernel
theorem dX10_compare_35 : decode cX10_compare 35 = .ok (.iload_n 2, 1) := by decide +kernel
theorem dX10_compare_36 : decode cX10_compare 36 = .ok (.ifCond .lt 47, 3) := by decide +kernel
theorem dX10_compare_39 : decode cX10_compare 39 = .ok (.aload_n 0, 1) := by decide +kernel
theorem dX10_compare_40 : decode cX10_compare 40 = .ok (.getfield 11, 3) := by decide +kernel
theorem dX10_compare_43 : decode cX10_compare 43 = .ok (.iload_n 2, 1) := by decide +kernel
theorem dX10_compare_44 : decode cX10_compare 44 = .ok (.laload, 1) := by decide +kernel
theorem dX10_compare_45 : decode cX10_compare 45 = .ok (.aload_n 1, 1) := by decide +kernel
theorem dX10_compare_46 : decode cX10_compare 46 = .ok (.getfield 11, 3) := by decide +kernel
theorem dX10_compare_49 : decode cX10_compare 49 = .ok (.iload_n 2, 1) := by decide +kernel
theorem dX10_compare_50 : decode cX10_compare 50 = .ok (.laload, 1) := by decide +kernel
theorem dX10_compare_51 : decode cX10_compare 51 = .ok (.lcmp, 1) := by decide +kernel
theorem dX10_compare_52 : decode cX10_compare 52 = .ok (.ifCond .eq 25, 3) := by decide +kernel
theorem dX10_compare_55 : decode cX10_compare 55 = .ok (.aload_n 0, 1) := by decide +kernel
theorem dX10_compare_56 : decode cX10_compare 56 = .ok (.getfield 11, 3) := by decide +kernel
theorem dX10_compare_59 : decode cX10_compare 59 = .ok (.iload_n 2, 1) := by decide +kernel
theorem dX10_compare_60 : decode cX10_compare 60 = .ok (.laload, 1) := by decide +kernel
theorem dX10_compare_61 : decode cX10_compare 61 = .ok (.aload_n 1, 1) := by decide +kernel
theorem dX10_compare_62 : decode cX10_compare 62 = .ok (.getfield 11, 3) := by decide +kernel
theorem dX10_compare_65 : decode cX10_compare 65 = .ok (.iload_n 2, 1) := by decide +kernel
theorem dX10_compare_66 : decode cX10_compare 66 = .ok (.laload, 1) := by decide +kernel
theorem dX10_compare_67 : decode cX10_compare 67 = .ok (.lcmp, 1) := by decide +kernel
theorem dX10_compare_68 : decode cX10_compare 68 = .ok (.ifCond .ge 7, 3) := by decide +kernel
theorem dX10_compare_71 : decode cX10_compare 71 = .ok (.iconst (-1), 1) := by decide +kernel
theorem dX10_compare_72 : decode cX10_compare 72 = .ok (.goto 4, 3) := by decide +kernel
theorem dX10_compare_75 : decode cX10_compare 75 = .ok (.iconst 1, 1) := by decide +kernel
theorem dX10_compare_76 : decode cX10_compare 76 = .ok (.ireturn, 1) := by decide +kernel
theorem dX10_compare_77 : decode cX10_compare 77 = .ok (.iinc 2 (-1), 3) := by decide +kernel
theorem dX10_compare_80 : decode cX10_compare 80 = .ok (.goto (-45), 3) := by decide +kernel
theorem dX10_compare_83 : decode cX10_compare 83 = .ok (.iconst 0, 1) := by decide +kernel
theorem dX10_compare_84 : decode cX10_compare 84 = .ok (.ireturn, 1) := by decide +kernel
theorem dX10_add_0 : decode cX10_add 0 = .ok (.aload_n 0, 1) := by decide +kernel
theorem dX10_add_1 : decode cX10_add 1 = .ok (.getfield 24, 3) := by decide +kernel
theorem dX10_add_4 : decode cX10_add 4 = .ok (.aload_n 1, 1) := by decide +kernel
theorem dX10_add_5 : decode cX10_add 5 = .ok (.getfield 24, 3) := by decide +kernel
theorem dX10_add_8 : decode cX10_add 8 = .ok (.invokestatic 28, 3) := by decide +kernel
theorem dX10_add_11 : decode cX10_add 11 = .ok (.istore_n 2, 1) := by decide +kernel
theorem dX10_add_12 : decode cX10_add 12 = .ok (.lconst 0, 1) := by decide +kernel
theorem dX10_add_13 : decode cX10_add 13 = .ok (.lstore_n 3, 1) := by decide +kernel
theorem dX10_add_14 : decode cX10_add 14 = .ok (.iconst 0, 1) := by decide +kernel
theorem dX10_add_15 : decode cX10_add 15 = .ok (.istore 5, 2) := by decide +kernel
theorem dX10_add_17 : decode cX10_add 17 = .ok (.iload 5, 2) := by decide +kernel
theorem dX10_add_19 : decode cX10_add 19 = .ok (.iload_n 2, 1) := by decide +kernel
theorem dX10_add_20 : decode cX10_add 20 = .ok (.if_icmp .ge 47, 3) := by decide +kernel
theorem dX10_add_23 : decode cX10_add 23 = .ok (.aload_n 0, 1) := by decide +kernel
theorem dX10_add_24 : decode cX10_add 24 = .ok (.getfield 11, 3) := by decide +kernel
theorem dX10_add_27 : decode cX10_add 27 = .ok (.iload 5, 2) := by decide +kernel
theorem dX10_add_29 : decode cX10_add 29 = .ok (.laload, 1) := by decide +kernel
theorem dX10_add_30 : decode cX10_add 30 = .ok (.aload_n 1, 1) := by decide +kernel
theorem dX10_add_31 : decode cX10_add 31 = .ok (.getfield 11, 3) := by decide +kernel
theorem dX10_add_34 : decode cX10_add 34 = .ok (.iload 5, 2) := by decide +kernel
theorem dX10_add_36 : decode cX10_add 36 = .ok (.laload, 1) := by decide +kernel
theorem dX10_add_37 : decode cX10_add 37 = .ok (.ladd, 1) := by decide +kernel
theorem dX10_add_38 : decode cX10_add 38 = .ok (.lload_n 3, 1) := by decide +kernel
theorem dX10_add_39 : decode cX10_add 39 = .ok (.ladd, 1) := by decide +kernel
theorem dX10_add_40 : decode cX10_add 40 = .ok (.lstore 6, 2) := by decide +kernel
theorem dX10_add_42 : decode cX10_add 42 = .ok (.aload_n 0, 1) := by decide +kernel
theorem dX10_add_43 : decode cX10_add 43 = .ok (.getfield 11, 3) := by decide +kernel
theorem dX10_add_46 : decode cX10_add 46 = .ok (.iload 5, 2) := by decide +kernel
theorem dX10_add_48 : decode cX10_add 48 = .ok (.lload 6, 2) := by decide +kernel
theorem dX10_add_50 : decode cX10_add 50 = .ok (.ldc2_w 18, 3) := by decide +kernel
theorem dX10_add_53 : decode cX10_add 53 = .ok (.land, 1) := by decide +kernel
theorem dX10_add_54 : decode cX10_add 54 = .ok (.lastore, 1) := by decide +kernel
theorem dX10_add_55 : decode cX10_add 55 = .ok (.lload 6, 2) := by decide +kernel
theorem dX10_add_57 : decode cX10_add 57 = .ok (.bipush 32, 2) := by decide +kernel
theorem dX10_add_59 : decode cX10_add 59 = .ok (.lushr, 1) := by decide +kernel
theorem dX10_add_60 : decode cX10_add 60 = .ok (.lstore_n 3, 1) := by decide +kernel
theorem dX10_add_61 : decode cX10_add 61 = .ok (.iinc 5 1, 3) := by decide +kernel
theorem dX10_add_64 : decode cX10_add 64 = .ok (.goto (-47), 3) := by decide +kernel
theorem dX10_add_67 : decode cX10_add 67 = .ok (.lload_n 3, 1) := by decide +kernel
theorem dX10_add_68 : decode cX10_add 68 = .ok (.lconst 0, 1) := by decide +kernel
theorem dX10_add_69 : decode cX10_add 69 = .ok (.lcmp, 1) := by decide +kernel
theorem dX10_add_70 : decode cX10_add 70 = .ok (.ifCond .eq 19, 3) := by decide +kernel
theorem dX10_add_73 : decode cX10_add 73 = .ok (.iload_n 2, 1) := by decide +kernel
theorem dX10_add_74 : decode cX10_add 74 = .ok (.bipush 12, 2) := by decide +kernel
theorem dX10_add_76 : decode cX10_add 76 = .ok (.if_icmp .ge 13, 3) := by decide +kernel
theorem dX10_add_79 : decode cX10_add 79 = .ok (.aload_n 0, 1) := by decide +kernel
theorem dX10_add_80 : decode cX10_add 80 = .ok (.getfield 11, 3) := by decide +kernel
theorem dX10_add_83 : decode cX10_add 83 = .ok (.iload_n 2, 1) := by decide +kernel
theorem dX10_add_84 : decode cX10_add 84 = .ok (.lload_n 3, 1) := by decide +kernel
theorem dX10_add_85 : decode cX10_add 85 = .ok (.lastore, 1) := by decide +kernel
theorem dX10_add_86 : decode cX10_add 86 = .ok (.iinc 2 1, 3) := by decide +kernel
theorem dX10_add_89 : decode cX10_add 89 = .ok (.aload_n 0, 1) := by decide +kernel
theorem dX10_add_90 : decode cX10_add 90 = .ok (.iload_n 2, 1) := by decide +kernel
theorem dX10_add_91 : decode cX10_add 91 = .ok (.putfield 24, 3) := by decide +kernel
theorem dX10_add_94 : decode cX10_add 94 = .ok (.return_, 1) := by decide +kernel
theorem dX10_subtract_0 : decode cX10_subtract 0 = .ok (.lconst 0, 1) := by decide +kernel
theorem dX10_subtract_1 : decode cX10_subtract 1 = .ok (.lstore_n 2, 1) := by decide +kernel
theorem dX10_subtract_2 : decode cX10_subtract 2 = .ok (.iconst 0, 1) := by decide +kernel
theorem dX10_subtract_3 : decode cX10_subtract 3 = .ok (.istore 4, 2) := by decide +kernel
theorem dX10_subtract_5 : decode cX10_subtract 5 = .ok (.iload 4, 2) := by decide +kernel
theorem dX10_subtract_7 : decode cX10_subtract 7 = .ok (.aload_n 0, 1) := by decide +kernel
theorem dX10_subtract_8 : decode cX10_subtract 8 = .ok (.getfield 24, 3) := by decide +kernel
theorem dX10_subtract_11 : decode cX10_subtract 11 = .ok (.if_icmp .ge 54, 3) := by decide +kernel
theorem dX10_subtract_14 : decode cX10_subtract 14 = .ok (.aload_n 0, 1) := by decide +kernel
theorem dX10_subtract_15 : decode cX10_subtract 15 = .ok (.getfield 11, 3) := by decide +kernel
theorem dX10_subtract_18 : decode cX10_subtract 18 = .ok (.iload 4, 2) := by decide +kernel
theorem dX10_subtract_20 : decode cX10_subtract 20 = .ok (.laload, 1) := by decide +kernel
theorem dX10_subtract_21 : decode cX10_subtract 21 = .ok (.aload_n 1, 1) := by decide +kernel
theorem dX10_subtract_22 : decode cX10_subtract 22 = .ok (.getfield 11, 3) := by decide +kernel
theorem dX10_subtract_25 : decode cX10_subtract 25 = .ok (.iload 4, 2) := by decide +kernel
theorem dX10_subtract_27 : decode cX10_subtract 27 = .ok (.laload, 1) := by decide +kernel
theorem dX10_subtract_28 : decode cX10_subtract 28 = .ok (.lsub, 1) := by decide +kernel
theorem dX10_subtract_29 : decode cX10_subtract 29 = .ok (.lload_n 2, 1) := by decide +kernel
theorem dX10_subtract_30 : decode cX10_subtract 30 = .ok (.lsub, 1) := by decide +kernel
theorem dX10_subtract_31 : decode cX10_subtract 31 = .ok (.lstore 5, 2) := by decide +kernel
theorem dX10_subtract_33 : decode cX10_subtract 33 = .ok (.aload_n 0, 1) := by decide +kernel
theorem dX10_subtract_34 : decode cX10_subtract 34 = .ok (.getfield 11, 3) := by decide +kernel
theorem dX10_subtract_37 : decode cX10_subtract 37 = .ok (.iload 4, 2) := by decide +kernel
theorem dX10_subtract_39 : decode cX10_subtract 39 = .ok (.lload 5, 2) := by decide +kernel
theorem dX10_subtract_41 : decode cX10_subtract 41 = .ok (.ldc2_w 18, 3) := by decide +kernel
theorem dX10_subtract_44 : decode cX10_subtract 44 = .ok (.land, 1) := by decide +kernel
theorem dX10_subtract_45 : decode cX10_subtract 45 = .ok (.lastore, 1) := by decide +kernel
theorem dX10_subtract_46 : decode cX10_subtract 46 = .ok (.lload 5, 2) := by decide +kernel
theorem dX10_subtract_48 : decode cX10_subtract 48 = .ok (.lconst 0, 1) := by decide +kernel
theorem dX10_subtract_49 : decode cX10_subtract 49 = .ok (.lcmp, 1) := by decide +kernel
theorem dX10_subtract_50 : decode cX10_subtract 50 = .ok (.ifCond .ge 7, 3) := by decide +kernel
theorem dX10_subtract_53 : decode cX10_subtract 53 = .ok (.lconst 1, 1) := by decide +kernel
theorem dX10_subtract_54 : decode cX10_subtract 54 = .ok (.goto 4, 3) := by decide +kernel
theorem dX10_subtract_57 : decode cX10_subtract 57 = .ok (.lconst 0, 1) := by decide +kernel
theorem dX10_subtract_58 : decode cX10_subtract 58 = .ok (.lstore_n 2, 1) := by decide +kernel
theorem dX10_subtract_59 : decode cX10_subtract 59 = .ok (.iinc 4 1, 3) := by decide +kernel
theorem dX10_subtract_62 : decode cX10_subtract 62 = .ok (.goto (-57), 3) := by decide +kernel
theorem dX10_subtract_65 : decode cX10_subtract 65 = .ok (.aload_n 0, 1) := by decide +kernel
theorem dX10_subtract_66 : decode cX10_subtract 66 = .ok (.aload_n 0, 1) := by decide +kernel
theorem dX10_subtract_67 : decode cX10_subtract 67 = .ok (.getfield 24, 3) := by decide +kernel
theorem dX10_subtract_70 : decode cX10_subtract 70 = .ok (.invokevirtual 20, 3) := by decide +kernel
theorem dX10_subtract_73 : decode cX10_subtract 73 = .ok (.return_, 1) := by decide +kernel
theorem dX10_setProduct_0 : decode cX10_setProduct 0 = .ok (.aload_n 0, 1) := by decide +kernel
theorem dX10_setProduct_1 : decode cX10_setProduct 1 = .ok (.invokevirtual 15, 3) := by decide +kernel
theorem dX10_setProduct_4 : decode cX10_setProduct 4 = .ok (.aload_n 0, 1) := by decide +kernel
theorem dX10_setProduct_5 : decode cX10_setProduct 5 = .ok (.aload_n 1, 1) := by decide +kernel
theorem dX10_setProduct_6 : decode cX10_setProduct 6 = .ok (.lload_n 2, 1) := by decide +kernel
theorem dX10_setProduct_7 : decode cX10_setProduct 7 = .ok (.ldc2_w 18, 3) := by decide +kernel
theorem dX10_setProduct_10 : decode cX10_setProduct 10 = .ok (.land, 1) := by decide +kernel
theorem dX10_setProduct_11 : decode cX10_setProduct 11 = .ok (.iconst 0, 1) := by decide +kernel
theorem dX10_setProduct_12 : decode cX10_setProduct 12 = .ok (.invokevirtual 34, 3) := by decide +kernel
theorem dX10_setProduct_15 : decode cX10_setProduct 15 = .ok (.lload_n 2, 1) := by decide +kernel
theorem dX10_setProduct_16 : decode cX10_setProduct 16 = .ok (.bipush 32, 2) := by decide +kernel
theorem dX10_setProduct_18 : decode cX10_setProduct 18 = .ok (.lushr, 1) := by decide +kernel
theorem dX10_setProduct_19 : decode cX10_setProduct 19 = .ok (.lstore 4, 2) := by decide +kernel
theorem dX10_setProduct_21 : decode cX10_setProduct 21 = .ok (.lload 4, 2) := by decide +kernel
theorem dX10_setProduct_23 : decode cX10_setProduct 23 = .ok (.lconst 0, 1) := by decide +kernel
theorem dX10_setProduct_24 : decode cX10_setProduct 24 = .ok (.lcmp, 1) := by decide +kernel
theorem dX10_setProduct_25 : decode cX10_setProduct 25 = .ok (.ifCond .eq 11, 3) := by decide +kernel
theorem dX10_setProduct_28 : decode cX10_setProduct 28 = .ok (.aload_n 0, 1) := by decide +kernel
theorem dX10_setProduct_29 : decode cX10_setProduct 29 = .ok (.aload_n 1, 1) := by decide +kernel
theorem dX10_setProduct_30 : decode cX10_setProduct 30 = .ok (.lload 4, 2) := by decide +kernel
theorem dX10_setProduct_32 : decode cX10_setProduct 32 = .ok (.iconst 1, 1) := by decide +kernel
theorem dX10_setProduct_33 : decode cX10_setProduct 33 = .ok (.invokevirtual 34, 3) := by decide +kernel
theorem dX10_setProduct_36 : decode cX10_setProduct 36 = .ok (.aload_n 0, 1) := by decide +kernel
theorem dX10_setProduct_37 : decode cX10_setProduct 37 = .ok (.aload_n 1, 1) := by decide +kernel
theorem dX10_setProduct_38 : decode cX10_setProduct 38 = .ok (.getfield 24, 3) := by decide +kernel
theorem dX10_setProduct_41 : decode cX10_setProduct 41 = .ok (.iconst 2, 1) := by decide +kernel
theorem dX10_setProduct_42 : decode cX10_setProduct 42 = .ok (.iadd, 1) := by decide +kernel
theorem dX10_setProduct_43 : decode cX10_setProduct 43 = .ok (.invokevirtual 20, 3) := by decide +kernel
theorem dX10_setProduct_46 : decode cX10_setProduct 46 = .ok (.return_, 1) := by decide +kernel
theorem dX10_setProductOf_0 : decode cX10_setProductOf 0 = .ok (.aload_n 0, 1) := by decide +kernel
theorem dX10_setProductOf_1 : decode cX10_setProductOf 1 = .ok (.invokevirtual 15, 3) := by decide +kernel
theorem dX10_setProductOf_4 : decode cX10_setProductOf 4 = .ok (.iconst 0, 1) := by decide +kernel
theorem dX10_setProductOf_5 : decode cX10_setProductOf 5 = .ok (.istore_n 3, 1) := by decide +kernel
theorem dX10_setProductOf_6 : decode cX10_setProductOf 6 = .ok (.iload_n 3, 1) := by decide +kernel
theorem dX10_setProductOf_7 : decode cX10_setProductOf 7 = .ok (.aload_n 2, 1) := by decide +kernel
theorem dX10_setProductOf_8 : decode cX10_setProductOf 8 = .ok (.getfield 24, 3) := by decide +kernel
theorem dX10_setProductOf_11 : decode cX10_setProductOf 11 = .ok (.if_icmp .ge 21, 3) := by decide +kernel
theorem dX10_setProductOf_14 : decode cX10_setProductOf 14 = .ok (.aload_n 0, 1) := by decide +kernel
theorem dX10_setProductOf_15 : decode cX10_setProductOf 15 = .ok (.aload_n 1, 1) := by decide +kernel
theorem dX10_setProductOf_16 : decode cX10_setProductOf 16 = .ok (.aload_n 2, 1) := by decide +kernel
theorem dX10_setProductOf_17 : decode cX10_setProductOf 17 = .ok (.getfield 11, 3) := by decide +kernel
theorem dX10_setProductOf_20 : decode cX10_setProductOf 20 = .ok (.iload_n 3, 1) := by decide +kernel
theorem dX10_setProductOf_21 : decode cX10_setProductOf 21 = .ok (.laload, 1) := by decide +kernel
theorem dX10_setProductOf_22 : decode cX10_setProductOf 22 = .ok (.iload_n 3, 1) := by decide +kernel
theorem dX10_setProductOf_23 : decode cX10_setProductOf 23 = .ok (.invokevirtual 34, 3) := by decide +kernel
theorem dX10_setProductOf_26 : decode cX10_setProductOf 26 = .ok (.iinc 3 1, 3) := by decide +kernel
theorem dX10_setProductOf_29 : decode cX10_setProductOf 29 = .ok (.goto (-23), 3) := by decide +kernel
theorem dX10_setProductOf_32 : decode cX10_setProductOf 32 = .ok (.aload_n 0, 1) := by decide +kernel
theorem dX10_setProductOf_33 : decode cX10_setProductOf 33 = .ok (.aload_n 1, 1) := by decide +kernel
theorem dX10_setProductOf_34 : decode cX10_setProductOf 34 = .ok (.getfield 24, 3) := by decide +kernel
theorem dX10_setProductOf_37 : decode cX10_setProductOf 37 = .ok (.aload_n 2, 1) := by decide +kernel
theorem dX10_setProductOf_38 : decode cX10_setProductOf 38 = .ok (.getfield 24, 3) := by decide +kernel
theorem dX10_setProductOf_41 : decode cX10_setProductOf 41 = .ok (.iadd, 1) := by decide +kernel
theorem dX10_setProductOf_42 : decode cX10_setProductOf 42 = .ok (.invokevirtual 20, 3) := by decide +kernel
theorem dX10_setProductOf_45 : decode cX10_setProductOf 45 = .ok (.return_, 1) := by decide +kernel
theorem dX10_addTimes_0 : decode cX10_addTimes 0 = .ok (.aload_n 1, 1) := by decide +kernel
theorem dX10_addTimes_1 : decode cX10_addTimes 1 = .ok (.getfield 24, 3) := by decide +kernel
theorem dX10_addTimes_4 : decode cX10_addTimes 4 = .ok (.bipush 12, 2) := by decide +kernel
theorem dX10_addTimes_6 : decode cX10_addTimes 6 = .ok (.iload 4, 2) := by decide +kernel
theorem dX10_addTimes_8 : decode cX10_addTimes 8 = .ok (.isub, 1) := by decide +kernel
theorem dX10_addTimes_9 : decode cX10_addTimes 9 = .ok (.invokestatic 38, 3) := by decide +kernel
theorem dX10_addTimes_12 : decode cX10_addTimes 12 = .ok (.istore 5, 2) := by decide +kernel
theorem dX10_addTimes_14 : decode cX10_addTimes 14 = .ok (.lconst 0, 1) := by decide +kernel
theorem dX10_addTimes_15 : decode cX10_addTimes 15 = .ok (.lstore 6, 2) := by decide +kernel
theorem dX10_addTimes_17 : decode cX10_addTimes 17 = .ok (.iconst 0, 1) := by decide +kernel
theorem dX10_addTimes_18 : decode cX10_addTimes 18 = .ok (.istore 8, 2) := by decide +kernel
theorem dX10_addTimes_20 : decode cX10_addTimes 20 = .ok (.iload 8, 2) := by decide +kernel
theorem dX10_addTimes_22 : decode cX10_addTimes 22 = .ok (.iload 5, 2) := by decide +kernel
theorem dX10_addTimes_24 : decode cX10_addTimes 24 = .ok (.if_icmp .ge 57, 3) := by decide +kernel
theorem dX10_addTimes_27 : decode cX10_addTimes 27 = .ok (.aload_n 1, 1) := by decide +kernel
theorem dX10_addTimes_28 : decode cX10_addTimes 28 = .ok (.getfield 11, 3) := by decide +kernel
theorem dX10_addTimes_31 : decode cX10_addTimes 31 = .ok (.iload 8, 2) := by decide +kernel
theorem dX10_addTimes_33 : decode cX10_addTimes 33 = .ok (.laload, 1) := by decide +kernel
theorem dX10_addTimes_34 : decode cX10_addTimes 34 = .ok (.lload_n 2, 1) := by decide +kernel
theorem dX10_addTimes_35 : decode cX10_addTimes 35 = .ok (.lmul, 1) := by decide +kernel
theorem dX10_addTimes_36 : decode cX10_addTimes 36 = .ok (.aload_n 0, 1) := by decide +kernel
theorem dX10_addTimes_37 : decode cX10_addTimes 37 = .ok (.getfield 11, 3) := by decide +kernel
theorem dX10_addTimes_40 : decode cX10_addTimes 40 = .ok (.iload 8, 2) := by decide +kernel
theorem dX10_addTimes_42 : decode cX10_addTimes 42 = .ok (.iload 4, 2) := by decide +kernel
theorem dX10_addTimes_44 : decode cX10_addTimes 44 = .ok (.iadd, 1) := by decide +kernel
theorem dX10_addTimes_45 : decode cX10_addTimes 45 = .ok (.laload, 1) := by decide +kernel
theorem dX10_addTimes_46 : decode cX10_addTimes 46 = .ok (.ladd, 1) := by decide +kernel
theorem dX10_addTimes_47 : decode cX10_addTimes 47 = .ok (.lload 6, 2) := by decide +kernel
theorem dX10_addTimes_49 : decode cX10_addTimes 49 = .ok (.ladd, 1) := by decide +kernel
theorem dX10_addTimes_50 : decode cX10_addTimes 50 = .ok (.lstore 9, 2) := by decide +kernel
theorem dX10_addTimes_52 : decode cX10_addTimes 52 = .ok (.aload_n 0, 1) := by decide +kernel
theorem dX10_addTimes_53 : decode cX10_addTimes 53 = .ok (.getfield 11, 3) := by decide +kernel
theorem dX10_addTimes_56 : decode cX10_addTimes 56 = .ok (.iload 8, 2) := by decide +kernel
theorem dX10_addTimes_58 : decode cX10_addTimes 58 = .ok (.iload 4, 2) := by decide +kernel
theorem dX10_addTimes_60 : decode cX10_addTimes 60 = .ok (.iadd, 1) := by decide +kernel
theorem dX10_addTimes_61 : decode cX10_addTimes 61 = .ok (.lload 9, 2) := by decide +kernel
theorem dX10_addTimes_63 : decode cX10_addTimes 63 = .ok (.ldc2_w 18, 3) := by decide +kernel
theorem dX10_addTimes_66 : decode cX10_addTimes 66 = .ok (.land, 1) := by decide +kernel
theorem dX10_addTimes_67 : decode cX10_addTimes 67 = .ok (.lastore, 1) := by decide +kernel
theorem dX10_addTimes_68 : decode cX10_addTimes 68 = .ok (.lload 9, 2) := by decide +kernel
theorem dX10_addTimes_70 : decode cX10_addTimes 70 = .ok (.bipush 32, 2) := by decide +kernel
theorem dX10_addTimes_72 : decode cX10_addTimes 72 = .ok (.lushr, 1) := by decide +kernel
theorem dX10_addTimes_73 : decode cX10_addTimes 73 = .ok (.lstore 6, 2) := by decide +kernel
theorem dX10_addTimes_75 : decode cX10_addTimes 75 = .ok (.iinc 8 1, 3) := by decide +kernel
theorem dX10_addTimes_78 : decode cX10_addTimes 78 = .ok (.goto (-58), 3) := by decide +kernel
theorem dX10_addTimes_81 : decode cX10_addTimes 81 = .ok (.iload 5, 2) := by decide +kernel
theorem dX10_addTimes_83 : decode cX10_addTimes 83 = .ok (.iload 4, 2) := by decide +kernel
theorem dX10_addTimes_85 : decode cX10_addTimes 85 = .ok (.iadd, 1) := by decide +kernel
theorem dX10_addTimes_86 : decode cX10_addTimes 86 = .ok (.bipush 12, 2) := by decide +kernel
theorem dX10_addTimes_88 : decode cX10_addTimes 88 = .ok (.if_icmp .ge 15, 3) := by decide +kernel
theorem dX10_addTimes_91 : decode cX10_addTimes 91 = .ok (.aload_n 0, 1) := by decide +kernel
theorem dX10_addTimes_92 : decode cX10_addTimes 92 = .ok (.getfield 11, 3) := by decide +kernel
theorem dX10_addTimes_95 : decode cX10_addTimes 95 = .ok (.iload 5, 2) := by decide +kernel
theorem dX10_addTimes_97 : decode cX10_addTimes 97 = .ok (.iload 4, 2) := by decide +kernel
theorem dX10_addTimes_99 : decode cX10_addTimes 99 = .ok (.iadd, 1) := by decide +kernel
theorem dX10_addTimes_100 : decode cX10_addTimes 100 = .ok (.lload 6, 2) := by decide +kernel
theorem dX10_addTimes_102 : decode cX10_addTimes 102 = .ok (.lastore, 1) := by decide +kernel
theorem dX10_addTimes_103 : decode cX10_addTimes 103 = .ok (.return_, 1) := by decide +kernel
theorem dX10_remainder_0 : decode cX10_remainder 0 = .ok (.iload_n 1, 1) := by decide +kernel
theorem dX10_remainder_1 : decode cX10_remainder 1 = .ok (.ifCond .gt 5, 3) := by decide +kernel
theorem dX10_remainder_4 : decode cX10_remainder 4 = .ok (.iconst 0, 1) := by decide +kernel
theorem dX10_remainder_5 : decode cX10_remainder 5 = .ok (.ireturn, 1) := by decide +kernel
theorem dX10_remainder_6 : decode cX10_remainder 6 = .ok (.lconst 0, 1) := by decide +kernel
theorem dX10_remainder_7 : decode cX10_remainder 7 = .ok (.lstore_n 2, 1) := by decide +kernel
theorem dX10_remainder_8 : decode cX10_remainder 8 = .ok (.aload_n 0, 1) := by decide +kernel
theorem dX10_remainder_9 : decode cX10_remainder 9 = .ok (.getfield 24, 3) := by decide +kernel
theorem dX10_remainder_12 : decode cX10_remainder 12 = .ok (.iconst 1, 1) := by decide +kernel
theorem dX10_remainder_13 : decode cX10_remainder 13 = .ok (.isub, 1) := by decide +kernel
theorem dX10_remainder_14 : decode cX10_remainder 14 = .ok (.istore 4, 2) := by decide +kernel
theorem dX10_remainder_16 : decode cX10_remainder 16 = .ok (.iload 4, 2) := by decide +kernel
theorem dX10_remainder_18 : decode cX10_remainder 18 = .ok (.ifCond .lt 25, 3) := by decide +kernel
theorem dX10_remainder_21 : decode cX10_remainder 21 = .ok (.lload_n 2, 1) := by decide +kernel
theorem dX10_remainder_22 : decode cX10_remainder 22 = .ok (.bipush 32, 2) := by decide +kernel
theorem dX10_remainder_24 : decode cX10_remainder 24 = .ok (.lshl, 1) := by decide +kernel
theorem dX10_remainder_25 : decode cX10_remainder 25 = .ok (.aload_n 0, 1) := by decide +kernel
theorem dX10_remainder_26 : decode cX10_remainder 26 = .ok (.getfield 11, 3) := by decide +kernel
theorem dX10_remainder_29 : decode cX10_remainder 29 = .ok (.iload 4, 2) := by decide +kernel
theorem dX10_remainder_31 : decode cX10_remainder 31 = .ok (.laload, 1) := by decide +kernel
theorem dX10_remainder_32 : decode cX10_remainder 32 = .ok (.lor, 1) := by decide +kernel
theorem dX10_remainder_33 : decode cX10_remainder 33 = .ok (.iload_n 1, 1) := by decide +kernel
theorem dX10_remainder_34 : decode cX10_remainder 34 = .ok (.i2l, 1) := by decide +kernel
theorem dX10_remainder_35 : decode cX10_remainder 35 = .ok (.lrem, 1) := by decide +kernel
theorem dX10_remainder_36 : decode cX10_remainder 36 = .ok (.lstore_n 2, 1) := by decide +kernel
theorem dX10_remainder_37 : decode cX10_remainder 37 = .ok (.iinc 4 (-1), 3) := by decide +kernel
theorem dX10_remainder_40 : decode cX10_remainder 40 = .ok (.goto (-24), 3) := by decide +kernel
theorem dX10_remainder_43 : decode cX10_remainder 43 = .ok (.lload_n 2, 1) := by decide +kernel
theorem dX10_remainder_44 : decode cX10_remainder 44 = .ok (.l2i, 1) := by decide +kernel
theorem dX10_remainder_45 : decode cX10_remainder 45 = .ok (.ireturn, 1) := by decide +kernel
theorem dX10_divide_0 : decode cX10_divide 0 = .ok (.iload_n 1, 1) := by decide +kernel
theorem dX10_divide_1 : decode cX10_divide 1 = .ok (.ifCond .gt 4, 3) := by decide +kernel
theorem dX10_divide_4 : decode cX10_divide 4 = .ok (.return_, 1) := by decide +kernel
theorem dX10_divide_5 : decode cX10_divide 5 = .ok (.lconst 0, 1) := by decide +kernel
theorem dX10_divide_6 : decode cX10_divide 6 = .ok (.lstore_n 2, 1) := by decide +kernel
theorem dX10_divide_7 : decode cX10_divide 7 = .ok (.aload_n 0, 1) := by decide +kernel
theorem dX10_divide_8 : decode cX10_divide 8 = .ok (.getfield 24, 3) := by decide +kernel
theorem dX10_divide_11 : decode cX10_divide 11 = .ok (.iconst 1, 1) := by decide +kernel
theorem dX10_divide_12 : decode cX10_divide 12 = .ok (.isub, 1) := by decide +kernel
theorem dX10_divide_13 : decode cX10_divide 13 = .ok (.istore 4, 2) := by decide +kernel
theorem dX10_divide_15 : decode cX10_divide 15 = .ok (.iload 4, 2) := by decide +kernel
theorem dX10_divide_17 : decode cX10_divide 17 = .ok (.ifCond .lt 41, 3) := by decide +kernel
theorem dX10_divide_20 : decode cX10_divide 20 = .ok (.lload_n 2, 1) := by decide +kernel
theorem dX10_divide_21 : decode cX10_divide 21 = .ok (.bipush 32, 2) := by decide +kernel
theorem dX10_divide_23 : decode cX10_divide 23 = .ok (.lshl, 1) := by decide +kernel
theorem dX10_divide_24 : decode cX10_divide 24 = .ok (.aload_n 0, 1) := by decide +kernel
theorem dX10_divide_25 : decode cX10_divide 25 = .ok (.getfield 11, 3) := by decide +kernel
theorem dX10_divide_28 : decode cX10_divide 28 = .ok (.iload 4, 2) := by decide +kernel
theorem dX10_divide_30 : decode cX10_divide 30 = .ok (.laload, 1) := by decide +kernel
theorem dX10_divide_31 : decode cX10_divide 31 = .ok (.lor, 1) := by decide +kernel
theorem dX10_divide_32 : decode cX10_divide 32 = .ok (.lstore 5, 2) := by decide +kernel
theorem dX10_divide_34 : decode cX10_divide 34 = .ok (.aload_n 0, 1) := by decide +kernel
theorem dX10_divide_35 : decode cX10_divide 35 = .ok (.getfield 11, 3) := by decide +kernel
theorem dX10_divide_38 : decode cX10_divide 38 = .ok (.iload 4, 2) := by decide +kernel
theorem dX10_divide_40 : decode cX10_divide 40 = .ok (.lload 5, 2) := by decide +kernel
theorem dX10_divide_42 : decode cX10_divide 42 = .ok (.iload_n 1, 1) := by decide +kernel
theorem dX10_divide_43 : decode cX10_divide 43 = .ok (.i2l, 1) := by decide +kernel
theorem dX10_divide_44 : decode cX10_divide 44 = .ok (.ldiv, 1) := by decide +kernel
theorem dX10_divide_45 : decode cX10_divide 45 = .ok (.lastore, 1) := by decide +kernel
theorem dX10_divide_46 : decode cX10_divide 46 = .ok (.lload 5, 2) := by decide +kernel
theorem dX10_divide_48 : decode cX10_divide 48 = .ok (.iload_n 1, 1) := by decide +kernel
theorem dX10_divide_49 : decode cX10_divide 49 = .ok (.i2l, 1) := by decide +kernel
theorem dX10_divide_50 : decode cX10_divide 50 = .ok (.lrem, 1) := by decide +kernel
theorem dX10_divide_51 : decode cX10_divide 51 = .ok (.lstore_n 2, 1) := by decide +kernel
theorem dX10_divide_52 : decode cX10_divide 52 = .ok (.iinc 4 (-1), 3) := by decide +kernel
theorem dX10_divide_55 : decode cX10_divide 55 = .ok (.goto (-40), 3) := by decide +kernel
theorem dX10_divide_58 : decode cX10_divide 58 = .ok (.aload_n 0, 1) := by decide +kernel
theorem dX10_divide_59 : decode cX10_divide 59 = .ok (.aload_n 0, 1) := by decide +kernel
theorem dX10_divide_60 : decode cX10_divide 60 = .ok (.getfield 24, 3) := by decide +kernel
theorem dX10_divide_63 : decode cX10_divide 63 = .ok (.invokevirtual 20, 3) := by decide +kernel
theorem dX10_divide_66 : decode cX10_divide 66 = .ok (.return_, 1) := by decide +kernel
theorem dX10_bitLength_0 : decode cX10_bitLength 0 = .ok (.aload_n 0, 1) := by decide +kernel
theorem dX10_bitLength_1 : decode cX10_bitLength 1 = .ok (.getfield 24, 3) := by decide +kernel
theorem dX10_bitLength_4 : decode cX10_bitLength 4 = .ok (.ifCond .ne 7, 3) := by decide +kernel
theorem dX10_bitLength_7 : decode cX10_bitLength 7 = .ok (.iconst 0, 1) := by decide +kernel
theorem dX10_bitLength_8 : decode cX10_bitLength 8 = .ok (.goto 28, 3) := by decide +kernel
theorem dX10_bitLength_11 : decode cX10_bitLength 11 = .ok (.bipush 32, 2) := by decide +kernel
theorem dX10_bitLength_13 : decode cX10_bitLength 13 = .ok (.aload_n 0, 1) := by decide +kernel
theorem dX10_bitLength_14 : decode cX10_bitLength 14 = .ok (.getfield 24, 3) := by decide +kernel
theorem dX10_bitLength_17 : decode cX10_bitLength 17 = .ok (.imul, 1) := by decide +kernel
theorem dX10_bitLength_18 : decode cX10_bitLength 18 = .ok (.aload_n 0, 1) := by decide +kernel
theorem dX10_bitLength_19 : decode cX10_bitLength 19 = .ok (.getfield 11, 3) := by decide +kernel
theorem dX10_bitLength_22 : decode cX10_bitLength 22 = .ok (.aload_n 0, 1) := by decide +kernel
theorem dX10_bitLength_23 : decode cX10_bitLength 23 = .ok (.getfield 24, 3) := by decide +kernel
theorem dX10_bitLength_26 : decode cX10_bitLength 26 = .ok (.iconst 1, 1) := by decide +kernel
theorem dX10_bitLength_27 : decode cX10_bitLength 27 = .ok (.isub, 1) := by decide +kernel
theorem dX10_bitLength_28 : decode cX10_bitLength 28 = .ok (.laload, 1) := by decide +kernel
theorem dX10_bitLength_29 : decode cX10_bitLength 29 = .ok (.invokestatic 41, 3) := by decide +kernel
theorem dX10_bitLength_32 : decode cX10_bitLength 32 = .ok (.isub, 1) := by decide +kernel
theorem dX10_bitLength_33 : decode cX10_bitLength 33 = .ok (.bipush 32, 2) := by decide +kernel
theorem dX10_bitLength_35 : decode cX10_bitLength 35 = .ok (.iadd, 1) := by decide +kernel
theorem dX10_bitLength_36 : decode cX10_bitLength 36 = .ok (.ireturn, 1) := by decide +kernel
theorem dX10_countWords_0 : decode cX10_countWords 0 = .ok (.aload_n 0, 1) := by decide +kernel
theorem dX10_countWords_1 : decode cX10_countWords 1 = .ok (.invokevirtual 47, 3) := by decide +kernel
theorem dX10_countWords_4 : decode cX10_countWords 4 = .ok (.bipush 15, 2) := by decide +kernel
theorem dX10_countWords_6 : decode cX10_countWords 6 = .ok (.iadd, 1) := by decide +kernel
theorem dX10_countWords_7 : decode cX10_countWords 7 = .ok (.bipush 16, 2) := by decide +kernel
theorem dX10_countWords_9 : decode cX10_countWords 9 = .ok (.idiv, 1) := by decide +kernel
theorem dX10_countWords_10 : decode cX10_countWords 10 = .ok (.ireturn, 1) := by decide +kernel
theorem dX10_sixteenBits_0 : decode cX10_sixteenBits 0 = .ok (.iload_n 1, 1) := by decide +kernel
theorem dX10_sixteenBits_1 : decode cX10_sixteenBits 1 = .ok (.iconst 1, 1) := by decide +kernel
theorem dX10_sixteenBits_2 : decode cX10_sixteenBits 2 = .ok (.ishr, 1) := by decide +kernel
theorem dX10_sixteenBits_3 : decode cX10_sixteenBits 3 = .ok (.istore_n 2, 1) := by decide +kernel
theorem dX10_sixteenBits_4 : decode cX10_sixteenBits 4 = .ok (.iload_n 2, 1) := by decide +kernel
theorem dX10_sixteenBits_5 : decode cX10_sixteenBits 5 = .ok (.ifCond .lt 11, 3) := by decide +kernel
theorem dX10_sixteenBits_8 : decode cX10_sixteenBits 8 = .ok (.iload_n 2, 1) := by decide +kernel
theorem dX10_sixteenBits_9 : decode cX10_sixteenBits 9 = .ok (.aload_n 0, 1) := by decide +kernel
theorem dX10_sixteenBits_10 : decode cX10_sixteenBits 10 = .ok (.getfield 24, 3) := by decide +kernel
theorem dX10_sixteenBits_13 : decode cX10_sixteenBits 13 = .ok (.if_icmp .lt 5, 3) := by decide +kernel
theorem dX10_sixteenBits_16 : decode cX10_sixteenBits 16 = .ok (.iconst 0, 1) := by decide +kernel
theorem dX10_sixteenBits_17 : decode cX10_sixteenBits 17 = .ok (.ireturn, 1) := by decide +kernel
theorem dX10_sixteenBits_18 : decode cX10_sixteenBits 18 = .ok (.aload_n 0, 1) := by decide +kernel
theorem dX10_sixteenBits_19 : decode cX10_sixteenBits 19 = .ok (.getfield 11, 3) := by decide +kernel
theorem dX10_sixteenBits_22 : decode cX10_sixteenBits 22 = .ok (.iload_n 2, 1) := by decide +kernel
theorem dX10_sixteenBits_23 : decode cX10_sixteenBits 23 = .ok (.laload, 1) := by decide +kernel
theorem dX10_sixteenBits_24 : decode cX10_sixteenBits 24 = .ok (.bipush 16, 2) := by decide +kernel
theorem dX10_sixteenBits_26 : decode cX10_sixteenBits 26 = .ok (.iload_n 1, 1) := by decide +kernel
theorem dX10_sixteenBits_27 : decode cX10_sixteenBits 27 = .ok (.iconst 1, 1) := by decide +kernel
theorem dX10_sixteenBits_28 : decode cX10_sixteenBits 28 = .ok (.iand, 1) := by decide +kernel
theorem dX10_sixteenBits_29 : decode cX10_sixteenBits 29 = .ok (.imul, 1) := by decide +kernel
theorem dX10_sixteenBits_30 : decode cX10_sixteenBits 30 = .ok (.lushr, 1) := by decide +kernel
theorem dX10_sixteenBits_31 : decode cX10_sixteenBits 31 = .ok (.l2i, 1) := by decide +kernel
theorem dX10_sixteenBits_32 : decode cX10_sixteenBits 32 = .ok (.ldc 51, 2) := by decide +kernel
theorem dX10_sixteenBits_34 : decode cX10_sixteenBits 34 = .ok (.iand, 1) := by decide +kernel
theorem dX10_sixteenBits_35 : decode cX10_sixteenBits 35 = .ok (.ireturn, 1) := by decide +kernel
theorem dX10_empty_0 : decode cX10_empty 0 = .ok (.iconst 0, 1) := by decide +kernel
theorem dX10_empty_1 : decode cX10_empty 1 = .ok (.istore_n 1, 1) := by decide +kernel
theorem dX10_empty_2 : decode cX10_empty 2 = .ok (.iload_n 1, 1) := by decide +kernel
theorem dX10_empty_3 : decode cX10_empty 3 = .ok (.aload_n 0, 1) := by decide +kernel
theorem dX10_empty_4 : decode cX10_empty 4 = .ok (.getfield 24, 3) := by decide +kernel
theorem dX10_empty_7 : decode cX10_empty 7 = .ok (.if_icmp .ge 16, 3) := by decide +kernel
theorem dX10_empty_10 : decode cX10_empty 10 = .ok (.aload_n 0, 1) := by decide +kernel
theorem dX10_empty_11 : decode cX10_empty 11 = .ok (.getfield 11, 3) := by decide +kernel
theorem dX10_empty_14 : decode cX10_empty 14 = .ok (.iload_n 1, 1) := by decide +kernel
theorem dX10_empty_15 : decode cX10_empty 15 = .ok (.lconst 0, 1) := by decide +kernel
theorem dX10_empty_16 : decode cX10_empty 16 = .ok (.lastore, 1) := by decide +kernel
theorem dX10_empty_17 : decode cX10_empty 17 = .ok (.iinc 1 1, 3) := by decide +kernel
theorem dX10_empty_20 : decode cX10_empty 20 = .ok (.goto (-18), 3) := by decide +kernel
theorem dX10_empty_23 : decode cX10_empty 23 = .ok (.aload_n 0, 1) := by decide +kernel
theorem dX10_empty_24 : decode cX10_empty 24 = .ok (.iconst 0, 1) := by decide +kernel
theorem dX10_empty_25 : decode cX10_empty 25 = .ok (.putfield 24, 3) := by decide +kernel
theorem dX10_empty_28 : decode cX10_empty 28 = .ok (.return_, 1) := by decide +kernel
theorem dX10_trim_0 : decode cX10_trim 0 = .ok (.aload_n 0, 1) := by decide +kernel
theorem dX10_trim_1 : decode cX10_trim 1 = .ok (.iload_n 1, 1) := by decide +kernel
theorem dX10_trim_2 : decode cX10_trim 2 = .ok (.bipush 12, 2) := by decide +kernel
theorem dX10_trim_4 : decode cX10_trim 4 = .ok (.invokestatic 38, 3) := by decide +kernel
theorem dX10_trim_7 : decode cX10_trim 7 = .ok (.putfield 24, 3) := by decide +kernel
theorem dX10_trim_10 : decode cX10_trim 10 = .ok (.aload_n 0, 1) := by decide +kernel
theorem dX10_trim_11 : decode cX10_trim 11 = .ok (.getfield 24, 3) := by decide +kernel
theorem dX10_trim_14 : decode cX10_trim 14 = .ok (.ifCond .le 32, 3) := by decide +kernel
theorem dX10_trim_17 : decode cX10_trim 17 = .ok (.aload_n 0, 1) := by decide +kernel
theorem dX10_trim_18 : decode cX10_trim 18 = .ok (.getfield 11, 3) := by decide +kernel
theorem dX10_trim_21 : decode cX10_trim 21 = .ok (.aload_n 0, 1) := by decide +kernel
theorem dX10_trim_22 : decode cX10_trim 22 = .ok (.getfield 24, 3) := by decide +kernel
theorem dX10_trim_25 : decode cX10_trim 25 = .ok (.iconst 1, 1) := by decide +kernel
theorem dX10_trim_26 : decode cX10_trim 26 = .ok (.isub, 1) := by decide +kernel
theorem dX10_trim_27 : decode cX10_trim 27 = .ok (.laload, 1) := by decide +kernel
theorem dX10_trim_28 : decode cX10_trim 28 = .ok (.lconst 0, 1) := by decide +kernel
theorem dX10_trim_29 : decode cX10_trim 29 = .ok (.lcmp, 1) := by decide +kernel
theorem dX10_trim_30 : decode cX10_trim 30 = .ok (.ifCond .ne 16, 3) := by decide +kernel
theorem dX10_trim_33 : decode cX10_trim 33 = .ok (.aload_n 0, 1) := by decide +kernel
theorem dX10_trim_34 : decode cX10_trim 34 = .ok (.dup, 1) := by decide +kernel
theorem dX10_trim_35 : decode cX10_trim 35 = .ok (.getfield 24, 3) := by decide +kernel
theorem dX10_trim_38 : decode cX10_trim 38 = .ok (.iconst 1, 1) := by decide +kernel
theorem dX10_trim_39 : decode cX10_trim 39 = .ok (.isub, 1) := by decide +kernel
theorem dX10_trim_40 : decode cX10_trim 40 = .ok (.putfield 24, 3) := by decide +kernel
theorem dX10_trim_43 : decode cX10_trim 43 = .ok (.goto (-33), 3) := by decide +kernel
theorem dX10_trim_46 : decode cX10_trim 46 = .ok (.return_, 1) := by decide +kernel
