theorem dX11_init_0 : decode cX11_init 0 = .ok (.aload_n 0, 1) := by decide +kernel
theorem dX11_init_1 : decode cX11_init 1 = .ok (.invokespecial 1, 3) := by decide +kernel
theorem dX11_init_4 : decode cX11_init 4 = .ok (.aload_n 0, 1) := by decide +kernel
theorem dX11_init_5 : decode cX11_init 5 = .ok (.new 7, 3) := by decide +kernel
theorem dX11_init_8 : decode cX11_init 8 = .ok (.dup, 1) := by decide +kernel
theorem dX11_init_9 : decode cX11_init 9 = .ok (.invokespecial 9, 3) := by decide +kernel
theorem dX11_init_12 : decode cX11_init 12 = .ok (.putfield 10, 3) := by decide +kernel
theorem dX11_init_15 : decode cX11_init 15 = .ok (.aload_n 0, 1) := by decide +kernel
theorem dX11_init_16 : decode cX11_init 16 = .ok (.new 16, 3) := by decide +kernel
theorem dX11_init_19 : decode cX11_init 19 = .ok (.dup, 1) := by decide +kernel
theorem dX11_init_20 : decode cX11_init 20 = .ok (.bipush 15, 2) := by decide +kernel
theorem dX11_init_22 : decode cX11_init 22 = .ok (.invokespecial 18, 3) := by decide +kernel
theorem dX11_init_25 : decode cX11_init 25 = .ok (.putfield 21, 3) := by decide +kernel
theorem dX11_init_28 : decode cX11_init 28 = .ok (.aload_n 0, 1) := by decide +kernel
theorem dX11_init_29 : decode cX11_init 29 = .ok (.new 16, 3) := by decide +kernel
theorem dX11_init_32 : decode cX11_init 32 = .ok (.dup, 1) := by decide +kernel
theorem dX11_init_33 : decode cX11_init 33 = .ok (.bipush 15, 2) := by decide +kernel
theorem dX11_init_35 : decode cX11_init 35 = .ok (.invokespecial 18, 3) := by decide +kernel
theorem dX11_init_38 : decode cX11_init 38 = .ok (.putfield 25, 3) := by decide +kernel
theorem dX11_init_41 : decode cX11_init 41 = .ok (.aload_n 0, 1) := by decide +kernel
theorem dX11_init_42 : decode cX11_init 42 = .ok (.new 16, 3) := by decide +kernel
theorem dX11_init_45 : decode cX11_init 45 = .ok (.dup, 1) := by decide +kernel
theorem dX11_init_46 : decode cX11_init 46 = .ok (.bipush 30, 2) := by decide +kernel
theorem dX11_init_48 : decode cX11_init 48 = .ok (.invokespecial 18, 3) := by decide +kernel
theorem dX11_init_51 : decode cX11_init 51 = .ok (.putfield 28, 3) := by decide +kernel
theorem dX11_init_54 : decode cX11_init 54 = .ok (.aload_n 0, 1) := by decide +kernel
theorem dX11_init_55 : decode cX11_init 55 = .ok (.new 16, 3) := by decide +kernel
theorem dX11_init_58 : decode cX11_init 58 = .ok (.dup, 1) := by decide +kernel
theorem dX11_init_59 : decode cX11_init 59 = .ok (.bipush 40, 2) := by decide +kernel
theorem dX11_init_61 : decode cX11_init 61 = .ok (.invokespecial 18, 3) := by decide +kernel
theorem dX11_init_64 : decode cX11_init 64 = .ok (.putfield 31, 3) := by decide +kernel
theorem dX11_init_67 : decode cX11_init 67 = .ok (.aload_n 0, 1) := by decide +kernel
theorem dX11_init_68 : decode cX11_init 68 = .ok (.new 34, 3) := by decide +kernel
theorem dX11_init_71 : decode cX11_init 71 = .ok (.dup, 1) := by decide +kernel
theorem dX11_init_72 : decode cX11_init 72 = .ok (.invokespecial 36, 3) := by decide +kernel
theorem dX11_init_75 : decode cX11_init 75 = .ok (.putfield 37, 3) := by decide +kernel
theorem dX11_init_78 : decode cX11_init 78 = .ok (.aload_n 0, 1) := by decide +kernel
theorem dX11_init_79 : decode cX11_init 79 = .ok (.new 41, 3) := by decide +kernel
theorem dX11_init_82 : decode cX11_init 82 = .ok (.dup, 1) := by decide +kernel
theorem dX11_init_83 : decode cX11_init 83 = .ok (.invokespecial 43, 3) := by decide +kernel
theorem dX11_init_86 : decode cX11_init 86 = .ok (.putfield 44, 3) := by decide +kernel
theorem dX11_init_89 : decode cX11_init 89 = .ok (.aload_n 0, 1) := by decide +kernel
theorem dX11_init_90 : decode cX11_init 90 = .ok (.new 48, 3) := by decide +kernel
theorem dX11_init_93 : decode cX11_init 93 = .ok (.dup, 1) := by decide +kernel
theorem dX11_init_94 : decode cX11_init 94 = .ok (.invokespecial 50, 3) := by decide +kernel
theorem dX11_init_97 : decode cX11_init 97 = .ok (.putfield 51, 3) := by decide +kernel
theorem dX11_init_100 : decode cX11_init 100 = .ok (.aload_n 0, 1) := by decide +kernel
theorem dX11_init_101 : decode cX11_init 101 = .ok (.new 55, 3) := by decide +kernel
theorem dX11_init_104 : decode cX11_init 104 = .ok (.dup, 1) := by decide +kernel
theorem dX11_init_105 : decode cX11_init 105 = .ok (.invokespecial 57, 3) := by decide +kernel
theorem dX11_init_108 : decode cX11_init 108 = .ok (.putfield 58, 3) := by decide +kernel
theorem dX11_init_111 : decode cX11_init 111 = .ok (.aload_n 0, 1) := by decide +kernel
theorem dX11_init_112 : decode cX11_init 112 = .ok (.new 62, 3) := by decide +kernel
theorem dX11_init_115 : decode cX11_init 115 = .ok (.dup, 1) := by decide +kernel
theorem dX11_init_116 : decode cX11_init 116 = .ok (.invokespecial 64, 3) := by decide +kernel
theorem dX11_init_119 : decode cX11_init 119 = .ok (.putfield 65, 3) := by decide +kernel
theorem dX11_init_122 : decode cX11_init 122 = .ok (.aload_n 0, 1) := by decide +kernel
theorem dX11_init_123 : decode cX11_init 123 = .ok (.new 69, 3) := by decide +kernel
theorem dX11_init_126 : decode cX11_init 126 = .ok (.dup, 1) := by decide +kernel
theorem dX11_init_127 : decode cX11_init 127 = .ok (.aload_n 0, 1) := by decide +kernel
theorem dX11_init_128 : decode cX11_init 128 = .ok (.getfield 65, 3) := by decide +kernel
theorem dX11_init_131 : decode cX11_init 131 = .ok (.invokespecial 71, 3) := by decide +kernel
theorem dX11_init_134 : decode cX11_init 134 = .ok (.putfield 74, 3) := by decide +kernel
theorem dX11_init_137 : decode cX11_init 137 = .ok (.return_, 1) := by decide +kernel
theorem dX11_table_0 : decode cX11_table 0 = .ok (.iload_n 1, 1) := by decide +kernel
theorem dX11_table_1 : decode cX11_table 1 = .ok (.iconst 1, 1) := by decide +kernel
theorem dX11_table_2 : decode cX11_table 2 = .ok (.iconst 5, 1) := by decide +kernel
theorem dX11_table_3 : decode cX11_table 3 = .ok (.invokestatic 78, 3) := by decide +kernel
theorem dX11_table_6 : decode cX11_table 6 = .ok (.ifCond .eq 12, 3) := by decide +kernel
theorem dX11_table_9 : decode cX11_table 9 = .ok (.iload_n 2, 1) := by decide +kernel
theorem dX11_table_10 : decode cX11_table 10 = .ok (.iconst 1, 1) := by decide +kernel
theorem dX11_table_11 : decode cX11_table 11 = .ok (.iconst 5, 1) := by decide +kernel
theorem dX11_table_12 : decode cX11_table 12 = .ok (.invokestatic 78, 3) := by decide +kernel
theorem dX11_table_15 : decode cX11_table 15 = .ok (.ifCond .ne 6, 3) := by decide +kernel
theorem dX11_table_18 : decode cX11_table 18 = .ok (.bipush (-2), 2) := by decide +kernel
theorem dX11_table_20 : decode cX11_table 20 = .ok (.ireturn, 1) := by decide +kernel
theorem dX11_table_21 : decode cX11_table 21 = .ok (.aload_n 0, 1) := by decide +kernel
theorem dX11_table_22 : decode cX11_table 22 = .ok (.getfield 10, 3) := by decide +kernel
theorem dX11_table_25 : decode cX11_table 25 = .ok (.iload_n 1, 1) := by decide +kernel
theorem dX11_table_26 : decode cX11_table 26 = .ok (.iload_n 2, 1) := by decide +kernel
theorem dX11_table_27 : decode cX11_table 27 = .ok (.invokevirtual 82, 3) := by decide +kernel
theorem dX11_table_30 : decode cX11_table 30 = .ok (.iconst 1, 1) := by decide +kernel
theorem dX11_table_31 : decode cX11_table 31 = .ok (.ireturn, 1) := by decide +kernel
theorem dX11_cell_0 : decode cX11_cell 0 = .ok (.aload_n 0, 1) := by decide +kernel
theorem dX11_cell_1 : decode cX11_cell 1 = .ok (.getfield 10, 3) := by decide +kernel
theorem dX11_cell_4 : decode cX11_cell 4 = .ok (.iload_n 1, 1) := by decide +kernel
theorem dX11_cell_5 : decode cX11_cell 5 = .ok (.invokevirtual 86, 3) := by decide +kernel
theorem dX11_cell_8 : decode cX11_cell 8 = .ok (.ifCond .eq 14, 3) := by decide +kernel
theorem dX11_cell_11 : decode cX11_cell 11 = .ok (.aload_n 0, 1) := by decide +kernel
theorem dX11_cell_12 : decode cX11_cell 12 = .ok (.getfield 10, 3) := by decide +kernel
theorem dX11_cell_15 : decode cX11_cell 15 = .ok (.iload_n 2, 1) := by decide +kernel
theorem dX11_cell_16 : decode cX11_cell 16 = .ok (.invokevirtual 90, 3) := by decide +kernel
theorem dX11_cell_19 : decode cX11_cell 19 = .ok (.ifCond .ne 5, 3) := by decide +kernel
theorem dX11_cell_22 : decode cX11_cell 22 = .ok (.iconst (-1), 1) := by decide +kernel
theorem dX11_cell_23 : decode cX11_cell 23 = .ok (.ireturn, 1) := by decide +kernel
theorem dX11_cell_24 : decode cX11_cell 24 = .ok (.iload_n 3, 1) := by decide +kernel
theorem dX11_cell_25 : decode cX11_cell 25 = .ok (.iconst 0, 1) := by decide +kernel
theorem dX11_cell_26 : decode cX11_cell 26 = .ok (.bipush 60, 2) := by decide +kernel
theorem dX11_cell_28 : decode cX11_cell 28 = .ok (.invokestatic 78, 3) := by decide +kernel
theorem dX11_cell_31 : decode cX11_cell 31 = .ok (.ifCond .ne 6, 3) := by decide +kernel
theorem dX11_cell_34 : decode cX11_cell 34 = .ok (.bipush (-2), 2) := by decide +kernel
theorem dX11_cell_36 : decode cX11_cell 36 = .ok (.ireturn, 1) := by decide +kernel
theorem dX11_cell_37 : decode cX11_cell 37 = .ok (.aload_n 0, 1) := by decide +kernel
theorem dX11_cell_38 : decode cX11_cell 38 = .ok (.getfield 10, 3) := by decide +kernel
theorem dX11_cell_41 : decode cX11_cell 41 = .ok (.iload_n 1, 1) := by decide +kernel
theorem dX11_cell_42 : decode cX11_cell 42 = .ok (.iload_n 2, 1) := by decide +kernel
theorem dX11_cell_43 : decode cX11_cell 43 = .ok (.invokevirtual 93, 3) := by decide +kernel
theorem dX11_cell_46 : decode cX11_cell 46 = .ok (.istore 4, 2) := by decide +kernel
theorem dX11_cell_48 : decode cX11_cell 48 = .ok (.aload_n 0, 1) := by decide +kernel
theorem dX11_cell_49 : decode cX11_cell 49 = .ok (.getfield 10, 3) := by decide +kernel
theorem dX11_cell_52 : decode cX11_cell 52 = .ok (.invokevirtual 97, 3) := by decide +kernel
theorem dX11_cell_55 : decode cX11_cell 55 = .ok (.iload 4, 2) := by decide +kernel
theorem dX11_cell_57 : decode cX11_cell 57 = .ok (.isub, 1) := by decide +kernel
theorem dX11_cell_58 : decode cX11_cell 58 = .ok (.iload_n 3, 1) := by decide +kernel
theorem dX11_cell_59 : decode cX11_cell 59 = .ok (.iadd, 1) := by decide +kernel
theorem dX11_cell_60 : decode cX11_cell 60 = .ok (.bipush 60, 2) := by decide +kernel
theorem dX11_cell_62 : decode cX11_cell 62 = .ok (.if_icmp .le 6, 3) := by decide +kernel
theorem dX11_cell_65 : decode cX11_cell 65 = .ok (.bipush (-4), 2) := by decide +kernel
theorem dX11_cell_67 : decode cX11_cell 67 = .ok (.ireturn, 1) := by decide +kernel
theorem dX11_cell_68 : decode cX11_cell 68 = .ok (.aload_n 0, 1) := by decide +kernel
theorem dX11_cell_69 : decode cX11_cell 69 = .ok (.getfield 10, 3) := by decide +kernel
theorem dX11_cell_72 : decode cX11_cell 72 = .ok (.iload_n 1, 1) := by decide +kernel
theorem dX11_cell_73 : decode cX11_cell 73 = .ok (.iload_n 2, 1) := by decide +kernel
theorem dX11_cell_74 : decode cX11_cell 74 = .ok (.iload_n 3, 1) := by decide +kernel
theorem dX11_cell_75 : decode cX11_cell 75 = .ok (.invokevirtual 101, 3) := by decide +kernel
theorem dX11_cell_78 : decode cX11_cell 78 = .ok (.iload 4, 2) := by decide +kernel
theorem dX11_cell_80 : decode cX11_cell 80 = .ok (.ireturn, 1) := by decide +kernel
theorem dX11_about_0 : decode cX11_about 0 = .ok (.iload_n 3, 1) := by decide +kernel
theorem dX11_about_1 : decode cX11_about 1 = .ok (.iconst 0, 1) := by decide +kernel
theorem dX11_about_2 : decode cX11_about 2 = .ok (.iconst 3, 1) := by decide +kernel
theorem dX11_about_3 : decode cX11_about 3 = .ok (.invokestatic 78, 3) := by decide +kernel
theorem dX11_about_6 : decode cX11_about 6 = .ok (.ifCond .ne 6, 3) := by decide +kernel
theorem dX11_about_9 : decode cX11_about 9 = .ok (.bipush (-2), 2) := by decide +kernel
theorem dX11_about_11 : decode cX11_about 11 = .ok (.ireturn, 1) := by decide +kernel
theorem dX11_about_12 : decode cX11_about 12 = .ok (.iload_n 3, 1) := by decide +kernel
theorem dX11_about_13 : decode cX11_about 13 = .ok (.ifCond .eq 8, 3) := by decide +kernel
theorem dX11_about_16 : decode cX11_about 16 = .ok (.iload_n 3, 1) := by decide +kernel
theorem dX11_about_17 : decode cX11_about 17 = .ok (.iconst 1, 1) := by decide +kernel
theorem dX11_about_18 : decode cX11_about 18 = .ok (.if_icmp .ne 7, 3) := by decide +kernel
theorem dX11_about_21 : decode cX11_about 21 = .ok (.iconst 1, 1) := by decide +kernel
theorem dX11_about_22 : decode cX11_about 22 = .ok (.goto 4, 3) := by decide +kernel
theorem dX11_about_25 : decode cX11_about 25 = .ok (.iconst 0, 1) := by decide +kernel
theorem dX11_about_26 : decode cX11_about 26 = .ok (.istore 4, 2) := by decide +kernel
theorem dX11_about_28 : decode cX11_about 28 = .ok (.iload_n 3, 1) := by decide +kernel
theorem dX11_about_29 : decode cX11_about 29 = .ok (.ifCond .eq 8, 3) := by decide +kernel
theorem dX11_about_32 : decode cX11_about 32 = .ok (.iload_n 3, 1) := by decide +kernel
theorem dX11_about_33 : decode cX11_about 33 = .ok (.iconst 2, 1) := by decide +kernel
theorem dX11_about_34 : decode cX11_about 34 = .ok (.if_icmp .ne 7, 3) := by decide +kernel
theorem dX11_about_37 : decode cX11_about 37 = .ok (.iconst 1, 1) := by decide +kernel
theorem dX11_about_38 : decode cX11_about 38 = .ok (.goto 4, 3) := by decide +kernel
theorem dX11_about_41 : decode cX11_about 41 = .ok (.iconst 0, 1) := by decide +kernel
theorem dX11_about_42 : decode cX11_about 42 = .ok (.istore 5, 2) := by decide +kernel
theorem dX11_about_44 : decode cX11_about 44 = .ok (.iload 4, 2) := by decide +kernel
theorem dX11_about_46 : decode cX11_about 46 = .ok (.ifCond .eq 14, 3) := by decide +kernel
theorem dX11_about_49 : decode cX11_about 49 = .ok (.aload_n 0, 1) := by decide +kernel
theorem dX11_about_50 : decode cX11_about 50 = .ok (.getfield 10, 3) := by decide +kernel
theorem dX11_about_53 : decode cX11_about 53 = .ok (.iload_n 1, 1) := by decide +kernel
theorem dX11_about_54 : decode cX11_about 54 = .ok (.invokevirtual 86, 3) := by decide +kernel
theorem dX11_about_57 : decode cX11_about 57 = .ok (.ifCond .eq 19, 3) := by decide +kernel
theorem dX11_about_60 : decode cX11_about 60 = .ok (.iload 5, 2) := by decide +kernel
theorem dX11_about_62 : decode cX11_about 62 = .ok (.ifCond .eq 16, 3) := by decide +kernel
theorem dX11_about_65 : decode cX11_about 65 = .ok (.aload_n 0, 1) := by decide +kernel
theorem dX11_about_66 : decode cX11_about 66 = .ok (.getfield 10, 3) := by decide +kernel
theorem dX11_about_69 : decode cX11_about 69 = .ok (.iload_n 2, 1) := by decide +kernel
theorem dX11_about_70 : decode cX11_about 70 = .ok (.invokevirtual 90, 3) := by decide +kernel
theorem dX11_about_73 : decode cX11_about 73 = .ok (.ifCond .ne 5, 3) := by decide +kernel
theorem dX11_about_76 : decode cX11_about 76 = .ok (.iconst (-1), 1) := by decide +kernel
theorem dX11_about_77 : decode cX11_about 77 = .ok (.ireturn, 1) := by decide +kernel
theorem dX11_about_78 : decode cX11_about 78 = .ok (.iload_n 3, 1) := by decide +kernel
theorem dX11_about_79 : decode cX11_about 79 = .ok (.tableswitch 53 0 2 #[25, 35, 44], 25) := by decide +kernel
theorem dX11_about_104 : decode cX11_about 104 = .ok (.aload_n 0, 1) := by decide +kernel
theorem dX11_about_105 : decode cX11_about 105 = .ok (.getfield 10, 3) := by decide +kernel
theorem dX11_about_108 : decode cX11_about 108 = .ok (.iload_n 1, 1) := by decide +kernel
theorem dX11_about_109 : decode cX11_about 109 = .ok (.iload_n 2, 1) := by decide +kernel
theorem dX11_about_110 : decode cX11_about 110 = .ok (.invokevirtual 93, 3) := by decide +kernel
theorem dX11_about_113 : decode cX11_about 113 = .ok (.ireturn, 1) := by decide +kernel
theorem dX11_about_114 : decode cX11_about 114 = .ok (.aload_n 0, 1) := by decide +kernel
theorem dX11_about_115 : decode cX11_about 115 = .ok (.getfield 10, 3) := by decide +kernel
theorem dX11_about_118 : decode cX11_about 118 = .ok (.iload_n 1, 1) := by decide +kernel
theorem dX11_about_119 : decode cX11_about 119 = .ok (.invokevirtual 105, 3) := by decide +kernel
theorem dX11_about_122 : decode cX11_about 122 = .ok (.ireturn, 1) := by decide +kernel
theorem dX11_about_123 : decode cX11_about 123 = .ok (.aload_n 0, 1) := by decide +kernel
theorem dX11_about_124 : decode cX11_about 124 = .ok (.getfield 10, 3) := by decide +kernel
theorem dX11_about_127 : decode cX11_about 127 = .ok (.iload_n 2, 1) := by decide +kernel
theorem dX11_about_128 : decode cX11_about 128 = .ok (.invokevirtual 109, 3) := by decide +kernel
theorem dX11_about_131 : decode cX11_about 131 = .ok (.ireturn, 1) := by decide +kernel
theorem dX11_about_132 : decode cX11_about 132 = .ok (.aload_n 0, 1) := by decide +kernel
theorem dX11_about_133 : decode cX11_about 133 = .ok (.getfield 10, 3) := by decide +kernel
theorem dX11_about_136 : decode cX11_about 136 = .ok (.invokevirtual 97, 3) := by decide +kernel
theorem dX11_about_139 : decode cX11_about 139 = .ok (.ireturn, 1) := by decide +kernel
theorem dX11_sample_0 : decode cX11_sample 0 = .ok (.iload_n 1, 1) := by decide +kernel
theorem dX11_sample_1 : decode cX11_sample 1 = .ok (.ifCond .eq 10, 3) := by decide +kernel
theorem dX11_sample_4 : decode cX11_sample 4 = .ok (.iload_n 1, 1) := by decide +kernel
theorem dX11_sample_5 : decode cX11_sample 5 = .ok (.iconst 1, 1) := by decide +kernel
theorem dX11_sample_6 : decode cX11_sample 6 = .ok (.if_icmp .eq 5, 3) := by decide +kernel
theorem dX11_sample_9 : decode cX11_sample 9 = .ok (.iconst (-1), 1) := by decide +kernel
theorem dX11_sample_10 : decode cX11_sample 10 = .ok (.ireturn, 1) := by decide +kernel
theorem dX11_sample_11 : decode cX11_sample 11 = .ok (.iload_n 2, 1) := by decide +kernel
theorem dX11_sample_12 : decode cX11_sample 12 = .ok (.sipush (-1000), 3) := by decide +kernel
theorem dX11_sample_15 : decode cX11_sample 15 = .ok (.sipush 1000, 3) := by decide +kernel
theorem dX11_sample_18 : decode cX11_sample 18 = .ok (.invokestatic 78, 3) := by decide +kernel
theorem dX11_sample_21 : decode cX11_sample 21 = .ok (.ifCond .ne 6, 3) := by decide +kernel
theorem dX11_sample_24 : decode cX11_sample 24 = .ok (.bipush (-2), 2) := by decide +kernel
theorem dX11_sample_26 : decode cX11_sample 26 = .ok (.ireturn, 1) := by decide +kernel
theorem dX11_sample_27 : decode cX11_sample 27 = .ok (.iload_n 1, 1) := by decide +kernel
theorem dX11_sample_28 : decode cX11_sample 28 = .ok (.ifCond .ne 10, 3) := by decide +kernel
theorem dX11_sample_31 : decode cX11_sample 31 = .ok (.aload_n 0, 1) := by decide +kernel
theorem dX11_sample_32 : decode cX11_sample 32 = .ok (.getfield 21, 3) := by decide +kernel
theorem dX11_sample_35 : decode cX11_sample 35 = .ok (.goto 7, 3) := by decide +kernel
theorem dX11_sample_38 : decode cX11_sample 38 = .ok (.aload_n 0, 1) := by decide +kernel
theorem dX11_sample_39 : decode cX11_sample 39 = .ok (.getfield 25, 3) := by decide +kernel
theorem dX11_sample_42 : decode cX11_sample 42 = .ok (.astore_n 3, 1) := by decide +kernel
theorem dX11_sample_43 : decode cX11_sample 43 = .ok (.aload_n 3, 1) := by decide +kernel
theorem dX11_sample_44 : decode cX11_sample 44 = .ok (.invokevirtual 112, 3) := by decide +kernel
theorem dX11_sample_47 : decode cX11_sample 47 = .ok (.ifCond .eq 8, 3) := by decide +kernel
theorem dX11_sample_50 : decode cX11_sample 50 = .ok (.bipush (-4), 2) := by decide +kernel
theorem dX11_sample_52 : decode cX11_sample 52 = .ok (.goto 8, 3) := by decide +kernel
theorem dX11_sample_55 : decode cX11_sample 55 = .ok (.aload_n 3, 1) := by decide +kernel
theorem dX11_sample_56 : decode cX11_sample 56 = .ok (.iload_n 2, 1) := by decide +kernel
theorem dX11_sample_57 : decode cX11_sample 57 = .ok (.invokevirtual 116, 3) := by decide +kernel
theorem dX11_sample_60 : decode cX11_sample 60 = .ok (.ireturn, 1) := by decide +kernel
theorem dX11_pair_0 : decode cX11_pair 0 = .ok (.iload_n 1, 1) := by decide +kernel
theorem dX11_pair_1 : decode cX11_pair 1 = .ok (.sipush (-1000), 3) := by decide +kernel
theorem dX11_pair_4 : decode cX11_pair 4 = .ok (.sipush 1000, 3) := by decide +kernel
theorem dX11_pair_7 : decode cX11_pair 7 = .ok (.invokestatic 78, 3) := by decide +kernel
theorem dX11_pair_10 : decode cX11_pair 10 = .ok (.ifCond .eq 16, 3) := by decide +kernel
theorem dX11_pair_13 : decode cX11_pair 13 = .ok (.iload_n 2, 1) := by decide +kernel
theorem dX11_pair_14 : decode cX11_pair 14 = .ok (.sipush (-1000), 3) := by decide +kernel
theorem dX11_pair_17 : decode cX11_pair 17 = .ok (.sipush 1000, 3) := by decide +kernel
theorem dX11_pair_20 : decode cX11_pair 20 = .ok (.invokestatic 78, 3) := by decide +kernel
theorem dX11_pair_23 : decode cX11_pair 23 = .ok (.ifCond .ne 6, 3) := by decide +kernel
theorem dX11_pair_26 : decode cX11_pair 26 = .ok (.bipush (-2), 2) := by decide +kernel
theorem dX11_pair_28 : decode cX11_pair 28 = .ok (.ireturn, 1) := by decide +kernel
theorem dX11_pair_29 : decode cX11_pair 29 = .ok (.aload_n 0, 1) := by decide +kernel
theorem dX11_pair_30 : decode cX11_pair 30 = .ok (.getfield 28, 3) := by decide +kernel
theorem dX11_pair_33 : decode cX11_pair 33 = .ok (.invokevirtual 112, 3) := by decide +kernel
theorem dX11_pair_36 : decode cX11_pair 36 = .ok (.ifCond .eq 8, 3) := by decide +kernel
theorem dX11_pair_39 : decode cX11_pair 39 = .ok (.bipush (-4), 2) := by decide +kernel
theorem dX11_pair_41 : decode cX11_pair 41 = .ok (.goto 13, 3) := by decide +kernel
theorem dX11_pair_44 : decode cX11_pair 44 = .ok (.aload_n 0, 1) := by decide +kernel
theorem dX11_pair_45 : decode cX11_pair 45 = .ok (.getfield 28, 3) := by decide +kernel
theorem dX11_pair_48 : decode cX11_pair 48 = .ok (.iload_n 1, 1) := by decide +kernel
theorem dX11_pair_49 : decode cX11_pair 49 = .ok (.iload_n 2, 1) := by decide +kernel
theorem dX11_pair_50 : decode cX11_pair 50 = .ok (.isub, 1) := by decide +kernel
theorem dX11_pair_51 : decode cX11_pair 51 = .ok (.invokevirtual 116, 3) := by decide +kernel
theorem dX11_pair_54 : decode cX11_pair 54 = .ok (.ireturn, 1) := by decide +kernel
theorem dX11_clear_0 : decode cX11_clear 0 = .ok (.iload_n 1, 1) := by decide +kernel
theorem dX11_clear_1 : decode cX11_clear 1 = .ok (.tableswitch 71 0 3 #[31, 47, 55, 63], 31) := by decide +kernel
theorem dX11_clear_32 : decode cX11_clear 32 = .ok (.aload_n 0, 1) := by decide +kernel
theorem dX11_clear_33 : decode cX11_clear 33 = .ok (.getfield 21, 3) := by decide +kernel
theorem dX11_clear_36 : decode cX11_clear 36 = .ok (.invokevirtual 119, 3) := by decide +kernel
theorem dX11_clear_39 : decode cX11_clear 39 = .ok (.aload_n 0, 1) := by decide +kernel
theorem dX11_clear_40 : decode cX11_clear 40 = .ok (.getfield 25, 3) := by decide +kernel
theorem dX11_clear_43 : decode cX11_clear 43 = .ok (.invokevirtual 119, 3) := by decide +kernel
theorem dX11_clear_46 : decode cX11_clear 46 = .ok (.iadd, 1) := by decide +kernel
theorem dX11_clear_47 : decode cX11_clear 47 = .ok (.ireturn, 1) := by decide +kernel
theorem dX11_clear_48 : decode cX11_clear 48 = .ok (.aload_n 0, 1) := by decide +kernel
theorem dX11_clear_49 : decode cX11_clear 49 = .ok (.getfield 28, 3) := by decide +kernel
theorem dX11_clear_52 : decode cX11_clear 52 = .ok (.invokevirtual 119, 3) := by decide +kernel
theorem dX11_clear_55 : decode cX11_clear 55 = .ok (.ireturn, 1) := by decide +kernel
theorem dX11_clear_56 : decode cX11_clear 56 = .ok (.aload_n 0, 1) := by decide +kernel
theorem dX11_clear_57 : decode cX11_clear 57 = .ok (.getfield 74, 3) := by decide +kernel
theorem dX11_clear_60 : decode cX11_clear 60 = .ok (.invokevirtual 122, 3) := by decide +kernel
theorem dX11_clear_63 : decode cX11_clear 63 = .ok (.ireturn, 1) := by decide +kernel
theorem dX11_clear_64 : decode cX11_clear 64 = .ok (.aload_n 0, 1) := by decide +kernel
theorem dX11_clear_65 : decode cX11_clear 65 = .ok (.getfield 31, 3) := by decide +kernel
theorem dX11_clear_68 : decode cX11_clear 68 = .ok (.invokevirtual 119, 3) := by decide +kernel
theorem dX11_clear_71 : decode cX11_clear 71 = .ok (.ireturn, 1) := by decide +kernel
theorem dX11_clear_72 : decode cX11_clear 72 = .ok (.iconst (-1), 1) := by decide +kernel
theorem dX11_clear_73 : decode cX11_clear 73 = .ok (.ireturn, 1) := by decide +kernel
theorem dX11_tables_0 : decode cX11_tables 0 = .ok (.aload_n 0, 1) := by decide +kernel
theorem dX11_tables_1 : decode cX11_tables 1 = .ok (.getfield 10, 3) := by decide +kernel
theorem dX11_tables_4 : decode cX11_tables 4 = .ok (.invokevirtual 97, 3) := by decide +kernel
theorem dX11_tables_7 : decode cX11_tables 7 = .ok (.ifCond .ne 6, 3) := by decide +kernel
theorem dX11_tables_10 : decode cX11_tables 10 = .ok (.bipush (-5), 2) := by decide +kernel
theorem dX11_tables_12 : decode cX11_tables 12 = .ok (.ireturn, 1) := by decide +kernel
theorem dX11_tables_13 : decode cX11_tables 13 = .ok (.aload_n 0, 1) := by decide +kernel
theorem dX11_tables_14 : decode cX11_tables 14 = .ok (.getfield 37, 3) := by decide +kernel
theorem dX11_tables_17 : decode cX11_tables 17 = .ok (.aload_n 0, 1) := by decide +kernel
theorem dX11_tables_18 : decode cX11_tables 18 = .ok (.getfield 10, 3) := by decide +kernel
theorem dX11_tables_21 : decode cX11_tables 21 = .ok (.invokevirtual 123, 3) := by decide +kernel
theorem dX11_tables_24 : decode cX11_tables 24 = .ok (.istore_n 1, 1) := by decide +kernel
theorem dX11_tables_25 : decode cX11_tables 25 = .ok (.iload_n 1, 1) := by decide +kernel
theorem dX11_tables_26 : decode cX11_tables 26 = .ok (.sipush 20000, 3) := by decide +kernel
theorem dX11_tables_29 : decode cX11_tables 29 = .ok (.if_icmp .le 6, 3) := by decide +kernel
theorem dX11_tables_32 : decode cX11_tables 32 = .ok (.bipush (-7), 2) := by decide +kernel
theorem dX11_tables_34 : decode cX11_tables 34 = .ok (.ireturn, 1) := by decide +kernel
theorem dX11_tables_35 : decode cX11_tables 35 = .ok (.aload_n 0, 1) := by decide +kernel
theorem dX11_tables_36 : decode cX11_tables 36 = .ok (.getfield 44, 3) := by decide +kernel
theorem dX11_tables_39 : decode cX11_tables 39 = .ok (.aload_n 0, 1) := by decide +kernel
theorem dX11_tables_40 : decode cX11_tables 40 = .ok (.getfield 10, 3) := by decide +kernel
theorem dX11_tables_43 : decode cX11_tables 43 = .ok (.invokevirtual 127, 3) := by decide +kernel
theorem dX11_tables_46 : decode cX11_tables 46 = .ok (.aload_n 0, 1) := by decide +kernel
theorem dX11_tables_47 : decode cX11_tables 47 = .ok (.getfield 10, 3) := by decide +kernel
theorem dX11_tables_50 : decode cX11_tables 50 = .ok (.invokevirtual 130, 3) := by decide +kernel
theorem dX11_tables_53 : decode cX11_tables 53 = .ok (.iload_n 1, 1) := by decide +kernel
theorem dX11_tables_54 : decode cX11_tables 54 = .ok (.invokevirtual 133, 3) := by decide +kernel
theorem dX11_tables_57 : decode cX11_tables 57 = .ok (.aload_n 0, 1) := by decide +kernel
theorem dX11_tables_58 : decode cX11_tables 58 = .ok (.getfield 37, 3) := by decide +kernel
theorem dX11_tables_61 : decode cX11_tables 61 = .ok (.aload_n 0, 1) := by decide +kernel
theorem dX11_tables_62 : decode cX11_tables 62 = .ok (.getfield 10, 3) := by decide +kernel
theorem dX11_tables_65 : decode cX11_tables 65 = .ok (.aload_n 0, 1) := by decide +kernel
theorem dX11_tables_66 : decode cX11_tables 66 = .ok (.getfield 44, 3) := by decide +kernel
theorem dX11_tables_69 : decode cX11_tables 69 = .ok (.invokevirtual 135, 3) := by decide +kernel
theorem dX11_tables_72 : decode cX11_tables 72 = .ok (.aload_n 0, 1) := by decide +kernel
theorem dX11_tables_73 : decode cX11_tables 73 = .ok (.getfield 58, 3) := by decide +kernel
theorem dX11_tables_76 : decode cX11_tables 76 = .ok (.iconst 0, 1) := by decide +kernel
theorem dX11_tables_77 : decode cX11_tables 77 = .ok (.aload_n 0, 1) := by decide +kernel
theorem dX11_tables_78 : decode cX11_tables 78 = .ok (.getfield 10, 3) := by decide +kernel
theorem dX11_tables_81 : decode cX11_tables 81 = .ok (.iconst 0, 1) := by decide +kernel
theorem dX11_tables_82 : decode cX11_tables 82 = .ok (.iconst 0, 1) := by decide +kernel
theorem dX11_tables_83 : decode cX11_tables 83 = .ok (.invokevirtual 93, 3) := by decide +kernel
theorem dX11_tables_86 : decode cX11_tables 86 = .ok (.aload_n 0, 1) := by decide +kernel
theorem dX11_tables_87 : decode cX11_tables 87 = .ok (.getfield 10, 3) := by decide +kernel
theorem dX11_tables_90 : decode cX11_tables 90 = .ok (.invokevirtual 97, 3) := by decide +kernel
theorem dX11_tables_93 : decode cX11_tables 93 = .ok (.invokevirtual 139, 3) := by decide +kernel
theorem dX11_tables_96 : decode cX11_tables 96 = .ok (.aload_n 0, 1) := by decide +kernel
theorem dX11_tables_97 : decode cX11_tables 97 = .ok (.getfield 58, 3) := by decide +kernel
theorem dX11_tables_100 : decode cX11_tables 100 = .ok (.iconst 0, 1) := by decide +kernel
theorem dX11_tables_101 : decode cX11_tables 101 = .ok (.invokevirtual 142, 3) := by decide +kernel
theorem dX11_tables_104 : decode cX11_tables 104 = .ok (.aload_n 0, 1) := by decide +kernel
theorem dX11_tables_105 : decode cX11_tables 105 = .ok (.getfield 37, 3) := by decide +kernel
theorem dX11_tables_108 : decode cX11_tables 108 = .ok (.getfield 146, 3) := by decide +kernel
theorem dX11_tables_111 : decode cX11_tables 111 = .ok (.aload_n 0, 1) := by decide +kernel
theorem dX11_tables_112 : decode cX11_tables 112 = .ok (.getfield 37, 3) := by decide +kernel
theorem dX11_tables_115 : decode cX11_tables 115 = .ok (.getfield 150, 3) := by decide +kernel
theorem dX11_tables_118 : decode cX11_tables 118 = .ok (.invokevirtual 153, 3) := by decide +kernel
theorem dX11_tables_121 : decode cX11_tables 121 = .ok (.aload_n 0, 1) := by decide +kernel
theorem dX11_tables_122 : decode cX11_tables 122 = .ok (.getfield 58, 3) := by decide +kernel
theorem dX11_tables_125 : decode cX11_tables 125 = .ok (.iconst 1, 1) := by decide +kernel
theorem dX11_tables_126 : decode cX11_tables 126 = .ok (.invokevirtual 142, 3) := by decide +kernel
theorem dX11_tables_129 : decode cX11_tables 129 = .ok (.aload_n 0, 1) := by decide +kernel
theorem dX11_tables_130 : decode cX11_tables 130 = .ok (.getfield 37, 3) := by decide +kernel
theorem dX11_tables_133 : decode cX11_tables 133 = .ok (.getfield 159, 3) := by decide +kernel
theorem dX11_tables_136 : decode cX11_tables 136 = .ok (.aload_n 0, 1) := by decide +kernel
theorem dX11_tables_137 : decode cX11_tables 137 = .ok (.getfield 37, 3) := by decide +kernel
theorem dX11_tables_140 : decode cX11_tables 140 = .ok (.getfield 150, 3) := by decide +kernel
theorem dX11_tables_143 : decode cX11_tables 143 = .ok (.invokevirtual 153, 3) := by decide +kernel
theorem dX11_tables_146 : decode cX11_tables 146 = .ok (.aload_n 0, 1) := by decide +kernel
theorem dX11_tables_147 : decode cX11_tables 147 = .ok (.getfield 58, 3) := by decide +kernel
theorem dX11_tables_150 : decode cX11_tables 150 = .ok (.iconst 2, 1) := by decide +kernel
theorem dX11_tables_151 : decode cX11_tables 151 = .ok (.invokevirtual 142, 3) := by decide +kernel
theorem dX11_tables_154 : decode cX11_tables 154 = .ok (.aload_n 0, 1) := by decide +kernel
theorem dX11_tables_155 : decode cX11_tables 155 = .ok (.getfield 37, 3) := by decide +kernel
theorem dX11_tables_158 : decode cX11_tables 158 = .ok (.getfield 162, 3) := by decide +kernel
theorem dX11_tables_161 : decode cX11_tables 161 = .ok (.aload_n 0, 1) := by decide +kernel
theorem dX11_tables_162 : decode cX11_tables 162 = .ok (.getfield 37, 3) := by decide +kernel
theorem dX11_tables_165 : decode cX11_tables 165 = .ok (.getfield 150, 3) := by decide +kernel
theorem dX11_tables_168 : decode cX11_tables 168 = .ok (.invokevirtual 153, 3) := by decide +kernel
theorem dX11_tables_171 : decode cX11_tables 171 = .ok (.aload_n 0, 1) := by decide +kernel
theorem dX11_tables_172 : decode cX11_tables 172 = .ok (.getfield 58, 3) := by decide +kernel
theorem dX11_tables_175 : decode cX11_tables 175 = .ok (.iconst 3, 1) := by decide +kernel
theorem dX11_tables_176 : decode cX11_tables 176 = .ok (.invokevirtual 142, 3) := by decide +kernel
theorem dX11_tables_179 : decode cX11_tables 179 = .ok (.aload_n 0, 1) := by decide +kernel
theorem dX11_tables_180 : decode cX11_tables 180 = .ok (.getfield 37, 3) := by decide +kernel
theorem dX11_tables_183 : decode cX11_tables 183 = .ok (.getfield 165, 3) := by decide +kernel
theorem dX11_tables_186 : decode cX11_tables 186 = .ok (.aload_n 0, 1) := by decide +kernel
theorem dX11_tables_187 : decode cX11_tables 187 = .ok (.getfield 37, 3) := by decide +kernel
theorem dX11_tables_190 : decode cX11_tables 190 = .ok (.getfield 150, 3) := by decide +kernel
theorem dX11_tables_193 : decode cX11_tables 193 = .ok (.invokevirtual 153, 3) := by decide +kernel
theorem dX11_tables_196 : decode cX11_tables 196 = .ok (.iload_n 1, 1) := by decide +kernel
theorem dX11_tables_197 : decode cX11_tables 197 = .ok (.ireturn, 1) := by decide +kernel
theorem dX11_labels_0 : decode cX11_labels 0 = .ok (.iload_n 1, 1) := by decide +kernel
theorem dX11_labels_1 : decode cX11_labels 1 = .ok (.ifCond .eq 11, 3) := by decide +kernel
theorem dX11_labels_4 : decode cX11_labels 4 = .ok (.iload_n 1, 1) := by decide +kernel
theorem dX11_labels_5 : decode cX11_labels 5 = .ok (.iconst 1, 1) := by decide +kernel
theorem dX11_labels_6 : decode cX11_labels 6 = .ok (.if_icmp .eq 6, 3) := by decide +kernel
theorem dX11_labels_9 : decode cX11_labels 9 = .ok (.ldc 168, 2) := by decide +kernel
theorem dX11_labels_11 : decode cX11_labels 11 = .ok (.ireturn, 1) := by decide +kernel
theorem dX11_labels_12 : decode cX11_labels 12 = .ok (.aload_n 0, 1) := by decide +kernel
theorem dX11_labels_13 : decode cX11_labels 13 = .ok (.getfield 21, 3) := by decide +kernel
theorem dX11_labels_16 : decode cX11_labels 16 = .ok (.invokevirtual 169, 3) := by decide +kernel
theorem dX11_labels_19 : decode cX11_labels 19 = .ok (.istore_n 2, 1) := by decide +kernel
theorem dX11_labels_20 : decode cX11_labels 20 = .ok (.iload_n 2, 1) := by decide +kernel
theorem dX11_labels_21 : decode cX11_labels 21 = .ok (.aload_n 0, 1) := by decide +kernel
theorem dX11_labels_22 : decode cX11_labels 22 = .ok (.getfield 25, 3) := by decide +kernel
theorem dX11_labels_25 : decode cX11_labels 25 = .ok (.invokevirtual 169, 3) := by decide +kernel
theorem dX11_labels_28 : decode cX11_labels 28 = .ok (.iadd, 1) := by decide +kernel
theorem dX11_labels_29 : decode cX11_labels 29 = .ok (.istore_n 3, 1) := by decide +kernel
theorem dX11_labels_30 : decode cX11_labels 30 = .ok (.iload_n 2, 1) := by decide +kernel
theorem dX11_labels_31 : decode cX11_labels 31 = .ok (.ifCond .eq 8, 3) := by decide +kernel
theorem dX11_labels_34 : decode cX11_labels 34 = .ok (.iload_n 2, 1) := by decide +kernel
theorem dX11_labels_35 : decode cX11_labels 35 = .ok (.iload_n 3, 1) := by decide +kernel
theorem dX11_labels_36 : decode cX11_labels 36 = .ok (.if_icmp .ne 6, 3) := by decide +kernel
theorem dX11_labels_39 : decode cX11_labels 39 = .ok (.ldc 172, 2) := by decide +kernel
theorem dX11_labels_41 : decode cX11_labels 41 = .ok (.ireturn, 1) := by decide +kernel
theorem dX11_labels_42 : decode cX11_labels 42 = .ok (.aload_n 0, 1) := by decide +kernel
theorem dX11_labels_43 : decode cX11_labels 43 = .ok (.getfield 51, 3) := by decide +kernel
theorem dX11_labels_46 : decode cX11_labels 46 = .ok (.iload_n 2, 1) := by decide +kernel
theorem dX11_labels_47 : decode cX11_labels 47 = .ok (.iload_n 3, 1) := by decide +kernel
theorem dX11_labels_48 : decode cX11_labels 48 = .ok (.invokevirtual 173, 3) := by decide +kernel
theorem dX11_labels_51 : decode cX11_labels 51 = .ok (.aload_n 0, 1) := by decide +kernel
theorem dX11_labels_52 : decode cX11_labels 52 = .ok (.aload_n 0, 1) := by decide +kernel
theorem dX11_labels_53 : decode cX11_labels 53 = .ok (.getfield 21, 3) := by decide +kernel
theorem dX11_labels_56 : decode cX11_labels 56 = .ok (.iload_n 1, 1) := by decide +kernel
theorem dX11_labels_57 : decode cX11_labels 57 = .ok (.invokevirtual 176, 3) := by decide +kernel
theorem dX11_labels_60 : decode cX11_labels 60 = .ok (.istore 4, 2) := by decide +kernel
theorem dX11_labels_62 : decode cX11_labels 62 = .ok (.iload 4, 2) := by decide +kernel
theorem dX11_labels_64 : decode cX11_labels 64 = .ok (.aload_n 0, 1) := by decide +kernel
theorem dX11_labels_65 : decode cX11_labels 65 = .ok (.aload_n 0, 1) := by decide +kernel
theorem dX11_labels_66 : decode cX11_labels 66 = .ok (.getfield 25, 3) := by decide +kernel
theorem dX11_labels_69 : decode cX11_labels 69 = .ok (.iload_n 1, 1) := by decide +kernel
theorem dX11_labels_70 : decode cX11_labels 70 = .ok (.invokevirtual 176, 3) := by decide +kernel
theorem dX11_labels_73 : decode cX11_labels 73 = .ok (.iadd, 1) := by decide +kernel
theorem dX11_labels_74 : decode cX11_labels 74 = .ok (.istore 5, 2) := by decide +kernel
theorem dX11_labels_76 : decode cX11_labels 76 = .ok (.aload_n 0, 1) := by decide +kernel
theorem dX11_labels_77 : decode cX11_labels 77 = .ok (.getfield 58, 3) := by decide +kernel
theorem dX11_labels_80 : decode cX11_labels 80 = .ok (.iconst 1, 1) := by decide +kernel
theorem dX11_labels_81 : decode cX11_labels 81 = .ok (.iload_n 1, 1) := by decide +kernel
theorem dX11_labels_82 : decode cX11_labels 82 = .ok (.iadd, 1) := by decide +kernel
theorem dX11_labels_83 : decode cX11_labels 83 = .ok (.iload 4, 2) := by decide +kernel
theorem dX11_labels_85 : decode cX11_labels 85 = .ok (.iload_n 3, 1) := by decide +kernel
theorem dX11_labels_86 : decode cX11_labels 86 = .ok (.invokevirtual 139, 3) := by decide +kernel
theorem dX11_labels_89 : decode cX11_labels 89 = .ok (.aload_n 0, 1) := by decide +kernel
theorem dX11_labels_90 : decode cX11_labels 90 = .ok (.iload 4, 2) := by decide +kernel
theorem dX11_labels_92 : decode cX11_labels 92 = .ok (.iload 5, 2) := by decide +kernel
theorem dX11_labels_94 : decode cX11_labels 94 = .ok (.iload_n 2, 1) := by decide +kernel
theorem dX11_labels_95 : decode cX11_labels 95 = .ok (.imul, 1) := by decide +kernel
theorem dX11_labels_96 : decode cX11_labels 96 = .ok (.iload_n 3, 1) := by decide +kernel
theorem dX11_labels_97 : decode cX11_labels 97 = .ok (.invokevirtual 180, 3) := by decide +kernel
theorem dX11_labels_100 : decode cX11_labels 100 = .ok (.iload 4, 2) := by decide +kernel
theorem dX11_labels_102 : decode cX11_labels 102 = .ok (.ireturn, 1) := by decide +kernel
theorem dX11_signs_0 : decode cX11_signs 0 = .ok (.iload_n 1, 1) := by decide +kernel
theorem dX11_signs_1 : decode cX11_signs 1 = .ok (.iconst 0, 1) := by decide +kernel
theorem dX11_signs_2 : decode cX11_signs 2 = .ok (.iconst 2, 1) := by decide +kernel
theorem dX11_signs_3 : decode cX11_signs 3 = .ok (.invokestatic 78, 3) := by decide +kernel
theorem dX11_signs_6 : decode cX11_signs 6 = .ok (.ifCond .ne 6, 3) := by decide +kernel
theorem dX11_signs_9 : decode cX11_signs 9 = .ok (.ldc 168, 2) := by decide +kernel
theorem dX11_signs_11 : decode cX11_signs 11 = .ok (.ireturn, 1) := by decide +kernel
theorem dX11_signs_12 : decode cX11_signs 12 = .ok (.aload_n 0, 1) := by decide +kernel
theorem dX11_signs_13 : decode cX11_signs 13 = .ok (.getfield 28, 3) := by decide +kernel
theorem dX11_signs_16 : decode cX11_signs 16 = .ok (.invokevirtual 169, 3) := by decide +kernel
theorem dX11_signs_19 : decode cX11_signs 19 = .ok (.aload_n 0, 1) := by decide +kernel
theorem dX11_signs_20 : decode cX11_signs 20 = .ok (.getfield 28, 3) := by decide +kernel
theorem dX11_signs_23 : decode cX11_signs 23 = .ok (.iconst 0, 1) := by decide +kernel
theorem dX11_signs_24 : decode cX11_signs 24 = .ok (.invokevirtual 183, 3) := by decide +kernel
theorem dX11_signs_27 : decode cX11_signs 27 = .ok (.isub, 1) := by decide +kernel
theorem dX11_signs_28 : decode cX11_signs 28 = .ok (.istore_n 2, 1) := by decide +kernel
theorem dX11_signs_29 : decode cX11_signs 29 = .ok (.iload_n 2, 1) := by decide +kernel
theorem dX11_signs_30 : decode cX11_signs 30 = .ok (.ifCond .ne 6, 3) := by decide +kernel
theorem dX11_signs_33 : decode cX11_signs 33 = .ok (.ldc 172, 2) := by decide +kernel
theorem dX11_signs_35 : decode cX11_signs 35 = .ok (.ireturn, 1) := by decide +kernel
theorem dX11_signs_36 : decode cX11_signs 36 = .ok (.aload_n 0, 1) := by decide +kernel
theorem dX11_signs_37 : decode cX11_signs 37 = .ok (.getfield 51, 3) := by decide +kernel
theorem dX11_signs_40 : decode cX11_signs 40 = .ok (.iload_n 2, 1) := by decide +kernel
theorem dX11_signs_41 : decode cX11_signs 41 = .ok (.invokevirtual 186, 3) := by decide +kernel
theorem dX11_signs_44 : decode cX11_signs 44 = .ok (.iconst 0, 1) := by decide +kernel
theorem dX11_signs_45 : decode cX11_signs 45 = .ok (.istore_n 3, 1) := by decide +kernel
theorem dX11_signs_46 : decode cX11_signs 46 = .ok (.iconst 0, 1) := by decide +kernel
theorem dX11_signs_47 : decode cX11_signs 47 = .ok (.istore 4, 2) := by decide +kernel
theorem dX11_signs_49 : decode cX11_signs 49 = .ok (.iconst 0, 1) := by decide +kernel
theorem dX11_signs_50 : decode cX11_signs 50 = .ok (.istore 5, 2) := by decide +kernel
theorem dX11_signs_52 : decode cX11_signs 52 = .ok (.iload 5, 2) := by decide +kernel
theorem dX11_signs_54 : decode cX11_signs 54 = .ok (.aload_n 0, 1) := by decide +kernel
theorem dX11_signs_55 : decode cX11_signs 55 = .ok (.getfield 28, 3) := by decide +kernel
theorem dX11_signs_58 : decode cX11_signs 58 = .ok (.invokevirtual 169, 3) := by decide +kernel
theorem dX11_signs_61 : decode cX11_signs 61 = .ok (.if_icmp .ge 67, 3) := by decide +kernel
theorem dX11_signs_64 : decode cX11_signs 64 = .ok (.aload_n 0, 1) := by decide +kernel
theorem dX11_signs_65 : decode cX11_signs 65 = .ok (.getfield 28, 3) := by decide +kernel
theorem dX11_signs_68 : decode cX11_signs 68 = .ok (.iload 5, 2) := by decide +kernel
theorem dX11_signs_70 : decode cX11_signs 70 = .ok (.invokevirtual 189, 3) := by decide +kernel
theorem dX11_signs_73 : decode cX11_signs 73 = .ok (.istore 6, 2) := by decide +kernel
theorem dX11_signs_75 : decode cX11_signs 75 = .ok (.iload 6, 2) := by decide +kernel
theorem dX11_signs_77 : decode cX11_signs 77 = .ok (.ifCond .eq 45, 3) := by decide +kernel
theorem dX11_signs_80 : decode cX11_signs 80 = .ok (.aload_n 0, 1) := by decide +kernel
theorem dX11_signs_81 : decode cX11_signs 81 = .ok (.iload 6, 2) := by decide +kernel
theorem dX11_signs_83 : decode cX11_signs 83 = .ok (.invokestatic 192, 3) := by decide +kernel
theorem dX11_signs_86 : decode cX11_signs 86 = .ok (.iload_n 1, 1) := by decide +kernel
theorem dX11_signs_87 : decode cX11_signs 87 = .ok (.invokevirtual 197, 3) := by decide +kernel
theorem dX11_signs_90 : decode cX11_signs 90 = .ok (.istore 7, 2) := by decide +kernel
theorem dX11_signs_92 : decode cX11_signs 92 = .ok (.aload_n 0, 1) := by decide +kernel
theorem dX11_signs_93 : decode cX11_signs 93 = .ok (.getfield 51, 3) := by decide +kernel
theorem dX11_signs_96 : decode cX11_signs 96 = .ok (.iload 7, 2) := by decide +kernel
theorem dX11_signs_98 : decode cX11_signs 98 = .ok (.invokevirtual 200, 3) := by decide +kernel
theorem dX11_signs_101 : decode cX11_signs 101 = .ok (.iload 4, 2) := by decide +kernel
theorem dX11_signs_103 : decode cX11_signs 103 = .ok (.iload 7, 2) := by decide +kernel
theorem dX11_signs_105 : decode cX11_signs 105 = .ok (.iadd, 1) := by decide +kernel
theorem dX11_signs_106 : decode cX11_signs 106 = .ok (.istore 4, 2) := by decide +kernel
theorem dX11_signs_108 : decode cX11_signs 108 = .ok (.iload_n 3, 1) := by decide +kernel
theorem dX11_signs_109 : decode cX11_signs 109 = .ok (.iload 6, 2) := by decide +kernel
theorem dX11_signs_111 : decode cX11_signs 111 = .ok (.ifCond .le 8, 3) := by decide +kernel
theorem dX11_signs_114 : decode cX11_signs 114 = .ok (.iload 7, 2) := by decide +kernel
theorem dX11_signs_116 : decode cX11_signs 116 = .ok (.goto 4, 3) := by decide +kernel
theorem dX11_signs_119 : decode cX11_signs 119 = .ok (.iconst 0, 1) := by decide +kernel
theorem dX11_signs_120 : decode cX11_signs 120 = .ok (.iadd, 1) := by decide +kernel
theorem dX11_signs_121 : decode cX11_signs 121 = .ok (.istore_n 3, 1) := by decide +kernel
theorem dX11_signs_122 : decode cX11_signs 122 = .ok (.iinc 5 1, 3) := by decide +kernel
theorem dX11_signs_125 : decode cX11_signs 125 = .ok (.goto (-73), 3) := by decide +kernel
theorem dX11_signs_128 : decode cX11_signs 128 = .ok (.aload_n 0, 1) := by decide +kernel
theorem dX11_signs_129 : decode cX11_signs 129 = .ok (.getfield 58, 3) := by decide +kernel
theorem dX11_signs_132 : decode cX11_signs 132 = .ok (.iconst 3, 1) := by decide +kernel
theorem dX11_signs_133 : decode cX11_signs 133 = .ok (.iload_n 1, 1) := by decide +kernel
theorem dX11_signs_134 : decode cX11_signs 134 = .ok (.iadd, 1) := by decide +kernel
theorem dX11_signs_135 : decode cX11_signs 135 = .ok (.iload_n 3, 1) := by decide +kernel
theorem dX11_signs_136 : decode cX11_signs 136 = .ok (.iload_n 2, 1) := by decide +kernel
theorem dX11_signs_137 : decode cX11_signs 137 = .ok (.invokevirtual 139, 3) := by decide +kernel
theorem dX11_signs_140 : decode cX11_signs 140 = .ok (.aload_n 0, 1) := by decide +kernel
theorem dX11_signs_141 : decode cX11_signs 141 = .ok (.iload_n 3, 1) := by decide +kernel
theorem dX11_signs_142 : decode cX11_signs 142 = .ok (.iload 4, 2) := by decide +kernel
theorem dX11_signs_144 : decode cX11_signs 144 = .ok (.iconst 2, 1) := by decide +kernel
theorem dX11_signs_145 : decode cX11_signs 145 = .ok (.invokevirtual 180, 3) := by decide +kernel
theorem dX11_signs_148 : decode cX11_signs 148 = .ok (.iload_n 3, 1) := by decide +kernel
theorem dX11_signs_149 : decode cX11_signs 149 = .ok (.ireturn, 1) := by decide +kernel
theorem dX11_rank_0 : decode cX11_rank 0 = .ok (.iload_n 1, 1) := by decide +kernel
theorem dX11_rank_1 : decode cX11_rank 1 = .ok (.iconst 2, 1) := by decide +kernel
theorem dX11_rank_2 : decode cX11_rank 2 = .ok (.if_icmp .ne 34, 3) := by decide +kernel
theorem dX11_rank_5 : decode cX11_rank 5 = .ok (.aload_n 0, 1) := by decide +kernel
theorem dX11_rank_6 : decode cX11_rank 6 = .ok (.getfield 28, 3) := by decide +kernel
theorem dX11_rank_9 : decode cX11_rank 9 = .ok (.iload_n 2, 1) := by decide +kernel
theorem dX11_rank_10 : decode cX11_rank 10 = .ok (.invokevirtual 203, 3) := by decide +kernel
theorem dX11_rank_13 : decode cX11_rank 13 = .ok (.ifCond .eq 21, 3) := by decide +kernel
theorem dX11_rank_16 : decode cX11_rank 16 = .ok (.aload_n 0, 1) := by decide +kernel
theorem dX11_rank_17 : decode cX11_rank 17 = .ok (.aload_n 0, 1) := by decide +kernel
theorem dX11_rank_18 : decode cX11_rank 18 = .ok (.getfield 28, 3) := by decide +kernel
theorem dX11_rank_21 : decode cX11_rank 21 = .ok (.iload_n 2, 1) := by decide +kernel
theorem dX11_rank_22 : decode cX11_rank 22 = .ok (.invokevirtual 189, 3) := by decide +kernel
theorem dX11_rank_25 : decode cX11_rank 25 = .ok (.invokestatic 192, 3) := by decide +kernel
theorem dX11_rank_28 : decode cX11_rank 28 = .ok (.invokevirtual 206, 3) := by decide +kernel
theorem dX11_rank_31 : decode cX11_rank 31 = .ok (.goto 4, 3) := by decide +kernel
theorem dX11_rank_34 : decode cX11_rank 34 = .ok (.iconst (-1), 1) := by decide +kernel
theorem dX11_rank_35 : decode cX11_rank 35 = .ok (.ireturn, 1) := by decide +kernel
theorem dX11_rank_36 : decode cX11_rank 36 = .ok (.iload_n 1, 1) := by decide +kernel
theorem dX11_rank_37 : decode cX11_rank 37 = .ok (.ifCond .eq 10, 3) := by decide +kernel
theorem dX11_rank_40 : decode cX11_rank 40 = .ok (.iload_n 1, 1) := by decide +kernel
theorem dX11_rank_41 : decode cX11_rank 41 = .ok (.iconst 1, 1) := by decide +kernel
theorem dX11_rank_42 : decode cX11_rank 42 = .ok (.if_icmp .eq 5, 3) := by decide +kernel
theorem dX11_rank_45 : decode cX11_rank 45 = .ok (.iconst (-1), 1) := by decide +kernel
theorem dX11_rank_46 : decode cX11_rank 46 = .ok (.ireturn, 1) := by decide +kernel
theorem dX11_rank_47 : decode cX11_rank 47 = .ok (.iload_n 1, 1) := by decide +kernel
theorem dX11_rank_48 : decode cX11_rank 48 = .ok (.ifCond .ne 10, 3) := by decide +kernel
theorem dX11_rank_51 : decode cX11_rank 51 = .ok (.aload_n 0, 1) := by decide +kernel
theorem dX11_rank_52 : decode cX11_rank 52 = .ok (.getfield 21, 3) := by decide +kernel
theorem dX11_rank_55 : decode cX11_rank 55 = .ok (.goto 7, 3) := by decide +kernel
theorem dX11_rank_58 : decode cX11_rank 58 = .ok (.aload_n 0, 1) := by decide +kernel
theorem dX11_rank_59 : decode cX11_rank 59 = .ok (.getfield 25, 3) := by decide +kernel
theorem dX11_rank_62 : decode cX11_rank 62 = .ok (.astore_n 3, 1) := by decide +kernel
theorem dX11_rank_63 : decode cX11_rank 63 = .ok (.aload_n 3, 1) := by decide +kernel
theorem dX11_rank_64 : decode cX11_rank 64 = .ok (.iload_n 2, 1) := by decide +kernel
theorem dX11_rank_65 : decode cX11_rank 65 = .ok (.invokevirtual 203, 3) := by decide +kernel
theorem dX11_rank_68 : decode cX11_rank 68 = .ok (.ifCond .eq 15, 3) := by decide +kernel
theorem dX11_rank_71 : decode cX11_rank 71 = .ok (.aload_n 0, 1) := by decide +kernel
theorem dX11_rank_72 : decode cX11_rank 72 = .ok (.aload_n 3, 1) := by decide +kernel
theorem dX11_rank_73 : decode cX11_rank 73 = .ok (.iload_n 2, 1) := by decide +kernel
theorem dX11_rank_74 : decode cX11_rank 74 = .ok (.invokevirtual 189, 3) := by decide +kernel
theorem dX11_rank_77 : decode cX11_rank 77 = .ok (.invokevirtual 209, 3) := by decide +kernel
theorem dX11_rank_80 : decode cX11_rank 80 = .ok (.goto 4, 3) := by decide +kernel
theorem dX11_rank_83 : decode cX11_rank 83 = .ok (.iconst (-1), 1) := by decide +kernel
theorem dX11_rank_84 : decode cX11_rank 84 = .ok (.ireturn, 1) := by decide +kernel
theorem dX11_caseAt_0 : decode cX11_caseAt 0 = .ok (.aload_n 0, 1) := by decide +kernel
theorem dX11_caseAt_1 : decode cX11_caseAt 1 = .ok (.getfield 44, 3) := by decide +kernel
theorem dX11_caseAt_4 : decode cX11_caseAt 4 = .ok (.invokevirtual 212, 3) := by decide +kernel
theorem dX11_caseAt_7 : decode cX11_caseAt 7 = .ok (.ifCond .ne 6, 3) := by decide +kernel
theorem dX11_caseAt_10 : decode cX11_caseAt 10 = .ok (.bipush (-3), 2) := by decide +kernel
theorem dX11_caseAt_12 : decode cX11_caseAt 12 = .ok (.ireturn, 1) := by decide +kernel
theorem dX11_caseAt_13 : decode cX11_caseAt 13 = .ok (.aload_n 0, 1) := by decide +kernel
theorem dX11_caseAt_14 : decode cX11_caseAt 14 = .ok (.getfield 44, 3) := by decide +kernel
theorem dX11_caseAt_17 : decode cX11_caseAt 17 = .ok (.iload_n 1, 1) := by decide +kernel
theorem dX11_caseAt_18 : decode cX11_caseAt 18 = .ok (.invokevirtual 215, 3) := by decide +kernel
theorem dX11_caseAt_21 : decode cX11_caseAt 21 = .ok (.ifCond .eq 15, 3) := by decide +kernel
theorem dX11_caseAt_24 : decode cX11_caseAt 24 = .ok (.aload_n 0, 1) := by decide +kernel
theorem dX11_caseAt_25 : decode cX11_caseAt 25 = .ok (.getfield 44, 3) := by decide +kernel
theorem dX11_caseAt_28 : decode cX11_caseAt 28 = .ok (.iload_n 2, 1) := by decide +kernel
theorem dX11_caseAt_29 : decode cX11_caseAt 29 = .ok (.iload_n 3, 1) := by decide +kernel
theorem dX11_caseAt_30 : decode cX11_caseAt 30 = .ok (.invokevirtual 216, 3) := by decide +kernel
theorem dX11_caseAt_33 : decode cX11_caseAt 33 = .ok (.ifCond .ne 5, 3) := by decide +kernel
theorem dX11_caseAt_36 : decode cX11_caseAt 36 = .ok (.iconst (-1), 1) := by decide +kernel
theorem dX11_caseAt_37 : decode cX11_caseAt 37 = .ok (.ireturn, 1) := by decide +kernel
theorem dX11_caseAt_38 : decode cX11_caseAt 38 = .ok (.aload_n 0, 1) := by decide +kernel
theorem dX11_caseAt_39 : decode cX11_caseAt 39 = .ok (.getfield 44, 3) := by decide +kernel
theorem dX11_caseAt_42 : decode cX11_caseAt 42 = .ok (.iload_n 1, 1) := by decide +kernel
theorem dX11_caseAt_43 : decode cX11_caseAt 43 = .ok (.iload_n 2, 1) := by decide +kernel
theorem dX11_caseAt_44 : decode cX11_caseAt 44 = .ok (.iload_n 3, 1) := by decide +kernel
theorem dX11_caseAt_45 : decode cX11_caseAt 45 = .ok (.invokevirtual 220, 3) := by decide +kernel
theorem dX11_caseAt_48 : decode cX11_caseAt 48 = .ok (.ireturn, 1) := by decide +kernel
theorem dX11_weighs_0 : decode cX11_weighs 0 = .ok (.aload_n 0, 1) := by decide +kernel
theorem dX11_weighs_1 : decode cX11_weighs 1 = .ok (.getfield 44, 3) := by decide +kernel
theorem dX11_weighs_4 : decode cX11_weighs 4 = .ok (.invokevirtual 212, 3) := by decide +kernel
theorem dX11_weighs_7 : decode cX11_weighs 7 = .ok (.ifCond .ne 6, 3) := by decide +kernel
theorem dX11_weighs_10 : decode cX11_weighs 10 = .ok (.bipush (-30), 2) := by decide +kernel
theorem dX11_weighs_12 : decode cX11_weighs 12 = .ok (.ireturn, 1) := by decide +kernel
theorem dX11_weighs_13 : decode cX11_weighs 13 = .ok (.aload_n 0, 1) := by decide +kernel
theorem dX11_weighs_14 : decode cX11_weighs 14 = .ok (.getfield 44, 3) := by decide +kernel
theorem dX11_weighs_17 : decode cX11_weighs 17 = .ok (.iload_n 1, 1) := by decide +kernel
theorem dX11_weighs_18 : decode cX11_weighs 18 = .ok (.invokevirtual 215, 3) := by decide +kernel
theorem dX11_weighs_21 : decode cX11_weighs 21 = .ok (.ifCond .eq 14, 3) := by decide +kernel
theorem dX11_weighs_24 : decode cX11_weighs 24 = .ok (.aload_n 0, 1) := by decide +kernel
theorem dX11_weighs_25 : decode cX11_weighs 25 = .ok (.getfield 44, 3) := by decide +kernel
theorem dX11_weighs_28 : decode cX11_weighs 28 = .ok (.iload_n 1, 1) := by decide +kernel
theorem dX11_weighs_29 : decode cX11_weighs 29 = .ok (.invokevirtual 224, 3) := by decide +kernel
theorem dX11_weighs_32 : decode cX11_weighs 32 = .ok (.goto 5, 3) := by decide +kernel
theorem dX11_weighs_35 : decode cX11_weighs 35 = .ok (.bipush (-10), 2) := by decide +kernel
theorem dX11_weighs_37 : decode cX11_weighs 37 = .ok (.ireturn, 1) := by decide +kernel
theorem dX11_bits_0 : decode cX11_bits 0 = .ok (.aload_n 0, 1) := by decide +kernel
theorem dX11_bits_1 : decode cX11_bits 1 = .ok (.iload_n 1, 1) := by decide +kernel
theorem dX11_bits_2 : decode cX11_bits 2 = .ok (.invokevirtual 227, 3) := by decide +kernel
theorem dX11_bits_5 : decode cX11_bits 5 = .ok (.istore_n 3, 1) := by decide +kernel
theorem dX11_bits_6 : decode cX11_bits 6 = .ok (.iload_n 3, 1) := by decide +kernel
theorem dX11_bits_7 : decode cX11_bits 7 = .ok (.ifCond .eq 5, 3) := by decide +kernel
theorem dX11_bits_10 : decode cX11_bits 10 = .ok (.iload_n 3, 1) := by decide +kernel
theorem dX11_bits_11 : decode cX11_bits 11 = .ok (.ireturn, 1) := by decide +kernel
theorem dX11_bits_12 : decode cX11_bits 12 = .ok (.iload_n 2, 1) := by decide +kernel
theorem dX11_bits_13 : decode cX11_bits 13 = .ok (.ifCond .eq 11, 3) := by decide +kernel
theorem dX11_bits_16 : decode cX11_bits 16 = .ok (.iload_n 2, 1) := by decide +kernel
theorem dX11_bits_17 : decode cX11_bits 17 = .ok (.iconst 1, 1) := by decide +kernel
theorem dX11_bits_18 : decode cX11_bits 18 = .ok (.if_icmp .eq 6, 3) := by decide +kernel
theorem dX11_bits_21 : decode cX11_bits 21 = .ok (.bipush (-2), 2) := by decide +kernel
theorem dX11_bits_23 : decode cX11_bits 23 = .ok (.ireturn, 1) := by decide +kernel
theorem dX11_bits_24 : decode cX11_bits 24 = .ok (.aload_n 0, 1) := by decide +kernel
theorem dX11_bits_25 : decode cX11_bits 25 = .ok (.getfield 58, 3) := by decide +kernel
theorem dX11_bits_28 : decode cX11_bits 28 = .ok (.iload_n 1, 1) := by decide +kernel
theorem dX11_bits_29 : decode cX11_bits 29 = .ok (.invokevirtual 142, 3) := by decide +kernel
theorem dX11_bits_32 : decode cX11_bits 32 = .ok (.iload_n 2, 1) := by decide +kernel
theorem dX11_bits_33 : decode cX11_bits 33 = .ok (.invokevirtual 230, 3) := by decide +kernel
theorem dX11_bits_36 : decode cX11_bits 36 = .ok (.invokevirtual 234, 3) := by decide +kernel
theorem dX11_bits_39 : decode cX11_bits 39 = .ok (.ireturn, 1) := by decide +kernel
theorem dX11_word_0 : decode cX11_word 0 = .ok (.aload_n 0, 1) := by decide +kernel
theorem dX11_word_1 : decode cX11_word 1 = .ok (.iload_n 1, 1) := by decide +kernel
theorem dX11_word_2 : decode cX11_word 2 = .ok (.invokevirtual 227, 3) := by decide +kernel
theorem dX11_word_5 : decode cX11_word 5 = .ok (.istore 4, 2) := by decide +kernel
theorem dX11_word_7 : decode cX11_word 7 = .ok (.iload 4, 2) := by decide +kernel
theorem dX11_word_9 : decode cX11_word 9 = .ok (.ifCond .eq 6, 3) := by decide +kernel
theorem dX11_word_12 : decode cX11_word 12 = .ok (.iload 4, 2) := by decide +kernel
theorem dX11_word_14 : decode cX11_word 14 = .ok (.ireturn, 1) := by decide +kernel
theorem dX11_word_15 : decode cX11_word 15 = .ok (.iload_n 2, 1) := by decide +kernel
theorem dX11_word_16 : decode cX11_word 16 = .ok (.ifCond .eq 8, 3) := by decide +kernel
theorem dX11_word_19 : decode cX11_word 19 = .ok (.iload_n 2, 1) := by decide +kernel
theorem dX11_word_20 : decode cX11_word 20 = .ok (.iconst 1, 1) := by decide +kernel
theorem dX11_word_21 : decode cX11_word 21 = .ok (.if_icmp .ne 7, 3) := by decide +kernel
theorem dX11_word_24 : decode cX11_word 24 = .ok (.iload_n 3, 1) := by decide +kernel
theorem dX11_word_25 : decode cX11_word 25 = .ok (.ifCond .ge 6, 3) := by decide +kernel
theorem dX11_word_28 : decode cX11_word 28 = .ok (.bipush (-2), 2) := by decide +kernel
theorem dX11_word_30 : decode cX11_word 30 = .ok (.ireturn, 1) := by decide +kernel
theorem dX11_word_31 : decode cX11_word 31 = .ok (.aload_n 0, 1) := by decide +kernel
theorem dX11_word_32 : decode cX11_word 32 = .ok (.getfield 58, 3) := by decide +kernel
theorem dX11_word_35 : decode cX11_word 35 = .ok (.iload_n 1, 1) := by decide +kernel
theorem dX11_word_36 : decode cX11_word 36 = .ok (.invokevirtual 142, 3) := by decide +kernel
theorem dX11_word_39 : decode cX11_word 39 = .ok (.iload_n 2, 1) := by decide +kernel
theorem dX11_word_40 : decode cX11_word 40 = .ok (.invokevirtual 230, 3) := by decide +kernel
theorem dX11_word_43 : decode cX11_word 43 = .ok (.iload_n 3, 1) := by decide +kernel
theorem dX11_word_44 : decode cX11_word 44 = .ok (.invokevirtual 239, 3) := by decide +kernel
theorem dX11_word_47 : decode cX11_word 47 = .ok (.ireturn, 1) := by decide +kernel
theorem dX11_figure_0 : decode cX11_figure 0 = .ok (.aload_n 0, 1) := by decide +kernel
theorem dX11_figure_1 : decode cX11_figure 1 = .ok (.iload_n 1, 1) := by decide +kernel
theorem dX11_figure_2 : decode cX11_figure 2 = .ok (.invokevirtual 227, 3) := by decide +kernel
theorem dX11_figure_5 : decode cX11_figure 5 = .ok (.istore_n 3, 1) := by decide +kernel
theorem dX11_figure_6 : decode cX11_figure 6 = .ok (.iload_n 3, 1) := by decide +kernel
theorem dX11_figure_7 : decode cX11_figure 7 = .ok (.ifCond .eq 5, 3) := by decide +kernel
theorem dX11_figure_10 : decode cX11_figure 10 = .ok (.iload_n 3, 1) := by decide +kernel
theorem dX11_figure_11 : decode cX11_figure 11 = .ok (.ireturn, 1) := by decide +kernel
theorem dX11_figure_12 : decode cX11_figure 12 = .ok (.iload_n 2, 1) := by decide +kernel
theorem dX11_figure_13 : decode cX11_figure 13 = .ok (.iconst 0, 1) := by decide +kernel
theorem dX11_figure_14 : decode cX11_figure 14 = .ok (.bipush 60, 2) := by decide +kernel
theorem dX11_figure_16 : decode cX11_figure 16 = .ok (.invokestatic 78, 3) := by decide +kernel
theorem dX11_figure_19 : decode cX11_figure 19 = .ok (.ifCond .eq 22, 3) := by decide +kernel
theorem dX11_figure_22 : decode cX11_figure 22 = .ok (.aload_n 0, 1) := by decide +kernel
theorem dX11_figure_23 : decode cX11_figure 23 = .ok (.getfield 65, 3) := by decide +kernel
theorem dX11_figure_26 : decode cX11_figure 26 = .ok (.aload_n 0, 1) := by decide +kernel
theorem dX11_figure_27 : decode cX11_figure 27 = .ok (.getfield 58, 3) := by decide +kernel
theorem dX11_figure_30 : decode cX11_figure 30 = .ok (.iload_n 1, 1) := by decide +kernel
theorem dX11_figure_31 : decode cX11_figure 31 = .ok (.invokevirtual 142, 3) := by decide +kernel
theorem dX11_figure_34 : decode cX11_figure 34 = .ok (.iload_n 2, 1) := by decide +kernel
theorem dX11_figure_35 : decode cX11_figure 35 = .ok (.invokevirtual 242, 3) := by decide +kernel
theorem dX11_figure_38 : decode cX11_figure 38 = .ok (.goto 5, 3) := by decide +kernel
theorem dX11_figure_41 : decode cX11_figure 41 = .ok (.bipush (-2), 2) := by decide +kernel
theorem dX11_figure_43 : decode cX11_figure 43 = .ok (.ireturn, 1) := by decide +kernel
theorem dX11_against_0 : decode cX11_against 0 = .ok (.aload_n 0, 1) := by decide +kernel
theorem dX11_against_1 : decode cX11_against 1 = .ok (.iload_n 1, 1) := by decide +kernel
theorem dX11_against_2 : decode cX11_against 2 = .ok (.invokevirtual 227, 3) := by decide +kernel
theorem dX11_against_5 : decode cX11_against 5 = .ok (.istore 4, 2) := by decide +kernel
theorem dX11_against_7 : decode cX11_against 7 = .ok (.iload 4, 2) := by decide +kernel
theorem dX11_against_9 : decode cX11_against 9 = .ok (.ifCond .eq 9, 3) := by decide +kernel
theorem dX11_against_12 : decode cX11_against 12 = .ok (.bipush 10, 2) := by decide +kernel
theorem dX11_against_14 : decode cX11_against 14 = .ok (.iload 4, 2) := by decide +kernel
theorem dX11_against_16 : decode cX11_against 16 = .ok (.imul, 1) := by decide +kernel
theorem dX11_against_17 : decode cX11_against 17 = .ok (.ireturn, 1) := by decide +kernel
theorem dX11_against_18 : decode cX11_against 18 = .ok (.iload_n 2, 1) := by decide +kernel
theorem dX11_against_19 : decode cX11_against 19 = .ok (.iload_n 3, 1) := by decide +kernel
theorem dX11_against_20 : decode cX11_against 20 = .ok (.invokestatic 246, 3) := by decide +kernel
theorem dX11_against_23 : decode cX11_against 23 = .ok (.ifCond .eq 25, 3) := by decide +kernel
theorem dX11_against_26 : decode cX11_against 26 = .ok (.aload_n 0, 1) := by decide +kernel
theorem dX11_against_27 : decode cX11_against 27 = .ok (.getfield 65, 3) := by decide +kernel
theorem dX11_against_30 : decode cX11_against 30 = .ok (.aload_n 0, 1) := by decide +kernel
theorem dX11_against_31 : decode cX11_against 31 = .ok (.getfield 58, 3) := by decide +kernel
theorem dX11_against_34 : decode cX11_against 34 = .ok (.iload_n 1, 1) := by decide +kernel
theorem dX11_against_35 : decode cX11_against 35 = .ok (.invokevirtual 142, 3) := by decide +kernel
theorem dX11_against_38 : decode cX11_against 38 = .ok (.iload_n 2, 1) := by decide +kernel
theorem dX11_against_39 : decode cX11_against 39 = .ok (.i2l, 1) := by decide +kernel
theorem dX11_against_40 : decode cX11_against 40 = .ok (.iload_n 3, 1) := by decide +kernel
theorem dX11_against_41 : decode cX11_against 41 = .ok (.i2l, 1) := by decide +kernel
theorem dX11_against_42 : decode cX11_against 42 = .ok (.invokevirtual 249, 3) := by decide +kernel
theorem dX11_against_45 : decode cX11_against 45 = .ok (.goto 5, 3) := by decide +kernel
theorem dX11_against_48 : decode cX11_against 48 = .ok (.bipush (-20), 2) := by decide +kernel
theorem dX11_against_50 : decode cX11_against 50 = .ok (.ireturn, 1) := by decide +kernel
theorem dX11_result_0 : decode cX11_result 0 = .ok (.aload_n 0, 1) := by decide +kernel
theorem dX11_result_1 : decode cX11_result 1 = .ok (.getfield 58, 3) := by decide +kernel
theorem dX11_result_4 : decode cX11_result 4 = .ok (.invokevirtual 253, 3) := by decide +kernel
theorem dX11_result_7 : decode cX11_result 7 = .ok (.ifCond .ne 6, 3) := by decide +kernel
theorem dX11_result_10 : decode cX11_result 10 = .ok (.ldc 172, 2) := by decide +kernel
theorem dX11_result_12 : decode cX11_result 12 = .ok (.ireturn, 1) := by decide +kernel
theorem dX11_result_13 : decode cX11_result 13 = .ok (.iload_n 1, 1) := by decide +kernel
theorem dX11_result_14 : decode cX11_result 14 = .ok (.tableswitch 50 0 2 #[26, 34, 42], 26) := by decide +kernel
theorem dX11_result_40 : decode cX11_result 40 = .ok (.aload_n 0, 1) := by decide +kernel
theorem dX11_result_41 : decode cX11_result 41 = .ok (.getfield 58, 3) := by decide +kernel
theorem dX11_result_44 : decode cX11_result 44 = .ok (.invokevirtual 256, 3) := by decide +kernel
theorem dX11_result_47 : decode cX11_result 47 = .ok (.ireturn, 1) := by decide +kernel
theorem dX11_result_48 : decode cX11_result 48 = .ok (.aload_n 0, 1) := by decide +kernel
theorem dX11_result_49 : decode cX11_result 49 = .ok (.getfield 58, 3) := by decide +kernel
theorem dX11_result_52 : decode cX11_result 52 = .ok (.invokevirtual 259, 3) := by decide +kernel
theorem dX11_result_55 : decode cX11_result 55 = .ok (.ireturn, 1) := by decide +kernel
theorem dX11_result_56 : decode cX11_result 56 = .ok (.aload_n 0, 1) := by decide +kernel
theorem dX11_result_57 : decode cX11_result 57 = .ok (.getfield 58, 3) := by decide +kernel
theorem dX11_result_60 : decode cX11_result 60 = .ok (.invokevirtual 262, 3) := by decide +kernel
theorem dX11_result_63 : decode cX11_result 63 = .ok (.ireturn, 1) := by decide +kernel
theorem dX11_result_64 : decode cX11_result 64 = .ok (.ldc_w 265, 3) := by decide +kernel
theorem dX11_result_67 : decode cX11_result 67 = .ok (.ireturn, 1) := by decide +kernel
theorem dX11_ways_0 : decode cX11_ways 0 = .ok (.aload_n 0, 1) := by decide +kernel
theorem dX11_ways_1 : decode cX11_ways 1 = .ok (.getfield 58, 3) := by decide +kernel
theorem dX11_ways_4 : decode cX11_ways 4 = .ok (.invokevirtual 253, 3) := by decide +kernel
theorem dX11_ways_7 : decode cX11_ways 7 = .ok (.ifCond .eq 13, 3) := by decide +kernel
theorem dX11_ways_10 : decode cX11_ways 10 = .ok (.aload_n 0, 1) := by decide +kernel
theorem dX11_ways_11 : decode cX11_ways 11 = .ok (.getfield 58, 3) := by decide +kernel
theorem dX11_ways_14 : decode cX11_ways 14 = .ok (.invokevirtual 256, 3) := by decide +kernel
theorem dX11_ways_17 : decode cX11_ways 17 = .ok (.ifCond .ne 7, 3) := by decide +kernel
theorem dX11_ways_20 : decode cX11_ways 20 = .ok (.ldc2_w 266, 3) := by decide +kernel
theorem dX11_ways_23 : decode cX11_ways 23 = .ok (.lreturn, 1) := by decide +kernel
theorem dX11_ways_24 : decode cX11_ways 24 = .ok (.iload_n 1, 1) := by decide +kernel
theorem dX11_ways_25 : decode cX11_ways 25 = .ok (.ldc_w 268, 3) := by decide +kernel
theorem dX11_ways_28 : decode cX11_ways 28 = .ok (.ldc_w 269, 3) := by decide +kernel
theorem dX11_ways_31 : decode cX11_ways 31 = .ok (.invokestatic 78, 3) := by decide +kernel
theorem dX11_ways_34 : decode cX11_ways 34 = .ok (.ifCond .eq 14, 3) := by decide +kernel
theorem dX11_ways_37 : decode cX11_ways 37 = .ok (.aload_n 0, 1) := by decide +kernel
theorem dX11_ways_38 : decode cX11_ways 38 = .ok (.getfield 51, 3) := by decide +kernel
theorem dX11_ways_41 : decode cX11_ways 41 = .ok (.iload_n 1, 1) := by decide +kernel
theorem dX11_ways_42 : decode cX11_ways 42 = .ok (.invokevirtual 270, 3) := by decide +kernel
theorem dX11_ways_45 : decode cX11_ways 45 = .ok (.goto 4, 3) := by decide +kernel
theorem dX11_ways_48 : decode cX11_ways 48 = .ok (.lconst 0, 1) := by decide +kernel
theorem dX11_ways_49 : decode cX11_ways 49 = .ok (.lreturn, 1) := by decide +kernel
theorem dX11_note_0 : decode cX11_note 0 = .ok (.aload_n 0, 1) := by decide +kernel
theorem dX11_note_1 : decode cX11_note 1 = .ok (.iload_n 1, 1) := by decide +kernel
theorem dX11_note_2 : decode cX11_note 2 = .ok (.invokevirtual 227, 3) := by decide +kernel
theorem dX11_note_5 : decode cX11_note 5 = .ok (.istore_n 2, 1) := by decide +kernel
theorem dX11_note_6 : decode cX11_note 6 = .ok (.iload_n 2, 1) := by decide +kernel
theorem dX11_note_7 : decode cX11_note 7 = .ok (.ifCond .eq 5, 3) := by decide +kernel
theorem dX11_note_10 : decode cX11_note 10 = .ok (.iload_n 2, 1) := by decide +kernel
theorem dX11_note_11 : decode cX11_note 11 = .ok (.ireturn, 1) := by decide +kernel
theorem dX11_note_12 : decode cX11_note 12 = .ok (.aload_n 0, 1) := by decide +kernel
theorem dX11_note_13 : decode cX11_note 13 = .ok (.getfield 74, 3) := by decide +kernel
theorem dX11_note_16 : decode cX11_note 16 = .ok (.invokevirtual 274, 3) := by decide +kernel
theorem dX11_note_19 : decode cX11_note 19 = .ok (.ifCond .eq 8, 3) := by decide +kernel
theorem dX11_note_22 : decode cX11_note 22 = .ok (.bipush (-4), 2) := by decide +kernel
theorem dX11_note_24 : decode cX11_note 24 = .ok (.goto 18, 3) := by decide +kernel
theorem dX11_note_27 : decode cX11_note 27 = .ok (.aload_n 0, 1) := by decide +kernel
theorem dX11_note_28 : decode cX11_note 28 = .ok (.getfield 74, 3) := by decide +kernel
theorem dX11_note_31 : decode cX11_note 31 = .ok (.aload_n 0, 1) := by decide +kernel
theorem dX11_note_32 : decode cX11_note 32 = .ok (.getfield 58, 3) := by decide +kernel
theorem dX11_note_35 : decode cX11_note 35 = .ok (.iload_n 1, 1) := by decide +kernel
theorem dX11_note_36 : decode cX11_note 36 = .ok (.invokevirtual 142, 3) := by decide +kernel
theorem dX11_note_39 : decode cX11_note 39 = .ok (.invokevirtual 275, 3) := by decide +kernel
theorem dX11_note_42 : decode cX11_note 42 = .ok (.ireturn, 1) := by decide +kernel
theorem dX11_rejected_0 : decode cX11_rejected 0 = .ok (.iload_n 1, 1) := by decide +kernel
theorem dX11_rejected_1 : decode cX11_rejected 1 = .ok (.iload_n 2, 1) := by decide +kernel
theorem dX11_rejected_2 : decode cX11_rejected 2 = .ok (.invokestatic 246, 3) := by decide +kernel
theorem dX11_rejected_5 : decode cX11_rejected 5 = .ok (.ifCond .eq 15, 3) := by decide +kernel
theorem dX11_rejected_8 : decode cX11_rejected 8 = .ok (.aload_n 0, 1) := by decide +kernel
theorem dX11_rejected_9 : decode cX11_rejected 9 = .ok (.getfield 74, 3) := by decide +kernel
theorem dX11_rejected_12 : decode cX11_rejected 12 = .ok (.iload_n 1, 1) := by decide +kernel
theorem dX11_rejected_13 : decode cX11_rejected 13 = .ok (.iload_n 2, 1) := by decide +kernel
theorem dX11_rejected_14 : decode cX11_rejected 14 = .ok (.invokevirtual 278, 3) := by decide +kernel
theorem dX11_rejected_17 : decode cX11_rejected 17 = .ok (.goto 5, 3) := by decide +kernel
theorem dX11_rejected_20 : decode cX11_rejected 20 = .ok (.bipush (-2), 2) := by decide +kernel
theorem dX11_rejected_22 : decode cX11_rejected 22 = .ok (.ireturn, 1) := by decide +kernel
theorem dX11_isRejected_0 : decode cX11_isRejected 0 = .ok (.aload_n 0, 1) := by decide +kernel
theorem dX11_isRejected_1 : decode cX11_isRejected 1 = .ok (.getfield 74, 3) := by decide +kernel
theorem dX11_isRejected_4 : decode cX11_isRejected 4 = .ok (.iload_n 1, 1) := by decide +kernel
theorem dX11_isRejected_5 : decode cX11_isRejected 5 = .ok (.invokevirtual 281, 3) := by decide +kernel
theorem dX11_isRejected_8 : decode cX11_isRejected 8 = .ok (.ifCond .ne 5, 3) := by decide +kernel
theorem dX11_isRejected_11 : decode cX11_isRejected 11 = .ok (.iconst (-1), 1) := by decide +kernel
theorem dX11_isRejected_12 : decode cX11_isRejected 12 = .ok (.ireturn, 1) := by decide +kernel
theorem dX11_isRejected_13 : decode cX11_isRejected 13 = .ok (.iload_n 2, 1) := by decide +kernel
theorem dX11_isRejected_14 : decode cX11_isRejected 14 = .ok (.iload_n 3, 1) := by decide +kernel
theorem dX11_isRejected_15 : decode cX11_isRejected 15 = .ok (.invokestatic 246, 3) := by decide +kernel
theorem dX11_isRejected_18 : decode cX11_isRejected 18 = .ok (.ifCond .ne 6, 3) := by decide +kernel
theorem dX11_isRejected_21 : decode cX11_isRejected 21 = .ok (.bipush (-2), 2) := by decide +kernel
theorem dX11_isRejected_23 : decode cX11_isRejected 23 = .ok (.ireturn, 1) := by decide +kernel
theorem dX11_isRejected_24 : decode cX11_isRejected 24 = .ok (.aload_n 0, 1) := by decide +kernel
theorem dX11_isRejected_25 : decode cX11_isRejected 25 = .ok (.getfield 74, 3) := by decide +kernel
theorem dX11_isRejected_28 : decode cX11_isRejected 28 = .ok (.iload_n 1, 1) := by decide +kernel
theorem dX11_isRejected_29 : decode cX11_isRejected 29 = .ok (.invokevirtual 282, 3) := by decide +kernel
theorem dX11_isRejected_32 : decode cX11_isRejected 32 = .ok (.aload_n 0, 1) := by decide +kernel
theorem dX11_isRejected_33 : decode cX11_isRejected 33 = .ok (.getfield 74, 3) := by decide +kernel
theorem dX11_isRejected_36 : decode cX11_isRejected 36 = .ok (.iload_n 2, 1) := by decide +kernel
theorem dX11_isRejected_37 : decode cX11_isRejected 37 = .ok (.iload_n 3, 1) := by decide +kernel
theorem dX11_isRejected_38 : decode cX11_isRejected 38 = .ok (.invokevirtual 278, 3) := by decide +kernel
theorem dX11_isRejected_41 : decode cX11_isRejected 41 = .ok (.if_icmp .ge 7, 3) := by decide +kernel
theorem dX11_isRejected_44 : decode cX11_isRejected 44 = .ok (.iconst 1, 1) := by decide +kernel
theorem dX11_isRejected_45 : decode cX11_isRejected 45 = .ok (.goto 4, 3) := by decide +kernel
theorem dX11_isRejected_48 : decode cX11_isRejected 48 = .ok (.iconst 0, 1) := by decide +kernel
theorem dX11_isRejected_49 : decode cX11_isRejected 49 = .ok (.ireturn, 1) := by decide +kernel
theorem dX11_claim_0 : decode cX11_claim 0 = .ok (.iload_n 1, 1) := by decide +kernel
theorem dX11_claim_1 : decode cX11_claim 1 = .ok (.iconst 0, 1) := by decide +kernel
theorem dX11_claim_2 : decode cX11_claim 2 = .ok (.ldc_w 285, 3) := by decide +kernel
theorem dX11_claim_5 : decode cX11_claim 5 = .ok (.invokestatic 78, 3) := by decide +kernel
theorem dX11_claim_8 : decode cX11_claim 8 = .ok (.ifCond .ne 6, 3) := by decide +kernel
theorem dX11_claim_11 : decode cX11_claim 11 = .ok (.bipush (-2), 2) := by decide +kernel
theorem dX11_claim_13 : decode cX11_claim 13 = .ok (.ireturn, 1) := by decide +kernel
theorem dX11_claim_14 : decode cX11_claim 14 = .ok (.aload_n 0, 1) := by decide +kernel
theorem dX11_claim_15 : decode cX11_claim 15 = .ok (.getfield 31, 3) := by decide +kernel
theorem dX11_claim_18 : decode cX11_claim 18 = .ok (.invokevirtual 112, 3) := by decide +kernel
theorem dX11_claim_21 : decode cX11_claim 21 = .ok (.ifCond .eq 8, 3) := by decide +kernel
theorem dX11_claim_24 : decode cX11_claim 24 = .ok (.bipush (-4), 2) := by decide +kernel
theorem dX11_claim_26 : decode cX11_claim 26 = .ok (.goto 11, 3) := by decide +kernel
theorem dX11_claim_29 : decode cX11_claim 29 = .ok (.aload_n 0, 1) := by decide +kernel
theorem dX11_claim_30 : decode cX11_claim 30 = .ok (.getfield 31, 3) := by decide +kernel
theorem dX11_claim_33 : decode cX11_claim 33 = .ok (.iload_n 1, 1) := by decide +kernel
theorem dX11_claim_34 : decode cX11_claim 34 = .ok (.invokevirtual 116, 3) := by decide +kernel
theorem dX11_claim_37 : decode cX11_claim 37 = .ok (.ireturn, 1) := by decide +kernel
theorem dX11_check_0 : decode cX11_check 0 = .ok (.aload_n 0, 1) := by decide +kernel
theorem dX11_check_1 : decode cX11_check 1 = .ok (.iload_n 1, 1) := by decide +kernel
theorem dX11_check_2 : decode cX11_check 2 = .ok (.invokevirtual 227, 3) := by decide +kernel
theorem dX11_check_5 : decode cX11_check 5 = .ok (.istore_n 2, 1) := by decide +kernel
theorem dX11_check_6 : decode cX11_check 6 = .ok (.iload_n 2, 1) := by decide +kernel
theorem dX11_check_7 : decode cX11_check 7 = .ok (.ifCond .eq 8, 3) := by decide +kernel
theorem dX11_check_10 : decode cX11_check 10 = .ok (.bipush 10, 2) := by decide +kernel
theorem dX11_check_12 : decode cX11_check 12 = .ok (.iload_n 2, 1) := by decide +kernel
theorem dX11_check_13 : decode cX11_check 13 = .ok (.imul, 1) := by decide +kernel
theorem dX11_check_14 : decode cX11_check 14 = .ok (.ireturn, 1) := by decide +kernel
theorem dX11_check_15 : decode cX11_check 15 = .ok (.aload_n 0, 1) := by decide +kernel
theorem dX11_check_16 : decode cX11_check 16 = .ok (.getfield 58, 3) := by decide +kernel
theorem dX11_check_19 : decode cX11_check 19 = .ok (.iload_n 1, 1) := by decide +kernel
theorem dX11_check_20 : decode cX11_check 20 = .ok (.invokevirtual 142, 3) := by decide +kernel
theorem dX11_check_23 : decode cX11_check 23 = .ok (.astore_n 3, 1) := by decide +kernel
theorem dX11_check_24 : decode cX11_check 24 = .ok (.aload_n 3, 1) := by decide +kernel
theorem dX11_check_25 : decode cX11_check 25 = .ok (.invokevirtual 286, 3) := by decide +kernel
theorem dX11_check_28 : decode cX11_check 28 = .ok (.istore 4, 2) := by decide +kernel
theorem dX11_check_30 : decode cX11_check 30 = .ok (.iload 4, 2) := by decide +kernel
theorem dX11_check_32 : decode cX11_check 32 = .ok (.aload_n 0, 1) := by decide +kernel
theorem dX11_check_33 : decode cX11_check 33 = .ok (.getfield 31, 3) := by decide +kernel
theorem dX11_check_36 : decode cX11_check 36 = .ok (.invokevirtual 169, 3) := by decide +kernel
theorem dX11_check_39 : decode cX11_check 39 = .ok (.invokestatic 289, 3) := by decide +kernel
theorem dX11_check_42 : decode cX11_check 42 = .ok (.istore 5, 2) := by decide +kernel
theorem dX11_check_44 : decode cX11_check 44 = .ok (.iconst 0, 1) := by decide +kernel
theorem dX11_check_45 : decode cX11_check 45 = .ok (.istore 6, 2) := by decide +kernel
theorem dX11_check_47 : decode cX11_check 47 = .ok (.iload 6, 2) := by decide +kernel
theorem dX11_check_49 : decode cX11_check 49 = .ok (.iload 5, 2) := by decide +kernel
theorem dX11_check_51 : decode cX11_check 51 = .ok (.if_icmp .ge 33, 3) := by decide +kernel
theorem dX11_check_54 : decode cX11_check 54 = .ok (.aload_n 0, 1) := by decide +kernel
theorem dX11_check_55 : decode cX11_check 55 = .ok (.getfield 31, 3) := by decide +kernel
theorem dX11_check_58 : decode cX11_check 58 = .ok (.iload 6, 2) := by decide +kernel
theorem dX11_check_60 : decode cX11_check 60 = .ok (.invokevirtual 189, 3) := by decide +kernel
theorem dX11_check_63 : decode cX11_check 63 = .ok (.aload_n 3, 1) := by decide +kernel
theorem dX11_check_64 : decode cX11_check 64 = .ok (.iload 6, 2) := by decide +kernel
theorem dX11_check_66 : decode cX11_check 66 = .ok (.invokevirtual 292, 3) := by decide +kernel
theorem dX11_check_69 : decode cX11_check 69 = .ok (.if_icmp .eq 9, 3) := by decide +kernel
theorem dX11_check_72 : decode cX11_check 72 = .ok (.bipush (-100), 2) := by decide +kernel
theorem dX11_check_74 : decode cX11_check 74 = .ok (.iload 6, 2) := by decide +kernel
theorem dX11_check_76 : decode cX11_check 76 = .ok (.isub, 1) := by decide +kernel
theorem dX11_check_77 : decode cX11_check 77 = .ok (.ireturn, 1) := by decide +kernel
theorem dX11_check_78 : decode cX11_check 78 = .ok (.iinc 6 1, 3) := by decide +kernel
theorem dX11_check_81 : decode cX11_check 81 = .ok (.goto (-34), 3) := by decide +kernel
theorem dX11_check_84 : decode cX11_check 84 = .ok (.iload 4, 2) := by decide +kernel
theorem dX11_check_86 : decode cX11_check 86 = .ok (.aload_n 0, 1) := by decide +kernel
theorem dX11_check_87 : decode cX11_check 87 = .ok (.getfield 31, 3) := by decide +kernel
theorem dX11_check_90 : decode cX11_check 90 = .ok (.invokevirtual 169, 3) := by decide +kernel
theorem dX11_check_93 : decode cX11_check 93 = .ok (.if_icmp .ne 7, 3) := by decide +kernel
theorem dX11_check_96 : decode cX11_check 96 = .ok (.iconst 1, 1) := by decide +kernel
theorem dX11_check_97 : decode cX11_check 97 = .ok (.goto 8, 3) := by decide +kernel
theorem dX11_check_100 : decode cX11_check 100 = .ok (.bipush (-100), 2) := by decide +kernel
theorem dX11_check_102 : decode cX11_check 102 = .ok (.iload 5, 2) := by decide +kernel
theorem dX11_check_104 : decode cX11_check 104 = .ok (.isub, 1) := by decide +kernel
theorem dX11_check_105 : decode cX11_check 105 = .ok (.ireturn, 1) := by decide +kernel
theorem dX11_shift_0 : decode cX11_shift 0 = .ok (.aload_n 0, 1) := by decide +kernel
theorem dX11_shift_1 : decode cX11_shift 1 = .ok (.getfield 21, 3) := by decide +kernel
theorem dX11_shift_4 : decode cX11_shift 4 = .ok (.invokevirtual 169, 3) := by decide +kernel
theorem dX11_shift_7 : decode cX11_shift 7 = .ok (.aload_n 0, 1) := by decide +kernel
theorem dX11_shift_8 : decode cX11_shift 8 = .ok (.getfield 25, 3) := by decide +kernel
theorem dX11_shift_11 : decode cX11_shift 11 = .ok (.invokevirtual 169, 3) := by decide +kernel
theorem dX11_shift_14 : decode cX11_shift 14 = .ok (.imul, 1) := by decide +kernel
theorem dX11_shift_15 : decode cX11_shift 15 = .ok (.istore_n 1, 1) := by decide +kernel
theorem dX11_shift_16 : decode cX11_shift 16 = .ok (.iload_n 1, 1) := by decide +kernel
theorem dX11_shift_17 : decode cX11_shift 17 = .ok (.ifCond .ne 6, 3) := by decide +kernel
theorem dX11_shift_20 : decode cX11_shift 20 = .ok (.ldc 172, 2) := by decide +kernel
theorem dX11_shift_22 : decode cX11_shift 22 = .ok (.ireturn, 1) := by decide +kernel
theorem dX11_shift_23 : decode cX11_shift 23 = .ok (.aload_n 0, 1) := by decide +kernel
theorem dX11_shift_24 : decode cX11_shift 24 = .ok (.iload_n 1, 1) := by decide +kernel
theorem dX11_shift_25 : decode cX11_shift 25 = .ok (.iconst 1, 1) := by decide +kernel
theorem dX11_shift_26 : decode cX11_shift 26 = .ok (.iadd, 1) := by decide +kernel
theorem dX11_shift_27 : decode cX11_shift 27 = .ok (.iconst 2, 1) := by decide +kernel
theorem dX11_shift_28 : decode cX11_shift 28 = .ok (.idiv, 1) := by decide +kernel
theorem dX11_shift_29 : decode cX11_shift 29 = .ok (.invokevirtual 295, 3) := by decide +kernel
theorem dX11_shift_32 : decode cX11_shift 32 = .ok (.aload_n 0, 1) := by decide +kernel
theorem dX11_shift_33 : decode cX11_shift 33 = .ok (.iload_n 1, 1) := by decide +kernel
theorem dX11_shift_34 : decode cX11_shift 34 = .ok (.iconst 2, 1) := by decide +kernel
theorem dX11_shift_35 : decode cX11_shift 35 = .ok (.idiv, 1) := by decide +kernel
theorem dX11_shift_36 : decode cX11_shift 36 = .ok (.iconst 1, 1) := by decide +kernel
theorem dX11_shift_37 : decode cX11_shift 37 = .ok (.iadd, 1) := by decide +kernel
theorem dX11_shift_38 : decode cX11_shift 38 = .ok (.invokevirtual 295, 3) := by decide +kernel
theorem dX11_shift_41 : decode cX11_shift 41 = .ok (.iadd, 1) := by decide +kernel
theorem dX11_shift_42 : decode cX11_shift 42 = .ok (.ireturn, 1) := by decide +kernel
theorem dX11_told_0 : decode cX11_told 0 = .ok (.iload_n 1, 1) := by decide +kernel
theorem dX11_told_1 : decode cX11_told 1 = .ok (.tableswitch 111 0 7 #[47, 55, 63, 71, 79, 87, 95, 103], 47) := by decide +kernel
theorem dX11_told_48 : decode cX11_told 48 = .ok (.aload_n 0, 1) := by decide +kernel
theorem dX11_told_49 : decode cX11_told 49 = .ok (.getfield 21, 3) := by decide +kernel
theorem dX11_told_52 : decode cX11_told 52 = .ok (.invokevirtual 169, 3) := by decide +kernel
theorem dX11_told_55 : decode cX11_told 55 = .ok (.ireturn, 1) := by decide +kernel
theorem dX11_told_56 : decode cX11_told 56 = .ok (.aload_n 0, 1) := by decide +kernel
theorem dX11_told_57 : decode cX11_told 57 = .ok (.getfield 25, 3) := by decide +kernel
theorem dX11_told_60 : decode cX11_told 60 = .ok (.invokevirtual 169, 3) := by decide +kernel
theorem dX11_told_63 : decode cX11_told 63 = .ok (.ireturn, 1) := by decide +kernel
theorem dX11_told_64 : decode cX11_told 64 = .ok (.aload_n 0, 1) := by decide +kernel
theorem dX11_told_65 : decode cX11_told 65 = .ok (.getfield 28, 3) := by decide +kernel
theorem dX11_told_68 : decode cX11_told 68 = .ok (.invokevirtual 169, 3) := by decide +kernel
theorem dX11_told_71 : decode cX11_told 71 = .ok (.ireturn, 1) := by decide +kernel
theorem dX11_told_72 : decode cX11_told 72 = .ok (.aload_n 0, 1) := by decide +kernel
theorem dX11_told_73 : decode cX11_told 73 = .ok (.getfield 74, 3) := by decide +kernel
theorem dX11_told_76 : decode cX11_told 76 = .ok (.invokevirtual 298, 3) := by decide +kernel
theorem dX11_told_79 : decode cX11_told 79 = .ok (.ireturn, 1) := by decide +kernel
theorem dX11_told_80 : decode cX11_told 80 = .ok (.aload_n 0, 1) := by decide +kernel
theorem dX11_told_81 : decode cX11_told 81 = .ok (.getfield 31, 3) := by decide +kernel
theorem dX11_told_84 : decode cX11_told 84 = .ok (.invokevirtual 169, 3) := by decide +kernel
theorem dX11_told_87 : decode cX11_told 87 = .ok (.ireturn, 1) := by decide +kernel
theorem dX11_told_88 : decode cX11_told 88 = .ok (.aload_n 0, 1) := by decide +kernel
theorem dX11_told_89 : decode cX11_told 89 = .ok (.getfield 10, 3) := by decide +kernel
theorem dX11_told_92 : decode cX11_told 92 = .ok (.invokevirtual 127, 3) := by decide +kernel
theorem dX11_told_95 : decode cX11_told 95 = .ok (.ireturn, 1) := by decide +kernel
theorem dX11_told_96 : decode cX11_told 96 = .ok (.aload_n 0, 1) := by decide +kernel
theorem dX11_told_97 : decode cX11_told 97 = .ok (.getfield 10, 3) := by decide +kernel
theorem dX11_told_100 : decode cX11_told 100 = .ok (.invokevirtual 130, 3) := by decide +kernel
theorem dX11_told_103 : decode cX11_told 103 = .ok (.ireturn, 1) := by decide +kernel
theorem dX11_told_104 : decode cX11_told 104 = .ok (.aload_n 0, 1) := by decide +kernel
theorem dX11_told_105 : decode cX11_told 105 = .ok (.getfield 44, 3) := by decide +kernel
theorem dX11_told_108 : decode cX11_told 108 = .ok (.invokevirtual 212, 3) := by decide +kernel
theorem dX11_told_111 : decode cX11_told 111 = .ok (.ireturn, 1) := by decide +kernel
theorem dX11_told_112 : decode cX11_told 112 = .ok (.bipush (-2), 2) := by decide +kernel
theorem dX11_told_114 : decode cX11_told 114 = .ok (.ireturn, 1) := by decide +kernel
theorem dX11_within_0 : decode cX11_within 0 = .ok (.iload_n 0, 1) := by decide +kernel
theorem dX11_within_1 : decode cX11_within 1 = .ok (.iload_n 1, 1) := by decide +kernel
theorem dX11_within_2 : decode cX11_within 2 = .ok (.if_icmp .lt 12, 3) := by decide +kernel
theorem dX11_within_5 : decode cX11_within 5 = .ok (.iload_n 0, 1) := by decide +kernel
theorem dX11_within_6 : decode cX11_within 6 = .ok (.iload_n 2, 1) := by decide +kernel
theorem dX11_within_7 : decode cX11_within 7 = .ok (.if_icmp .gt 7, 3) := by decide +kernel
theorem dX11_within_10 : decode cX11_within 10 = .ok (.iconst 1, 1) := by decide +kernel
theorem dX11_within_11 : decode cX11_within 11 = .ok (.goto 4, 3) := by decide +kernel
theorem dX11_within_14 : decode cX11_within 14 = .ok (.iconst 0, 1) := by decide +kernel
theorem dX11_within_15 : decode cX11_within 15 = .ok (.ireturn, 1) := by decide +kernel
theorem dX11_isLevel_0 : decode cX11_isLevel 0 = .ok (.iload_n 0, 1) := by decide +kernel
theorem dX11_isLevel_1 : decode cX11_isLevel 1 = .ok (.iconst 0, 1) := by decide +kernel
theorem dX11_isLevel_2 : decode cX11_isLevel 2 = .ok (.ldc_w 299, 3) := by decide +kernel
theorem dX11_isLevel_5 : decode cX11_isLevel 5 = .ok (.invokestatic 78, 3) := by decide +kernel
theorem dX11_isLevel_8 : decode cX11_isLevel 8 = .ok (.ifCond .eq 18, 3) := by decide +kernel
theorem dX11_isLevel_11 : decode cX11_isLevel 11 = .ok (.iload_n 1, 1) := by decide +kernel
theorem dX11_isLevel_12 : decode cX11_isLevel 12 = .ok (.iconst 1, 1) := by decide +kernel
theorem dX11_isLevel_13 : decode cX11_isLevel 13 = .ok (.ldc_w 299, 3) := by decide +kernel
theorem dX11_isLevel_16 : decode cX11_isLevel 16 = .ok (.invokestatic 78, 3) := by decide +kernel
theorem dX11_isLevel_19 : decode cX11_isLevel 19 = .ok (.ifCond .eq 7, 3) := by decide +kernel
theorem dX11_isLevel_22 : decode cX11_isLevel 22 = .ok (.iconst 1, 1) := by decide +kernel
theorem dX11_isLevel_23 : decode cX11_isLevel 23 = .ok (.goto 4, 3) := by decide +kernel
theorem dX11_isLevel_26 : decode cX11_isLevel 26 = .ok (.iconst 0, 1) := by decide +kernel
theorem dX11_isLevel_27 : decode cX11_isLevel 27 = .ok (.ireturn, 1) := by decide +kernel
theorem dX11_refusal_0 : decode cX11_refusal 0 = .ok (.aload_n 0, 1) := by decide +kernel
theorem dX11_refusal_1 : decode cX11_refusal 1 = .ok (.getfield 58, 3) := by decide +kernel
theorem dX11_refusal_4 : decode cX11_refusal 4 = .ok (.invokevirtual 253, 3) := by decide +kernel
theorem dX11_refusal_7 : decode cX11_refusal 7 = .ok (.ifCond .ne 6, 3) := by decide +kernel
theorem dX11_refusal_10 : decode cX11_refusal 10 = .ok (.bipush (-3), 2) := by decide +kernel
theorem dX11_refusal_12 : decode cX11_refusal 12 = .ok (.ireturn, 1) := by decide +kernel
theorem dX11_refusal_13 : decode cX11_refusal 13 = .ok (.iload_n 1, 1) := by decide +kernel
theorem dX11_refusal_14 : decode cX11_refusal 14 = .ok (.iconst 0, 1) := by decide +kernel
theorem dX11_refusal_15 : decode cX11_refusal 15 = .ok (.iconst 3, 1) := by decide +kernel
theorem dX11_refusal_16 : decode cX11_refusal 16 = .ok (.invokestatic 78, 3) := by decide +kernel
theorem dX11_refusal_19 : decode cX11_refusal 19 = .ok (.ifCond .eq 7, 3) := by decide +kernel
theorem dX11_refusal_22 : decode cX11_refusal 22 = .ok (.iconst 0, 1) := by decide +kernel
theorem dX11_refusal_23 : decode cX11_refusal 23 = .ok (.goto 4, 3) := by decide +kernel
theorem dX11_refusal_26 : decode cX11_refusal 26 = .ok (.iconst (-1), 1) := by decide +kernel
theorem dX11_refusal_27 : decode cX11_refusal 27 = .ok (.ireturn, 1) := by decide +kernel
theorem dX11_takeScores_0 : decode cX11_takeScores 0 = .ok (.iconst 0, 1) := by decide +kernel
theorem dX11_takeScores_1 : decode cX11_takeScores 1 = .ok (.istore_n 3, 1) := by decide +kernel
theorem dX11_takeScores_2 : decode cX11_takeScores 2 = .ok (.iconst 0, 1) := by decide +kernel
theorem dX11_takeScores_3 : decode cX11_takeScores 3 = .ok (.istore 4, 2) := by decide +kernel
theorem dX11_takeScores_5 : decode cX11_takeScores 5 = .ok (.iload 4, 2) := by decide +kernel
theorem dX11_takeScores_7 : decode cX11_takeScores 7 = .ok (.aload_n 1, 1) := by decide +kernel
theorem dX11_takeScores_8 : decode cX11_takeScores 8 = .ok (.invokevirtual 169, 3) := by decide +kernel
theorem dX11_takeScores_11 : decode cX11_takeScores 11 = .ok (.if_icmp .ge 48, 3) := by decide +kernel
theorem dX11_takeScores_14 : decode cX11_takeScores 14 = .ok (.aload_n 1, 1) := by decide +kernel
theorem dX11_takeScores_15 : decode cX11_takeScores 15 = .ok (.iload 4, 2) := by decide +kernel
theorem dX11_takeScores_17 : decode cX11_takeScores 17 = .ok (.invokevirtual 189, 3) := by decide +kernel
theorem dX11_takeScores_20 : decode cX11_takeScores 20 = .ok (.istore 5, 2) := by decide +kernel
theorem dX11_takeScores_22 : decode cX11_takeScores 22 = .ok (.iload_n 2, 1) := by decide +kernel
theorem dX11_takeScores_23 : decode cX11_takeScores 23 = .ok (.ifCond .ne 8, 3) := by decide +kernel
theorem dX11_takeScores_26 : decode cX11_takeScores 26 = .ok (.iload 5, 2) := by decide +kernel
theorem dX11_takeScores_28 : decode cX11_takeScores 28 = .ok (.goto 9, 3) := by decide +kernel
theorem dX11_takeScores_31 : decode cX11_takeScores 31 = .ok (.aload_n 0, 1) := by decide +kernel
theorem dX11_takeScores_32 : decode cX11_takeScores 32 = .ok (.iload 5, 2) := by decide +kernel
theorem dX11_takeScores_34 : decode cX11_takeScores 34 = .ok (.invokevirtual 209, 3) := by decide +kernel
theorem dX11_takeScores_37 : decode cX11_takeScores 37 = .ok (.istore 6, 2) := by decide +kernel
theorem dX11_takeScores_39 : decode cX11_takeScores 39 = .ok (.aload_n 0, 1) := by decide +kernel
theorem dX11_takeScores_40 : decode cX11_takeScores 40 = .ok (.getfield 51, 3) := by decide +kernel
theorem dX11_takeScores_43 : decode cX11_takeScores 43 = .ok (.iload 6, 2) := by decide +kernel
theorem dX11_takeScores_45 : decode cX11_takeScores 45 = .ok (.invokevirtual 200, 3) := by decide +kernel
theorem dX11_takeScores_48 : decode cX11_takeScores 48 = .ok (.iload_n 3, 1) := by decide +kernel
theorem dX11_takeScores_49 : decode cX11_takeScores 49 = .ok (.iload 6, 2) := by decide +kernel
theorem dX11_takeScores_51 : decode cX11_takeScores 51 = .ok (.iadd, 1) := by decide +kernel
theorem dX11_takeScores_52 : decode cX11_takeScores 52 = .ok (.istore_n 3, 1) := by decide +kernel
theorem dX11_takeScores_53 : decode cX11_takeScores 53 = .ok (.iinc 4 1, 3) := by decide +kernel
theorem dX11_takeScores_56 : decode cX11_takeScores 56 = .ok (.goto (-51), 3) := by decide +kernel
theorem dX11_takeScores_59 : decode cX11_takeScores 59 = .ok (.iload_n 3, 1) := by decide +kernel
theorem dX11_takeScores_60 : decode cX11_takeScores 60 = .ok (.ireturn, 1) := by decide +kernel
theorem dX11_scoreOfSize_0 : decode cX11_scoreOfSize 0 = .ok (.iload_n 2, 1) := by decide +kernel
theorem dX11_scoreOfSize_1 : decode cX11_scoreOfSize 1 = .ok (.ifCond .ne 5, 3) := by decide +kernel
theorem dX11_scoreOfSize_4 : decode cX11_scoreOfSize 4 = .ok (.iload_n 1, 1) := by decide +kernel
theorem dX11_scoreOfSize_5 : decode cX11_scoreOfSize 5 = .ok (.ireturn, 1) := by decide +kernel
theorem dX11_scoreOfSize_6 : decode cX11_scoreOfSize 6 = .ok (.iload_n 2, 1) := by decide +kernel
theorem dX11_scoreOfSize_7 : decode cX11_scoreOfSize 7 = .ok (.iconst 1, 1) := by decide +kernel
theorem dX11_scoreOfSize_8 : decode cX11_scoreOfSize 8 = .ok (.if_icmp .ne 11, 3) := by decide +kernel
theorem dX11_scoreOfSize_11 : decode cX11_scoreOfSize 11 = .ok (.aload_n 0, 1) := by decide +kernel
theorem dX11_scoreOfSize_12 : decode cX11_scoreOfSize 12 = .ok (.iload_n 1, 1) := by decide +kernel
theorem dX11_scoreOfSize_13 : decode cX11_scoreOfSize 13 = .ok (.invokevirtual 206, 3) := by decide +kernel
theorem dX11_scoreOfSize_16 : decode cX11_scoreOfSize 16 = .ok (.goto 4, 3) := by decide +kernel
theorem dX11_scoreOfSize_19 : decode cX11_scoreOfSize 19 = .ok (.iconst 1, 1) := by decide +kernel
theorem dX11_scoreOfSize_20 : decode cX11_scoreOfSize 20 = .ok (.ireturn, 1) := by decide +kernel
theorem dX11_rankOfNumber_0 : decode cX11_rankOfNumber 0 = .ok (.aload_n 0, 1) := by decide +kernel
theorem dX11_rankOfNumber_1 : decode cX11_rankOfNumber 1 = .ok (.getfield 21, 3) := by decide +kernel
theorem dX11_rankOfNumber_4 : decode cX11_rankOfNumber 4 = .ok (.iload_n 1, 1) := by decide +kernel
theorem dX11_rankOfNumber_5 : decode cX11_rankOfNumber 5 = .ok (.invokevirtual 300, 3) := by decide +kernel
theorem dX11_rankOfNumber_8 : decode cX11_rankOfNumber 8 = .ok (.aload_n 0, 1) := by decide +kernel
theorem dX11_rankOfNumber_9 : decode cX11_rankOfNumber 9 = .ok (.getfield 25, 3) := by decide +kernel
theorem dX11_rankOfNumber_12 : decode cX11_rankOfNumber 12 = .ok (.iload_n 1, 1) := by decide +kernel
theorem dX11_rankOfNumber_13 : decode cX11_rankOfNumber 13 = .ok (.invokevirtual 300, 3) := by decide +kernel
theorem dX11_rankOfNumber_16 : decode cX11_rankOfNumber 16 = .ok (.iadd, 1) := by decide +kernel
theorem dX11_rankOfNumber_17 : decode cX11_rankOfNumber 17 = .ok (.istore_n 2, 1) := by decide +kernel
theorem dX11_rankOfNumber_18 : decode cX11_rankOfNumber 18 = .ok (.aload_n 0, 1) := by decide +kernel
theorem dX11_rankOfNumber_19 : decode cX11_rankOfNumber 19 = .ok (.getfield 21, 3) := by decide +kernel
theorem dX11_rankOfNumber_22 : decode cX11_rankOfNumber 22 = .ok (.iload_n 1, 1) := by decide +kernel
theorem dX11_rankOfNumber_23 : decode cX11_rankOfNumber 23 = .ok (.invokevirtual 183, 3) := by decide +kernel
theorem dX11_rankOfNumber_26 : decode cX11_rankOfNumber 26 = .ok (.aload_n 0, 1) := by decide +kernel
theorem dX11_rankOfNumber_27 : decode cX11_rankOfNumber 27 = .ok (.getfield 25, 3) := by decide +kernel
theorem dX11_rankOfNumber_30 : decode cX11_rankOfNumber 30 = .ok (.iload_n 1, 1) := by decide +kernel
theorem dX11_rankOfNumber_31 : decode cX11_rankOfNumber 31 = .ok (.invokevirtual 183, 3) := by decide +kernel
theorem dX11_rankOfNumber_34 : decode cX11_rankOfNumber 34 = .ok (.iadd, 1) := by decide +kernel
theorem dX11_rankOfNumber_35 : decode cX11_rankOfNumber 35 = .ok (.istore_n 3, 1) := by decide +kernel
theorem dX11_rankOfNumber_36 : decode cX11_rankOfNumber 36 = .ok (.iload_n 2, 1) := by decide +kernel
theorem dX11_rankOfNumber_37 : decode cX11_rankOfNumber 37 = .ok (.iload_n 3, 1) := by decide +kernel
theorem dX11_rankOfNumber_38 : decode cX11_rankOfNumber 38 = .ok (.invokestatic 303, 3) := by decide +kernel
theorem dX11_rankOfNumber_41 : decode cX11_rankOfNumber 41 = .ok (.ireturn, 1) := by decide +kernel
theorem dX11_rankOfSize_0 : decode cX11_rankOfSize 0 = .ok (.iload_n 1, 1) := by decide +kernel
theorem dX11_rankOfSize_1 : decode cX11_rankOfSize 1 = .ok (.ifCond .ne 5, 3) := by decide +kernel
theorem dX11_rankOfSize_4 : decode cX11_rankOfSize 4 = .ok (.iconst 0, 1) := by decide +kernel
theorem dX11_rankOfSize_5 : decode cX11_rankOfSize 5 = .ok (.ireturn, 1) := by decide +kernel
theorem dX11_rankOfSize_6 : decode cX11_rankOfSize 6 = .ok (.aload_n 0, 1) := by decide +kernel
theorem dX11_rankOfSize_7 : decode cX11_rankOfSize 7 = .ok (.getfield 28, 3) := by decide +kernel
theorem dX11_rankOfSize_10 : decode cX11_rankOfSize 10 = .ok (.iload_n 1, 1) := by decide +kernel
theorem dX11_rankOfSize_11 : decode cX11_rankOfSize 11 = .ok (.invokevirtual 300, 3) := by decide +kernel
theorem dX11_rankOfSize_14 : decode cX11_rankOfSize 14 = .ok (.aload_n 0, 1) := by decide +kernel
theorem dX11_rankOfSize_15 : decode cX11_rankOfSize 15 = .ok (.getfield 28, 3) := by decide +kernel
theorem dX11_rankOfSize_18 : decode cX11_rankOfSize 18 = .ok (.iconst 1, 1) := by decide +kernel
theorem dX11_rankOfSize_19 : decode cX11_rankOfSize 19 = .ok (.iload_n 1, 1) := by decide +kernel
theorem dX11_rankOfSize_20 : decode cX11_rankOfSize 20 = .ok (.isub, 1) := by decide +kernel
theorem dX11_rankOfSize_21 : decode cX11_rankOfSize 21 = .ok (.invokevirtual 300, 3) := by decide +kernel
theorem dX11_rankOfSize_24 : decode cX11_rankOfSize 24 = .ok (.isub, 1) := by decide +kernel
theorem dX11_rankOfSize_25 : decode cX11_rankOfSize 25 = .ok (.istore_n 2, 1) := by decide +kernel
theorem dX11_rankOfSize_26 : decode cX11_rankOfSize 26 = .ok (.iload_n 2, 1) := by decide +kernel
theorem dX11_rankOfSize_27 : decode cX11_rankOfSize 27 = .ok (.aload_n 0, 1) := by decide +kernel
theorem dX11_rankOfSize_28 : decode cX11_rankOfSize 28 = .ok (.getfield 28, 3) := by decide +kernel
theorem dX11_rankOfSize_31 : decode cX11_rankOfSize 31 = .ok (.iconst 0, 1) := by decide +kernel
theorem dX11_rankOfSize_32 : decode cX11_rankOfSize 32 = .ok (.invokevirtual 183, 3) := by decide +kernel
theorem dX11_rankOfSize_35 : decode cX11_rankOfSize 35 = .ok (.isub, 1) := by decide +kernel
theorem dX11_rankOfSize_36 : decode cX11_rankOfSize 36 = .ok (.istore_n 3, 1) := by decide +kernel
theorem dX11_rankOfSize_37 : decode cX11_rankOfSize 37 = .ok (.aload_n 0, 1) := by decide +kernel
theorem dX11_rankOfSize_38 : decode cX11_rankOfSize 38 = .ok (.getfield 28, 3) := by decide +kernel
theorem dX11_rankOfSize_41 : decode cX11_rankOfSize 41 = .ok (.iload_n 1, 1) := by decide +kernel
theorem dX11_rankOfSize_42 : decode cX11_rankOfSize 42 = .ok (.invokevirtual 183, 3) := by decide +kernel
theorem dX11_rankOfSize_45 : decode cX11_rankOfSize 45 = .ok (.aload_n 0, 1) := by decide +kernel
theorem dX11_rankOfSize_46 : decode cX11_rankOfSize 46 = .ok (.getfield 28, 3) := by decide +kernel
theorem dX11_rankOfSize_49 : decode cX11_rankOfSize 49 = .ok (.iload_n 1, 1) := by decide +kernel
theorem dX11_rankOfSize_50 : decode cX11_rankOfSize 50 = .ok (.ineg, 1) := by decide +kernel
theorem dX11_rankOfSize_51 : decode cX11_rankOfSize 51 = .ok (.invokevirtual 183, 3) := by decide +kernel
theorem dX11_rankOfSize_54 : decode cX11_rankOfSize 54 = .ok (.iadd, 1) := by decide +kernel
theorem dX11_rankOfSize_55 : decode cX11_rankOfSize 55 = .ok (.istore 4, 2) := by decide +kernel
theorem dX11_rankOfSize_57 : decode cX11_rankOfSize 57 = .ok (.iload_n 3, 1) := by decide +kernel
theorem dX11_rankOfSize_58 : decode cX11_rankOfSize 58 = .ok (.iload 4, 2) := by decide +kernel
theorem dX11_rankOfSize_60 : decode cX11_rankOfSize 60 = .ok (.invokestatic 303, 3) := by decide +kernel
theorem dX11_rankOfSize_63 : decode cX11_rankOfSize 63 = .ok (.ireturn, 1) := by decide +kernel
theorem dX11_twiceMeanPlace_0 : decode cX11_twiceMeanPlace 0 = .ok (.iconst 2, 1) := by decide +kernel
theorem dX11_twiceMeanPlace_1 : decode cX11_twiceMeanPlace 1 = .ok (.iload_n 0, 1) := by decide +kernel
theorem dX11_twiceMeanPlace_2 : decode cX11_twiceMeanPlace 2 = .ok (.imul, 1) := by decide +kernel
theorem dX11_twiceMeanPlace_3 : decode cX11_twiceMeanPlace 3 = .ok (.iload_n 1, 1) := by decide +kernel
theorem dX11_twiceMeanPlace_4 : decode cX11_twiceMeanPlace 4 = .ok (.iadd, 1) := by decide +kernel
theorem dX11_twiceMeanPlace_5 : decode cX11_twiceMeanPlace 5 = .ok (.iconst 1, 1) := by decide +kernel
theorem dX11_twiceMeanPlace_6 : decode cX11_twiceMeanPlace 6 = .ok (.iadd, 1) := by decide +kernel
theorem dX11_twiceMeanPlace_7 : decode cX11_twiceMeanPlace 7 = .ok (.ireturn, 1) := by decide +kernel
theorem dX11_judge_0 : decode cX11_judge 0 = .ok (.aload_n 0, 1) := by decide +kernel
theorem dX11_judge_1 : decode cX11_judge 1 = .ok (.getfield 51, 3) := by decide +kernel
theorem dX11_judge_4 : decode cX11_judge 4 = .ok (.invokevirtual 306, 3) := by decide +kernel
theorem dX11_judge_7 : decode cX11_judge 7 = .ok (.lstore 4, 2) := by decide +kernel
theorem dX11_judge_9 : decode cX11_judge 9 = .ok (.aload_n 0, 1) := by decide +kernel
theorem dX11_judge_10 : decode cX11_judge 10 = .ok (.getfield 51, 3) := by decide +kernel
theorem dX11_judge_13 : decode cX11_judge 13 = .ok (.iload_n 1, 1) := by decide +kernel
theorem dX11_judge_14 : decode cX11_judge 14 = .ok (.invokevirtual 310, 3) := by decide +kernel
theorem dX11_judge_17 : decode cX11_judge 17 = .ok (.lstore 6, 2) := by decide +kernel
theorem dX11_judge_19 : decode cX11_judge 19 = .ok (.aload_n 0, 1) := by decide +kernel
theorem dX11_judge_20 : decode cX11_judge 20 = .ok (.getfield 51, 3) := by decide +kernel
theorem dX11_judge_23 : decode cX11_judge 23 = .ok (.iload_n 1, 1) := by decide +kernel
