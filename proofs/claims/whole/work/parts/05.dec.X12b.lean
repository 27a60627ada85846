theorem dX12_firstTable_54 : decode cX12_firstTable 54 = .ok (.aload_n 0, 1) := by decide +kernel
theorem dX12_firstTable_55 : decode cX12_firstTable 55 = .ok (.iconst 0, 1) := by decide +kernel
theorem dX12_firstTable_56 : decode cX12_firstTable 56 = .ok (.invokevirtual 197, 3) := by decide +kernel
theorem dX12_firstTable_59 : decode cX12_firstTable 59 = .ok (.return_, 1) := by decide +kernel
theorem dX12_openFrom_0 : decode cX12_openFrom 0 = .ok (.iload_n 1, 1) := by decide +kernel
theorem dX12_openFrom_1 : decode cX12_openFrom 1 = .ok (.istore_n 2, 1) := by decide +kernel
theorem dX12_openFrom_2 : decode cX12_openFrom 2 = .ok (.iload_n 2, 1) := by decide +kernel
theorem dX12_openFrom_3 : decode cX12_openFrom 3 = .ok (.aload_n 0, 1) := by decide +kernel
theorem dX12_openFrom_4 : decode cX12_openFrom 4 = .ok (.getfield 115, 3) := by decide +kernel
theorem dX12_openFrom_7 : decode cX12_openFrom 7 = .ok (.aload_n 0, 1) := by decide +kernel
theorem dX12_openFrom_8 : decode cX12_openFrom 8 = .ok (.getfield 118, 3) := by decide +kernel
theorem dX12_openFrom_11 : decode cX12_openFrom 11 = .ok (.imul, 1) := by decide +kernel
theorem dX12_openFrom_12 : decode cX12_openFrom 12 = .ok (.if_icmp .ge 14, 3) := by decide +kernel
theorem dX12_openFrom_15 : decode cX12_openFrom 15 = .ok (.aload_n 0, 1) := by decide +kernel
theorem dX12_openFrom_16 : decode cX12_openFrom 16 = .ok (.iload_n 2, 1) := by decide +kernel
theorem dX12_openFrom_17 : decode cX12_openFrom 17 = .ok (.invokevirtual 201, 3) := by decide +kernel
theorem dX12_openFrom_20 : decode cX12_openFrom 20 = .ok (.iinc 2 1, 3) := by decide +kernel
theorem dX12_openFrom_23 : decode cX12_openFrom 23 = .ok (.goto (-21), 3) := by decide +kernel
theorem dX12_openFrom_26 : decode cX12_openFrom 26 = .ok (.return_, 1) := by decide +kernel
theorem dX12_nextTable_0 : decode cX12_nextTable 0 = .ok (.aload_n 0, 1) := by decide +kernel
theorem dX12_nextTable_1 : decode cX12_nextTable 1 = .ok (.getfield 115, 3) := by decide +kernel
theorem dX12_nextTable_4 : decode cX12_nextTable 4 = .ok (.aload_n 0, 1) := by decide +kernel
theorem dX12_nextTable_5 : decode cX12_nextTable 5 = .ok (.getfield 118, 3) := by decide +kernel
theorem dX12_nextTable_8 : decode cX12_nextTable 8 = .ok (.imul, 1) := by decide +kernel
theorem dX12_nextTable_9 : decode cX12_nextTable 9 = .ok (.iconst 1, 1) := by decide +kernel
theorem dX12_nextTable_10 : decode cX12_nextTable 10 = .ok (.isub, 1) := by decide +kernel
theorem dX12_nextTable_11 : decode cX12_nextTable 11 = .ok (.istore_n 1, 1) := by decide +kernel
theorem dX12_nextTable_12 : decode cX12_nextTable 12 = .ok (.iload_n 1, 1) := by decide +kernel
theorem dX12_nextTable_13 : decode cX12_nextTable 13 = .ok (.ifCond .lt 24, 3) := by decide +kernel
theorem dX12_nextTable_16 : decode cX12_nextTable 16 = .ok (.aload_n 0, 1) := by decide +kernel
theorem dX12_nextTable_17 : decode cX12_nextTable 17 = .ok (.getfield 49, 3) := by decide +kernel
theorem dX12_nextTable_20 : decode cX12_nextTable 20 = .ok (.iload_n 1, 1) := by decide +kernel
theorem dX12_nextTable_21 : decode cX12_nextTable 21 = .ok (.iaload, 1) := by decide +kernel
theorem dX12_nextTable_22 : decode cX12_nextTable 22 = .ok (.aload_n 0, 1) := by decide +kernel
theorem dX12_nextTable_23 : decode cX12_nextTable 23 = .ok (.getfield 52, 3) := by decide +kernel
theorem dX12_nextTable_26 : decode cX12_nextTable 26 = .ok (.iload_n 1, 1) := by decide +kernel
theorem dX12_nextTable_27 : decode cX12_nextTable 27 = .ok (.iaload, 1) := by decide +kernel
theorem dX12_nextTable_28 : decode cX12_nextTable 28 = .ok (.if_icmp .ne 9, 3) := by decide +kernel
theorem dX12_nextTable_31 : decode cX12_nextTable 31 = .ok (.iinc 1 (-1), 3) := by decide +kernel
theorem dX12_nextTable_34 : decode cX12_nextTable 34 = .ok (.goto (-22), 3) := by decide +kernel
theorem dX12_nextTable_37 : decode cX12_nextTable 37 = .ok (.iload_n 1, 1) := by decide +kernel
theorem dX12_nextTable_38 : decode cX12_nextTable 38 = .ok (.ifCond .ge 5, 3) := by decide +kernel
theorem dX12_nextTable_41 : decode cX12_nextTable 41 = .ok (.iconst 0, 1) := by decide +kernel
theorem dX12_nextTable_42 : decode cX12_nextTable 42 = .ok (.ireturn, 1) := by decide +kernel
theorem dX12_nextTable_43 : decode cX12_nextTable 43 = .ok (.aload_n 0, 1) := by decide +kernel
theorem dX12_nextTable_44 : decode cX12_nextTable 44 = .ok (.getfield 49, 3) := by decide +kernel
theorem dX12_nextTable_47 : decode cX12_nextTable 47 = .ok (.iload_n 1, 1) := by decide +kernel
theorem dX12_nextTable_48 : decode cX12_nextTable 48 = .ok (.dup2, 1) := by decide +kernel
theorem dX12_nextTable_49 : decode cX12_nextTable 49 = .ok (.iaload, 1) := by decide +kernel
theorem dX12_nextTable_50 : decode cX12_nextTable 50 = .ok (.iconst 1, 1) := by decide +kernel
theorem dX12_nextTable_51 : decode cX12_nextTable 51 = .ok (.iadd, 1) := by decide +kernel
theorem dX12_nextTable_52 : decode cX12_nextTable 52 = .ok (.iastore, 1) := by decide +kernel
theorem dX12_nextTable_53 : decode cX12_nextTable 53 = .ok (.aload_n 0, 1) := by decide +kernel
theorem dX12_nextTable_54 : decode cX12_nextTable 54 = .ok (.iload_n 1, 1) := by decide +kernel
theorem dX12_nextTable_55 : decode cX12_nextTable 55 = .ok (.iconst 1, 1) := by decide +kernel
theorem dX12_nextTable_56 : decode cX12_nextTable 56 = .ok (.iadd, 1) := by decide +kernel
theorem dX12_nextTable_57 : decode cX12_nextTable 57 = .ok (.invokevirtual 197, 3) := by decide +kernel
theorem dX12_nextTable_60 : decode cX12_nextTable 60 = .ok (.iconst 1, 1) := by decide +kernel
theorem dX12_nextTable_61 : decode cX12_nextTable 61 = .ok (.ireturn, 1) := by decide +kernel
theorem dX12_timesFactorial_0 : decode cX12_timesFactorial 0 = .ok (.iconst 2, 1) := by decide +kernel
theorem dX12_timesFactorial_1 : decode cX12_timesFactorial 1 = .ok (.istore_n 3, 1) := by decide +kernel
theorem dX12_timesFactorial_2 : decode cX12_timesFactorial 2 = .ok (.iload_n 3, 1) := by decide +kernel
theorem dX12_timesFactorial_3 : decode cX12_timesFactorial 3 = .ok (.iload_n 2, 1) := by decide +kernel
theorem dX12_timesFactorial_4 : decode cX12_timesFactorial 4 = .ok (.if_icmp .gt 15, 3) := by decide +kernel
theorem dX12_timesFactorial_7 : decode cX12_timesFactorial 7 = .ok (.aload_n 1, 1) := by decide +kernel
theorem dX12_timesFactorial_8 : decode cX12_timesFactorial 8 = .ok (.iconst 0, 1) := by decide +kernel
theorem dX12_timesFactorial_9 : decode cX12_timesFactorial 9 = .ok (.iload_n 3, 1) := by decide +kernel
theorem dX12_timesFactorial_10 : decode cX12_timesFactorial 10 = .ok (.invokestatic 204, 3) := by decide +kernel
theorem dX12_timesFactorial_13 : decode cX12_timesFactorial 13 = .ok (.iinc 3 1, 3) := by decide +kernel
theorem dX12_timesFactorial_16 : decode cX12_timesFactorial 16 = .ok (.goto (-14), 3) := by decide +kernel
theorem dX12_timesFactorial_19 : decode cX12_timesFactorial 19 = .ok (.return_, 1) := by decide +kernel
theorem dX12_weigh_0 : decode cX12_weigh 0 = .ok (.aload_n 0, 1) := by decide +kernel
theorem dX12_weigh_1 : decode cX12_weigh 1 = .ok (.getfield 69, 3) := by decide +kernel
theorem dX12_weigh_4 : decode cX12_weigh 4 = .ok (.iconst 0, 1) := by decide +kernel
theorem dX12_weigh_5 : decode cX12_weigh 5 = .ok (.aload_n 2, 1) := by decide +kernel
theorem dX12_weigh_6 : decode cX12_weigh 6 = .ok (.iconst 0, 1) := by decide +kernel
theorem dX12_weigh_7 : decode cX12_weigh 7 = .ok (.invokestatic 151, 3) := by decide +kernel
theorem dX12_weigh_10 : decode cX12_weigh 10 = .ok (.iconst 0, 1) := by decide +kernel
theorem dX12_weigh_11 : decode cX12_weigh 11 = .ok (.istore_n 3, 1) := by decide +kernel
theorem dX12_weigh_12 : decode cX12_weigh 12 = .ok (.iload_n 3, 1) := by decide +kernel
theorem dX12_weigh_13 : decode cX12_weigh 13 = .ok (.aload_n 0, 1) := by decide +kernel
theorem dX12_weigh_14 : decode cX12_weigh 14 = .ok (.getfield 115, 3) := by decide +kernel
theorem dX12_weigh_17 : decode cX12_weigh 17 = .ok (.aload_n 0, 1) := by decide +kernel
theorem dX12_weigh_18 : decode cX12_weigh 18 = .ok (.getfield 118, 3) := by decide +kernel
theorem dX12_weigh_21 : decode cX12_weigh 21 = .ok (.imul, 1) := by decide +kernel
theorem dX12_weigh_22 : decode cX12_weigh 22 = .ok (.if_icmp .ge 33, 3) := by decide +kernel
theorem dX12_weigh_25 : decode cX12_weigh 25 = .ok (.iconst 2, 1) := by decide +kernel
theorem dX12_weigh_26 : decode cX12_weigh 26 = .ok (.istore 4, 2) := by decide +kernel
theorem dX12_weigh_28 : decode cX12_weigh 28 = .ok (.iload 4, 2) := by decide +kernel
theorem dX12_weigh_30 : decode cX12_weigh 30 = .ok (.aload_n 1, 1) := by decide +kernel
theorem dX12_weigh_31 : decode cX12_weigh 31 = .ok (.iload_n 3, 1) := by decide +kernel
theorem dX12_weigh_32 : decode cX12_weigh 32 = .ok (.iaload, 1) := by decide +kernel
theorem dX12_weigh_33 : decode cX12_weigh 33 = .ok (.if_icmp .gt 16, 3) := by decide +kernel
theorem dX12_weigh_36 : decode cX12_weigh 36 = .ok (.aload_n 2, 1) := by decide +kernel
theorem dX12_weigh_37 : decode cX12_weigh 37 = .ok (.iconst 0, 1) := by decide +kernel
theorem dX12_weigh_38 : decode cX12_weigh 38 = .ok (.iload 4, 2) := by decide +kernel
theorem dX12_weigh_40 : decode cX12_weigh 40 = .ok (.invokestatic 207, 3) := by decide +kernel
theorem dX12_weigh_43 : decode cX12_weigh 43 = .ok (.iinc 4 1, 3) := by decide +kernel
theorem dX12_weigh_46 : decode cX12_weigh 46 = .ok (.goto (-18), 3) := by decide +kernel
theorem dX12_weigh_49 : decode cX12_weigh 49 = .ok (.iinc 3 1, 3) := by decide +kernel
theorem dX12_weigh_52 : decode cX12_weigh 52 = .ok (.goto (-40), 3) := by decide +kernel
theorem dX12_weigh_55 : decode cX12_weigh 55 = .ok (.return_, 1) := by decide +kernel
theorem dX12_tables_0 : decode cX12_tables 0 = .ok (.aload_n 0, 1) := by decide +kernel
theorem dX12_tables_1 : decode cX12_tables 1 = .ok (.getfield 163, 3) := by decide +kernel
theorem dX12_tables_4 : decode cX12_tables 4 = .ok (.ifCond .ne 6, 3) := by decide +kernel
theorem dX12_tables_7 : decode cX12_tables 7 = .ok (.bipush (-5), 2) := by decide +kernel
theorem dX12_tables_9 : decode cX12_tables 9 = .ok (.ireturn, 1) := by decide +kernel
theorem dX12_tables_10 : decode cX12_tables 10 = .ok (.iconst 1, 1) := by decide +kernel
theorem dX12_tables_11 : decode cX12_tables 11 = .ok (.istore_n 1, 1) := by decide +kernel
theorem dX12_tables_12 : decode cX12_tables 12 = .ok (.aload_n 0, 1) := by decide +kernel
theorem dX12_tables_13 : decode cX12_tables 13 = .ok (.invokevirtual 210, 3) := by decide +kernel
theorem dX12_tables_16 : decode cX12_tables 16 = .ok (.iload_n 1, 1) := by decide +kernel
theorem dX12_tables_17 : decode cX12_tables 17 = .ok (.sipush 20000, 3) := by decide +kernel
theorem dX12_tables_20 : decode cX12_tables 20 = .ok (.if_icmp .gt 16, 3) := by decide +kernel
theorem dX12_tables_23 : decode cX12_tables 23 = .ok (.aload_n 0, 1) := by decide +kernel
theorem dX12_tables_24 : decode cX12_tables 24 = .ok (.invokevirtual 213, 3) := by decide +kernel
theorem dX12_tables_27 : decode cX12_tables 27 = .ok (.ifCond .eq 9, 3) := by decide +kernel
theorem dX12_tables_30 : decode cX12_tables 30 = .ok (.iinc 1 1, 3) := by decide +kernel
theorem dX12_tables_33 : decode cX12_tables 33 = .ok (.goto (-17), 3) := by decide +kernel
theorem dX12_tables_36 : decode cX12_tables 36 = .ok (.iload_n 1, 1) := by decide +kernel
theorem dX12_tables_37 : decode cX12_tables 37 = .ok (.sipush 20000, 3) := by decide +kernel
theorem dX12_tables_40 : decode cX12_tables 40 = .ok (.if_icmp .le 6, 3) := by decide +kernel
theorem dX12_tables_43 : decode cX12_tables 43 = .ok (.bipush (-7), 2) := by decide +kernel
theorem dX12_tables_45 : decode cX12_tables 45 = .ok (.ireturn, 1) := by decide +kernel
theorem dX12_tables_46 : decode cX12_tables 46 = .ok (.aload_n 0, 1) := by decide +kernel
theorem dX12_tables_47 : decode cX12_tables 47 = .ok (.getfield 69, 3) := by decide +kernel
theorem dX12_tables_50 : decode cX12_tables 50 = .ok (.iconst 0, 1) := by decide +kernel
theorem dX12_tables_51 : decode cX12_tables 51 = .ok (.lconst 1, 1) := by decide +kernel
theorem dX12_tables_52 : decode cX12_tables 52 = .ok (.invokestatic 127, 3) := by decide +kernel
theorem dX12_tables_55 : decode cX12_tables 55 = .ok (.iconst 0, 1) := by decide +kernel
theorem dX12_tables_56 : decode cX12_tables 56 = .ok (.istore_n 2, 1) := by decide +kernel
theorem dX12_tables_57 : decode cX12_tables 57 = .ok (.iload_n 2, 1) := by decide +kernel
theorem dX12_tables_58 : decode cX12_tables 58 = .ok (.aload_n 0, 1) := by decide +kernel
theorem dX12_tables_59 : decode cX12_tables 59 = .ok (.getfield 115, 3) := by decide +kernel
theorem dX12_tables_62 : decode cX12_tables 62 = .ok (.if_icmp .ge 22, 3) := by decide +kernel
theorem dX12_tables_65 : decode cX12_tables 65 = .ok (.aload_n 0, 1) := by decide +kernel
theorem dX12_tables_66 : decode cX12_tables 66 = .ok (.aload_n 0, 1) := by decide +kernel
theorem dX12_tables_67 : decode cX12_tables 67 = .ok (.getfield 69, 3) := by decide +kernel
theorem dX12_tables_70 : decode cX12_tables 70 = .ok (.aload_n 0, 1) := by decide +kernel
theorem dX12_tables_71 : decode cX12_tables 71 = .ok (.iload_n 2, 1) := by decide +kernel
theorem dX12_tables_72 : decode cX12_tables 72 = .ok (.invokevirtual 170, 3) := by decide +kernel
theorem dX12_tables_75 : decode cX12_tables 75 = .ok (.invokevirtual 217, 3) := by decide +kernel
theorem dX12_tables_78 : decode cX12_tables 78 = .ok (.iinc 2 1, 3) := by decide +kernel
theorem dX12_tables_81 : decode cX12_tables 81 = .ok (.goto (-24), 3) := by decide +kernel
theorem dX12_tables_84 : decode cX12_tables 84 = .ok (.iconst 0, 1) := by decide +kernel
theorem dX12_tables_85 : decode cX12_tables 85 = .ok (.istore_n 2, 1) := by decide +kernel
theorem dX12_tables_86 : decode cX12_tables 86 = .ok (.iload_n 2, 1) := by decide +kernel
theorem dX12_tables_87 : decode cX12_tables 87 = .ok (.aload_n 0, 1) := by decide +kernel
theorem dX12_tables_88 : decode cX12_tables 88 = .ok (.getfield 118, 3) := by decide +kernel
theorem dX12_tables_91 : decode cX12_tables 91 = .ok (.if_icmp .ge 22, 3) := by decide +kernel
theorem dX12_tables_94 : decode cX12_tables 94 = .ok (.aload_n 0, 1) := by decide +kernel
theorem dX12_tables_95 : decode cX12_tables 95 = .ok (.aload_n 0, 1) := by decide +kernel
theorem dX12_tables_96 : decode cX12_tables 96 = .ok (.getfield 69, 3) := by decide +kernel
theorem dX12_tables_99 : decode cX12_tables 99 = .ok (.aload_n 0, 1) := by decide +kernel
theorem dX12_tables_100 : decode cX12_tables 100 = .ok (.iload_n 2, 1) := by decide +kernel
theorem dX12_tables_101 : decode cX12_tables 101 = .ok (.invokevirtual 174, 3) := by decide +kernel
theorem dX12_tables_104 : decode cX12_tables 104 = .ok (.invokevirtual 217, 3) := by decide +kernel
theorem dX12_tables_107 : decode cX12_tables 107 = .ok (.iinc 2 1, 3) := by decide +kernel
theorem dX12_tables_110 : decode cX12_tables 110 = .ok (.goto (-24), 3) := by decide +kernel
theorem dX12_tables_113 : decode cX12_tables 113 = .ok (.aload_n 0, 1) := by decide +kernel
theorem dX12_tables_114 : decode cX12_tables 114 = .ok (.aload_n 0, 1) := by decide +kernel
theorem dX12_tables_115 : decode cX12_tables 115 = .ok (.getfield 22, 3) := by decide +kernel
theorem dX12_tables_118 : decode cX12_tables 118 = .ok (.aload_n 0, 1) := by decide +kernel
theorem dX12_tables_119 : decode cX12_tables 119 = .ok (.getfield 75, 3) := by decide +kernel
theorem dX12_tables_122 : decode cX12_tables 122 = .ok (.invokevirtual 221, 3) := by decide +kernel
theorem dX12_tables_125 : decode cX12_tables 125 = .ok (.aload_n 0, 1) := by decide +kernel
theorem dX12_tables_126 : decode cX12_tables 126 = .ok (.getfield 78, 3) := by decide +kernel
theorem dX12_tables_129 : decode cX12_tables 129 = .ok (.iconst 0, 1) := by decide +kernel
theorem dX12_tables_130 : decode cX12_tables 130 = .ok (.lconst 1, 1) := by decide +kernel
theorem dX12_tables_131 : decode cX12_tables 131 = .ok (.invokestatic 127, 3) := by decide +kernel
theorem dX12_tables_134 : decode cX12_tables 134 = .ok (.aload_n 0, 1) := by decide +kernel
theorem dX12_tables_135 : decode cX12_tables 135 = .ok (.aload_n 0, 1) := by decide +kernel
theorem dX12_tables_136 : decode cX12_tables 136 = .ok (.getfield 78, 3) := by decide +kernel
theorem dX12_tables_139 : decode cX12_tables 139 = .ok (.aload_n 0, 1) := by decide +kernel
theorem dX12_tables_140 : decode cX12_tables 140 = .ok (.getfield 163, 3) := by decide +kernel
theorem dX12_tables_143 : decode cX12_tables 143 = .ok (.invokevirtual 217, 3) := by decide +kernel
theorem dX12_tables_146 : decode cX12_tables 146 = .ok (.iconst 0, 1) := by decide +kernel
theorem dX12_tables_147 : decode cX12_tables 147 = .ok (.istore_n 2, 1) := by decide +kernel
theorem dX12_tables_148 : decode cX12_tables 148 = .ok (.iload_n 2, 1) := by decide +kernel
theorem dX12_tables_149 : decode cX12_tables 149 = .ok (.iconst 4, 1) := by decide +kernel
theorem dX12_tables_150 : decode cX12_tables 150 = .ok (.if_icmp .ge 21, 3) := by decide +kernel
theorem dX12_tables_153 : decode cX12_tables 153 = .ok (.aload_n 0, 1) := by decide +kernel
theorem dX12_tables_154 : decode cX12_tables 154 = .ok (.getfield 38, 3) := by decide +kernel
theorem dX12_tables_157 : decode cX12_tables 157 = .ok (.bipush 40, 2) := by decide +kernel
theorem dX12_tables_159 : decode cX12_tables 159 = .ok (.iload_n 2, 1) := by decide +kernel
theorem dX12_tables_160 : decode cX12_tables 160 = .ok (.imul, 1) := by decide +kernel
theorem dX12_tables_161 : decode cX12_tables 161 = .ok (.lconst 0, 1) := by decide +kernel
theorem dX12_tables_162 : decode cX12_tables 162 = .ok (.invokestatic 127, 3) := by decide +kernel
theorem dX12_tables_165 : decode cX12_tables 165 = .ok (.iinc 2 1, 3) := by decide +kernel
theorem dX12_tables_168 : decode cX12_tables 168 = .ok (.goto (-20), 3) := by decide +kernel
theorem dX12_tables_171 : decode cX12_tables 171 = .ok (.aload_n 0, 1) := by decide +kernel
theorem dX12_tables_172 : decode cX12_tables 172 = .ok (.invokevirtual 210, 3) := by decide +kernel
theorem dX12_tables_175 : decode cX12_tables 175 = .ok (.iconst 0, 1) := by decide +kernel
theorem dX12_tables_176 : decode cX12_tables 176 = .ok (.istore_n 2, 1) := by decide +kernel
theorem dX12_tables_177 : decode cX12_tables 177 = .ok (.iload_n 2, 1) := by decide +kernel
theorem dX12_tables_178 : decode cX12_tables 178 = .ok (.iload_n 1, 1) := by decide +kernel
theorem dX12_tables_179 : decode cX12_tables 179 = .ok (.if_icmp .ge 42, 3) := by decide +kernel
theorem dX12_tables_182 : decode cX12_tables 182 = .ok (.aload_n 0, 1) := by decide +kernel
theorem dX12_tables_183 : decode cX12_tables 183 = .ok (.aload_n 0, 1) := by decide +kernel
theorem dX12_tables_184 : decode cX12_tables 184 = .ok (.getfield 49, 3) := by decide +kernel
theorem dX12_tables_187 : decode cX12_tables 187 = .ok (.aload_n 0, 1) := by decide +kernel
theorem dX12_tables_188 : decode cX12_tables 188 = .ok (.getfield 72, 3) := by decide +kernel
theorem dX12_tables_191 : decode cX12_tables 191 = .ok (.invokevirtual 221, 3) := by decide +kernel
theorem dX12_tables_194 : decode cX12_tables 194 = .ok (.aload_n 0, 1) := by decide +kernel
theorem dX12_tables_195 : decode cX12_tables 195 = .ok (.iload_n 2, 1) := by decide +kernel
theorem dX12_tables_196 : decode cX12_tables 196 = .ok (.invokevirtual 225, 3) := by decide +kernel
theorem dX12_tables_199 : decode cX12_tables 199 = .ok (.aload_n 0, 1) := by decide +kernel
theorem dX12_tables_200 : decode cX12_tables 200 = .ok (.invokevirtual 213, 3) := by decide +kernel
theorem dX12_tables_203 : decode cX12_tables 203 = .ok (.istore_n 3, 1) := by decide +kernel
theorem dX12_tables_204 : decode cX12_tables 204 = .ok (.iload_n 3, 1) := by decide +kernel
theorem dX12_tables_205 : decode cX12_tables 205 = .ok (.ifCond .ne 10, 3) := by decide +kernel
theorem dX12_tables_208 : decode cX12_tables 208 = .ok (.aload_n 0, 1) := by decide +kernel
theorem dX12_tables_209 : decode cX12_tables 209 = .ok (.iload_n 2, 1) := by decide +kernel
theorem dX12_tables_210 : decode cX12_tables 210 = .ok (.iconst 1, 1) := by decide +kernel
theorem dX12_tables_211 : decode cX12_tables 211 = .ok (.iadd, 1) := by decide +kernel
theorem dX12_tables_212 : decode cX12_tables 212 = .ok (.putfield 228, 3) := by decide +kernel
theorem dX12_tables_215 : decode cX12_tables 215 = .ok (.iinc 2 1, 3) := by decide +kernel
theorem dX12_tables_218 : decode cX12_tables 218 = .ok (.goto (-41), 3) := by decide +kernel
theorem dX12_tables_221 : decode cX12_tables 221 = .ok (.aload_n 0, 1) := by decide +kernel
theorem dX12_tables_222 : decode cX12_tables 222 = .ok (.getfield 75, 3) := by decide +kernel
theorem dX12_tables_225 : decode cX12_tables 225 = .ok (.iconst 0, 1) := by decide +kernel
theorem dX12_tables_226 : decode cX12_tables 226 = .ok (.aload_n 0, 1) := by decide +kernel
theorem dX12_tables_227 : decode cX12_tables 227 = .ok (.getfield 38, 3) := by decide +kernel
theorem dX12_tables_230 : decode cX12_tables 230 = .ok (.bipush 120, 2) := by decide +kernel
theorem dX12_tables_232 : decode cX12_tables 232 = .ok (.invokestatic 151, 3) := by decide +kernel
theorem dX12_tables_235 : decode cX12_tables 235 = .ok (.aload_n 0, 1) := by decide +kernel
theorem dX12_tables_236 : decode cX12_tables 236 = .ok (.aload_n 0, 1) := by decide +kernel
theorem dX12_tables_237 : decode cX12_tables 237 = .ok (.getfield 115, 3) := by decide +kernel
theorem dX12_tables_240 : decode cX12_tables 240 = .ok (.putfield 231, 3) := by decide +kernel
theorem dX12_tables_243 : decode cX12_tables 243 = .ok (.aload_n 0, 1) := by decide +kernel
theorem dX12_tables_244 : decode cX12_tables 244 = .ok (.aload_n 0, 1) := by decide +kernel
theorem dX12_tables_245 : decode cX12_tables 245 = .ok (.getfield 118, 3) := by decide +kernel
theorem dX12_tables_248 : decode cX12_tables 248 = .ok (.putfield 234, 3) := by decide +kernel
theorem dX12_tables_251 : decode cX12_tables 251 = .ok (.aload_n 0, 1) := by decide +kernel
theorem dX12_tables_252 : decode cX12_tables 252 = .ok (.iconst 0, 1) := by decide +kernel
theorem dX12_tables_253 : decode cX12_tables 253 = .ok (.putfield 34, 3) := by decide +kernel
theorem dX12_tables_256 : decode cX12_tables 256 = .ok (.aload_n 0, 1) := by decide +kernel
theorem dX12_tables_257 : decode cX12_tables 257 = .ok (.aload_n 0, 1) := by decide +kernel
theorem dX12_tables_258 : decode cX12_tables 258 = .ok (.getfield 22, 3) := by decide +kernel
theorem dX12_tables_261 : decode cX12_tables 261 = .ok (.iconst 0, 1) := by decide +kernel
theorem dX12_tables_262 : decode cX12_tables 262 = .ok (.iaload, 1) := by decide +kernel
theorem dX12_tables_263 : decode cX12_tables 263 = .ok (.putfield 237, 3) := by decide +kernel
theorem dX12_tables_266 : decode cX12_tables 266 = .ok (.aload_n 0, 1) := by decide +kernel
theorem dX12_tables_267 : decode cX12_tables 267 = .ok (.aload_n 0, 1) := by decide +kernel
theorem dX12_tables_268 : decode cX12_tables 268 = .ok (.getfield 163, 3) := by decide +kernel
theorem dX12_tables_271 : decode cX12_tables 271 = .ok (.putfield 240, 3) := by decide +kernel
theorem dX12_tables_274 : decode cX12_tables 274 = .ok (.aload_n 0, 1) := by decide +kernel
theorem dX12_tables_275 : decode cX12_tables 275 = .ok (.aload_n 0, 1) := by decide +kernel
theorem dX12_tables_276 : decode cX12_tables 276 = .ok (.getfield 78, 3) := by decide +kernel
theorem dX12_tables_279 : decode cX12_tables 279 = .ok (.invokevirtual 243, 3) := by decide +kernel
theorem dX12_tables_282 : decode cX12_tables 282 = .ok (.iload_n 1, 1) := by decide +kernel
theorem dX12_tables_283 : decode cX12_tables 283 = .ok (.ireturn, 1) := by decide +kernel
theorem dX12_keepCase_0 : decode cX12_keepCase 0 = .ok (.iconst 0, 1) := by decide +kernel
theorem dX12_keepCase_1 : decode cX12_keepCase 1 = .ok (.istore_n 2, 1) := by decide +kernel
theorem dX12_keepCase_2 : decode cX12_keepCase 2 = .ok (.iload_n 2, 1) := by decide +kernel
theorem dX12_keepCase_3 : decode cX12_keepCase 3 = .ok (.aload_n 0, 1) := by decide +kernel
theorem dX12_keepCase_4 : decode cX12_keepCase 4 = .ok (.getfield 115, 3) := by decide +kernel
theorem dX12_keepCase_7 : decode cX12_keepCase 7 = .ok (.aload_n 0, 1) := by decide +kernel
theorem dX12_keepCase_8 : decode cX12_keepCase 8 = .ok (.getfield 118, 3) := by decide +kernel
theorem dX12_keepCase_11 : decode cX12_keepCase 11 = .ok (.imul, 1) := by decide +kernel
theorem dX12_keepCase_12 : decode cX12_keepCase 12 = .ok (.if_icmp .ge 27, 3) := by decide +kernel
theorem dX12_keepCase_15 : decode cX12_keepCase 15 = .ok (.aload_n 0, 1) := by decide +kernel
theorem dX12_keepCase_16 : decode cX12_keepCase 16 = .ok (.getfield 62, 3) := by decide +kernel
theorem dX12_keepCase_19 : decode cX12_keepCase 19 = .ok (.bipush 25, 2) := by decide +kernel
theorem dX12_keepCase_21 : decode cX12_keepCase 21 = .ok (.iload_n 1, 1) := by decide +kernel
theorem dX12_keepCase_22 : decode cX12_keepCase 22 = .ok (.imul, 1) := by decide +kernel
theorem dX12_keepCase_23 : decode cX12_keepCase 23 = .ok (.iload_n 2, 1) := by decide +kernel
theorem dX12_keepCase_24 : decode cX12_keepCase 24 = .ok (.iadd, 1) := by decide +kernel
theorem dX12_keepCase_25 : decode cX12_keepCase 25 = .ok (.aload_n 0, 1) := by decide +kernel
theorem dX12_keepCase_26 : decode cX12_keepCase 26 = .ok (.getfield 49, 3) := by decide +kernel
theorem dX12_keepCase_29 : decode cX12_keepCase 29 = .ok (.iload_n 2, 1) := by decide +kernel
theorem dX12_keepCase_30 : decode cX12_keepCase 30 = .ok (.iaload, 1) := by decide +kernel
theorem dX12_keepCase_31 : decode cX12_keepCase 31 = .ok (.i2b, 1) := by decide +kernel
theorem dX12_keepCase_32 : decode cX12_keepCase 32 = .ok (.bastore, 1) := by decide +kernel
theorem dX12_keepCase_33 : decode cX12_keepCase 33 = .ok (.iinc 2 1, 3) := by decide +kernel
theorem dX12_keepCase_36 : decode cX12_keepCase 36 = .ok (.goto (-34), 3) := by decide +kernel
theorem dX12_keepCase_39 : decode cX12_keepCase 39 = .ok (.aload_n 0, 1) := by decide +kernel
theorem dX12_keepCase_40 : decode cX12_keepCase 40 = .ok (.getfield 72, 3) := by decide +kernel
theorem dX12_keepCase_43 : decode cX12_keepCase 43 = .ok (.iconst 0, 1) := by decide +kernel
theorem dX12_keepCase_44 : decode cX12_keepCase 44 = .ok (.aload_n 0, 1) := by decide +kernel
theorem dX12_keepCase_45 : decode cX12_keepCase 45 = .ok (.getfield 75, 3) := by decide +kernel
theorem dX12_keepCase_48 : decode cX12_keepCase 48 = .ok (.iconst 0, 1) := by decide +kernel
theorem dX12_keepCase_49 : decode cX12_keepCase 49 = .ok (.invokestatic 143, 3) := by decide +kernel
theorem dX12_keepCase_52 : decode cX12_keepCase 52 = .ok (.istore_n 2, 1) := by decide +kernel
theorem dX12_keepCase_53 : decode cX12_keepCase 53 = .ok (.aload_n 0, 1) := by decide +kernel
theorem dX12_keepCase_54 : decode cX12_keepCase 54 = .ok (.getfield 66, 3) := by decide +kernel
theorem dX12_keepCase_57 : decode cX12_keepCase 57 = .ok (.iload_n 1, 1) := by decide +kernel
theorem dX12_keepCase_58 : decode cX12_keepCase 58 = .ok (.iload_n 2, 1) := by decide +kernel
theorem dX12_keepCase_59 : decode cX12_keepCase 59 = .ok (.i2b, 1) := by decide +kernel
theorem dX12_keepCase_60 : decode cX12_keepCase 60 = .ok (.bastore, 1) := by decide +kernel
theorem dX12_keepCase_61 : decode cX12_keepCase 61 = .ok (.iload_n 2, 1) := by decide +kernel
theorem dX12_keepCase_62 : decode cX12_keepCase 62 = .ok (.ifCond .gt 16, 3) := by decide +kernel
theorem dX12_keepCase_65 : decode cX12_keepCase 65 = .ok (.aload_n 0, 1) := by decide +kernel
theorem dX12_keepCase_66 : decode cX12_keepCase 66 = .ok (.getfield 38, 3) := by decide +kernel
theorem dX12_keepCase_69 : decode cX12_keepCase 69 = .ok (.iconst 0, 1) := by decide +kernel
theorem dX12_keepCase_70 : decode cX12_keepCase 70 = .ok (.aload_n 0, 1) := by decide +kernel
theorem dX12_keepCase_71 : decode cX12_keepCase 71 = .ok (.getfield 72, 3) := by decide +kernel
theorem dX12_keepCase_74 : decode cX12_keepCase 74 = .ok (.iconst 0, 1) := by decide +kernel
theorem dX12_keepCase_75 : decode cX12_keepCase 75 = .ok (.invokestatic 247, 3) := by decide +kernel
theorem dX12_keepCase_78 : decode cX12_keepCase 78 = .ok (.aload_n 0, 1) := by decide +kernel
theorem dX12_keepCase_79 : decode cX12_keepCase 79 = .ok (.getfield 49, 3) := by decide +kernel
theorem dX12_keepCase_82 : decode cX12_keepCase 82 = .ok (.iconst 0, 1) := by decide +kernel
theorem dX12_keepCase_83 : decode cX12_keepCase 83 = .ok (.iaload, 1) := by decide +kernel
theorem dX12_keepCase_84 : decode cX12_keepCase 84 = .ok (.aload_n 0, 1) := by decide +kernel
theorem dX12_keepCase_85 : decode cX12_keepCase 85 = .ok (.getfield 22, 3) := by decide +kernel
theorem dX12_keepCase_88 : decode cX12_keepCase 88 = .ok (.iconst 0, 1) := by decide +kernel
theorem dX12_keepCase_89 : decode cX12_keepCase 89 = .ok (.iaload, 1) := by decide +kernel
theorem dX12_keepCase_90 : decode cX12_keepCase 90 = .ok (.if_icmp .gt 17, 3) := by decide +kernel
theorem dX12_keepCase_93 : decode cX12_keepCase 93 = .ok (.aload_n 0, 1) := by decide +kernel
theorem dX12_keepCase_94 : decode cX12_keepCase 94 = .ok (.getfield 38, 3) := by decide +kernel
theorem dX12_keepCase_97 : decode cX12_keepCase 97 = .ok (.bipush 40, 2) := by decide +kernel
theorem dX12_keepCase_99 : decode cX12_keepCase 99 = .ok (.aload_n 0, 1) := by decide +kernel
theorem dX12_keepCase_100 : decode cX12_keepCase 100 = .ok (.getfield 72, 3) := by decide +kernel
theorem dX12_keepCase_103 : decode cX12_keepCase 103 = .ok (.iconst 0, 1) := by decide +kernel
theorem dX12_keepCase_104 : decode cX12_keepCase 104 = .ok (.invokestatic 247, 3) := by decide +kernel
theorem dX12_keepCase_107 : decode cX12_keepCase 107 = .ok (.aload_n 0, 1) := by decide +kernel
theorem dX12_keepCase_108 : decode cX12_keepCase 108 = .ok (.getfield 49, 3) := by decide +kernel
theorem dX12_keepCase_111 : decode cX12_keepCase 111 = .ok (.iconst 0, 1) := by decide +kernel
theorem dX12_keepCase_112 : decode cX12_keepCase 112 = .ok (.iaload, 1) := by decide +kernel
theorem dX12_keepCase_113 : decode cX12_keepCase 113 = .ok (.aload_n 0, 1) := by decide +kernel
theorem dX12_keepCase_114 : decode cX12_keepCase 114 = .ok (.getfield 22, 3) := by decide +kernel
theorem dX12_keepCase_117 : decode cX12_keepCase 117 = .ok (.iconst 0, 1) := by decide +kernel
theorem dX12_keepCase_118 : decode cX12_keepCase 118 = .ok (.iaload, 1) := by decide +kernel
theorem dX12_keepCase_119 : decode cX12_keepCase 119 = .ok (.if_icmp .lt 17, 3) := by decide +kernel
theorem dX12_keepCase_122 : decode cX12_keepCase 122 = .ok (.aload_n 0, 1) := by decide +kernel
theorem dX12_keepCase_123 : decode cX12_keepCase 123 = .ok (.getfield 38, 3) := by decide +kernel
theorem dX12_keepCase_126 : decode cX12_keepCase 126 = .ok (.bipush 80, 2) := by decide +kernel
theorem dX12_keepCase_128 : decode cX12_keepCase 128 = .ok (.aload_n 0, 1) := by decide +kernel
theorem dX12_keepCase_129 : decode cX12_keepCase 129 = .ok (.getfield 72, 3) := by decide +kernel
theorem dX12_keepCase_132 : decode cX12_keepCase 132 = .ok (.iconst 0, 1) := by decide +kernel
theorem dX12_keepCase_133 : decode cX12_keepCase 133 = .ok (.invokestatic 247, 3) := by decide +kernel
theorem dX12_keepCase_136 : decode cX12_keepCase 136 = .ok (.return_, 1) := by decide +kernel
theorem dX12_caseAt_0 : decode cX12_caseAt 0 = .ok (.aload_n 0, 1) := by decide +kernel
theorem dX12_caseAt_1 : decode cX12_caseAt 1 = .ok (.getfield 228, 3) := by decide +kernel
theorem dX12_caseAt_4 : decode cX12_caseAt 4 = .ok (.ifCond .ne 6, 3) := by decide +kernel
theorem dX12_caseAt_7 : decode cX12_caseAt 7 = .ok (.bipush (-3), 2) := by decide +kernel
theorem dX12_caseAt_9 : decode cX12_caseAt 9 = .ok (.ireturn, 1) := by decide +kernel
theorem dX12_caseAt_10 : decode cX12_caseAt 10 = .ok (.iload_n 1, 1) := by decide +kernel
theorem dX12_caseAt_11 : decode cX12_caseAt 11 = .ok (.i2l, 1) := by decide +kernel
theorem dX12_caseAt_12 : decode cX12_caseAt 12 = .ok (.lconst 0, 1) := by decide +kernel
theorem dX12_caseAt_13 : decode cX12_caseAt 13 = .ok (.aload_n 0, 1) := by decide +kernel
theorem dX12_caseAt_14 : decode cX12_caseAt 14 = .ok (.getfield 228, 3) := by decide +kernel
theorem dX12_caseAt_17 : decode cX12_caseAt 17 = .ok (.iconst 1, 1) := by decide +kernel
theorem dX12_caseAt_18 : decode cX12_caseAt 18 = .ok (.isub, 1) := by decide +kernel
theorem dX12_caseAt_19 : decode cX12_caseAt 19 = .ok (.i2l, 1) := by decide +kernel
theorem dX12_caseAt_20 : decode cX12_caseAt 20 = .ok (.invokestatic 159, 3) := by decide +kernel
theorem dX12_caseAt_23 : decode cX12_caseAt 23 = .ok (.ifCond .eq 35, 3) := by decide +kernel
theorem dX12_caseAt_26 : decode cX12_caseAt 26 = .ok (.iload_n 2, 1) := by decide +kernel
theorem dX12_caseAt_27 : decode cX12_caseAt 27 = .ok (.i2l, 1) := by decide +kernel
theorem dX12_caseAt_28 : decode cX12_caseAt 28 = .ok (.lconst 0, 1) := by decide +kernel
theorem dX12_caseAt_29 : decode cX12_caseAt 29 = .ok (.aload_n 0, 1) := by decide +kernel
theorem dX12_caseAt_30 : decode cX12_caseAt 30 = .ok (.getfield 231, 3) := by decide +kernel
theorem dX12_caseAt_33 : decode cX12_caseAt 33 = .ok (.iconst 1, 1) := by decide +kernel
theorem dX12_caseAt_34 : decode cX12_caseAt 34 = .ok (.isub, 1) := by decide +kernel
theorem dX12_caseAt_35 : decode cX12_caseAt 35 = .ok (.i2l, 1) := by decide +kernel
theorem dX12_caseAt_36 : decode cX12_caseAt 36 = .ok (.invokestatic 159, 3) := by decide +kernel
theorem dX12_caseAt_39 : decode cX12_caseAt 39 = .ok (.ifCond .eq 19, 3) := by decide +kernel
theorem dX12_caseAt_42 : decode cX12_caseAt 42 = .ok (.iload_n 3, 1) := by decide +kernel
theorem dX12_caseAt_43 : decode cX12_caseAt 43 = .ok (.i2l, 1) := by decide +kernel
theorem dX12_caseAt_44 : decode cX12_caseAt 44 = .ok (.lconst 0, 1) := by decide +kernel
theorem dX12_caseAt_45 : decode cX12_caseAt 45 = .ok (.aload_n 0, 1) := by decide +kernel
theorem dX12_caseAt_46 : decode cX12_caseAt 46 = .ok (.getfield 234, 3) := by decide +kernel
theorem dX12_caseAt_49 : decode cX12_caseAt 49 = .ok (.iconst 1, 1) := by decide +kernel
theorem dX12_caseAt_50 : decode cX12_caseAt 50 = .ok (.isub, 1) := by decide +kernel
theorem dX12_caseAt_51 : decode cX12_caseAt 51 = .ok (.i2l, 1) := by decide +kernel
theorem dX12_caseAt_52 : decode cX12_caseAt 52 = .ok (.invokestatic 159, 3) := by decide +kernel
theorem dX12_caseAt_55 : decode cX12_caseAt 55 = .ok (.ifCond .ne 5, 3) := by decide +kernel
theorem dX12_caseAt_58 : decode cX12_caseAt 58 = .ok (.iconst (-1), 1) := by decide +kernel
theorem dX12_caseAt_59 : decode cX12_caseAt 59 = .ok (.ireturn, 1) := by decide +kernel
theorem dX12_caseAt_60 : decode cX12_caseAt 60 = .ok (.aload_n 0, 1) := by decide +kernel
theorem dX12_caseAt_61 : decode cX12_caseAt 61 = .ok (.getfield 62, 3) := by decide +kernel
theorem dX12_caseAt_64 : decode cX12_caseAt 64 = .ok (.bipush 25, 2) := by decide +kernel
theorem dX12_caseAt_66 : decode cX12_caseAt 66 = .ok (.iload_n 1, 1) := by decide +kernel
theorem dX12_caseAt_67 : decode cX12_caseAt 67 = .ok (.imul, 1) := by decide +kernel
theorem dX12_caseAt_68 : decode cX12_caseAt 68 = .ok (.aload_n 0, 1) := by decide +kernel
theorem dX12_caseAt_69 : decode cX12_caseAt 69 = .ok (.getfield 234, 3) := by decide +kernel
theorem dX12_caseAt_72 : decode cX12_caseAt 72 = .ok (.iload_n 2, 1) := by decide +kernel
theorem dX12_caseAt_73 : decode cX12_caseAt 73 = .ok (.imul, 1) := by decide +kernel
theorem dX12_caseAt_74 : decode cX12_caseAt 74 = .ok (.iadd, 1) := by decide +kernel
theorem dX12_caseAt_75 : decode cX12_caseAt 75 = .ok (.iload_n 3, 1) := by decide +kernel
theorem dX12_caseAt_76 : decode cX12_caseAt 76 = .ok (.iadd, 1) := by decide +kernel
theorem dX12_caseAt_77 : decode cX12_caseAt 77 = .ok (.baload, 1) := by decide +kernel
theorem dX12_caseAt_78 : decode cX12_caseAt 78 = .ok (.ireturn, 1) := by decide +kernel
theorem dX12_weighs_0 : decode cX12_weighs 0 = .ok (.aload_n 0, 1) := by decide +kernel
theorem dX12_weighs_1 : decode cX12_weighs 1 = .ok (.getfield 228, 3) := by decide +kernel
theorem dX12_weighs_4 : decode cX12_weighs 4 = .ok (.ifCond .ne 6, 3) := by decide +kernel
theorem dX12_weighs_7 : decode cX12_weighs 7 = .ok (.bipush (-30), 2) := by decide +kernel
theorem dX12_weighs_9 : decode cX12_weighs 9 = .ok (.ireturn, 1) := by decide +kernel
theorem dX12_weighs_10 : decode cX12_weighs 10 = .ok (.iload_n 1, 1) := by decide +kernel
theorem dX12_weighs_11 : decode cX12_weighs 11 = .ok (.i2l, 1) := by decide +kernel
theorem dX12_weighs_12 : decode cX12_weighs 12 = .ok (.lconst 0, 1) := by decide +kernel
theorem dX12_weighs_13 : decode cX12_weighs 13 = .ok (.aload_n 0, 1) := by decide +kernel
theorem dX12_weighs_14 : decode cX12_weighs 14 = .ok (.getfield 228, 3) := by decide +kernel
theorem dX12_weighs_17 : decode cX12_weighs 17 = .ok (.iconst 1, 1) := by decide +kernel
theorem dX12_weighs_18 : decode cX12_weighs 18 = .ok (.isub, 1) := by decide +kernel
theorem dX12_weighs_19 : decode cX12_weighs 19 = .ok (.i2l, 1) := by decide +kernel
theorem dX12_weighs_20 : decode cX12_weighs 20 = .ok (.invokestatic 159, 3) := by decide +kernel
theorem dX12_weighs_23 : decode cX12_weighs 23 = .ok (.ifCond .eq 12, 3) := by decide +kernel
theorem dX12_weighs_26 : decode cX12_weighs 26 = .ok (.aload_n 0, 1) := by decide +kernel
theorem dX12_weighs_27 : decode cX12_weighs 27 = .ok (.getfield 66, 3) := by decide +kernel
theorem dX12_weighs_30 : decode cX12_weighs 30 = .ok (.iload_n 1, 1) := by decide +kernel
theorem dX12_weighs_31 : decode cX12_weighs 31 = .ok (.baload, 1) := by decide +kernel
theorem dX12_weighs_32 : decode cX12_weighs 32 = .ok (.goto 5, 3) := by decide +kernel
theorem dX12_weighs_35 : decode cX12_weighs 35 = .ok (.bipush (-10), 2) := by decide +kernel
theorem dX12_weighs_37 : decode cX12_weighs 37 = .ok (.ireturn, 1) := by decide +kernel
theorem dX12_rankOf_0 : decode cX12_rankOf 0 = .ok (.iconst 0, 1) := by decide +kernel
theorem dX12_rankOf_1 : decode cX12_rankOf 1 = .ok (.istore_n 2, 1) := by decide +kernel
theorem dX12_rankOf_2 : decode cX12_rankOf 2 = .ok (.iconst 0, 1) := by decide +kernel
theorem dX12_rankOf_3 : decode cX12_rankOf 3 = .ok (.istore_n 3, 1) := by decide +kernel
theorem dX12_rankOf_4 : decode cX12_rankOf 4 = .ok (.iconst 0, 1) := by decide +kernel
theorem dX12_rankOf_5 : decode cX12_rankOf 5 = .ok (.istore 4, 2) := by decide +kernel
theorem dX12_rankOf_7 : decode cX12_rankOf 7 = .ok (.iload 4, 2) := by decide +kernel
theorem dX12_rankOf_9 : decode cX12_rankOf 9 = .ok (.aload_n 0, 1) := by decide +kernel
theorem dX12_rankOf_10 : decode cX12_rankOf 10 = .ok (.getfield 250, 3) := by decide +kernel
theorem dX12_rankOf_13 : decode cX12_rankOf 13 = .ok (.if_icmp .ge 47, 3) := by decide +kernel
theorem dX12_rankOf_16 : decode cX12_rankOf 16 = .ok (.iload_n 2, 1) := by decide +kernel
theorem dX12_rankOf_17 : decode cX12_rankOf 17 = .ok (.aload_n 0, 1) := by decide +kernel
theorem dX12_rankOf_18 : decode cX12_rankOf 18 = .ok (.getfield 81, 3) := by decide +kernel
theorem dX12_rankOf_21 : decode cX12_rankOf 21 = .ok (.iload 4, 2) := by decide +kernel
theorem dX12_rankOf_23 : decode cX12_rankOf 23 = .ok (.iaload, 1) := by decide +kernel
theorem dX12_rankOf_24 : decode cX12_rankOf 24 = .ok (.iload_n 1, 1) := by decide +kernel
theorem dX12_rankOf_25 : decode cX12_rankOf 25 = .ok (.if_icmp .ge 7, 3) := by decide +kernel
theorem dX12_rankOf_28 : decode cX12_rankOf 28 = .ok (.iconst 1, 1) := by decide +kernel
theorem dX12_rankOf_29 : decode cX12_rankOf 29 = .ok (.goto 4, 3) := by decide +kernel
theorem dX12_rankOf_32 : decode cX12_rankOf 32 = .ok (.iconst 0, 1) := by decide +kernel
theorem dX12_rankOf_33 : decode cX12_rankOf 33 = .ok (.iadd, 1) := by decide +kernel
theorem dX12_rankOf_34 : decode cX12_rankOf 34 = .ok (.istore_n 2, 1) := by decide +kernel
theorem dX12_rankOf_35 : decode cX12_rankOf 35 = .ok (.iload_n 3, 1) := by decide +kernel
theorem dX12_rankOf_36 : decode cX12_rankOf 36 = .ok (.aload_n 0, 1) := by decide +kernel
theorem dX12_rankOf_37 : decode cX12_rankOf 37 = .ok (.getfield 81, 3) := by decide +kernel
theorem dX12_rankOf_40 : decode cX12_rankOf 40 = .ok (.iload 4, 2) := by decide +kernel
theorem dX12_rankOf_42 : decode cX12_rankOf 42 = .ok (.iaload, 1) := by decide +kernel
theorem dX12_rankOf_43 : decode cX12_rankOf 43 = .ok (.iload_n 1, 1) := by decide +kernel
theorem dX12_rankOf_44 : decode cX12_rankOf 44 = .ok (.if_icmp .ne 7, 3) := by decide +kernel
theorem dX12_rankOf_47 : decode cX12_rankOf 47 = .ok (.iconst 1, 1) := by decide +kernel
theorem dX12_rankOf_48 : decode cX12_rankOf 48 = .ok (.goto 4, 3) := by decide +kernel
theorem dX12_rankOf_51 : decode cX12_rankOf 51 = .ok (.iconst 0, 1) := by decide +kernel
theorem dX12_rankOf_52 : decode cX12_rankOf 52 = .ok (.iadd, 1) := by decide +kernel
theorem dX12_rankOf_53 : decode cX12_rankOf 53 = .ok (.istore_n 3, 1) := by decide +kernel
theorem dX12_rankOf_54 : decode cX12_rankOf 54 = .ok (.iinc 4 1, 3) := by decide +kernel
theorem dX12_rankOf_57 : decode cX12_rankOf 57 = .ok (.goto (-50), 3) := by decide +kernel
theorem dX12_rankOf_60 : decode cX12_rankOf 60 = .ok (.iconst 2, 1) := by decide +kernel
theorem dX12_rankOf_61 : decode cX12_rankOf 61 = .ok (.iload_n 2, 1) := by decide +kernel
theorem dX12_rankOf_62 : decode cX12_rankOf 62 = .ok (.imul, 1) := by decide +kernel
theorem dX12_rankOf_63 : decode cX12_rankOf 63 = .ok (.iload_n 3, 1) := by decide +kernel
theorem dX12_rankOf_64 : decode cX12_rankOf 64 = .ok (.iadd, 1) := by decide +kernel
theorem dX12_rankOf_65 : decode cX12_rankOf 65 = .ok (.iconst 1, 1) := by decide +kernel
theorem dX12_rankOf_66 : decode cX12_rankOf 66 = .ok (.iadd, 1) := by decide +kernel
theorem dX12_rankOf_67 : decode cX12_rankOf 67 = .ok (.ireturn, 1) := by decide +kernel
theorem dX12_takeSamples_0 : decode cX12_takeSamples 0 = .ok (.aload_n 0, 1) := by decide +kernel
theorem dX12_takeSamples_1 : decode cX12_takeSamples 1 = .ok (.iconst 0, 1) := by decide +kernel
theorem dX12_takeSamples_2 : decode cX12_takeSamples 2 = .ok (.putfield 250, 3) := by decide +kernel
theorem dX12_takeSamples_5 : decode cX12_takeSamples 5 = .ok (.iconst 0, 1) := by decide +kernel
theorem dX12_takeSamples_6 : decode cX12_takeSamples 6 = .ok (.istore_n 1, 1) := by decide +kernel
theorem dX12_takeSamples_7 : decode cX12_takeSamples 7 = .ok (.iload_n 1, 1) := by decide +kernel
theorem dX12_takeSamples_8 : decode cX12_takeSamples 8 = .ok (.iconst 2, 1) := by decide +kernel
theorem dX12_takeSamples_9 : decode cX12_takeSamples 9 = .ok (.if_icmp .ge 57, 3) := by decide +kernel
theorem dX12_takeSamples_12 : decode cX12_takeSamples 12 = .ok (.iconst 0, 1) := by decide +kernel
theorem dX12_takeSamples_13 : decode cX12_takeSamples 13 = .ok (.istore_n 2, 1) := by decide +kernel
theorem dX12_takeSamples_14 : decode cX12_takeSamples 14 = .ok (.iload_n 2, 1) := by decide +kernel
theorem dX12_takeSamples_15 : decode cX12_takeSamples 15 = .ok (.aload_n 0, 1) := by decide +kernel
theorem dX12_takeSamples_16 : decode cX12_takeSamples 16 = .ok (.getfield 28, 3) := by decide +kernel
theorem dX12_takeSamples_19 : decode cX12_takeSamples 19 = .ok (.iload_n 1, 1) := by decide +kernel
theorem dX12_takeSamples_20 : decode cX12_takeSamples 20 = .ok (.iaload, 1) := by decide +kernel
theorem dX12_takeSamples_21 : decode cX12_takeSamples 21 = .ok (.if_icmp .ge 39, 3) := by decide +kernel
theorem dX12_takeSamples_24 : decode cX12_takeSamples 24 = .ok (.aload_n 0, 1) := by decide +kernel
theorem dX12_takeSamples_25 : decode cX12_takeSamples 25 = .ok (.getfield 81, 3) := by decide +kernel
theorem dX12_takeSamples_28 : decode cX12_takeSamples 28 = .ok (.aload_n 0, 1) := by decide +kernel
theorem dX12_takeSamples_29 : decode cX12_takeSamples 29 = .ok (.getfield 250, 3) := by decide +kernel
theorem dX12_takeSamples_32 : decode cX12_takeSamples 32 = .ok (.aload_n 0, 1) := by decide +kernel
theorem dX12_takeSamples_33 : decode cX12_takeSamples 33 = .ok (.getfield 25, 3) := by decide +kernel
theorem dX12_takeSamples_36 : decode cX12_takeSamples 36 = .ok (.bipush 15, 2) := by decide +kernel
theorem dX12_takeSamples_38 : decode cX12_takeSamples 38 = .ok (.iload_n 1, 1) := by decide +kernel
theorem dX12_takeSamples_39 : decode cX12_takeSamples 39 = .ok (.imul, 1) := by decide +kernel
theorem dX12_takeSamples_40 : decode cX12_takeSamples 40 = .ok (.iload_n 2, 1) := by decide +kernel
theorem dX12_takeSamples_41 : decode cX12_takeSamples 41 = .ok (.iadd, 1) := by decide +kernel
theorem dX12_takeSamples_42 : decode cX12_takeSamples 42 = .ok (.iaload, 1) := by decide +kernel
theorem dX12_takeSamples_43 : decode cX12_takeSamples 43 = .ok (.iastore, 1) := by decide +kernel
theorem dX12_takeSamples_44 : decode cX12_takeSamples 44 = .ok (.aload_n 0, 1) := by decide +kernel
theorem dX12_takeSamples_45 : decode cX12_takeSamples 45 = .ok (.dup, 1) := by decide +kernel
theorem dX12_takeSamples_46 : decode cX12_takeSamples 46 = .ok (.getfield 250, 3) := by decide +kernel
theorem dX12_takeSamples_49 : decode cX12_takeSamples 49 = .ok (.iconst 1, 1) := by decide +kernel
theorem dX12_takeSamples_50 : decode cX12_takeSamples 50 = .ok (.iadd, 1) := by decide +kernel
theorem dX12_takeSamples_51 : decode cX12_takeSamples 51 = .ok (.putfield 250, 3) := by decide +kernel
theorem dX12_takeSamples_54 : decode cX12_takeSamples 54 = .ok (.iinc 2 1, 3) := by decide +kernel
theorem dX12_takeSamples_57 : decode cX12_takeSamples 57 = .ok (.goto (-43), 3) := by decide +kernel
theorem dX12_takeSamples_60 : decode cX12_takeSamples 60 = .ok (.iinc 1 1, 3) := by decide +kernel
theorem dX12_takeSamples_63 : decode cX12_takeSamples 63 = .ok (.goto (-56), 3) := by decide +kernel
theorem dX12_takeSamples_66 : decode cX12_takeSamples 66 = .ok (.return_, 1) := by decide +kernel
theorem dX12_takeSizes_0 : decode cX12_takeSizes 0 = .ok (.aload_n 0, 1) := by decide +kernel
theorem dX12_takeSizes_1 : decode cX12_takeSizes 1 = .ok (.iconst 0, 1) := by decide +kernel
theorem dX12_takeSizes_2 : decode cX12_takeSizes 2 = .ok (.putfield 250, 3) := by decide +kernel
theorem dX12_takeSizes_5 : decode cX12_takeSizes 5 = .ok (.iconst 0, 1) := by decide +kernel
theorem dX12_takeSizes_6 : decode cX12_takeSizes 6 = .ok (.istore_n 1, 1) := by decide +kernel
theorem dX12_takeSizes_7 : decode cX12_takeSizes 7 = .ok (.iload_n 1, 1) := by decide +kernel
theorem dX12_takeSizes_8 : decode cX12_takeSizes 8 = .ok (.aload_n 0, 1) := by decide +kernel
theorem dX12_takeSizes_9 : decode cX12_takeSizes 9 = .ok (.getfield 181, 3) := by decide +kernel
theorem dX12_takeSizes_12 : decode cX12_takeSizes 12 = .ok (.if_icmp .ge 46, 3) := by decide +kernel
theorem dX12_takeSizes_15 : decode cX12_takeSizes 15 = .ok (.aload_n 0, 1) := by decide +kernel
theorem dX12_takeSizes_16 : decode cX12_takeSizes 16 = .ok (.getfield 31, 3) := by decide +kernel
theorem dX12_takeSizes_19 : decode cX12_takeSizes 19 = .ok (.iload_n 1, 1) := by decide +kernel
theorem dX12_takeSizes_20 : decode cX12_takeSizes 20 = .ok (.iaload, 1) := by decide +kernel
theorem dX12_takeSizes_21 : decode cX12_takeSizes 21 = .ok (.ifCond .eq 31, 3) := by decide +kernel
theorem dX12_takeSizes_24 : decode cX12_takeSizes 24 = .ok (.aload_n 0, 1) := by decide +kernel
theorem dX12_takeSizes_25 : decode cX12_takeSizes 25 = .ok (.getfield 81, 3) := by decide +kernel
theorem dX12_takeSizes_28 : decode cX12_takeSizes 28 = .ok (.aload_n 0, 1) := by decide +kernel
theorem dX12_takeSizes_29 : decode cX12_takeSizes 29 = .ok (.getfield 250, 3) := by decide +kernel
theorem dX12_takeSizes_32 : decode cX12_takeSizes 32 = .ok (.aload_n 0, 1) := by decide +kernel
theorem dX12_takeSizes_33 : decode cX12_takeSizes 33 = .ok (.getfield 31, 3) := by decide +kernel
theorem dX12_takeSizes_36 : decode cX12_takeSizes 36 = .ok (.iload_n 1, 1) := by decide +kernel
theorem dX12_takeSizes_37 : decode cX12_takeSizes 37 = .ok (.iaload, 1) := by decide +kernel
theorem dX12_takeSizes_38 : decode cX12_takeSizes 38 = .ok (.invokestatic 253, 3) := by decide +kernel
theorem dX12_takeSizes_41 : decode cX12_takeSizes 41 = .ok (.iastore, 1) := by decide +kernel
theorem dX12_takeSizes_42 : decode cX12_takeSizes 42 = .ok (.aload_n 0, 1) := by decide +kernel
theorem dX12_takeSizes_43 : decode cX12_takeSizes 43 = .ok (.dup, 1) := by decide +kernel
theorem dX12_takeSizes_44 : decode cX12_takeSizes 44 = .ok (.getfield 250, 3) := by decide +kernel
theorem dX12_takeSizes_47 : decode cX12_takeSizes 47 = .ok (.iconst 1, 1) := by decide +kernel
theorem dX12_takeSizes_48 : decode cX12_takeSizes 48 = .ok (.iadd, 1) := by decide +kernel
theorem dX12_takeSizes_49 : decode cX12_takeSizes 49 = .ok (.putfield 250, 3) := by decide +kernel
theorem dX12_takeSizes_52 : decode cX12_takeSizes 52 = .ok (.iinc 1 1, 3) := by decide +kernel
theorem dX12_takeSizes_55 : decode cX12_takeSizes 55 = .ok (.goto (-48), 3) := by decide +kernel
theorem dX12_takeSizes_58 : decode cX12_takeSizes 58 = .ok (.return_, 1) := by decide +kernel
theorem dX12_sizeOf_0 : decode cX12_sizeOf 0 = .ok (.iload_n 0, 1) := by decide +kernel
theorem dX12_sizeOf_1 : decode cX12_sizeOf 1 = .ok (.ifCond .ge 8, 3) := by decide +kernel
theorem dX12_sizeOf_4 : decode cX12_sizeOf 4 = .ok (.iload_n 0, 1) := by decide +kernel
theorem dX12_sizeOf_5 : decode cX12_sizeOf 5 = .ok (.ineg, 1) := by decide +kernel
theorem dX12_sizeOf_6 : decode cX12_sizeOf 6 = .ok (.goto 4, 3) := by decide +kernel
theorem dX12_sizeOf_9 : decode cX12_sizeOf 9 = .ok (.iload_n 0, 1) := by decide +kernel
theorem dX12_sizeOf_10 : decode cX12_sizeOf 10 = .ok (.ireturn, 1) := by decide +kernel
theorem dX12_rank_0 : decode cX12_rank 0 = .ok (.iload_n 1, 1) := by decide +kernel
theorem dX12_rank_1 : decode cX12_rank 1 = .ok (.i2l, 1) := by decide +kernel
theorem dX12_rank_2 : decode cX12_rank 2 = .ok (.lconst 0, 1) := by decide +kernel
theorem dX12_rank_3 : decode cX12_rank 3 = .ok (.ldc2_w 256, 3) := by decide +kernel
theorem dX12_rank_6 : decode cX12_rank 6 = .ok (.invokestatic 159, 3) := by decide +kernel
theorem dX12_rank_9 : decode cX12_rank 9 = .ok (.ifCond .eq 33, 3) := by decide +kernel
theorem dX12_rank_12 : decode cX12_rank 12 = .ok (.iload_n 2, 1) := by decide +kernel
theorem dX12_rank_13 : decode cX12_rank 13 = .ok (.i2l, 1) := by decide +kernel
theorem dX12_rank_14 : decode cX12_rank 14 = .ok (.lconst 0, 1) := by decide +kernel
theorem dX12_rank_15 : decode cX12_rank 15 = .ok (.iload_n 1, 1) := by decide +kernel
theorem dX12_rank_16 : decode cX12_rank 16 = .ok (.iconst 2, 1) := by decide +kernel
theorem dX12_rank_17 : decode cX12_rank 17 = .ok (.if_icmp .ne 10, 3) := by decide +kernel
theorem dX12_rank_20 : decode cX12_rank 20 = .ok (.aload_n 0, 1) := by decide +kernel
theorem dX12_rank_21 : decode cX12_rank 21 = .ok (.getfield 181, 3) := by decide +kernel
theorem dX12_rank_24 : decode cX12_rank 24 = .ok (.goto 9, 3) := by decide +kernel
theorem dX12_rank_27 : decode cX12_rank 27 = .ok (.aload_n 0, 1) := by decide +kernel
theorem dX12_rank_28 : decode cX12_rank 28 = .ok (.getfield 28, 3) := by decide +kernel
theorem dX12_rank_31 : decode cX12_rank 31 = .ok (.iload_n 1, 1) := by decide +kernel
theorem dX12_rank_32 : decode cX12_rank 32 = .ok (.iaload, 1) := by decide +kernel
theorem dX12_rank_33 : decode cX12_rank 33 = .ok (.iconst 1, 1) := by decide +kernel
theorem dX12_rank_34 : decode cX12_rank 34 = .ok (.isub, 1) := by decide +kernel
theorem dX12_rank_35 : decode cX12_rank 35 = .ok (.i2l, 1) := by decide +kernel
theorem dX12_rank_36 : decode cX12_rank 36 = .ok (.invokestatic 159, 3) := by decide +kernel
theorem dX12_rank_39 : decode cX12_rank 39 = .ok (.ifCond .ne 5, 3) := by decide +kernel
theorem dX12_rank_42 : decode cX12_rank 42 = .ok (.iconst (-1), 1) := by decide +kernel
theorem dX12_rank_43 : decode cX12_rank 43 = .ok (.ireturn, 1) := by decide +kernel
theorem dX12_rank_44 : decode cX12_rank 44 = .ok (.iload_n 1, 1) := by decide +kernel
theorem dX12_rank_45 : decode cX12_rank 45 = .ok (.iconst 2, 1) := by decide +kernel
theorem dX12_rank_46 : decode cX12_rank 46 = .ok (.if_icmp .ne 34, 3) := by decide +kernel
theorem dX12_rank_49 : decode cX12_rank 49 = .ok (.aload_n 0, 1) := by decide +kernel
theorem dX12_rank_50 : decode cX12_rank 50 = .ok (.invokevirtual 258, 3) := by decide +kernel
theorem dX12_rank_53 : decode cX12_rank 53 = .ok (.aload_n 0, 1) := by decide +kernel
theorem dX12_rank_54 : decode cX12_rank 54 = .ok (.getfield 31, 3) := by decide +kernel
theorem dX12_rank_57 : decode cX12_rank 57 = .ok (.iload_n 2, 1) := by decide +kernel
theorem dX12_rank_58 : decode cX12_rank 58 = .ok (.iaload, 1) := by decide +kernel
theorem dX12_rank_59 : decode cX12_rank 59 = .ok (.ifCond .ne 7, 3) := by decide +kernel
theorem dX12_rank_62 : decode cX12_rank 62 = .ok (.iconst 0, 1) := by decide +kernel
theorem dX12_rank_63 : decode cX12_rank 63 = .ok (.goto 16, 3) := by decide +kernel
theorem dX12_rank_66 : decode cX12_rank 66 = .ok (.aload_n 0, 1) := by decide +kernel
theorem dX12_rank_67 : decode cX12_rank 67 = .ok (.aload_n 0, 1) := by decide +kernel
theorem dX12_rank_68 : decode cX12_rank 68 = .ok (.getfield 31, 3) := by decide +kernel
theorem dX12_rank_71 : decode cX12_rank 71 = .ok (.iload_n 2, 1) := by decide +kernel
theorem dX12_rank_72 : decode cX12_rank 72 = .ok (.iaload, 1) := by decide +kernel
theorem dX12_rank_73 : decode cX12_rank 73 = .ok (.invokestatic 253, 3) := by decide +kernel
theorem dX12_rank_76 : decode cX12_rank 76 = .ok (.invokevirtual 261, 3) := by decide +kernel
theorem dX12_rank_79 : decode cX12_rank 79 = .ok (.ireturn, 1) := by decide +kernel
theorem dX12_rank_80 : decode cX12_rank 80 = .ok (.aload_n 0, 1) := by decide +kernel
theorem dX12_rank_81 : decode cX12_rank 81 = .ok (.invokevirtual 264, 3) := by decide +kernel
theorem dX12_rank_84 : decode cX12_rank 84 = .ok (.aload_n 0, 1) := by decide +kernel
theorem dX12_rank_85 : decode cX12_rank 85 = .ok (.aload_n 0, 1) := by decide +kernel
theorem dX12_rank_86 : decode cX12_rank 86 = .ok (.getfield 25, 3) := by decide +kernel
theorem dX12_rank_89 : decode cX12_rank 89 = .ok (.bipush 15, 2) := by decide +kernel
theorem dX12_rank_91 : decode cX12_rank 91 = .ok (.iload_n 1, 1) := by decide +kernel
theorem dX12_rank_92 : decode cX12_rank 92 = .ok (.imul, 1) := by decide +kernel
theorem dX12_rank_93 : decode cX12_rank 93 = .ok (.iload_n 2, 1) := by decide +kernel
theorem dX12_rank_94 : decode cX12_rank 94 = .ok (.iadd, 1) := by decide +kernel
theorem dX12_rank_95 : decode cX12_rank 95 = .ok (.iaload, 1) := by decide +kernel
theorem dX12_rank_96 : decode cX12_rank 96 = .ok (.invokevirtual 261, 3) := by decide +kernel
theorem dX12_rank_99 : decode cX12_rank 99 = .ok (.ireturn, 1) := by decide +kernel
theorem dX12_labels_0 : decode cX12_labels 0 = .ok (.iload_n 1, 1) := by decide +kernel
theorem dX12_labels_1 : decode cX12_labels 1 = .ok (.i2l, 1) := by decide +kernel
theorem dX12_labels_2 : decode cX12_labels 2 = .ok (.lconst 0, 1) := by decide +kernel
theorem dX12_labels_3 : decode cX12_labels 3 = .ok (.lconst 1, 1) := by decide +kernel
theorem dX12_labels_4 : decode cX12_labels 4 = .ok (.invokestatic 159, 3) := by decide +kernel
theorem dX12_labels_7 : decode cX12_labels 7 = .ok (.ifCond .ne 7, 3) := by decide +kernel
theorem dX12_labels_10 : decode cX12_labels 10 = .ok (.ldc_w 267, 3) := by decide +kernel
theorem dX12_labels_13 : decode cX12_labels 13 = .ok (.ireturn, 1) := by decide +kernel
theorem dX12_labels_14 : decode cX12_labels 14 = .ok (.aload_n 0, 1) := by decide +kernel
theorem dX12_labels_15 : decode cX12_labels 15 = .ok (.getfield 28, 3) := by decide +kernel
theorem dX12_labels_18 : decode cX12_labels 18 = .ok (.iconst 0, 1) := by decide +kernel
theorem dX12_labels_19 : decode cX12_labels 19 = .ok (.iaload, 1) := by decide +kernel
theorem dX12_labels_20 : decode cX12_labels 20 = .ok (.ifCond .eq 12, 3) := by decide +kernel
theorem dX12_labels_23 : decode cX12_labels 23 = .ok (.aload_n 0, 1) := by decide +kernel
theorem dX12_labels_24 : decode cX12_labels 24 = .ok (.getfield 28, 3) := by decide +kernel
theorem dX12_labels_27 : decode cX12_labels 27 = .ok (.iconst 1, 1) := by decide +kernel
theorem dX12_labels_28 : decode cX12_labels 28 = .ok (.iaload, 1) := by decide +kernel
theorem dX12_labels_29 : decode cX12_labels 29 = .ok (.ifCond .ne 7, 3) := by decide +kernel
theorem dX12_labels_32 : decode cX12_labels 32 = .ok (.ldc_w 268, 3) := by decide +kernel
theorem dX12_labels_35 : decode cX12_labels 35 = .ok (.ireturn, 1) := by decide +kernel
theorem dX12_labels_36 : decode cX12_labels 36 = .ok (.aload_n 0, 1) := by decide +kernel
theorem dX12_labels_37 : decode cX12_labels 37 = .ok (.invokevirtual 264, 3) := by decide +kernel
theorem dX12_labels_40 : decode cX12_labels 40 = .ok (.aload_n 0, 1) := by decide +kernel
theorem dX12_labels_41 : decode cX12_labels 41 = .ok (.getfield 250, 3) := by decide +kernel
theorem dX12_labels_44 : decode cX12_labels 44 = .ok (.istore_n 2, 1) := by decide +kernel
theorem dX12_labels_45 : decode cX12_labels 45 = .ok (.aload_n 0, 1) := by decide +kernel
theorem dX12_labels_46 : decode cX12_labels 46 = .ok (.getfield 28, 3) := by decide +kernel
theorem dX12_labels_49 : decode cX12_labels 49 = .ok (.iconst 0, 1) := by decide +kernel
theorem dX12_labels_50 : decode cX12_labels 50 = .ok (.iaload, 1) := by decide +kernel
theorem dX12_labels_51 : decode cX12_labels 51 = .ok (.istore_n 3, 1) := by decide +kernel
theorem dX12_labels_52 : decode cX12_labels 52 = .ok (.iload_n 1, 1) := by decide +kernel
theorem dX12_labels_53 : decode cX12_labels 53 = .ok (.ifCond .ne 9, 3) := by decide +kernel
theorem dX12_labels_56 : decode cX12_labels 56 = .ok (.sipush (-1000), 3) := by decide +kernel
theorem dX12_labels_59 : decode cX12_labels 59 = .ok (.goto 4, 3) := by decide +kernel
theorem dX12_labels_62 : decode cX12_labels 62 = .ok (.iconst 0, 1) := by decide +kernel
theorem dX12_labels_63 : decode cX12_labels 63 = .ok (.istore 4, 2) := by decide +kernel
theorem dX12_labels_65 : decode cX12_labels 65 = .ok (.iconst 0, 1) := by decide +kernel
theorem dX12_labels_66 : decode cX12_labels 66 = .ok (.istore 5, 2) := by decide +kernel
theorem dX12_labels_68 : decode cX12_labels 68 = .ok (.iconst 0, 1) := by decide +kernel
theorem dX12_labels_69 : decode cX12_labels 69 = .ok (.istore 6, 2) := by decide +kernel
theorem dX12_labels_71 : decode cX12_labels 71 = .ok (.iconst 0, 1) := by decide +kernel
theorem dX12_labels_72 : decode cX12_labels 72 = .ok (.istore 7, 2) := by decide +kernel
theorem dX12_labels_74 : decode cX12_labels 74 = .ok (.iload 7, 2) := by decide +kernel
theorem dX12_labels_76 : decode cX12_labels 76 = .ok (.iload_n 2, 1) := by decide +kernel
theorem dX12_labels_77 : decode cX12_labels 77 = .ok (.if_icmp .ge 72, 3) := by decide +kernel
theorem dX12_labels_80 : decode cX12_labels 80 = .ok (.iload_n 1, 1) := by decide +kernel
theorem dX12_labels_81 : decode cX12_labels 81 = .ok (.ifCond .ne 13, 3) := by decide +kernel
theorem dX12_labels_84 : decode cX12_labels 84 = .ok (.aload_n 0, 1) := by decide +kernel
theorem dX12_labels_85 : decode cX12_labels 85 = .ok (.getfield 81, 3) := by decide +kernel
theorem dX12_labels_88 : decode cX12_labels 88 = .ok (.iload 7, 2) := by decide +kernel
theorem dX12_labels_90 : decode cX12_labels 90 = .ok (.iaload, 1) := by decide +kernel
theorem dX12_labels_91 : decode cX12_labels 91 = .ok (.goto 14, 3) := by decide +kernel
theorem dX12_labels_94 : decode cX12_labels 94 = .ok (.aload_n 0, 1) := by decide +kernel
theorem dX12_labels_95 : decode cX12_labels 95 = .ok (.aload_n 0, 1) := by decide +kernel
theorem dX12_labels_96 : decode cX12_labels 96 = .ok (.getfield 81, 3) := by decide +kernel
theorem dX12_labels_99 : decode cX12_labels 99 = .ok (.iload 7, 2) := by decide +kernel
theorem dX12_labels_101 : decode cX12_labels 101 = .ok (.iaload, 1) := by decide +kernel
theorem dX12_labels_102 : decode cX12_labels 102 = .ok (.invokevirtual 261, 3) := by decide +kernel
theorem dX12_labels_105 : decode cX12_labels 105 = .ok (.istore 8, 2) := by decide +kernel
theorem dX12_labels_107 : decode cX12_labels 107 = .ok (.aload_n 0, 1) := by decide +kernel
theorem dX12_labels_108 : decode cX12_labels 108 = .ok (.getfield 84, 3) := by decide +kernel
theorem dX12_labels_111 : decode cX12_labels 111 = .ok (.iload 7, 2) := by decide +kernel
theorem dX12_labels_113 : decode cX12_labels 113 = .ok (.iload 8, 2) := by decide +kernel
theorem dX12_labels_115 : decode cX12_labels 115 = .ok (.iload 4, 2) := by decide +kernel
theorem dX12_labels_117 : decode cX12_labels 117 = .ok (.isub, 1) := by decide +kernel
theorem dX12_labels_118 : decode cX12_labels 118 = .ok (.iastore, 1) := by decide +kernel
theorem dX12_labels_119 : decode cX12_labels 119 = .ok (.iload 5, 2) := by decide +kernel
theorem dX12_labels_121 : decode cX12_labels 121 = .ok (.iload 8, 2) := by decide +kernel
theorem dX12_labels_123 : decode cX12_labels 123 = .ok (.iadd, 1) := by decide +kernel
theorem dX12_labels_124 : decode cX12_labels 124 = .ok (.istore 5, 2) := by decide +kernel
theorem dX12_labels_126 : decode cX12_labels 126 = .ok (.iload 6, 2) := by decide +kernel
theorem dX12_labels_128 : decode cX12_labels 128 = .ok (.iload 7, 2) := by decide +kernel
theorem dX12_labels_130 : decode cX12_labels 130 = .ok (.iload_n 3, 1) := by decide +kernel
theorem dX12_labels_131 : decode cX12_labels 131 = .ok (.if_icmp .ge 8, 3) := by decide +kernel
theorem dX12_labels_134 : decode cX12_labels 134 = .ok (.iload 8, 2) := by decide +kernel
theorem dX12_labels_136 : decode cX12_labels 136 = .ok (.goto 4, 3) := by decide +kernel
theorem dX12_labels_139 : decode cX12_labels 139 = .ok (.iconst 0, 1) := by decide +kernel
theorem dX12_labels_140 : decode cX12_labels 140 = .ok (.iadd, 1) := by decide +kernel
theorem dX12_labels_141 : decode cX12_labels 141 = .ok (.istore 6, 2) := by decide +kernel
theorem dX12_labels_143 : decode cX12_labels 143 = .ok (.iinc 7 1, 3) := by decide +kernel
theorem dX12_labels_146 : decode cX12_labels 146 = .ok (.goto (-72), 3) := by decide +kernel
theorem dX12_labels_149 : decode cX12_labels 149 = .ok (.aload_n 0, 1) := by decide +kernel
theorem dX12_labels_150 : decode cX12_labels 150 = .ok (.iload_n 2, 1) := by decide +kernel
theorem dX12_labels_151 : decode cX12_labels 151 = .ok (.iload_n 3, 1) := by decide +kernel
theorem dX12_labels_152 : decode cX12_labels 152 = .ok (.invokevirtual 269, 3) := by decide +kernel
theorem dX12_labels_155 : decode cX12_labels 155 = .ok (.aload_n 0, 1) := by decide +kernel
theorem dX12_labels_156 : decode cX12_labels 156 = .ok (.sipush 30001, 3) := by decide +kernel
theorem dX12_labels_159 : decode cX12_labels 159 = .ok (.putfield 273, 3) := by decide +kernel
theorem dX12_labels_162 : decode cX12_labels 162 = .ok (.aload_n 0, 1) := by decide +kernel
theorem dX12_labels_163 : decode cX12_labels 163 = .ok (.iload 4, 2) := by decide +kernel
theorem dX12_labels_165 : decode cX12_labels 165 = .ok (.iload_n 3, 1) := by decide +kernel
theorem dX12_labels_166 : decode cX12_labels 166 = .ok (.imul, 1) := by decide +kernel
theorem dX12_labels_167 : decode cX12_labels 167 = .ok (.putfield 276, 3) := by decide +kernel
theorem dX12_labels_170 : decode cX12_labels 170 = .ok (.iconst 0, 1) := by decide +kernel
theorem dX12_labels_171 : decode cX12_labels 171 = .ok (.istore 7, 2) := by decide +kernel
theorem dX12_labels_173 : decode cX12_labels 173 = .ok (.iload 7, 2) := by decide +kernel
theorem dX12_labels_175 : decode cX12_labels 175 = .ok (.aload_n 0, 1) := by decide +kernel
theorem dX12_labels_176 : decode cX12_labels 176 = .ok (.getfield 273, 3) := by decide +kernel
theorem dX12_labels_179 : decode cX12_labels 179 = .ok (.if_icmp .ge 29, 3) := by decide +kernel
theorem dX12_labels_182 : decode cX12_labels 182 = .ok (.aload_n 0, 1) := by decide +kernel
theorem dX12_labels_183 : decode cX12_labels 183 = .ok (.getfield 45, 3) := by decide +kernel
theorem dX12_labels_186 : decode cX12_labels 186 = .ok (.iload 7, 2) := by decide +kernel
theorem dX12_labels_188 : decode cX12_labels 188 = .ok (.aload_n 0, 1) := by decide +kernel
theorem dX12_labels_189 : decode cX12_labels 189 = .ok (.getfield 88, 3) := by decide +kernel
theorem dX12_labels_192 : decode cX12_labels 192 = .ok (.sipush 30001, 3) := by decide +kernel
theorem dX12_labels_195 : decode cX12_labels 195 = .ok (.iload_n 3, 1) := by decide +kernel
theorem dX12_labels_196 : decode cX12_labels 196 = .ok (.imul, 1) := by decide +kernel
theorem dX12_labels_197 : decode cX12_labels 197 = .ok (.iload 7, 2) := by decide +kernel
theorem dX12_labels_199 : decode cX12_labels 199 = .ok (.iadd, 1) := by decide +kernel
theorem dX12_labels_200 : decode cX12_labels 200 = .ok (.laload, 1) := by decide +kernel
theorem dX12_labels_201 : decode cX12_labels 201 = .ok (.lastore, 1) := by decide +kernel
theorem dX12_labels_202 : decode cX12_labels 202 = .ok (.iinc 7 1, 3) := by decide +kernel
theorem dX12_labels_205 : decode cX12_labels 205 = .ok (.goto (-32), 3) := by decide +kernel
theorem dX12_labels_208 : decode cX12_labels 208 = .ok (.aload_n 0, 1) := by decide +kernel
theorem dX12_labels_209 : decode cX12_labels 209 = .ok (.iconst 1, 1) := by decide +kernel
theorem dX12_labels_210 : decode cX12_labels 210 = .ok (.iload_n 1, 1) := by decide +kernel
theorem dX12_labels_211 : decode cX12_labels 211 = .ok (.iadd, 1) := by decide +kernel
theorem dX12_labels_212 : decode cX12_labels 212 = .ok (.putfield 34, 3) := by decide +kernel
theorem dX12_labels_215 : decode cX12_labels 215 = .ok (.aload_n 0, 1) := by decide +kernel
theorem dX12_labels_216 : decode cX12_labels 216 = .ok (.iload 6, 2) := by decide +kernel
theorem dX12_labels_218 : decode cX12_labels 218 = .ok (.putfield 237, 3) := by decide +kernel
theorem dX12_labels_221 : decode cX12_labels 221 = .ok (.aload_n 0, 1) := by decide +kernel
theorem dX12_labels_222 : decode cX12_labels 222 = .ok (.iload_n 2, 1) := by decide +kernel
theorem dX12_labels_223 : decode cX12_labels 223 = .ok (.putfield 240, 3) := by decide +kernel
theorem dX12_labels_226 : decode cX12_labels 226 = .ok (.aload_n 0, 1) := by decide +kernel
theorem dX12_labels_227 : decode cX12_labels 227 = .ok (.iload_n 2, 1) := by decide +kernel
theorem dX12_labels_228 : decode cX12_labels 228 = .ok (.iload_n 3, 1) := by decide +kernel
theorem dX12_labels_229 : decode cX12_labels 229 = .ok (.iload 5, 2) := by decide +kernel
theorem dX12_labels_231 : decode cX12_labels 231 = .ok (.imul, 1) := by decide +kernel
theorem dX12_labels_232 : decode cX12_labels 232 = .ok (.invokevirtual 279, 3) := by decide +kernel
theorem dX12_labels_235 : decode cX12_labels 235 = .ok (.iload 6, 2) := by decide +kernel
theorem dX12_labels_237 : decode cX12_labels 237 = .ok (.ireturn, 1) := by decide +kernel
theorem dX12_countWays_0 : decode cX12_countWays 0 = .ok (.iconst 0, 1) := by decide +kernel
theorem dX12_countWays_1 : decode cX12_countWays 1 = .ok (.istore_n 3, 1) := by decide +kernel
theorem dX12_countWays_2 : decode cX12_countWays 2 = .ok (.iload_n 3, 1) := by decide +kernel
theorem dX12_countWays_3 : decode cX12_countWays 3 = .ok (.ldc 87, 2) := by decide +kernel
theorem dX12_countWays_5 : decode cX12_countWays 5 = .ok (.if_icmp .ge 16, 3) := by decide +kernel
theorem dX12_countWays_8 : decode cX12_countWays 8 = .ok (.aload_n 0, 1) := by decide +kernel
theorem dX12_countWays_9 : decode cX12_countWays 9 = .ok (.getfield 88, 3) := by decide +kernel
theorem dX12_countWays_12 : decode cX12_countWays 12 = .ok (.iload_n 3, 1) := by decide +kernel
theorem dX12_countWays_13 : decode cX12_countWays 13 = .ok (.lconst 0, 1) := by decide +kernel
theorem dX12_countWays_14 : decode cX12_countWays 14 = .ok (.lastore, 1) := by decide +kernel
theorem dX12_countWays_15 : decode cX12_countWays 15 = .ok (.iinc 3 1, 3) := by decide +kernel
theorem dX12_countWays_18 : decode cX12_countWays 18 = .ok (.goto (-16), 3) := by decide +kernel
theorem dX12_countWays_21 : decode cX12_countWays 21 = .ok (.aload_n 0, 1) := by decide +kernel
theorem dX12_countWays_22 : decode cX12_countWays 22 = .ok (.getfield 88, 3) := by decide +kernel
theorem dX12_countWays_25 : decode cX12_countWays 25 = .ok (.iconst 0, 1) := by decide +kernel
theorem dX12_countWays_26 : decode cX12_countWays 26 = .ok (.lconst 1, 1) := by decide +kernel
theorem dX12_countWays_27 : decode cX12_countWays 27 = .ok (.lastore, 1) := by decide +kernel
theorem dX12_countWays_28 : decode cX12_countWays 28 = .ok (.iconst 0, 1) := by decide +kernel
theorem dX12_countWays_29 : decode cX12_countWays 29 = .ok (.istore_n 3, 1) := by decide +kernel
theorem dX12_countWays_30 : decode cX12_countWays 30 = .ok (.iload_n 3, 1) := by decide +kernel
theorem dX12_countWays_31 : decode cX12_countWays 31 = .ok (.iload_n 1, 1) := by decide +kernel
theorem dX12_countWays_32 : decode cX12_countWays 32 = .ok (.if_icmp .ge 125, 3) := by decide +kernel
theorem dX12_countWays_35 : decode cX12_countWays 35 = .ok (.aload_n 0, 1) := by decide +kernel
theorem dX12_countWays_36 : decode cX12_countWays 36 = .ok (.getfield 84, 3) := by decide +kernel
theorem dX12_countWays_39 : decode cX12_countWays 39 = .ok (.iload_n 3, 1) := by decide +kernel
theorem dX12_countWays_40 : decode cX12_countWays 40 = .ok (.iaload, 1) := by decide +kernel
theorem dX12_countWays_41 : decode cX12_countWays 41 = .ok (.istore 4, 2) := by decide +kernel
theorem dX12_countWays_43 : decode cX12_countWays 43 = .ok (.iload_n 2, 1) := by decide +kernel
theorem dX12_countWays_44 : decode cX12_countWays 44 = .ok (.iconst 1, 1) := by decide +kernel
theorem dX12_countWays_45 : decode cX12_countWays 45 = .ok (.isub, 1) := by decide +kernel
theorem dX12_countWays_46 : decode cX12_countWays 46 = .ok (.istore 5, 2) := by decide +kernel
theorem dX12_countWays_48 : decode cX12_countWays 48 = .ok (.iload 5, 2) := by decide +kernel
theorem dX12_countWays_50 : decode cX12_countWays 50 = .ok (.ifCond .lt 101, 3) := by decide +kernel
theorem dX12_countWays_53 : decode cX12_countWays 53 = .ok (.sipush 2000, 3) := by decide +kernel
theorem dX12_countWays_56 : decode cX12_countWays 56 = .ok (.iload 5, 2) := by decide +kernel
theorem dX12_countWays_58 : decode cX12_countWays 58 = .ok (.imul, 1) := by decide +kernel
theorem dX12_countWays_59 : decode cX12_countWays 59 = .ok (.sipush 30000, 3) := by decide +kernel
theorem dX12_countWays_62 : decode cX12_countWays 62 = .ok (.if_icmp .ge 12, 3) := by decide +kernel
theorem dX12_countWays_65 : decode cX12_countWays 65 = .ok (.sipush 2000, 3) := by decide +kernel
theorem dX12_countWays_68 : decode cX12_countWays 68 = .ok (.iload 5, 2) := by decide +kernel
theorem dX12_countWays_70 : decode cX12_countWays 70 = .ok (.imul, 1) := by decide +kernel
theorem dX12_countWays_71 : decode cX12_countWays 71 = .ok (.goto 6, 3) := by decide +kernel
theorem dX12_countWays_74 : decode cX12_countWays 74 = .ok (.sipush 30000, 3) := by decide +kernel
theorem dX12_countWays_77 : decode cX12_countWays 77 = .ok (.istore 6, 2) := by decide +kernel
theorem dX12_countWays_79 : decode cX12_countWays 79 = .ok (.iload 6, 2) := by decide +kernel
theorem dX12_countWays_81 : decode cX12_countWays 81 = .ok (.ifCond .lt 64, 3) := by decide +kernel
theorem dX12_countWays_84 : decode cX12_countWays 84 = .ok (.aload_n 0, 1) := by decide +kernel
theorem dX12_countWays_85 : decode cX12_countWays 85 = .ok (.getfield 88, 3) := by decide +kernel
theorem dX12_countWays_88 : decode cX12_countWays 88 = .ok (.sipush 30001, 3) := by decide +kernel
theorem dX12_countWays_91 : decode cX12_countWays 91 = .ok (.iload 5, 2) := by decide +kernel
theorem dX12_countWays_93 : decode cX12_countWays 93 = .ok (.imul, 1) := by decide +kernel
theorem dX12_countWays_94 : decode cX12_countWays 94 = .ok (.iload 6, 2) := by decide +kernel
theorem dX12_countWays_96 : decode cX12_countWays 96 = .ok (.iadd, 1) := by decide +kernel
theorem dX12_countWays_97 : decode cX12_countWays 97 = .ok (.laload, 1) := by decide +kernel
theorem dX12_countWays_98 : decode cX12_countWays 98 = .ok (.lconst 0, 1) := by decide +kernel
theorem dX12_countWays_99 : decode cX12_countWays 99 = .ok (.lcmp, 1) := by decide +kernel
theorem dX12_countWays_100 : decode cX12_countWays 100 = .ok (.ifCond .le 39, 3) := by decide +kernel
theorem dX12_countWays_103 : decode cX12_countWays 103 = .ok (.aload_n 0, 1) := by decide +kernel
theorem dX12_countWays_104 : decode cX12_countWays 104 = .ok (.getfield 88, 3) := by decide +kernel
theorem dX12_countWays_107 : decode cX12_countWays 107 = .ok (.sipush 30001, 3) := by decide +kernel
theorem dX12_countWays_110 : decode cX12_countWays 110 = .ok (.iload 5, 2) := by decide +kernel
theorem dX12_countWays_112 : decode cX12_countWays 112 = .ok (.iconst 1, 1) := by decide +kernel
theorem dX12_countWays_113 : decode cX12_countWays 113 = .ok (.iadd, 1) := by decide +kernel
theorem dX12_countWays_114 : decode cX12_countWays 114 = .ok (.imul, 1) := by decide +kernel
theorem dX12_countWays_115 : decode cX12_countWays 115 = .ok (.iload 6, 2) := by decide +kernel
theorem dX12_countWays_117 : decode cX12_countWays 117 = .ok (.iadd, 1) := by decide +kernel
theorem dX12_countWays_118 : decode cX12_countWays 118 = .ok (.iload 4, 2) := by decide +kernel
theorem dX12_countWays_120 : decode cX12_countWays 120 = .ok (.iadd, 1) := by decide +kernel
theorem dX12_countWays_121 : decode cX12_countWays 121 = .ok (.dup2, 1) := by decide +kernel
theorem dX12_countWays_122 : decode cX12_countWays 122 = .ok (.laload, 1) := by decide +kernel
theorem dX12_countWays_123 : decode cX12_countWays 123 = .ok (.aload_n 0, 1) := by decide +kernel
theorem dX12_countWays_124 : decode cX12_countWays 124 = .ok (.getfield 88, 3) := by decide +kernel
theorem dX12_countWays_127 : decode cX12_countWays 127 = .ok (.sipush 30001, 3) := by decide +kernel
theorem dX12_countWays_130 : decode cX12_countWays 130 = .ok (.iload 5, 2) := by decide +kernel
theorem dX12_countWays_132 : decode cX12_countWays 132 = .ok (.imul, 1) := by decide +kernel
theorem dX12_countWays_133 : decode cX12_countWays 133 = .ok (.iload 6, 2) := by decide +kernel
theorem dX12_countWays_135 : decode cX12_countWays 135 = .ok (.iadd, 1) := by decide +kernel
theorem dX12_countWays_136 : decode cX12_countWays 136 = .ok (.laload, 1) := by decide +kernel
theorem dX12_countWays_137 : decode cX12_countWays 137 = .ok (.ladd, 1) := by decide +kernel
theorem dX12_countWays_138 : decode cX12_countWays 138 = .ok (.lastore, 1) := by decide +kernel
theorem dX12_countWays_139 : decode cX12_countWays 139 = .ok (.iinc 6 (-1), 3) := by decide +kernel
theorem dX12_countWays_142 : decode cX12_countWays 142 = .ok (.goto (-63), 3) := by decide +kernel
theorem dX12_countWays_145 : decode cX12_countWays 145 = .ok (.iinc 5 (-1), 3) := by decide +kernel
theorem dX12_countWays_148 : decode cX12_countWays 148 = .ok (.goto (-100), 3) := by decide +kernel
theorem dX12_countWays_151 : decode cX12_countWays 151 = .ok (.iinc 3 1, 3) := by decide +kernel
theorem dX12_countWays_154 : decode cX12_countWays 154 = .ok (.goto (-124), 3) := by decide +kernel
theorem dX12_countWays_157 : decode cX12_countWays 157 = .ok (.return_, 1) := by decide +kernel
theorem dX12_signs_0 : decode cX12_signs 0 = .ok (.iload_n 1, 1) := by decide +kernel
theorem dX12_signs_1 : decode cX12_signs 1 = .ok (.i2l, 1) := by decide +kernel
theorem dX12_signs_2 : decode cX12_signs 2 = .ok (.lconst 0, 1) := by decide +kernel
theorem dX12_signs_3 : decode cX12_signs 3 = .ok (.ldc2_w 256, 3) := by decide +kernel
theorem dX12_signs_6 : decode cX12_signs 6 = .ok (.invokestatic 159, 3) := by decide +kernel
theorem dX12_signs_9 : decode cX12_signs 9 = .ok (.ifCond .ne 7, 3) := by decide +kernel
theorem dX12_signs_12 : decode cX12_signs 12 = .ok (.ldc_w 267, 3) := by decide +kernel
theorem dX12_signs_15 : decode cX12_signs 15 = .ok (.ireturn, 1) := by decide +kernel
theorem dX12_signs_16 : decode cX12_signs 16 = .ok (.aload_n 0, 1) := by decide +kernel
theorem dX12_signs_17 : decode cX12_signs 17 = .ok (.invokevirtual 258, 3) := by decide +kernel
theorem dX12_signs_20 : decode cX12_signs 20 = .ok (.aload_n 0, 1) := by decide +kernel
theorem dX12_signs_21 : decode cX12_signs 21 = .ok (.getfield 250, 3) := by decide +kernel
theorem dX12_signs_24 : decode cX12_signs 24 = .ok (.istore_n 2, 1) := by decide +kernel
theorem dX12_signs_25 : decode cX12_signs 25 = .ok (.iload_n 2, 1) := by decide +kernel
theorem dX12_signs_26 : decode cX12_signs 26 = .ok (.ifCond .ne 7, 3) := by decide +kernel
theorem dX12_signs_29 : decode cX12_signs 29 = .ok (.ldc_w 268, 3) := by decide +kernel
theorem dX12_signs_32 : decode cX12_signs 32 = .ok (.ireturn, 1) := by decide +kernel
theorem dX12_signs_33 : decode cX12_signs 33 = .ok (.iconst 0, 1) := by decide +kernel
theorem dX12_signs_34 : decode cX12_signs 34 = .ok (.istore_n 3, 1) := by decide +kernel
theorem dX12_signs_35 : decode cX12_signs 35 = .ok (.iconst 0, 1) := by decide +kernel
theorem dX12_signs_36 : decode cX12_signs 36 = .ok (.istore 4, 2) := by decide +kernel
theorem dX12_signs_38 : decode cX12_signs 38 = .ok (.iconst 0, 1) := by decide +kernel
theorem dX12_signs_39 : decode cX12_signs 39 = .ok (.istore 5, 2) := by decide +kernel
theorem dX12_signs_41 : decode cX12_signs 41 = .ok (.iconst 0, 1) := by decide +kernel
theorem dX12_signs_42 : decode cX12_signs 42 = .ok (.istore 6, 2) := by decide +kernel
theorem dX12_signs_44 : decode cX12_signs 44 = .ok (.iload 6, 2) := by decide +kernel
theorem dX12_signs_46 : decode cX12_signs 46 = .ok (.aload_n 0, 1) := by decide +kernel
theorem dX12_signs_47 : decode cX12_signs 47 = .ok (.getfield 181, 3) := by decide +kernel
theorem dX12_signs_50 : decode cX12_signs 50 = .ok (.if_icmp .ge 93, 3) := by decide +kernel
theorem dX12_signs_53 : decode cX12_signs 53 = .ok (.aload_n 0, 1) := by decide +kernel
theorem dX12_signs_54 : decode cX12_signs 54 = .ok (.getfield 31, 3) := by decide +kernel
theorem dX12_signs_57 : decode cX12_signs 57 = .ok (.iload 6, 2) := by decide +kernel
theorem dX12_signs_59 : decode cX12_signs 59 = .ok (.iaload, 1) := by decide +kernel
theorem dX12_signs_60 : decode cX12_signs 60 = .ok (.ifCond .eq 77, 3) := by decide +kernel
theorem dX12_signs_63 : decode cX12_signs 63 = .ok (.iload_n 1, 1) := by decide +kernel
theorem dX12_signs_64 : decode cX12_signs 64 = .ok (.ifCond .ne 13, 3) := by decide +kernel
theorem dX12_signs_67 : decode cX12_signs 67 = .ok (.aload_n 0, 1) := by decide +kernel
theorem dX12_signs_68 : decode cX12_signs 68 = .ok (.getfield 81, 3) := by decide +kernel
theorem dX12_signs_71 : decode cX12_signs 71 = .ok (.iload 5, 2) := by decide +kernel
theorem dX12_signs_73 : decode cX12_signs 73 = .ok (.iaload, 1) := by decide +kernel
theorem dX12_signs_74 : decode cX12_signs 74 = .ok (.goto 23, 3) := by decide +kernel
theorem dX12_signs_77 : decode cX12_signs 77 = .ok (.iload_n 1, 1) := by decide +kernel
theorem dX12_signs_78 : decode cX12_signs 78 = .ok (.iconst 1, 1) := by decide +kernel
theorem dX12_signs_79 : decode cX12_signs 79 = .ok (.if_icmp .ne 17, 3) := by decide +kernel
theorem dX12_signs_82 : decode cX12_signs 82 = .ok (.aload_n 0, 1) := by decide +kernel
theorem dX12_signs_83 : decode cX12_signs 83 = .ok (.aload_n 0, 1) := by decide +kernel
theorem dX12_signs_84 : decode cX12_signs 84 = .ok (.getfield 81, 3) := by decide +kernel
theorem dX12_signs_87 : decode cX12_signs 87 = .ok (.iload 5, 2) := by decide +kernel
theorem dX12_signs_89 : decode cX12_signs 89 = .ok (.iaload, 1) := by decide +kernel
theorem dX12_signs_90 : decode cX12_signs 90 = .ok (.invokevirtual 261, 3) := by decide +kernel
theorem dX12_signs_93 : decode cX12_signs 93 = .ok (.goto 4, 3) := by decide +kernel
theorem dX12_signs_96 : decode cX12_signs 96 = .ok (.iconst 1, 1) := by decide +kernel
theorem dX12_signs_97 : decode cX12_signs 97 = .ok (.istore 7, 2) := by decide +kernel
theorem dX12_signs_99 : decode cX12_signs 99 = .ok (.aload_n 0, 1) := by decide +kernel
theorem dX12_signs_100 : decode cX12_signs 100 = .ok (.getfield 84, 3) := by decide +kernel
theorem dX12_signs_103 : decode cX12_signs 103 = .ok (.iload 5, 2) := by decide +kernel
theorem dX12_signs_105 : decode cX12_signs 105 = .ok (.iload 7, 2) := by decide +kernel
theorem dX12_signs_107 : decode cX12_signs 107 = .ok (.iastore, 1) := by decide +kernel
theorem dX12_signs_108 : decode cX12_signs 108 = .ok (.iload_n 3, 1) := by decide +kernel
theorem dX12_signs_109 : decode cX12_signs 109 = .ok (.iload 7, 2) := by decide +kernel
theorem dX12_signs_111 : decode cX12_signs 111 = .ok (.iadd, 1) := by decide +kernel
theorem dX12_signs_112 : decode cX12_signs 112 = .ok (.istore_n 3, 1) := by decide +kernel
theorem dX12_signs_113 : decode cX12_signs 113 = .ok (.iload 4, 2) := by decide +kernel
theorem dX12_signs_115 : decode cX12_signs 115 = .ok (.aload_n 0, 1) := by decide +kernel
theorem dX12_signs_116 : decode cX12_signs 116 = .ok (.getfield 31, 3) := by decide +kernel
theorem dX12_signs_119 : decode cX12_signs 119 = .ok (.iload 6, 2) := by decide +kernel
theorem dX12_signs_121 : decode cX12_signs 121 = .ok (.iaload, 1) := by decide +kernel
theorem dX12_signs_122 : decode cX12_signs 122 = .ok (.ifCond .le 8, 3) := by decide +kernel
theorem dX12_signs_125 : decode cX12_signs 125 = .ok (.iload 7, 2) := by decide +kernel
theorem dX12_signs_127 : decode cX12_signs 127 = .ok (.goto 4, 3) := by decide +kernel
theorem dX12_signs_130 : decode cX12_signs 130 = .ok (.iconst 0, 1) := by decide +kernel
theorem dX12_signs_131 : decode cX12_signs 131 = .ok (.iadd, 1) := by decide +kernel
theorem dX12_signs_132 : decode cX12_signs 132 = .ok (.istore 4, 2) := by decide +kernel
theorem dX12_signs_134 : decode cX12_signs 134 = .ok (.iinc 5 1, 3) := by decide +kernel
theorem dX12_signs_137 : decode cX12_signs 137 = .ok (.iinc 6 1, 3) := by decide +kernel
theorem dX12_signs_140 : decode cX12_signs 140 = .ok (.goto (-96), 3) := by decide +kernel
theorem dX12_signs_143 : decode cX12_signs 143 = .ok (.iconst 0, 1) := by decide +kernel
theorem dX12_signs_144 : decode cX12_signs 144 = .ok (.istore 6, 2) := by decide +kernel
theorem dX12_signs_146 : decode cX12_signs 146 = .ok (.iload 6, 2) := by decide +kernel
theorem dX12_signs_148 : decode cX12_signs 148 = .ok (.ldc 44, 2) := by decide +kernel
theorem dX12_signs_150 : decode cX12_signs 150 = .ok (.if_icmp .ge 17, 3) := by decide +kernel
theorem dX12_signs_153 : decode cX12_signs 153 = .ok (.aload_n 0, 1) := by decide +kernel
theorem dX12_signs_154 : decode cX12_signs 154 = .ok (.getfield 45, 3) := by decide +kernel
theorem dX12_signs_157 : decode cX12_signs 157 = .ok (.iload 6, 2) := by decide +kernel
theorem dX12_signs_159 : decode cX12_signs 159 = .ok (.lconst 0, 1) := by decide +kernel
theorem dX12_signs_160 : decode cX12_signs 160 = .ok (.lastore, 1) := by decide +kernel
theorem dX12_signs_161 : decode cX12_signs 161 = .ok (.iinc 6 1, 3) := by decide +kernel
theorem dX12_signs_164 : decode cX12_signs 164 = .ok (.goto (-18), 3) := by decide +kernel
theorem dX12_signs_167 : decode cX12_signs 167 = .ok (.aload_n 0, 1) := by decide +kernel
theorem dX12_signs_168 : decode cX12_signs 168 = .ok (.getfield 45, 3) := by decide +kernel
theorem dX12_signs_171 : decode cX12_signs 171 = .ok (.iconst 0, 1) := by decide +kernel
theorem dX12_signs_172 : decode cX12_signs 172 = .ok (.lconst 1, 1) := by decide +kernel
theorem dX12_signs_173 : decode cX12_signs 173 = .ok (.lastore, 1) := by decide +kernel
theorem dX12_signs_174 : decode cX12_signs 174 = .ok (.iconst 0, 1) := by decide +kernel
theorem dX12_signs_175 : decode cX12_signs 175 = .ok (.istore 6, 2) := by decide +kernel
theorem dX12_signs_177 : decode cX12_signs 177 = .ok (.iload 6, 2) := by decide +kernel
theorem dX12_signs_179 : decode cX12_signs 179 = .ok (.iload_n 2, 1) := by decide +kernel
theorem dX12_signs_180 : decode cX12_signs 180 = .ok (.if_icmp .ge 58, 3) := by decide +kernel
theorem dX12_signs_183 : decode cX12_signs 183 = .ok (.ldc_w 282, 3) := by decide +kernel
theorem dX12_signs_186 : decode cX12_signs 186 = .ok (.aload_n 0, 1) := by decide +kernel
theorem dX12_signs_187 : decode cX12_signs 187 = .ok (.getfield 84, 3) := by decide +kernel
theorem dX12_signs_190 : decode cX12_signs 190 = .ok (.iload 6, 2) := by decide +kernel
theorem dX12_signs_192 : decode cX12_signs 192 = .ok (.iaload, 1) := by decide +kernel
theorem dX12_signs_193 : decode cX12_signs 193 = .ok (.isub, 1) := by decide +kernel
theorem dX12_signs_194 : decode cX12_signs 194 = .ok (.istore 7, 2) := by decide +kernel
theorem dX12_signs_196 : decode cX12_signs 196 = .ok (.iload 7, 2) := by decide +kernel
theorem dX12_signs_198 : decode cX12_signs 198 = .ok (.ifCond .lt 34, 3) := by decide +kernel
theorem dX12_signs_201 : decode cX12_signs 201 = .ok (.aload_n 0, 1) := by decide +kernel
theorem dX12_signs_202 : decode cX12_signs 202 = .ok (.getfield 45, 3) := by decide +kernel
theorem dX12_signs_205 : decode cX12_signs 205 = .ok (.iload 7, 2) := by decide +kernel
theorem dX12_signs_207 : decode cX12_signs 207 = .ok (.aload_n 0, 1) := by decide +kernel
theorem dX12_signs_208 : decode cX12_signs 208 = .ok (.getfield 84, 3) := by decide +kernel
theorem dX12_signs_211 : decode cX12_signs 211 = .ok (.iload 6, 2) := by decide +kernel
theorem dX12_signs_213 : decode cX12_signs 213 = .ok (.iaload, 1) := by decide +kernel
theorem dX12_signs_214 : decode cX12_signs 214 = .ok (.iadd, 1) := by decide +kernel
theorem dX12_signs_215 : decode cX12_signs 215 = .ok (.dup2, 1) := by decide +kernel
theorem dX12_signs_216 : decode cX12_signs 216 = .ok (.laload, 1) := by decide +kernel
theorem dX12_signs_217 : decode cX12_signs 217 = .ok (.aload_n 0, 1) := by decide +kernel
theorem dX12_signs_218 : decode cX12_signs 218 = .ok (.getfield 45, 3) := by decide +kernel
theorem dX12_signs_221 : decode cX12_signs 221 = .ok (.iload 7, 2) := by decide +kernel
theorem dX12_signs_223 : decode cX12_signs 223 = .ok (.laload, 1) := by decide +kernel
theorem dX12_signs_224 : decode cX12_signs 224 = .ok (.ladd, 1) := by decide +kernel
theorem dX12_signs_225 : decode cX12_signs 225 = .ok (.lastore, 1) := by decide +kernel
theorem dX12_signs_226 : decode cX12_signs 226 = .ok (.iinc 7 (-1), 3) := by decide +kernel
theorem dX12_signs_229 : decode cX12_signs 229 = .ok (.goto (-33), 3) := by decide +kernel
theorem dX12_signs_232 : decode cX12_signs 232 = .ok (.iinc 6 1, 3) := by decide +kernel
theorem dX12_signs_235 : decode cX12_signs 235 = .ok (.goto (-58), 3) := by decide +kernel
theorem dX12_signs_238 : decode cX12_signs 238 = .ok (.aload_n 0, 1) := by decide +kernel
theorem dX12_signs_239 : decode cX12_signs 239 = .ok (.ldc 44, 2) := by decide +kernel
theorem dX12_signs_241 : decode cX12_signs 241 = .ok (.putfield 273, 3) := by decide +kernel
theorem dX12_signs_244 : decode cX12_signs 244 = .ok (.aload_n 0, 1) := by decide +kernel
theorem dX12_signs_245 : decode cX12_signs 245 = .ok (.iconst 0, 1) := by decide +kernel
theorem dX12_signs_246 : decode cX12_signs 246 = .ok (.putfield 276, 3) := by decide +kernel
theorem dX12_signs_249 : decode cX12_signs 249 = .ok (.aload_n 0, 1) := by decide +kernel
theorem dX12_signs_250 : decode cX12_signs 250 = .ok (.iconst 3, 1) := by decide +kernel
theorem dX12_signs_251 : decode cX12_signs 251 = .ok (.iload_n 1, 1) := by decide +kernel
theorem dX12_signs_252 : decode cX12_signs 252 = .ok (.iadd, 1) := by decide +kernel
theorem dX12_signs_253 : decode cX12_signs 253 = .ok (.putfield 34, 3) := by decide +kernel
theorem dX12_signs_256 : decode cX12_signs 256 = .ok (.aload_n 0, 1) := by decide +kernel
theorem dX12_signs_257 : decode cX12_signs 257 = .ok (.iload 4, 2) := by decide +kernel
theorem dX12_signs_259 : decode cX12_signs 259 = .ok (.putfield 237, 3) := by decide +kernel
theorem dX12_signs_262 : decode cX12_signs 262 = .ok (.aload_n 0, 1) := by decide +kernel
theorem dX12_signs_263 : decode cX12_signs 263 = .ok (.iload_n 2, 1) := by decide +kernel
theorem dX12_signs_264 : decode cX12_signs 264 = .ok (.putfield 240, 3) := by decide +kernel
theorem dX12_signs_267 : decode cX12_signs 267 = .ok (.aload_n 0, 1) := by decide +kernel
theorem dX12_signs_268 : decode cX12_signs 268 = .ok (.iconst 2, 1) := by decide +kernel
theorem dX12_signs_269 : decode cX12_signs 269 = .ok (.iload_n 3, 1) := by decide +kernel
theorem dX12_signs_270 : decode cX12_signs 270 = .ok (.invokevirtual 279, 3) := by decide +kernel
theorem dX12_signs_273 : decode cX12_signs 273 = .ok (.iload 4, 2) := by decide +kernel
theorem dX12_signs_275 : decode cX12_signs 275 = .ok (.ireturn, 1) := by decide +kernel
theorem dX12_findChances_0 : decode cX12_findChances 0 = .ok (.lconst 0, 1) := by decide +kernel
theorem dX12_findChances_1 : decode cX12_findChances 1 = .ok (.lstore_n 3, 1) := by decide +kernel
theorem dX12_findChances_2 : decode cX12_findChances 2 = .ok (.lconst 0, 1) := by decide +kernel
theorem dX12_findChances_3 : decode cX12_findChances 3 = .ok (.lstore 5, 2) := by decide +kernel
theorem dX12_findChances_5 : decode cX12_findChances 5 = .ok (.lconst 0, 1) := by decide +kernel
theorem dX12_findChances_6 : decode cX12_findChances 6 = .ok (.lstore 7, 2) := by decide +kernel
theorem dX12_findChances_8 : decode cX12_findChances 8 = .ok (.lconst 0, 1) := by decide +kernel
theorem dX12_findChances_9 : decode cX12_findChances 9 = .ok (.lstore 9, 2) := by decide +kernel
theorem dX12_findChances_11 : decode cX12_findChances 11 = .ok (.lconst 0, 1) := by decide +kernel
theorem dX12_findChances_12 : decode cX12_findChances 12 = .ok (.lstore 11, 2) := by decide +kernel
theorem dX12_findChances_14 : decode cX12_findChances 14 = .ok (.iload_n 1, 1) := by decide +kernel
theorem dX12_findChances_15 : decode cX12_findChances 15 = .ok (.aload_n 0, 1) := by decide +kernel
theorem dX12_findChances_16 : decode cX12_findChances 16 = .ok (.getfield 237, 3) := by decide +kernel
theorem dX12_findChances_19 : decode cX12_findChances 19 = .ok (.imul, 1) := by decide +kernel
theorem dX12_findChances_20 : decode cX12_findChances 20 = .ok (.iload_n 2, 1) := by decide +kernel
theorem dX12_findChances_21 : decode cX12_findChances 21 = .ok (.isub, 1) := by decide +kernel
theorem dX12_findChances_22 : decode cX12_findChances 22 = .ok (.invokestatic 253, 3) := by decide +kernel
theorem dX12_findChances_25 : decode cX12_findChances 25 = .ok (.istore 13, 2) := by decide +kernel
theorem dX12_findChances_27 : decode cX12_findChances 27 = .ok (.iconst 0, 1) := by decide +kernel
theorem dX12_findChances_28 : decode cX12_findChances 28 = .ok (.istore 14, 2) := by decide +kernel
theorem dX12_findChances_30 : decode cX12_findChances 30 = .ok (.iload 14, 2) := by decide +kernel
theorem dX12_findChances_32 : decode cX12_findChances 32 = .ok (.aload_n 0, 1) := by decide +kernel
theorem dX12_findChances_33 : decode cX12_findChances 33 = .ok (.getfield 273, 3) := by decide +kernel
theorem dX12_findChances_36 : decode cX12_findChances 36 = .ok (.if_icmp .ge 124, 3) := by decide +kernel
theorem dX12_findChances_39 : decode cX12_findChances 39 = .ok (.aload_n 0, 1) := by decide +kernel
theorem dX12_findChances_40 : decode cX12_findChances 40 = .ok (.getfield 45, 3) := by decide +kernel
theorem dX12_findChances_43 : decode cX12_findChances 43 = .ok (.iload 14, 2) := by decide +kernel
theorem dX12_findChances_45 : decode cX12_findChances 45 = .ok (.laload, 1) := by decide +kernel
theorem dX12_findChances_46 : decode cX12_findChances 46 = .ok (.lstore 15, 2) := by decide +kernel
theorem dX12_findChances_48 : decode cX12_findChances 48 = .ok (.lload 15, 2) := by decide +kernel
theorem dX12_findChances_50 : decode cX12_findChances 50 = .ok (.lconst 0, 1) := by decide +kernel
theorem dX12_findChances_51 : decode cX12_findChances 51 = .ok (.lcmp, 1) := by decide +kernel
theorem dX12_findChances_52 : decode cX12_findChances 52 = .ok (.ifCond .le 102, 3) := by decide +kernel
theorem dX12_findChances_55 : decode cX12_findChances 55 = .ok (.aload_n 0, 1) := by decide +kernel
theorem dX12_findChances_56 : decode cX12_findChances 56 = .ok (.getfield 276, 3) := by decide +kernel
theorem dX12_findChances_59 : decode cX12_findChances 59 = .ok (.iload 14, 2) := by decide +kernel
theorem dX12_findChances_61 : decode cX12_findChances 61 = .ok (.iadd, 1) := by decide +kernel
theorem dX12_findChances_62 : decode cX12_findChances 62 = .ok (.istore 17, 2) := by decide +kernel
theorem dX12_findChances_64 : decode cX12_findChances 64 = .ok (.lload 11, 2) := by decide +kernel
theorem dX12_findChances_66 : decode cX12_findChances 66 = .ok (.lload 15, 2) := by decide +kernel
theorem dX12_findChances_68 : decode cX12_findChances 68 = .ok (.ladd, 1) := by decide +kernel
theorem dX12_findChances_69 : decode cX12_findChances 69 = .ok (.lstore 11, 2) := by decide +kernel
theorem dX12_findChances_71 : decode cX12_findChances 71 = .ok (.lload_n 3, 1) := by decide +kernel
theorem dX12_findChances_72 : decode cX12_findChances 72 = .ok (.iload_n 1, 1) := by decide +kernel
theorem dX12_findChances_73 : decode cX12_findChances 73 = .ok (.iload 17, 2) := by decide +kernel
theorem dX12_findChances_75 : decode cX12_findChances 75 = .ok (.imul, 1) := by decide +kernel
theorem dX12_findChances_76 : decode cX12_findChances 76 = .ok (.iload_n 2, 1) := by decide +kernel
theorem dX12_findChances_77 : decode cX12_findChances 77 = .ok (.isub, 1) := by decide +kernel
theorem dX12_findChances_78 : decode cX12_findChances 78 = .ok (.invokestatic 253, 3) := by decide +kernel
theorem dX12_findChances_81 : decode cX12_findChances 81 = .ok (.iload 13, 2) := by decide +kernel
theorem dX12_findChances_83 : decode cX12_findChances 83 = .ok (.if_icmp .lt 8, 3) := by decide +kernel
theorem dX12_findChances_86 : decode cX12_findChances 86 = .ok (.lload 15, 2) := by decide +kernel
theorem dX12_findChances_88 : decode cX12_findChances 88 = .ok (.goto 4, 3) := by decide +kernel
theorem dX12_findChances_91 : decode cX12_findChances 91 = .ok (.lconst 0, 1) := by decide +kernel
theorem dX12_findChances_92 : decode cX12_findChances 92 = .ok (.ladd, 1) := by decide +kernel
theorem dX12_findChances_93 : decode cX12_findChances 93 = .ok (.lstore_n 3, 1) := by decide +kernel
theorem dX12_findChances_94 : decode cX12_findChances 94 = .ok (.lload 5, 2) := by decide +kernel
theorem dX12_findChances_96 : decode cX12_findChances 96 = .ok (.iload 17, 2) := by decide +kernel
theorem dX12_findChances_98 : decode cX12_findChances 98 = .ok (.aload_n 0, 1) := by decide +kernel
theorem dX12_findChances_99 : decode cX12_findChances 99 = .ok (.getfield 237, 3) := by decide +kernel
theorem dX12_findChances_102 : decode cX12_findChances 102 = .ok (.if_icmp .gt 8, 3) := by decide +kernel
theorem dX12_findChances_105 : decode cX12_findChances 105 = .ok (.lload 15, 2) := by decide +kernel
theorem dX12_findChances_107 : decode cX12_findChances 107 = .ok (.goto 4, 3) := by decide +kernel
theorem dX12_findChances_110 : decode cX12_findChances 110 = .ok (.lconst 0, 1) := by decide +kernel
theorem dX12_findChances_111 : decode cX12_findChances 111 = .ok (.ladd, 1) := by decide +kernel
theorem dX12_findChances_112 : decode cX12_findChances 112 = .ok (.lstore 5, 2) := by decide +kernel
theorem dX12_findChances_114 : decode cX12_findChances 114 = .ok (.lload 7, 2) := by decide +kernel
theorem dX12_findChances_116 : decode cX12_findChances 116 = .ok (.iload 17, 2) := by decide +kernel
theorem dX12_findChances_118 : decode cX12_findChances 118 = .ok (.aload_n 0, 1) := by decide +kernel
theorem dX12_findChances_119 : decode cX12_findChances 119 = .ok (.getfield 237, 3) := by decide +kernel
theorem dX12_findChances_122 : decode cX12_findChances 122 = .ok (.if_icmp .lt 8, 3) := by decide +kernel
theorem dX12_findChances_125 : decode cX12_findChances 125 = .ok (.lload 15, 2) := by decide +kernel
theorem dX12_findChances_127 : decode cX12_findChances 127 = .ok (.goto 4, 3) := by decide +kernel
theorem dX12_findChances_130 : decode cX12_findChances 130 = .ok (.lconst 0, 1) := by decide +kernel
theorem dX12_findChances_131 : decode cX12_findChances 131 = .ok (.ladd, 1) := by decide +kernel
theorem dX12_findChances_132 : decode cX12_findChances 132 = .ok (.lstore 7, 2) := by decide +kernel
theorem dX12_findChances_134 : decode cX12_findChances 134 = .ok (.lload 9, 2) := by decide +kernel
theorem dX12_findChances_136 : decode cX12_findChances 136 = .ok (.iload 17, 2) := by decide +kernel
theorem dX12_findChances_138 : decode cX12_findChances 138 = .ok (.aload_n 0, 1) := by decide +kernel
theorem dX12_findChances_139 : decode cX12_findChances 139 = .ok (.getfield 237, 3) := by decide +kernel
theorem dX12_findChances_142 : decode cX12_findChances 142 = .ok (.if_icmp .ne 8, 3) := by decide +kernel
theorem dX12_findChances_145 : decode cX12_findChances 145 = .ok (.lload 15, 2) := by decide +kernel
theorem dX12_findChances_147 : decode cX12_findChances 147 = .ok (.goto 4, 3) := by decide +kernel
theorem dX12_findChances_150 : decode cX12_findChances 150 = .ok (.lconst 0, 1) := by decide +kernel
theorem dX12_findChances_151 : decode cX12_findChances 151 = .ok (.ladd, 1) := by decide +kernel
theorem dX12_findChances_152 : decode cX12_findChances 152 = .ok (.lstore 9, 2) := by decide +kernel
theorem dX12_findChances_154 : decode cX12_findChances 154 = .ok (.iinc 14 1, 3) := by decide +kernel
theorem dX12_findChances_157 : decode cX12_findChances 157 = .ok (.goto (-127), 3) := by decide +kernel
theorem dX12_findChances_160 : decode cX12_findChances 160 = .ok (.aload_n 0, 1) := by decide +kernel
theorem dX12_findChances_161 : decode cX12_findChances 161 = .ok (.getfield 38, 3) := by decide +kernel
theorem dX12_findChances_164 : decode cX12_findChances 164 = .ok (.iconst 0, 1) := by decide +kernel
theorem dX12_findChances_165 : decode cX12_findChances 165 = .ok (.lload_n 3, 1) := by decide +kernel
theorem dX12_findChances_166 : decode cX12_findChances 166 = .ok (.invokestatic 127, 3) := by decide +kernel
theorem dX12_findChances_169 : decode cX12_findChances 169 = .ok (.aload_n 0, 1) := by decide +kernel
theorem dX12_findChances_170 : decode cX12_findChances 170 = .ok (.getfield 38, 3) := by decide +kernel
theorem dX12_findChances_173 : decode cX12_findChances 173 = .ok (.bipush 40, 2) := by decide +kernel
theorem dX12_findChances_175 : decode cX12_findChances 175 = .ok (.lload 5, 2) := by decide +kernel
theorem dX12_findChances_177 : decode cX12_findChances 177 = .ok (.invokestatic 127, 3) := by decide +kernel
theorem dX12_findChances_180 : decode cX12_findChances 180 = .ok (.aload_n 0, 1) := by decide +kernel
theorem dX12_findChances_181 : decode cX12_findChances 181 = .ok (.getfield 38, 3) := by decide +kernel
theorem dX12_findChances_184 : decode cX12_findChances 184 = .ok (.bipush 80, 2) := by decide +kernel
theorem dX12_findChances_186 : decode cX12_findChances 186 = .ok (.lload 7, 2) := by decide +kernel
theorem dX12_findChances_188 : decode cX12_findChances 188 = .ok (.invokestatic 127, 3) := by decide +kernel
theorem dX12_findChances_191 : decode cX12_findChances 191 = .ok (.aload_n 0, 1) := by decide +kernel
theorem dX12_findChances_192 : decode cX12_findChances 192 = .ok (.getfield 38, 3) := by decide +kernel
theorem dX12_findChances_195 : decode cX12_findChances 195 = .ok (.bipush 120, 2) := by decide +kernel
theorem dX12_findChances_197 : decode cX12_findChances 197 = .ok (.lload 9, 2) := by decide +kernel
theorem dX12_findChances_199 : decode cX12_findChances 199 = .ok (.invokestatic 127, 3) := by decide +kernel
theorem dX12_findChances_202 : decode cX12_findChances 202 = .ok (.aload_n 0, 1) := by decide +kernel
theorem dX12_findChances_203 : decode cX12_findChances 203 = .ok (.getfield 78, 3) := by decide +kernel
theorem dX12_findChances_206 : decode cX12_findChances 206 = .ok (.iconst 0, 1) := by decide +kernel
theorem dX12_findChances_207 : decode cX12_findChances 207 = .ok (.lload 11, 2) := by decide +kernel
theorem dX12_findChances_209 : decode cX12_findChances 209 = .ok (.invokestatic 127, 3) := by decide +kernel
theorem dX12_findChances_212 : decode cX12_findChances 212 = .ok (.aload_n 0, 1) := by decide +kernel
theorem dX12_findChances_213 : decode cX12_findChances 213 = .ok (.aload_n 0, 1) := by decide +kernel
theorem dX12_findChances_214 : decode cX12_findChances 214 = .ok (.getfield 78, 3) := by decide +kernel
theorem dX12_findChances_217 : decode cX12_findChances 217 = .ok (.invokevirtual 243, 3) := by decide +kernel
theorem dX12_findChances_220 : decode cX12_findChances 220 = .ok (.return_, 1) := by decide +kernel
theorem dX12_ways_0 : decode cX12_ways 0 = .ok (.aload_n 0, 1) := by decide +kernel
theorem dX12_ways_1 : decode cX12_ways 1 = .ok (.getfield 34, 3) := by decide +kernel
theorem dX12_ways_4 : decode cX12_ways 4 = .ok (.iconst 1, 1) := by decide +kernel
theorem dX12_ways_5 : decode cX12_ways 5 = .ok (.if_icmp .ge 7, 3) := by decide +kernel
theorem dX12_ways_8 : decode cX12_ways 8 = .ok (.ldc2_w 283, 3) := by decide +kernel
theorem dX12_ways_11 : decode cX12_ways 11 = .ok (.lreturn, 1) := by decide +kernel
theorem dX12_ways_12 : decode cX12_ways 12 = .ok (.iload_n 1, 1) := by decide +kernel
theorem dX12_ways_13 : decode cX12_ways 13 = .ok (.i2l, 1) := by decide +kernel
theorem dX12_ways_14 : decode cX12_ways 14 = .ok (.aload_n 0, 1) := by decide +kernel
theorem dX12_ways_15 : decode cX12_ways 15 = .ok (.getfield 276, 3) := by decide +kernel
theorem dX12_ways_18 : decode cX12_ways 18 = .ok (.i2l, 1) := by decide +kernel
theorem dX12_ways_19 : decode cX12_ways 19 = .ok (.lsub, 1) := by decide +kernel
theorem dX12_ways_20 : decode cX12_ways 20 = .ok (.lconst 0, 1) := by decide +kernel
theorem dX12_ways_21 : decode cX12_ways 21 = .ok (.aload_n 0, 1) := by decide +kernel
theorem dX12_ways_22 : decode cX12_ways 22 = .ok (.getfield 273, 3) := by decide +kernel
theorem dX12_ways_25 : decode cX12_ways 25 = .ok (.i2l, 1) := by decide +kernel
theorem dX12_ways_26 : decode cX12_ways 26 = .ok (.lconst 1, 1) := by decide +kernel
theorem dX12_ways_27 : decode cX12_ways 27 = .ok (.lsub, 1) := by decide +kernel
theorem dX12_ways_28 : decode cX12_ways 28 = .ok (.invokestatic 159, 3) := by decide +kernel
theorem dX12_ways_31 : decode cX12_ways 31 = .ok (.ifCond .eq 17, 3) := by decide +kernel
theorem dX12_ways_34 : decode cX12_ways 34 = .ok (.aload_n 0, 1) := by decide +kernel
theorem dX12_ways_35 : decode cX12_ways 35 = .ok (.getfield 45, 3) := by decide +kernel
theorem dX12_ways_38 : decode cX12_ways 38 = .ok (.iload_n 1, 1) := by decide +kernel
theorem dX12_ways_39 : decode cX12_ways 39 = .ok (.aload_n 0, 1) := by decide +kernel
theorem dX12_ways_40 : decode cX12_ways 40 = .ok (.getfield 276, 3) := by decide +kernel
