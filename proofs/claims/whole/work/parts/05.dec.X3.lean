theorem dX3_init_0 : decode cX3_init 0 = .ok (.aload_n 0, 1) := by decide +kernel
theorem dX3_init_1 : decode cX3_init 1 = .ok (.invokespecial 3, 3) := by decide +kernel
theorem dX3_init_4 : decode cX3_init 4 = .ok (.aload_n 0, 1) := by decide +kernel
theorem dX3_init_5 : decode cX3_init 5 = .ok (.bipush 25, 2) := by decide +kernel
theorem dX3_init_7 : decode cX3_init 7 = .ok (.newarray .int, 2) := by decide +kernel
theorem dX3_init_9 : decode cX3_init 9 = .ok (.putfield 9, 3) := by decide +kernel
theorem dX3_init_12 : decode cX3_init 12 = .ok (.aload_n 0, 1) := by decide +kernel
theorem dX3_init_13 : decode cX3_init 13 = .ok (.iconst 1, 1) := by decide +kernel
theorem dX3_init_14 : decode cX3_init 14 = .ok (.putfield 15, 3) := by decide +kernel
theorem dX3_init_17 : decode cX3_init 17 = .ok (.aload_n 0, 1) := by decide +kernel
theorem dX3_init_18 : decode cX3_init 18 = .ok (.iconst 1, 1) := by decide +kernel
theorem dX3_init_19 : decode cX3_init 19 = .ok (.putfield 19, 3) := by decide +kernel
theorem dX3_init_22 : decode cX3_init 22 = .ok (.return_, 1) := by decide +kernel
theorem dX3_renew_0 : decode cX3_renew 0 = .ok (.aload_n 0, 1) := by decide +kernel
theorem dX3_renew_1 : decode cX3_renew 1 = .ok (.iload_n 1, 1) := by decide +kernel
theorem dX3_renew_2 : decode cX3_renew 2 = .ok (.putfield 15, 3) := by decide +kernel
theorem dX3_renew_5 : decode cX3_renew 5 = .ok (.aload_n 0, 1) := by decide +kernel
theorem dX3_renew_6 : decode cX3_renew 6 = .ok (.iload_n 2, 1) := by decide +kernel
theorem dX3_renew_7 : decode cX3_renew 7 = .ok (.putfield 19, 3) := by decide +kernel
theorem dX3_renew_10 : decode cX3_renew 10 = .ok (.iconst 0, 1) := by decide +kernel
theorem dX3_renew_11 : decode cX3_renew 11 = .ok (.istore_n 3, 1) := by decide +kernel
theorem dX3_renew_12 : decode cX3_renew 12 = .ok (.iload_n 3, 1) := by decide +kernel
theorem dX3_renew_13 : decode cX3_renew 13 = .ok (.aload_n 0, 1) := by decide +kernel
theorem dX3_renew_14 : decode cX3_renew 14 = .ok (.getfield 9, 3) := by decide +kernel
theorem dX3_renew_17 : decode cX3_renew 17 = .ok (.arraylength, 1) := by decide +kernel
theorem dX3_renew_18 : decode cX3_renew 18 = .ok (.if_icmp .ge 16, 3) := by decide +kernel
theorem dX3_renew_21 : decode cX3_renew 21 = .ok (.aload_n 0, 1) := by decide +kernel
theorem dX3_renew_22 : decode cX3_renew 22 = .ok (.getfield 9, 3) := by decide +kernel
theorem dX3_renew_25 : decode cX3_renew 25 = .ok (.iload_n 3, 1) := by decide +kernel
theorem dX3_renew_26 : decode cX3_renew 26 = .ok (.iconst 0, 1) := by decide +kernel
theorem dX3_renew_27 : decode cX3_renew 27 = .ok (.iastore, 1) := by decide +kernel
theorem dX3_renew_28 : decode cX3_renew 28 = .ok (.iinc 3 1, 3) := by decide +kernel
theorem dX3_renew_31 : decode cX3_renew 31 = .ok (.goto (-19), 3) := by decide +kernel
theorem dX3_renew_34 : decode cX3_renew 34 = .ok (.return_, 1) := by decide +kernel
theorem dX3_rows_0 : decode cX3_rows 0 = .ok (.aload_n 0, 1) := by decide +kernel
theorem dX3_rows_1 : decode cX3_rows 1 = .ok (.getfield 15, 3) := by decide +kernel
theorem dX3_rows_4 : decode cX3_rows 4 = .ok (.ireturn, 1) := by decide +kernel
theorem dX3_columns_0 : decode cX3_columns 0 = .ok (.aload_n 0, 1) := by decide +kernel
theorem dX3_columns_1 : decode cX3_columns 1 = .ok (.getfield 19, 3) := by decide +kernel
theorem dX3_columns_4 : decode cX3_columns 4 = .ok (.ireturn, 1) := by decide +kernel
theorem dX3_hasRow_0 : decode cX3_hasRow 0 = .ok (.iload_n 1, 1) := by decide +kernel
theorem dX3_hasRow_1 : decode cX3_hasRow 1 = .ok (.ifCond .lt 15, 3) := by decide +kernel
theorem dX3_hasRow_4 : decode cX3_hasRow 4 = .ok (.iload_n 1, 1) := by decide +kernel
theorem dX3_hasRow_5 : decode cX3_hasRow 5 = .ok (.aload_n 0, 1) := by decide +kernel
theorem dX3_hasRow_6 : decode cX3_hasRow 6 = .ok (.getfield 15, 3) := by decide +kernel
theorem dX3_hasRow_9 : decode cX3_hasRow 9 = .ok (.if_icmp .ge 7, 3) := by decide +kernel
theorem dX3_hasRow_12 : decode cX3_hasRow 12 = .ok (.iconst 1, 1) := by decide +kernel
theorem dX3_hasRow_13 : decode cX3_hasRow 13 = .ok (.goto 4, 3) := by decide +kernel
theorem dX3_hasRow_16 : decode cX3_hasRow 16 = .ok (.iconst 0, 1) := by decide +kernel
theorem dX3_hasRow_17 : decode cX3_hasRow 17 = .ok (.ireturn, 1) := by decide +kernel
theorem dX3_hasColumn_0 : decode cX3_hasColumn 0 = .ok (.iload_n 1, 1) := by decide +kernel
theorem dX3_hasColumn_1 : decode cX3_hasColumn 1 = .ok (.ifCond .lt 15, 3) := by decide +kernel
theorem dX3_hasColumn_4 : decode cX3_hasColumn 4 = .ok (.iload_n 1, 1) := by decide +kernel
theorem dX3_hasColumn_5 : decode cX3_hasColumn 5 = .ok (.aload_n 0, 1) := by decide +kernel
theorem dX3_hasColumn_6 : decode cX3_hasColumn 6 = .ok (.getfield 19, 3) := by decide +kernel
theorem dX3_hasColumn_9 : decode cX3_hasColumn 9 = .ok (.if_icmp .ge 7, 3) := by decide +kernel
theorem dX3_hasColumn_12 : decode cX3_hasColumn 12 = .ok (.iconst 1, 1) := by decide +kernel
theorem dX3_hasColumn_13 : decode cX3_hasColumn 13 = .ok (.goto 4, 3) := by decide +kernel
theorem dX3_hasColumn_16 : decode cX3_hasColumn 16 = .ok (.iconst 0, 1) := by decide +kernel
theorem dX3_hasColumn_17 : decode cX3_hasColumn 17 = .ok (.ireturn, 1) := by decide +kernel
theorem dX3_at_0 : decode cX3_at 0 = .ok (.aload_n 0, 1) := by decide +kernel
theorem dX3_at_1 : decode cX3_at 1 = .ok (.iload_n 1, 1) := by decide +kernel
theorem dX3_at_2 : decode cX3_at 2 = .ok (.invokevirtual 22, 3) := by decide +kernel
theorem dX3_at_5 : decode cX3_at 5 = .ok (.ifCond .eq 24, 3) := by decide +kernel
theorem dX3_at_8 : decode cX3_at 8 = .ok (.aload_n 0, 1) := by decide +kernel
theorem dX3_at_9 : decode cX3_at 9 = .ok (.iload_n 2, 1) := by decide +kernel
theorem dX3_at_10 : decode cX3_at 10 = .ok (.invokevirtual 26, 3) := by decide +kernel
theorem dX3_at_13 : decode cX3_at 13 = .ok (.ifCond .eq 16, 3) := by decide +kernel
theorem dX3_at_16 : decode cX3_at 16 = .ok (.aload_n 0, 1) := by decide +kernel
theorem dX3_at_17 : decode cX3_at 17 = .ok (.getfield 9, 3) := by decide +kernel
theorem dX3_at_20 : decode cX3_at 20 = .ok (.iload_n 1, 1) := by decide +kernel
theorem dX3_at_21 : decode cX3_at 21 = .ok (.iconst 5, 1) := by decide +kernel
theorem dX3_at_22 : decode cX3_at 22 = .ok (.imul, 1) := by decide +kernel
theorem dX3_at_23 : decode cX3_at 23 = .ok (.iload_n 2, 1) := by decide +kernel
theorem dX3_at_24 : decode cX3_at 24 = .ok (.iadd, 1) := by decide +kernel
theorem dX3_at_25 : decode cX3_at 25 = .ok (.iaload, 1) := by decide +kernel
theorem dX3_at_26 : decode cX3_at 26 = .ok (.goto 4, 3) := by decide +kernel
theorem dX3_at_29 : decode cX3_at 29 = .ok (.iconst 0, 1) := by decide +kernel
theorem dX3_at_30 : decode cX3_at 30 = .ok (.ireturn, 1) := by decide +kernel
theorem dX3_put_0 : decode cX3_put 0 = .ok (.aload_n 0, 1) := by decide +kernel
theorem dX3_put_1 : decode cX3_put 1 = .ok (.iload_n 1, 1) := by decide +kernel
theorem dX3_put_2 : decode cX3_put 2 = .ok (.invokevirtual 22, 3) := by decide +kernel
theorem dX3_put_5 : decode cX3_put 5 = .ok (.ifCond .eq 22, 3) := by decide +kernel
theorem dX3_put_8 : decode cX3_put 8 = .ok (.aload_n 0, 1) := by decide +kernel
theorem dX3_put_9 : decode cX3_put 9 = .ok (.iload_n 2, 1) := by decide +kernel
theorem dX3_put_10 : decode cX3_put 10 = .ok (.invokevirtual 26, 3) := by decide +kernel
theorem dX3_put_13 : decode cX3_put 13 = .ok (.ifCond .eq 14, 3) := by decide +kernel
theorem dX3_put_16 : decode cX3_put 16 = .ok (.aload_n 0, 1) := by decide +kernel
theorem dX3_put_17 : decode cX3_put 17 = .ok (.getfield 9, 3) := by decide +kernel
theorem dX3_put_20 : decode cX3_put 20 = .ok (.iload_n 1, 1) := by decide +kernel
theorem dX3_put_21 : decode cX3_put 21 = .ok (.iconst 5, 1) := by decide +kernel
theorem dX3_put_22 : decode cX3_put 22 = .ok (.imul, 1) := by decide +kernel
theorem dX3_put_23 : decode cX3_put 23 = .ok (.iload_n 2, 1) := by decide +kernel
theorem dX3_put_24 : decode cX3_put 24 = .ok (.iadd, 1) := by decide +kernel
theorem dX3_put_25 : decode cX3_put 25 = .ok (.iload_n 3, 1) := by decide +kernel
theorem dX3_put_26 : decode cX3_put 26 = .ok (.iastore, 1) := by decide +kernel
theorem dX3_put_27 : decode cX3_put 27 = .ok (.return_, 1) := by decide +kernel
theorem dX3_rowSum_0 : decode cX3_rowSum 0 = .ok (.iconst 0, 1) := by decide +kernel
theorem dX3_rowSum_1 : decode cX3_rowSum 1 = .ok (.istore_n 2, 1) := by decide +kernel
theorem dX3_rowSum_2 : decode cX3_rowSum 2 = .ok (.iconst 0, 1) := by decide +kernel
theorem dX3_rowSum_3 : decode cX3_rowSum 3 = .ok (.istore_n 3, 1) := by decide +kernel
theorem dX3_rowSum_4 : decode cX3_rowSum 4 = .ok (.iload_n 3, 1) := by decide +kernel
theorem dX3_rowSum_5 : decode cX3_rowSum 5 = .ok (.aload_n 0, 1) := by decide +kernel
theorem dX3_rowSum_6 : decode cX3_rowSum 6 = .ok (.getfield 19, 3) := by decide +kernel
theorem dX3_rowSum_9 : decode cX3_rowSum 9 = .ok (.if_icmp .ge 18, 3) := by decide +kernel
theorem dX3_rowSum_12 : decode cX3_rowSum 12 = .ok (.iload_n 2, 1) := by decide +kernel
theorem dX3_rowSum_13 : decode cX3_rowSum 13 = .ok (.aload_n 0, 1) := by decide +kernel
theorem dX3_rowSum_14 : decode cX3_rowSum 14 = .ok (.iload_n 1, 1) := by decide +kernel
theorem dX3_rowSum_15 : decode cX3_rowSum 15 = .ok (.iload_n 3, 1) := by decide +kernel
theorem dX3_rowSum_16 : decode cX3_rowSum 16 = .ok (.invokevirtual 29, 3) := by decide +kernel
theorem dX3_rowSum_19 : decode cX3_rowSum 19 = .ok (.iadd, 1) := by decide +kernel
theorem dX3_rowSum_20 : decode cX3_rowSum 20 = .ok (.istore_n 2, 1) := by decide +kernel
theorem dX3_rowSum_21 : decode cX3_rowSum 21 = .ok (.iinc 3 1, 3) := by decide +kernel
theorem dX3_rowSum_24 : decode cX3_rowSum 24 = .ok (.goto (-20), 3) := by decide +kernel
theorem dX3_rowSum_27 : decode cX3_rowSum 27 = .ok (.iload_n 2, 1) := by decide +kernel
theorem dX3_rowSum_28 : decode cX3_rowSum 28 = .ok (.ireturn, 1) := by decide +kernel
theorem dX3_columnSum_0 : decode cX3_columnSum 0 = .ok (.iconst 0, 1) := by decide +kernel
theorem dX3_columnSum_1 : decode cX3_columnSum 1 = .ok (.istore_n 2, 1) := by decide +kernel
theorem dX3_columnSum_2 : decode cX3_columnSum 2 = .ok (.iconst 0, 1) := by decide +kernel
theorem dX3_columnSum_3 : decode cX3_columnSum 3 = .ok (.istore_n 3, 1) := by decide +kernel
theorem dX3_columnSum_4 : decode cX3_columnSum 4 = .ok (.iload_n 3, 1) := by decide +kernel
theorem dX3_columnSum_5 : decode cX3_columnSum 5 = .ok (.aload_n 0, 1) := by decide +kernel
theorem dX3_columnSum_6 : decode cX3_columnSum 6 = .ok (.getfield 15, 3) := by decide +kernel
theorem dX3_columnSum_9 : decode cX3_columnSum 9 = .ok (.if_icmp .ge 18, 3) := by decide +kernel
theorem dX3_columnSum_12 : decode cX3_columnSum 12 = .ok (.iload_n 2, 1) := by decide +kernel
theorem dX3_columnSum_13 : decode cX3_columnSum 13 = .ok (.aload_n 0, 1) := by decide +kernel
theorem dX3_columnSum_14 : decode cX3_columnSum 14 = .ok (.iload_n 3, 1) := by decide +kernel
theorem dX3_columnSum_15 : decode cX3_columnSum 15 = .ok (.iload_n 1, 1) := by decide +kernel
theorem dX3_columnSum_16 : decode cX3_columnSum 16 = .ok (.invokevirtual 29, 3) := by decide +kernel
theorem dX3_columnSum_19 : decode cX3_columnSum 19 = .ok (.iadd, 1) := by decide +kernel
theorem dX3_columnSum_20 : decode cX3_columnSum 20 = .ok (.istore_n 2, 1) := by decide +kernel
theorem dX3_columnSum_21 : decode cX3_columnSum 21 = .ok (.iinc 3 1, 3) := by decide +kernel
theorem dX3_columnSum_24 : decode cX3_columnSum 24 = .ok (.goto (-20), 3) := by decide +kernel
theorem dX3_columnSum_27 : decode cX3_columnSum 27 = .ok (.iload_n 2, 1) := by decide +kernel
theorem dX3_columnSum_28 : decode cX3_columnSum 28 = .ok (.ireturn, 1) := by decide +kernel
theorem dX3_inAll_0 : decode cX3_inAll 0 = .ok (.iconst 0, 1) := by decide +kernel
theorem dX3_inAll_1 : decode cX3_inAll 1 = .ok (.istore_n 1, 1) := by decide +kernel
theorem dX3_inAll_2 : decode cX3_inAll 2 = .ok (.iconst 0, 1) := by decide +kernel
theorem dX3_inAll_3 : decode cX3_inAll 3 = .ok (.istore_n 2, 1) := by decide +kernel
theorem dX3_inAll_4 : decode cX3_inAll 4 = .ok (.iload_n 2, 1) := by decide +kernel
theorem dX3_inAll_5 : decode cX3_inAll 5 = .ok (.aload_n 0, 1) := by decide +kernel
theorem dX3_inAll_6 : decode cX3_inAll 6 = .ok (.getfield 9, 3) := by decide +kernel
theorem dX3_inAll_9 : decode cX3_inAll 9 = .ok (.arraylength, 1) := by decide +kernel
theorem dX3_inAll_10 : decode cX3_inAll 10 = .ok (.if_icmp .ge 18, 3) := by decide +kernel
theorem dX3_inAll_13 : decode cX3_inAll 13 = .ok (.iload_n 1, 1) := by decide +kernel
theorem dX3_inAll_14 : decode cX3_inAll 14 = .ok (.aload_n 0, 1) := by decide +kernel
theorem dX3_inAll_15 : decode cX3_inAll 15 = .ok (.getfield 9, 3) := by decide +kernel
theorem dX3_inAll_18 : decode cX3_inAll 18 = .ok (.iload_n 2, 1) := by decide +kernel
theorem dX3_inAll_19 : decode cX3_inAll 19 = .ok (.iaload, 1) := by decide +kernel
theorem dX3_inAll_20 : decode cX3_inAll 20 = .ok (.iadd, 1) := by decide +kernel
theorem dX3_inAll_21 : decode cX3_inAll 21 = .ok (.istore_n 1, 1) := by decide +kernel
theorem dX3_inAll_22 : decode cX3_inAll 22 = .ok (.iinc 2 1, 3) := by decide +kernel
theorem dX3_inAll_25 : decode cX3_inAll 25 = .ok (.goto (-21), 3) := by decide +kernel
theorem dX3_inAll_28 : decode cX3_inAll 28 = .ok (.iload_n 1, 1) := by decide +kernel
theorem dX3_inAll_29 : decode cX3_inAll 29 = .ok (.ireturn, 1) := by decide +kernel
