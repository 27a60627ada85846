theorem dX5_init_0 : decode cX5_init 0 = .ok (.aload_n 0, 1) := by decide +kernel
theorem dX5_init_1 : decode cX5_init 1 = .ok (.invokespecial 1, 3) := by decide +kernel
theorem dX5_init_4 : decode cX5_init 4 = .ok (.aload_n 0, 1) := by decide +kernel
theorem dX5_init_5 : decode cX5_init 5 = .ok (.iconst 0, 1) := by decide +kernel
theorem dX5_init_6 : decode cX5_init 6 = .ok (.iload_n 1, 1) := by decide +kernel
theorem dX5_init_7 : decode cX5_init 7 = .ok (.invokestatic 7, 3) := by decide +kernel
theorem dX5_init_10 : decode cX5_init 10 = .ok (.newarray .int, 2) := by decide +kernel
theorem dX5_init_12 : decode cX5_init 12 = .ok (.putfield 13, 3) := by decide +kernel
theorem dX5_init_15 : decode cX5_init 15 = .ok (.return_, 1) := by decide +kernel
theorem dX5_size_0 : decode cX5_size 0 = .ok (.aload_n 0, 1) := by decide +kernel
theorem dX5_size_1 : decode cX5_size 1 = .ok (.getfield 19, 3) := by decide +kernel
theorem dX5_size_4 : decode cX5_size 4 = .ok (.ireturn, 1) := by decide +kernel
theorem dX5_isFull_0 : decode cX5_isFull 0 = .ok (.aload_n 0, 1) := by decide +kernel
theorem dX5_isFull_1 : decode cX5_isFull 1 = .ok (.getfield 19, 3) := by decide +kernel
theorem dX5_isFull_4 : decode cX5_isFull 4 = .ok (.aload_n 0, 1) := by decide +kernel
theorem dX5_isFull_5 : decode cX5_isFull 5 = .ok (.getfield 13, 3) := by decide +kernel
theorem dX5_isFull_8 : decode cX5_isFull 8 = .ok (.arraylength, 1) := by decide +kernel
theorem dX5_isFull_9 : decode cX5_isFull 9 = .ok (.if_icmp .lt 7, 3) := by decide +kernel
theorem dX5_isFull_12 : decode cX5_isFull 12 = .ok (.iconst 1, 1) := by decide +kernel
theorem dX5_isFull_13 : decode cX5_isFull 13 = .ok (.goto 4, 3) := by decide +kernel
theorem dX5_isFull_16 : decode cX5_isFull 16 = .ok (.iconst 0, 1) := by decide +kernel
theorem dX5_isFull_17 : decode cX5_isFull 17 = .ok (.ireturn, 1) := by decide +kernel
theorem dX5_has_0 : decode cX5_has 0 = .ok (.iload_n 1, 1) := by decide +kernel
theorem dX5_has_1 : decode cX5_has 1 = .ok (.ifCond .lt 15, 3) := by decide +kernel
theorem dX5_has_4 : decode cX5_has 4 = .ok (.iload_n 1, 1) := by decide +kernel
theorem dX5_has_5 : decode cX5_has 5 = .ok (.aload_n 0, 1) := by decide +kernel
theorem dX5_has_6 : decode cX5_has 6 = .ok (.getfield 19, 3) := by decide +kernel
theorem dX5_has_9 : decode cX5_has 9 = .ok (.if_icmp .ge 7, 3) := by decide +kernel
theorem dX5_has_12 : decode cX5_has 12 = .ok (.iconst 1, 1) := by decide +kernel
theorem dX5_has_13 : decode cX5_has 13 = .ok (.goto 4, 3) := by decide +kernel
theorem dX5_has_16 : decode cX5_has 16 = .ok (.iconst 0, 1) := by decide +kernel
theorem dX5_has_17 : decode cX5_has 17 = .ok (.ireturn, 1) := by decide +kernel
theorem dX5_get_0 : decode cX5_get 0 = .ok (.aload_n 0, 1) := by decide +kernel
theorem dX5_get_1 : decode cX5_get 1 = .ok (.iload_n 1, 1) := by decide +kernel
theorem dX5_get_2 : decode cX5_get 2 = .ok (.invokevirtual 23, 3) := by decide +kernel
theorem dX5_get_5 : decode cX5_get 5 = .ok (.ifCond .eq 12, 3) := by decide +kernel
theorem dX5_get_8 : decode cX5_get 8 = .ok (.aload_n 0, 1) := by decide +kernel
theorem dX5_get_9 : decode cX5_get 9 = .ok (.getfield 13, 3) := by decide +kernel
theorem dX5_get_12 : decode cX5_get 12 = .ok (.iload_n 1, 1) := by decide +kernel
theorem dX5_get_13 : decode cX5_get 13 = .ok (.iaload, 1) := by decide +kernel
theorem dX5_get_14 : decode cX5_get 14 = .ok (.goto 4, 3) := by decide +kernel
theorem dX5_get_17 : decode cX5_get 17 = .ok (.iconst 0, 1) := by decide +kernel
theorem dX5_get_18 : decode cX5_get 18 = .ok (.ireturn, 1) := by decide +kernel
theorem dX5_add_0 : decode cX5_add 0 = .ok (.aload_n 0, 1) := by decide +kernel
theorem dX5_add_1 : decode cX5_add 1 = .ok (.invokevirtual 27, 3) := by decide +kernel
theorem dX5_add_4 : decode cX5_add 4 = .ok (.ifCond .ne 23, 3) := by decide +kernel
theorem dX5_add_7 : decode cX5_add 7 = .ok (.aload_n 0, 1) := by decide +kernel
theorem dX5_add_8 : decode cX5_add 8 = .ok (.getfield 13, 3) := by decide +kernel
theorem dX5_add_11 : decode cX5_add 11 = .ok (.aload_n 0, 1) := by decide +kernel
theorem dX5_add_12 : decode cX5_add 12 = .ok (.getfield 19, 3) := by decide +kernel
theorem dX5_add_15 : decode cX5_add 15 = .ok (.iload_n 1, 1) := by decide +kernel
theorem dX5_add_16 : decode cX5_add 16 = .ok (.iastore, 1) := by decide +kernel
theorem dX5_add_17 : decode cX5_add 17 = .ok (.aload_n 0, 1) := by decide +kernel
theorem dX5_add_18 : decode cX5_add 18 = .ok (.dup, 1) := by decide +kernel
theorem dX5_add_19 : decode cX5_add 19 = .ok (.getfield 19, 3) := by decide +kernel
theorem dX5_add_22 : decode cX5_add 22 = .ok (.iconst 1, 1) := by decide +kernel
theorem dX5_add_23 : decode cX5_add 23 = .ok (.iadd, 1) := by decide +kernel
theorem dX5_add_24 : decode cX5_add 24 = .ok (.putfield 19, 3) := by decide +kernel
theorem dX5_add_27 : decode cX5_add 27 = .ok (.aload_n 0, 1) := by decide +kernel
theorem dX5_add_28 : decode cX5_add 28 = .ok (.getfield 19, 3) := by decide +kernel
theorem dX5_add_31 : decode cX5_add 31 = .ok (.ireturn, 1) := by decide +kernel
theorem dX5_empty_0 : decode cX5_empty 0 = .ok (.aload_n 0, 1) := by decide +kernel
theorem dX5_empty_1 : decode cX5_empty 1 = .ok (.getfield 19, 3) := by decide +kernel
theorem dX5_empty_4 : decode cX5_empty 4 = .ok (.istore_n 1, 1) := by decide +kernel
theorem dX5_empty_5 : decode cX5_empty 5 = .ok (.aload_n 0, 1) := by decide +kernel
theorem dX5_empty_6 : decode cX5_empty 6 = .ok (.iconst 0, 1) := by decide +kernel
theorem dX5_empty_7 : decode cX5_empty 7 = .ok (.putfield 19, 3) := by decide +kernel
theorem dX5_empty_10 : decode cX5_empty 10 = .ok (.iload_n 1, 1) := by decide +kernel
theorem dX5_empty_11 : decode cX5_empty 11 = .ok (.ireturn, 1) := by decide +kernel
theorem dX5_countOf_0 : decode cX5_countOf 0 = .ok (.iconst 0, 1) := by decide +kernel
theorem dX5_countOf_1 : decode cX5_countOf 1 = .ok (.istore_n 2, 1) := by decide +kernel
theorem dX5_countOf_2 : decode cX5_countOf 2 = .ok (.iconst 0, 1) := by decide +kernel
theorem dX5_countOf_3 : decode cX5_countOf 3 = .ok (.istore_n 3, 1) := by decide +kernel
theorem dX5_countOf_4 : decode cX5_countOf 4 = .ok (.iload_n 3, 1) := by decide +kernel
theorem dX5_countOf_5 : decode cX5_countOf 5 = .ok (.aload_n 0, 1) := by decide +kernel
theorem dX5_countOf_6 : decode cX5_countOf 6 = .ok (.getfield 19, 3) := by decide +kernel
theorem dX5_countOf_9 : decode cX5_countOf 9 = .ok (.if_icmp .ge 27, 3) := by decide +kernel
theorem dX5_countOf_12 : decode cX5_countOf 12 = .ok (.iload_n 2, 1) := by decide +kernel
theorem dX5_countOf_13 : decode cX5_countOf 13 = .ok (.aload_n 0, 1) := by decide +kernel
theorem dX5_countOf_14 : decode cX5_countOf 14 = .ok (.getfield 13, 3) := by decide +kernel
theorem dX5_countOf_17 : decode cX5_countOf 17 = .ok (.iload_n 3, 1) := by decide +kernel
theorem dX5_countOf_18 : decode cX5_countOf 18 = .ok (.iaload, 1) := by decide +kernel
theorem dX5_countOf_19 : decode cX5_countOf 19 = .ok (.iload_n 1, 1) := by decide +kernel
theorem dX5_countOf_20 : decode cX5_countOf 20 = .ok (.if_icmp .ne 7, 3) := by decide +kernel
theorem dX5_countOf_23 : decode cX5_countOf 23 = .ok (.iconst 1, 1) := by decide +kernel
theorem dX5_countOf_24 : decode cX5_countOf 24 = .ok (.goto 4, 3) := by decide +kernel
theorem dX5_countOf_27 : decode cX5_countOf 27 = .ok (.iconst 0, 1) := by decide +kernel
theorem dX5_countOf_28 : decode cX5_countOf 28 = .ok (.iadd, 1) := by decide +kernel
theorem dX5_countOf_29 : decode cX5_countOf 29 = .ok (.istore_n 2, 1) := by decide +kernel
theorem dX5_countOf_30 : decode cX5_countOf 30 = .ok (.iinc 3 1, 3) := by decide +kernel
theorem dX5_countOf_33 : decode cX5_countOf 33 = .ok (.goto (-29), 3) := by decide +kernel
theorem dX5_countOf_36 : decode cX5_countOf 36 = .ok (.iload_n 2, 1) := by decide +kernel
theorem dX5_countOf_37 : decode cX5_countOf 37 = .ok (.ireturn, 1) := by decide +kernel
theorem dX5_countBelow_0 : decode cX5_countBelow 0 = .ok (.iconst 0, 1) := by decide +kernel
theorem dX5_countBelow_1 : decode cX5_countBelow 1 = .ok (.istore_n 2, 1) := by decide +kernel
theorem dX5_countBelow_2 : decode cX5_countBelow 2 = .ok (.iconst 0, 1) := by decide +kernel
theorem dX5_countBelow_3 : decode cX5_countBelow 3 = .ok (.istore_n 3, 1) := by decide +kernel
theorem dX5_countBelow_4 : decode cX5_countBelow 4 = .ok (.iload_n 3, 1) := by decide +kernel
theorem dX5_countBelow_5 : decode cX5_countBelow 5 = .ok (.aload_n 0, 1) := by decide +kernel
theorem dX5_countBelow_6 : decode cX5_countBelow 6 = .ok (.getfield 19, 3) := by decide +kernel
theorem dX5_countBelow_9 : decode cX5_countBelow 9 = .ok (.if_icmp .ge 27, 3) := by decide +kernel
theorem dX5_countBelow_12 : decode cX5_countBelow 12 = .ok (.iload_n 2, 1) := by decide +kernel
theorem dX5_countBelow_13 : decode cX5_countBelow 13 = .ok (.aload_n 0, 1) := by decide +kernel
theorem dX5_countBelow_14 : decode cX5_countBelow 14 = .ok (.getfield 13, 3) := by decide +kernel
theorem dX5_countBelow_17 : decode cX5_countBelow 17 = .ok (.iload_n 3, 1) := by decide +kernel
theorem dX5_countBelow_18 : decode cX5_countBelow 18 = .ok (.iaload, 1) := by decide +kernel
theorem dX5_countBelow_19 : decode cX5_countBelow 19 = .ok (.iload_n 1, 1) := by decide +kernel
theorem dX5_countBelow_20 : decode cX5_countBelow 20 = .ok (.if_icmp .ge 7, 3) := by decide +kernel
theorem dX5_countBelow_23 : decode cX5_countBelow 23 = .ok (.iconst 1, 1) := by decide +kernel
theorem dX5_countBelow_24 : decode cX5_countBelow 24 = .ok (.goto 4, 3) := by decide +kernel
theorem dX5_countBelow_27 : decode cX5_countBelow 27 = .ok (.iconst 0, 1) := by decide +kernel
theorem dX5_countBelow_28 : decode cX5_countBelow 28 = .ok (.iadd, 1) := by decide +kernel
theorem dX5_countBelow_29 : decode cX5_countBelow 29 = .ok (.istore_n 2, 1) := by decide +kernel
theorem dX5_countBelow_30 : decode cX5_countBelow 30 = .ok (.iinc 3 1, 3) := by decide +kernel
theorem dX5_countBelow_33 : decode cX5_countBelow 33 = .ok (.goto (-29), 3) := by decide +kernel
theorem dX5_countBelow_36 : decode cX5_countBelow 36 = .ok (.iload_n 2, 1) := by decide +kernel
theorem dX5_countBelow_37 : decode cX5_countBelow 37 = .ok (.ireturn, 1) := by decide +kernel
