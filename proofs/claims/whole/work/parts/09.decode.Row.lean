theorem dN_Row_init_0 : decode cN_Row_init 0 = .ok (.aload_n 0, 1) := by decide +kernel
theorem dN_Row_init_1 : decode cN_Row_init 1 = .ok (.invokespecial 3, 3) := by decide +kernel
theorem dN_Row_init_4 : decode cN_Row_init 4 = .ok (.aload_n 0, 1) := by decide +kernel
theorem dN_Row_init_5 : decode cN_Row_init 5 = .ok (.sipush 200, 3) := by decide +kernel
theorem dN_Row_init_8 : decode cN_Row_init 8 = .ok (.newarray .int, 2) := by decide +kernel
theorem dN_Row_init_10 : decode cN_Row_init 10 = .ok (.putfield 9, 3) := by decide +kernel
theorem dN_Row_init_13 : decode cN_Row_init 13 = .ok (.aload_n 0, 1) := by decide +kernel
theorem dN_Row_init_14 : decode cN_Row_init 14 = .ok (.sipush 200, 3) := by decide +kernel
theorem dN_Row_init_17 : decode cN_Row_init 17 = .ok (.newarray .int, 2) := by decide +kernel
theorem dN_Row_init_19 : decode cN_Row_init 19 = .ok (.putfield 15, 3) := by decide +kernel
theorem dN_Row_init_22 : decode cN_Row_init 22 = .ok (.aload_n 0, 1) := by decide +kernel
theorem dN_Row_init_23 : decode cN_Row_init 23 = .ok (.iconst 0, 1) := by decide +kernel
theorem dN_Row_init_24 : decode cN_Row_init 24 = .ok (.putfield 18, 3) := by decide +kernel
theorem dN_Row_init_27 : decode cN_Row_init 27 = .ok (.aload_n 0, 1) := by decide +kernel
theorem dN_Row_init_28 : decode cN_Row_init 28 = .ok (.iconst 1, 1) := by decide +kernel
theorem dN_Row_init_29 : decode cN_Row_init 29 = .ok (.putfield 22, 3) := by decide +kernel
theorem dN_Row_init_32 : decode cN_Row_init 32 = .ok (.return_, 1) := by decide +kernel
theorem dN_Row_empty_0 : decode cN_Row_empty 0 = .ok (.aload_n 0, 1) := by decide +kernel
theorem dN_Row_empty_1 : decode cN_Row_empty 1 = .ok (.iconst 0, 1) := by decide +kernel
theorem dN_Row_empty_2 : decode cN_Row_empty 2 = .ok (.putfield 18, 3) := by decide +kernel
theorem dN_Row_empty_5 : decode cN_Row_empty 5 = .ok (.aload_n 0, 1) := by decide +kernel
theorem dN_Row_empty_6 : decode cN_Row_empty 6 = .ok (.dup, 1) := by decide +kernel
theorem dN_Row_empty_7 : decode cN_Row_empty 7 = .ok (.getfield 22, 3) := by decide +kernel
theorem dN_Row_empty_10 : decode cN_Row_empty 10 = .ok (.iconst 1, 1) := by decide +kernel
theorem dN_Row_empty_11 : decode cN_Row_empty 11 = .ok (.iadd, 1) := by decide +kernel
theorem dN_Row_empty_12 : decode cN_Row_empty 12 = .ok (.putfield 22, 3) := by decide +kernel
theorem dN_Row_empty_15 : decode cN_Row_empty 15 = .ok (.return_, 1) := by decide +kernel
theorem dN_Row_meets_0 : decode cN_Row_meets 0 = .ok (.iload_n 1, 1) := by decide +kernel
theorem dN_Row_meets_1 : decode cN_Row_meets 1 = .ok (.ifCond .lt 23, 3) := by decide +kernel
theorem dN_Row_meets_4 : decode cN_Row_meets 4 = .ok (.iload_n 1, 1) := by decide +kernel
theorem dN_Row_meets_5 : decode cN_Row_meets 5 = .ok (.sipush 200, 3) := by decide +kernel
theorem dN_Row_meets_8 : decode cN_Row_meets 8 = .ok (.if_icmp .ge 16, 3) := by decide +kernel
theorem dN_Row_meets_11 : decode cN_Row_meets 11 = .ok (.aload_n 0, 1) := by decide +kernel
theorem dN_Row_meets_12 : decode cN_Row_meets 12 = .ok (.getfield 15, 3) := by decide +kernel
theorem dN_Row_meets_15 : decode cN_Row_meets 15 = .ok (.iload_n 1, 1) := by decide +kernel
theorem dN_Row_meets_16 : decode cN_Row_meets 16 = .ok (.iaload, 1) := by decide +kernel
theorem dN_Row_meets_17 : decode cN_Row_meets 17 = .ok (.aload_n 0, 1) := by decide +kernel
theorem dN_Row_meets_18 : decode cN_Row_meets 18 = .ok (.getfield 22, 3) := by decide +kernel
theorem dN_Row_meets_21 : decode cN_Row_meets 21 = .ok (.if_icmp .ne 5, 3) := by decide +kernel
theorem dN_Row_meets_24 : decode cN_Row_meets 24 = .ok (.iconst 0, 1) := by decide +kernel
theorem dN_Row_meets_25 : decode cN_Row_meets 25 = .ok (.ireturn, 1) := by decide +kernel
theorem dN_Row_meets_26 : decode cN_Row_meets 26 = .ok (.aload_n 0, 1) := by decide +kernel
theorem dN_Row_meets_27 : decode cN_Row_meets 27 = .ok (.getfield 15, 3) := by decide +kernel
theorem dN_Row_meets_30 : decode cN_Row_meets 30 = .ok (.iload_n 1, 1) := by decide +kernel
theorem dN_Row_meets_31 : decode cN_Row_meets 31 = .ok (.aload_n 0, 1) := by decide +kernel
theorem dN_Row_meets_32 : decode cN_Row_meets 32 = .ok (.getfield 22, 3) := by decide +kernel
theorem dN_Row_meets_35 : decode cN_Row_meets 35 = .ok (.iastore, 1) := by decide +kernel
theorem dN_Row_meets_36 : decode cN_Row_meets 36 = .ok (.iconst 1, 1) := by decide +kernel
theorem dN_Row_meets_37 : decode cN_Row_meets 37 = .ok (.ireturn, 1) := by decide +kernel
theorem dN_Row_add_0 : decode cN_Row_add 0 = .ok (.aload_n 0, 1) := by decide +kernel
theorem dN_Row_add_1 : decode cN_Row_add 1 = .ok (.getfield 18, 3) := by decide +kernel
theorem dN_Row_add_4 : decode cN_Row_add 4 = .ok (.sipush 200, 3) := by decide +kernel
theorem dN_Row_add_7 : decode cN_Row_add 7 = .ok (.if_icmp .ge 23, 3) := by decide +kernel
theorem dN_Row_add_10 : decode cN_Row_add 10 = .ok (.aload_n 0, 1) := by decide +kernel
theorem dN_Row_add_11 : decode cN_Row_add 11 = .ok (.getfield 9, 3) := by decide +kernel
theorem dN_Row_add_14 : decode cN_Row_add 14 = .ok (.aload_n 0, 1) := by decide +kernel
theorem dN_Row_add_15 : decode cN_Row_add 15 = .ok (.getfield 18, 3) := by decide +kernel
theorem dN_Row_add_18 : decode cN_Row_add 18 = .ok (.iload_n 1, 1) := by decide +kernel
theorem dN_Row_add_19 : decode cN_Row_add 19 = .ok (.iastore, 1) := by decide +kernel
theorem dN_Row_add_20 : decode cN_Row_add 20 = .ok (.aload_n 0, 1) := by decide +kernel
theorem dN_Row_add_21 : decode cN_Row_add 21 = .ok (.dup, 1) := by decide +kernel
theorem dN_Row_add_22 : decode cN_Row_add 22 = .ok (.getfield 18, 3) := by decide +kernel
theorem dN_Row_add_25 : decode cN_Row_add 25 = .ok (.iconst 1, 1) := by decide +kernel
theorem dN_Row_add_26 : decode cN_Row_add 26 = .ok (.iadd, 1) := by decide +kernel
theorem dN_Row_add_27 : decode cN_Row_add 27 = .ok (.putfield 18, 3) := by decide +kernel
theorem dN_Row_add_30 : decode cN_Row_add 30 = .ok (.return_, 1) := by decide +kernel
theorem dN_Row_count_0 : decode cN_Row_count 0 = .ok (.aload_n 0, 1) := by decide +kernel
theorem dN_Row_count_1 : decode cN_Row_count 1 = .ok (.getfield 18, 3) := by decide +kernel
theorem dN_Row_count_4 : decode cN_Row_count 4 = .ok (.ireturn, 1) := by decide +kernel
theorem dN_Row_get_0 : decode cN_Row_get 0 = .ok (.iload_n 1, 1) := by decide +kernel
theorem dN_Row_get_1 : decode cN_Row_get 1 = .ok (.ifCond .lt 20, 3) := by decide +kernel
theorem dN_Row_get_4 : decode cN_Row_get 4 = .ok (.iload_n 1, 1) := by decide +kernel
theorem dN_Row_get_5 : decode cN_Row_get 5 = .ok (.aload_n 0, 1) := by decide +kernel
theorem dN_Row_get_6 : decode cN_Row_get 6 = .ok (.getfield 18, 3) := by decide +kernel
theorem dN_Row_get_9 : decode cN_Row_get 9 = .ok (.if_icmp .ge 12, 3) := by decide +kernel
theorem dN_Row_get_12 : decode cN_Row_get 12 = .ok (.aload_n 0, 1) := by decide +kernel
theorem dN_Row_get_13 : decode cN_Row_get 13 = .ok (.getfield 9, 3) := by decide +kernel
theorem dN_Row_get_16 : decode cN_Row_get 16 = .ok (.iload_n 1, 1) := by decide +kernel
theorem dN_Row_get_17 : decode cN_Row_get 17 = .ok (.iaload, 1) := by decide +kernel
theorem dN_Row_get_18 : decode cN_Row_get 18 = .ok (.goto 4, 3) := by decide +kernel
theorem dN_Row_get_21 : decode cN_Row_get 21 = .ok (.iconst (-1), 1) := by decide +kernel
theorem dN_Row_get_22 : decode cN_Row_get 22 = .ok (.ireturn, 1) := by decide +kernel
