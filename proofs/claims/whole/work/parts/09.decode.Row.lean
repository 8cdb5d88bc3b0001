theorem dN_Row_init_0 : decode cN_Row_init 0 = .ok (.aload_n 0, 1) := by decide +kernel
theorem dN_Row_init_1 : decode cN_Row_init 1 = .ok (.invokespecial 3, 3) := by decide +kernel
theorem dN_Row_init_4 : decode cN_Row_init 4 = .ok (.aload_n 0, 1) := by decide +kernel
theorem dN_Row_init_5 : decode cN_Row_init 5 = .ok (.sipush 200, 3) := by decide +kernel
theorem dN_Row_init_8 : decode cN_Row_init 8 = .ok (.newarray .int, 2) := by decide +kernel
theorem dN_Row_init_10 : decode cN_Row_init 10 = .ok (.putfield 9, 3) := by decide +kernel
theorem dN_Row_init_13 : decode cN_Row_init 13 = .ok (.aload_n 0, 1) := by decide +kernel
theorem dN_Row_init_14 : decode cN_Row_init 14 = .ok (.iconst 0, 1) := by decide +kernel
theorem dN_Row_init_15 : decode cN_Row_init 15 = .ok (.putfield 15, 3) := by decide +kernel
theorem dN_Row_init_18 : decode cN_Row_init 18 = .ok (.aload_n 0, 1) := by decide +kernel
theorem dN_Row_init_19 : decode cN_Row_init 19 = .ok (.sipush 200, 3) := by decide +kernel
theorem dN_Row_init_22 : decode cN_Row_init 22 = .ok (.newarray .int, 2) := by decide +kernel
theorem dN_Row_init_24 : decode cN_Row_init 24 = .ok (.putfield 19, 3) := by decide +kernel
theorem dN_Row_init_27 : decode cN_Row_init 27 = .ok (.aload_n 0, 1) := by decide +kernel
theorem dN_Row_init_28 : decode cN_Row_init 28 = .ok (.iconst 1, 1) := by decide +kernel
theorem dN_Row_init_29 : decode cN_Row_init 29 = .ok (.putfield 22, 3) := by decide +kernel
theorem dN_Row_init_32 : decode cN_Row_init 32 = .ok (.return_, 1) := by decide +kernel
theorem dN_Row_empty_0 : decode cN_Row_empty 0 = .ok (.aload_n 0, 1) := by decide +kernel
theorem dN_Row_empty_1 : decode cN_Row_empty 1 = .ok (.iconst 0, 1) := by decide +kernel
theorem dN_Row_empty_2 : decode cN_Row_empty 2 = .ok (.putfield 15, 3) := by decide +kernel
theorem dN_Row_empty_5 : decode cN_Row_empty 5 = .ok (.aload_n 0, 1) := by decide +kernel
theorem dN_Row_empty_6 : decode cN_Row_empty 6 = .ok (.dup, 1) := by decide +kernel
theorem dN_Row_empty_7 : decode cN_Row_empty 7 = .ok (.getfield 22, 3) := by decide +kernel
theorem dN_Row_empty_10 : decode cN_Row_empty 10 = .ok (.iconst 1, 1) := by decide +kernel
theorem dN_Row_empty_11 : decode cN_Row_empty 11 = .ok (.iadd, 1) := by decide +kernel
theorem dN_Row_empty_12 : decode cN_Row_empty 12 = .ok (.putfield 22, 3) := by decide +kernel
theorem dN_Row_empty_15 : decode cN_Row_empty 15 = .ok (.return_, 1) := by decide +kernel
theorem dN_Row_meets_0 : decode cN_Row_meets 0 = .ok (.aload_n 0, 1) := by decide +kernel
theorem dN_Row_meets_1 : decode cN_Row_meets 1 = .ok (.getfield 19, 3) := by decide +kernel
theorem dN_Row_meets_4 : decode cN_Row_meets 4 = .ok (.iload_n 1, 1) := by decide +kernel
theorem dN_Row_meets_5 : decode cN_Row_meets 5 = .ok (.iaload, 1) := by decide +kernel
theorem dN_Row_meets_6 : decode cN_Row_meets 6 = .ok (.aload_n 0, 1) := by decide +kernel
theorem dN_Row_meets_7 : decode cN_Row_meets 7 = .ok (.getfield 22, 3) := by decide +kernel
theorem dN_Row_meets_10 : decode cN_Row_meets 10 = .ok (.if_icmp .ne 5, 3) := by decide +kernel
theorem dN_Row_meets_13 : decode cN_Row_meets 13 = .ok (.iconst 0, 1) := by decide +kernel
theorem dN_Row_meets_14 : decode cN_Row_meets 14 = .ok (.ireturn, 1) := by decide +kernel
theorem dN_Row_meets_15 : decode cN_Row_meets 15 = .ok (.aload_n 0, 1) := by decide +kernel
theorem dN_Row_meets_16 : decode cN_Row_meets 16 = .ok (.getfield 19, 3) := by decide +kernel
theorem dN_Row_meets_19 : decode cN_Row_meets 19 = .ok (.iload_n 1, 1) := by decide +kernel
theorem dN_Row_meets_20 : decode cN_Row_meets 20 = .ok (.aload_n 0, 1) := by decide +kernel
theorem dN_Row_meets_21 : decode cN_Row_meets 21 = .ok (.getfield 22, 3) := by decide +kernel
theorem dN_Row_meets_24 : decode cN_Row_meets 24 = .ok (.iastore, 1) := by decide +kernel
theorem dN_Row_meets_25 : decode cN_Row_meets 25 = .ok (.iconst 1, 1) := by decide +kernel
theorem dN_Row_meets_26 : decode cN_Row_meets 26 = .ok (.ireturn, 1) := by decide +kernel
theorem dN_Row_add_0 : decode cN_Row_add 0 = .ok (.aload_n 0, 1) := by decide +kernel
theorem dN_Row_add_1 : decode cN_Row_add 1 = .ok (.getfield 15, 3) := by decide +kernel
theorem dN_Row_add_4 : decode cN_Row_add 4 = .ok (.sipush 200, 3) := by decide +kernel
theorem dN_Row_add_7 : decode cN_Row_add 7 = .ok (.if_icmp .ge 23, 3) := by decide +kernel
theorem dN_Row_add_10 : decode cN_Row_add 10 = .ok (.aload_n 0, 1) := by decide +kernel
theorem dN_Row_add_11 : decode cN_Row_add 11 = .ok (.getfield 9, 3) := by decide +kernel
theorem dN_Row_add_14 : decode cN_Row_add 14 = .ok (.aload_n 0, 1) := by decide +kernel
theorem dN_Row_add_15 : decode cN_Row_add 15 = .ok (.getfield 15, 3) := by decide +kernel
theorem dN_Row_add_18 : decode cN_Row_add 18 = .ok (.iload_n 1, 1) := by decide +kernel
theorem dN_Row_add_19 : decode cN_Row_add 19 = .ok (.iastore, 1) := by decide +kernel
theorem dN_Row_add_20 : decode cN_Row_add 20 = .ok (.aload_n 0, 1) := by decide +kernel
theorem dN_Row_add_21 : decode cN_Row_add 21 = .ok (.dup, 1) := by decide +kernel
theorem dN_Row_add_22 : decode cN_Row_add 22 = .ok (.getfield 15, 3) := by decide +kernel
theorem dN_Row_add_25 : decode cN_Row_add 25 = .ok (.iconst 1, 1) := by decide +kernel
theorem dN_Row_add_26 : decode cN_Row_add 26 = .ok (.iadd, 1) := by decide +kernel
theorem dN_Row_add_27 : decode cN_Row_add 27 = .ok (.putfield 15, 3) := by decide +kernel
theorem dN_Row_add_30 : decode cN_Row_add 30 = .ok (.return_, 1) := by decide +kernel
