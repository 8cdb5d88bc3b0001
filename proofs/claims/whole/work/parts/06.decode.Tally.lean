theorem dN_Tally_init_0 : decode cN_Tally_init 0 = .ok (.aload_n 0, 1) := by decide +kernel
theorem dN_Tally_init_1 : decode cN_Tally_init 1 = .ok (.invokespecial 1, 3) := by decide +kernel
theorem dN_Tally_init_4 : decode cN_Tally_init 4 = .ok (.aload_n 0, 1) := by decide +kernel
theorem dN_Tally_init_5 : decode cN_Tally_init 5 = .ok (.iconst 0, 1) := by decide +kernel
theorem dN_Tally_init_6 : decode cN_Tally_init 6 = .ok (.putfield 7, 3) := by decide +kernel
theorem dN_Tally_init_9 : decode cN_Tally_init 9 = .ok (.aload_n 0, 1) := by decide +kernel
theorem dN_Tally_init_10 : decode cN_Tally_init 10 = .ok (.iconst 0, 1) := by decide +kernel
theorem dN_Tally_init_11 : decode cN_Tally_init 11 = .ok (.putfield 13, 3) := by decide +kernel
theorem dN_Tally_init_14 : decode cN_Tally_init 14 = .ok (.return_, 1) := by decide +kernel
theorem dN_Tally_count_0 : decode cN_Tally_count 0 = .ok (.aload_n 0, 1) := by decide +kernel
theorem dN_Tally_count_1 : decode cN_Tally_count 1 = .ok (.dup, 1) := by decide +kernel
theorem dN_Tally_count_2 : decode cN_Tally_count 2 = .ok (.getfield 7, 3) := by decide +kernel
theorem dN_Tally_count_5 : decode cN_Tally_count 5 = .ok (.iconst 1, 1) := by decide +kernel
theorem dN_Tally_count_6 : decode cN_Tally_count 6 = .ok (.iadd, 1) := by decide +kernel
theorem dN_Tally_count_7 : decode cN_Tally_count 7 = .ok (.putfield 7, 3) := by decide +kernel
theorem dN_Tally_count_10 : decode cN_Tally_count 10 = .ok (.return_, 1) := by decide +kernel
theorem dN_Tally_open_0 : decode cN_Tally_open 0 = .ok (.aload_n 0, 1) := by decide +kernel
theorem dN_Tally_open_1 : decode cN_Tally_open 1 = .ok (.iconst 0, 1) := by decide +kernel
theorem dN_Tally_open_2 : decode cN_Tally_open 2 = .ok (.putfield 7, 3) := by decide +kernel
theorem dN_Tally_open_5 : decode cN_Tally_open 5 = .ok (.return_, 1) := by decide +kernel
theorem dN_Tally_close_0 : decode cN_Tally_close 0 = .ok (.aload_n 0, 1) := by decide +kernel
theorem dN_Tally_close_1 : decode cN_Tally_close 1 = .ok (.getfield 7, 3) := by decide +kernel
theorem dN_Tally_close_4 : decode cN_Tally_close 4 = .ok (.iload_n 1, 1) := by decide +kernel
theorem dN_Tally_close_5 : decode cN_Tally_close 5 = .ok (.if_icmp .le 13, 3) := by decide +kernel
theorem dN_Tally_close_8 : decode cN_Tally_close 8 = .ok (.aload_n 0, 1) := by decide +kernel
theorem dN_Tally_close_9 : decode cN_Tally_close 9 = .ok (.dup, 1) := by decide +kernel
theorem dN_Tally_close_10 : decode cN_Tally_close 10 = .ok (.getfield 13, 3) := by decide +kernel
theorem dN_Tally_close_13 : decode cN_Tally_close 13 = .ok (.iconst 1, 1) := by decide +kernel
theorem dN_Tally_close_14 : decode cN_Tally_close 14 = .ok (.iadd, 1) := by decide +kernel
theorem dN_Tally_close_15 : decode cN_Tally_close 15 = .ok (.putfield 13, 3) := by decide +kernel
theorem dN_Tally_close_18 : decode cN_Tally_close 18 = .ok (.return_, 1) := by decide +kernel
