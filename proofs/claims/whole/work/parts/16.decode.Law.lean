theorem dN_Law_lay_0 : decode cN_Law_lay 0 = .ok (.aload_n 0, 1) := by decide +kernel
theorem dN_Law_lay_1 : decode cN_Law_lay 1 = .ok (.iload_n 1, 1) := by decide +kernel
theorem dN_Law_lay_2 : decode cN_Law_lay 2 = .ok (.invokevirtual 7, 3) := by decide +kernel
theorem dN_Law_lay_5 : decode cN_Law_lay 5 = .ok (.goto 6, 3) := by decide +kernel
theorem dN_Law_lay_8 : decode cN_Law_lay 8 = .ok (.astore_n 2, 1) := by decide +kernel
theorem dN_Law_lay_9 : decode cN_Law_lay 9 = .ok (.iconst 1, 1) := by decide +kernel
theorem dN_Law_lay_10 : decode cN_Law_lay 10 = .ok (.ireturn, 1) := by decide +kernel
theorem dN_Law_lay_11 : decode cN_Law_lay 11 = .ok (.iconst 0, 1) := by decide +kernel
theorem dN_Law_lay_12 : decode cN_Law_lay 12 = .ok (.ireturn, 1) := by decide +kernel
theorem dN_Law_step_0 : decode cN_Law_step 0 = .ok (.aload_n 0, 1) := by decide +kernel
theorem dN_Law_step_1 : decode cN_Law_step 1 = .ok (.iload_n 1, 1) := by decide +kernel
theorem dN_Law_step_2 : decode cN_Law_step 2 = .ok (.iload_n 2, 1) := by decide +kernel
theorem dN_Law_step_3 : decode cN_Law_step 3 = .ok (.iload_n 3, 1) := by decide +kernel
theorem dN_Law_step_4 : decode cN_Law_step 4 = .ok (.iload 4, 2) := by decide +kernel
theorem dN_Law_step_6 : decode cN_Law_step 6 = .ok (.iload 5, 2) := by decide +kernel
theorem dN_Law_step_8 : decode cN_Law_step 8 = .ok (.invokevirtual 15, 3) := by decide +kernel
theorem dN_Law_step_11 : decode cN_Law_step 11 = .ok (.goto 11, 3) := by decide +kernel
theorem dN_Law_step_14 : decode cN_Law_step 14 = .ok (.astore 6, 2) := by decide +kernel
theorem dN_Law_step_16 : decode cN_Law_step 16 = .ok (.iconst 1, 1) := by decide +kernel
theorem dN_Law_step_17 : decode cN_Law_step 17 = .ok (.ireturn, 1) := by decide +kernel
theorem dN_Law_step_18 : decode cN_Law_step 18 = .ok (.astore 6, 2) := by decide +kernel
theorem dN_Law_step_20 : decode cN_Law_step 20 = .ok (.iconst 2, 1) := by decide +kernel
theorem dN_Law_step_21 : decode cN_Law_step 21 = .ok (.ireturn, 1) := by decide +kernel
theorem dN_Law_step_22 : decode cN_Law_step 22 = .ok (.iconst 0, 1) := by decide +kernel
theorem dN_Law_step_23 : decode cN_Law_step 23 = .ok (.ireturn, 1) := by decide +kernel
theorem dN_Law_begin_0 : decode cN_Law_begin 0 = .ok (.aload_n 0, 1) := by decide +kernel
theorem dN_Law_begin_1 : decode cN_Law_begin 1 = .ok (.iload_n 1, 1) := by decide +kernel
theorem dN_Law_begin_2 : decode cN_Law_begin 2 = .ok (.invokevirtual 21, 3) := by decide +kernel
theorem dN_Law_begin_5 : decode cN_Law_begin 5 = .ok (.goto 6, 3) := by decide +kernel
theorem dN_Law_begin_8 : decode cN_Law_begin 8 = .ok (.astore_n 2, 1) := by decide +kernel
theorem dN_Law_begin_9 : decode cN_Law_begin 9 = .ok (.iconst 1, 1) := by decide +kernel
theorem dN_Law_begin_10 : decode cN_Law_begin 10 = .ok (.ireturn, 1) := by decide +kernel
theorem dN_Law_begin_11 : decode cN_Law_begin 11 = .ok (.iconst 0, 1) := by decide +kernel
theorem dN_Law_begin_12 : decode cN_Law_begin 12 = .ok (.ireturn, 1) := by decide +kernel
theorem dN_Law_match_0 : decode cN_Law_match 0 = .ok (.aload 5, 2) := by decide +kernel
theorem dN_Law_match_2 : decode cN_Law_match 2 = .ok (.iconst 0, 1) := by decide +kernel
theorem dN_Law_match_3 : decode cN_Law_match 3 = .ok (.aload_n 0, 1) := by decide +kernel
theorem dN_Law_match_4 : decode cN_Law_match 4 = .ok (.iload_n 1, 1) := by decide +kernel
theorem dN_Law_match_5 : decode cN_Law_match 5 = .ok (.iload_n 2, 1) := by decide +kernel
theorem dN_Law_match_6 : decode cN_Law_match 6 = .ok (.iload_n 3, 1) := by decide +kernel
theorem dN_Law_match_7 : decode cN_Law_match 7 = .ok (.iload 4, 2) := by decide +kernel
theorem dN_Law_match_9 : decode cN_Law_match 9 = .ok (.invokevirtual 24, 3) := by decide +kernel
theorem dN_Law_match_12 : decode cN_Law_match 12 = .ok (.i2l, 1) := by decide +kernel
theorem dN_Law_match_13 : decode cN_Law_match 13 = .ok (.lastore, 1) := by decide +kernel
theorem dN_Law_match_14 : decode cN_Law_match 14 = .ok (.goto 7, 3) := by decide +kernel
theorem dN_Law_match_17 : decode cN_Law_match 17 = .ok (.astore 6, 2) := by decide +kernel
theorem dN_Law_match_19 : decode cN_Law_match 19 = .ok (.iconst 1, 1) := by decide +kernel
theorem dN_Law_match_20 : decode cN_Law_match 20 = .ok (.ireturn, 1) := by decide +kernel
theorem dN_Law_match_21 : decode cN_Law_match 21 = .ok (.iconst 0, 1) := by decide +kernel
theorem dN_Law_match_22 : decode cN_Law_match 22 = .ok (.ireturn, 1) := by decide +kernel
theorem dN_Law_ends_0 : decode cN_Law_ends 0 = .ok (.aload 4, 2) := by decide +kernel
theorem dN_Law_ends_2 : decode cN_Law_ends 2 = .ok (.iconst 0, 1) := by decide +kernel
theorem dN_Law_ends_3 : decode cN_Law_ends 3 = .ok (.aload_n 0, 1) := by decide +kernel
theorem dN_Law_ends_4 : decode cN_Law_ends 4 = .ok (.iload_n 1, 1) := by decide +kernel
theorem dN_Law_ends_5 : decode cN_Law_ends 5 = .ok (.iload_n 2, 1) := by decide +kernel
theorem dN_Law_ends_6 : decode cN_Law_ends 6 = .ok (.iload_n 3, 1) := by decide +kernel
theorem dN_Law_ends_7 : decode cN_Law_ends 7 = .ok (.invokevirtual 28, 3) := by decide +kernel
theorem dN_Law_ends_10 : decode cN_Law_ends 10 = .ok (.i2l, 1) := by decide +kernel
theorem dN_Law_ends_11 : decode cN_Law_ends 11 = .ok (.lastore, 1) := by decide +kernel
theorem dN_Law_ends_12 : decode cN_Law_ends 12 = .ok (.goto 7, 3) := by decide +kernel
theorem dN_Law_ends_15 : decode cN_Law_ends 15 = .ok (.astore 5, 2) := by decide +kernel
theorem dN_Law_ends_17 : decode cN_Law_ends 17 = .ok (.iconst 1, 1) := by decide +kernel
theorem dN_Law_ends_18 : decode cN_Law_ends 18 = .ok (.ireturn, 1) := by decide +kernel
theorem dN_Law_ends_19 : decode cN_Law_ends 19 = .ok (.iconst 0, 1) := by decide +kernel
theorem dN_Law_ends_20 : decode cN_Law_ends 20 = .ok (.ireturn, 1) := by decide +kernel
theorem dN_Law_keep_0 : decode cN_Law_keep 0 = .ok (.aload_n 0, 1) := by decide +kernel
theorem dN_Law_keep_1 : decode cN_Law_keep 1 = .ok (.iload_n 1, 1) := by decide +kernel
theorem dN_Law_keep_2 : decode cN_Law_keep 2 = .ok (.invokevirtual 32, 3) := by decide +kernel
theorem dN_Law_keep_5 : decode cN_Law_keep 5 = .ok (.goto 6, 3) := by decide +kernel
theorem dN_Law_keep_8 : decode cN_Law_keep 8 = .ok (.astore_n 2, 1) := by decide +kernel
theorem dN_Law_keep_9 : decode cN_Law_keep 9 = .ok (.iconst 1, 1) := by decide +kernel
theorem dN_Law_keep_10 : decode cN_Law_keep 10 = .ok (.ireturn, 1) := by decide +kernel
theorem dN_Law_keep_11 : decode cN_Law_keep 11 = .ok (.iconst 0, 1) := by decide +kernel
theorem dN_Law_keep_12 : decode cN_Law_keep 12 = .ok (.ireturn, 1) := by decide +kernel
