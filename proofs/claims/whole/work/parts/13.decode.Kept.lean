theorem dN_Kept_init_0 : decode cN_Kept_init 0 = .ok (.aload_n 0, 1) := by decide +kernel
theorem dN_Kept_init_1 : decode cN_Kept_init 1 = .ok (.invokespecial 7, 3) := by decide +kernel
theorem dN_Kept_init_4 : decode cN_Kept_init 4 = .ok (.aload_n 0, 1) := by decide +kernel
theorem dN_Kept_init_5 : decode cN_Kept_init 5 = .ok (.new 3, 3) := by decide +kernel
theorem dN_Kept_init_8 : decode cN_Kept_init 8 = .ok (.dup, 1) := by decide +kernel
theorem dN_Kept_init_9 : decode cN_Kept_init 9 = .ok (.sipush 12800, 3) := by decide +kernel
theorem dN_Kept_init_12 : decode cN_Kept_init 12 = .ok (.invokespecial 13, 3) := by decide +kernel
theorem dN_Kept_init_15 : decode cN_Kept_init 15 = .ok (.putfield 16, 3) := by decide +kernel
theorem dN_Kept_init_18 : decode cN_Kept_init 18 = .ok (.aload_n 0, 1) := by decide +kernel
theorem dN_Kept_init_19 : decode cN_Kept_init 19 = .ok (.new 3, 3) := by decide +kernel
theorem dN_Kept_init_22 : decode cN_Kept_init 22 = .ok (.dup, 1) := by decide +kernel
theorem dN_Kept_init_23 : decode cN_Kept_init 23 = .ok (.sipush 16896, 3) := by decide +kernel
theorem dN_Kept_init_26 : decode cN_Kept_init 26 = .ok (.invokespecial 13, 3) := by decide +kernel
theorem dN_Kept_init_29 : decode cN_Kept_init 29 = .ok (.putfield 20, 3) := by decide +kernel
theorem dN_Kept_init_32 : decode cN_Kept_init 32 = .ok (.aload_n 0, 1) := by decide +kernel
theorem dN_Kept_init_33 : decode cN_Kept_init 33 = .ok (.bipush 64, 2) := by decide +kernel
theorem dN_Kept_init_35 : decode cN_Kept_init 35 = .ok (.newarray .int, 2) := by decide +kernel
theorem dN_Kept_init_37 : decode cN_Kept_init 37 = .ok (.putfield 23, 3) := by decide +kernel
theorem dN_Kept_init_40 : decode cN_Kept_init 40 = .ok (.aload_n 0, 1) := by decide +kernel
theorem dN_Kept_init_41 : decode cN_Kept_init 41 = .ok (.bipush 64, 2) := by decide +kernel
theorem dN_Kept_init_43 : decode cN_Kept_init 43 = .ok (.newarray .int, 2) := by decide +kernel
theorem dN_Kept_init_45 : decode cN_Kept_init 45 = .ok (.putfield 27, 3) := by decide +kernel
theorem dN_Kept_init_48 : decode cN_Kept_init 48 = .ok (.aload_n 0, 1) := by decide +kernel
theorem dN_Kept_init_49 : decode cN_Kept_init 49 = .ok (.bipush 64, 2) := by decide +kernel
theorem dN_Kept_init_51 : decode cN_Kept_init 51 = .ok (.newarray .int, 2) := by decide +kernel
theorem dN_Kept_init_53 : decode cN_Kept_init 53 = .ok (.putfield 30, 3) := by decide +kernel
theorem dN_Kept_init_56 : decode cN_Kept_init 56 = .ok (.aload_n 0, 1) := by decide +kernel
theorem dN_Kept_init_57 : decode cN_Kept_init 57 = .ok (.bipush 32, 2) := by decide +kernel
theorem dN_Kept_init_59 : decode cN_Kept_init 59 = .ok (.putfield 33, 3) := by decide +kernel
theorem dN_Kept_init_62 : decode cN_Kept_init 62 = .ok (.aload_n 0, 1) := by decide +kernel
theorem dN_Kept_init_63 : decode cN_Kept_init 63 = .ok (.iconst 0, 1) := by decide +kernel
theorem dN_Kept_init_64 : decode cN_Kept_init 64 = .ok (.putfield 37, 3) := by decide +kernel
theorem dN_Kept_init_67 : decode cN_Kept_init 67 = .ok (.return_, 1) := by decide +kernel
theorem dN_Kept_forget_0 : decode cN_Kept_forget 0 = .ok (.aload_n 0, 1) := by decide +kernel
theorem dN_Kept_forget_1 : decode cN_Kept_forget 1 = .ok (.iconst 0, 1) := by decide +kernel
theorem dN_Kept_forget_2 : decode cN_Kept_forget 2 = .ok (.putfield 37, 3) := by decide +kernel
theorem dN_Kept_forget_5 : decode cN_Kept_forget 5 = .ok (.return_, 1) := by decide +kernel
theorem dN_Kept_numberOf_0 : decode cN_Kept_numberOf 0 = .ok (.aload_n 1, 1) := by decide +kernel
theorem dN_Kept_numberOf_1 : decode cN_Kept_numberOf 1 = .ok (.iload_n 2, 1) := by decide +kernel
theorem dN_Kept_numberOf_2 : decode cN_Kept_numberOf 2 = .ok (.invokestatic 64, 3) := by decide +kernel
theorem dN_Kept_numberOf_5 : decode cN_Kept_numberOf 5 = .ok (.istore_n 3, 1) := by decide +kernel
theorem dN_Kept_numberOf_6 : decode cN_Kept_numberOf 6 = .ok (.iconst 0, 1) := by decide +kernel
theorem dN_Kept_numberOf_7 : decode cN_Kept_numberOf 7 = .ok (.istore 4, 2) := by decide +kernel
theorem dN_Kept_numberOf_9 : decode cN_Kept_numberOf 9 = .ok (.iload 4, 2) := by decide +kernel
theorem dN_Kept_numberOf_11 : decode cN_Kept_numberOf 11 = .ok (.aload_n 0, 1) := by decide +kernel
theorem dN_Kept_numberOf_12 : decode cN_Kept_numberOf 12 = .ok (.getfield 37, 3) := by decide +kernel
theorem dN_Kept_numberOf_15 : decode cN_Kept_numberOf 15 = .ok (.if_icmp .ge 34, 3) := by decide +kernel
theorem dN_Kept_numberOf_18 : decode cN_Kept_numberOf 18 = .ok (.aload_n 0, 1) := by decide +kernel
theorem dN_Kept_numberOf_19 : decode cN_Kept_numberOf 19 = .ok (.getfield 30, 3) := by decide +kernel
theorem dN_Kept_numberOf_22 : decode cN_Kept_numberOf 22 = .ok (.iload 4, 2) := by decide +kernel
theorem dN_Kept_numberOf_24 : decode cN_Kept_numberOf 24 = .ok (.iaload, 1) := by decide +kernel
theorem dN_Kept_numberOf_25 : decode cN_Kept_numberOf 25 = .ok (.iload_n 3, 1) := by decide +kernel
theorem dN_Kept_numberOf_26 : decode cN_Kept_numberOf 26 = .ok (.if_icmp .ne 17, 3) := by decide +kernel
theorem dN_Kept_numberOf_29 : decode cN_Kept_numberOf 29 = .ok (.aload_n 0, 1) := by decide +kernel
theorem dN_Kept_numberOf_30 : decode cN_Kept_numberOf 30 = .ok (.iload 4, 2) := by decide +kernel
theorem dN_Kept_numberOf_32 : decode cN_Kept_numberOf 32 = .ok (.aload_n 1, 1) := by decide +kernel
theorem dN_Kept_numberOf_33 : decode cN_Kept_numberOf 33 = .ok (.iload_n 2, 1) := by decide +kernel
theorem dN_Kept_numberOf_34 : decode cN_Kept_numberOf 34 = .ok (.invokevirtual 68, 3) := by decide +kernel
theorem dN_Kept_numberOf_37 : decode cN_Kept_numberOf 37 = .ok (.ifCond .eq 6, 3) := by decide +kernel
theorem dN_Kept_numberOf_40 : decode cN_Kept_numberOf 40 = .ok (.iload 4, 2) := by decide +kernel
theorem dN_Kept_numberOf_42 : decode cN_Kept_numberOf 42 = .ok (.ireturn, 1) := by decide +kernel
theorem dN_Kept_numberOf_43 : decode cN_Kept_numberOf 43 = .ok (.iinc 4 1, 3) := by decide +kernel
theorem dN_Kept_numberOf_46 : decode cN_Kept_numberOf 46 = .ok (.goto (-37), 3) := by decide +kernel
theorem dN_Kept_numberOf_49 : decode cN_Kept_numberOf 49 = .ok (.aload_n 0, 1) := by decide +kernel
theorem dN_Kept_numberOf_50 : decode cN_Kept_numberOf 50 = .ok (.getfield 37, 3) := by decide +kernel
theorem dN_Kept_numberOf_53 : decode cN_Kept_numberOf 53 = .ok (.aload_n 0, 1) := by decide +kernel
theorem dN_Kept_numberOf_54 : decode cN_Kept_numberOf 54 = .ok (.getfield 33, 3) := by decide +kernel
theorem dN_Kept_numberOf_57 : decode cN_Kept_numberOf 57 = .ok (.if_icmp .lt 7, 3) := by decide +kernel
theorem dN_Kept_numberOf_60 : decode cN_Kept_numberOf 60 = .ok (.aload_n 0, 1) := by decide +kernel
theorem dN_Kept_numberOf_61 : decode cN_Kept_numberOf 61 = .ok (.invokevirtual 40, 3) := by decide +kernel
theorem dN_Kept_numberOf_64 : decode cN_Kept_numberOf 64 = .ok (.aload_n 0, 1) := by decide +kernel
theorem dN_Kept_numberOf_65 : decode cN_Kept_numberOf 65 = .ok (.aload_n 1, 1) := by decide +kernel
theorem dN_Kept_numberOf_66 : decode cN_Kept_numberOf 66 = .ok (.iload_n 2, 1) := by decide +kernel
theorem dN_Kept_numberOf_67 : decode cN_Kept_numberOf 67 = .ok (.iload_n 3, 1) := by decide +kernel
theorem dN_Kept_numberOf_68 : decode cN_Kept_numberOf 68 = .ok (.invokevirtual 72, 3) := by decide +kernel
theorem dN_Kept_numberOf_71 : decode cN_Kept_numberOf 71 = .ok (.aload_n 0, 1) := by decide +kernel
theorem dN_Kept_numberOf_72 : decode cN_Kept_numberOf 72 = .ok (.getfield 37, 3) := by decide +kernel
theorem dN_Kept_numberOf_75 : decode cN_Kept_numberOf 75 = .ok (.iconst 1, 1) := by decide +kernel
theorem dN_Kept_numberOf_76 : decode cN_Kept_numberOf 76 = .ok (.isub, 1) := by decide +kernel
theorem dN_Kept_numberOf_77 : decode cN_Kept_numberOf 77 = .ok (.ireturn, 1) := by decide +kernel
theorem dN_Kept_sumOf_0 : decode cN_Kept_sumOf 0 = .ok (.iload_n 1, 1) := by decide +kernel
theorem dN_Kept_sumOf_1 : decode cN_Kept_sumOf 1 = .ok (.istore_n 2, 1) := by decide +kernel
theorem dN_Kept_sumOf_2 : decode cN_Kept_sumOf 2 = .ok (.iconst 0, 1) := by decide +kernel
theorem dN_Kept_sumOf_3 : decode cN_Kept_sumOf 3 = .ok (.istore_n 3, 1) := by decide +kernel
theorem dN_Kept_sumOf_4 : decode cN_Kept_sumOf 4 = .ok (.iload_n 3, 1) := by decide +kernel
theorem dN_Kept_sumOf_5 : decode cN_Kept_sumOf 5 = .ok (.aload_n 0, 1) := by decide +kernel
theorem dN_Kept_sumOf_6 : decode cN_Kept_sumOf 6 = .ok (.invokevirtual 76, 3) := by decide +kernel
theorem dN_Kept_sumOf_9 : decode cN_Kept_sumOf 9 = .ok (.if_icmp .ge 22, 3) := by decide +kernel
theorem dN_Kept_sumOf_12 : decode cN_Kept_sumOf 12 = .ok (.iload_n 2, 1) := by decide +kernel
theorem dN_Kept_sumOf_13 : decode cN_Kept_sumOf 13 = .ok (.bipush 31, 2) := by decide +kernel
theorem dN_Kept_sumOf_15 : decode cN_Kept_sumOf 15 = .ok (.imul, 1) := by decide +kernel
theorem dN_Kept_sumOf_16 : decode cN_Kept_sumOf 16 = .ok (.aload_n 0, 1) := by decide +kernel
theorem dN_Kept_sumOf_17 : decode cN_Kept_sumOf 17 = .ok (.iload_n 3, 1) := by decide +kernel
theorem dN_Kept_sumOf_18 : decode cN_Kept_sumOf 18 = .ok (.invokevirtual 82, 3) := by decide +kernel
theorem dN_Kept_sumOf_21 : decode cN_Kept_sumOf 21 = .ok (.iadd, 1) := by decide +kernel
theorem dN_Kept_sumOf_22 : decode cN_Kept_sumOf 22 = .ok (.iconst 1, 1) := by decide +kernel
theorem dN_Kept_sumOf_23 : decode cN_Kept_sumOf 23 = .ok (.iadd, 1) := by decide +kernel
theorem dN_Kept_sumOf_24 : decode cN_Kept_sumOf 24 = .ok (.istore_n 2, 1) := by decide +kernel
theorem dN_Kept_sumOf_25 : decode cN_Kept_sumOf 25 = .ok (.iinc 3 1, 3) := by decide +kernel
theorem dN_Kept_sumOf_28 : decode cN_Kept_sumOf 28 = .ok (.goto (-24), 3) := by decide +kernel
theorem dN_Kept_sumOf_31 : decode cN_Kept_sumOf 31 = .ok (.iload_n 2, 1) := by decide +kernel
theorem dN_Kept_sumOf_32 : decode cN_Kept_sumOf 32 = .ok (.ireturn, 1) := by decide +kernel
theorem dN_Kept_isSame_0 : decode cN_Kept_isSame 0 = .ok (.aload_n 0, 1) := by decide +kernel
theorem dN_Kept_isSame_1 : decode cN_Kept_isSame 1 = .ok (.getfield 27, 3) := by decide +kernel
theorem dN_Kept_isSame_4 : decode cN_Kept_isSame 4 = .ok (.iload_n 1, 1) := by decide +kernel
theorem dN_Kept_isSame_5 : decode cN_Kept_isSame 5 = .ok (.iaload, 1) := by decide +kernel
theorem dN_Kept_isSame_6 : decode cN_Kept_isSame 6 = .ok (.iload_n 3, 1) := by decide +kernel
theorem dN_Kept_isSame_7 : decode cN_Kept_isSame 7 = .ok (.if_icmp .ne 16, 3) := by decide +kernel
theorem dN_Kept_isSame_10 : decode cN_Kept_isSame 10 = .ok (.aload_n 0, 1) := by decide +kernel
theorem dN_Kept_isSame_11 : decode cN_Kept_isSame 11 = .ok (.getfield 23, 3) := by decide +kernel
theorem dN_Kept_isSame_14 : decode cN_Kept_isSame 14 = .ok (.iload_n 1, 1) := by decide +kernel
theorem dN_Kept_isSame_15 : decode cN_Kept_isSame 15 = .ok (.iaload, 1) := by decide +kernel
theorem dN_Kept_isSame_16 : decode cN_Kept_isSame 16 = .ok (.aload_n 2, 1) := by decide +kernel
theorem dN_Kept_isSame_17 : decode cN_Kept_isSame 17 = .ok (.invokevirtual 76, 3) := by decide +kernel
theorem dN_Kept_isSame_20 : decode cN_Kept_isSame 20 = .ok (.if_icmp .eq 5, 3) := by decide +kernel
theorem dN_Kept_isSame_23 : decode cN_Kept_isSame 23 = .ok (.iconst 0, 1) := by decide +kernel
theorem dN_Kept_isSame_24 : decode cN_Kept_isSame 24 = .ok (.ireturn, 1) := by decide +kernel
theorem dN_Kept_isSame_25 : decode cN_Kept_isSame 25 = .ok (.iconst 0, 1) := by decide +kernel
theorem dN_Kept_isSame_26 : decode cN_Kept_isSame 26 = .ok (.istore 4, 2) := by decide +kernel
theorem dN_Kept_isSame_28 : decode cN_Kept_isSame 28 = .ok (.iload 4, 2) := by decide +kernel
theorem dN_Kept_isSame_30 : decode cN_Kept_isSame 30 = .ok (.aload_n 2, 1) := by decide +kernel
theorem dN_Kept_isSame_31 : decode cN_Kept_isSame 31 = .ok (.invokevirtual 76, 3) := by decide +kernel
theorem dN_Kept_isSame_34 : decode cN_Kept_isSame 34 = .ok (.if_icmp .ge 27, 3) := by decide +kernel
theorem dN_Kept_isSame_37 : decode cN_Kept_isSame 37 = .ok (.aload_n 0, 1) := by decide +kernel
theorem dN_Kept_isSame_38 : decode cN_Kept_isSame 38 = .ok (.iload_n 1, 1) := by decide +kernel
theorem dN_Kept_isSame_39 : decode cN_Kept_isSame 39 = .ok (.iload 4, 2) := by decide +kernel
theorem dN_Kept_isSame_41 : decode cN_Kept_isSame 41 = .ok (.invokevirtual 83, 3) := by decide +kernel
theorem dN_Kept_isSame_44 : decode cN_Kept_isSame 44 = .ok (.aload_n 2, 1) := by decide +kernel
theorem dN_Kept_isSame_45 : decode cN_Kept_isSame 45 = .ok (.iload 4, 2) := by decide +kernel
theorem dN_Kept_isSame_47 : decode cN_Kept_isSame 47 = .ok (.invokevirtual 82, 3) := by decide +kernel
theorem dN_Kept_isSame_50 : decode cN_Kept_isSame 50 = .ok (.if_icmp .eq 5, 3) := by decide +kernel
theorem dN_Kept_isSame_53 : decode cN_Kept_isSame 53 = .ok (.iconst 0, 1) := by decide +kernel
theorem dN_Kept_isSame_54 : decode cN_Kept_isSame 54 = .ok (.ireturn, 1) := by decide +kernel
theorem dN_Kept_isSame_55 : decode cN_Kept_isSame 55 = .ok (.iinc 4 1, 3) := by decide +kernel
theorem dN_Kept_isSame_58 : decode cN_Kept_isSame 58 = .ok (.goto (-30), 3) := by decide +kernel
theorem dN_Kept_isSame_61 : decode cN_Kept_isSame 61 = .ok (.iconst 1, 1) := by decide +kernel
theorem dN_Kept_isSame_62 : decode cN_Kept_isSame 62 = .ok (.ireturn, 1) := by decide +kernel
theorem dN_Kept_stepOf_0 : decode cN_Kept_stepOf 0 = .ok (.aload_n 0, 1) := by decide +kernel
theorem dN_Kept_stepOf_1 : decode cN_Kept_stepOf 1 = .ok (.getfield 16, 3) := by decide +kernel
theorem dN_Kept_stepOf_4 : decode cN_Kept_stepOf 4 = .ok (.iload_n 1, 1) := by decide +kernel
theorem dN_Kept_stepOf_5 : decode cN_Kept_stepOf 5 = .ok (.sipush 200, 3) := by decide +kernel
theorem dN_Kept_stepOf_8 : decode cN_Kept_stepOf 8 = .ok (.imul, 1) := by decide +kernel
theorem dN_Kept_stepOf_9 : decode cN_Kept_stepOf 9 = .ok (.iload_n 2, 1) := by decide +kernel
theorem dN_Kept_stepOf_10 : decode cN_Kept_stepOf 10 = .ok (.iadd, 1) := by decide +kernel
theorem dN_Kept_stepOf_11 : decode cN_Kept_stepOf 11 = .ok (.invokevirtual 56, 3) := by decide +kernel
theorem dN_Kept_stepOf_14 : decode cN_Kept_stepOf 14 = .ok (.ireturn, 1) := by decide +kernel
theorem dN_Kept_add_0 : decode cN_Kept_add 0 = .ok (.aload_n 0, 1) := by decide +kernel
theorem dN_Kept_add_1 : decode cN_Kept_add 1 = .ok (.getfield 23, 3) := by decide +kernel
theorem dN_Kept_add_4 : decode cN_Kept_add 4 = .ok (.aload_n 0, 1) := by decide +kernel
theorem dN_Kept_add_5 : decode cN_Kept_add 5 = .ok (.getfield 37, 3) := by decide +kernel
theorem dN_Kept_add_8 : decode cN_Kept_add 8 = .ok (.aload_n 1, 1) := by decide +kernel
theorem dN_Kept_add_9 : decode cN_Kept_add 9 = .ok (.invokevirtual 76, 3) := by decide +kernel
theorem dN_Kept_add_12 : decode cN_Kept_add 12 = .ok (.iastore, 1) := by decide +kernel
theorem dN_Kept_add_13 : decode cN_Kept_add 13 = .ok (.aload_n 0, 1) := by decide +kernel
theorem dN_Kept_add_14 : decode cN_Kept_add 14 = .ok (.getfield 27, 3) := by decide +kernel
theorem dN_Kept_add_17 : decode cN_Kept_add 17 = .ok (.aload_n 0, 1) := by decide +kernel
theorem dN_Kept_add_18 : decode cN_Kept_add 18 = .ok (.getfield 37, 3) := by decide +kernel
theorem dN_Kept_add_21 : decode cN_Kept_add 21 = .ok (.iload_n 2, 1) := by decide +kernel
theorem dN_Kept_add_22 : decode cN_Kept_add 22 = .ok (.iastore, 1) := by decide +kernel
theorem dN_Kept_add_23 : decode cN_Kept_add 23 = .ok (.aload_n 0, 1) := by decide +kernel
theorem dN_Kept_add_24 : decode cN_Kept_add 24 = .ok (.getfield 30, 3) := by decide +kernel
theorem dN_Kept_add_27 : decode cN_Kept_add 27 = .ok (.aload_n 0, 1) := by decide +kernel
theorem dN_Kept_add_28 : decode cN_Kept_add 28 = .ok (.getfield 37, 3) := by decide +kernel
theorem dN_Kept_add_31 : decode cN_Kept_add 31 = .ok (.iload_n 3, 1) := by decide +kernel
theorem dN_Kept_add_32 : decode cN_Kept_add 32 = .ok (.iastore, 1) := by decide +kernel
theorem dN_Kept_add_33 : decode cN_Kept_add 33 = .ok (.iconst 0, 1) := by decide +kernel
theorem dN_Kept_add_34 : decode cN_Kept_add 34 = .ok (.istore 4, 2) := by decide +kernel
theorem dN_Kept_add_36 : decode cN_Kept_add 36 = .ok (.iload 4, 2) := by decide +kernel
theorem dN_Kept_add_38 : decode cN_Kept_add 38 = .ok (.aload_n 1, 1) := by decide +kernel
theorem dN_Kept_add_39 : decode cN_Kept_add 39 = .ok (.invokevirtual 76, 3) := by decide +kernel
theorem dN_Kept_add_42 : decode cN_Kept_add 42 = .ok (.if_icmp .ge 33, 3) := by decide +kernel
theorem dN_Kept_add_45 : decode cN_Kept_add 45 = .ok (.aload_n 0, 1) := by decide +kernel
theorem dN_Kept_add_46 : decode cN_Kept_add 46 = .ok (.getfield 16, 3) := by decide +kernel
theorem dN_Kept_add_49 : decode cN_Kept_add 49 = .ok (.aload_n 0, 1) := by decide +kernel
theorem dN_Kept_add_50 : decode cN_Kept_add 50 = .ok (.getfield 37, 3) := by decide +kernel
theorem dN_Kept_add_53 : decode cN_Kept_add 53 = .ok (.sipush 200, 3) := by decide +kernel
theorem dN_Kept_add_56 : decode cN_Kept_add 56 = .ok (.imul, 1) := by decide +kernel
theorem dN_Kept_add_57 : decode cN_Kept_add 57 = .ok (.iload 4, 2) := by decide +kernel
theorem dN_Kept_add_59 : decode cN_Kept_add 59 = .ok (.iadd, 1) := by decide +kernel
theorem dN_Kept_add_60 : decode cN_Kept_add 60 = .ok (.aload_n 1, 1) := by decide +kernel
theorem dN_Kept_add_61 : decode cN_Kept_add 61 = .ok (.iload 4, 2) := by decide +kernel
theorem dN_Kept_add_63 : decode cN_Kept_add 63 = .ok (.invokevirtual 82, 3) := by decide +kernel
theorem dN_Kept_add_66 : decode cN_Kept_add 66 = .ok (.invokevirtual 60, 3) := by decide +kernel
theorem dN_Kept_add_69 : decode cN_Kept_add 69 = .ok (.iinc 4 1, 3) := by decide +kernel
theorem dN_Kept_add_72 : decode cN_Kept_add 72 = .ok (.goto (-36), 3) := by decide +kernel
theorem dN_Kept_add_75 : decode cN_Kept_add 75 = .ok (.aload_n 0, 1) := by decide +kernel
theorem dN_Kept_add_76 : decode cN_Kept_add 76 = .ok (.getfield 20, 3) := by decide +kernel
theorem dN_Kept_add_79 : decode cN_Kept_add 79 = .ok (.aload_n 0, 1) := by decide +kernel
theorem dN_Kept_add_80 : decode cN_Kept_add 80 = .ok (.getfield 37, 3) := by decide +kernel
theorem dN_Kept_add_83 : decode cN_Kept_add 83 = .ok (.sipush 264, 3) := by decide +kernel
theorem dN_Kept_add_86 : decode cN_Kept_add 86 = .ok (.imul, 1) := by decide +kernel
theorem dN_Kept_add_87 : decode cN_Kept_add 87 = .ok (.sipush 264, 3) := by decide +kernel
theorem dN_Kept_add_90 : decode cN_Kept_add 90 = .ok (.invokevirtual 86, 3) := by decide +kernel
theorem dN_Kept_add_93 : decode cN_Kept_add 93 = .ok (.aload_n 0, 1) := by decide +kernel
theorem dN_Kept_add_94 : decode cN_Kept_add 94 = .ok (.dup, 1) := by decide +kernel
theorem dN_Kept_add_95 : decode cN_Kept_add 95 = .ok (.getfield 37, 3) := by decide +kernel
theorem dN_Kept_add_98 : decode cN_Kept_add 98 = .ok (.iconst 1, 1) := by decide +kernel
theorem dN_Kept_add_99 : decode cN_Kept_add 99 = .ok (.iadd, 1) := by decide +kernel
theorem dN_Kept_add_100 : decode cN_Kept_add 100 = .ok (.putfield 37, 3) := by decide +kernel
theorem dN_Kept_add_103 : decode cN_Kept_add 103 = .ok (.return_, 1) := by decide +kernel
theorem dN_Kept_moveOf_0 : decode cN_Kept_moveOf 0 = .ok (.aload_n 0, 1) := by decide +kernel
theorem dN_Kept_moveOf_1 : decode cN_Kept_moveOf 1 = .ok (.getfield 20, 3) := by decide +kernel
theorem dN_Kept_moveOf_4 : decode cN_Kept_moveOf 4 = .ok (.iload_n 1, 1) := by decide +kernel
theorem dN_Kept_moveOf_5 : decode cN_Kept_moveOf 5 = .ok (.sipush 264, 3) := by decide +kernel
theorem dN_Kept_moveOf_8 : decode cN_Kept_moveOf 8 = .ok (.imul, 1) := by decide +kernel
theorem dN_Kept_moveOf_9 : decode cN_Kept_moveOf 9 = .ok (.iload_n 2, 1) := by decide +kernel
theorem dN_Kept_moveOf_10 : decode cN_Kept_moveOf 10 = .ok (.iadd, 1) := by decide +kernel
theorem dN_Kept_moveOf_11 : decode cN_Kept_moveOf 11 = .ok (.invokevirtual 56, 3) := by decide +kernel
theorem dN_Kept_moveOf_14 : decode cN_Kept_moveOf 14 = .ok (.ireturn, 1) := by decide +kernel
theorem dN_Kept_labelOf_0 : decode cN_Kept_labelOf 0 = .ok (.aload_n 0, 1) := by decide +kernel
theorem dN_Kept_labelOf_1 : decode cN_Kept_labelOf 1 = .ok (.iload_n 1, 1) := by decide +kernel
theorem dN_Kept_labelOf_2 : decode cN_Kept_labelOf 2 = .ok (.invokevirtual 52, 3) := by decide +kernel
theorem dN_Kept_labelOf_5 : decode cN_Kept_labelOf 5 = .ok (.ifCond .eq 12, 3) := by decide +kernel
theorem dN_Kept_labelOf_8 : decode cN_Kept_labelOf 8 = .ok (.aload_n 0, 1) := by decide +kernel
theorem dN_Kept_labelOf_9 : decode cN_Kept_labelOf 9 = .ok (.getfield 27, 3) := by decide +kernel
theorem dN_Kept_labelOf_12 : decode cN_Kept_labelOf 12 = .ok (.iload_n 1, 1) := by decide +kernel
theorem dN_Kept_labelOf_13 : decode cN_Kept_labelOf 13 = .ok (.iaload, 1) := by decide +kernel
theorem dN_Kept_labelOf_14 : decode cN_Kept_labelOf 14 = .ok (.goto 4, 3) := by decide +kernel
theorem dN_Kept_labelOf_17 : decode cN_Kept_labelOf 17 = .ok (.iconst 0, 1) := by decide +kernel
theorem dN_Kept_labelOf_18 : decode cN_Kept_labelOf 18 = .ok (.ireturn, 1) := by decide +kernel
theorem dN_Kept_has_0 : decode cN_Kept_has 0 = .ok (.iload_n 1, 1) := by decide +kernel
theorem dN_Kept_has_1 : decode cN_Kept_has 1 = .ok (.ifCond .lt 15, 3) := by decide +kernel
theorem dN_Kept_has_4 : decode cN_Kept_has 4 = .ok (.iload_n 1, 1) := by decide +kernel
theorem dN_Kept_has_5 : decode cN_Kept_has 5 = .ok (.aload_n 0, 1) := by decide +kernel
theorem dN_Kept_has_6 : decode cN_Kept_has 6 = .ok (.getfield 37, 3) := by decide +kernel
theorem dN_Kept_has_9 : decode cN_Kept_has 9 = .ok (.if_icmp .ge 7, 3) := by decide +kernel
theorem dN_Kept_has_12 : decode cN_Kept_has 12 = .ok (.iconst 1, 1) := by decide +kernel
theorem dN_Kept_has_13 : decode cN_Kept_has 13 = .ok (.goto 4, 3) := by decide +kernel
theorem dN_Kept_has_16 : decode cN_Kept_has 16 = .ok (.iconst 0, 1) := by decide +kernel
theorem dN_Kept_has_17 : decode cN_Kept_has 17 = .ok (.ireturn, 1) := by decide +kernel
theorem dN_Kept_countOf_0 : decode cN_Kept_countOf 0 = .ok (.aload_n 0, 1) := by decide +kernel
theorem dN_Kept_countOf_1 : decode cN_Kept_countOf 1 = .ok (.iload_n 1, 1) := by decide +kernel
theorem dN_Kept_countOf_2 : decode cN_Kept_countOf 2 = .ok (.invokevirtual 52, 3) := by decide +kernel
theorem dN_Kept_countOf_5 : decode cN_Kept_countOf 5 = .ok (.ifCond .eq 12, 3) := by decide +kernel
theorem dN_Kept_countOf_8 : decode cN_Kept_countOf 8 = .ok (.aload_n 0, 1) := by decide +kernel
theorem dN_Kept_countOf_9 : decode cN_Kept_countOf 9 = .ok (.getfield 23, 3) := by decide +kernel
theorem dN_Kept_countOf_12 : decode cN_Kept_countOf 12 = .ok (.iload_n 1, 1) := by decide +kernel
theorem dN_Kept_countOf_13 : decode cN_Kept_countOf 13 = .ok (.iaload, 1) := by decide +kernel
theorem dN_Kept_countOf_14 : decode cN_Kept_countOf 14 = .ok (.goto 4, 3) := by decide +kernel
theorem dN_Kept_countOf_17 : decode cN_Kept_countOf 17 = .ok (.iconst 0, 1) := by decide +kernel
theorem dN_Kept_countOf_18 : decode cN_Kept_countOf 18 = .ok (.ireturn, 1) := by decide +kernel
theorem dN_Kept_count_0 : decode cN_Kept_count 0 = .ok (.aload_n 0, 1) := by decide +kernel
theorem dN_Kept_count_1 : decode cN_Kept_count 1 = .ok (.getfield 37, 3) := by decide +kernel
theorem dN_Kept_count_4 : decode cN_Kept_count 4 = .ok (.ireturn, 1) := by decide +kernel
theorem dN_Kept_know_0 : decode cN_Kept_know 0 = .ok (.aload_n 0, 1) := by decide +kernel
theorem dN_Kept_know_1 : decode cN_Kept_know 1 = .ok (.getfield 20, 3) := by decide +kernel
theorem dN_Kept_know_4 : decode cN_Kept_know 4 = .ok (.iload_n 1, 1) := by decide +kernel
theorem dN_Kept_know_5 : decode cN_Kept_know 5 = .ok (.sipush 264, 3) := by decide +kernel
theorem dN_Kept_know_8 : decode cN_Kept_know 8 = .ok (.imul, 1) := by decide +kernel
theorem dN_Kept_know_9 : decode cN_Kept_know 9 = .ok (.iload_n 2, 1) := by decide +kernel
theorem dN_Kept_know_10 : decode cN_Kept_know 10 = .ok (.iadd, 1) := by decide +kernel
theorem dN_Kept_know_11 : decode cN_Kept_know 11 = .ok (.iload_n 3, 1) := by decide +kernel
theorem dN_Kept_know_12 : decode cN_Kept_know 12 = .ok (.invokevirtual 60, 3) := by decide +kernel
theorem dN_Kept_know_15 : decode cN_Kept_know 15 = .ok (.return_, 1) := by decide +kernel
theorem dN_Kept_allow_0 : decode cN_Kept_allow 0 = .ok (.aload_n 0, 1) := by decide +kernel
theorem dN_Kept_allow_1 : decode cN_Kept_allow 1 = .ok (.invokevirtual 40, 3) := by decide +kernel
theorem dN_Kept_allow_4 : decode cN_Kept_allow 4 = .ok (.aload_n 0, 1) := by decide +kernel
theorem dN_Kept_allow_5 : decode cN_Kept_allow 5 = .ok (.iconst 4, 1) := by decide +kernel
theorem dN_Kept_allow_6 : decode cN_Kept_allow 6 = .ok (.iload_n 1, 1) := by decide +kernel
theorem dN_Kept_allow_7 : decode cN_Kept_allow 7 = .ok (.bipush 64, 2) := by decide +kernel
theorem dN_Kept_allow_9 : decode cN_Kept_allow 9 = .ok (.invokestatic 43, 3) := by decide +kernel
theorem dN_Kept_allow_12 : decode cN_Kept_allow 12 = .ok (.invokestatic 49, 3) := by decide +kernel
theorem dN_Kept_allow_15 : decode cN_Kept_allow 15 = .ok (.putfield 33, 3) := by decide +kernel
theorem dN_Kept_allow_18 : decode cN_Kept_allow 18 = .ok (.return_, 1) := by decide +kernel
