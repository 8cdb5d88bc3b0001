theorem dN_Threads_init_0 : decode cN_Threads_init 0 = .ok (.aload_n 0, 1) := by decide +kernel
theorem dN_Threads_init_1 : decode cN_Threads_init 1 = .ok (.invokespecial 3, 3) := by decide +kernel
theorem dN_Threads_init_4 : decode cN_Threads_init 4 = .ok (.aload_n 0, 1) := by decide +kernel
theorem dN_Threads_init_5 : decode cN_Threads_init 5 = .ok (.bipush 20, 2) := by decide +kernel
theorem dN_Threads_init_7 : decode cN_Threads_init 7 = .ok (.newarray .int, 2) := by decide +kernel
theorem dN_Threads_init_9 : decode cN_Threads_init 9 = .ok (.putfield 9, 3) := by decide +kernel
theorem dN_Threads_init_12 : decode cN_Threads_init 12 = .ok (.aload_n 0, 1) := by decide +kernel
theorem dN_Threads_init_13 : decode cN_Threads_init 13 = .ok (.new 15, 3) := by decide +kernel
theorem dN_Threads_init_16 : decode cN_Threads_init 16 = .ok (.dup, 1) := by decide +kernel
theorem dN_Threads_init_17 : decode cN_Threads_init 17 = .ok (.sipush 402, 3) := by decide +kernel
theorem dN_Threads_init_20 : decode cN_Threads_init 20 = .ok (.invokespecial 17, 3) := by decide +kernel
theorem dN_Threads_init_23 : decode cN_Threads_init 23 = .ok (.putfield 20, 3) := by decide +kernel
theorem dN_Threads_init_26 : decode cN_Threads_init 26 = .ok (.aload_n 0, 1) := by decide +kernel
theorem dN_Threads_init_27 : decode cN_Threads_init 27 = .ok (.new 24, 3) := by decide +kernel
theorem dN_Threads_init_30 : decode cN_Threads_init 30 = .ok (.dup, 1) := by decide +kernel
theorem dN_Threads_init_31 : decode cN_Threads_init 31 = .ok (.invokespecial 26, 3) := by decide +kernel
theorem dN_Threads_init_34 : decode cN_Threads_init 34 = .ok (.putfield 27, 3) := by decide +kernel
theorem dN_Threads_init_37 : decode cN_Threads_init 37 = .ok (.aload_n 0, 1) := by decide +kernel
theorem dN_Threads_init_38 : decode cN_Threads_init 38 = .ok (.new 24, 3) := by decide +kernel
theorem dN_Threads_init_41 : decode cN_Threads_init 41 = .ok (.dup, 1) := by decide +kernel
theorem dN_Threads_init_42 : decode cN_Threads_init 42 = .ok (.invokespecial 26, 3) := by decide +kernel
theorem dN_Threads_init_45 : decode cN_Threads_init 45 = .ok (.putfield 31, 3) := by decide +kernel
theorem dN_Threads_init_48 : decode cN_Threads_init 48 = .ok (.aload_n 0, 1) := by decide +kernel
theorem dN_Threads_init_49 : decode cN_Threads_init 49 = .ok (.sipush 4000, 3) := by decide +kernel
theorem dN_Threads_init_52 : decode cN_Threads_init 52 = .ok (.newarray .int, 2) := by decide +kernel
theorem dN_Threads_init_54 : decode cN_Threads_init 54 = .ok (.putfield 34, 3) := by decide +kernel
theorem dN_Threads_init_57 : decode cN_Threads_init 57 = .ok (.aload_n 0, 1) := by decide +kernel
theorem dN_Threads_init_58 : decode cN_Threads_init 58 = .ok (.sipush 4000, 3) := by decide +kernel
theorem dN_Threads_init_61 : decode cN_Threads_init 61 = .ok (.newarray .int, 2) := by decide +kernel
theorem dN_Threads_init_63 : decode cN_Threads_init 63 = .ok (.putfield 37, 3) := by decide +kernel
theorem dN_Threads_init_66 : decode cN_Threads_init 66 = .ok (.aload_n 0, 1) := by decide +kernel
theorem dN_Threads_init_67 : decode cN_Threads_init 67 = .ok (.iconst 0, 1) := by decide +kernel
theorem dN_Threads_init_68 : decode cN_Threads_init 68 = .ok (.putfield 40, 3) := by decide +kernel
theorem dN_Threads_init_71 : decode cN_Threads_init 71 = .ok (.aload_n 0, 1) := by decide +kernel
theorem dN_Threads_init_72 : decode cN_Threads_init 72 = .ok (.aload_n 1, 1) := by decide +kernel
theorem dN_Threads_init_73 : decode cN_Threads_init 73 = .ok (.putfield 44, 3) := by decide +kernel
theorem dN_Threads_init_76 : decode cN_Threads_init 76 = .ok (.aload_n 0, 1) := by decide +kernel
theorem dN_Threads_init_77 : decode cN_Threads_init 77 = .ok (.aload_n 2, 1) := by decide +kernel
theorem dN_Threads_init_78 : decode cN_Threads_init 78 = .ok (.putfield 48, 3) := by decide +kernel
theorem dN_Threads_init_81 : decode cN_Threads_init 81 = .ok (.aload_n 0, 1) := by decide +kernel
theorem dN_Threads_init_82 : decode cN_Threads_init 82 = .ok (.aload_n 3, 1) := by decide +kernel
theorem dN_Threads_init_83 : decode cN_Threads_init 83 = .ok (.putfield 52, 3) := by decide +kernel
theorem dN_Threads_init_86 : decode cN_Threads_init 86 = .ok (.aload_n 0, 1) := by decide +kernel
theorem dN_Threads_init_87 : decode cN_Threads_init 87 = .ok (.aload 4, 2) := by decide +kernel
theorem dN_Threads_init_89 : decode cN_Threads_init 89 = .ok (.putfield 56, 3) := by decide +kernel
theorem dN_Threads_init_92 : decode cN_Threads_init 92 = .ok (.return_, 1) := by decide +kernel
theorem dN_Threads_run_0 : decode cN_Threads_run 0 = .ok (.aload_n 0, 1) := by decide +kernel
theorem dN_Threads_run_1 : decode cN_Threads_run 1 = .ok (.getfield 27, 3) := by decide +kernel
theorem dN_Threads_run_4 : decode cN_Threads_run 4 = .ok (.invokevirtual 59, 3) := by decide +kernel
theorem dN_Threads_run_7 : decode cN_Threads_run 7 = .ok (.iload_n 3, 1) := by decide +kernel
theorem dN_Threads_run_8 : decode cN_Threads_run 8 = .ok (.istore 4, 2) := by decide +kernel
theorem dN_Threads_run_10 : decode cN_Threads_run 10 = .ok (.iload 4, 2) := by decide +kernel
theorem dN_Threads_run_12 : decode cN_Threads_run 12 = .ok (.aload_n 0, 1) := by decide +kernel
theorem dN_Threads_run_13 : decode cN_Threads_run 13 = .ok (.getfield 48, 3) := by decide +kernel
theorem dN_Threads_run_16 : decode cN_Threads_run 16 = .ok (.invokevirtual 62, 3) := by decide +kernel
theorem dN_Threads_run_19 : decode cN_Threads_run 19 = .ok (.if_icmp .gt 54, 3) := by decide +kernel
theorem dN_Threads_run_22 : decode cN_Threads_run 22 = .ok (.aload_n 0, 1) := by decide +kernel
theorem dN_Threads_run_23 : decode cN_Threads_run 23 = .ok (.getfield 56, 3) := by decide +kernel
theorem dN_Threads_run_26 : decode cN_Threads_run 26 = .ok (.iconst 1, 1) := by decide +kernel
theorem dN_Threads_run_27 : decode cN_Threads_run 27 = .ok (.iaload, 1) := by decide +kernel
theorem dN_Threads_run_28 : decode cN_Threads_run 28 = .ok (.iconst (-1), 1) := by decide +kernel
theorem dN_Threads_run_29 : decode cN_Threads_run 29 = .ok (.if_icmp .ne 19, 3) := by decide +kernel
theorem dN_Threads_run_32 : decode cN_Threads_run 32 = .ok (.iload_n 1, 1) := by decide +kernel
theorem dN_Threads_run_33 : decode cN_Threads_run 33 = .ok (.ifCond .eq 9, 3) := by decide +kernel
theorem dN_Threads_run_36 : decode cN_Threads_run 36 = .ok (.iload 4, 2) := by decide +kernel
theorem dN_Threads_run_38 : decode cN_Threads_run 38 = .ok (.iload_n 3, 1) := by decide +kernel
theorem dN_Threads_run_39 : decode cN_Threads_run 39 = .ok (.if_icmp .ne 9, 3) := by decide +kernel
theorem dN_Threads_run_42 : decode cN_Threads_run 42 = .ok (.aload_n 0, 1) := by decide +kernel
theorem dN_Threads_run_43 : decode cN_Threads_run 43 = .ok (.iload 4, 2) := by decide +kernel
theorem dN_Threads_run_45 : decode cN_Threads_run 45 = .ok (.invokevirtual 68, 3) := by decide +kernel
theorem dN_Threads_run_48 : decode cN_Threads_run 48 = .ok (.aload_n 0, 1) := by decide +kernel
theorem dN_Threads_run_49 : decode cN_Threads_run 49 = .ok (.getfield 31, 3) := by decide +kernel
theorem dN_Threads_run_52 : decode cN_Threads_run 52 = .ok (.invokevirtual 59, 3) := by decide +kernel
theorem dN_Threads_run_55 : decode cN_Threads_run 55 = .ok (.aload_n 0, 1) := by decide +kernel
theorem dN_Threads_run_56 : decode cN_Threads_run 56 = .ok (.iload_n 1, 1) := by decide +kernel
theorem dN_Threads_run_57 : decode cN_Threads_run 57 = .ok (.iload_n 2, 1) := by decide +kernel
theorem dN_Threads_run_58 : decode cN_Threads_run 58 = .ok (.iload 4, 2) := by decide +kernel
theorem dN_Threads_run_60 : decode cN_Threads_run 60 = .ok (.invokevirtual 71, 3) := by decide +kernel
theorem dN_Threads_run_63 : decode cN_Threads_run 63 = .ok (.aload_n 0, 1) := by decide +kernel
theorem dN_Threads_run_64 : decode cN_Threads_run 64 = .ok (.invokevirtual 75, 3) := by decide +kernel
theorem dN_Threads_run_67 : decode cN_Threads_run 67 = .ok (.iinc 4 1, 3) := by decide +kernel
theorem dN_Threads_run_70 : decode cN_Threads_run 70 = .ok (.goto (-60), 3) := by decide +kernel
theorem dN_Threads_run_73 : decode cN_Threads_run 73 = .ok (.return_, 1) := by decide +kernel
theorem dN_Threads_beginThread_0 : decode cN_Threads_beginThread 0 = .ok (.aload_n 0, 1) := by decide +kernel
theorem dN_Threads_beginThread_1 : decode cN_Threads_beginThread 1 = .ok (.getfield 9, 3) := by decide +kernel
theorem dN_Threads_beginThread_4 : decode cN_Threads_beginThread 4 = .ok (.iconst (-1), 1) := by decide +kernel
theorem dN_Threads_beginThread_5 : decode cN_Threads_beginThread 5 = .ok (.invokestatic 78, 3) := by decide +kernel
theorem dN_Threads_beginThread_8 : decode cN_Threads_beginThread 8 = .ok (.aload_n 0, 1) := by decide +kernel
theorem dN_Threads_beginThread_9 : decode cN_Threads_beginThread 9 = .ok (.getfield 9, 3) := by decide +kernel
theorem dN_Threads_beginThread_12 : decode cN_Threads_beginThread 12 = .ok (.iconst 0, 1) := by decide +kernel
theorem dN_Threads_beginThread_13 : decode cN_Threads_beginThread 13 = .ok (.iload_n 1, 1) := by decide +kernel
theorem dN_Threads_beginThread_14 : decode cN_Threads_beginThread 14 = .ok (.iastore, 1) := by decide +kernel
theorem dN_Threads_beginThread_15 : decode cN_Threads_beginThread 15 = .ok (.aload_n 0, 1) := by decide +kernel
theorem dN_Threads_beginThread_16 : decode cN_Threads_beginThread 16 = .ok (.aload_n 0, 1) := by decide +kernel
theorem dN_Threads_beginThread_17 : decode cN_Threads_beginThread 17 = .ok (.getfield 48, 3) := by decide +kernel
theorem dN_Threads_beginThread_20 : decode cN_Threads_beginThread 20 = .ok (.iload_n 1, 1) := by decide +kernel
theorem dN_Threads_beginThread_21 : decode cN_Threads_beginThread 21 = .ok (.invokevirtual 84, 3) := by decide +kernel
theorem dN_Threads_beginThread_24 : decode cN_Threads_beginThread 24 = .ok (.putfield 40, 3) := by decide +kernel
theorem dN_Threads_beginThread_27 : decode cN_Threads_beginThread 27 = .ok (.aload_n 0, 1) := by decide +kernel
theorem dN_Threads_beginThread_28 : decode cN_Threads_beginThread 28 = .ok (.aload_n 0, 1) := by decide +kernel
theorem dN_Threads_beginThread_29 : decode cN_Threads_beginThread 29 = .ok (.getfield 44, 3) := by decide +kernel
theorem dN_Threads_beginThread_32 : decode cN_Threads_beginThread 32 = .ok (.invokevirtual 88, 3) := by decide +kernel
theorem dN_Threads_beginThread_35 : decode cN_Threads_beginThread 35 = .ok (.iload_n 1, 1) := by decide +kernel
theorem dN_Threads_beginThread_36 : decode cN_Threads_beginThread 36 = .ok (.aload_n 0, 1) := by decide +kernel
theorem dN_Threads_beginThread_37 : decode cN_Threads_beginThread 37 = .ok (.getfield 27, 3) := by decide +kernel
theorem dN_Threads_beginThread_40 : decode cN_Threads_beginThread 40 = .ok (.aload_n 0, 1) := by decide +kernel
theorem dN_Threads_beginThread_41 : decode cN_Threads_beginThread 41 = .ok (.getfield 34, 3) := by decide +kernel
theorem dN_Threads_beginThread_44 : decode cN_Threads_beginThread 44 = .ok (.invokevirtual 93, 3) := by decide +kernel
theorem dN_Threads_beginThread_47 : decode cN_Threads_beginThread 47 = .ok (.return_, 1) := by decide +kernel
theorem dN_Threads_comeTo_0 : decode cN_Threads_comeTo 0 = .ok (.aload_n 0, 1) := by decide +kernel
theorem dN_Threads_comeTo_1 : decode cN_Threads_comeTo 1 = .ok (.getfield 20, 3) := by decide +kernel
theorem dN_Threads_comeTo_4 : decode cN_Threads_comeTo 4 = .ok (.invokevirtual 133, 3) := by decide +kernel
theorem dN_Threads_comeTo_7 : decode cN_Threads_comeTo 7 = .ok (.aload_n 0, 1) := by decide +kernel
theorem dN_Threads_comeTo_8 : decode cN_Threads_comeTo 8 = .ok (.getfield 20, 3) := by decide +kernel
theorem dN_Threads_comeTo_11 : decode cN_Threads_comeTo 11 = .ok (.iload_n 1, 1) := by decide +kernel
theorem dN_Threads_comeTo_12 : decode cN_Threads_comeTo 12 = .ok (.invokevirtual 136, 3) := by decide +kernel
theorem dN_Threads_comeTo_15 : decode cN_Threads_comeTo 15 = .ok (.iconst 0, 1) := by decide +kernel
theorem dN_Threads_comeTo_16 : decode cN_Threads_comeTo 16 = .ok (.istore 5, 2) := by decide +kernel
theorem dN_Threads_comeTo_18 : decode cN_Threads_comeTo 18 = .ok (.iload 5, 2) := by decide +kernel
theorem dN_Threads_comeTo_20 : decode cN_Threads_comeTo 20 = .ok (.ldc 139, 2) := by decide +kernel
theorem dN_Threads_comeTo_22 : decode cN_Threads_comeTo 22 = .ok (.if_icmp .ge 58, 3) := by decide +kernel
theorem dN_Threads_comeTo_25 : decode cN_Threads_comeTo 25 = .ok (.aload_n 0, 1) := by decide +kernel
theorem dN_Threads_comeTo_26 : decode cN_Threads_comeTo 26 = .ok (.getfield 20, 3) := by decide +kernel
theorem dN_Threads_comeTo_29 : decode cN_Threads_comeTo 29 = .ok (.invokevirtual 140, 3) := by decide +kernel
theorem dN_Threads_comeTo_32 : decode cN_Threads_comeTo 32 = .ok (.ifCond .ne 48, 3) := by decide +kernel
theorem dN_Threads_comeTo_35 : decode cN_Threads_comeTo 35 = .ok (.aload_n 0, 1) := by decide +kernel
theorem dN_Threads_comeTo_36 : decode cN_Threads_comeTo 36 = .ok (.getfield 20, 3) := by decide +kernel
theorem dN_Threads_comeTo_39 : decode cN_Threads_comeTo 39 = .ok (.invokevirtual 144, 3) := by decide +kernel
theorem dN_Threads_comeTo_42 : decode cN_Threads_comeTo 42 = .ok (.istore 6, 2) := by decide +kernel
theorem dN_Threads_comeTo_44 : decode cN_Threads_comeTo 44 = .ok (.iload 6, 2) := by decide +kernel
theorem dN_Threads_comeTo_46 : decode cN_Threads_comeTo 46 = .ok (.invokestatic 147, 3) := by decide +kernel
theorem dN_Threads_comeTo_49 : decode cN_Threads_comeTo 49 = .ok (.ifCond .eq 15, 3) := by decide +kernel
theorem dN_Threads_comeTo_52 : decode cN_Threads_comeTo 52 = .ok (.iload 6, 2) := by decide +kernel
theorem dN_Threads_comeTo_54 : decode cN_Threads_comeTo 54 = .ok (.aload_n 0, 1) := by decide +kernel
theorem dN_Threads_comeTo_55 : decode cN_Threads_comeTo 55 = .ok (.getfield 9, 3) := by decide +kernel
theorem dN_Threads_comeTo_58 : decode cN_Threads_comeTo 58 = .ok (.invokestatic 150, 3) := by decide +kernel
theorem dN_Threads_comeTo_61 : decode cN_Threads_comeTo 61 = .ok (.goto 13, 3) := by decide +kernel
theorem dN_Threads_comeTo_64 : decode cN_Threads_comeTo 64 = .ok (.aload_n 0, 1) := by decide +kernel
theorem dN_Threads_comeTo_65 : decode cN_Threads_comeTo 65 = .ok (.iload 6, 2) := by decide +kernel
theorem dN_Threads_comeTo_67 : decode cN_Threads_comeTo 67 = .ok (.iload_n 2, 1) := by decide +kernel
theorem dN_Threads_comeTo_68 : decode cN_Threads_comeTo 68 = .ok (.aload_n 3, 1) := by decide +kernel
theorem dN_Threads_comeTo_69 : decode cN_Threads_comeTo 69 = .ok (.aload 4, 2) := by decide +kernel
theorem dN_Threads_comeTo_71 : decode cN_Threads_comeTo 71 = .ok (.invokevirtual 153, 3) := by decide +kernel
theorem dN_Threads_comeTo_74 : decode cN_Threads_comeTo 74 = .ok (.iinc 5 1, 3) := by decide +kernel
theorem dN_Threads_comeTo_77 : decode cN_Threads_comeTo 77 = .ok (.goto (-59), 3) := by decide +kernel
theorem dN_Threads_comeTo_80 : decode cN_Threads_comeTo 80 = .ok (.return_, 1) := by decide +kernel
theorem dN_Threads_visit_0 : decode cN_Threads_visit 0 = .ok (.aload_n 0, 1) := by decide +kernel
theorem dN_Threads_visit_1 : decode cN_Threads_visit 1 = .ok (.getfield 52, 3) := by decide +kernel
theorem dN_Threads_visit_4 : decode cN_Threads_visit 4 = .ok (.invokevirtual 156, 3) := by decide +kernel
theorem dN_Threads_visit_7 : decode cN_Threads_visit 7 = .ok (.aload_n 3, 1) := by decide +kernel
theorem dN_Threads_visit_8 : decode cN_Threads_visit 8 = .ok (.iload_n 1, 1) := by decide +kernel
theorem dN_Threads_visit_9 : decode cN_Threads_visit 9 = .ok (.invokevirtual 160, 3) := by decide +kernel
theorem dN_Threads_visit_12 : decode cN_Threads_visit 12 = .ok (.ifCond .ne 4, 3) := by decide +kernel
theorem dN_Threads_visit_15 : decode cN_Threads_visit 15 = .ok (.return_, 1) := by decide +kernel
theorem dN_Threads_visit_16 : decode cN_Threads_visit 16 = .ok (.aload_n 0, 1) := by decide +kernel
theorem dN_Threads_visit_17 : decode cN_Threads_visit 17 = .ok (.getfield 44, 3) := by decide +kernel
theorem dN_Threads_visit_20 : decode cN_Threads_visit 20 = .ok (.iload_n 1, 1) := by decide +kernel
theorem dN_Threads_visit_21 : decode cN_Threads_visit 21 = .ok (.invokevirtual 163, 3) := by decide +kernel
theorem dN_Threads_visit_24 : decode cN_Threads_visit 24 = .ok (.istore 5, 2) := by decide +kernel
theorem dN_Threads_visit_26 : decode cN_Threads_visit 26 = .ok (.aload_n 0, 1) := by decide +kernel
theorem dN_Threads_visit_27 : decode cN_Threads_visit 27 = .ok (.getfield 44, 3) := by decide +kernel
theorem dN_Threads_visit_30 : decode cN_Threads_visit 30 = .ok (.iload_n 1, 1) := by decide +kernel
theorem dN_Threads_visit_31 : decode cN_Threads_visit 31 = .ok (.invokevirtual 166, 3) := by decide +kernel
theorem dN_Threads_visit_34 : decode cN_Threads_visit 34 = .ok (.tableswitch 144 0 4 #[34, 34, 49, 82, 114], 34) := by decide +kernel
theorem dN_Threads_visit_68 : decode cN_Threads_visit 68 = .ok (.aload_n 3, 1) := by decide +kernel
theorem dN_Threads_visit_69 : decode cN_Threads_visit 69 = .ok (.iload_n 1, 1) := by decide +kernel
theorem dN_Threads_visit_70 : decode cN_Threads_visit 70 = .ok (.invokevirtual 169, 3) := by decide +kernel
theorem dN_Threads_visit_73 : decode cN_Threads_visit 73 = .ok (.aload_n 0, 1) := by decide +kernel
theorem dN_Threads_visit_74 : decode cN_Threads_visit 74 = .ok (.iload_n 1, 1) := by decide +kernel
theorem dN_Threads_visit_75 : decode cN_Threads_visit 75 = .ok (.aload 4, 2) := by decide +kernel
theorem dN_Threads_visit_77 : decode cN_Threads_visit 77 = .ok (.invokevirtual 170, 3) := by decide +kernel
theorem dN_Threads_visit_80 : decode cN_Threads_visit 80 = .ok (.goto 98, 3) := by decide +kernel
theorem dN_Threads_visit_83 : decode cN_Threads_visit 83 = .ok (.aload_n 0, 1) := by decide +kernel
theorem dN_Threads_visit_84 : decode cN_Threads_visit 84 = .ok (.getfield 20, 3) := by decide +kernel
theorem dN_Threads_visit_87 : decode cN_Threads_visit 87 = .ok (.aload_n 0, 1) := by decide +kernel
theorem dN_Threads_visit_88 : decode cN_Threads_visit 88 = .ok (.getfield 44, 3) := by decide +kernel
theorem dN_Threads_visit_91 : decode cN_Threads_visit 91 = .ok (.iload_n 1, 1) := by decide +kernel
theorem dN_Threads_visit_92 : decode cN_Threads_visit 92 = .ok (.invokevirtual 173, 3) := by decide +kernel
theorem dN_Threads_visit_95 : decode cN_Threads_visit 95 = .ok (.invokevirtual 136, 3) := by decide +kernel
theorem dN_Threads_visit_98 : decode cN_Threads_visit 98 = .ok (.aload_n 0, 1) := by decide +kernel
theorem dN_Threads_visit_99 : decode cN_Threads_visit 99 = .ok (.getfield 20, 3) := by decide +kernel
theorem dN_Threads_visit_102 : decode cN_Threads_visit 102 = .ok (.aload_n 0, 1) := by decide +kernel
theorem dN_Threads_visit_103 : decode cN_Threads_visit 103 = .ok (.getfield 44, 3) := by decide +kernel
theorem dN_Threads_visit_106 : decode cN_Threads_visit 106 = .ok (.iload_n 1, 1) := by decide +kernel
theorem dN_Threads_visit_107 : decode cN_Threads_visit 107 = .ok (.invokevirtual 120, 3) := by decide +kernel
theorem dN_Threads_visit_110 : decode cN_Threads_visit 110 = .ok (.invokevirtual 136, 3) := by decide +kernel
theorem dN_Threads_visit_113 : decode cN_Threads_visit 113 = .ok (.goto 65, 3) := by decide +kernel
theorem dN_Threads_visit_116 : decode cN_Threads_visit 116 = .ok (.aload_n 0, 1) := by decide +kernel
theorem dN_Threads_visit_117 : decode cN_Threads_visit 117 = .ok (.getfield 20, 3) := by decide +kernel
theorem dN_Threads_visit_120 : decode cN_Threads_visit 120 = .ok (.iload 5, 2) := by decide +kernel
theorem dN_Threads_visit_122 : decode cN_Threads_visit 122 = .ok (.iload_n 2, 1) := by decide +kernel
theorem dN_Threads_visit_123 : decode cN_Threads_visit 123 = .ok (.aload_n 0, 1) := by decide +kernel
theorem dN_Threads_visit_124 : decode cN_Threads_visit 124 = .ok (.getfield 9, 3) := by decide +kernel
theorem dN_Threads_visit_127 : decode cN_Threads_visit 127 = .ok (.invokevirtual 176, 3) := by decide +kernel
theorem dN_Threads_visit_130 : decode cN_Threads_visit 130 = .ok (.aload_n 0, 1) := by decide +kernel
theorem dN_Threads_visit_131 : decode cN_Threads_visit 131 = .ok (.getfield 20, 3) := by decide +kernel
theorem dN_Threads_visit_134 : decode cN_Threads_visit 134 = .ok (.aload_n 0, 1) := by decide +kernel
theorem dN_Threads_visit_135 : decode cN_Threads_visit 135 = .ok (.getfield 44, 3) := by decide +kernel
theorem dN_Threads_visit_138 : decode cN_Threads_visit 138 = .ok (.iload_n 1, 1) := by decide +kernel
theorem dN_Threads_visit_139 : decode cN_Threads_visit 139 = .ok (.invokevirtual 120, 3) := by decide +kernel
theorem dN_Threads_visit_142 : decode cN_Threads_visit 142 = .ok (.invokevirtual 136, 3) := by decide +kernel
theorem dN_Threads_visit_145 : decode cN_Threads_visit 145 = .ok (.goto 33, 3) := by decide +kernel
theorem dN_Threads_visit_148 : decode cN_Threads_visit 148 = .ok (.aload_n 0, 1) := by decide +kernel
theorem dN_Threads_visit_149 : decode cN_Threads_visit 149 = .ok (.getfield 40, 3) := by decide +kernel
theorem dN_Threads_visit_152 : decode cN_Threads_visit 152 = .ok (.iload 5, 2) := by decide +kernel
theorem dN_Threads_visit_154 : decode cN_Threads_visit 154 = .ok (.ishr, 1) := by decide +kernel
theorem dN_Threads_visit_155 : decode cN_Threads_visit 155 = .ok (.iconst 1, 1) := by decide +kernel
theorem dN_Threads_visit_156 : decode cN_Threads_visit 156 = .ok (.iand, 1) := by decide +kernel
theorem dN_Threads_visit_157 : decode cN_Threads_visit 157 = .ok (.ifCond .eq 21, 3) := by decide +kernel
theorem dN_Threads_visit_160 : decode cN_Threads_visit 160 = .ok (.aload_n 0, 1) := by decide +kernel
theorem dN_Threads_visit_161 : decode cN_Threads_visit 161 = .ok (.getfield 20, 3) := by decide +kernel
theorem dN_Threads_visit_164 : decode cN_Threads_visit 164 = .ok (.aload_n 0, 1) := by decide +kernel
theorem dN_Threads_visit_165 : decode cN_Threads_visit 165 = .ok (.getfield 44, 3) := by decide +kernel
theorem dN_Threads_visit_168 : decode cN_Threads_visit 168 = .ok (.iload_n 1, 1) := by decide +kernel
theorem dN_Threads_visit_169 : decode cN_Threads_visit 169 = .ok (.invokevirtual 120, 3) := by decide +kernel
theorem dN_Threads_visit_172 : decode cN_Threads_visit 172 = .ok (.invokevirtual 136, 3) := by decide +kernel
theorem dN_Threads_visit_175 : decode cN_Threads_visit 175 = .ok (.goto 3, 3) := by decide +kernel
theorem dN_Threads_visit_178 : decode cN_Threads_visit 178 = .ok (.return_, 1) := by decide +kernel
theorem dN_Threads_writeSaved_0 : decode cN_Threads_writeSaved 0 = .ok (.aload_n 0, 1) := by decide +kernel
theorem dN_Threads_writeSaved_1 : decode cN_Threads_writeSaved 1 = .ok (.getfield 44, 3) := by decide +kernel
theorem dN_Threads_writeSaved_4 : decode cN_Threads_writeSaved 4 = .ok (.iload_n 1, 1) := by decide +kernel
theorem dN_Threads_writeSaved_5 : decode cN_Threads_writeSaved 5 = .ok (.invokevirtual 123, 3) := by decide +kernel
theorem dN_Threads_writeSaved_8 : decode cN_Threads_writeSaved 8 = .ok (.ifCond .eq 18, 3) := by decide +kernel
theorem dN_Threads_writeSaved_11 : decode cN_Threads_writeSaved 11 = .ok (.aload_n 0, 1) := by decide +kernel
theorem dN_Threads_writeSaved_12 : decode cN_Threads_writeSaved 12 = .ok (.getfield 9, 3) := by decide +kernel
theorem dN_Threads_writeSaved_15 : decode cN_Threads_writeSaved 15 = .ok (.iconst 0, 1) := by decide +kernel
theorem dN_Threads_writeSaved_16 : decode cN_Threads_writeSaved 16 = .ok (.aload_n 2, 1) := by decide +kernel
theorem dN_Threads_writeSaved_17 : decode cN_Threads_writeSaved 17 = .ok (.iload_n 1, 1) := by decide +kernel
theorem dN_Threads_writeSaved_18 : decode cN_Threads_writeSaved 18 = .ok (.bipush 20, 2) := by decide +kernel
theorem dN_Threads_writeSaved_20 : decode cN_Threads_writeSaved 20 = .ok (.imul, 1) := by decide +kernel
theorem dN_Threads_writeSaved_21 : decode cN_Threads_writeSaved 21 = .ok (.bipush 20, 2) := by decide +kernel
theorem dN_Threads_writeSaved_23 : decode cN_Threads_writeSaved 23 = .ok (.invokestatic 127, 3) := by decide +kernel
theorem dN_Threads_writeSaved_26 : decode cN_Threads_writeSaved 26 = .ok (.return_, 1) := by decide +kernel
theorem dN_Threads_goOverByte_0 : decode cN_Threads_goOverByte 0 = .ok (.aload_n 0, 1) := by decide +kernel
theorem dN_Threads_goOverByte_1 : decode cN_Threads_goOverByte 1 = .ok (.getfield 48, 3) := by decide +kernel
theorem dN_Threads_goOverByte_4 : decode cN_Threads_goOverByte 4 = .ok (.iload_n 3, 1) := by decide +kernel
theorem dN_Threads_goOverByte_5 : decode cN_Threads_goOverByte 5 = .ok (.invokevirtual 97, 3) := by decide +kernel
theorem dN_Threads_goOverByte_8 : decode cN_Threads_goOverByte 8 = .ok (.istore 4, 2) := by decide +kernel
theorem dN_Threads_goOverByte_10 : decode cN_Threads_goOverByte 10 = .ok (.aload_n 0, 1) := by decide +kernel
theorem dN_Threads_goOverByte_11 : decode cN_Threads_goOverByte 11 = .ok (.aload_n 0, 1) := by decide +kernel
theorem dN_Threads_goOverByte_12 : decode cN_Threads_goOverByte 12 = .ok (.getfield 48, 3) := by decide +kernel
theorem dN_Threads_goOverByte_15 : decode cN_Threads_goOverByte 15 = .ok (.iload_n 3, 1) := by decide +kernel
theorem dN_Threads_goOverByte_16 : decode cN_Threads_goOverByte 16 = .ok (.iconst 1, 1) := by decide +kernel
theorem dN_Threads_goOverByte_17 : decode cN_Threads_goOverByte 17 = .ok (.iadd, 1) := by decide +kernel
theorem dN_Threads_goOverByte_18 : decode cN_Threads_goOverByte 18 = .ok (.invokevirtual 84, 3) := by decide +kernel
theorem dN_Threads_goOverByte_21 : decode cN_Threads_goOverByte 21 = .ok (.putfield 40, 3) := by decide +kernel
theorem dN_Threads_goOverByte_24 : decode cN_Threads_goOverByte 24 = .ok (.iconst 0, 1) := by decide +kernel
theorem dN_Threads_goOverByte_25 : decode cN_Threads_goOverByte 25 = .ok (.istore 5, 2) := by decide +kernel
theorem dN_Threads_goOverByte_27 : decode cN_Threads_goOverByte 27 = .ok (.iload 5, 2) := by decide +kernel
theorem dN_Threads_goOverByte_29 : decode cN_Threads_goOverByte 29 = .ok (.aload_n 0, 1) := by decide +kernel
theorem dN_Threads_goOverByte_30 : decode cN_Threads_goOverByte 30 = .ok (.getfield 27, 3) := by decide +kernel
theorem dN_Threads_goOverByte_33 : decode cN_Threads_goOverByte 33 = .ok (.invokevirtual 100, 3) := by decide +kernel
theorem dN_Threads_goOverByte_36 : decode cN_Threads_goOverByte 36 = .ok (.if_icmp .ge 135, 3) := by decide +kernel
theorem dN_Threads_goOverByte_39 : decode cN_Threads_goOverByte 39 = .ok (.aload_n 0, 1) := by decide +kernel
theorem dN_Threads_goOverByte_40 : decode cN_Threads_goOverByte 40 = .ok (.getfield 27, 3) := by decide +kernel
theorem dN_Threads_goOverByte_43 : decode cN_Threads_goOverByte 43 = .ok (.iload 5, 2) := by decide +kernel
theorem dN_Threads_goOverByte_45 : decode cN_Threads_goOverByte 45 = .ok (.invokevirtual 103, 3) := by decide +kernel
theorem dN_Threads_goOverByte_48 : decode cN_Threads_goOverByte 48 = .ok (.istore 6, 2) := by decide +kernel
theorem dN_Threads_goOverByte_50 : decode cN_Threads_goOverByte 50 = .ok (.aload_n 0, 1) := by decide +kernel
theorem dN_Threads_goOverByte_51 : decode cN_Threads_goOverByte 51 = .ok (.getfield 56, 3) := by decide +kernel
theorem dN_Threads_goOverByte_54 : decode cN_Threads_goOverByte 54 = .ok (.iconst 1, 1) := by decide +kernel
theorem dN_Threads_goOverByte_55 : decode cN_Threads_goOverByte 55 = .ok (.iaload, 1) := by decide +kernel
theorem dN_Threads_goOverByte_56 : decode cN_Threads_goOverByte 56 = .ok (.iconst (-1), 1) := by decide +kernel
theorem dN_Threads_goOverByte_57 : decode cN_Threads_goOverByte 57 = .ok (.if_icmp .eq 21, 3) := by decide +kernel
theorem dN_Threads_goOverByte_60 : decode cN_Threads_goOverByte 60 = .ok (.aload_n 0, 1) := by decide +kernel
theorem dN_Threads_goOverByte_61 : decode cN_Threads_goOverByte 61 = .ok (.iload 6, 2) := by decide +kernel
theorem dN_Threads_goOverByte_63 : decode cN_Threads_goOverByte 63 = .ok (.invokevirtual 106, 3) := by decide +kernel
theorem dN_Threads_goOverByte_66 : decode cN_Threads_goOverByte 66 = .ok (.aload_n 0, 1) := by decide +kernel
theorem dN_Threads_goOverByte_67 : decode cN_Threads_goOverByte 67 = .ok (.getfield 56, 3) := by decide +kernel
theorem dN_Threads_goOverByte_70 : decode cN_Threads_goOverByte 70 = .ok (.iconst 0, 1) := by decide +kernel
theorem dN_Threads_goOverByte_71 : decode cN_Threads_goOverByte 71 = .ok (.iaload, 1) := by decide +kernel
theorem dN_Threads_goOverByte_72 : decode cN_Threads_goOverByte 72 = .ok (.if_icmp .le 6, 3) := by decide +kernel
theorem dN_Threads_goOverByte_75 : decode cN_Threads_goOverByte 75 = .ok (.goto 90, 3) := by decide +kernel
theorem dN_Threads_goOverByte_78 : decode cN_Threads_goOverByte 78 = .ok (.iload 6, 2) := by decide +kernel
theorem dN_Threads_goOverByte_80 : decode cN_Threads_goOverByte 80 = .ok (.ifCond .ne 37, 3) := by decide +kernel
theorem dN_Threads_goOverByte_83 : decode cN_Threads_goOverByte 83 = .ok (.aload_n 0, 1) := by decide +kernel
theorem dN_Threads_goOverByte_84 : decode cN_Threads_goOverByte 84 = .ok (.getfield 48, 3) := by decide +kernel
theorem dN_Threads_goOverByte_87 : decode cN_Threads_goOverByte 87 = .ok (.iload_n 1, 1) := by decide +kernel
theorem dN_Threads_goOverByte_88 : decode cN_Threads_goOverByte 88 = .ok (.iload_n 3, 1) := by decide +kernel
theorem dN_Threads_goOverByte_89 : decode cN_Threads_goOverByte 89 = .ok (.invokevirtual 109, 3) := by decide +kernel
theorem dN_Threads_goOverByte_92 : decode cN_Threads_goOverByte 92 = .ok (.ifCond .eq 73, 3) := by decide +kernel
theorem dN_Threads_goOverByte_95 : decode cN_Threads_goOverByte 95 = .ok (.aload_n 0, 1) := by decide +kernel
theorem dN_Threads_goOverByte_96 : decode cN_Threads_goOverByte 96 = .ok (.iload 6, 2) := by decide +kernel
theorem dN_Threads_goOverByte_98 : decode cN_Threads_goOverByte 98 = .ok (.aload_n 0, 1) := by decide +kernel
theorem dN_Threads_goOverByte_99 : decode cN_Threads_goOverByte 99 = .ok (.getfield 56, 3) := by decide +kernel
theorem dN_Threads_goOverByte_102 : decode cN_Threads_goOverByte 102 = .ok (.invokevirtual 113, 3) := by decide +kernel
theorem dN_Threads_goOverByte_105 : decode cN_Threads_goOverByte 105 = .ok (.aload_n 0, 1) := by decide +kernel
theorem dN_Threads_goOverByte_106 : decode cN_Threads_goOverByte 106 = .ok (.getfield 56, 3) := by decide +kernel
theorem dN_Threads_goOverByte_109 : decode cN_Threads_goOverByte 109 = .ok (.iconst 1, 1) := by decide +kernel
theorem dN_Threads_goOverByte_110 : decode cN_Threads_goOverByte 110 = .ok (.iload_n 3, 1) := by decide +kernel
theorem dN_Threads_goOverByte_111 : decode cN_Threads_goOverByte 111 = .ok (.iastore, 1) := by decide +kernel
theorem dN_Threads_goOverByte_112 : decode cN_Threads_goOverByte 112 = .ok (.iload_n 2, 1) := by decide +kernel
theorem dN_Threads_goOverByte_113 : decode cN_Threads_goOverByte 113 = .ok (.ifCond .ne 52, 3) := by decide +kernel
theorem dN_Threads_goOverByte_116 : decode cN_Threads_goOverByte 116 = .ok (.return_, 1) := by decide +kernel
theorem dN_Threads_goOverByte_117 : decode cN_Threads_goOverByte 117 = .ok (.aload_n 0, 1) := by decide +kernel
theorem dN_Threads_goOverByte_118 : decode cN_Threads_goOverByte 118 = .ok (.getfield 44, 3) := by decide +kernel
theorem dN_Threads_goOverByte_121 : decode cN_Threads_goOverByte 121 = .ok (.iload 6, 2) := by decide +kernel
theorem dN_Threads_goOverByte_123 : decode cN_Threads_goOverByte 123 = .ok (.iload 4, 2) := by decide +kernel
theorem dN_Threads_goOverByte_125 : decode cN_Threads_goOverByte 125 = .ok (.invokevirtual 117, 3) := by decide +kernel
theorem dN_Threads_goOverByte_128 : decode cN_Threads_goOverByte 128 = .ok (.ifCond .eq 37, 3) := by decide +kernel
theorem dN_Threads_goOverByte_131 : decode cN_Threads_goOverByte 131 = .ok (.aload_n 0, 1) := by decide +kernel
theorem dN_Threads_goOverByte_132 : decode cN_Threads_goOverByte 132 = .ok (.iload 6, 2) := by decide +kernel
theorem dN_Threads_goOverByte_134 : decode cN_Threads_goOverByte 134 = .ok (.aload_n 0, 1) := by decide +kernel
theorem dN_Threads_goOverByte_135 : decode cN_Threads_goOverByte 135 = .ok (.getfield 9, 3) := by decide +kernel
theorem dN_Threads_goOverByte_138 : decode cN_Threads_goOverByte 138 = .ok (.invokevirtual 113, 3) := by decide +kernel
theorem dN_Threads_goOverByte_141 : decode cN_Threads_goOverByte 141 = .ok (.aload_n 0, 1) := by decide +kernel
theorem dN_Threads_goOverByte_142 : decode cN_Threads_goOverByte 142 = .ok (.aload_n 0, 1) := by decide +kernel
theorem dN_Threads_goOverByte_143 : decode cN_Threads_goOverByte 143 = .ok (.getfield 44, 3) := by decide +kernel
theorem dN_Threads_goOverByte_146 : decode cN_Threads_goOverByte 146 = .ok (.iload 6, 2) := by decide +kernel
theorem dN_Threads_goOverByte_148 : decode cN_Threads_goOverByte 148 = .ok (.invokevirtual 120, 3) := by decide +kernel
theorem dN_Threads_goOverByte_151 : decode cN_Threads_goOverByte 151 = .ok (.iload_n 3, 1) := by decide +kernel
theorem dN_Threads_goOverByte_152 : decode cN_Threads_goOverByte 152 = .ok (.iconst 1, 1) := by decide +kernel
theorem dN_Threads_goOverByte_153 : decode cN_Threads_goOverByte 153 = .ok (.iadd, 1) := by decide +kernel
theorem dN_Threads_goOverByte_154 : decode cN_Threads_goOverByte 154 = .ok (.aload_n 0, 1) := by decide +kernel
theorem dN_Threads_goOverByte_155 : decode cN_Threads_goOverByte 155 = .ok (.getfield 31, 3) := by decide +kernel
theorem dN_Threads_goOverByte_158 : decode cN_Threads_goOverByte 158 = .ok (.aload_n 0, 1) := by decide +kernel
theorem dN_Threads_goOverByte_159 : decode cN_Threads_goOverByte 159 = .ok (.getfield 37, 3) := by decide +kernel
theorem dN_Threads_goOverByte_162 : decode cN_Threads_goOverByte 162 = .ok (.invokevirtual 93, 3) := by decide +kernel
theorem dN_Threads_goOverByte_165 : decode cN_Threads_goOverByte 165 = .ok (.iinc 5 1, 3) := by decide +kernel
theorem dN_Threads_goOverByte_168 : decode cN_Threads_goOverByte 168 = .ok (.goto (-141), 3) := by decide +kernel
theorem dN_Threads_goOverByte_171 : decode cN_Threads_goOverByte 171 = .ok (.return_, 1) := by decide +kernel
theorem dN_Threads_beginningOf_0 : decode cN_Threads_beginningOf 0 = .ok (.aload_n 0, 1) := by decide +kernel
theorem dN_Threads_beginningOf_1 : decode cN_Threads_beginningOf 1 = .ok (.getfield 44, 3) := by decide +kernel
theorem dN_Threads_beginningOf_4 : decode cN_Threads_beginningOf 4 = .ok (.iload_n 1, 1) := by decide +kernel
theorem dN_Threads_beginningOf_5 : decode cN_Threads_beginningOf 5 = .ok (.invokevirtual 123, 3) := by decide +kernel
theorem dN_Threads_beginningOf_8 : decode cN_Threads_beginningOf 8 = .ok (.ifCond .eq 15, 3) := by decide +kernel
theorem dN_Threads_beginningOf_11 : decode cN_Threads_beginningOf 11 = .ok (.aload_n 0, 1) := by decide +kernel
theorem dN_Threads_beginningOf_12 : decode cN_Threads_beginningOf 12 = .ok (.getfield 34, 3) := by decide +kernel
theorem dN_Threads_beginningOf_15 : decode cN_Threads_beginningOf 15 = .ok (.iload_n 1, 1) := by decide +kernel
theorem dN_Threads_beginningOf_16 : decode cN_Threads_beginningOf 16 = .ok (.bipush 20, 2) := by decide +kernel
theorem dN_Threads_beginningOf_18 : decode cN_Threads_beginningOf 18 = .ok (.imul, 1) := by decide +kernel
theorem dN_Threads_beginningOf_19 : decode cN_Threads_beginningOf 19 = .ok (.iaload, 1) := by decide +kernel
theorem dN_Threads_beginningOf_20 : decode cN_Threads_beginningOf 20 = .ok (.goto 4, 3) := by decide +kernel
theorem dN_Threads_beginningOf_23 : decode cN_Threads_beginningOf 23 = .ok (.iconst (-1), 1) := by decide +kernel
theorem dN_Threads_beginningOf_24 : decode cN_Threads_beginningOf 24 = .ok (.ireturn, 1) := by decide +kernel
theorem dN_Threads_readSaved_0 : decode cN_Threads_readSaved 0 = .ok (.aload_n 0, 1) := by decide +kernel
theorem dN_Threads_readSaved_1 : decode cN_Threads_readSaved 1 = .ok (.getfield 44, 3) := by decide +kernel
theorem dN_Threads_readSaved_4 : decode cN_Threads_readSaved 4 = .ok (.iload_n 1, 1) := by decide +kernel
theorem dN_Threads_readSaved_5 : decode cN_Threads_readSaved 5 = .ok (.invokevirtual 123, 3) := by decide +kernel
theorem dN_Threads_readSaved_8 : decode cN_Threads_readSaved 8 = .ok (.ifCond .eq 18, 3) := by decide +kernel
theorem dN_Threads_readSaved_11 : decode cN_Threads_readSaved 11 = .ok (.aload_n 0, 1) := by decide +kernel
theorem dN_Threads_readSaved_12 : decode cN_Threads_readSaved 12 = .ok (.getfield 34, 3) := by decide +kernel
theorem dN_Threads_readSaved_15 : decode cN_Threads_readSaved 15 = .ok (.iload_n 1, 1) := by decide +kernel
theorem dN_Threads_readSaved_16 : decode cN_Threads_readSaved 16 = .ok (.bipush 20, 2) := by decide +kernel
theorem dN_Threads_readSaved_18 : decode cN_Threads_readSaved 18 = .ok (.imul, 1) := by decide +kernel
theorem dN_Threads_readSaved_19 : decode cN_Threads_readSaved 19 = .ok (.aload_n 2, 1) := by decide +kernel
theorem dN_Threads_readSaved_20 : decode cN_Threads_readSaved 20 = .ok (.iconst 0, 1) := by decide +kernel
theorem dN_Threads_readSaved_21 : decode cN_Threads_readSaved 21 = .ok (.bipush 20, 2) := by decide +kernel
theorem dN_Threads_readSaved_23 : decode cN_Threads_readSaved 23 = .ok (.invokestatic 127, 3) := by decide +kernel
theorem dN_Threads_readSaved_26 : decode cN_Threads_readSaved 26 = .ok (.return_, 1) := by decide +kernel
theorem dN_Threads_swapRows_0 : decode cN_Threads_swapRows 0 = .ok (.aload_n 0, 1) := by decide +kernel
theorem dN_Threads_swapRows_1 : decode cN_Threads_swapRows 1 = .ok (.getfield 27, 3) := by decide +kernel
theorem dN_Threads_swapRows_4 : decode cN_Threads_swapRows 4 = .ok (.astore_n 1, 1) := by decide +kernel
theorem dN_Threads_swapRows_5 : decode cN_Threads_swapRows 5 = .ok (.aload_n 0, 1) := by decide +kernel
theorem dN_Threads_swapRows_6 : decode cN_Threads_swapRows 6 = .ok (.aload_n 0, 1) := by decide +kernel
theorem dN_Threads_swapRows_7 : decode cN_Threads_swapRows 7 = .ok (.getfield 31, 3) := by decide +kernel
theorem dN_Threads_swapRows_10 : decode cN_Threads_swapRows 10 = .ok (.putfield 27, 3) := by decide +kernel
theorem dN_Threads_swapRows_13 : decode cN_Threads_swapRows 13 = .ok (.aload_n 0, 1) := by decide +kernel
theorem dN_Threads_swapRows_14 : decode cN_Threads_swapRows 14 = .ok (.aload_n 1, 1) := by decide +kernel
theorem dN_Threads_swapRows_15 : decode cN_Threads_swapRows 15 = .ok (.putfield 31, 3) := by decide +kernel
theorem dN_Threads_swapRows_18 : decode cN_Threads_swapRows 18 = .ok (.aload_n 0, 1) := by decide +kernel
theorem dN_Threads_swapRows_19 : decode cN_Threads_swapRows 19 = .ok (.getfield 34, 3) := by decide +kernel
theorem dN_Threads_swapRows_22 : decode cN_Threads_swapRows 22 = .ok (.astore_n 2, 1) := by decide +kernel
theorem dN_Threads_swapRows_23 : decode cN_Threads_swapRows 23 = .ok (.aload_n 0, 1) := by decide +kernel
theorem dN_Threads_swapRows_24 : decode cN_Threads_swapRows 24 = .ok (.aload_n 0, 1) := by decide +kernel
theorem dN_Threads_swapRows_25 : decode cN_Threads_swapRows 25 = .ok (.getfield 37, 3) := by decide +kernel
theorem dN_Threads_swapRows_28 : decode cN_Threads_swapRows 28 = .ok (.putfield 34, 3) := by decide +kernel
theorem dN_Threads_swapRows_31 : decode cN_Threads_swapRows 31 = .ok (.aload_n 0, 1) := by decide +kernel
theorem dN_Threads_swapRows_32 : decode cN_Threads_swapRows 32 = .ok (.aload_n 2, 1) := by decide +kernel
theorem dN_Threads_swapRows_33 : decode cN_Threads_swapRows 33 = .ok (.putfield 37, 3) := by decide +kernel
theorem dN_Threads_swapRows_36 : decode cN_Threads_swapRows 36 = .ok (.return_, 1) := by decide +kernel
