theorem dN_Threads_init_0 : decode cN_Threads_init 0 = .ok (.aload_n 0, 1) := by decide +kernel
theorem dN_Threads_init_1 : decode cN_Threads_init 1 = .ok (.invokespecial 3, 3) := by decide +kernel
theorem dN_Threads_init_4 : decode cN_Threads_init 4 = .ok (.aload_n 0, 1) := by decide +kernel
theorem dN_Threads_init_5 : decode cN_Threads_init 5 = .ok (.bipush 20, 2) := by decide +kernel
theorem dN_Threads_init_7 : decode cN_Threads_init 7 = .ok (.newarray .int, 2) := by decide +kernel
theorem dN_Threads_init_9 : decode cN_Threads_init 9 = .ok (.putfield 9, 3) := by decide +kernel
theorem dN_Threads_init_12 : decode cN_Threads_init 12 = .ok (.aload_n 0, 1) := by decide +kernel
theorem dN_Threads_init_13 : decode cN_Threads_init 13 = .ok (.new 15, 3) := by decide +kernel
theorem dN_Threads_init_16 : decode cN_Threads_init 16 = .ok (.dup, 1) := by decide +kernel
theorem dN_Threads_init_17 : decode cN_Threads_init 17 = .ok (.sipush 402, 3) := by decide +kernel
theorem dN_Threads_init_20 : decode cN_Threads_init 20 = .ok (.invokespecial 17, 3) := by decide +kernel
theorem dN_Threads_init_23 : decode cN_Threads_init 23 = .ok (.putfield 20, 3) := by decide +kernel
theorem dN_Threads_init_26 : decode cN_Threads_init 26 = .ok (.aload_n 0, 1) := by decide +kernel
theorem dN_Threads_init_27 : decode cN_Threads_init 27 = .ok (.new 24, 3) := by decide +kernel
theorem dN_Threads_init_30 : decode cN_Threads_init 30 = .ok (.dup, 1) := by decide +kernel
theorem dN_Threads_init_31 : decode cN_Threads_init 31 = .ok (.invokespecial 26, 3) := by decide +kernel
theorem dN_Threads_init_34 : decode cN_Threads_init 34 = .ok (.putfield 27, 3) := by decide +kernel
theorem dN_Threads_init_37 : decode cN_Threads_init 37 = .ok (.aload_n 0, 1) := by decide +kernel
theorem dN_Threads_init_38 : decode cN_Threads_init 38 = .ok (.new 24, 3) := by decide +kernel
theorem dN_Threads_init_41 : decode cN_Threads_init 41 = .ok (.dup, 1) := by decide +kernel
theorem dN_Threads_init_42 : decode cN_Threads_init 42 = .ok (.invokespecial 26, 3) := by decide +kernel
theorem dN_Threads_init_45 : decode cN_Threads_init 45 = .ok (.putfield 31, 3) := by decide +kernel
theorem dN_Threads_init_48 : decode cN_Threads_init 48 = .ok (.aload_n 0, 1) := by decide +kernel
theorem dN_Threads_init_49 : decode cN_Threads_init 49 = .ok (.sipush 4000, 3) := by decide +kernel
theorem dN_Threads_init_52 : decode cN_Threads_init 52 = .ok (.newarray .int, 2) := by decide +kernel
theorem dN_Threads_init_54 : decode cN_Threads_init 54 = .ok (.putfield 34, 3) := by decide +kernel
theorem dN_Threads_init_57 : decode cN_Threads_init 57 = .ok (.aload_n 0, 1) := by decide +kernel
theorem dN_Threads_init_58 : decode cN_Threads_init 58 = .ok (.sipush 4000, 3) := by decide +kernel
theorem dN_Threads_init_61 : decode cN_Threads_init 61 = .ok (.newarray .int, 2) := by decide +kernel
theorem dN_Threads_init_63 : decode cN_Threads_init 63 = .ok (.putfield 37, 3) := by decide +kernel
theorem dN_Threads_init_66 : decode cN_Threads_init 66 = .ok (.aload_n 0, 1) := by decide +kernel
theorem dN_Threads_init_67 : decode cN_Threads_init 67 = .ok (.iconst 0, 1) := by decide +kernel
theorem dN_Threads_init_68 : decode cN_Threads_init 68 = .ok (.putfield 40, 3) := by decide +kernel
theorem dN_Threads_init_71 : decode cN_Threads_init 71 = .ok (.aload_n 0, 1) := by decide +kernel
theorem dN_Threads_init_72 : decode cN_Threads_init 72 = .ok (.aload_n 1, 1) := by decide +kernel
theorem dN_Threads_init_73 : decode cN_Threads_init 73 = .ok (.putfield 44, 3) := by decide +kernel
theorem dN_Threads_init_76 : decode cN_Threads_init 76 = .ok (.aload_n 0, 1) := by decide +kernel
theorem dN_Threads_init_77 : decode cN_Threads_init 77 = .ok (.aload_n 2, 1) := by decide +kernel
theorem dN_Threads_init_78 : decode cN_Threads_init 78 = .ok (.putfield 48, 3) := by decide +kernel
theorem dN_Threads_init_81 : decode cN_Threads_init 81 = .ok (.aload_n 0, 1) := by decide +kernel
theorem dN_Threads_init_82 : decode cN_Threads_init 82 = .ok (.aload_n 3, 1) := by decide +kernel
theorem dN_Threads_init_83 : decode cN_Threads_init 83 = .ok (.putfield 52, 3) := by decide +kernel
theorem dN_Threads_init_86 : decode cN_Threads_init 86 = .ok (.aload_n 0, 1) := by decide +kernel
theorem dN_Threads_init_87 : decode cN_Threads_init 87 = .ok (.aload 4, 2) := by decide +kernel
theorem dN_Threads_init_89 : decode cN_Threads_init 89 = .ok (.putfield 56, 3) := by decide +kernel
theorem dN_Threads_init_92 : decode cN_Threads_init 92 = .ok (.return_, 1) := by decide +kernel
theorem dN_Threads_run_0 : decode cN_Threads_run 0 = .ok (.aload_n 0, 1) := by decide +kernel
theorem dN_Threads_run_1 : decode cN_Threads_run 1 = .ok (.getfield 27, 3) := by decide +kernel
theorem dN_Threads_run_4 : decode cN_Threads_run 4 = .ok (.invokevirtual 59, 3) := by decide +kernel
theorem dN_Threads_run_7 : decode cN_Threads_run 7 = .ok (.iload_n 3, 1) := by decide +kernel
theorem dN_Threads_run_8 : decode cN_Threads_run 8 = .ok (.istore 4, 2) := by decide +kernel
theorem dN_Threads_run_10 : decode cN_Threads_run 10 = .ok (.iload 4, 2) := by decide +kernel
theorem dN_Threads_run_12 : decode cN_Threads_run 12 = .ok (.aload_n 0, 1) := by decide +kernel
theorem dN_Threads_run_13 : decode cN_Threads_run 13 = .ok (.getfield 48, 3) := by decide +kernel
theorem dN_Threads_run_16 : decode cN_Threads_run 16 = .ok (.getfield 62, 3) := by decide +kernel
theorem dN_Threads_run_19 : decode cN_Threads_run 19 = .ok (.if_icmp .gt 54, 3) := by decide +kernel
theorem dN_Threads_run_22 : decode cN_Threads_run 22 = .ok (.aload_n 0, 1) := by decide +kernel
theorem dN_Threads_run_23 : decode cN_Threads_run 23 = .ok (.getfield 56, 3) := by decide +kernel
theorem dN_Threads_run_26 : decode cN_Threads_run 26 = .ok (.iconst 1, 1) := by decide +kernel
theorem dN_Threads_run_27 : decode cN_Threads_run 27 = .ok (.iaload, 1) := by decide +kernel
theorem dN_Threads_run_28 : decode cN_Threads_run 28 = .ok (.iconst (-1), 1) := by decide +kernel
theorem dN_Threads_run_29 : decode cN_Threads_run 29 = .ok (.if_icmp .ne 19, 3) := by decide +kernel
theorem dN_Threads_run_32 : decode cN_Threads_run 32 = .ok (.iload_n 1, 1) := by decide +kernel
theorem dN_Threads_run_33 : decode cN_Threads_run 33 = .ok (.ifCond .eq 9, 3) := by decide +kernel
theorem dN_Threads_run_36 : decode cN_Threads_run 36 = .ok (.iload 4, 2) := by decide +kernel
theorem dN_Threads_run_38 : decode cN_Threads_run 38 = .ok (.iload_n 3, 1) := by decide +kernel
theorem dN_Threads_run_39 : decode cN_Threads_run 39 = .ok (.if_icmp .ne 9, 3) := by decide +kernel
theorem dN_Threads_run_42 : decode cN_Threads_run 42 = .ok (.aload_n 0, 1) := by decide +kernel
theorem dN_Threads_run_43 : decode cN_Threads_run 43 = .ok (.iload 4, 2) := by decide +kernel
theorem dN_Threads_run_45 : decode cN_Threads_run 45 = .ok (.invokevirtual 67, 3) := by decide +kernel
theorem dN_Threads_run_48 : decode cN_Threads_run 48 = .ok (.aload_n 0, 1) := by decide +kernel
theorem dN_Threads_run_49 : decode cN_Threads_run 49 = .ok (.getfield 31, 3) := by decide +kernel
theorem dN_Threads_run_52 : decode cN_Threads_run 52 = .ok (.invokevirtual 59, 3) := by decide +kernel
theorem dN_Threads_run_55 : decode cN_Threads_run 55 = .ok (.aload_n 0, 1) := by decide +kernel
theorem dN_Threads_run_56 : decode cN_Threads_run 56 = .ok (.iload_n 1, 1) := by decide +kernel
theorem dN_Threads_run_57 : decode cN_Threads_run 57 = .ok (.iload_n 2, 1) := by decide +kernel
theorem dN_Threads_run_58 : decode cN_Threads_run 58 = .ok (.iload 4, 2) := by decide +kernel
theorem dN_Threads_run_60 : decode cN_Threads_run 60 = .ok (.invokevirtual 70, 3) := by decide +kernel
theorem dN_Threads_run_63 : decode cN_Threads_run 63 = .ok (.aload_n 0, 1) := by decide +kernel
theorem dN_Threads_run_64 : decode cN_Threads_run 64 = .ok (.invokevirtual 74, 3) := by decide +kernel
theorem dN_Threads_run_67 : decode cN_Threads_run 67 = .ok (.iinc 4 1, 3) := by decide +kernel
theorem dN_Threads_run_70 : decode cN_Threads_run 70 = .ok (.goto (-60), 3) := by decide +kernel
theorem dN_Threads_run_73 : decode cN_Threads_run 73 = .ok (.return_, 1) := by decide +kernel
theorem dN_Threads_beginThread_0 : decode cN_Threads_beginThread 0 = .ok (.aload_n 0, 1) := by decide +kernel
theorem dN_Threads_beginThread_1 : decode cN_Threads_beginThread 1 = .ok (.getfield 9, 3) := by decide +kernel
theorem dN_Threads_beginThread_4 : decode cN_Threads_beginThread 4 = .ok (.iconst (-1), 1) := by decide +kernel
theorem dN_Threads_beginThread_5 : decode cN_Threads_beginThread 5 = .ok (.invokestatic 77, 3) := by decide +kernel
theorem dN_Threads_beginThread_8 : decode cN_Threads_beginThread 8 = .ok (.aload_n 0, 1) := by decide +kernel
theorem dN_Threads_beginThread_9 : decode cN_Threads_beginThread 9 = .ok (.getfield 9, 3) := by decide +kernel
theorem dN_Threads_beginThread_12 : decode cN_Threads_beginThread 12 = .ok (.iconst 0, 1) := by decide +kernel
theorem dN_Threads_beginThread_13 : decode cN_Threads_beginThread 13 = .ok (.iload_n 1, 1) := by decide +kernel
theorem dN_Threads_beginThread_14 : decode cN_Threads_beginThread 14 = .ok (.iastore, 1) := by decide +kernel
theorem dN_Threads_beginThread_15 : decode cN_Threads_beginThread 15 = .ok (.aload_n 0, 1) := by decide +kernel
theorem dN_Threads_beginThread_16 : decode cN_Threads_beginThread 16 = .ok (.aload_n 0, 1) := by decide +kernel
theorem dN_Threads_beginThread_17 : decode cN_Threads_beginThread 17 = .ok (.getfield 48, 3) := by decide +kernel
theorem dN_Threads_beginThread_20 : decode cN_Threads_beginThread 20 = .ok (.iload_n 1, 1) := by decide +kernel
theorem dN_Threads_beginThread_21 : decode cN_Threads_beginThread 21 = .ok (.invokevirtual 83, 3) := by decide +kernel
theorem dN_Threads_beginThread_24 : decode cN_Threads_beginThread 24 = .ok (.putfield 40, 3) := by decide +kernel
theorem dN_Threads_beginThread_27 : decode cN_Threads_beginThread 27 = .ok (.aload_n 0, 1) := by decide +kernel
theorem dN_Threads_beginThread_28 : decode cN_Threads_beginThread 28 = .ok (.aload_n 0, 1) := by decide +kernel
theorem dN_Threads_beginThread_29 : decode cN_Threads_beginThread 29 = .ok (.getfield 44, 3) := by decide +kernel
theorem dN_Threads_beginThread_32 : decode cN_Threads_beginThread 32 = .ok (.getfield 87, 3) := by decide +kernel
theorem dN_Threads_beginThread_35 : decode cN_Threads_beginThread 35 = .ok (.iload_n 1, 1) := by decide +kernel
theorem dN_Threads_beginThread_36 : decode cN_Threads_beginThread 36 = .ok (.aload_n 0, 1) := by decide +kernel
theorem dN_Threads_beginThread_37 : decode cN_Threads_beginThread 37 = .ok (.getfield 27, 3) := by decide +kernel
theorem dN_Threads_beginThread_40 : decode cN_Threads_beginThread 40 = .ok (.aload_n 0, 1) := by decide +kernel
theorem dN_Threads_beginThread_41 : decode cN_Threads_beginThread 41 = .ok (.getfield 34, 3) := by decide +kernel
theorem dN_Threads_beginThread_44 : decode cN_Threads_beginThread 44 = .ok (.invokevirtual 92, 3) := by decide +kernel
theorem dN_Threads_beginThread_47 : decode cN_Threads_beginThread 47 = .ok (.return_, 1) := by decide +kernel
theorem dN_Threads_comeTo_0 : decode cN_Threads_comeTo 0 = .ok (.aload_n 0, 1) := by decide +kernel
theorem dN_Threads_comeTo_1 : decode cN_Threads_comeTo 1 = .ok (.getfield 20, 3) := by decide +kernel
theorem dN_Threads_comeTo_4 : decode cN_Threads_comeTo 4 = .ok (.invokevirtual 121, 3) := by decide +kernel
theorem dN_Threads_comeTo_7 : decode cN_Threads_comeTo 7 = .ok (.aload_n 0, 1) := by decide +kernel
theorem dN_Threads_comeTo_8 : decode cN_Threads_comeTo 8 = .ok (.getfield 20, 3) := by decide +kernel
theorem dN_Threads_comeTo_11 : decode cN_Threads_comeTo 11 = .ok (.iload_n 1, 1) := by decide +kernel
theorem dN_Threads_comeTo_12 : decode cN_Threads_comeTo 12 = .ok (.invokevirtual 124, 3) := by decide +kernel
theorem dN_Threads_comeTo_15 : decode cN_Threads_comeTo 15 = .ok (.iconst 0, 1) := by decide +kernel
theorem dN_Threads_comeTo_16 : decode cN_Threads_comeTo 16 = .ok (.istore 5, 2) := by decide +kernel
theorem dN_Threads_comeTo_18 : decode cN_Threads_comeTo 18 = .ok (.iload 5, 2) := by decide +kernel
theorem dN_Threads_comeTo_20 : decode cN_Threads_comeTo 20 = .ok (.ldc 127, 2) := by decide +kernel
theorem dN_Threads_comeTo_22 : decode cN_Threads_comeTo 22 = .ok (.if_icmp .ge 58, 3) := by decide +kernel
theorem dN_Threads_comeTo_25 : decode cN_Threads_comeTo 25 = .ok (.aload_n 0, 1) := by decide +kernel
theorem dN_Threads_comeTo_26 : decode cN_Threads_comeTo 26 = .ok (.getfield 20, 3) := by decide +kernel
theorem dN_Threads_comeTo_29 : decode cN_Threads_comeTo 29 = .ok (.invokevirtual 128, 3) := by decide +kernel
theorem dN_Threads_comeTo_32 : decode cN_Threads_comeTo 32 = .ok (.ifCond .ne 48, 3) := by decide +kernel
theorem dN_Threads_comeTo_35 : decode cN_Threads_comeTo 35 = .ok (.aload_n 0, 1) := by decide +kernel
theorem dN_Threads_comeTo_36 : decode cN_Threads_comeTo 36 = .ok (.getfield 20, 3) := by decide +kernel
theorem dN_Threads_comeTo_39 : decode cN_Threads_comeTo 39 = .ok (.invokevirtual 132, 3) := by decide +kernel
theorem dN_Threads_comeTo_42 : decode cN_Threads_comeTo 42 = .ok (.istore 6, 2) := by decide +kernel
theorem dN_Threads_comeTo_44 : decode cN_Threads_comeTo 44 = .ok (.iload 6, 2) := by decide +kernel
theorem dN_Threads_comeTo_46 : decode cN_Threads_comeTo 46 = .ok (.invokestatic 136, 3) := by decide +kernel
theorem dN_Threads_comeTo_49 : decode cN_Threads_comeTo 49 = .ok (.ifCond .eq 15, 3) := by decide +kernel
theorem dN_Threads_comeTo_52 : decode cN_Threads_comeTo 52 = .ok (.iload 6, 2) := by decide +kernel
theorem dN_Threads_comeTo_54 : decode cN_Threads_comeTo 54 = .ok (.aload_n 0, 1) := by decide +kernel
theorem dN_Threads_comeTo_55 : decode cN_Threads_comeTo 55 = .ok (.getfield 9, 3) := by decide +kernel
theorem dN_Threads_comeTo_58 : decode cN_Threads_comeTo 58 = .ok (.invokestatic 140, 3) := by decide +kernel
theorem dN_Threads_comeTo_61 : decode cN_Threads_comeTo 61 = .ok (.goto 13, 3) := by decide +kernel
theorem dN_Threads_comeTo_64 : decode cN_Threads_comeTo 64 = .ok (.aload_n 0, 1) := by decide +kernel
theorem dN_Threads_comeTo_65 : decode cN_Threads_comeTo 65 = .ok (.iload 6, 2) := by decide +kernel
theorem dN_Threads_comeTo_67 : decode cN_Threads_comeTo 67 = .ok (.iload_n 2, 1) := by decide +kernel
theorem dN_Threads_comeTo_68 : decode cN_Threads_comeTo 68 = .ok (.aload_n 3, 1) := by decide +kernel
theorem dN_Threads_comeTo_69 : decode cN_Threads_comeTo 69 = .ok (.aload 4, 2) := by decide +kernel
theorem dN_Threads_comeTo_71 : decode cN_Threads_comeTo 71 = .ok (.invokevirtual 144, 3) := by decide +kernel
theorem dN_Threads_comeTo_74 : decode cN_Threads_comeTo 74 = .ok (.iinc 5 1, 3) := by decide +kernel
theorem dN_Threads_comeTo_77 : decode cN_Threads_comeTo 77 = .ok (.goto (-59), 3) := by decide +kernel
theorem dN_Threads_comeTo_80 : decode cN_Threads_comeTo 80 = .ok (.return_, 1) := by decide +kernel
theorem dN_Threads_visit_0 : decode cN_Threads_visit 0 = .ok (.aload_n 0, 1) := by decide +kernel
theorem dN_Threads_visit_1 : decode cN_Threads_visit 1 = .ok (.getfield 52, 3) := by decide +kernel
theorem dN_Threads_visit_4 : decode cN_Threads_visit 4 = .ok (.invokevirtual 147, 3) := by decide +kernel
theorem dN_Threads_visit_7 : decode cN_Threads_visit 7 = .ok (.aload_n 3, 1) := by decide +kernel
theorem dN_Threads_visit_8 : decode cN_Threads_visit 8 = .ok (.iload_n 1, 1) := by decide +kernel
theorem dN_Threads_visit_9 : decode cN_Threads_visit 9 = .ok (.invokevirtual 151, 3) := by decide +kernel
theorem dN_Threads_visit_12 : decode cN_Threads_visit 12 = .ok (.ifCond .ne 4, 3) := by decide +kernel
theorem dN_Threads_visit_15 : decode cN_Threads_visit 15 = .ok (.return_, 1) := by decide +kernel
theorem dN_Threads_visit_16 : decode cN_Threads_visit 16 = .ok (.aload_n 0, 1) := by decide +kernel
theorem dN_Threads_visit_17 : decode cN_Threads_visit 17 = .ok (.getfield 44, 3) := by decide +kernel
theorem dN_Threads_visit_20 : decode cN_Threads_visit 20 = .ok (.getfield 154, 3) := by decide +kernel
theorem dN_Threads_visit_23 : decode cN_Threads_visit 23 = .ok (.iload_n 1, 1) := by decide +kernel
theorem dN_Threads_visit_24 : decode cN_Threads_visit 24 = .ok (.iaload, 1) := by decide +kernel
theorem dN_Threads_visit_25 : decode cN_Threads_visit 25 = .ok (.istore 5, 2) := by decide +kernel
theorem dN_Threads_visit_27 : decode cN_Threads_visit 27 = .ok (.aload_n 0, 1) := by decide +kernel
theorem dN_Threads_visit_28 : decode cN_Threads_visit 28 = .ok (.getfield 44, 3) := by decide +kernel
theorem dN_Threads_visit_31 : decode cN_Threads_visit 31 = .ok (.getfield 157, 3) := by decide +kernel
theorem dN_Threads_visit_34 : decode cN_Threads_visit 34 = .ok (.iload_n 1, 1) := by decide +kernel
theorem dN_Threads_visit_35 : decode cN_Threads_visit 35 = .ok (.iaload, 1) := by decide +kernel
theorem dN_Threads_visit_36 : decode cN_Threads_visit 36 = .ok (.tableswitch 172 0 4 #[36, 36, 60, 95, 141], 36) := by decide +kernel
theorem dN_Threads_visit_72 : decode cN_Threads_visit 72 = .ok (.aload_n 3, 1) := by decide +kernel
theorem dN_Threads_visit_73 : decode cN_Threads_visit 73 = .ok (.iload_n 1, 1) := by decide +kernel
theorem dN_Threads_visit_74 : decode cN_Threads_visit 74 = .ok (.invokevirtual 160, 3) := by decide +kernel
theorem dN_Threads_visit_77 : decode cN_Threads_visit 77 = .ok (.aload_n 0, 1) := by decide +kernel
theorem dN_Threads_visit_78 : decode cN_Threads_visit 78 = .ok (.getfield 9, 3) := by decide +kernel
theorem dN_Threads_visit_81 : decode cN_Threads_visit 81 = .ok (.iconst 0, 1) := by decide +kernel
theorem dN_Threads_visit_82 : decode cN_Threads_visit 82 = .ok (.aload 4, 2) := by decide +kernel
theorem dN_Threads_visit_84 : decode cN_Threads_visit 84 = .ok (.iload_n 1, 1) := by decide +kernel
theorem dN_Threads_visit_85 : decode cN_Threads_visit 85 = .ok (.bipush 20, 2) := by decide +kernel
theorem dN_Threads_visit_87 : decode cN_Threads_visit 87 = .ok (.imul, 1) := by decide +kernel
theorem dN_Threads_visit_88 : decode cN_Threads_visit 88 = .ok (.bipush 20, 2) := by decide +kernel
theorem dN_Threads_visit_90 : decode cN_Threads_visit 90 = .ok (.invokestatic 109, 3) := by decide +kernel
theorem dN_Threads_visit_93 : decode cN_Threads_visit 93 = .ok (.goto 115, 3) := by decide +kernel
theorem dN_Threads_visit_96 : decode cN_Threads_visit 96 = .ok (.aload_n 0, 1) := by decide +kernel
theorem dN_Threads_visit_97 : decode cN_Threads_visit 97 = .ok (.getfield 20, 3) := by decide +kernel
theorem dN_Threads_visit_100 : decode cN_Threads_visit 100 = .ok (.aload_n 0, 1) := by decide +kernel
theorem dN_Threads_visit_101 : decode cN_Threads_visit 101 = .ok (.getfield 44, 3) := by decide +kernel
theorem dN_Threads_visit_104 : decode cN_Threads_visit 104 = .ok (.getfield 161, 3) := by decide +kernel
theorem dN_Threads_visit_107 : decode cN_Threads_visit 107 = .ok (.iload_n 1, 1) := by decide +kernel
theorem dN_Threads_visit_108 : decode cN_Threads_visit 108 = .ok (.iaload, 1) := by decide +kernel
theorem dN_Threads_visit_109 : decode cN_Threads_visit 109 = .ok (.invokevirtual 124, 3) := by decide +kernel
theorem dN_Threads_visit_112 : decode cN_Threads_visit 112 = .ok (.aload_n 0, 1) := by decide +kernel
theorem dN_Threads_visit_113 : decode cN_Threads_visit 113 = .ok (.getfield 20, 3) := by decide +kernel
theorem dN_Threads_visit_116 : decode cN_Threads_visit 116 = .ok (.aload_n 0, 1) := by decide +kernel
theorem dN_Threads_visit_117 : decode cN_Threads_visit 117 = .ok (.getfield 44, 3) := by decide +kernel
theorem dN_Threads_visit_120 : decode cN_Threads_visit 120 = .ok (.getfield 118, 3) := by decide +kernel
theorem dN_Threads_visit_123 : decode cN_Threads_visit 123 = .ok (.iload_n 1, 1) := by decide +kernel
theorem dN_Threads_visit_124 : decode cN_Threads_visit 124 = .ok (.iaload, 1) := by decide +kernel
theorem dN_Threads_visit_125 : decode cN_Threads_visit 125 = .ok (.invokevirtual 124, 3) := by decide +kernel
theorem dN_Threads_visit_128 : decode cN_Threads_visit 128 = .ok (.goto 80, 3) := by decide +kernel
theorem dN_Threads_visit_131 : decode cN_Threads_visit 131 = .ok (.aload_n 0, 1) := by decide +kernel
theorem dN_Threads_visit_132 : decode cN_Threads_visit 132 = .ok (.getfield 20, 3) := by decide +kernel
theorem dN_Threads_visit_135 : decode cN_Threads_visit 135 = .ok (.iload 5, 2) := by decide +kernel
theorem dN_Threads_visit_137 : decode cN_Threads_visit 137 = .ok (.aload_n 0, 1) := by decide +kernel
theorem dN_Threads_visit_138 : decode cN_Threads_visit 138 = .ok (.getfield 9, 3) := by decide +kernel
theorem dN_Threads_visit_141 : decode cN_Threads_visit 141 = .ok (.iload 5, 2) := by decide +kernel
theorem dN_Threads_visit_143 : decode cN_Threads_visit 143 = .ok (.iaload, 1) := by decide +kernel
theorem dN_Threads_visit_144 : decode cN_Threads_visit 144 = .ok (.invokestatic 164, 3) := by decide +kernel
theorem dN_Threads_visit_147 : decode cN_Threads_visit 147 = .ok (.invokevirtual 124, 3) := by decide +kernel
theorem dN_Threads_visit_150 : decode cN_Threads_visit 150 = .ok (.aload_n 0, 1) := by decide +kernel
theorem dN_Threads_visit_151 : decode cN_Threads_visit 151 = .ok (.getfield 9, 3) := by decide +kernel
theorem dN_Threads_visit_154 : decode cN_Threads_visit 154 = .ok (.iload 5, 2) := by decide +kernel
theorem dN_Threads_visit_156 : decode cN_Threads_visit 156 = .ok (.iload_n 2, 1) := by decide +kernel
theorem dN_Threads_visit_157 : decode cN_Threads_visit 157 = .ok (.iastore, 1) := by decide +kernel
theorem dN_Threads_visit_158 : decode cN_Threads_visit 158 = .ok (.aload_n 0, 1) := by decide +kernel
theorem dN_Threads_visit_159 : decode cN_Threads_visit 159 = .ok (.getfield 20, 3) := by decide +kernel
theorem dN_Threads_visit_162 : decode cN_Threads_visit 162 = .ok (.aload_n 0, 1) := by decide +kernel
theorem dN_Threads_visit_163 : decode cN_Threads_visit 163 = .ok (.getfield 44, 3) := by decide +kernel
theorem dN_Threads_visit_166 : decode cN_Threads_visit 166 = .ok (.getfield 118, 3) := by decide +kernel
theorem dN_Threads_visit_169 : decode cN_Threads_visit 169 = .ok (.iload_n 1, 1) := by decide +kernel
theorem dN_Threads_visit_170 : decode cN_Threads_visit 170 = .ok (.iaload, 1) := by decide +kernel
theorem dN_Threads_visit_171 : decode cN_Threads_visit 171 = .ok (.invokevirtual 124, 3) := by decide +kernel
theorem dN_Threads_visit_174 : decode cN_Threads_visit 174 = .ok (.goto 34, 3) := by decide +kernel
theorem dN_Threads_visit_177 : decode cN_Threads_visit 177 = .ok (.aload_n 0, 1) := by decide +kernel
theorem dN_Threads_visit_178 : decode cN_Threads_visit 178 = .ok (.getfield 40, 3) := by decide +kernel
theorem dN_Threads_visit_181 : decode cN_Threads_visit 181 = .ok (.iload 5, 2) := by decide +kernel
theorem dN_Threads_visit_183 : decode cN_Threads_visit 183 = .ok (.ishr, 1) := by decide +kernel
theorem dN_Threads_visit_184 : decode cN_Threads_visit 184 = .ok (.iconst 1, 1) := by decide +kernel
theorem dN_Threads_visit_185 : decode cN_Threads_visit 185 = .ok (.iand, 1) := by decide +kernel
theorem dN_Threads_visit_186 : decode cN_Threads_visit 186 = .ok (.ifCond .eq 22, 3) := by decide +kernel
theorem dN_Threads_visit_189 : decode cN_Threads_visit 189 = .ok (.aload_n 0, 1) := by decide +kernel
theorem dN_Threads_visit_190 : decode cN_Threads_visit 190 = .ok (.getfield 20, 3) := by decide +kernel
theorem dN_Threads_visit_193 : decode cN_Threads_visit 193 = .ok (.aload_n 0, 1) := by decide +kernel
theorem dN_Threads_visit_194 : decode cN_Threads_visit 194 = .ok (.getfield 44, 3) := by decide +kernel
theorem dN_Threads_visit_197 : decode cN_Threads_visit 197 = .ok (.getfield 118, 3) := by decide +kernel
theorem dN_Threads_visit_200 : decode cN_Threads_visit 200 = .ok (.iload_n 1, 1) := by decide +kernel
theorem dN_Threads_visit_201 : decode cN_Threads_visit 201 = .ok (.iaload, 1) := by decide +kernel
theorem dN_Threads_visit_202 : decode cN_Threads_visit 202 = .ok (.invokevirtual 124, 3) := by decide +kernel
theorem dN_Threads_visit_205 : decode cN_Threads_visit 205 = .ok (.goto 3, 3) := by decide +kernel
theorem dN_Threads_visit_208 : decode cN_Threads_visit 208 = .ok (.return_, 1) := by decide +kernel
theorem dN_Threads_goOverByte_0 : decode cN_Threads_goOverByte 0 = .ok (.aload_n 0, 1) := by decide +kernel
theorem dN_Threads_goOverByte_1 : decode cN_Threads_goOverByte 1 = .ok (.getfield 48, 3) := by decide +kernel
theorem dN_Threads_goOverByte_4 : decode cN_Threads_goOverByte 4 = .ok (.iload_n 3, 1) := by decide +kernel
theorem dN_Threads_goOverByte_5 : decode cN_Threads_goOverByte 5 = .ok (.invokevirtual 96, 3) := by decide +kernel
theorem dN_Threads_goOverByte_8 : decode cN_Threads_goOverByte 8 = .ok (.istore 4, 2) := by decide +kernel
theorem dN_Threads_goOverByte_10 : decode cN_Threads_goOverByte 10 = .ok (.aload_n 0, 1) := by decide +kernel
theorem dN_Threads_goOverByte_11 : decode cN_Threads_goOverByte 11 = .ok (.aload_n 0, 1) := by decide +kernel
theorem dN_Threads_goOverByte_12 : decode cN_Threads_goOverByte 12 = .ok (.getfield 48, 3) := by decide +kernel
theorem dN_Threads_goOverByte_15 : decode cN_Threads_goOverByte 15 = .ok (.iload_n 3, 1) := by decide +kernel
theorem dN_Threads_goOverByte_16 : decode cN_Threads_goOverByte 16 = .ok (.iconst 1, 1) := by decide +kernel
theorem dN_Threads_goOverByte_17 : decode cN_Threads_goOverByte 17 = .ok (.iadd, 1) := by decide +kernel
theorem dN_Threads_goOverByte_18 : decode cN_Threads_goOverByte 18 = .ok (.invokevirtual 83, 3) := by decide +kernel
theorem dN_Threads_goOverByte_21 : decode cN_Threads_goOverByte 21 = .ok (.putfield 40, 3) := by decide +kernel
theorem dN_Threads_goOverByte_24 : decode cN_Threads_goOverByte 24 = .ok (.iconst 0, 1) := by decide +kernel
theorem dN_Threads_goOverByte_25 : decode cN_Threads_goOverByte 25 = .ok (.istore 5, 2) := by decide +kernel
theorem dN_Threads_goOverByte_27 : decode cN_Threads_goOverByte 27 = .ok (.iload 5, 2) := by decide +kernel
theorem dN_Threads_goOverByte_29 : decode cN_Threads_goOverByte 29 = .ok (.aload_n 0, 1) := by decide +kernel
theorem dN_Threads_goOverByte_30 : decode cN_Threads_goOverByte 30 = .ok (.getfield 27, 3) := by decide +kernel
theorem dN_Threads_goOverByte_33 : decode cN_Threads_goOverByte 33 = .ok (.getfield 99, 3) := by decide +kernel
theorem dN_Threads_goOverByte_36 : decode cN_Threads_goOverByte 36 = .ok (.if_icmp .ge 159, 3) := by decide +kernel
theorem dN_Threads_goOverByte_39 : decode cN_Threads_goOverByte 39 = .ok (.aload_n 0, 1) := by decide +kernel
theorem dN_Threads_goOverByte_40 : decode cN_Threads_goOverByte 40 = .ok (.getfield 27, 3) := by decide +kernel
theorem dN_Threads_goOverByte_43 : decode cN_Threads_goOverByte 43 = .ok (.getfield 102, 3) := by decide +kernel
theorem dN_Threads_goOverByte_46 : decode cN_Threads_goOverByte 46 = .ok (.iload 5, 2) := by decide +kernel
theorem dN_Threads_goOverByte_48 : decode cN_Threads_goOverByte 48 = .ok (.iaload, 1) := by decide +kernel
theorem dN_Threads_goOverByte_49 : decode cN_Threads_goOverByte 49 = .ok (.istore 6, 2) := by decide +kernel
theorem dN_Threads_goOverByte_51 : decode cN_Threads_goOverByte 51 = .ok (.aload_n 0, 1) := by decide +kernel
theorem dN_Threads_goOverByte_52 : decode cN_Threads_goOverByte 52 = .ok (.getfield 56, 3) := by decide +kernel
theorem dN_Threads_goOverByte_55 : decode cN_Threads_goOverByte 55 = .ok (.iconst 1, 1) := by decide +kernel
theorem dN_Threads_goOverByte_56 : decode cN_Threads_goOverByte 56 = .ok (.iaload, 1) := by decide +kernel
theorem dN_Threads_goOverByte_57 : decode cN_Threads_goOverByte 57 = .ok (.iconst (-1), 1) := by decide +kernel
theorem dN_Threads_goOverByte_58 : decode cN_Threads_goOverByte 58 = .ok (.if_icmp .eq 25, 3) := by decide +kernel
theorem dN_Threads_goOverByte_61 : decode cN_Threads_goOverByte 61 = .ok (.aload_n 0, 1) := by decide +kernel
theorem dN_Threads_goOverByte_62 : decode cN_Threads_goOverByte 62 = .ok (.getfield 34, 3) := by decide +kernel
theorem dN_Threads_goOverByte_65 : decode cN_Threads_goOverByte 65 = .ok (.iload 6, 2) := by decide +kernel
theorem dN_Threads_goOverByte_67 : decode cN_Threads_goOverByte 67 = .ok (.bipush 20, 2) := by decide +kernel
theorem dN_Threads_goOverByte_69 : decode cN_Threads_goOverByte 69 = .ok (.imul, 1) := by decide +kernel
theorem dN_Threads_goOverByte_70 : decode cN_Threads_goOverByte 70 = .ok (.iaload, 1) := by decide +kernel
theorem dN_Threads_goOverByte_71 : decode cN_Threads_goOverByte 71 = .ok (.aload_n 0, 1) := by decide +kernel
theorem dN_Threads_goOverByte_72 : decode cN_Threads_goOverByte 72 = .ok (.getfield 56, 3) := by decide +kernel
theorem dN_Threads_goOverByte_75 : decode cN_Threads_goOverByte 75 = .ok (.iconst 0, 1) := by decide +kernel
theorem dN_Threads_goOverByte_76 : decode cN_Threads_goOverByte 76 = .ok (.iaload, 1) := by decide +kernel
theorem dN_Threads_goOverByte_77 : decode cN_Threads_goOverByte 77 = .ok (.if_icmp .le 6, 3) := by decide +kernel
theorem dN_Threads_goOverByte_80 : decode cN_Threads_goOverByte 80 = .ok (.goto 109, 3) := by decide +kernel
theorem dN_Threads_goOverByte_83 : decode cN_Threads_goOverByte 83 = .ok (.iload 6, 2) := by decide +kernel
theorem dN_Threads_goOverByte_85 : decode cN_Threads_goOverByte 85 = .ok (.ifCond .ne 46, 3) := by decide +kernel
theorem dN_Threads_goOverByte_88 : decode cN_Threads_goOverByte 88 = .ok (.aload_n 0, 1) := by decide +kernel
theorem dN_Threads_goOverByte_89 : decode cN_Threads_goOverByte 89 = .ok (.getfield 48, 3) := by decide +kernel
theorem dN_Threads_goOverByte_92 : decode cN_Threads_goOverByte 92 = .ok (.iload_n 1, 1) := by decide +kernel
theorem dN_Threads_goOverByte_93 : decode cN_Threads_goOverByte 93 = .ok (.iload_n 3, 1) := by decide +kernel
theorem dN_Threads_goOverByte_94 : decode cN_Threads_goOverByte 94 = .ok (.invokevirtual 105, 3) := by decide +kernel
theorem dN_Threads_goOverByte_97 : decode cN_Threads_goOverByte 97 = .ok (.ifCond .eq 92, 3) := by decide +kernel
theorem dN_Threads_goOverByte_100 : decode cN_Threads_goOverByte 100 = .ok (.aload_n 0, 1) := by decide +kernel
theorem dN_Threads_goOverByte_101 : decode cN_Threads_goOverByte 101 = .ok (.getfield 34, 3) := by decide +kernel
theorem dN_Threads_goOverByte_104 : decode cN_Threads_goOverByte 104 = .ok (.iload 6, 2) := by decide +kernel
theorem dN_Threads_goOverByte_106 : decode cN_Threads_goOverByte 106 = .ok (.bipush 20, 2) := by decide +kernel
theorem dN_Threads_goOverByte_108 : decode cN_Threads_goOverByte 108 = .ok (.imul, 1) := by decide +kernel
theorem dN_Threads_goOverByte_109 : decode cN_Threads_goOverByte 109 = .ok (.aload_n 0, 1) := by decide +kernel
theorem dN_Threads_goOverByte_110 : decode cN_Threads_goOverByte 110 = .ok (.getfield 56, 3) := by decide +kernel
theorem dN_Threads_goOverByte_113 : decode cN_Threads_goOverByte 113 = .ok (.iconst 0, 1) := by decide +kernel
theorem dN_Threads_goOverByte_114 : decode cN_Threads_goOverByte 114 = .ok (.bipush 20, 2) := by decide +kernel
theorem dN_Threads_goOverByte_116 : decode cN_Threads_goOverByte 116 = .ok (.invokestatic 109, 3) := by decide +kernel
theorem dN_Threads_goOverByte_119 : decode cN_Threads_goOverByte 119 = .ok (.aload_n 0, 1) := by decide +kernel
theorem dN_Threads_goOverByte_120 : decode cN_Threads_goOverByte 120 = .ok (.getfield 56, 3) := by decide +kernel
theorem dN_Threads_goOverByte_123 : decode cN_Threads_goOverByte 123 = .ok (.iconst 1, 1) := by decide +kernel
theorem dN_Threads_goOverByte_124 : decode cN_Threads_goOverByte 124 = .ok (.iload_n 3, 1) := by decide +kernel
theorem dN_Threads_goOverByte_125 : decode cN_Threads_goOverByte 125 = .ok (.iastore, 1) := by decide +kernel
theorem dN_Threads_goOverByte_126 : decode cN_Threads_goOverByte 126 = .ok (.iload_n 2, 1) := by decide +kernel
theorem dN_Threads_goOverByte_127 : decode cN_Threads_goOverByte 127 = .ok (.ifCond .ne 62, 3) := by decide +kernel
theorem dN_Threads_goOverByte_130 : decode cN_Threads_goOverByte 130 = .ok (.return_, 1) := by decide +kernel
theorem dN_Threads_goOverByte_131 : decode cN_Threads_goOverByte 131 = .ok (.aload_n 0, 1) := by decide +kernel
theorem dN_Threads_goOverByte_132 : decode cN_Threads_goOverByte 132 = .ok (.getfield 44, 3) := by decide +kernel
theorem dN_Threads_goOverByte_135 : decode cN_Threads_goOverByte 135 = .ok (.iload 6, 2) := by decide +kernel
theorem dN_Threads_goOverByte_137 : decode cN_Threads_goOverByte 137 = .ok (.iload 4, 2) := by decide +kernel
theorem dN_Threads_goOverByte_139 : decode cN_Threads_goOverByte 139 = .ok (.invokevirtual 115, 3) := by decide +kernel
theorem dN_Threads_goOverByte_142 : decode cN_Threads_goOverByte 142 = .ok (.ifCond .eq 47, 3) := by decide +kernel
theorem dN_Threads_goOverByte_145 : decode cN_Threads_goOverByte 145 = .ok (.aload_n 0, 1) := by decide +kernel
theorem dN_Threads_goOverByte_146 : decode cN_Threads_goOverByte 146 = .ok (.getfield 34, 3) := by decide +kernel
theorem dN_Threads_goOverByte_149 : decode cN_Threads_goOverByte 149 = .ok (.iload 6, 2) := by decide +kernel
theorem dN_Threads_goOverByte_151 : decode cN_Threads_goOverByte 151 = .ok (.bipush 20, 2) := by decide +kernel
theorem dN_Threads_goOverByte_153 : decode cN_Threads_goOverByte 153 = .ok (.imul, 1) := by decide +kernel
theorem dN_Threads_goOverByte_154 : decode cN_Threads_goOverByte 154 = .ok (.aload_n 0, 1) := by decide +kernel
theorem dN_Threads_goOverByte_155 : decode cN_Threads_goOverByte 155 = .ok (.getfield 9, 3) := by decide +kernel
theorem dN_Threads_goOverByte_158 : decode cN_Threads_goOverByte 158 = .ok (.iconst 0, 1) := by decide +kernel
theorem dN_Threads_goOverByte_159 : decode cN_Threads_goOverByte 159 = .ok (.bipush 20, 2) := by decide +kernel
theorem dN_Threads_goOverByte_161 : decode cN_Threads_goOverByte 161 = .ok (.invokestatic 109, 3) := by decide +kernel
theorem dN_Threads_goOverByte_164 : decode cN_Threads_goOverByte 164 = .ok (.aload_n 0, 1) := by decide +kernel
theorem dN_Threads_goOverByte_165 : decode cN_Threads_goOverByte 165 = .ok (.aload_n 0, 1) := by decide +kernel
theorem dN_Threads_goOverByte_166 : decode cN_Threads_goOverByte 166 = .ok (.getfield 44, 3) := by decide +kernel
theorem dN_Threads_goOverByte_169 : decode cN_Threads_goOverByte 169 = .ok (.getfield 118, 3) := by decide +kernel
theorem dN_Threads_goOverByte_172 : decode cN_Threads_goOverByte 172 = .ok (.iload 6, 2) := by decide +kernel
theorem dN_Threads_goOverByte_174 : decode cN_Threads_goOverByte 174 = .ok (.iaload, 1) := by decide +kernel
theorem dN_Threads_goOverByte_175 : decode cN_Threads_goOverByte 175 = .ok (.iload_n 3, 1) := by decide +kernel
theorem dN_Threads_goOverByte_176 : decode cN_Threads_goOverByte 176 = .ok (.iconst 1, 1) := by decide +kernel
theorem dN_Threads_goOverByte_177 : decode cN_Threads_goOverByte 177 = .ok (.iadd, 1) := by decide +kernel
theorem dN_Threads_goOverByte_178 : decode cN_Threads_goOverByte 178 = .ok (.aload_n 0, 1) := by decide +kernel
theorem dN_Threads_goOverByte_179 : decode cN_Threads_goOverByte 179 = .ok (.getfield 31, 3) := by decide +kernel
theorem dN_Threads_goOverByte_182 : decode cN_Threads_goOverByte 182 = .ok (.aload_n 0, 1) := by decide +kernel
theorem dN_Threads_goOverByte_183 : decode cN_Threads_goOverByte 183 = .ok (.getfield 37, 3) := by decide +kernel
theorem dN_Threads_goOverByte_186 : decode cN_Threads_goOverByte 186 = .ok (.invokevirtual 92, 3) := by decide +kernel
theorem dN_Threads_goOverByte_189 : decode cN_Threads_goOverByte 189 = .ok (.iinc 5 1, 3) := by decide +kernel
theorem dN_Threads_goOverByte_192 : decode cN_Threads_goOverByte 192 = .ok (.goto (-165), 3) := by decide +kernel
theorem dN_Threads_goOverByte_195 : decode cN_Threads_goOverByte 195 = .ok (.return_, 1) := by decide +kernel
theorem dN_Threads_swapRows_0 : decode cN_Threads_swapRows 0 = .ok (.aload_n 0, 1) := by decide +kernel
theorem dN_Threads_swapRows_1 : decode cN_Threads_swapRows 1 = .ok (.getfield 27, 3) := by decide +kernel
theorem dN_Threads_swapRows_4 : decode cN_Threads_swapRows 4 = .ok (.astore_n 1, 1) := by decide +kernel
theorem dN_Threads_swapRows_5 : decode cN_Threads_swapRows 5 = .ok (.aload_n 0, 1) := by decide +kernel
theorem dN_Threads_swapRows_6 : decode cN_Threads_swapRows 6 = .ok (.aload_n 0, 1) := by decide +kernel
theorem dN_Threads_swapRows_7 : decode cN_Threads_swapRows 7 = .ok (.getfield 31, 3) := by decide +kernel
theorem dN_Threads_swapRows_10 : decode cN_Threads_swapRows 10 = .ok (.putfield 27, 3) := by decide +kernel
theorem dN_Threads_swapRows_13 : decode cN_Threads_swapRows 13 = .ok (.aload_n 0, 1) := by decide +kernel
theorem dN_Threads_swapRows_14 : decode cN_Threads_swapRows 14 = .ok (.aload_n 1, 1) := by decide +kernel
theorem dN_Threads_swapRows_15 : decode cN_Threads_swapRows 15 = .ok (.putfield 31, 3) := by decide +kernel
theorem dN_Threads_swapRows_18 : decode cN_Threads_swapRows 18 = .ok (.aload_n 0, 1) := by decide +kernel
theorem dN_Threads_swapRows_19 : decode cN_Threads_swapRows 19 = .ok (.getfield 34, 3) := by decide +kernel
theorem dN_Threads_swapRows_22 : decode cN_Threads_swapRows 22 = .ok (.astore_n 2, 1) := by decide +kernel
theorem dN_Threads_swapRows_23 : decode cN_Threads_swapRows 23 = .ok (.aload_n 0, 1) := by decide +kernel
theorem dN_Threads_swapRows_24 : decode cN_Threads_swapRows 24 = .ok (.aload_n 0, 1) := by decide +kernel
theorem dN_Threads_swapRows_25 : decode cN_Threads_swapRows 25 = .ok (.getfield 37, 3) := by decide +kernel
theorem dN_Threads_swapRows_28 : decode cN_Threads_swapRows 28 = .ok (.putfield 34, 3) := by decide +kernel
theorem dN_Threads_swapRows_31 : decode cN_Threads_swapRows 31 = .ok (.aload_n 0, 1) := by decide +kernel
theorem dN_Threads_swapRows_32 : decode cN_Threads_swapRows 32 = .ok (.aload_n 2, 1) := by decide +kernel
theorem dN_Threads_swapRows_33 : decode cN_Threads_swapRows 33 = .ok (.putfield 37, 3) := by decide +kernel
theorem dN_Threads_swapRows_36 : decode cN_Threads_swapRows 36 = .ok (.return_, 1) := by decide +kernel
