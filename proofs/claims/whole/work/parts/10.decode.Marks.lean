theorem dN_Marks_init_0 : decode cN_Marks_init 0 = .ok (.aload_n 0, 1) := by decide +kernel
theorem dN_Marks_init_1 : decode cN_Marks_init 1 = .ok (.invokespecial 3, 3) := by decide +kernel
theorem dN_Marks_init_4 : decode cN_Marks_init 4 = .ok (.aload_n 0, 1) := by decide +kernel
theorem dN_Marks_init_5 : decode cN_Marks_init 5 = .ok (.bipush 20, 2) := by decide +kernel
theorem dN_Marks_init_7 : decode cN_Marks_init 7 = .ok (.newarray .int, 2) := by decide +kernel
theorem dN_Marks_init_9 : decode cN_Marks_init 9 = .ok (.putfield 9, 3) := by decide +kernel
theorem dN_Marks_init_12 : decode cN_Marks_init 12 = .ok (.aload_n 0, 1) := by decide +kernel
theorem dN_Marks_init_13 : decode cN_Marks_init 13 = .ok (.new 15, 3) := by decide +kernel
theorem dN_Marks_init_16 : decode cN_Marks_init 16 = .ok (.dup, 1) := by decide +kernel
theorem dN_Marks_init_17 : decode cN_Marks_init 17 = .ok (.ldc 17, 2) := by decide +kernel
theorem dN_Marks_init_19 : decode cN_Marks_init 19 = .ok (.invokespecial 18, 3) := by decide +kernel
theorem dN_Marks_init_22 : decode cN_Marks_init 22 = .ok (.putfield 21, 3) := by decide +kernel
theorem dN_Marks_init_25 : decode cN_Marks_init 25 = .ok (.aload_n 0, 1) := by decide +kernel
theorem dN_Marks_init_26 : decode cN_Marks_init 26 = .ok (.sipush 1257, 3) := by decide +kernel
theorem dN_Marks_init_29 : decode cN_Marks_init 29 = .ok (.newarray .int, 2) := by decide +kernel
theorem dN_Marks_init_31 : decode cN_Marks_init 31 = .ok (.putfield 25, 3) := by decide +kernel
theorem dN_Marks_init_34 : decode cN_Marks_init 34 = .ok (.aload_n 0, 1) := by decide +kernel
theorem dN_Marks_init_35 : decode cN_Marks_init 35 = .ok (.aload_n 1, 1) := by decide +kernel
theorem dN_Marks_init_36 : decode cN_Marks_init 36 = .ok (.putfield 28, 3) := by decide +kernel
theorem dN_Marks_init_39 : decode cN_Marks_init 39 = .ok (.aload_n 0, 1) := by decide +kernel
theorem dN_Marks_init_40 : decode cN_Marks_init 40 = .ok (.aload_n 2, 1) := by decide +kernel
theorem dN_Marks_init_41 : decode cN_Marks_init 41 = .ok (.putfield 32, 3) := by decide +kernel
theorem dN_Marks_init_44 : decode cN_Marks_init 44 = .ok (.aload_n 0, 1) := by decide +kernel
theorem dN_Marks_init_45 : decode cN_Marks_init 45 = .ok (.aload_n 3, 1) := by decide +kernel
theorem dN_Marks_init_46 : decode cN_Marks_init 46 = .ok (.putfield 36, 3) := by decide +kernel
theorem dN_Marks_init_49 : decode cN_Marks_init 49 = .ok (.aload_n 0, 1) := by decide +kernel
theorem dN_Marks_init_50 : decode cN_Marks_init 50 = .ok (.aload 4, 2) := by decide +kernel
theorem dN_Marks_init_52 : decode cN_Marks_init 52 = .ok (.putfield 40, 3) := by decide +kernel
theorem dN_Marks_init_55 : decode cN_Marks_init 55 = .ok (.return_, 1) := by decide +kernel
theorem dN_Marks_run_0 : decode cN_Marks_run 0 = .ok (.aload_n 0, 1) := by decide +kernel
theorem dN_Marks_run_1 : decode cN_Marks_run 1 = .ok (.invokevirtual 43, 3) := by decide +kernel
theorem dN_Marks_run_4 : decode cN_Marks_run 4 = .ok (.iload_n 1, 1) := by decide +kernel
theorem dN_Marks_run_5 : decode cN_Marks_run 5 = .ok (.ifCond .ne 13, 3) := by decide +kernel
theorem dN_Marks_run_8 : decode cN_Marks_run 8 = .ok (.aload_n 0, 1) := by decide +kernel
theorem dN_Marks_run_9 : decode cN_Marks_run 9 = .ok (.getfield 32, 3) := by decide +kernel
theorem dN_Marks_run_12 : decode cN_Marks_run 12 = .ok (.invokevirtual 46, 3) := by decide +kernel
theorem dN_Marks_run_15 : decode cN_Marks_run 15 = .ok (.goto 14, 3) := by decide +kernel
theorem dN_Marks_run_18 : decode cN_Marks_run 18 = .ok (.iload_n 3, 1) := by decide +kernel
theorem dN_Marks_run_19 : decode cN_Marks_run 19 = .ok (.aload_n 0, 1) := by decide +kernel
theorem dN_Marks_run_20 : decode cN_Marks_run 20 = .ok (.getfield 32, 3) := by decide +kernel
theorem dN_Marks_run_23 : decode cN_Marks_run 23 = .ok (.invokevirtual 46, 3) := by decide +kernel
theorem dN_Marks_run_26 : decode cN_Marks_run 26 = .ok (.invokestatic 52, 3) := by decide +kernel
theorem dN_Marks_run_29 : decode cN_Marks_run 29 = .ok (.istore 4, 2) := by decide +kernel
theorem dN_Marks_run_31 : decode cN_Marks_run 31 = .ok (.iload_n 3, 1) := by decide +kernel
theorem dN_Marks_run_32 : decode cN_Marks_run 32 = .ok (.istore 5, 2) := by decide +kernel
theorem dN_Marks_run_34 : decode cN_Marks_run 34 = .ok (.iload 5, 2) := by decide +kernel
theorem dN_Marks_run_36 : decode cN_Marks_run 36 = .ok (.iload 4, 2) := by decide +kernel
theorem dN_Marks_run_38 : decode cN_Marks_run 38 = .ok (.if_icmp .gt 27, 3) := by decide +kernel
theorem dN_Marks_run_41 : decode cN_Marks_run 41 = .ok (.aload_n 0, 1) := by decide +kernel
theorem dN_Marks_run_42 : decode cN_Marks_run 42 = .ok (.getfield 40, 3) := by decide +kernel
theorem dN_Marks_run_45 : decode cN_Marks_run 45 = .ok (.iconst 1, 1) := by decide +kernel
theorem dN_Marks_run_46 : decode cN_Marks_run 46 = .ok (.iaload, 1) := by decide +kernel
theorem dN_Marks_run_47 : decode cN_Marks_run 47 = .ok (.iconst (-1), 1) := by decide +kernel
theorem dN_Marks_run_48 : decode cN_Marks_run 48 = .ok (.if_icmp .ne 17, 3) := by decide +kernel
theorem dN_Marks_run_51 : decode cN_Marks_run 51 = .ok (.aload_n 0, 1) := by decide +kernel
theorem dN_Marks_run_52 : decode cN_Marks_run 52 = .ok (.iload 5, 2) := by decide +kernel
theorem dN_Marks_run_54 : decode cN_Marks_run 54 = .ok (.iload_n 1, 1) := by decide +kernel
theorem dN_Marks_run_55 : decode cN_Marks_run 55 = .ok (.iload_n 2, 1) := by decide +kernel
theorem dN_Marks_run_56 : decode cN_Marks_run 56 = .ok (.invokevirtual 58, 3) := by decide +kernel
theorem dN_Marks_run_59 : decode cN_Marks_run 59 = .ok (.iinc 5 1, 3) := by decide +kernel
theorem dN_Marks_run_62 : decode cN_Marks_run 62 = .ok (.goto (-28), 3) := by decide +kernel
theorem dN_Marks_run_65 : decode cN_Marks_run 65 = .ok (.return_, 1) := by decide +kernel
theorem dN_Marks_wipe_0 : decode cN_Marks_wipe 0 = .ok (.aload_n 0, 1) := by decide +kernel
theorem dN_Marks_wipe_1 : decode cN_Marks_wipe 1 = .ok (.getfield 28, 3) := by decide +kernel
theorem dN_Marks_wipe_4 : decode cN_Marks_wipe 4 = .ok (.invokevirtual 62, 3) := by decide +kernel
theorem dN_Marks_wipe_7 : decode cN_Marks_wipe 7 = .ok (.aload_n 0, 1) := by decide +kernel
theorem dN_Marks_wipe_8 : decode cN_Marks_wipe 8 = .ok (.getfield 32, 3) := by decide +kernel
theorem dN_Marks_wipe_11 : decode cN_Marks_wipe 11 = .ok (.invokevirtual 46, 3) := by decide +kernel
theorem dN_Marks_wipe_14 : decode cN_Marks_wipe 14 = .ok (.iconst 1, 1) := by decide +kernel
theorem dN_Marks_wipe_15 : decode cN_Marks_wipe 15 = .ok (.iadd, 1) := by decide +kernel
theorem dN_Marks_wipe_16 : decode cN_Marks_wipe 16 = .ok (.imul, 1) := by decide +kernel
theorem dN_Marks_wipe_17 : decode cN_Marks_wipe 17 = .ok (.bipush 32, 2) := by decide +kernel
theorem dN_Marks_wipe_19 : decode cN_Marks_wipe 19 = .ok (.idiv, 1) := by decide +kernel
theorem dN_Marks_wipe_20 : decode cN_Marks_wipe 20 = .ok (.iconst 1, 1) := by decide +kernel
theorem dN_Marks_wipe_21 : decode cN_Marks_wipe 21 = .ok (.iadd, 1) := by decide +kernel
theorem dN_Marks_wipe_22 : decode cN_Marks_wipe 22 = .ok (.istore_n 1, 1) := by decide +kernel
theorem dN_Marks_wipe_23 : decode cN_Marks_wipe 23 = .ok (.iconst 0, 1) := by decide +kernel
theorem dN_Marks_wipe_24 : decode cN_Marks_wipe 24 = .ok (.istore_n 2, 1) := by decide +kernel
theorem dN_Marks_wipe_25 : decode cN_Marks_wipe 25 = .ok (.iload_n 2, 1) := by decide +kernel
theorem dN_Marks_wipe_26 : decode cN_Marks_wipe 26 = .ok (.iload_n 1, 1) := by decide +kernel
theorem dN_Marks_wipe_27 : decode cN_Marks_wipe 27 = .ok (.if_icmp .ge 25, 3) := by decide +kernel
theorem dN_Marks_wipe_30 : decode cN_Marks_wipe 30 = .ok (.iload_n 2, 1) := by decide +kernel
theorem dN_Marks_wipe_31 : decode cN_Marks_wipe 31 = .ok (.aload_n 0, 1) := by decide +kernel
theorem dN_Marks_wipe_32 : decode cN_Marks_wipe 32 = .ok (.getfield 25, 3) := by decide +kernel
theorem dN_Marks_wipe_35 : decode cN_Marks_wipe 35 = .ok (.arraylength, 1) := by decide +kernel
theorem dN_Marks_wipe_36 : decode cN_Marks_wipe 36 = .ok (.if_icmp .ge 16, 3) := by decide +kernel
theorem dN_Marks_wipe_39 : decode cN_Marks_wipe 39 = .ok (.aload_n 0, 1) := by decide +kernel
theorem dN_Marks_wipe_40 : decode cN_Marks_wipe 40 = .ok (.getfield 25, 3) := by decide +kernel
theorem dN_Marks_wipe_43 : decode cN_Marks_wipe 43 = .ok (.iload_n 2, 1) := by decide +kernel
theorem dN_Marks_wipe_44 : decode cN_Marks_wipe 44 = .ok (.iconst 0, 1) := by decide +kernel
theorem dN_Marks_wipe_45 : decode cN_Marks_wipe 45 = .ok (.iastore, 1) := by decide +kernel
theorem dN_Marks_wipe_46 : decode cN_Marks_wipe 46 = .ok (.iinc 2 1, 3) := by decide +kernel
theorem dN_Marks_wipe_49 : decode cN_Marks_wipe 49 = .ok (.goto (-24), 3) := by decide +kernel
theorem dN_Marks_wipe_52 : decode cN_Marks_wipe 52 = .ok (.return_, 1) := by decide +kernel
theorem dN_Marks_tryFrom_0 : decode cN_Marks_tryFrom 0 = .ok (.aload_n 0, 1) := by decide +kernel
theorem dN_Marks_tryFrom_1 : decode cN_Marks_tryFrom 1 = .ok (.getfield 9, 3) := by decide +kernel
theorem dN_Marks_tryFrom_4 : decode cN_Marks_tryFrom 4 = .ok (.iconst (-1), 1) := by decide +kernel
theorem dN_Marks_tryFrom_5 : decode cN_Marks_tryFrom 5 = .ok (.invokestatic 67, 3) := by decide +kernel
theorem dN_Marks_tryFrom_8 : decode cN_Marks_tryFrom 8 = .ok (.aload_n 0, 1) := by decide +kernel
theorem dN_Marks_tryFrom_9 : decode cN_Marks_tryFrom 9 = .ok (.getfield 9, 3) := by decide +kernel
theorem dN_Marks_tryFrom_12 : decode cN_Marks_tryFrom 12 = .ok (.iconst 0, 1) := by decide +kernel
theorem dN_Marks_tryFrom_13 : decode cN_Marks_tryFrom 13 = .ok (.iload_n 1, 1) := by decide +kernel
theorem dN_Marks_tryFrom_14 : decode cN_Marks_tryFrom 14 = .ok (.iastore, 1) := by decide +kernel
theorem dN_Marks_tryFrom_15 : decode cN_Marks_tryFrom 15 = .ok (.aload_n 0, 1) := by decide +kernel
theorem dN_Marks_tryFrom_16 : decode cN_Marks_tryFrom 16 = .ok (.getfield 21, 3) := by decide +kernel
theorem dN_Marks_tryFrom_19 : decode cN_Marks_tryFrom 19 = .ok (.invokevirtual 73, 3) := by decide +kernel
theorem dN_Marks_tryFrom_22 : decode cN_Marks_tryFrom 22 = .ok (.aload_n 0, 1) := by decide +kernel
theorem dN_Marks_tryFrom_23 : decode cN_Marks_tryFrom 23 = .ok (.getfield 21, 3) := by decide +kernel
theorem dN_Marks_tryFrom_26 : decode cN_Marks_tryFrom 26 = .ok (.aload_n 0, 1) := by decide +kernel
theorem dN_Marks_tryFrom_27 : decode cN_Marks_tryFrom 27 = .ok (.getfield 28, 3) := by decide +kernel
theorem dN_Marks_tryFrom_30 : decode cN_Marks_tryFrom 30 = .ok (.invokevirtual 76, 3) := by decide +kernel
theorem dN_Marks_tryFrom_33 : decode cN_Marks_tryFrom 33 = .ok (.iload_n 1, 1) := by decide +kernel
theorem dN_Marks_tryFrom_34 : decode cN_Marks_tryFrom 34 = .ok (.invokestatic 79, 3) := by decide +kernel
theorem dN_Marks_tryFrom_37 : decode cN_Marks_tryFrom 37 = .ok (.invokevirtual 82, 3) := by decide +kernel
theorem dN_Marks_tryFrom_40 : decode cN_Marks_tryFrom 40 = .ok (.iconst 0, 1) := by decide +kernel
theorem dN_Marks_tryFrom_41 : decode cN_Marks_tryFrom 41 = .ok (.istore 4, 2) := by decide +kernel
theorem dN_Marks_tryFrom_43 : decode cN_Marks_tryFrom 43 = .ok (.iload 4, 2) := by decide +kernel
theorem dN_Marks_tryFrom_45 : decode cN_Marks_tryFrom 45 = .ok (.ldc 85, 2) := by decide +kernel
theorem dN_Marks_tryFrom_47 : decode cN_Marks_tryFrom 47 = .ok (.if_icmp .ge 78, 3) := by decide +kernel
theorem dN_Marks_tryFrom_50 : decode cN_Marks_tryFrom 50 = .ok (.aload_n 0, 1) := by decide +kernel
theorem dN_Marks_tryFrom_51 : decode cN_Marks_tryFrom 51 = .ok (.getfield 21, 3) := by decide +kernel
theorem dN_Marks_tryFrom_54 : decode cN_Marks_tryFrom 54 = .ok (.invokevirtual 86, 3) := by decide +kernel
theorem dN_Marks_tryFrom_57 : decode cN_Marks_tryFrom 57 = .ok (.ifCond .ne 68, 3) := by decide +kernel
theorem dN_Marks_tryFrom_60 : decode cN_Marks_tryFrom 60 = .ok (.aload_n 0, 1) := by decide +kernel
theorem dN_Marks_tryFrom_61 : decode cN_Marks_tryFrom 61 = .ok (.getfield 21, 3) := by decide +kernel
theorem dN_Marks_tryFrom_64 : decode cN_Marks_tryFrom 64 = .ok (.invokevirtual 90, 3) := by decide +kernel
theorem dN_Marks_tryFrom_67 : decode cN_Marks_tryFrom 67 = .ok (.istore 5, 2) := by decide +kernel
theorem dN_Marks_tryFrom_69 : decode cN_Marks_tryFrom 69 = .ok (.iload 5, 2) := by decide +kernel
theorem dN_Marks_tryFrom_71 : decode cN_Marks_tryFrom 71 = .ok (.invokestatic 93, 3) := by decide +kernel
theorem dN_Marks_tryFrom_74 : decode cN_Marks_tryFrom 74 = .ok (.ifCond .eq 15, 3) := by decide +kernel
theorem dN_Marks_tryFrom_77 : decode cN_Marks_tryFrom 77 = .ok (.iload 5, 2) := by decide +kernel
theorem dN_Marks_tryFrom_79 : decode cN_Marks_tryFrom 79 = .ok (.aload_n 0, 1) := by decide +kernel
theorem dN_Marks_tryFrom_80 : decode cN_Marks_tryFrom 80 = .ok (.getfield 9, 3) := by decide +kernel
theorem dN_Marks_tryFrom_83 : decode cN_Marks_tryFrom 83 = .ok (.invokestatic 97, 3) := by decide +kernel
theorem dN_Marks_tryFrom_86 : decode cN_Marks_tryFrom 86 = .ok (.goto 18, 3) := by decide +kernel
theorem dN_Marks_tryFrom_89 : decode cN_Marks_tryFrom 89 = .ok (.aload_n 0, 1) := by decide +kernel
theorem dN_Marks_tryFrom_90 : decode cN_Marks_tryFrom 90 = .ok (.iload 5, 2) := by decide +kernel
theorem dN_Marks_tryFrom_92 : decode cN_Marks_tryFrom 92 = .ok (.invokestatic 101, 3) := by decide +kernel
theorem dN_Marks_tryFrom_95 : decode cN_Marks_tryFrom 95 = .ok (.iload 5, 2) := by decide +kernel
theorem dN_Marks_tryFrom_97 : decode cN_Marks_tryFrom 97 = .ok (.invokestatic 105, 3) := by decide +kernel
theorem dN_Marks_tryFrom_100 : decode cN_Marks_tryFrom 100 = .ok (.iload_n 2, 1) := by decide +kernel
theorem dN_Marks_tryFrom_101 : decode cN_Marks_tryFrom 101 = .ok (.invokevirtual 108, 3) := by decide +kernel
theorem dN_Marks_tryFrom_104 : decode cN_Marks_tryFrom 104 = .ok (.aload_n 0, 1) := by decide +kernel
theorem dN_Marks_tryFrom_105 : decode cN_Marks_tryFrom 105 = .ok (.getfield 40, 3) := by decide +kernel
theorem dN_Marks_tryFrom_108 : decode cN_Marks_tryFrom 108 = .ok (.iconst 1, 1) := by decide +kernel
theorem dN_Marks_tryFrom_109 : decode cN_Marks_tryFrom 109 = .ok (.iaload, 1) := by decide +kernel
theorem dN_Marks_tryFrom_110 : decode cN_Marks_tryFrom 110 = .ok (.iconst (-1), 1) := by decide +kernel
theorem dN_Marks_tryFrom_111 : decode cN_Marks_tryFrom 111 = .ok (.if_icmp .eq 8, 3) := by decide +kernel
theorem dN_Marks_tryFrom_114 : decode cN_Marks_tryFrom 114 = .ok (.iload_n 3, 1) := by decide +kernel
theorem dN_Marks_tryFrom_115 : decode cN_Marks_tryFrom 115 = .ok (.ifCond .ne 4, 3) := by decide +kernel
theorem dN_Marks_tryFrom_118 : decode cN_Marks_tryFrom 118 = .ok (.return_, 1) := by decide +kernel
theorem dN_Marks_tryFrom_119 : decode cN_Marks_tryFrom 119 = .ok (.iinc 4 1, 3) := by decide +kernel
theorem dN_Marks_tryFrom_122 : decode cN_Marks_tryFrom 122 = .ok (.goto (-79), 3) := by decide +kernel
theorem dN_Marks_tryFrom_125 : decode cN_Marks_tryFrom 125 = .ok (.return_, 1) := by decide +kernel
theorem dN_Marks_visit_0 : decode cN_Marks_visit 0 = .ok (.aload_n 0, 1) := by decide +kernel
theorem dN_Marks_visit_1 : decode cN_Marks_visit 1 = .ok (.getfield 36, 3) := by decide +kernel
theorem dN_Marks_visit_4 : decode cN_Marks_visit 4 = .ok (.invokevirtual 112, 3) := by decide +kernel
theorem dN_Marks_visit_7 : decode cN_Marks_visit 7 = .ok (.aload_n 0, 1) := by decide +kernel
theorem dN_Marks_visit_8 : decode cN_Marks_visit 8 = .ok (.iload_n 1, 1) := by decide +kernel
theorem dN_Marks_visit_9 : decode cN_Marks_visit 9 = .ok (.iload_n 2, 1) := by decide +kernel
theorem dN_Marks_visit_10 : decode cN_Marks_visit 10 = .ok (.invokevirtual 117, 3) := by decide +kernel
theorem dN_Marks_visit_13 : decode cN_Marks_visit 13 = .ok (.ifCond .ne 4, 3) := by decide +kernel
theorem dN_Marks_visit_16 : decode cN_Marks_visit 16 = .ok (.return_, 1) := by decide +kernel
theorem dN_Marks_visit_17 : decode cN_Marks_visit 17 = .ok (.aload_n 0, 1) := by decide +kernel
theorem dN_Marks_visit_18 : decode cN_Marks_visit 18 = .ok (.getfield 28, 3) := by decide +kernel
theorem dN_Marks_visit_21 : decode cN_Marks_visit 21 = .ok (.iload_n 1, 1) := by decide +kernel
theorem dN_Marks_visit_22 : decode cN_Marks_visit 22 = .ok (.invokevirtual 121, 3) := by decide +kernel
theorem dN_Marks_visit_25 : decode cN_Marks_visit 25 = .ok (.istore 4, 2) := by decide +kernel
theorem dN_Marks_visit_27 : decode cN_Marks_visit 27 = .ok (.aload_n 0, 1) := by decide +kernel
theorem dN_Marks_visit_28 : decode cN_Marks_visit 28 = .ok (.getfield 28, 3) := by decide +kernel
theorem dN_Marks_visit_31 : decode cN_Marks_visit 31 = .ok (.iload_n 1, 1) := by decide +kernel
theorem dN_Marks_visit_32 : decode cN_Marks_visit 32 = .ok (.invokevirtual 124, 3) := by decide +kernel
theorem dN_Marks_visit_35 : decode cN_Marks_visit 35 = .ok (.tableswitch 200 0 4 #[33, 42, 85, 126, 162], 33) := by decide +kernel
theorem dN_Marks_visit_68 : decode cN_Marks_visit 68 = .ok (.aload_n 0, 1) := by decide +kernel
theorem dN_Marks_visit_69 : decode cN_Marks_visit 69 = .ok (.iload_n 2, 1) := by decide +kernel
theorem dN_Marks_visit_70 : decode cN_Marks_visit 70 = .ok (.iload_n 3, 1) := by decide +kernel
theorem dN_Marks_visit_71 : decode cN_Marks_visit 71 = .ok (.invokevirtual 127, 3) := by decide +kernel
theorem dN_Marks_visit_74 : decode cN_Marks_visit 74 = .ok (.goto 161, 3) := by decide +kernel
theorem dN_Marks_visit_77 : decode cN_Marks_visit 77 = .ok (.aload_n 0, 1) := by decide +kernel
theorem dN_Marks_visit_78 : decode cN_Marks_visit 78 = .ok (.getfield 28, 3) := by decide +kernel
theorem dN_Marks_visit_81 : decode cN_Marks_visit 81 = .ok (.iload_n 1, 1) := by decide +kernel
theorem dN_Marks_visit_82 : decode cN_Marks_visit 82 = .ok (.aload_n 0, 1) := by decide +kernel
theorem dN_Marks_visit_83 : decode cN_Marks_visit 83 = .ok (.getfield 32, 3) := by decide +kernel
theorem dN_Marks_visit_86 : decode cN_Marks_visit 86 = .ok (.iload_n 2, 1) := by decide +kernel
theorem dN_Marks_visit_87 : decode cN_Marks_visit 87 = .ok (.invokevirtual 131, 3) := by decide +kernel
theorem dN_Marks_visit_90 : decode cN_Marks_visit 90 = .ok (.invokevirtual 134, 3) := by decide +kernel
theorem dN_Marks_visit_93 : decode cN_Marks_visit 93 = .ok (.ifCond .eq 142, 3) := by decide +kernel
theorem dN_Marks_visit_96 : decode cN_Marks_visit 96 = .ok (.aload_n 0, 1) := by decide +kernel
theorem dN_Marks_visit_97 : decode cN_Marks_visit 97 = .ok (.getfield 21, 3) := by decide +kernel
theorem dN_Marks_visit_100 : decode cN_Marks_visit 100 = .ok (.aload_n 0, 1) := by decide +kernel
theorem dN_Marks_visit_101 : decode cN_Marks_visit 101 = .ok (.getfield 28, 3) := by decide +kernel
theorem dN_Marks_visit_104 : decode cN_Marks_visit 104 = .ok (.iload_n 1, 1) := by decide +kernel
theorem dN_Marks_visit_105 : decode cN_Marks_visit 105 = .ok (.invokevirtual 137, 3) := by decide +kernel
theorem dN_Marks_visit_108 : decode cN_Marks_visit 108 = .ok (.iload_n 2, 1) := by decide +kernel
theorem dN_Marks_visit_109 : decode cN_Marks_visit 109 = .ok (.iconst 1, 1) := by decide +kernel
theorem dN_Marks_visit_110 : decode cN_Marks_visit 110 = .ok (.iadd, 1) := by decide +kernel
theorem dN_Marks_visit_111 : decode cN_Marks_visit 111 = .ok (.invokestatic 79, 3) := by decide +kernel
theorem dN_Marks_visit_114 : decode cN_Marks_visit 114 = .ok (.invokevirtual 82, 3) := by decide +kernel
theorem dN_Marks_visit_117 : decode cN_Marks_visit 117 = .ok (.goto 118, 3) := by decide +kernel
theorem dN_Marks_visit_120 : decode cN_Marks_visit 120 = .ok (.aload_n 0, 1) := by decide +kernel
theorem dN_Marks_visit_121 : decode cN_Marks_visit 121 = .ok (.getfield 21, 3) := by decide +kernel
theorem dN_Marks_visit_124 : decode cN_Marks_visit 124 = .ok (.aload_n 0, 1) := by decide +kernel
theorem dN_Marks_visit_125 : decode cN_Marks_visit 125 = .ok (.getfield 28, 3) := by decide +kernel
theorem dN_Marks_visit_128 : decode cN_Marks_visit 128 = .ok (.iload_n 1, 1) := by decide +kernel
theorem dN_Marks_visit_129 : decode cN_Marks_visit 129 = .ok (.invokevirtual 140, 3) := by decide +kernel
theorem dN_Marks_visit_132 : decode cN_Marks_visit 132 = .ok (.iload_n 2, 1) := by decide +kernel
theorem dN_Marks_visit_133 : decode cN_Marks_visit 133 = .ok (.invokestatic 79, 3) := by decide +kernel
theorem dN_Marks_visit_136 : decode cN_Marks_visit 136 = .ok (.invokevirtual 82, 3) := by decide +kernel
theorem dN_Marks_visit_139 : decode cN_Marks_visit 139 = .ok (.aload_n 0, 1) := by decide +kernel
theorem dN_Marks_visit_140 : decode cN_Marks_visit 140 = .ok (.getfield 21, 3) := by decide +kernel
theorem dN_Marks_visit_143 : decode cN_Marks_visit 143 = .ok (.aload_n 0, 1) := by decide +kernel
theorem dN_Marks_visit_144 : decode cN_Marks_visit 144 = .ok (.getfield 28, 3) := by decide +kernel
theorem dN_Marks_visit_147 : decode cN_Marks_visit 147 = .ok (.iload_n 1, 1) := by decide +kernel
theorem dN_Marks_visit_148 : decode cN_Marks_visit 148 = .ok (.invokevirtual 137, 3) := by decide +kernel
theorem dN_Marks_visit_151 : decode cN_Marks_visit 151 = .ok (.iload_n 2, 1) := by decide +kernel
theorem dN_Marks_visit_152 : decode cN_Marks_visit 152 = .ok (.invokestatic 79, 3) := by decide +kernel
theorem dN_Marks_visit_155 : decode cN_Marks_visit 155 = .ok (.invokevirtual 82, 3) := by decide +kernel
theorem dN_Marks_visit_158 : decode cN_Marks_visit 158 = .ok (.goto 77, 3) := by decide +kernel
theorem dN_Marks_visit_161 : decode cN_Marks_visit 161 = .ok (.aload_n 0, 1) := by decide +kernel
theorem dN_Marks_visit_162 : decode cN_Marks_visit 162 = .ok (.getfield 21, 3) := by decide +kernel
theorem dN_Marks_visit_165 : decode cN_Marks_visit 165 = .ok (.iload 4, 2) := by decide +kernel
theorem dN_Marks_visit_167 : decode cN_Marks_visit 167 = .ok (.iload_n 2, 1) := by decide +kernel
theorem dN_Marks_visit_168 : decode cN_Marks_visit 168 = .ok (.aload_n 0, 1) := by decide +kernel
theorem dN_Marks_visit_169 : decode cN_Marks_visit 169 = .ok (.getfield 9, 3) := by decide +kernel
theorem dN_Marks_visit_172 : decode cN_Marks_visit 172 = .ok (.invokevirtual 143, 3) := by decide +kernel
theorem dN_Marks_visit_175 : decode cN_Marks_visit 175 = .ok (.aload_n 0, 1) := by decide +kernel
theorem dN_Marks_visit_176 : decode cN_Marks_visit 176 = .ok (.getfield 21, 3) := by decide +kernel
theorem dN_Marks_visit_179 : decode cN_Marks_visit 179 = .ok (.aload_n 0, 1) := by decide +kernel
theorem dN_Marks_visit_180 : decode cN_Marks_visit 180 = .ok (.getfield 28, 3) := by decide +kernel
theorem dN_Marks_visit_183 : decode cN_Marks_visit 183 = .ok (.iload_n 1, 1) := by decide +kernel
theorem dN_Marks_visit_184 : decode cN_Marks_visit 184 = .ok (.invokevirtual 137, 3) := by decide +kernel
theorem dN_Marks_visit_187 : decode cN_Marks_visit 187 = .ok (.iload_n 2, 1) := by decide +kernel
theorem dN_Marks_visit_188 : decode cN_Marks_visit 188 = .ok (.invokestatic 79, 3) := by decide +kernel
theorem dN_Marks_visit_191 : decode cN_Marks_visit 191 = .ok (.invokevirtual 82, 3) := by decide +kernel
theorem dN_Marks_visit_194 : decode cN_Marks_visit 194 = .ok (.goto 41, 3) := by decide +kernel
theorem dN_Marks_visit_197 : decode cN_Marks_visit 197 = .ok (.aload_n 0, 1) := by decide +kernel
theorem dN_Marks_visit_198 : decode cN_Marks_visit 198 = .ok (.getfield 32, 3) := by decide +kernel
theorem dN_Marks_visit_201 : decode cN_Marks_visit 201 = .ok (.iload_n 2, 1) := by decide +kernel
theorem dN_Marks_visit_202 : decode cN_Marks_visit 202 = .ok (.invokevirtual 147, 3) := by decide +kernel
theorem dN_Marks_visit_205 : decode cN_Marks_visit 205 = .ok (.iload 4, 2) := by decide +kernel
theorem dN_Marks_visit_207 : decode cN_Marks_visit 207 = .ok (.ishr, 1) := by decide +kernel
theorem dN_Marks_visit_208 : decode cN_Marks_visit 208 = .ok (.iconst 1, 1) := by decide +kernel
theorem dN_Marks_visit_209 : decode cN_Marks_visit 209 = .ok (.iand, 1) := by decide +kernel
theorem dN_Marks_visit_210 : decode cN_Marks_visit 210 = .ok (.ifCond .eq 25, 3) := by decide +kernel
theorem dN_Marks_visit_213 : decode cN_Marks_visit 213 = .ok (.aload_n 0, 1) := by decide +kernel
theorem dN_Marks_visit_214 : decode cN_Marks_visit 214 = .ok (.getfield 21, 3) := by decide +kernel
theorem dN_Marks_visit_217 : decode cN_Marks_visit 217 = .ok (.aload_n 0, 1) := by decide +kernel
theorem dN_Marks_visit_218 : decode cN_Marks_visit 218 = .ok (.getfield 28, 3) := by decide +kernel
theorem dN_Marks_visit_221 : decode cN_Marks_visit 221 = .ok (.iload_n 1, 1) := by decide +kernel
theorem dN_Marks_visit_222 : decode cN_Marks_visit 222 = .ok (.invokevirtual 137, 3) := by decide +kernel
theorem dN_Marks_visit_225 : decode cN_Marks_visit 225 = .ok (.iload_n 2, 1) := by decide +kernel
theorem dN_Marks_visit_226 : decode cN_Marks_visit 226 = .ok (.invokestatic 79, 3) := by decide +kernel
theorem dN_Marks_visit_229 : decode cN_Marks_visit 229 = .ok (.invokevirtual 82, 3) := by decide +kernel
theorem dN_Marks_visit_232 : decode cN_Marks_visit 232 = .ok (.goto 3, 3) := by decide +kernel
theorem dN_Marks_visit_235 : decode cN_Marks_visit 235 = .ok (.return_, 1) := by decide +kernel
theorem dN_Marks_isNew_0 : decode cN_Marks_isNew 0 = .ok (.iload_n 2, 1) := by decide +kernel
theorem dN_Marks_isNew_1 : decode cN_Marks_isNew 1 = .ok (.aload_n 0, 1) := by decide +kernel
theorem dN_Marks_isNew_2 : decode cN_Marks_isNew 2 = .ok (.getfield 28, 3) := by decide +kernel
theorem dN_Marks_isNew_5 : decode cN_Marks_isNew 5 = .ok (.invokevirtual 62, 3) := by decide +kernel
theorem dN_Marks_isNew_8 : decode cN_Marks_isNew 8 = .ok (.imul, 1) := by decide +kernel
theorem dN_Marks_isNew_9 : decode cN_Marks_isNew 9 = .ok (.iload_n 1, 1) := by decide +kernel
theorem dN_Marks_isNew_10 : decode cN_Marks_isNew 10 = .ok (.iadd, 1) := by decide +kernel
theorem dN_Marks_isNew_11 : decode cN_Marks_isNew 11 = .ok (.istore_n 3, 1) := by decide +kernel
theorem dN_Marks_isNew_12 : decode cN_Marks_isNew 12 = .ok (.iload_n 3, 1) := by decide +kernel
theorem dN_Marks_isNew_13 : decode cN_Marks_isNew 13 = .ok (.bipush 32, 2) := by decide +kernel
theorem dN_Marks_isNew_15 : decode cN_Marks_isNew 15 = .ok (.idiv, 1) := by decide +kernel
theorem dN_Marks_isNew_16 : decode cN_Marks_isNew 16 = .ok (.istore 4, 2) := by decide +kernel
theorem dN_Marks_isNew_18 : decode cN_Marks_isNew 18 = .ok (.iconst 1, 1) := by decide +kernel
theorem dN_Marks_isNew_19 : decode cN_Marks_isNew 19 = .ok (.iload_n 3, 1) := by decide +kernel
theorem dN_Marks_isNew_20 : decode cN_Marks_isNew 20 = .ok (.bipush 32, 2) := by decide +kernel
theorem dN_Marks_isNew_22 : decode cN_Marks_isNew 22 = .ok (.irem, 1) := by decide +kernel
theorem dN_Marks_isNew_23 : decode cN_Marks_isNew 23 = .ok (.ishl, 1) := by decide +kernel
theorem dN_Marks_isNew_24 : decode cN_Marks_isNew 24 = .ok (.istore 5, 2) := by decide +kernel
theorem dN_Marks_isNew_26 : decode cN_Marks_isNew 26 = .ok (.iload 4, 2) := by decide +kernel
theorem dN_Marks_isNew_28 : decode cN_Marks_isNew 28 = .ok (.ifCond .lt 26, 3) := by decide +kernel
theorem dN_Marks_isNew_31 : decode cN_Marks_isNew 31 = .ok (.iload 4, 2) := by decide +kernel
theorem dN_Marks_isNew_33 : decode cN_Marks_isNew 33 = .ok (.aload_n 0, 1) := by decide +kernel
theorem dN_Marks_isNew_34 : decode cN_Marks_isNew 34 = .ok (.getfield 25, 3) := by decide +kernel
theorem dN_Marks_isNew_37 : decode cN_Marks_isNew 37 = .ok (.arraylength, 1) := by decide +kernel
theorem dN_Marks_isNew_38 : decode cN_Marks_isNew 38 = .ok (.if_icmp .ge 16, 3) := by decide +kernel
theorem dN_Marks_isNew_41 : decode cN_Marks_isNew 41 = .ok (.aload_n 0, 1) := by decide +kernel
theorem dN_Marks_isNew_42 : decode cN_Marks_isNew 42 = .ok (.getfield 25, 3) := by decide +kernel
theorem dN_Marks_isNew_45 : decode cN_Marks_isNew 45 = .ok (.iload 4, 2) := by decide +kernel
theorem dN_Marks_isNew_47 : decode cN_Marks_isNew 47 = .ok (.iaload, 1) := by decide +kernel
theorem dN_Marks_isNew_48 : decode cN_Marks_isNew 48 = .ok (.iload 5, 2) := by decide +kernel
theorem dN_Marks_isNew_50 : decode cN_Marks_isNew 50 = .ok (.iand, 1) := by decide +kernel
theorem dN_Marks_isNew_51 : decode cN_Marks_isNew 51 = .ok (.ifCond .eq 5, 3) := by decide +kernel
theorem dN_Marks_isNew_54 : decode cN_Marks_isNew 54 = .ok (.iconst 0, 1) := by decide +kernel
theorem dN_Marks_isNew_55 : decode cN_Marks_isNew 55 = .ok (.ireturn, 1) := by decide +kernel
theorem dN_Marks_isNew_56 : decode cN_Marks_isNew 56 = .ok (.aload_n 0, 1) := by decide +kernel
theorem dN_Marks_isNew_57 : decode cN_Marks_isNew 57 = .ok (.getfield 25, 3) := by decide +kernel
theorem dN_Marks_isNew_60 : decode cN_Marks_isNew 60 = .ok (.iload 4, 2) := by decide +kernel
theorem dN_Marks_isNew_62 : decode cN_Marks_isNew 62 = .ok (.dup2, 1) := by decide +kernel
theorem dN_Marks_isNew_63 : decode cN_Marks_isNew 63 = .ok (.iaload, 1) := by decide +kernel
theorem dN_Marks_isNew_64 : decode cN_Marks_isNew 64 = .ok (.iload 5, 2) := by decide +kernel
theorem dN_Marks_isNew_66 : decode cN_Marks_isNew 66 = .ok (.ior, 1) := by decide +kernel
theorem dN_Marks_isNew_67 : decode cN_Marks_isNew 67 = .ok (.iastore, 1) := by decide +kernel
theorem dN_Marks_isNew_68 : decode cN_Marks_isNew 68 = .ok (.iconst 1, 1) := by decide +kernel
theorem dN_Marks_isNew_69 : decode cN_Marks_isNew 69 = .ok (.ireturn, 1) := by decide +kernel
theorem dN_Marks_end_0 : decode cN_Marks_end 0 = .ok (.aload_n 0, 1) := by decide +kernel
theorem dN_Marks_end_1 : decode cN_Marks_end 1 = .ok (.getfield 32, 3) := by decide +kernel
theorem dN_Marks_end_4 : decode cN_Marks_end 4 = .ok (.iload_n 2, 1) := by decide +kernel
theorem dN_Marks_end_5 : decode cN_Marks_end 5 = .ok (.iload_n 1, 1) := by decide +kernel
theorem dN_Marks_end_6 : decode cN_Marks_end 6 = .ok (.invokevirtual 150, 3) := by decide +kernel
theorem dN_Marks_end_9 : decode cN_Marks_end 9 = .ok (.ifCond .eq 35, 3) := by decide +kernel
theorem dN_Marks_end_12 : decode cN_Marks_end 12 = .ok (.iload_n 1, 1) := by decide +kernel
theorem dN_Marks_end_13 : decode cN_Marks_end 13 = .ok (.aload_n 0, 1) := by decide +kernel
theorem dN_Marks_end_14 : decode cN_Marks_end 14 = .ok (.getfield 40, 3) := by decide +kernel
theorem dN_Marks_end_17 : decode cN_Marks_end 17 = .ok (.iconst 1, 1) := by decide +kernel
theorem dN_Marks_end_18 : decode cN_Marks_end 18 = .ok (.iaload, 1) := by decide +kernel
theorem dN_Marks_end_19 : decode cN_Marks_end 19 = .ok (.if_icmp .le 25, 3) := by decide +kernel
theorem dN_Marks_end_22 : decode cN_Marks_end 22 = .ok (.aload_n 0, 1) := by decide +kernel
theorem dN_Marks_end_23 : decode cN_Marks_end 23 = .ok (.getfield 9, 3) := by decide +kernel
theorem dN_Marks_end_26 : decode cN_Marks_end 26 = .ok (.iconst 0, 1) := by decide +kernel
theorem dN_Marks_end_27 : decode cN_Marks_end 27 = .ok (.aload_n 0, 1) := by decide +kernel
theorem dN_Marks_end_28 : decode cN_Marks_end 28 = .ok (.getfield 40, 3) := by decide +kernel
theorem dN_Marks_end_31 : decode cN_Marks_end 31 = .ok (.iconst 0, 1) := by decide +kernel
theorem dN_Marks_end_32 : decode cN_Marks_end 32 = .ok (.bipush 20, 2) := by decide +kernel
theorem dN_Marks_end_34 : decode cN_Marks_end 34 = .ok (.invokestatic 153, 3) := by decide +kernel
theorem dN_Marks_end_37 : decode cN_Marks_end 37 = .ok (.aload_n 0, 1) := by decide +kernel
theorem dN_Marks_end_38 : decode cN_Marks_end 38 = .ok (.getfield 40, 3) := by decide +kernel
theorem dN_Marks_end_41 : decode cN_Marks_end 41 = .ok (.iconst 1, 1) := by decide +kernel
theorem dN_Marks_end_42 : decode cN_Marks_end 42 = .ok (.iload_n 1, 1) := by decide +kernel
theorem dN_Marks_end_43 : decode cN_Marks_end 43 = .ok (.iastore, 1) := by decide +kernel
theorem dN_Marks_end_44 : decode cN_Marks_end 44 = .ok (.return_, 1) := by decide +kernel
