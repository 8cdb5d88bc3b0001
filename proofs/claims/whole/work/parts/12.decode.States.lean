theorem dN_States_init_0 : decode cN_States_init 0 = .ok (.aload_n 0, 1) := by decide +kernel
theorem dN_States_init_1 : decode cN_States_init 1 = .ok (.invokespecial 3, 3) := by decide +kernel
theorem dN_States_init_4 : decode cN_States_init 4 = .ok (.aload_n 0, 1) := by decide +kernel
theorem dN_States_init_5 : decode cN_States_init 5 = .ok (.new 9, 3) := by decide +kernel
theorem dN_States_init_8 : decode cN_States_init 8 = .ok (.dup, 1) := by decide +kernel
theorem dN_States_init_9 : decode cN_States_init 9 = .ok (.invokespecial 11, 3) := by decide +kernel
theorem dN_States_init_12 : decode cN_States_init 12 = .ok (.putfield 12, 3) := by decide +kernel
theorem dN_States_init_15 : decode cN_States_init 15 = .ok (.aload_n 0, 1) := by decide +kernel
theorem dN_States_init_16 : decode cN_States_init 16 = .ok (.new 18, 3) := by decide +kernel
theorem dN_States_init_19 : decode cN_States_init 19 = .ok (.dup, 1) := by decide +kernel
theorem dN_States_init_20 : decode cN_States_init 20 = .ok (.invokespecial 20, 3) := by decide +kernel
theorem dN_States_init_23 : decode cN_States_init 23 = .ok (.putfield 21, 3) := by decide +kernel
theorem dN_States_init_26 : decode cN_States_init 26 = .ok (.aload_n 0, 1) := by decide +kernel
theorem dN_States_init_27 : decode cN_States_init 27 = .ok (.new 18, 3) := by decide +kernel
theorem dN_States_init_30 : decode cN_States_init 30 = .ok (.dup, 1) := by decide +kernel
theorem dN_States_init_31 : decode cN_States_init 31 = .ok (.invokespecial 20, 3) := by decide +kernel
theorem dN_States_init_34 : decode cN_States_init 34 = .ok (.putfield 25, 3) := by decide +kernel
theorem dN_States_init_37 : decode cN_States_init 37 = .ok (.aload_n 0, 1) := by decide +kernel
theorem dN_States_init_38 : decode cN_States_init 38 = .ok (.new 28, 3) := by decide +kernel
theorem dN_States_init_41 : decode cN_States_init 41 = .ok (.dup, 1) := by decide +kernel
theorem dN_States_init_42 : decode cN_States_init 42 = .ok (.sipush 402, 3) := by decide +kernel
theorem dN_States_init_45 : decode cN_States_init 45 = .ok (.invokespecial 30, 3) := by decide +kernel
theorem dN_States_init_48 : decode cN_States_init 48 = .ok (.putfield 33, 3) := by decide +kernel
theorem dN_States_init_51 : decode cN_States_init 51 = .ok (.aload_n 0, 1) := by decide +kernel
theorem dN_States_init_52 : decode cN_States_init 52 = .ok (.iconst 0, 1) := by decide +kernel
theorem dN_States_init_53 : decode cN_States_init 53 = .ok (.putfield 37, 3) := by decide +kernel
theorem dN_States_init_56 : decode cN_States_init 56 = .ok (.aload_n 0, 1) := by decide +kernel
theorem dN_States_init_57 : decode cN_States_init 57 = .ok (.aload_n 1, 1) := by decide +kernel
theorem dN_States_init_58 : decode cN_States_init 58 = .ok (.putfield 41, 3) := by decide +kernel
theorem dN_States_init_61 : decode cN_States_init 61 = .ok (.aload_n 0, 1) := by decide +kernel
theorem dN_States_init_62 : decode cN_States_init 62 = .ok (.aload_n 2, 1) := by decide +kernel
theorem dN_States_init_63 : decode cN_States_init 63 = .ok (.putfield 45, 3) := by decide +kernel
theorem dN_States_init_66 : decode cN_States_init 66 = .ok (.aload_n 0, 1) := by decide +kernel
theorem dN_States_init_67 : decode cN_States_init 67 = .ok (.aload_n 3, 1) := by decide +kernel
theorem dN_States_init_68 : decode cN_States_init 68 = .ok (.putfield 49, 3) := by decide +kernel
theorem dN_States_init_71 : decode cN_States_init 71 = .ok (.return_, 1) := by decide +kernel
theorem dN_States_forget_0 : decode cN_States_forget 0 = .ok (.aload_n 0, 1) := by decide +kernel
theorem dN_States_forget_1 : decode cN_States_forget 1 = .ok (.getfield 12, 3) := by decide +kernel
theorem dN_States_forget_4 : decode cN_States_forget 4 = .ok (.invokevirtual 56, 3) := by decide +kernel
theorem dN_States_forget_7 : decode cN_States_forget 7 = .ok (.return_, 1) := by decide +kernel
theorem dN_States_run_0 : decode cN_States_run 0 = .ok (.aload_n 0, 1) := by decide +kernel
theorem dN_States_run_1 : decode cN_States_run 1 = .ok (.iload_n 1, 1) := by decide +kernel
theorem dN_States_run_2 : decode cN_States_run 2 = .ok (.iload_n 2, 1) := by decide +kernel
theorem dN_States_run_3 : decode cN_States_run 3 = .ok (.invokestatic 59, 3) := by decide +kernel
theorem dN_States_run_6 : decode cN_States_run 6 = .ok (.aload_n 0, 1) := by decide +kernel
theorem dN_States_run_7 : decode cN_States_run 7 = .ok (.getfield 45, 3) := by decide +kernel
theorem dN_States_run_10 : decode cN_States_run 10 = .ok (.iload_n 3, 1) := by decide +kernel
theorem dN_States_run_11 : decode cN_States_run 11 = .ok (.iconst 1, 1) := by decide +kernel
theorem dN_States_run_12 : decode cN_States_run 12 = .ok (.isub, 1) := by decide +kernel
theorem dN_States_run_13 : decode cN_States_run 13 = .ok (.invokevirtual 63, 3) := by decide +kernel
theorem dN_States_run_16 : decode cN_States_run 16 = .ok (.invokevirtual 69, 3) := by decide +kernel
theorem dN_States_run_19 : decode cN_States_run 19 = .ok (.istore 4, 2) := by decide +kernel
theorem dN_States_run_21 : decode cN_States_run 21 = .ok (.iconst (-1), 1) := by decide +kernel
theorem dN_States_run_22 : decode cN_States_run 22 = .ok (.istore 5, 2) := by decide +kernel
theorem dN_States_run_24 : decode cN_States_run 24 = .ok (.iload_n 3, 1) := by decide +kernel
theorem dN_States_run_25 : decode cN_States_run 25 = .ok (.istore 6, 2) := by decide +kernel
theorem dN_States_run_27 : decode cN_States_run 27 = .ok (.iload 6, 2) := by decide +kernel
theorem dN_States_run_29 : decode cN_States_run 29 = .ok (.aload_n 0, 1) := by decide +kernel
theorem dN_States_run_30 : decode cN_States_run 30 = .ok (.getfield 45, 3) := by decide +kernel
theorem dN_States_run_33 : decode cN_States_run 33 = .ok (.invokevirtual 73, 3) := by decide +kernel
theorem dN_States_run_36 : decode cN_States_run 36 = .ok (.if_icmp .gt 67, 3) := by decide +kernel
theorem dN_States_run_39 : decode cN_States_run 39 = .ok (.iload 4, 2) := by decide +kernel
theorem dN_States_run_41 : decode cN_States_run 41 = .ok (.iconst (-1), 1) := by decide +kernel
theorem dN_States_run_42 : decode cN_States_run 42 = .ok (.if_icmp .eq 61, 3) := by decide +kernel
theorem dN_States_run_45 : decode cN_States_run 45 = .ok (.aload_n 0, 1) := by decide +kernel
theorem dN_States_run_46 : decode cN_States_run 46 = .ok (.getfield 45, 3) := by decide +kernel
theorem dN_States_run_49 : decode cN_States_run 49 = .ok (.iload 6, 2) := by decide +kernel
theorem dN_States_run_51 : decode cN_States_run 51 = .ok (.invokevirtual 63, 3) := by decide +kernel
theorem dN_States_run_54 : decode cN_States_run 54 = .ok (.istore 7, 2) := by decide +kernel
theorem dN_States_run_56 : decode cN_States_run 56 = .ok (.aload_n 0, 1) := by decide +kernel
theorem dN_States_run_57 : decode cN_States_run 57 = .ok (.iload 4, 2) := by decide +kernel
theorem dN_States_run_59 : decode cN_States_run 59 = .ok (.iload 7, 2) := by decide +kernel
theorem dN_States_run_61 : decode cN_States_run 61 = .ok (.iconst (-1), 1) := by decide +kernel
theorem dN_States_run_62 : decode cN_States_run 62 = .ok (.if_icmp .ne 9, 3) := by decide +kernel
theorem dN_States_run_65 : decode cN_States_run 65 = .ok (.sipush 256, 3) := by decide +kernel
theorem dN_States_run_68 : decode cN_States_run 68 = .ok (.goto 5, 3) := by decide +kernel
theorem dN_States_run_71 : decode cN_States_run 71 = .ok (.iload 7, 2) := by decide +kernel
theorem dN_States_run_73 : decode cN_States_run 73 = .ok (.invokevirtual 77, 3) := by decide +kernel
theorem dN_States_run_76 : decode cN_States_run 76 = .ok (.istore 8, 2) := by decide +kernel
theorem dN_States_run_78 : decode cN_States_run 78 = .ok (.iload 8, 2) := by decide +kernel
theorem dN_States_run_80 : decode cN_States_run 80 = .ok (.iconst 2, 1) := by decide +kernel
theorem dN_States_run_81 : decode cN_States_run 81 = .ok (.irem, 1) := by decide +kernel
theorem dN_States_run_82 : decode cN_States_run 82 = .ok (.ifCond .eq 7, 3) := by decide +kernel
theorem dN_States_run_85 : decode cN_States_run 85 = .ok (.iload 6, 2) := by decide +kernel
theorem dN_States_run_87 : decode cN_States_run 87 = .ok (.istore 5, 2) := by decide +kernel
theorem dN_States_run_89 : decode cN_States_run 89 = .ok (.iload 8, 2) := by decide +kernel
theorem dN_States_run_91 : decode cN_States_run 91 = .ok (.iconst 2, 1) := by decide +kernel
theorem dN_States_run_92 : decode cN_States_run 92 = .ok (.idiv, 1) := by decide +kernel
theorem dN_States_run_93 : decode cN_States_run 93 = .ok (.iconst 2, 1) := by decide +kernel
theorem dN_States_run_94 : decode cN_States_run 94 = .ok (.isub, 1) := by decide +kernel
theorem dN_States_run_95 : decode cN_States_run 95 = .ok (.istore 4, 2) := by decide +kernel
theorem dN_States_run_97 : decode cN_States_run 97 = .ok (.iinc 6 1, 3) := by decide +kernel
theorem dN_States_run_100 : decode cN_States_run 100 = .ok (.goto (-73), 3) := by decide +kernel
theorem dN_States_run_103 : decode cN_States_run 103 = .ok (.iload 5, 2) := by decide +kernel
theorem dN_States_run_105 : decode cN_States_run 105 = .ok (.ireturn, 1) := by decide +kernel
theorem dN_States_goalOf_0 : decode cN_States_goalOf 0 = .ok (.iload_n 0, 1) := by decide +kernel
theorem dN_States_goalOf_1 : decode cN_States_goalOf 1 = .ok (.iconst 1, 1) := by decide +kernel
theorem dN_States_goalOf_2 : decode cN_States_goalOf 2 = .ok (.if_icmp .ne 13, 3) := by decide +kernel
theorem dN_States_goalOf_5 : decode cN_States_goalOf 5 = .ok (.iload_n 1, 1) := by decide +kernel
theorem dN_States_goalOf_6 : decode cN_States_goalOf 6 = .ok (.ifCond .eq 7, 3) := by decide +kernel
theorem dN_States_goalOf_9 : decode cN_States_goalOf 9 = .ok (.iconst 2, 1) := by decide +kernel
theorem dN_States_goalOf_10 : decode cN_States_goalOf 10 = .ok (.goto 4, 3) := by decide +kernel
theorem dN_States_goalOf_13 : decode cN_States_goalOf 13 = .ok (.iconst 1, 1) := by decide +kernel
theorem dN_States_goalOf_14 : decode cN_States_goalOf 14 = .ok (.ireturn, 1) := by decide +kernel
theorem dN_States_goalOf_15 : decode cN_States_goalOf 15 = .ok (.iload_n 0, 1) := by decide +kernel
theorem dN_States_goalOf_16 : decode cN_States_goalOf 16 = .ok (.iconst 2, 1) := by decide +kernel
theorem dN_States_goalOf_17 : decode cN_States_goalOf 17 = .ok (.if_icmp .ne 7, 3) := by decide +kernel
theorem dN_States_goalOf_20 : decode cN_States_goalOf 20 = .ok (.iconst 3, 1) := by decide +kernel
theorem dN_States_goalOf_21 : decode cN_States_goalOf 21 = .ok (.goto 4, 3) := by decide +kernel
theorem dN_States_goalOf_24 : decode cN_States_goalOf 24 = .ok (.iconst 0, 1) := by decide +kernel
theorem dN_States_goalOf_25 : decode cN_States_goalOf 25 = .ok (.ireturn, 1) := by decide +kernel
theorem dN_States_firstState_0 : decode cN_States_firstState 0 = .ok (.aload_n 0, 1) := by decide +kernel
theorem dN_States_firstState_1 : decode cN_States_firstState 1 = .ok (.getfield 25, 3) := by decide +kernel
theorem dN_States_firstState_4 : decode cN_States_firstState 4 = .ok (.invokevirtual 88, 3) := by decide +kernel
theorem dN_States_firstState_7 : decode cN_States_firstState 7 = .ok (.iload_n 1, 1) := by decide +kernel
theorem dN_States_firstState_8 : decode cN_States_firstState 8 = .ok (.ifCond .eq 17, 3) := by decide +kernel
theorem dN_States_firstState_11 : decode cN_States_firstState 11 = .ok (.aload_n 0, 1) := by decide +kernel
theorem dN_States_firstState_12 : decode cN_States_firstState 12 = .ok (.getfield 25, 3) := by decide +kernel
theorem dN_States_firstState_15 : decode cN_States_firstState 15 = .ok (.aload_n 0, 1) := by decide +kernel
theorem dN_States_firstState_16 : decode cN_States_firstState 16 = .ok (.getfield 41, 3) := by decide +kernel
theorem dN_States_firstState_19 : decode cN_States_firstState 19 = .ok (.invokevirtual 91, 3) := by decide +kernel
theorem dN_States_firstState_22 : decode cN_States_firstState 22 = .ok (.invokevirtual 96, 3) := by decide +kernel
theorem dN_States_firstState_25 : decode cN_States_firstState 25 = .ok (.aload_n 0, 1) := by decide +kernel
theorem dN_States_firstState_26 : decode cN_States_firstState 26 = .ok (.getfield 12, 3) := by decide +kernel
theorem dN_States_firstState_29 : decode cN_States_firstState 29 = .ok (.aload_n 0, 1) := by decide +kernel
theorem dN_States_firstState_30 : decode cN_States_firstState 30 = .ok (.getfield 25, 3) := by decide +kernel
theorem dN_States_firstState_33 : decode cN_States_firstState 33 = .ok (.iload_n 1, 1) := by decide +kernel
theorem dN_States_firstState_34 : decode cN_States_firstState 34 = .ok (.iload_n 2, 1) := by decide +kernel
theorem dN_States_firstState_35 : decode cN_States_firstState 35 = .ok (.invokestatic 99, 3) := by decide +kernel
theorem dN_States_firstState_38 : decode cN_States_firstState 38 = .ok (.invokevirtual 102, 3) := by decide +kernel
theorem dN_States_firstState_41 : decode cN_States_firstState 41 = .ok (.ireturn, 1) := by decide +kernel
theorem dN_States_labelOf_0 : decode cN_States_labelOf 0 = .ok (.iconst 3, 1) := by decide +kernel
theorem dN_States_labelOf_1 : decode cN_States_labelOf 1 = .ok (.istore_n 2, 1) := by decide +kernel
theorem dN_States_labelOf_2 : decode cN_States_labelOf 2 = .ok (.iload_n 1, 1) := by decide +kernel
theorem dN_States_labelOf_3 : decode cN_States_labelOf 3 = .ok (.iconst (-1), 1) := by decide +kernel
theorem dN_States_labelOf_4 : decode cN_States_labelOf 4 = .ok (.if_icmp .ne 8, 3) := by decide +kernel
theorem dN_States_labelOf_7 : decode cN_States_labelOf 7 = .ok (.iconst 0, 1) := by decide +kernel
theorem dN_States_labelOf_8 : decode cN_States_labelOf 8 = .ok (.istore_n 2, 1) := by decide +kernel
theorem dN_States_labelOf_9 : decode cN_States_labelOf 9 = .ok (.goto 23, 3) := by decide +kernel
theorem dN_States_labelOf_12 : decode cN_States_labelOf 12 = .ok (.iload_n 1, 1) := by decide +kernel
theorem dN_States_labelOf_13 : decode cN_States_labelOf 13 = .ok (.bipush 10, 2) := by decide +kernel
theorem dN_States_labelOf_15 : decode cN_States_labelOf 15 = .ok (.if_icmp .ne 8, 3) := by decide +kernel
theorem dN_States_labelOf_18 : decode cN_States_labelOf 18 = .ok (.iconst 1, 1) := by decide +kernel
theorem dN_States_labelOf_19 : decode cN_States_labelOf 19 = .ok (.istore_n 2, 1) := by decide +kernel
theorem dN_States_labelOf_20 : decode cN_States_labelOf 20 = .ok (.goto 12, 3) := by decide +kernel
theorem dN_States_labelOf_23 : decode cN_States_labelOf 23 = .ok (.iload_n 1, 1) := by decide +kernel
theorem dN_States_labelOf_24 : decode cN_States_labelOf 24 = .ok (.invokestatic 80, 3) := by decide +kernel
theorem dN_States_labelOf_27 : decode cN_States_labelOf 27 = .ok (.ifCond .eq 5, 3) := by decide +kernel
theorem dN_States_labelOf_30 : decode cN_States_labelOf 30 = .ok (.iconst 2, 1) := by decide +kernel
theorem dN_States_labelOf_31 : decode cN_States_labelOf 31 = .ok (.istore_n 2, 1) := by decide +kernel
theorem dN_States_labelOf_32 : decode cN_States_labelOf 32 = .ok (.iload_n 0, 1) := by decide +kernel
theorem dN_States_labelOf_33 : decode cN_States_labelOf 33 = .ok (.getstatic 84, 3) := by decide +kernel
theorem dN_States_labelOf_36 : decode cN_States_labelOf 36 = .ok (.arraylength, 1) := by decide +kernel
theorem dN_States_labelOf_37 : decode cN_States_labelOf 37 = .ok (.imul, 1) := by decide +kernel
theorem dN_States_labelOf_38 : decode cN_States_labelOf 38 = .ok (.iload_n 2, 1) := by decide +kernel
theorem dN_States_labelOf_39 : decode cN_States_labelOf 39 = .ok (.iadd, 1) := by decide +kernel
theorem dN_States_labelOf_40 : decode cN_States_labelOf 40 = .ok (.ireturn, 1) := by decide +kernel
theorem dN_States_moveFrom_0 : decode cN_States_moveFrom 0 = .ok (.aload_n 0, 1) := by decide +kernel
theorem dN_States_moveFrom_1 : decode cN_States_moveFrom 1 = .ok (.getfield 49, 3) := by decide +kernel
theorem dN_States_moveFrom_4 : decode cN_States_moveFrom 4 = .ok (.invokevirtual 106, 3) := by decide +kernel
theorem dN_States_moveFrom_7 : decode cN_States_moveFrom 7 = .ok (.aload_n 0, 1) := by decide +kernel
theorem dN_States_moveFrom_8 : decode cN_States_moveFrom 8 = .ok (.getfield 12, 3) := by decide +kernel
theorem dN_States_moveFrom_11 : decode cN_States_moveFrom 11 = .ok (.iload_n 1, 1) := by decide +kernel
theorem dN_States_moveFrom_12 : decode cN_States_moveFrom 12 = .ok (.iload_n 2, 1) := by decide +kernel
theorem dN_States_moveFrom_13 : decode cN_States_moveFrom 13 = .ok (.invokevirtual 111, 3) := by decide +kernel
theorem dN_States_moveFrom_16 : decode cN_States_moveFrom 16 = .ok (.istore_n 3, 1) := by decide +kernel
theorem dN_States_moveFrom_17 : decode cN_States_moveFrom 17 = .ok (.iload_n 3, 1) := by decide +kernel
theorem dN_States_moveFrom_18 : decode cN_States_moveFrom 18 = .ok (.ifCond .eq 5, 3) := by decide +kernel
theorem dN_States_moveFrom_21 : decode cN_States_moveFrom 21 = .ok (.iload_n 3, 1) := by decide +kernel
theorem dN_States_moveFrom_22 : decode cN_States_moveFrom 22 = .ok (.ireturn, 1) := by decide +kernel
theorem dN_States_moveFrom_23 : decode cN_States_moveFrom 23 = .ok (.aload_n 0, 1) := by decide +kernel
theorem dN_States_moveFrom_24 : decode cN_States_moveFrom 24 = .ok (.getfield 12, 3) := by decide +kernel
theorem dN_States_moveFrom_27 : decode cN_States_moveFrom 27 = .ok (.iload_n 1, 1) := by decide +kernel
theorem dN_States_moveFrom_28 : decode cN_States_moveFrom 28 = .ok (.invokevirtual 114, 3) := by decide +kernel
theorem dN_States_moveFrom_31 : decode cN_States_moveFrom 31 = .ok (.getstatic 84, 3) := by decide +kernel
theorem dN_States_moveFrom_34 : decode cN_States_moveFrom 34 = .ok (.arraylength, 1) := by decide +kernel
theorem dN_States_moveFrom_35 : decode cN_States_moveFrom 35 = .ok (.idiv, 1) := by decide +kernel
theorem dN_States_moveFrom_36 : decode cN_States_moveFrom 36 = .ok (.istore 4, 2) := by decide +kernel
theorem dN_States_moveFrom_38 : decode cN_States_moveFrom 38 = .ok (.aload_n 0, 1) := by decide +kernel
theorem dN_States_moveFrom_39 : decode cN_States_moveFrom 39 = .ok (.iload_n 1, 1) := by decide +kernel
theorem dN_States_moveFrom_40 : decode cN_States_moveFrom 40 = .ok (.iload_n 2, 1) := by decide +kernel
theorem dN_States_moveFrom_41 : decode cN_States_moveFrom 41 = .ok (.iload 4, 2) := by decide +kernel
theorem dN_States_moveFrom_43 : decode cN_States_moveFrom 43 = .ok (.invokevirtual 116, 3) := by decide +kernel
theorem dN_States_moveFrom_46 : decode cN_States_moveFrom 46 = .ok (.istore 5, 2) := by decide +kernel
theorem dN_States_moveFrom_48 : decode cN_States_moveFrom 48 = .ok (.iload 5, 2) := by decide +kernel
theorem dN_States_moveFrom_50 : decode cN_States_moveFrom 50 = .ok (.ifCond .eq 12, 3) := by decide +kernel
theorem dN_States_moveFrom_53 : decode cN_States_moveFrom 53 = .ok (.iload 4, 2) := by decide +kernel
theorem dN_States_moveFrom_55 : decode cN_States_moveFrom 55 = .ok (.ifCond .ne 7, 3) := by decide +kernel
theorem dN_States_moveFrom_58 : decode cN_States_moveFrom 58 = .ok (.iconst 1, 1) := by decide +kernel
theorem dN_States_moveFrom_59 : decode cN_States_moveFrom 59 = .ok (.goto 5, 3) := by decide +kernel
theorem dN_States_moveFrom_62 : decode cN_States_moveFrom 62 = .ok (.iload 4, 2) := by decide +kernel
theorem dN_States_moveFrom_64 : decode cN_States_moveFrom 64 = .ok (.istore 6, 2) := by decide +kernel
theorem dN_States_moveFrom_66 : decode cN_States_moveFrom 66 = .ok (.aload_n 0, 1) := by decide +kernel
theorem dN_States_moveFrom_67 : decode cN_States_moveFrom 67 = .ok (.getfield 12, 3) := by decide +kernel
theorem dN_States_moveFrom_70 : decode cN_States_moveFrom 70 = .ok (.invokevirtual 120, 3) := by decide +kernel
theorem dN_States_moveFrom_73 : decode cN_States_moveFrom 73 = .ok (.istore 7, 2) := by decide +kernel
theorem dN_States_moveFrom_75 : decode cN_States_moveFrom 75 = .ok (.iconst (-1), 1) := by decide +kernel
theorem dN_States_moveFrom_76 : decode cN_States_moveFrom 76 = .ok (.istore 8, 2) := by decide +kernel
theorem dN_States_moveFrom_78 : decode cN_States_moveFrom 78 = .ok (.iload_n 2, 1) := by decide +kernel
theorem dN_States_moveFrom_79 : decode cN_States_moveFrom 79 = .ok (.sipush 256, 3) := by decide +kernel
theorem dN_States_moveFrom_82 : decode cN_States_moveFrom 82 = .ok (.if_icmp .eq 37, 3) := by decide +kernel
theorem dN_States_moveFrom_85 : decode cN_States_moveFrom 85 = .ok (.aload_n 0, 1) := by decide +kernel
theorem dN_States_moveFrom_86 : decode cN_States_moveFrom 86 = .ok (.getfield 25, 3) := by decide +kernel
theorem dN_States_moveFrom_89 : decode cN_States_moveFrom 89 = .ok (.invokevirtual 122, 3) := by decide +kernel
theorem dN_States_moveFrom_92 : decode cN_States_moveFrom 92 = .ok (.ifCond .gt 8, 3) := by decide +kernel
theorem dN_States_moveFrom_95 : decode cN_States_moveFrom 95 = .ok (.iload 6, 2) := by decide +kernel
theorem dN_States_moveFrom_97 : decode cN_States_moveFrom 97 = .ok (.ifCond .ne 22, 3) := by decide +kernel
theorem dN_States_moveFrom_100 : decode cN_States_moveFrom 100 = .ok (.aload_n 0, 1) := by decide +kernel
theorem dN_States_moveFrom_101 : decode cN_States_moveFrom 101 = .ok (.getfield 12, 3) := by decide +kernel
theorem dN_States_moveFrom_104 : decode cN_States_moveFrom 104 = .ok (.aload_n 0, 1) := by decide +kernel
theorem dN_States_moveFrom_105 : decode cN_States_moveFrom 105 = .ok (.getfield 25, 3) := by decide +kernel
theorem dN_States_moveFrom_108 : decode cN_States_moveFrom 108 = .ok (.iload 6, 2) := by decide +kernel
theorem dN_States_moveFrom_110 : decode cN_States_moveFrom 110 = .ok (.iload_n 2, 1) := by decide +kernel
theorem dN_States_moveFrom_111 : decode cN_States_moveFrom 111 = .ok (.invokestatic 99, 3) := by decide +kernel
theorem dN_States_moveFrom_114 : decode cN_States_moveFrom 114 = .ok (.invokevirtual 102, 3) := by decide +kernel
theorem dN_States_moveFrom_117 : decode cN_States_moveFrom 117 = .ok (.istore 8, 2) := by decide +kernel
theorem dN_States_moveFrom_119 : decode cN_States_moveFrom 119 = .ok (.iload 8, 2) := by decide +kernel
theorem dN_States_moveFrom_121 : decode cN_States_moveFrom 121 = .ok (.iconst 2, 1) := by decide +kernel
theorem dN_States_moveFrom_122 : decode cN_States_moveFrom 122 = .ok (.iadd, 1) := by decide +kernel
theorem dN_States_moveFrom_123 : decode cN_States_moveFrom 123 = .ok (.iconst 2, 1) := by decide +kernel
theorem dN_States_moveFrom_124 : decode cN_States_moveFrom 124 = .ok (.imul, 1) := by decide +kernel
theorem dN_States_moveFrom_125 : decode cN_States_moveFrom 125 = .ok (.iload 5, 2) := by decide +kernel
theorem dN_States_moveFrom_127 : decode cN_States_moveFrom 127 = .ok (.ifCond .eq 7, 3) := by decide +kernel
theorem dN_States_moveFrom_130 : decode cN_States_moveFrom 130 = .ok (.iconst 1, 1) := by decide +kernel
theorem dN_States_moveFrom_131 : decode cN_States_moveFrom 131 = .ok (.goto 4, 3) := by decide +kernel
theorem dN_States_moveFrom_134 : decode cN_States_moveFrom 134 = .ok (.iconst 0, 1) := by decide +kernel
theorem dN_States_moveFrom_135 : decode cN_States_moveFrom 135 = .ok (.iadd, 1) := by decide +kernel
theorem dN_States_moveFrom_136 : decode cN_States_moveFrom 136 = .ok (.istore 9, 2) := by decide +kernel
theorem dN_States_moveFrom_138 : decode cN_States_moveFrom 138 = .ok (.aload_n 0, 1) := by decide +kernel
theorem dN_States_moveFrom_139 : decode cN_States_moveFrom 139 = .ok (.getfield 12, 3) := by decide +kernel
theorem dN_States_moveFrom_142 : decode cN_States_moveFrom 142 = .ok (.invokevirtual 120, 3) := by decide +kernel
theorem dN_States_moveFrom_145 : decode cN_States_moveFrom 145 = .ok (.iload 7, 2) := by decide +kernel
theorem dN_States_moveFrom_147 : decode cN_States_moveFrom 147 = .ok (.if_icmp .lt 14, 3) := by decide +kernel
theorem dN_States_moveFrom_150 : decode cN_States_moveFrom 150 = .ok (.aload_n 0, 1) := by decide +kernel
theorem dN_States_moveFrom_151 : decode cN_States_moveFrom 151 = .ok (.getfield 12, 3) := by decide +kernel
theorem dN_States_moveFrom_154 : decode cN_States_moveFrom 154 = .ok (.iload_n 1, 1) := by decide +kernel
theorem dN_States_moveFrom_155 : decode cN_States_moveFrom 155 = .ok (.iload_n 2, 1) := by decide +kernel
theorem dN_States_moveFrom_156 : decode cN_States_moveFrom 156 = .ok (.iload 9, 2) := by decide +kernel
theorem dN_States_moveFrom_158 : decode cN_States_moveFrom 158 = .ok (.invokevirtual 123, 3) := by decide +kernel
theorem dN_States_moveFrom_161 : decode cN_States_moveFrom 161 = .ok (.iload 9, 2) := by decide +kernel
theorem dN_States_moveFrom_163 : decode cN_States_moveFrom 163 = .ok (.ireturn, 1) := by decide +kernel
theorem dN_States_goOver_0 : decode cN_States_goOver 0 = .ok (.getstatic 84, 3) := by decide +kernel
theorem dN_States_goOver_3 : decode cN_States_goOver 3 = .ok (.aload_n 0, 1) := by decide +kernel
theorem dN_States_goOver_4 : decode cN_States_goOver 4 = .ok (.getfield 12, 3) := by decide +kernel
theorem dN_States_goOver_7 : decode cN_States_goOver 7 = .ok (.iload_n 1, 1) := by decide +kernel
theorem dN_States_goOver_8 : decode cN_States_goOver 8 = .ok (.invokevirtual 114, 3) := by decide +kernel
theorem dN_States_goOver_11 : decode cN_States_goOver 11 = .ok (.getstatic 84, 3) := by decide +kernel
theorem dN_States_goOver_14 : decode cN_States_goOver 14 = .ok (.arraylength, 1) := by decide +kernel
theorem dN_States_goOver_15 : decode cN_States_goOver 15 = .ok (.invokestatic 127, 3) := by decide +kernel
theorem dN_States_goOver_18 : decode cN_States_goOver 18 = .ok (.iaload, 1) := by decide +kernel
theorem dN_States_goOver_19 : decode cN_States_goOver 19 = .ok (.istore 4, 2) := by decide +kernel
theorem dN_States_goOver_21 : decode cN_States_goOver 21 = .ok (.aload_n 0, 1) := by decide +kernel
theorem dN_States_goOver_22 : decode cN_States_goOver 22 = .ok (.iload 4, 2) := by decide +kernel
theorem dN_States_goOver_24 : decode cN_States_goOver 24 = .ok (.iload_n 2, 1) := by decide +kernel
theorem dN_States_goOver_25 : decode cN_States_goOver 25 = .ok (.sipush 256, 3) := by decide +kernel
theorem dN_States_goOver_28 : decode cN_States_goOver 28 = .ok (.if_icmp .ne 7, 3) := by decide +kernel
theorem dN_States_goOver_31 : decode cN_States_goOver 31 = .ok (.iconst (-1), 1) := by decide +kernel
theorem dN_States_goOver_32 : decode cN_States_goOver 32 = .ok (.goto 4, 3) := by decide +kernel
theorem dN_States_goOver_35 : decode cN_States_goOver 35 = .ok (.iload_n 2, 1) := by decide +kernel
theorem dN_States_goOver_36 : decode cN_States_goOver 36 = .ok (.invokestatic 132, 3) := by decide +kernel
theorem dN_States_goOver_39 : decode cN_States_goOver 39 = .ok (.putfield 37, 3) := by decide +kernel
theorem dN_States_goOver_42 : decode cN_States_goOver 42 = .ok (.aload_n 0, 1) := by decide +kernel
theorem dN_States_goOver_43 : decode cN_States_goOver 43 = .ok (.getfield 21, 3) := by decide +kernel
theorem dN_States_goOver_46 : decode cN_States_goOver 46 = .ok (.invokevirtual 88, 3) := by decide +kernel
theorem dN_States_goOver_49 : decode cN_States_goOver 49 = .ok (.aload_n 0, 1) := by decide +kernel
theorem dN_States_goOver_50 : decode cN_States_goOver 50 = .ok (.getfield 25, 3) := by decide +kernel
theorem dN_States_goOver_53 : decode cN_States_goOver 53 = .ok (.invokevirtual 88, 3) := by decide +kernel
theorem dN_States_goOver_56 : decode cN_States_goOver 56 = .ok (.iconst 0, 1) := by decide +kernel
theorem dN_States_goOver_57 : decode cN_States_goOver 57 = .ok (.istore 5, 2) := by decide +kernel
theorem dN_States_goOver_59 : decode cN_States_goOver 59 = .ok (.aload_n 0, 1) := by decide +kernel
theorem dN_States_goOver_60 : decode cN_States_goOver 60 = .ok (.getfield 12, 3) := by decide +kernel
theorem dN_States_goOver_63 : decode cN_States_goOver 63 = .ok (.iload_n 1, 1) := by decide +kernel
theorem dN_States_goOver_64 : decode cN_States_goOver 64 = .ok (.invokevirtual 135, 3) := by decide +kernel
theorem dN_States_goOver_67 : decode cN_States_goOver 67 = .ok (.istore 6, 2) := by decide +kernel
theorem dN_States_goOver_69 : decode cN_States_goOver 69 = .ok (.iconst 0, 1) := by decide +kernel
theorem dN_States_goOver_70 : decode cN_States_goOver 70 = .ok (.istore 7, 2) := by decide +kernel
theorem dN_States_goOver_72 : decode cN_States_goOver 72 = .ok (.iload 7, 2) := by decide +kernel
theorem dN_States_goOver_74 : decode cN_States_goOver 74 = .ok (.iload 6, 2) := by decide +kernel
theorem dN_States_goOver_76 : decode cN_States_goOver 76 = .ok (.if_icmp .ge 38, 3) := by decide +kernel
theorem dN_States_goOver_79 : decode cN_States_goOver 79 = .ok (.aload_n 0, 1) := by decide +kernel
theorem dN_States_goOver_80 : decode cN_States_goOver 80 = .ok (.aload_n 0, 1) := by decide +kernel
theorem dN_States_goOver_81 : decode cN_States_goOver 81 = .ok (.getfield 12, 3) := by decide +kernel
theorem dN_States_goOver_84 : decode cN_States_goOver 84 = .ok (.iload_n 1, 1) := by decide +kernel
theorem dN_States_goOver_85 : decode cN_States_goOver 85 = .ok (.iload 7, 2) := by decide +kernel
theorem dN_States_goOver_87 : decode cN_States_goOver 87 = .ok (.invokevirtual 138, 3) := by decide +kernel
theorem dN_States_goOver_90 : decode cN_States_goOver 90 = .ok (.iload_n 2, 1) := by decide +kernel
theorem dN_States_goOver_91 : decode cN_States_goOver 91 = .ok (.iload_n 3, 1) := by decide +kernel
theorem dN_States_goOver_92 : decode cN_States_goOver 92 = .ok (.invokevirtual 141, 3) := by decide +kernel
theorem dN_States_goOver_95 : decode cN_States_goOver 95 = .ok (.ifCond .eq 13, 3) := by decide +kernel
theorem dN_States_goOver_98 : decode cN_States_goOver 98 = .ok (.iconst 1, 1) := by decide +kernel
theorem dN_States_goOver_99 : decode cN_States_goOver 99 = .ok (.istore 5, 2) := by decide +kernel
theorem dN_States_goOver_101 : decode cN_States_goOver 101 = .ok (.iload_n 3, 1) := by decide +kernel
theorem dN_States_goOver_102 : decode cN_States_goOver 102 = .ok (.iconst 2, 1) := by decide +kernel
theorem dN_States_goOver_103 : decode cN_States_goOver 103 = .ok (.if_icmp .eq 5, 3) := by decide +kernel
theorem dN_States_goOver_106 : decode cN_States_goOver 106 = .ok (.iconst 1, 1) := by decide +kernel
theorem dN_States_goOver_107 : decode cN_States_goOver 107 = .ok (.ireturn, 1) := by decide +kernel
theorem dN_States_goOver_108 : decode cN_States_goOver 108 = .ok (.iinc 7 1, 3) := by decide +kernel
theorem dN_States_goOver_111 : decode cN_States_goOver 111 = .ok (.goto (-39), 3) := by decide +kernel
theorem dN_States_goOver_114 : decode cN_States_goOver 114 = .ok (.iload_n 3, 1) := by decide +kernel
theorem dN_States_goOver_115 : decode cN_States_goOver 115 = .ok (.ifCond .ne 18, 3) := by decide +kernel
theorem dN_States_goOver_118 : decode cN_States_goOver 118 = .ok (.aload_n 0, 1) := by decide +kernel
theorem dN_States_goOver_119 : decode cN_States_goOver 119 = .ok (.aload_n 0, 1) := by decide +kernel
theorem dN_States_goOver_120 : decode cN_States_goOver 120 = .ok (.getfield 41, 3) := by decide +kernel
theorem dN_States_goOver_123 : decode cN_States_goOver 123 = .ok (.invokevirtual 91, 3) := by decide +kernel
theorem dN_States_goOver_126 : decode cN_States_goOver 126 = .ok (.iload_n 2, 1) := by decide +kernel
theorem dN_States_goOver_127 : decode cN_States_goOver 127 = .ok (.iload_n 3, 1) := by decide +kernel
theorem dN_States_goOver_128 : decode cN_States_goOver 128 = .ok (.invokevirtual 141, 3) := by decide +kernel
theorem dN_States_goOver_131 : decode cN_States_goOver 131 = .ok (.istore 5, 2) := by decide +kernel
theorem dN_States_goOver_133 : decode cN_States_goOver 133 = .ok (.iload 5, 2) := by decide +kernel
theorem dN_States_goOver_135 : decode cN_States_goOver 135 = .ok (.ireturn, 1) := by decide +kernel
theorem dN_States_follow_0 : decode cN_States_follow 0 = .ok (.iconst 0, 1) := by decide +kernel
theorem dN_States_follow_1 : decode cN_States_follow 1 = .ok (.istore 4, 2) := by decide +kernel
theorem dN_States_follow_3 : decode cN_States_follow 3 = .ok (.aload_n 0, 1) := by decide +kernel
theorem dN_States_follow_4 : decode cN_States_follow 4 = .ok (.getfield 33, 3) := by decide +kernel
theorem dN_States_follow_7 : decode cN_States_follow 7 = .ok (.invokevirtual 144, 3) := by decide +kernel
theorem dN_States_follow_10 : decode cN_States_follow 10 = .ok (.aload_n 0, 1) := by decide +kernel
theorem dN_States_follow_11 : decode cN_States_follow 11 = .ok (.getfield 33, 3) := by decide +kernel
theorem dN_States_follow_14 : decode cN_States_follow 14 = .ok (.iload_n 1, 1) := by decide +kernel
theorem dN_States_follow_15 : decode cN_States_follow 15 = .ok (.invokevirtual 147, 3) := by decide +kernel
theorem dN_States_follow_18 : decode cN_States_follow 18 = .ok (.iconst 0, 1) := by decide +kernel
theorem dN_States_follow_19 : decode cN_States_follow 19 = .ok (.istore 5, 2) := by decide +kernel
theorem dN_States_follow_21 : decode cN_States_follow 21 = .ok (.iload 5, 2) := by decide +kernel
theorem dN_States_follow_23 : decode cN_States_follow 23 = .ok (.ldc 148, 2) := by decide +kernel
theorem dN_States_follow_25 : decode cN_States_follow 25 = .ok (.if_icmp .ge 93, 3) := by decide +kernel
theorem dN_States_follow_28 : decode cN_States_follow 28 = .ok (.aload_n 0, 1) := by decide +kernel
theorem dN_States_follow_29 : decode cN_States_follow 29 = .ok (.getfield 33, 3) := by decide +kernel
theorem dN_States_follow_32 : decode cN_States_follow 32 = .ok (.invokevirtual 149, 3) := by decide +kernel
theorem dN_States_follow_35 : decode cN_States_follow 35 = .ok (.ifCond .ne 83, 3) := by decide +kernel
theorem dN_States_follow_38 : decode cN_States_follow 38 = .ok (.aload_n 0, 1) := by decide +kernel
theorem dN_States_follow_39 : decode cN_States_follow 39 = .ok (.getfield 33, 3) := by decide +kernel
theorem dN_States_follow_42 : decode cN_States_follow 42 = .ok (.invokevirtual 153, 3) := by decide +kernel
theorem dN_States_follow_45 : decode cN_States_follow 45 = .ok (.istore 6, 2) := by decide +kernel
theorem dN_States_follow_47 : decode cN_States_follow 47 = .ok (.aload_n 0, 1) := by decide +kernel
theorem dN_States_follow_48 : decode cN_States_follow 48 = .ok (.getfield 49, 3) := by decide +kernel
theorem dN_States_follow_51 : decode cN_States_follow 51 = .ok (.invokevirtual 106, 3) := by decide +kernel
theorem dN_States_follow_54 : decode cN_States_follow 54 = .ok (.aload_n 0, 1) := by decide +kernel
theorem dN_States_follow_55 : decode cN_States_follow 55 = .ok (.getfield 21, 3) := by decide +kernel
theorem dN_States_follow_58 : decode cN_States_follow 58 = .ok (.iload 6, 2) := by decide +kernel
theorem dN_States_follow_60 : decode cN_States_follow 60 = .ok (.invokevirtual 156, 3) := by decide +kernel
theorem dN_States_follow_63 : decode cN_States_follow 63 = .ok (.ifCond .ne 6, 3) := by decide +kernel
theorem dN_States_follow_66 : decode cN_States_follow 66 = .ok (.goto 46, 3) := by decide +kernel
theorem dN_States_follow_69 : decode cN_States_follow 69 = .ok (.iload 6, 2) := by decide +kernel
theorem dN_States_follow_71 : decode cN_States_follow 71 = .ok (.ifCond .ne 34, 3) := by decide +kernel
theorem dN_States_follow_74 : decode cN_States_follow 74 = .ok (.iload_n 3, 1) := by decide +kernel
theorem dN_States_follow_75 : decode cN_States_follow 75 = .ok (.iconst 3, 1) := by decide +kernel
theorem dN_States_follow_76 : decode cN_States_follow 76 = .ok (.if_icmp .ne 10, 3) := by decide +kernel
theorem dN_States_follow_79 : decode cN_States_follow 79 = .ok (.iload_n 2, 1) := by decide +kernel
theorem dN_States_follow_80 : decode cN_States_follow 80 = .ok (.sipush 256, 3) := by decide +kernel
theorem dN_States_follow_83 : decode cN_States_follow 83 = .ok (.if_icmp .ne 7, 3) := by decide +kernel
theorem dN_States_follow_86 : decode cN_States_follow 86 = .ok (.iconst 1, 1) := by decide +kernel
theorem dN_States_follow_87 : decode cN_States_follow 87 = .ok (.goto 4, 3) := by decide +kernel
theorem dN_States_follow_90 : decode cN_States_follow 90 = .ok (.iconst 0, 1) := by decide +kernel
theorem dN_States_follow_91 : decode cN_States_follow 91 = .ok (.istore 4, 2) := by decide +kernel
theorem dN_States_follow_93 : decode cN_States_follow 93 = .ok (.iload 4, 2) := by decide +kernel
theorem dN_States_follow_95 : decode cN_States_follow 95 = .ok (.ifCond .eq 17, 3) := by decide +kernel
theorem dN_States_follow_98 : decode cN_States_follow 98 = .ok (.iload_n 3, 1) := by decide +kernel
theorem dN_States_follow_99 : decode cN_States_follow 99 = .ok (.iconst 2, 1) := by decide +kernel
theorem dN_States_follow_100 : decode cN_States_follow 100 = .ok (.if_icmp .eq 12, 3) := by decide +kernel
theorem dN_States_follow_103 : decode cN_States_follow 103 = .ok (.iconst 1, 1) := by decide +kernel
theorem dN_States_follow_104 : decode cN_States_follow 104 = .ok (.ireturn, 1) := by decide +kernel
theorem dN_States_follow_105 : decode cN_States_follow 105 = .ok (.aload_n 0, 1) := by decide +kernel
theorem dN_States_follow_106 : decode cN_States_follow 106 = .ok (.iload 6, 2) := by decide +kernel
theorem dN_States_follow_108 : decode cN_States_follow 108 = .ok (.iload_n 2, 1) := by decide +kernel
theorem dN_States_follow_109 : decode cN_States_follow 109 = .ok (.invokevirtual 159, 3) := by decide +kernel
theorem dN_States_follow_112 : decode cN_States_follow 112 = .ok (.iinc 5 1, 3) := by decide +kernel
theorem dN_States_follow_115 : decode cN_States_follow 115 = .ok (.goto (-94), 3) := by decide +kernel
theorem dN_States_follow_118 : decode cN_States_follow 118 = .ok (.iload 4, 2) := by decide +kernel
theorem dN_States_follow_120 : decode cN_States_follow 120 = .ok (.ireturn, 1) := by decide +kernel
theorem dN_States_visit_0 : decode cN_States_visit 0 = .ok (.aload_n 0, 1) := by decide +kernel
theorem dN_States_visit_1 : decode cN_States_visit 1 = .ok (.getfield 41, 3) := by decide +kernel
theorem dN_States_visit_4 : decode cN_States_visit 4 = .ok (.iload_n 1, 1) := by decide +kernel
theorem dN_States_visit_5 : decode cN_States_visit 5 = .ok (.invokevirtual 163, 3) := by decide +kernel
theorem dN_States_visit_8 : decode cN_States_visit 8 = .ok (.tableswitch 167 1 4 #[32, 80, 113, 131], 32) := by decide +kernel
theorem dN_States_visit_40 : decode cN_States_visit 40 = .ok (.aload_n 0, 1) := by decide +kernel
theorem dN_States_visit_41 : decode cN_States_visit 41 = .ok (.getfield 41, 3) := by decide +kernel
theorem dN_States_visit_44 : decode cN_States_visit 44 = .ok (.iload_n 1, 1) := by decide +kernel
theorem dN_States_visit_45 : decode cN_States_visit 45 = .ok (.iload_n 2, 1) := by decide +kernel
theorem dN_States_visit_46 : decode cN_States_visit 46 = .ok (.invokevirtual 166, 3) := by decide +kernel
theorem dN_States_visit_49 : decode cN_States_visit 49 = .ok (.ifCond .eq 126, 3) := by decide +kernel
theorem dN_States_visit_52 : decode cN_States_visit 52 = .ok (.aload_n 0, 1) := by decide +kernel
theorem dN_States_visit_53 : decode cN_States_visit 53 = .ok (.getfield 25, 3) := by decide +kernel
theorem dN_States_visit_56 : decode cN_States_visit 56 = .ok (.aload_n 0, 1) := by decide +kernel
theorem dN_States_visit_57 : decode cN_States_visit 57 = .ok (.getfield 41, 3) := by decide +kernel
theorem dN_States_visit_60 : decode cN_States_visit 60 = .ok (.iload_n 1, 1) := by decide +kernel
theorem dN_States_visit_61 : decode cN_States_visit 61 = .ok (.invokevirtual 170, 3) := by decide +kernel
theorem dN_States_visit_64 : decode cN_States_visit 64 = .ok (.invokevirtual 156, 3) := by decide +kernel
theorem dN_States_visit_67 : decode cN_States_visit 67 = .ok (.ifCond .eq 108, 3) := by decide +kernel
theorem dN_States_visit_70 : decode cN_States_visit 70 = .ok (.aload_n 0, 1) := by decide +kernel
theorem dN_States_visit_71 : decode cN_States_visit 71 = .ok (.getfield 25, 3) := by decide +kernel
theorem dN_States_visit_74 : decode cN_States_visit 74 = .ok (.aload_n 0, 1) := by decide +kernel
theorem dN_States_visit_75 : decode cN_States_visit 75 = .ok (.getfield 41, 3) := by decide +kernel
theorem dN_States_visit_78 : decode cN_States_visit 78 = .ok (.iload_n 1, 1) := by decide +kernel
theorem dN_States_visit_79 : decode cN_States_visit 79 = .ok (.invokevirtual 170, 3) := by decide +kernel
theorem dN_States_visit_82 : decode cN_States_visit 82 = .ok (.invokevirtual 96, 3) := by decide +kernel
theorem dN_States_visit_85 : decode cN_States_visit 85 = .ok (.goto 90, 3) := by decide +kernel
theorem dN_States_visit_88 : decode cN_States_visit 88 = .ok (.aload_n 0, 1) := by decide +kernel
theorem dN_States_visit_89 : decode cN_States_visit 89 = .ok (.getfield 33, 3) := by decide +kernel
theorem dN_States_visit_92 : decode cN_States_visit 92 = .ok (.aload_n 0, 1) := by decide +kernel
theorem dN_States_visit_93 : decode cN_States_visit 93 = .ok (.getfield 41, 3) := by decide +kernel
theorem dN_States_visit_96 : decode cN_States_visit 96 = .ok (.iload_n 1, 1) := by decide +kernel
theorem dN_States_visit_97 : decode cN_States_visit 97 = .ok (.invokevirtual 173, 3) := by decide +kernel
theorem dN_States_visit_100 : decode cN_States_visit 100 = .ok (.invokevirtual 147, 3) := by decide +kernel
theorem dN_States_visit_103 : decode cN_States_visit 103 = .ok (.aload_n 0, 1) := by decide +kernel
theorem dN_States_visit_104 : decode cN_States_visit 104 = .ok (.getfield 33, 3) := by decide +kernel
theorem dN_States_visit_107 : decode cN_States_visit 107 = .ok (.aload_n 0, 1) := by decide +kernel
theorem dN_States_visit_108 : decode cN_States_visit 108 = .ok (.getfield 41, 3) := by decide +kernel
theorem dN_States_visit_111 : decode cN_States_visit 111 = .ok (.iload_n 1, 1) := by decide +kernel
theorem dN_States_visit_112 : decode cN_States_visit 112 = .ok (.invokevirtual 170, 3) := by decide +kernel
theorem dN_States_visit_115 : decode cN_States_visit 115 = .ok (.invokevirtual 147, 3) := by decide +kernel
theorem dN_States_visit_118 : decode cN_States_visit 118 = .ok (.goto 57, 3) := by decide +kernel
theorem dN_States_visit_121 : decode cN_States_visit 121 = .ok (.aload_n 0, 1) := by decide +kernel
theorem dN_States_visit_122 : decode cN_States_visit 122 = .ok (.getfield 33, 3) := by decide +kernel
theorem dN_States_visit_125 : decode cN_States_visit 125 = .ok (.aload_n 0, 1) := by decide +kernel
theorem dN_States_visit_126 : decode cN_States_visit 126 = .ok (.getfield 41, 3) := by decide +kernel
theorem dN_States_visit_129 : decode cN_States_visit 129 = .ok (.iload_n 1, 1) := by decide +kernel
theorem dN_States_visit_130 : decode cN_States_visit 130 = .ok (.invokevirtual 170, 3) := by decide +kernel
theorem dN_States_visit_133 : decode cN_States_visit 133 = .ok (.invokevirtual 147, 3) := by decide +kernel
theorem dN_States_visit_136 : decode cN_States_visit 136 = .ok (.goto 39, 3) := by decide +kernel
theorem dN_States_visit_139 : decode cN_States_visit 139 = .ok (.aload_n 0, 1) := by decide +kernel
theorem dN_States_visit_140 : decode cN_States_visit 140 = .ok (.getfield 37, 3) := by decide +kernel
theorem dN_States_visit_143 : decode cN_States_visit 143 = .ok (.aload_n 0, 1) := by decide +kernel
theorem dN_States_visit_144 : decode cN_States_visit 144 = .ok (.getfield 41, 3) := by decide +kernel
theorem dN_States_visit_147 : decode cN_States_visit 147 = .ok (.iload_n 1, 1) := by decide +kernel
theorem dN_States_visit_148 : decode cN_States_visit 148 = .ok (.invokevirtual 176, 3) := by decide +kernel
theorem dN_States_visit_151 : decode cN_States_visit 151 = .ok (.ishr, 1) := by decide +kernel
theorem dN_States_visit_152 : decode cN_States_visit 152 = .ok (.iconst 1, 1) := by decide +kernel
theorem dN_States_visit_153 : decode cN_States_visit 153 = .ok (.iand, 1) := by decide +kernel
theorem dN_States_visit_154 : decode cN_States_visit 154 = .ok (.ifCond .eq 21, 3) := by decide +kernel
theorem dN_States_visit_157 : decode cN_States_visit 157 = .ok (.aload_n 0, 1) := by decide +kernel
theorem dN_States_visit_158 : decode cN_States_visit 158 = .ok (.getfield 33, 3) := by decide +kernel
theorem dN_States_visit_161 : decode cN_States_visit 161 = .ok (.aload_n 0, 1) := by decide +kernel
theorem dN_States_visit_162 : decode cN_States_visit 162 = .ok (.getfield 41, 3) := by decide +kernel
theorem dN_States_visit_165 : decode cN_States_visit 165 = .ok (.iload_n 1, 1) := by decide +kernel
theorem dN_States_visit_166 : decode cN_States_visit 166 = .ok (.invokevirtual 170, 3) := by decide +kernel
theorem dN_States_visit_169 : decode cN_States_visit 169 = .ok (.invokevirtual 147, 3) := by decide +kernel
theorem dN_States_visit_172 : decode cN_States_visit 172 = .ok (.goto 3, 3) := by decide +kernel
theorem dN_States_visit_175 : decode cN_States_visit 175 = .ok (.return_, 1) := by decide +kernel
theorem dN_States_allow_0 : decode cN_States_allow 0 = .ok (.aload_n 0, 1) := by decide +kernel
theorem dN_States_allow_1 : decode cN_States_allow 1 = .ok (.getfield 12, 3) := by decide +kernel
theorem dN_States_allow_4 : decode cN_States_allow 4 = .ok (.iload_n 1, 1) := by decide +kernel
theorem dN_States_allow_5 : decode cN_States_allow 5 = .ok (.invokevirtual 53, 3) := by decide +kernel
theorem dN_States_allow_8 : decode cN_States_allow 8 = .ok (.return_, 1) := by decide +kernel
