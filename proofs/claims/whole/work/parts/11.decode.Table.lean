theorem dN_Table_init_0 : decode cN_Table_init 0 = .ok (.aload_n 0, 1) := by decide +kernel
theorem dN_Table_init_1 : decode cN_Table_init 1 = .ok (.invokespecial 5, 3) := by decide +kernel
theorem dN_Table_init_4 : decode cN_Table_init 4 = .ok (.aload_n 0, 1) := by decide +kernel
theorem dN_Table_init_5 : decode cN_Table_init 5 = .ok (.bipush 20, 2) := by decide +kernel
theorem dN_Table_init_7 : decode cN_Table_init 7 = .ok (.newarray .int, 2) := by decide +kernel
theorem dN_Table_init_9 : decode cN_Table_init 9 = .ok (.putfield 11, 3) := by decide +kernel
theorem dN_Table_init_12 : decode cN_Table_init 12 = .ok (.aload_n 0, 1) := by decide +kernel
theorem dN_Table_init_13 : decode cN_Table_init 13 = .ok (.sipush 16384, 3) := by decide +kernel
theorem dN_Table_init_16 : decode cN_Table_init 16 = .ok (.newarray .int, 2) := by decide +kernel
theorem dN_Table_init_18 : decode cN_Table_init 18 = .ok (.putfield 15, 3) := by decide +kernel
theorem dN_Table_init_21 : decode cN_Table_init 21 = .ok (.aload_n 0, 1) := by decide +kernel
theorem dN_Table_init_22 : decode cN_Table_init 22 = .ok (.bipush 64, 2) := by decide +kernel
theorem dN_Table_init_24 : decode cN_Table_init 24 = .ok (.newarray .int, 2) := by decide +kernel
theorem dN_Table_init_26 : decode cN_Table_init 26 = .ok (.putfield 18, 3) := by decide +kernel
theorem dN_Table_init_29 : decode cN_Table_init 29 = .ok (.aload_n 0, 1) := by decide +kernel
theorem dN_Table_init_30 : decode cN_Table_init 30 = .ok (.bipush 64, 2) := by decide +kernel
theorem dN_Table_init_32 : decode cN_Table_init 32 = .ok (.newarray .int, 2) := by decide +kernel
theorem dN_Table_init_34 : decode cN_Table_init 34 = .ok (.putfield 21, 3) := by decide +kernel
theorem dN_Table_init_37 : decode cN_Table_init 37 = .ok (.aload_n 0, 1) := by decide +kernel
theorem dN_Table_init_38 : decode cN_Table_init 38 = .ok (.sipush 200, 3) := by decide +kernel
theorem dN_Table_init_41 : decode cN_Table_init 41 = .ok (.newarray .int, 2) := by decide +kernel
theorem dN_Table_init_43 : decode cN_Table_init 43 = .ok (.putfield 24, 3) := by decide +kernel
theorem dN_Table_init_46 : decode cN_Table_init 46 = .ok (.aload_n 0, 1) := by decide +kernel
theorem dN_Table_init_47 : decode cN_Table_init 47 = .ok (.sipush 200, 3) := by decide +kernel
theorem dN_Table_init_50 : decode cN_Table_init 50 = .ok (.newarray .int, 2) := by decide +kernel
theorem dN_Table_init_52 : decode cN_Table_init 52 = .ok (.putfield 27, 3) := by decide +kernel
theorem dN_Table_init_55 : decode cN_Table_init 55 = .ok (.aload_n 0, 1) := by decide +kernel
theorem dN_Table_init_56 : decode cN_Table_init 56 = .ok (.new 30, 3) := by decide +kernel
theorem dN_Table_init_59 : decode cN_Table_init 59 = .ok (.dup, 1) := by decide +kernel
theorem dN_Table_init_60 : decode cN_Table_init 60 = .ok (.invokespecial 32, 3) := by decide +kernel
theorem dN_Table_init_63 : decode cN_Table_init 63 = .ok (.putfield 33, 3) := by decide +kernel
theorem dN_Table_init_66 : decode cN_Table_init 66 = .ok (.aload_n 0, 1) := by decide +kernel
theorem dN_Table_init_67 : decode cN_Table_init 67 = .ok (.new 37, 3) := by decide +kernel
theorem dN_Table_init_70 : decode cN_Table_init 70 = .ok (.dup, 1) := by decide +kernel
theorem dN_Table_init_71 : decode cN_Table_init 71 = .ok (.sipush 402, 3) := by decide +kernel
theorem dN_Table_init_74 : decode cN_Table_init 74 = .ok (.invokespecial 39, 3) := by decide +kernel
theorem dN_Table_init_77 : decode cN_Table_init 77 = .ok (.putfield 42, 3) := by decide +kernel
theorem dN_Table_init_80 : decode cN_Table_init 80 = .ok (.aload_n 0, 1) := by decide +kernel
theorem dN_Table_init_81 : decode cN_Table_init 81 = .ok (.iconst 0, 1) := by decide +kernel
theorem dN_Table_init_82 : decode cN_Table_init 82 = .ok (.putfield 46, 3) := by decide +kernel
theorem dN_Table_init_85 : decode cN_Table_init 85 = .ok (.aload_n 0, 1) := by decide +kernel
theorem dN_Table_init_86 : decode cN_Table_init 86 = .ok (.iconst 0, 1) := by decide +kernel
theorem dN_Table_init_87 : decode cN_Table_init 87 = .ok (.putfield 50, 3) := by decide +kernel
theorem dN_Table_init_90 : decode cN_Table_init 90 = .ok (.aload_n 0, 1) := by decide +kernel
theorem dN_Table_init_91 : decode cN_Table_init 91 = .ok (.iconst 0, 1) := by decide +kernel
theorem dN_Table_init_92 : decode cN_Table_init 92 = .ok (.putfield 54, 3) := by decide +kernel
theorem dN_Table_init_95 : decode cN_Table_init 95 = .ok (.aload_n 0, 1) := by decide +kernel
theorem dN_Table_init_96 : decode cN_Table_init 96 = .ok (.aload_n 1, 1) := by decide +kernel
theorem dN_Table_init_97 : decode cN_Table_init 97 = .ok (.putfield 57, 3) := by decide +kernel
theorem dN_Table_init_100 : decode cN_Table_init 100 = .ok (.aload_n 0, 1) := by decide +kernel
theorem dN_Table_init_101 : decode cN_Table_init 101 = .ok (.aload_n 2, 1) := by decide +kernel
theorem dN_Table_init_102 : decode cN_Table_init 102 = .ok (.putfield 61, 3) := by decide +kernel
theorem dN_Table_init_105 : decode cN_Table_init 105 = .ok (.aload_n 0, 1) := by decide +kernel
theorem dN_Table_init_106 : decode cN_Table_init 106 = .ok (.aload_n 3, 1) := by decide +kernel
theorem dN_Table_init_107 : decode cN_Table_init 107 = .ok (.putfield 65, 3) := by decide +kernel
theorem dN_Table_init_110 : decode cN_Table_init 110 = .ok (.aload_n 0, 1) := by decide +kernel
theorem dN_Table_init_111 : decode cN_Table_init 111 = .ok (.aload 4, 2) := by decide +kernel
theorem dN_Table_init_113 : decode cN_Table_init 113 = .ok (.putfield 69, 3) := by decide +kernel
theorem dN_Table_init_116 : decode cN_Table_init 116 = .ok (.return_, 1) := by decide +kernel
theorem dN_Table_isSingleMinded_0 : decode cN_Table_isSingleMinded 0 = .ok (.aload_n 0, 1) := by decide +kernel
theorem dN_Table_isSingleMinded_1 : decode cN_Table_isSingleMinded 1 = .ok (.getfield 50, 3) := by decide +kernel
theorem dN_Table_isSingleMinded_4 : decode cN_Table_isSingleMinded 4 = .ok (.ifCond .ne 12, 3) := by decide +kernel
theorem dN_Table_isSingleMinded_7 : decode cN_Table_isSingleMinded 7 = .ok (.aload_n 0, 1) := by decide +kernel
theorem dN_Table_isSingleMinded_8 : decode cN_Table_isSingleMinded 8 = .ok (.invokevirtual 72, 3) := by decide +kernel
theorem dN_Table_isSingleMinded_11 : decode cN_Table_isSingleMinded 11 = .ok (.aload_n 0, 1) := by decide +kernel
theorem dN_Table_isSingleMinded_12 : decode cN_Table_isSingleMinded 12 = .ok (.iconst 1, 1) := by decide +kernel
theorem dN_Table_isSingleMinded_13 : decode cN_Table_isSingleMinded 13 = .ok (.putfield 50, 3) := by decide +kernel
theorem dN_Table_isSingleMinded_16 : decode cN_Table_isSingleMinded 16 = .ok (.aload_n 0, 1) := by decide +kernel
theorem dN_Table_isSingleMinded_17 : decode cN_Table_isSingleMinded 17 = .ok (.getfield 54, 3) := by decide +kernel
theorem dN_Table_isSingleMinded_20 : decode cN_Table_isSingleMinded 20 = .ok (.ireturn, 1) := by decide +kernel
theorem dN_Table_make_0 : decode cN_Table_make 0 = .ok (.aload_n 0, 1) := by decide +kernel
theorem dN_Table_make_1 : decode cN_Table_make 1 = .ok (.getfield 24, 3) := by decide +kernel
theorem dN_Table_make_4 : decode cN_Table_make 4 = .ok (.iconst (-1), 1) := by decide +kernel
theorem dN_Table_make_5 : decode cN_Table_make 5 = .ok (.invokestatic 75, 3) := by decide +kernel
theorem dN_Table_make_8 : decode cN_Table_make 8 = .ok (.aload_n 0, 1) := by decide +kernel
theorem dN_Table_make_9 : decode cN_Table_make 9 = .ok (.iconst 0, 1) := by decide +kernel
theorem dN_Table_make_10 : decode cN_Table_make 10 = .ok (.putfield 46, 3) := by decide +kernel
theorem dN_Table_make_13 : decode cN_Table_make 13 = .ok (.aload_n 0, 1) := by decide +kernel
theorem dN_Table_make_14 : decode cN_Table_make 14 = .ok (.aload_n 0, 1) := by decide +kernel
theorem dN_Table_make_15 : decode cN_Table_make 15 = .ok (.getfield 57, 3) := by decide +kernel
theorem dN_Table_make_18 : decode cN_Table_make 18 = .ok (.invokevirtual 81, 3) := by decide +kernel
theorem dN_Table_make_21 : decode cN_Table_make 21 = .ok (.invokevirtual 87, 3) := by decide +kernel
theorem dN_Table_make_24 : decode cN_Table_make 24 = .ok (.pop, 1) := by decide +kernel
theorem dN_Table_make_25 : decode cN_Table_make 25 = .ok (.aload_n 0, 1) := by decide +kernel
theorem dN_Table_make_26 : decode cN_Table_make 26 = .ok (.iconst 1, 1) := by decide +kernel
theorem dN_Table_make_27 : decode cN_Table_make 27 = .ok (.putfield 54, 3) := by decide +kernel
theorem dN_Table_make_30 : decode cN_Table_make 30 = .ok (.iconst 0, 1) := by decide +kernel
theorem dN_Table_make_31 : decode cN_Table_make 31 = .ok (.istore_n 1, 1) := by decide +kernel
theorem dN_Table_make_32 : decode cN_Table_make 32 = .ok (.iload_n 1, 1) := by decide +kernel
theorem dN_Table_make_33 : decode cN_Table_make 33 = .ok (.bipush 64, 2) := by decide +kernel
theorem dN_Table_make_35 : decode cN_Table_make 35 = .ok (.if_icmp .ge 33, 3) := by decide +kernel
theorem dN_Table_make_38 : decode cN_Table_make 38 = .ok (.iload_n 1, 1) := by decide +kernel
theorem dN_Table_make_39 : decode cN_Table_make 39 = .ok (.aload_n 0, 1) := by decide +kernel
theorem dN_Table_make_40 : decode cN_Table_make 40 = .ok (.getfield 46, 3) := by decide +kernel
theorem dN_Table_make_43 : decode cN_Table_make 43 = .ok (.if_icmp .ge 25, 3) := by decide +kernel
theorem dN_Table_make_46 : decode cN_Table_make 46 = .ok (.aload_n 0, 1) := by decide +kernel
theorem dN_Table_make_47 : decode cN_Table_make 47 = .ok (.getfield 54, 3) := by decide +kernel
theorem dN_Table_make_50 : decode cN_Table_make 50 = .ok (.ifCond .eq 18, 3) := by decide +kernel
theorem dN_Table_make_53 : decode cN_Table_make 53 = .ok (.aload_n 0, 1) := by decide +kernel
theorem dN_Table_make_54 : decode cN_Table_make 54 = .ok (.aload_n 0, 1) := by decide +kernel
theorem dN_Table_make_55 : decode cN_Table_make 55 = .ok (.iload_n 1, 1) := by decide +kernel
theorem dN_Table_make_56 : decode cN_Table_make 56 = .ok (.invokevirtual 91, 3) := by decide +kernel
theorem dN_Table_make_59 : decode cN_Table_make 59 = .ok (.putfield 54, 3) := by decide +kernel
theorem dN_Table_make_62 : decode cN_Table_make 62 = .ok (.iinc 1 1, 3) := by decide +kernel
theorem dN_Table_make_65 : decode cN_Table_make 65 = .ok (.goto (-33), 3) := by decide +kernel
theorem dN_Table_make_68 : decode cN_Table_make 68 = .ok (.return_, 1) := by decide +kernel
theorem dN_Table_rowFor_0 : decode cN_Table_rowFor 0 = .ok (.aload_n 0, 1) := by decide +kernel
theorem dN_Table_rowFor_1 : decode cN_Table_rowFor 1 = .ok (.getfield 57, 3) := by decide +kernel
theorem dN_Table_rowFor_4 : decode cN_Table_rowFor 4 = .ok (.iload_n 1, 1) := by decide +kernel
theorem dN_Table_rowFor_5 : decode cN_Table_rowFor 5 = .ok (.invokevirtual 95, 3) := by decide +kernel
theorem dN_Table_rowFor_8 : decode cN_Table_rowFor 8 = .ok (.ifCond .ne 5, 3) := by decide +kernel
theorem dN_Table_rowFor_11 : decode cN_Table_rowFor 11 = .ok (.iconst (-1), 1) := by decide +kernel
theorem dN_Table_rowFor_12 : decode cN_Table_rowFor 12 = .ok (.ireturn, 1) := by decide +kernel
theorem dN_Table_rowFor_13 : decode cN_Table_rowFor 13 = .ok (.aload_n 0, 1) := by decide +kernel
theorem dN_Table_rowFor_14 : decode cN_Table_rowFor 14 = .ok (.getfield 24, 3) := by decide +kernel
theorem dN_Table_rowFor_17 : decode cN_Table_rowFor 17 = .ok (.iload_n 1, 1) := by decide +kernel
theorem dN_Table_rowFor_18 : decode cN_Table_rowFor 18 = .ok (.iaload, 1) := by decide +kernel
theorem dN_Table_rowFor_19 : decode cN_Table_rowFor 19 = .ok (.iconst (-1), 1) := by decide +kernel
theorem dN_Table_rowFor_20 : decode cN_Table_rowFor 20 = .ok (.if_icmp .ne 42, 3) := by decide +kernel
theorem dN_Table_rowFor_23 : decode cN_Table_rowFor 23 = .ok (.aload_n 0, 1) := by decide +kernel
theorem dN_Table_rowFor_24 : decode cN_Table_rowFor 24 = .ok (.getfield 46, 3) := by decide +kernel
theorem dN_Table_rowFor_27 : decode cN_Table_rowFor 27 = .ok (.bipush 64, 2) := by decide +kernel
theorem dN_Table_rowFor_29 : decode cN_Table_rowFor 29 = .ok (.if_icmp .ge 33, 3) := by decide +kernel
theorem dN_Table_rowFor_32 : decode cN_Table_rowFor 32 = .ok (.aload_n 0, 1) := by decide +kernel
theorem dN_Table_rowFor_33 : decode cN_Table_rowFor 33 = .ok (.getfield 24, 3) := by decide +kernel
theorem dN_Table_rowFor_36 : decode cN_Table_rowFor 36 = .ok (.iload_n 1, 1) := by decide +kernel
theorem dN_Table_rowFor_37 : decode cN_Table_rowFor 37 = .ok (.aload_n 0, 1) := by decide +kernel
theorem dN_Table_rowFor_38 : decode cN_Table_rowFor 38 = .ok (.getfield 46, 3) := by decide +kernel
theorem dN_Table_rowFor_41 : decode cN_Table_rowFor 41 = .ok (.iastore, 1) := by decide +kernel
theorem dN_Table_rowFor_42 : decode cN_Table_rowFor 42 = .ok (.aload_n 0, 1) := by decide +kernel
theorem dN_Table_rowFor_43 : decode cN_Table_rowFor 43 = .ok (.getfield 21, 3) := by decide +kernel
theorem dN_Table_rowFor_46 : decode cN_Table_rowFor 46 = .ok (.aload_n 0, 1) := by decide +kernel
theorem dN_Table_rowFor_47 : decode cN_Table_rowFor 47 = .ok (.getfield 46, 3) := by decide +kernel
theorem dN_Table_rowFor_50 : decode cN_Table_rowFor 50 = .ok (.iload_n 1, 1) := by decide +kernel
theorem dN_Table_rowFor_51 : decode cN_Table_rowFor 51 = .ok (.iastore, 1) := by decide +kernel
theorem dN_Table_rowFor_52 : decode cN_Table_rowFor 52 = .ok (.aload_n 0, 1) := by decide +kernel
theorem dN_Table_rowFor_53 : decode cN_Table_rowFor 53 = .ok (.dup, 1) := by decide +kernel
theorem dN_Table_rowFor_54 : decode cN_Table_rowFor 54 = .ok (.getfield 46, 3) := by decide +kernel
theorem dN_Table_rowFor_57 : decode cN_Table_rowFor 57 = .ok (.iconst 1, 1) := by decide +kernel
theorem dN_Table_rowFor_58 : decode cN_Table_rowFor 58 = .ok (.iadd, 1) := by decide +kernel
theorem dN_Table_rowFor_59 : decode cN_Table_rowFor 59 = .ok (.putfield 46, 3) := by decide +kernel
theorem dN_Table_rowFor_62 : decode cN_Table_rowFor 62 = .ok (.aload_n 0, 1) := by decide +kernel
theorem dN_Table_rowFor_63 : decode cN_Table_rowFor 63 = .ok (.getfield 24, 3) := by decide +kernel
theorem dN_Table_rowFor_66 : decode cN_Table_rowFor 66 = .ok (.iload_n 1, 1) := by decide +kernel
theorem dN_Table_rowFor_67 : decode cN_Table_rowFor 67 = .ok (.iaload, 1) := by decide +kernel
theorem dN_Table_rowFor_68 : decode cN_Table_rowFor 68 = .ok (.ireturn, 1) := by decide +kernel
theorem dN_Table_makeRow_0 : decode cN_Table_makeRow 0 = .ok (.iconst 0, 1) := by decide +kernel
theorem dN_Table_makeRow_1 : decode cN_Table_makeRow 1 = .ok (.istore_n 2, 1) := by decide +kernel
theorem dN_Table_makeRow_2 : decode cN_Table_makeRow 2 = .ok (.iload_n 2, 1) := by decide +kernel
theorem dN_Table_makeRow_3 : decode cN_Table_makeRow 3 = .ok (.sipush 256, 3) := by decide +kernel
theorem dN_Table_makeRow_6 : decode cN_Table_makeRow 6 = .ok (.if_icmp .ge 22, 3) := by decide +kernel
theorem dN_Table_makeRow_9 : decode cN_Table_makeRow 9 = .ok (.aload_n 0, 1) := by decide +kernel
theorem dN_Table_makeRow_10 : decode cN_Table_makeRow 10 = .ok (.getfield 15, 3) := by decide +kernel
theorem dN_Table_makeRow_13 : decode cN_Table_makeRow 13 = .ok (.iload_n 1, 1) := by decide +kernel
theorem dN_Table_makeRow_14 : decode cN_Table_makeRow 14 = .ok (.sipush 256, 3) := by decide +kernel
theorem dN_Table_makeRow_17 : decode cN_Table_makeRow 17 = .ok (.imul, 1) := by decide +kernel
theorem dN_Table_makeRow_18 : decode cN_Table_makeRow 18 = .ok (.iload_n 2, 1) := by decide +kernel
theorem dN_Table_makeRow_19 : decode cN_Table_makeRow 19 = .ok (.iadd, 1) := by decide +kernel
theorem dN_Table_makeRow_20 : decode cN_Table_makeRow 20 = .ok (.iconst (-1), 1) := by decide +kernel
theorem dN_Table_makeRow_21 : decode cN_Table_makeRow 21 = .ok (.iastore, 1) := by decide +kernel
theorem dN_Table_makeRow_22 : decode cN_Table_makeRow 22 = .ok (.iinc 2 1, 3) := by decide +kernel
theorem dN_Table_makeRow_25 : decode cN_Table_makeRow 25 = .ok (.goto (-23), 3) := by decide +kernel
theorem dN_Table_makeRow_28 : decode cN_Table_makeRow 28 = .ok (.aload_n 0, 1) := by decide +kernel
theorem dN_Table_makeRow_29 : decode cN_Table_makeRow 29 = .ok (.getfield 18, 3) := by decide +kernel
theorem dN_Table_makeRow_32 : decode cN_Table_makeRow 32 = .ok (.iload_n 1, 1) := by decide +kernel
theorem dN_Table_makeRow_33 : decode cN_Table_makeRow 33 = .ok (.iconst (-1), 1) := by decide +kernel
theorem dN_Table_makeRow_34 : decode cN_Table_makeRow 34 = .ok (.iastore, 1) := by decide +kernel
theorem dN_Table_makeRow_35 : decode cN_Table_makeRow 35 = .ok (.aload_n 0, 1) := by decide +kernel
theorem dN_Table_makeRow_36 : decode cN_Table_makeRow 36 = .ok (.getfield 33, 3) := by decide +kernel
theorem dN_Table_makeRow_39 : decode cN_Table_makeRow 39 = .ok (.invokevirtual 98, 3) := by decide +kernel
theorem dN_Table_makeRow_42 : decode cN_Table_makeRow 42 = .ok (.aload_n 0, 1) := by decide +kernel
theorem dN_Table_makeRow_43 : decode cN_Table_makeRow 43 = .ok (.getfield 42, 3) := by decide +kernel
theorem dN_Table_makeRow_46 : decode cN_Table_makeRow 46 = .ok (.invokevirtual 101, 3) := by decide +kernel
theorem dN_Table_makeRow_49 : decode cN_Table_makeRow 49 = .ok (.aload_n 0, 1) := by decide +kernel
theorem dN_Table_makeRow_50 : decode cN_Table_makeRow 50 = .ok (.aload_n 0, 1) := by decide +kernel
theorem dN_Table_makeRow_51 : decode cN_Table_makeRow 51 = .ok (.getfield 21, 3) := by decide +kernel
theorem dN_Table_makeRow_54 : decode cN_Table_makeRow 54 = .ok (.iload_n 1, 1) := by decide +kernel
theorem dN_Table_makeRow_55 : decode cN_Table_makeRow 55 = .ok (.iaload, 1) := by decide +kernel
theorem dN_Table_makeRow_56 : decode cN_Table_makeRow 56 = .ok (.iconst 0, 1) := by decide +kernel
theorem dN_Table_makeRow_57 : decode cN_Table_makeRow 57 = .ok (.invokevirtual 104, 3) := by decide +kernel
theorem dN_Table_makeRow_60 : decode cN_Table_makeRow 60 = .ok (.iconst 1, 1) := by decide +kernel
theorem dN_Table_makeRow_61 : decode cN_Table_makeRow 61 = .ok (.istore_n 2, 1) := by decide +kernel
theorem dN_Table_makeRow_62 : decode cN_Table_makeRow 62 = .ok (.iconst 0, 1) := by decide +kernel
theorem dN_Table_makeRow_63 : decode cN_Table_makeRow 63 = .ok (.istore_n 3, 1) := by decide +kernel
theorem dN_Table_makeRow_64 : decode cN_Table_makeRow 64 = .ok (.iload_n 3, 1) := by decide +kernel
theorem dN_Table_makeRow_65 : decode cN_Table_makeRow 65 = .ok (.ldc 108, 2) := by decide +kernel
theorem dN_Table_makeRow_67 : decode cN_Table_makeRow 67 = .ok (.if_icmp .ge 74, 3) := by decide +kernel
theorem dN_Table_makeRow_70 : decode cN_Table_makeRow 70 = .ok (.iload_n 2, 1) := by decide +kernel
theorem dN_Table_makeRow_71 : decode cN_Table_makeRow 71 = .ok (.ifCond .eq 70, 3) := by decide +kernel
theorem dN_Table_makeRow_74 : decode cN_Table_makeRow 74 = .ok (.aload_n 0, 1) := by decide +kernel
theorem dN_Table_makeRow_75 : decode cN_Table_makeRow 75 = .ok (.getfield 42, 3) := by decide +kernel
theorem dN_Table_makeRow_78 : decode cN_Table_makeRow 78 = .ok (.invokevirtual 109, 3) := by decide +kernel
theorem dN_Table_makeRow_81 : decode cN_Table_makeRow 81 = .ok (.ifCond .ne 60, 3) := by decide +kernel
theorem dN_Table_makeRow_84 : decode cN_Table_makeRow 84 = .ok (.aload_n 0, 1) := by decide +kernel
theorem dN_Table_makeRow_85 : decode cN_Table_makeRow 85 = .ok (.getfield 42, 3) := by decide +kernel
theorem dN_Table_makeRow_88 : decode cN_Table_makeRow 88 = .ok (.invokevirtual 113, 3) := by decide +kernel
theorem dN_Table_makeRow_91 : decode cN_Table_makeRow 91 = .ok (.istore 4, 2) := by decide +kernel
theorem dN_Table_makeRow_93 : decode cN_Table_makeRow 93 = .ok (.aload_n 0, 1) := by decide +kernel
theorem dN_Table_makeRow_94 : decode cN_Table_makeRow 94 = .ok (.getfield 65, 3) := by decide +kernel
theorem dN_Table_makeRow_97 : decode cN_Table_makeRow 97 = .ok (.invokevirtual 116, 3) := by decide +kernel
theorem dN_Table_makeRow_100 : decode cN_Table_makeRow 100 = .ok (.aload_n 0, 1) := by decide +kernel
theorem dN_Table_makeRow_101 : decode cN_Table_makeRow 101 = .ok (.getfield 33, 3) := by decide +kernel
theorem dN_Table_makeRow_104 : decode cN_Table_makeRow 104 = .ok (.iload 4, 2) := by decide +kernel
theorem dN_Table_makeRow_106 : decode cN_Table_makeRow 106 = .ok (.invokevirtual 121, 3) := by decide +kernel
theorem dN_Table_makeRow_109 : decode cN_Table_makeRow 109 = .ok (.ifCond .eq 24, 3) := by decide +kernel
theorem dN_Table_makeRow_112 : decode cN_Table_makeRow 112 = .ok (.aload_n 0, 1) := by decide +kernel
theorem dN_Table_makeRow_113 : decode cN_Table_makeRow 113 = .ok (.iload_n 1, 1) := by decide +kernel
theorem dN_Table_makeRow_114 : decode cN_Table_makeRow 114 = .ok (.iload 4, 2) := by decide +kernel
theorem dN_Table_makeRow_116 : decode cN_Table_makeRow 116 = .ok (.aload_n 0, 1) := by decide +kernel
theorem dN_Table_makeRow_117 : decode cN_Table_makeRow 117 = .ok (.getfield 27, 3) := by decide +kernel
theorem dN_Table_makeRow_120 : decode cN_Table_makeRow 120 = .ok (.iload 4, 2) := by decide +kernel
theorem dN_Table_makeRow_122 : decode cN_Table_makeRow 122 = .ok (.iaload, 1) := by decide +kernel
theorem dN_Table_makeRow_123 : decode cN_Table_makeRow 123 = .ok (.invokevirtual 124, 3) := by decide +kernel
theorem dN_Table_makeRow_126 : decode cN_Table_makeRow 126 = .ok (.ifCond .eq 7, 3) := by decide +kernel
theorem dN_Table_makeRow_129 : decode cN_Table_makeRow 129 = .ok (.iconst 1, 1) := by decide +kernel
theorem dN_Table_makeRow_130 : decode cN_Table_makeRow 130 = .ok (.goto 4, 3) := by decide +kernel
theorem dN_Table_makeRow_133 : decode cN_Table_makeRow 133 = .ok (.iconst 0, 1) := by decide +kernel
theorem dN_Table_makeRow_134 : decode cN_Table_makeRow 134 = .ok (.istore_n 2, 1) := by decide +kernel
theorem dN_Table_makeRow_135 : decode cN_Table_makeRow 135 = .ok (.iinc 3 1, 3) := by decide +kernel
theorem dN_Table_makeRow_138 : decode cN_Table_makeRow 138 = .ok (.goto (-74), 3) := by decide +kernel
theorem dN_Table_makeRow_141 : decode cN_Table_makeRow 141 = .ok (.iload_n 2, 1) := by decide +kernel
theorem dN_Table_makeRow_142 : decode cN_Table_makeRow 142 = .ok (.ireturn, 1) := by decide +kernel
theorem dN_Table_later_0 : decode cN_Table_later 0 = .ok (.aload_n 0, 1) := by decide +kernel
theorem dN_Table_later_1 : decode cN_Table_later 1 = .ok (.getfield 57, 3) := by decide +kernel
theorem dN_Table_later_4 : decode cN_Table_later 4 = .ok (.iload_n 1, 1) := by decide +kernel
theorem dN_Table_later_5 : decode cN_Table_later 5 = .ok (.invokevirtual 95, 3) := by decide +kernel
theorem dN_Table_later_8 : decode cN_Table_later 8 = .ok (.ifCond .eq 18, 3) := by decide +kernel
theorem dN_Table_later_11 : decode cN_Table_later 11 = .ok (.aload_n 0, 1) := by decide +kernel
theorem dN_Table_later_12 : decode cN_Table_later 12 = .ok (.getfield 27, 3) := by decide +kernel
theorem dN_Table_later_15 : decode cN_Table_later 15 = .ok (.iload_n 1, 1) := by decide +kernel
theorem dN_Table_later_16 : decode cN_Table_later 16 = .ok (.iload_n 2, 1) := by decide +kernel
theorem dN_Table_later_17 : decode cN_Table_later 17 = .ok (.iastore, 1) := by decide +kernel
theorem dN_Table_later_18 : decode cN_Table_later 18 = .ok (.aload_n 0, 1) := by decide +kernel
theorem dN_Table_later_19 : decode cN_Table_later 19 = .ok (.getfield 42, 3) := by decide +kernel
theorem dN_Table_later_22 : decode cN_Table_later 22 = .ok (.iload_n 1, 1) := by decide +kernel
theorem dN_Table_later_23 : decode cN_Table_later 23 = .ok (.invokevirtual 128, 3) := by decide +kernel
theorem dN_Table_later_26 : decode cN_Table_later 26 = .ok (.return_, 1) := by decide +kernel
theorem dN_Table_walk_0 : decode cN_Table_walk 0 = .ok (.aload_n 0, 1) := by decide +kernel
theorem dN_Table_walk_1 : decode cN_Table_walk 1 = .ok (.getfield 57, 3) := by decide +kernel
theorem dN_Table_walk_4 : decode cN_Table_walk 4 = .ok (.iload_n 2, 1) := by decide +kernel
theorem dN_Table_walk_5 : decode cN_Table_walk 5 = .ok (.invokevirtual 131, 3) := by decide +kernel
theorem dN_Table_walk_8 : decode cN_Table_walk 8 = .ok (.istore 4, 2) := by decide +kernel
theorem dN_Table_walk_10 : decode cN_Table_walk 10 = .ok (.aload_n 0, 1) := by decide +kernel
theorem dN_Table_walk_11 : decode cN_Table_walk 11 = .ok (.getfield 57, 3) := by decide +kernel
theorem dN_Table_walk_14 : decode cN_Table_walk 14 = .ok (.iload_n 2, 1) := by decide +kernel
theorem dN_Table_walk_15 : decode cN_Table_walk 15 = .ok (.invokevirtual 134, 3) := by decide +kernel
theorem dN_Table_walk_18 : decode cN_Table_walk 18 = .ok (.tableswitch 124 0 4 #[34, 43, 51, 79, 101], 34) := by decide +kernel
theorem dN_Table_walk_52 : decode cN_Table_walk 52 = .ok (.aload_n 0, 1) := by decide +kernel
theorem dN_Table_walk_53 : decode cN_Table_walk 53 = .ok (.getfield 18, 3) := by decide +kernel
theorem dN_Table_walk_56 : decode cN_Table_walk 56 = .ok (.iload_n 1, 1) := by decide +kernel
theorem dN_Table_walk_57 : decode cN_Table_walk 57 = .ok (.iload_n 3, 1) := by decide +kernel
theorem dN_Table_walk_58 : decode cN_Table_walk 58 = .ok (.iastore, 1) := by decide +kernel
theorem dN_Table_walk_59 : decode cN_Table_walk 59 = .ok (.iconst 1, 1) := by decide +kernel
theorem dN_Table_walk_60 : decode cN_Table_walk 60 = .ok (.ireturn, 1) := by decide +kernel
theorem dN_Table_walk_61 : decode cN_Table_walk 61 = .ok (.aload_n 0, 1) := by decide +kernel
theorem dN_Table_walk_62 : decode cN_Table_walk 62 = .ok (.iload_n 1, 1) := by decide +kernel
theorem dN_Table_walk_63 : decode cN_Table_walk 63 = .ok (.iload_n 2, 1) := by decide +kernel
theorem dN_Table_walk_64 : decode cN_Table_walk 64 = .ok (.iload_n 3, 1) := by decide +kernel
theorem dN_Table_walk_65 : decode cN_Table_walk 65 = .ok (.invokevirtual 137, 3) := by decide +kernel
theorem dN_Table_walk_68 : decode cN_Table_walk 68 = .ok (.ireturn, 1) := by decide +kernel
theorem dN_Table_walk_69 : decode cN_Table_walk 69 = .ok (.aload_n 0, 1) := by decide +kernel
theorem dN_Table_walk_70 : decode cN_Table_walk 70 = .ok (.aload_n 0, 1) := by decide +kernel
theorem dN_Table_walk_71 : decode cN_Table_walk 71 = .ok (.getfield 57, 3) := by decide +kernel
theorem dN_Table_walk_74 : decode cN_Table_walk 74 = .ok (.iload_n 2, 1) := by decide +kernel
theorem dN_Table_walk_75 : decode cN_Table_walk 75 = .ok (.invokevirtual 140, 3) := by decide +kernel
theorem dN_Table_walk_78 : decode cN_Table_walk 78 = .ok (.iload_n 3, 1) := by decide +kernel
theorem dN_Table_walk_79 : decode cN_Table_walk 79 = .ok (.invokevirtual 104, 3) := by decide +kernel
theorem dN_Table_walk_82 : decode cN_Table_walk 82 = .ok (.aload_n 0, 1) := by decide +kernel
theorem dN_Table_walk_83 : decode cN_Table_walk 83 = .ok (.aload_n 0, 1) := by decide +kernel
theorem dN_Table_walk_84 : decode cN_Table_walk 84 = .ok (.getfield 57, 3) := by decide +kernel
theorem dN_Table_walk_87 : decode cN_Table_walk 87 = .ok (.iload_n 2, 1) := by decide +kernel
theorem dN_Table_walk_88 : decode cN_Table_walk 88 = .ok (.invokevirtual 143, 3) := by decide +kernel
theorem dN_Table_walk_91 : decode cN_Table_walk 91 = .ok (.iload_n 3, 1) := by decide +kernel
theorem dN_Table_walk_92 : decode cN_Table_walk 92 = .ok (.invokevirtual 104, 3) := by decide +kernel
theorem dN_Table_walk_95 : decode cN_Table_walk 95 = .ok (.iconst 1, 1) := by decide +kernel
theorem dN_Table_walk_96 : decode cN_Table_walk 96 = .ok (.ireturn, 1) := by decide +kernel
theorem dN_Table_walk_97 : decode cN_Table_walk 97 = .ok (.aload_n 0, 1) := by decide +kernel
theorem dN_Table_walk_98 : decode cN_Table_walk 98 = .ok (.aload_n 0, 1) := by decide +kernel
theorem dN_Table_walk_99 : decode cN_Table_walk 99 = .ok (.getfield 57, 3) := by decide +kernel
theorem dN_Table_walk_102 : decode cN_Table_walk 102 = .ok (.iload_n 2, 1) := by decide +kernel
theorem dN_Table_walk_103 : decode cN_Table_walk 103 = .ok (.invokevirtual 143, 3) := by decide +kernel
theorem dN_Table_walk_106 : decode cN_Table_walk 106 = .ok (.iload_n 3, 1) := by decide +kernel
theorem dN_Table_walk_107 : decode cN_Table_walk 107 = .ok (.iconst 1, 1) := by decide +kernel
theorem dN_Table_walk_108 : decode cN_Table_walk 108 = .ok (.iload 4, 2) := by decide +kernel
theorem dN_Table_walk_110 : decode cN_Table_walk 110 = .ok (.iconst 2, 1) := by decide +kernel
theorem dN_Table_walk_111 : decode cN_Table_walk 111 = .ok (.isub, 1) := by decide +kernel
theorem dN_Table_walk_112 : decode cN_Table_walk 112 = .ok (.ishl, 1) := by decide +kernel
theorem dN_Table_walk_113 : decode cN_Table_walk 113 = .ok (.ior, 1) := by decide +kernel
theorem dN_Table_walk_114 : decode cN_Table_walk 114 = .ok (.invokevirtual 104, 3) := by decide +kernel
theorem dN_Table_walk_117 : decode cN_Table_walk 117 = .ok (.iconst 1, 1) := by decide +kernel
theorem dN_Table_walk_118 : decode cN_Table_walk 118 = .ok (.ireturn, 1) := by decide +kernel
theorem dN_Table_walk_119 : decode cN_Table_walk 119 = .ok (.aload_n 0, 1) := by decide +kernel
theorem dN_Table_walk_120 : decode cN_Table_walk 120 = .ok (.aload_n 0, 1) := by decide +kernel
theorem dN_Table_walk_121 : decode cN_Table_walk 121 = .ok (.getfield 57, 3) := by decide +kernel
theorem dN_Table_walk_124 : decode cN_Table_walk 124 = .ok (.iload_n 2, 1) := by decide +kernel
theorem dN_Table_walk_125 : decode cN_Table_walk 125 = .ok (.invokevirtual 143, 3) := by decide +kernel
theorem dN_Table_walk_128 : decode cN_Table_walk 128 = .ok (.iload_n 3, 1) := by decide +kernel
theorem dN_Table_walk_129 : decode cN_Table_walk 129 = .ok (.iconst 1, 1) := by decide +kernel
theorem dN_Table_walk_130 : decode cN_Table_walk 130 = .ok (.bipush 18, 2) := by decide +kernel
theorem dN_Table_walk_132 : decode cN_Table_walk 132 = .ok (.iload 4, 2) := by decide +kernel
theorem dN_Table_walk_134 : decode cN_Table_walk 134 = .ok (.iadd, 1) := by decide +kernel
theorem dN_Table_walk_135 : decode cN_Table_walk 135 = .ok (.ishl, 1) := by decide +kernel
theorem dN_Table_walk_136 : decode cN_Table_walk 136 = .ok (.ior, 1) := by decide +kernel
theorem dN_Table_walk_137 : decode cN_Table_walk 137 = .ok (.invokevirtual 104, 3) := by decide +kernel
theorem dN_Table_walk_140 : decode cN_Table_walk 140 = .ok (.iconst 1, 1) := by decide +kernel
theorem dN_Table_walk_141 : decode cN_Table_walk 141 = .ok (.ireturn, 1) := by decide +kernel
theorem dN_Table_walk_142 : decode cN_Table_walk 142 = .ok (.iconst 1, 1) := by decide +kernel
theorem dN_Table_walk_143 : decode cN_Table_walk 143 = .ok (.ireturn, 1) := by decide +kernel
theorem dN_Table_takeBytes_0 : decode cN_Table_takeBytes 0 = .ok (.aload_n 0, 1) := by decide +kernel
theorem dN_Table_takeBytes_1 : decode cN_Table_takeBytes 1 = .ok (.aload_n 0, 1) := by decide +kernel
theorem dN_Table_takeBytes_2 : decode cN_Table_takeBytes 2 = .ok (.getfield 57, 3) := by decide +kernel
theorem dN_Table_takeBytes_5 : decode cN_Table_takeBytes 5 = .ok (.iload_n 2, 1) := by decide +kernel
theorem dN_Table_takeBytes_6 : decode cN_Table_takeBytes 6 = .ok (.invokevirtual 143, 3) := by decide +kernel
theorem dN_Table_takeBytes_9 : decode cN_Table_takeBytes 9 = .ok (.invokevirtual 87, 3) := by decide +kernel
theorem dN_Table_takeBytes_12 : decode cN_Table_takeBytes 12 = .ok (.istore 4, 2) := by decide +kernel
theorem dN_Table_takeBytes_14 : decode cN_Table_takeBytes 14 = .ok (.iload 4, 2) := by decide +kernel
theorem dN_Table_takeBytes_16 : decode cN_Table_takeBytes 16 = .ok (.iconst (-1), 1) := by decide +kernel
theorem dN_Table_takeBytes_17 : decode cN_Table_takeBytes 17 = .ok (.if_icmp .ne 5, 3) := by decide +kernel
theorem dN_Table_takeBytes_20 : decode cN_Table_takeBytes 20 = .ok (.iconst 0, 1) := by decide +kernel
theorem dN_Table_takeBytes_21 : decode cN_Table_takeBytes 21 = .ok (.ireturn, 1) := by decide +kernel
theorem dN_Table_takeBytes_22 : decode cN_Table_takeBytes 22 = .ok (.aload_n 0, 1) := by decide +kernel
theorem dN_Table_takeBytes_23 : decode cN_Table_takeBytes 23 = .ok (.getfield 18, 3) := by decide +kernel
theorem dN_Table_takeBytes_26 : decode cN_Table_takeBytes 26 = .ok (.iload_n 1, 1) := by decide +kernel
theorem dN_Table_takeBytes_27 : decode cN_Table_takeBytes 27 = .ok (.iaload, 1) := by decide +kernel
theorem dN_Table_takeBytes_28 : decode cN_Table_takeBytes 28 = .ok (.iconst (-1), 1) := by decide +kernel
theorem dN_Table_takeBytes_29 : decode cN_Table_takeBytes 29 = .ok (.if_icmp .ne 7, 3) := by decide +kernel
theorem dN_Table_takeBytes_32 : decode cN_Table_takeBytes 32 = .ok (.iconst 0, 1) := by decide +kernel
theorem dN_Table_takeBytes_33 : decode cN_Table_takeBytes 33 = .ok (.goto 5, 3) := by decide +kernel
theorem dN_Table_takeBytes_36 : decode cN_Table_takeBytes 36 = .ok (.bipush 64, 2) := by decide +kernel
theorem dN_Table_takeBytes_38 : decode cN_Table_takeBytes 38 = .ok (.istore 5, 2) := by decide +kernel
theorem dN_Table_takeBytes_40 : decode cN_Table_takeBytes 40 = .ok (.iload_n 3, 1) := by decide +kernel
theorem dN_Table_takeBytes_41 : decode cN_Table_takeBytes 41 = .ok (.bipush 7, 2) := by decide +kernel
theorem dN_Table_takeBytes_43 : decode cN_Table_takeBytes 43 = .ok (.ishl, 1) := by decide +kernel
theorem dN_Table_takeBytes_44 : decode cN_Table_takeBytes 44 = .ok (.iload 5, 2) := by decide +kernel
theorem dN_Table_takeBytes_46 : decode cN_Table_takeBytes 46 = .ok (.ior, 1) := by decide +kernel
theorem dN_Table_takeBytes_47 : decode cN_Table_takeBytes 47 = .ok (.iload 4, 2) := by decide +kernel
theorem dN_Table_takeBytes_49 : decode cN_Table_takeBytes 49 = .ok (.ior, 1) := by decide +kernel
theorem dN_Table_takeBytes_50 : decode cN_Table_takeBytes 50 = .ok (.istore 6, 2) := by decide +kernel
theorem dN_Table_takeBytes_52 : decode cN_Table_takeBytes 52 = .ok (.aload_n 0, 1) := by decide +kernel
theorem dN_Table_takeBytes_53 : decode cN_Table_takeBytes 53 = .ok (.getfield 57, 3) := by decide +kernel
theorem dN_Table_takeBytes_56 : decode cN_Table_takeBytes 56 = .ok (.iload_n 2, 1) := by decide +kernel
theorem dN_Table_takeBytes_57 : decode cN_Table_takeBytes 57 = .ok (.invokevirtual 131, 3) := by decide +kernel
theorem dN_Table_takeBytes_60 : decode cN_Table_takeBytes 60 = .ok (.sipush 256, 3) := by decide +kernel
theorem dN_Table_takeBytes_63 : decode cN_Table_takeBytes 63 = .ok (.idiv, 1) := by decide +kernel
theorem dN_Table_takeBytes_64 : decode cN_Table_takeBytes 64 = .ok (.istore 7, 2) := by decide +kernel
theorem dN_Table_takeBytes_66 : decode cN_Table_takeBytes 66 = .ok (.aload_n 0, 1) := by decide +kernel
theorem dN_Table_takeBytes_67 : decode cN_Table_takeBytes 67 = .ok (.getfield 57, 3) := by decide +kernel
theorem dN_Table_takeBytes_70 : decode cN_Table_takeBytes 70 = .ok (.iload_n 2, 1) := by decide +kernel
theorem dN_Table_takeBytes_71 : decode cN_Table_takeBytes 71 = .ok (.invokevirtual 131, 3) := by decide +kernel
theorem dN_Table_takeBytes_74 : decode cN_Table_takeBytes 74 = .ok (.sipush 256, 3) := by decide +kernel
theorem dN_Table_takeBytes_77 : decode cN_Table_takeBytes 77 = .ok (.irem, 1) := by decide +kernel
theorem dN_Table_takeBytes_78 : decode cN_Table_takeBytes 78 = .ok (.istore 8, 2) := by decide +kernel
theorem dN_Table_takeBytes_80 : decode cN_Table_takeBytes 80 = .ok (.iconst 0, 1) := by decide +kernel
theorem dN_Table_takeBytes_81 : decode cN_Table_takeBytes 81 = .ok (.iload 7, 2) := by decide +kernel
theorem dN_Table_takeBytes_83 : decode cN_Table_takeBytes 83 = .ok (.invokestatic 146, 3) := by decide +kernel
theorem dN_Table_takeBytes_86 : decode cN_Table_takeBytes 86 = .ok (.istore 9, 2) := by decide +kernel
theorem dN_Table_takeBytes_88 : decode cN_Table_takeBytes 88 = .ok (.iload 9, 2) := by decide +kernel
theorem dN_Table_takeBytes_90 : decode cN_Table_takeBytes 90 = .ok (.sipush 256, 3) := by decide +kernel
theorem dN_Table_takeBytes_93 : decode cN_Table_takeBytes 93 = .ok (.if_icmp .ge 60, 3) := by decide +kernel
theorem dN_Table_takeBytes_96 : decode cN_Table_takeBytes 96 = .ok (.iload 9, 2) := by decide +kernel
theorem dN_Table_takeBytes_98 : decode cN_Table_takeBytes 98 = .ok (.iload 8, 2) := by decide +kernel
theorem dN_Table_takeBytes_100 : decode cN_Table_takeBytes 100 = .ok (.if_icmp .gt 53, 3) := by decide +kernel
theorem dN_Table_takeBytes_103 : decode cN_Table_takeBytes 103 = .ok (.iload_n 1, 1) := by decide +kernel
theorem dN_Table_takeBytes_104 : decode cN_Table_takeBytes 104 = .ok (.sipush 256, 3) := by decide +kernel
theorem dN_Table_takeBytes_107 : decode cN_Table_takeBytes 107 = .ok (.imul, 1) := by decide +kernel
theorem dN_Table_takeBytes_108 : decode cN_Table_takeBytes 108 = .ok (.iload 9, 2) := by decide +kernel
theorem dN_Table_takeBytes_110 : decode cN_Table_takeBytes 110 = .ok (.iadd, 1) := by decide +kernel
theorem dN_Table_takeBytes_111 : decode cN_Table_takeBytes 111 = .ok (.istore 10, 2) := by decide +kernel
theorem dN_Table_takeBytes_113 : decode cN_Table_takeBytes 113 = .ok (.aload_n 0, 1) := by decide +kernel
theorem dN_Table_takeBytes_114 : decode cN_Table_takeBytes 114 = .ok (.getfield 15, 3) := by decide +kernel
theorem dN_Table_takeBytes_117 : decode cN_Table_takeBytes 117 = .ok (.iload 10, 2) := by decide +kernel
theorem dN_Table_takeBytes_119 : decode cN_Table_takeBytes 119 = .ok (.iaload, 1) := by decide +kernel
theorem dN_Table_takeBytes_120 : decode cN_Table_takeBytes 120 = .ok (.iconst (-1), 1) := by decide +kernel
theorem dN_Table_takeBytes_121 : decode cN_Table_takeBytes 121 = .ok (.if_icmp .eq 17, 3) := by decide +kernel
theorem dN_Table_takeBytes_124 : decode cN_Table_takeBytes 124 = .ok (.aload_n 0, 1) := by decide +kernel
theorem dN_Table_takeBytes_125 : decode cN_Table_takeBytes 125 = .ok (.getfield 15, 3) := by decide +kernel
theorem dN_Table_takeBytes_128 : decode cN_Table_takeBytes 128 = .ok (.iload 10, 2) := by decide +kernel
theorem dN_Table_takeBytes_130 : decode cN_Table_takeBytes 130 = .ok (.iaload, 1) := by decide +kernel
theorem dN_Table_takeBytes_131 : decode cN_Table_takeBytes 131 = .ok (.iload 6, 2) := by decide +kernel
theorem dN_Table_takeBytes_133 : decode cN_Table_takeBytes 133 = .ok (.if_icmp .eq 5, 3) := by decide +kernel
theorem dN_Table_takeBytes_136 : decode cN_Table_takeBytes 136 = .ok (.iconst 0, 1) := by decide +kernel
theorem dN_Table_takeBytes_137 : decode cN_Table_takeBytes 137 = .ok (.ireturn, 1) := by decide +kernel
theorem dN_Table_takeBytes_138 : decode cN_Table_takeBytes 138 = .ok (.aload_n 0, 1) := by decide +kernel
theorem dN_Table_takeBytes_139 : decode cN_Table_takeBytes 139 = .ok (.getfield 15, 3) := by decide +kernel
theorem dN_Table_takeBytes_142 : decode cN_Table_takeBytes 142 = .ok (.iload 10, 2) := by decide +kernel
theorem dN_Table_takeBytes_144 : decode cN_Table_takeBytes 144 = .ok (.iload 6, 2) := by decide +kernel
theorem dN_Table_takeBytes_146 : decode cN_Table_takeBytes 146 = .ok (.iastore, 1) := by decide +kernel
theorem dN_Table_takeBytes_147 : decode cN_Table_takeBytes 147 = .ok (.iinc 9 1, 3) := by decide +kernel
theorem dN_Table_takeBytes_150 : decode cN_Table_takeBytes 150 = .ok (.goto (-62), 3) := by decide +kernel
theorem dN_Table_takeBytes_153 : decode cN_Table_takeBytes 153 = .ok (.iconst 1, 1) := by decide +kernel
theorem dN_Table_takeBytes_154 : decode cN_Table_takeBytes 154 = .ok (.ireturn, 1) := by decide +kernel
theorem dN_Table_forget_0 : decode cN_Table_forget 0 = .ok (.aload_n 0, 1) := by decide +kernel
theorem dN_Table_forget_1 : decode cN_Table_forget 1 = .ok (.iconst 0, 1) := by decide +kernel
theorem dN_Table_forget_2 : decode cN_Table_forget 2 = .ok (.putfield 50, 3) := by decide +kernel
theorem dN_Table_forget_5 : decode cN_Table_forget 5 = .ok (.return_, 1) := by decide +kernel
theorem dN_Table_run_0 : decode cN_Table_run 0 = .ok (.aload_n 0, 1) := by decide +kernel
theorem dN_Table_run_1 : decode cN_Table_run 1 = .ok (.getfield 11, 3) := by decide +kernel
theorem dN_Table_run_4 : decode cN_Table_run 4 = .ok (.iconst (-1), 1) := by decide +kernel
theorem dN_Table_run_5 : decode cN_Table_run 5 = .ok (.invokestatic 75, 3) := by decide +kernel
theorem dN_Table_run_8 : decode cN_Table_run 8 = .ok (.aload_n 0, 1) := by decide +kernel
theorem dN_Table_run_9 : decode cN_Table_run 9 = .ok (.getfield 11, 3) := by decide +kernel
theorem dN_Table_run_12 : decode cN_Table_run 12 = .ok (.iconst 0, 1) := by decide +kernel
theorem dN_Table_run_13 : decode cN_Table_run 13 = .ok (.iload_n 3, 1) := by decide +kernel
theorem dN_Table_run_14 : decode cN_Table_run 14 = .ok (.iastore, 1) := by decide +kernel
theorem dN_Table_run_15 : decode cN_Table_run 15 = .ok (.iconst 0, 1) := by decide +kernel
theorem dN_Table_run_16 : decode cN_Table_run 16 = .ok (.istore 4, 2) := by decide +kernel
theorem dN_Table_run_18 : decode cN_Table_run 18 = .ok (.iload_n 3, 1) := by decide +kernel
theorem dN_Table_run_19 : decode cN_Table_run 19 = .ok (.istore 5, 2) := by decide +kernel
theorem dN_Table_run_21 : decode cN_Table_run 21 = .ok (.iload 5, 2) := by decide +kernel
theorem dN_Table_run_23 : decode cN_Table_run 23 = .ok (.aload_n 0, 1) := by decide +kernel
theorem dN_Table_run_24 : decode cN_Table_run 24 = .ok (.getfield 61, 3) := by decide +kernel
theorem dN_Table_run_27 : decode cN_Table_run 27 = .ok (.invokevirtual 152, 3) := by decide +kernel
theorem dN_Table_run_30 : decode cN_Table_run 30 = .ok (.if_icmp .gt 125, 3) := by decide +kernel
theorem dN_Table_run_33 : decode cN_Table_run 33 = .ok (.aload_n 0, 1) := by decide +kernel
theorem dN_Table_run_34 : decode cN_Table_run 34 = .ok (.getfield 65, 3) := by decide +kernel
theorem dN_Table_run_37 : decode cN_Table_run 37 = .ok (.invokevirtual 116, 3) := by decide +kernel
theorem dN_Table_run_40 : decode cN_Table_run 40 = .ok (.aload_n 0, 1) := by decide +kernel
theorem dN_Table_run_41 : decode cN_Table_run 41 = .ok (.iload 4, 2) := by decide +kernel
theorem dN_Table_run_43 : decode cN_Table_run 43 = .ok (.iload_n 1, 1) := by decide +kernel
theorem dN_Table_run_44 : decode cN_Table_run 44 = .ok (.iload 5, 2) := by decide +kernel
theorem dN_Table_run_46 : decode cN_Table_run 46 = .ok (.invokevirtual 157, 3) := by decide +kernel
theorem dN_Table_run_49 : decode cN_Table_run 49 = .ok (.istore 6, 2) := by decide +kernel
theorem dN_Table_run_51 : decode cN_Table_run 51 = .ok (.aload_n 0, 1) := by decide +kernel
theorem dN_Table_run_52 : decode cN_Table_run 52 = .ok (.getfield 61, 3) := by decide +kernel
theorem dN_Table_run_55 : decode cN_Table_run 55 = .ok (.iload 5, 2) := by decide +kernel
theorem dN_Table_run_57 : decode cN_Table_run 57 = .ok (.invokevirtual 160, 3) := by decide +kernel
theorem dN_Table_run_60 : decode cN_Table_run 60 = .ok (.istore 7, 2) := by decide +kernel
theorem dN_Table_run_62 : decode cN_Table_run 62 = .ok (.iload 7, 2) := by decide +kernel
theorem dN_Table_run_64 : decode cN_Table_run 64 = .ok (.iconst (-1), 1) := by decide +kernel
theorem dN_Table_run_65 : decode cN_Table_run 65 = .ok (.if_icmp .ne 7, 3) := by decide +kernel
theorem dN_Table_run_68 : decode cN_Table_run 68 = .ok (.iconst (-1), 1) := by decide +kernel
theorem dN_Table_run_69 : decode cN_Table_run 69 = .ok (.goto 17, 3) := by decide +kernel
theorem dN_Table_run_72 : decode cN_Table_run 72 = .ok (.aload_n 0, 1) := by decide +kernel
theorem dN_Table_run_73 : decode cN_Table_run 73 = .ok (.getfield 15, 3) := by decide +kernel
theorem dN_Table_run_76 : decode cN_Table_run 76 = .ok (.iload 4, 2) := by decide +kernel
theorem dN_Table_run_78 : decode cN_Table_run 78 = .ok (.sipush 256, 3) := by decide +kernel
theorem dN_Table_run_81 : decode cN_Table_run 81 = .ok (.imul, 1) := by decide +kernel
theorem dN_Table_run_82 : decode cN_Table_run 82 = .ok (.iload 7, 2) := by decide +kernel
theorem dN_Table_run_84 : decode cN_Table_run 84 = .ok (.iadd, 1) := by decide +kernel
theorem dN_Table_run_85 : decode cN_Table_run 85 = .ok (.iaload, 1) := by decide +kernel
theorem dN_Table_run_86 : decode cN_Table_run 86 = .ok (.istore 8, 2) := by decide +kernel
theorem dN_Table_run_88 : decode cN_Table_run 88 = .ok (.iload 8, 2) := by decide +kernel
theorem dN_Table_run_90 : decode cN_Table_run 90 = .ok (.iconst (-1), 1) := by decide +kernel
theorem dN_Table_run_91 : decode cN_Table_run 91 = .ok (.if_icmp .eq 20, 3) := by decide +kernel
theorem dN_Table_run_94 : decode cN_Table_run 94 = .ok (.iload 6, 2) := by decide +kernel
theorem dN_Table_run_96 : decode cN_Table_run 96 = .ok (.ifCond .eq 16, 3) := by decide +kernel
theorem dN_Table_run_99 : decode cN_Table_run 99 = .ok (.iload_n 2, 1) := by decide +kernel
theorem dN_Table_run_100 : decode cN_Table_run 100 = .ok (.ifCond .ne 12, 3) := by decide +kernel
theorem dN_Table_run_103 : decode cN_Table_run 103 = .ok (.iload 8, 2) := by decide +kernel
theorem dN_Table_run_105 : decode cN_Table_run 105 = .ok (.bipush 64, 2) := by decide +kernel
theorem dN_Table_run_107 : decode cN_Table_run 107 = .ok (.iand, 1) := by decide +kernel
theorem dN_Table_run_108 : decode cN_Table_run 108 = .ok (.ifCond .eq 4, 3) := by decide +kernel
theorem dN_Table_run_111 : decode cN_Table_run 111 = .ok (.return_, 1) := by decide +kernel
theorem dN_Table_run_112 : decode cN_Table_run 112 = .ok (.iload 8, 2) := by decide +kernel
theorem dN_Table_run_114 : decode cN_Table_run 114 = .ok (.bipush 7, 2) := by decide +kernel
theorem dN_Table_run_116 : decode cN_Table_run 116 = .ok (.ishr, 1) := by decide +kernel
theorem dN_Table_run_117 : decode cN_Table_run 117 = .ok (.istore 9, 2) := by decide +kernel
theorem dN_Table_run_119 : decode cN_Table_run 119 = .ok (.aload_n 0, 1) := by decide +kernel
theorem dN_Table_run_120 : decode cN_Table_run 120 = .ok (.iload 9, 2) := by decide +kernel
theorem dN_Table_run_122 : decode cN_Table_run 122 = .ok (.iload 5, 2) := by decide +kernel
theorem dN_Table_run_124 : decode cN_Table_run 124 = .ok (.invokevirtual 163, 3) := by decide +kernel
theorem dN_Table_run_127 : decode cN_Table_run 127 = .ok (.ifCond .ne 4, 3) := by decide +kernel
theorem dN_Table_run_130 : decode cN_Table_run 130 = .ok (.return_, 1) := by decide +kernel
theorem dN_Table_run_131 : decode cN_Table_run 131 = .ok (.iload 9, 2) := by decide +kernel
theorem dN_Table_run_133 : decode cN_Table_run 133 = .ok (.iload 5, 2) := by decide +kernel
theorem dN_Table_run_135 : decode cN_Table_run 135 = .ok (.aload_n 0, 1) := by decide +kernel
theorem dN_Table_run_136 : decode cN_Table_run 136 = .ok (.getfield 11, 3) := by decide +kernel
theorem dN_Table_run_139 : decode cN_Table_run 139 = .ok (.invokestatic 167, 3) := by decide +kernel
theorem dN_Table_run_142 : decode cN_Table_run 142 = .ok (.iload 8, 2) := by decide +kernel
theorem dN_Table_run_144 : decode cN_Table_run 144 = .ok (.bipush 63, 2) := by decide +kernel
theorem dN_Table_run_146 : decode cN_Table_run 146 = .ok (.iand, 1) := by decide +kernel
theorem dN_Table_run_147 : decode cN_Table_run 147 = .ok (.istore 4, 2) := by decide +kernel
theorem dN_Table_run_149 : decode cN_Table_run 149 = .ok (.iinc 5 1, 3) := by decide +kernel
theorem dN_Table_run_152 : decode cN_Table_run 152 = .ok (.goto (-131), 3) := by decide +kernel
theorem dN_Table_run_155 : decode cN_Table_run 155 = .ok (.return_, 1) := by decide +kernel
theorem dN_Table_endHere_0 : decode cN_Table_endHere 0 = .ok (.aload_n 0, 1) := by decide +kernel
theorem dN_Table_endHere_1 : decode cN_Table_endHere 1 = .ok (.getfield 18, 3) := by decide +kernel
theorem dN_Table_endHere_4 : decode cN_Table_endHere 4 = .ok (.iload_n 1, 1) := by decide +kernel
theorem dN_Table_endHere_5 : decode cN_Table_endHere 5 = .ok (.iaload, 1) := by decide +kernel
theorem dN_Table_endHere_6 : decode cN_Table_endHere 6 = .ok (.istore 4, 2) := by decide +kernel
theorem dN_Table_endHere_8 : decode cN_Table_endHere 8 = .ok (.iload 4, 2) := by decide +kernel
theorem dN_Table_endHere_10 : decode cN_Table_endHere 10 = .ok (.iconst (-1), 1) := by decide +kernel
theorem dN_Table_endHere_11 : decode cN_Table_endHere 11 = .ok (.if_icmp .eq 25, 3) := by decide +kernel
theorem dN_Table_endHere_14 : decode cN_Table_endHere 14 = .ok (.aload_n 0, 1) := by decide +kernel
theorem dN_Table_endHere_15 : decode cN_Table_endHere 15 = .ok (.getfield 61, 3) := by decide +kernel
theorem dN_Table_endHere_18 : decode cN_Table_endHere 18 = .ok (.iload_n 2, 1) := by decide +kernel
theorem dN_Table_endHere_19 : decode cN_Table_endHere 19 = .ok (.iload_n 3, 1) := by decide +kernel
theorem dN_Table_endHere_20 : decode cN_Table_endHere 20 = .ok (.invokevirtual 171, 3) := by decide +kernel
theorem dN_Table_endHere_23 : decode cN_Table_endHere 23 = .ok (.ifCond .eq 13, 3) := by decide +kernel
theorem dN_Table_endHere_26 : decode cN_Table_endHere 26 = .ok (.aload_n 0, 1) := by decide +kernel
theorem dN_Table_endHere_27 : decode cN_Table_endHere 27 = .ok (.iload 4, 2) := by decide +kernel
theorem dN_Table_endHere_29 : decode cN_Table_endHere 29 = .ok (.iload_n 3, 1) := by decide +kernel
theorem dN_Table_endHere_30 : decode cN_Table_endHere 30 = .ok (.invokevirtual 163, 3) := by decide +kernel
theorem dN_Table_endHere_33 : decode cN_Table_endHere 33 = .ok (.ifCond .ne 5, 3) := by decide +kernel
theorem dN_Table_endHere_36 : decode cN_Table_endHere 36 = .ok (.iconst 0, 1) := by decide +kernel
theorem dN_Table_endHere_37 : decode cN_Table_endHere 37 = .ok (.ireturn, 1) := by decide +kernel
theorem dN_Table_endHere_38 : decode cN_Table_endHere 38 = .ok (.aload_n 0, 1) := by decide +kernel
theorem dN_Table_endHere_39 : decode cN_Table_endHere 39 = .ok (.getfield 11, 3) := by decide +kernel
theorem dN_Table_endHere_42 : decode cN_Table_endHere 42 = .ok (.iconst 0, 1) := by decide +kernel
theorem dN_Table_endHere_43 : decode cN_Table_endHere 43 = .ok (.aload_n 0, 1) := by decide +kernel
theorem dN_Table_endHere_44 : decode cN_Table_endHere 44 = .ok (.getfield 69, 3) := by decide +kernel
theorem dN_Table_endHere_47 : decode cN_Table_endHere 47 = .ok (.iconst 0, 1) := by decide +kernel
theorem dN_Table_endHere_48 : decode cN_Table_endHere 48 = .ok (.bipush 20, 2) := by decide +kernel
theorem dN_Table_endHere_50 : decode cN_Table_endHere 50 = .ok (.invokestatic 174, 3) := by decide +kernel
theorem dN_Table_endHere_53 : decode cN_Table_endHere 53 = .ok (.iload 4, 2) := by decide +kernel
theorem dN_Table_endHere_55 : decode cN_Table_endHere 55 = .ok (.iload_n 3, 1) := by decide +kernel
theorem dN_Table_endHere_56 : decode cN_Table_endHere 56 = .ok (.aload_n 0, 1) := by decide +kernel
theorem dN_Table_endHere_57 : decode cN_Table_endHere 57 = .ok (.getfield 69, 3) := by decide +kernel
theorem dN_Table_endHere_60 : decode cN_Table_endHere 60 = .ok (.invokestatic 167, 3) := by decide +kernel
theorem dN_Table_endHere_63 : decode cN_Table_endHere 63 = .ok (.aload_n 0, 1) := by decide +kernel
theorem dN_Table_endHere_64 : decode cN_Table_endHere 64 = .ok (.getfield 69, 3) := by decide +kernel
theorem dN_Table_endHere_67 : decode cN_Table_endHere 67 = .ok (.iconst 1, 1) := by decide +kernel
theorem dN_Table_endHere_68 : decode cN_Table_endHere 68 = .ok (.iload_n 3, 1) := by decide +kernel
theorem dN_Table_endHere_69 : decode cN_Table_endHere 69 = .ok (.iastore, 1) := by decide +kernel
theorem dN_Table_endHere_70 : decode cN_Table_endHere 70 = .ok (.iconst 1, 1) := by decide +kernel
theorem dN_Table_endHere_71 : decode cN_Table_endHere 71 = .ok (.ireturn, 1) := by decide +kernel
theorem dN_Table_allHold_0 : decode cN_Table_allHold 0 = .ok (.iload_n 1, 1) := by decide +kernel
theorem dN_Table_allHold_1 : decode cN_Table_allHold 1 = .ok (.bipush 18, 2) := by decide +kernel
theorem dN_Table_allHold_3 : decode cN_Table_allHold 3 = .ok (.ishr, 1) := by decide +kernel
theorem dN_Table_allHold_4 : decode cN_Table_allHold 4 = .ok (.istore_n 3, 1) := by decide +kernel
theorem dN_Table_allHold_5 : decode cN_Table_allHold 5 = .ok (.iload_n 3, 1) := by decide +kernel
theorem dN_Table_allHold_6 : decode cN_Table_allHold 6 = .ok (.aload_n 0, 1) := by decide +kernel
theorem dN_Table_allHold_7 : decode cN_Table_allHold 7 = .ok (.getfield 61, 3) := by decide +kernel
theorem dN_Table_allHold_10 : decode cN_Table_allHold 10 = .ok (.iload_n 2, 1) := by decide +kernel
theorem dN_Table_allHold_11 : decode cN_Table_allHold 11 = .ok (.invokevirtual 180, 3) := by decide +kernel
theorem dN_Table_allHold_14 : decode cN_Table_allHold 14 = .ok (.iand, 1) := by decide +kernel
theorem dN_Table_allHold_15 : decode cN_Table_allHold 15 = .ok (.iload_n 3, 1) := by decide +kernel
theorem dN_Table_allHold_16 : decode cN_Table_allHold 16 = .ok (.if_icmp .ne 7, 3) := by decide +kernel
theorem dN_Table_allHold_19 : decode cN_Table_allHold 19 = .ok (.iconst 1, 1) := by decide +kernel
theorem dN_Table_allHold_20 : decode cN_Table_allHold 20 = .ok (.goto 4, 3) := by decide +kernel
theorem dN_Table_allHold_23 : decode cN_Table_allHold 23 = .ok (.iconst 0, 1) := by decide +kernel
theorem dN_Table_allHold_24 : decode cN_Table_allHold 24 = .ok (.ireturn, 1) := by decide +kernel
theorem dN_Table_save_0 : decode cN_Table_save 0 = .ok (.iconst 2, 1) := by decide +kernel
theorem dN_Table_save_1 : decode cN_Table_save 1 = .ok (.istore_n 3, 1) := by decide +kernel
theorem dN_Table_save_2 : decode cN_Table_save 2 = .ok (.iload_n 3, 1) := by decide +kernel
theorem dN_Table_save_3 : decode cN_Table_save 3 = .ok (.bipush 20, 2) := by decide +kernel
theorem dN_Table_save_5 : decode cN_Table_save 5 = .ok (.if_icmp .ge 23, 3) := by decide +kernel
theorem dN_Table_save_8 : decode cN_Table_save 8 = .ok (.iload_n 0, 1) := by decide +kernel
theorem dN_Table_save_9 : decode cN_Table_save 9 = .ok (.iload_n 3, 1) := by decide +kernel
theorem dN_Table_save_10 : decode cN_Table_save 10 = .ok (.iconst 2, 1) := by decide +kernel
theorem dN_Table_save_11 : decode cN_Table_save 11 = .ok (.isub, 1) := by decide +kernel
theorem dN_Table_save_12 : decode cN_Table_save 12 = .ok (.ishr, 1) := by decide +kernel
theorem dN_Table_save_13 : decode cN_Table_save 13 = .ok (.iconst 1, 1) := by decide +kernel
theorem dN_Table_save_14 : decode cN_Table_save 14 = .ok (.iand, 1) := by decide +kernel
theorem dN_Table_save_15 : decode cN_Table_save 15 = .ok (.ifCond .eq 7, 3) := by decide +kernel
theorem dN_Table_save_18 : decode cN_Table_save 18 = .ok (.aload_n 2, 1) := by decide +kernel
theorem dN_Table_save_19 : decode cN_Table_save 19 = .ok (.iload_n 3, 1) := by decide +kernel
theorem dN_Table_save_20 : decode cN_Table_save 20 = .ok (.iload_n 1, 1) := by decide +kernel
theorem dN_Table_save_21 : decode cN_Table_save 21 = .ok (.iastore, 1) := by decide +kernel
theorem dN_Table_save_22 : decode cN_Table_save 22 = .ok (.iinc 3 1, 3) := by decide +kernel
theorem dN_Table_save_25 : decode cN_Table_save 25 = .ok (.goto (-23), 3) := by decide +kernel
theorem dN_Table_save_28 : decode cN_Table_save 28 = .ok (.return_, 1) := by decide +kernel
