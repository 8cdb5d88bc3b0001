theorem dN_Program_init_0 : decode cN_Program_init 0 = .ok (.aload_n 0, 1) := by decide +kernel
theorem dN_Program_init_1 : decode cN_Program_init 1 = .ok (.invokespecial 3, 3) := by decide +kernel
theorem dN_Program_init_4 : decode cN_Program_init 4 = .ok (.aload_n 0, 1) := by decide +kernel
theorem dN_Program_init_5 : decode cN_Program_init 5 = .ok (.sipush 200, 3) := by decide +kernel
theorem dN_Program_init_8 : decode cN_Program_init 8 = .ok (.newarray .int, 2) := by decide +kernel
theorem dN_Program_init_10 : decode cN_Program_init 10 = .ok (.putfield 9, 3) := by decide +kernel
theorem dN_Program_init_13 : decode cN_Program_init 13 = .ok (.aload_n 0, 1) := by decide +kernel
theorem dN_Program_init_14 : decode cN_Program_init 14 = .ok (.sipush 200, 3) := by decide +kernel
theorem dN_Program_init_17 : decode cN_Program_init 17 = .ok (.newarray .int, 2) := by decide +kernel
theorem dN_Program_init_19 : decode cN_Program_init 19 = .ok (.putfield 15, 3) := by decide +kernel
theorem dN_Program_init_22 : decode cN_Program_init 22 = .ok (.aload_n 0, 1) := by decide +kernel
theorem dN_Program_init_23 : decode cN_Program_init 23 = .ok (.sipush 200, 3) := by decide +kernel
theorem dN_Program_init_26 : decode cN_Program_init 26 = .ok (.newarray .int, 2) := by decide +kernel
theorem dN_Program_init_28 : decode cN_Program_init 28 = .ok (.putfield 18, 3) := by decide +kernel
theorem dN_Program_init_31 : decode cN_Program_init 31 = .ok (.aload_n 0, 1) := by decide +kernel
theorem dN_Program_init_32 : decode cN_Program_init 32 = .ok (.sipush 200, 3) := by decide +kernel
theorem dN_Program_init_35 : decode cN_Program_init 35 = .ok (.newarray .int, 2) := by decide +kernel
theorem dN_Program_init_37 : decode cN_Program_init 37 = .ok (.putfield 21, 3) := by decide +kernel
theorem dN_Program_init_40 : decode cN_Program_init 40 = .ok (.aload_n 0, 1) := by decide +kernel
theorem dN_Program_init_41 : decode cN_Program_init 41 = .ok (.iconst 1, 1) := by decide +kernel
theorem dN_Program_init_42 : decode cN_Program_init 42 = .ok (.putfield 24, 3) := by decide +kernel
theorem dN_Program_init_45 : decode cN_Program_init 45 = .ok (.aload_n 0, 1) := by decide +kernel
theorem dN_Program_init_46 : decode cN_Program_init 46 = .ok (.iconst 0, 1) := by decide +kernel
theorem dN_Program_init_47 : decode cN_Program_init 47 = .ok (.putfield 28, 3) := by decide +kernel
theorem dN_Program_init_50 : decode cN_Program_init 50 = .ok (.return_, 1) := by decide +kernel
theorem dN_Program_beginning_0 : decode cN_Program_beginning 0 = .ok (.aload_n 0, 1) := by decide +kernel
theorem dN_Program_beginning_1 : decode cN_Program_beginning 1 = .ok (.getfield 28, 3) := by decide +kernel
theorem dN_Program_beginning_4 : decode cN_Program_beginning 4 = .ok (.ireturn, 1) := by decide +kernel
theorem dN_Program_has_0 : decode cN_Program_has 0 = .ok (.iload_n 1, 1) := by decide +kernel
theorem dN_Program_has_1 : decode cN_Program_has 1 = .ok (.ifCond .lt 15, 3) := by decide +kernel
theorem dN_Program_has_4 : decode cN_Program_has 4 = .ok (.iload_n 1, 1) := by decide +kernel
theorem dN_Program_has_5 : decode cN_Program_has 5 = .ok (.aload_n 0, 1) := by decide +kernel
theorem dN_Program_has_6 : decode cN_Program_has 6 = .ok (.getfield 24, 3) := by decide +kernel
theorem dN_Program_has_9 : decode cN_Program_has 9 = .ok (.if_icmp .ge 7, 3) := by decide +kernel
theorem dN_Program_has_12 : decode cN_Program_has 12 = .ok (.iconst 1, 1) := by decide +kernel
theorem dN_Program_has_13 : decode cN_Program_has 13 = .ok (.goto 4, 3) := by decide +kernel
theorem dN_Program_has_16 : decode cN_Program_has 16 = .ok (.iconst 0, 1) := by decide +kernel
theorem dN_Program_has_17 : decode cN_Program_has 17 = .ok (.ireturn, 1) := by decide +kernel
theorem dN_Program_valueOf_0 : decode cN_Program_valueOf 0 = .ok (.aload_n 0, 1) := by decide +kernel
theorem dN_Program_valueOf_1 : decode cN_Program_valueOf 1 = .ok (.iload_n 1, 1) := by decide +kernel
theorem dN_Program_valueOf_2 : decode cN_Program_valueOf 2 = .ok (.invokevirtual 45, 3) := by decide +kernel
theorem dN_Program_valueOf_5 : decode cN_Program_valueOf 5 = .ok (.ifCond .eq 12, 3) := by decide +kernel
theorem dN_Program_valueOf_8 : decode cN_Program_valueOf 8 = .ok (.aload_n 0, 1) := by decide +kernel
theorem dN_Program_valueOf_9 : decode cN_Program_valueOf 9 = .ok (.getfield 15, 3) := by decide +kernel
theorem dN_Program_valueOf_12 : decode cN_Program_valueOf 12 = .ok (.iload_n 1, 1) := by decide +kernel
theorem dN_Program_valueOf_13 : decode cN_Program_valueOf 13 = .ok (.iaload, 1) := by decide +kernel
theorem dN_Program_valueOf_14 : decode cN_Program_valueOf 14 = .ok (.goto 4, 3) := by decide +kernel
theorem dN_Program_valueOf_17 : decode cN_Program_valueOf 17 = .ok (.iconst 0, 1) := by decide +kernel
theorem dN_Program_valueOf_18 : decode cN_Program_valueOf 18 = .ok (.ireturn, 1) := by decide +kernel
theorem dN_Program_kindOf_0 : decode cN_Program_kindOf 0 = .ok (.aload_n 0, 1) := by decide +kernel
theorem dN_Program_kindOf_1 : decode cN_Program_kindOf 1 = .ok (.iload_n 1, 1) := by decide +kernel
theorem dN_Program_kindOf_2 : decode cN_Program_kindOf 2 = .ok (.invokevirtual 45, 3) := by decide +kernel
theorem dN_Program_kindOf_5 : decode cN_Program_kindOf 5 = .ok (.ifCond .eq 12, 3) := by decide +kernel
theorem dN_Program_kindOf_8 : decode cN_Program_kindOf 8 = .ok (.aload_n 0, 1) := by decide +kernel
theorem dN_Program_kindOf_9 : decode cN_Program_kindOf 9 = .ok (.getfield 9, 3) := by decide +kernel
theorem dN_Program_kindOf_12 : decode cN_Program_kindOf 12 = .ok (.iload_n 1, 1) := by decide +kernel
theorem dN_Program_kindOf_13 : decode cN_Program_kindOf 13 = .ok (.iaload, 1) := by decide +kernel
theorem dN_Program_kindOf_14 : decode cN_Program_kindOf 14 = .ok (.goto 4, 3) := by decide +kernel
theorem dN_Program_kindOf_17 : decode cN_Program_kindOf 17 = .ok (.iconst 5, 1) := by decide +kernel
theorem dN_Program_kindOf_18 : decode cN_Program_kindOf 18 = .ok (.ireturn, 1) := by decide +kernel
theorem dN_Program_firstOf_0 : decode cN_Program_firstOf 0 = .ok (.aload_n 0, 1) := by decide +kernel
theorem dN_Program_firstOf_1 : decode cN_Program_firstOf 1 = .ok (.iload_n 1, 1) := by decide +kernel
theorem dN_Program_firstOf_2 : decode cN_Program_firstOf 2 = .ok (.invokevirtual 45, 3) := by decide +kernel
theorem dN_Program_firstOf_5 : decode cN_Program_firstOf 5 = .ok (.ifCond .eq 12, 3) := by decide +kernel
theorem dN_Program_firstOf_8 : decode cN_Program_firstOf 8 = .ok (.aload_n 0, 1) := by decide +kernel
theorem dN_Program_firstOf_9 : decode cN_Program_firstOf 9 = .ok (.getfield 18, 3) := by decide +kernel
theorem dN_Program_firstOf_12 : decode cN_Program_firstOf 12 = .ok (.iload_n 1, 1) := by decide +kernel
theorem dN_Program_firstOf_13 : decode cN_Program_firstOf 13 = .ok (.iaload, 1) := by decide +kernel
theorem dN_Program_firstOf_14 : decode cN_Program_firstOf 14 = .ok (.goto 4, 3) := by decide +kernel
theorem dN_Program_firstOf_17 : decode cN_Program_firstOf 17 = .ok (.iconst (-1), 1) := by decide +kernel
theorem dN_Program_firstOf_18 : decode cN_Program_firstOf 18 = .ok (.ireturn, 1) := by decide +kernel
theorem dN_Program_secondOf_0 : decode cN_Program_secondOf 0 = .ok (.aload_n 0, 1) := by decide +kernel
theorem dN_Program_secondOf_1 : decode cN_Program_secondOf 1 = .ok (.iload_n 1, 1) := by decide +kernel
theorem dN_Program_secondOf_2 : decode cN_Program_secondOf 2 = .ok (.invokevirtual 45, 3) := by decide +kernel
theorem dN_Program_secondOf_5 : decode cN_Program_secondOf 5 = .ok (.ifCond .eq 12, 3) := by decide +kernel
theorem dN_Program_secondOf_8 : decode cN_Program_secondOf 8 = .ok (.aload_n 0, 1) := by decide +kernel
theorem dN_Program_secondOf_9 : decode cN_Program_secondOf 9 = .ok (.getfield 21, 3) := by decide +kernel
theorem dN_Program_secondOf_12 : decode cN_Program_secondOf 12 = .ok (.iload_n 1, 1) := by decide +kernel
theorem dN_Program_secondOf_13 : decode cN_Program_secondOf 13 = .ok (.iaload, 1) := by decide +kernel
theorem dN_Program_secondOf_14 : decode cN_Program_secondOf 14 = .ok (.goto 4, 3) := by decide +kernel
theorem dN_Program_secondOf_17 : decode cN_Program_secondOf 17 = .ok (.iconst (-1), 1) := by decide +kernel
theorem dN_Program_secondOf_18 : decode cN_Program_secondOf 18 = .ok (.ireturn, 1) := by decide +kernel
theorem dN_Program_layOut_0 : decode cN_Program_layOut 0 = .ok (.aload_n 0, 1) := by decide +kernel
theorem dN_Program_layOut_1 : decode cN_Program_layOut 1 = .ok (.iconst 1, 1) := by decide +kernel
theorem dN_Program_layOut_2 : decode cN_Program_layOut 2 = .ok (.iload_n 1, 1) := by decide +kernel
theorem dN_Program_layOut_3 : decode cN_Program_layOut 3 = .ok (.sipush 200, 3) := by decide +kernel
theorem dN_Program_layOut_6 : decode cN_Program_layOut 6 = .ok (.invokestatic 32, 3) := by decide +kernel
theorem dN_Program_layOut_9 : decode cN_Program_layOut 9 = .ok (.invokestatic 38, 3) := by decide +kernel
theorem dN_Program_layOut_12 : decode cN_Program_layOut 12 = .ok (.putfield 24, 3) := by decide +kernel
theorem dN_Program_layOut_15 : decode cN_Program_layOut 15 = .ok (.aload_n 0, 1) := by decide +kernel
theorem dN_Program_layOut_16 : decode cN_Program_layOut 16 = .ok (.iconst 0, 1) := by decide +kernel
theorem dN_Program_layOut_17 : decode cN_Program_layOut 17 = .ok (.putfield 28, 3) := by decide +kernel
theorem dN_Program_layOut_20 : decode cN_Program_layOut 20 = .ok (.iconst 1, 1) := by decide +kernel
theorem dN_Program_layOut_21 : decode cN_Program_layOut 21 = .ok (.istore_n 2, 1) := by decide +kernel
theorem dN_Program_layOut_22 : decode cN_Program_layOut 22 = .ok (.iload_n 2, 1) := by decide +kernel
theorem dN_Program_layOut_23 : decode cN_Program_layOut 23 = .ok (.aload_n 0, 1) := by decide +kernel
theorem dN_Program_layOut_24 : decode cN_Program_layOut 24 = .ok (.getfield 24, 3) := by decide +kernel
theorem dN_Program_layOut_27 : decode cN_Program_layOut 27 = .ok (.if_icmp .ge 18, 3) := by decide +kernel
theorem dN_Program_layOut_30 : decode cN_Program_layOut 30 = .ok (.aload_n 0, 1) := by decide +kernel
theorem dN_Program_layOut_31 : decode cN_Program_layOut 31 = .ok (.iload_n 2, 1) := by decide +kernel
theorem dN_Program_layOut_32 : decode cN_Program_layOut 32 = .ok (.iconst 5, 1) := by decide +kernel
theorem dN_Program_layOut_33 : decode cN_Program_layOut 33 = .ok (.iconst 0, 1) := by decide +kernel
theorem dN_Program_layOut_34 : decode cN_Program_layOut 34 = .ok (.iconst 0, 1) := by decide +kernel
theorem dN_Program_layOut_35 : decode cN_Program_layOut 35 = .ok (.iconst 0, 1) := by decide +kernel
theorem dN_Program_layOut_36 : decode cN_Program_layOut 36 = .ok (.invokevirtual 41, 3) := by decide +kernel
theorem dN_Program_layOut_39 : decode cN_Program_layOut 39 = .ok (.iinc 2 1, 3) := by decide +kernel
theorem dN_Program_layOut_42 : decode cN_Program_layOut 42 = .ok (.goto (-20), 3) := by decide +kernel
theorem dN_Program_layOut_45 : decode cN_Program_layOut 45 = .ok (.return_, 1) := by decide +kernel
theorem dN_Program_change_0 : decode cN_Program_change 0 = .ok (.iload_n 1, 1) := by decide +kernel
theorem dN_Program_change_1 : decode cN_Program_change 1 = .ok (.ifCond .eq 73, 3) := by decide +kernel
theorem dN_Program_change_4 : decode cN_Program_change 4 = .ok (.aload_n 0, 1) := by decide +kernel
theorem dN_Program_change_5 : decode cN_Program_change 5 = .ok (.iload_n 1, 1) := by decide +kernel
theorem dN_Program_change_6 : decode cN_Program_change 6 = .ok (.invokevirtual 45, 3) := by decide +kernel
theorem dN_Program_change_9 : decode cN_Program_change 9 = .ok (.ifCond .eq 65, 3) := by decide +kernel
theorem dN_Program_change_12 : decode cN_Program_change 12 = .ok (.aload_n 0, 1) := by decide +kernel
theorem dN_Program_change_13 : decode cN_Program_change 13 = .ok (.getfield 9, 3) := by decide +kernel
theorem dN_Program_change_16 : decode cN_Program_change 16 = .ok (.iload_n 1, 1) := by decide +kernel
theorem dN_Program_change_17 : decode cN_Program_change 17 = .ok (.iload_n 2, 1) := by decide +kernel
theorem dN_Program_change_18 : decode cN_Program_change 18 = .ok (.iastore, 1) := by decide +kernel
theorem dN_Program_change_19 : decode cN_Program_change 19 = .ok (.aload_n 0, 1) := by decide +kernel
theorem dN_Program_change_20 : decode cN_Program_change 20 = .ok (.getfield 15, 3) := by decide +kernel
theorem dN_Program_change_23 : decode cN_Program_change 23 = .ok (.iload_n 1, 1) := by decide +kernel
theorem dN_Program_change_24 : decode cN_Program_change 24 = .ok (.iload_n 2, 1) := by decide +kernel
theorem dN_Program_change_25 : decode cN_Program_change 25 = .ok (.iconst 2, 1) := by decide +kernel
theorem dN_Program_change_26 : decode cN_Program_change 26 = .ok (.if_icmp .eq 8, 3) := by decide +kernel
theorem dN_Program_change_29 : decode cN_Program_change 29 = .ok (.iload_n 2, 1) := by decide +kernel
theorem dN_Program_change_30 : decode cN_Program_change 30 = .ok (.iconst 5, 1) := by decide +kernel
theorem dN_Program_change_31 : decode cN_Program_change 31 = .ok (.if_icmp .ne 7, 3) := by decide +kernel
theorem dN_Program_change_34 : decode cN_Program_change 34 = .ok (.iconst 0, 1) := by decide +kernel
theorem dN_Program_change_35 : decode cN_Program_change 35 = .ok (.goto 4, 3) := by decide +kernel
theorem dN_Program_change_38 : decode cN_Program_change 38 = .ok (.iload_n 3, 1) := by decide +kernel
theorem dN_Program_change_39 : decode cN_Program_change 39 = .ok (.iastore, 1) := by decide +kernel
theorem dN_Program_change_40 : decode cN_Program_change 40 = .ok (.aload_n 0, 1) := by decide +kernel
theorem dN_Program_change_41 : decode cN_Program_change 41 = .ok (.getfield 18, 3) := by decide +kernel
theorem dN_Program_change_44 : decode cN_Program_change 44 = .ok (.iload_n 1, 1) := by decide +kernel
theorem dN_Program_change_45 : decode cN_Program_change 45 = .ok (.iload_n 2, 1) := by decide +kernel
theorem dN_Program_change_46 : decode cN_Program_change 46 = .ok (.iconst 5, 1) := by decide +kernel
theorem dN_Program_change_47 : decode cN_Program_change 47 = .ok (.if_icmp .ne 7, 3) := by decide +kernel
theorem dN_Program_change_50 : decode cN_Program_change 50 = .ok (.iconst 0, 1) := by decide +kernel
theorem dN_Program_change_51 : decode cN_Program_change 51 = .ok (.goto 5, 3) := by decide +kernel
theorem dN_Program_change_54 : decode cN_Program_change 54 = .ok (.iload 4, 2) := by decide +kernel
theorem dN_Program_change_56 : decode cN_Program_change 56 = .ok (.iastore, 1) := by decide +kernel
theorem dN_Program_change_57 : decode cN_Program_change 57 = .ok (.aload_n 0, 1) := by decide +kernel
theorem dN_Program_change_58 : decode cN_Program_change 58 = .ok (.getfield 21, 3) := by decide +kernel
theorem dN_Program_change_61 : decode cN_Program_change 61 = .ok (.iload_n 1, 1) := by decide +kernel
theorem dN_Program_change_62 : decode cN_Program_change 62 = .ok (.iload_n 2, 1) := by decide +kernel
theorem dN_Program_change_63 : decode cN_Program_change 63 = .ok (.iconst 2, 1) := by decide +kernel
theorem dN_Program_change_64 : decode cN_Program_change 64 = .ok (.if_icmp .ne 8, 3) := by decide +kernel
theorem dN_Program_change_67 : decode cN_Program_change 67 = .ok (.iload 5, 2) := by decide +kernel
theorem dN_Program_change_69 : decode cN_Program_change 69 = .ok (.goto 4, 3) := by decide +kernel
theorem dN_Program_change_72 : decode cN_Program_change 72 = .ok (.iconst 0, 1) := by decide +kernel
theorem dN_Program_change_73 : decode cN_Program_change 73 = .ok (.iastore, 1) := by decide +kernel
theorem dN_Program_change_74 : decode cN_Program_change 74 = .ok (.return_, 1) := by decide +kernel
theorem dN_Program_isValue_0 : decode cN_Program_isValue 0 = .ok (.iload_n 0, 1) := by decide +kernel
theorem dN_Program_isValue_1 : decode cN_Program_isValue 1 = .ok (.tableswitch 93 1 4 #[31, 93, 60, 77], 31) := by decide +kernel
theorem dN_Program_isValue_32 : decode cN_Program_isValue 32 = .ok (.iload_n 1, 1) := by decide +kernel
theorem dN_Program_isValue_33 : decode cN_Program_isValue 33 = .ok (.ifCond .lt 26, 3) := by decide +kernel
theorem dN_Program_isValue_36 : decode cN_Program_isValue 36 = .ok (.iload_n 1, 1) := by decide +kernel
theorem dN_Program_isValue_37 : decode cN_Program_isValue 37 = .ok (.ldc 31, 2) := by decide +kernel
theorem dN_Program_isValue_39 : decode cN_Program_isValue 39 = .ok (.if_icmp .ge 20, 3) := by decide +kernel
theorem dN_Program_isValue_42 : decode cN_Program_isValue 42 = .ok (.iload_n 1, 1) := by decide +kernel
theorem dN_Program_isValue_43 : decode cN_Program_isValue 43 = .ok (.sipush 256, 3) := by decide +kernel
theorem dN_Program_isValue_46 : decode cN_Program_isValue 46 = .ok (.idiv, 1) := by decide +kernel
theorem dN_Program_isValue_47 : decode cN_Program_isValue 47 = .ok (.iload_n 1, 1) := by decide +kernel
theorem dN_Program_isValue_48 : decode cN_Program_isValue 48 = .ok (.sipush 256, 3) := by decide +kernel
theorem dN_Program_isValue_51 : decode cN_Program_isValue 51 = .ok (.irem, 1) := by decide +kernel
theorem dN_Program_isValue_52 : decode cN_Program_isValue 52 = .ok (.if_icmp .gt 7, 3) := by decide +kernel
theorem dN_Program_isValue_55 : decode cN_Program_isValue 55 = .ok (.iconst 1, 1) := by decide +kernel
theorem dN_Program_isValue_56 : decode cN_Program_isValue 56 = .ok (.goto 4, 3) := by decide +kernel
theorem dN_Program_isValue_59 : decode cN_Program_isValue 59 = .ok (.iconst 0, 1) := by decide +kernel
theorem dN_Program_isValue_60 : decode cN_Program_isValue 60 = .ok (.ireturn, 1) := by decide +kernel
theorem dN_Program_isValue_61 : decode cN_Program_isValue 61 = .ok (.iload_n 1, 1) := by decide +kernel
theorem dN_Program_isValue_62 : decode cN_Program_isValue 62 = .ok (.iconst 2, 1) := by decide +kernel
theorem dN_Program_isValue_63 : decode cN_Program_isValue 63 = .ok (.if_icmp .lt 13, 3) := by decide +kernel
theorem dN_Program_isValue_66 : decode cN_Program_isValue 66 = .ok (.iload_n 1, 1) := by decide +kernel
theorem dN_Program_isValue_67 : decode cN_Program_isValue 67 = .ok (.bipush 20, 2) := by decide +kernel
theorem dN_Program_isValue_69 : decode cN_Program_isValue 69 = .ok (.if_icmp .ge 7, 3) := by decide +kernel
theorem dN_Program_isValue_72 : decode cN_Program_isValue 72 = .ok (.iconst 1, 1) := by decide +kernel
theorem dN_Program_isValue_73 : decode cN_Program_isValue 73 = .ok (.goto 4, 3) := by decide +kernel
theorem dN_Program_isValue_76 : decode cN_Program_isValue 76 = .ok (.iconst 0, 1) := by decide +kernel
theorem dN_Program_isValue_77 : decode cN_Program_isValue 77 = .ok (.ireturn, 1) := by decide +kernel
theorem dN_Program_isValue_78 : decode cN_Program_isValue 78 = .ok (.iload_n 1, 1) := by decide +kernel
theorem dN_Program_isValue_79 : decode cN_Program_isValue 79 = .ok (.ifCond .lt 13, 3) := by decide +kernel
theorem dN_Program_isValue_82 : decode cN_Program_isValue 82 = .ok (.iload_n 1, 1) := by decide +kernel
theorem dN_Program_isValue_83 : decode cN_Program_isValue 83 = .ok (.bipush 6, 2) := by decide +kernel
theorem dN_Program_isValue_85 : decode cN_Program_isValue 85 = .ok (.if_icmp .ge 7, 3) := by decide +kernel
theorem dN_Program_isValue_88 : decode cN_Program_isValue 88 = .ok (.iconst 1, 1) := by decide +kernel
theorem dN_Program_isValue_89 : decode cN_Program_isValue 89 = .ok (.goto 4, 3) := by decide +kernel
theorem dN_Program_isValue_92 : decode cN_Program_isValue 92 = .ok (.iconst 0, 1) := by decide +kernel
theorem dN_Program_isValue_93 : decode cN_Program_isValue 93 = .ok (.ireturn, 1) := by decide +kernel
theorem dN_Program_isValue_94 : decode cN_Program_isValue 94 = .ok (.iconst 1, 1) := by decide +kernel
theorem dN_Program_isValue_95 : decode cN_Program_isValue 95 = .ok (.ireturn, 1) := by decide +kernel
theorem dN_Program_beginWith_0 : decode cN_Program_beginWith 0 = .ok (.aload_n 0, 1) := by decide +kernel
theorem dN_Program_beginWith_1 : decode cN_Program_beginWith 1 = .ok (.aload_n 0, 1) := by decide +kernel
theorem dN_Program_beginWith_2 : decode cN_Program_beginWith 2 = .ok (.iload_n 1, 1) := by decide +kernel
theorem dN_Program_beginWith_3 : decode cN_Program_beginWith 3 = .ok (.invokevirtual 45, 3) := by decide +kernel
theorem dN_Program_beginWith_6 : decode cN_Program_beginWith 6 = .ok (.ifCond .eq 7, 3) := by decide +kernel
theorem dN_Program_beginWith_9 : decode cN_Program_beginWith 9 = .ok (.iload_n 1, 1) := by decide +kernel
theorem dN_Program_beginWith_10 : decode cN_Program_beginWith 10 = .ok (.goto 7, 3) := by decide +kernel
theorem dN_Program_beginWith_13 : decode cN_Program_beginWith 13 = .ok (.aload_n 0, 1) := by decide +kernel
theorem dN_Program_beginWith_14 : decode cN_Program_beginWith 14 = .ok (.getfield 28, 3) := by decide +kernel
theorem dN_Program_beginWith_17 : decode cN_Program_beginWith 17 = .ok (.putfield 28, 3) := by decide +kernel
theorem dN_Program_beginWith_20 : decode cN_Program_beginWith 20 = .ok (.return_, 1) := by decide +kernel
theorem dN_Program_size_0 : decode cN_Program_size 0 = .ok (.aload_n 0, 1) := by decide +kernel
theorem dN_Program_size_1 : decode cN_Program_size 1 = .ok (.getfield 24, 3) := by decide +kernel
theorem dN_Program_size_4 : decode cN_Program_size 4 = .ok (.ireturn, 1) := by decide +kernel
theorem dN_Program_takes_0 : decode cN_Program_takes 0 = .ok (.aload_n 0, 1) := by decide +kernel
theorem dN_Program_takes_1 : decode cN_Program_takes 1 = .ok (.iload_n 1, 1) := by decide +kernel
theorem dN_Program_takes_2 : decode cN_Program_takes 2 = .ok (.invokevirtual 45, 3) := by decide +kernel
theorem dN_Program_takes_5 : decode cN_Program_takes 5 = .ok (.ifCond .eq 45, 3) := by decide +kernel
theorem dN_Program_takes_8 : decode cN_Program_takes 8 = .ok (.aload_n 0, 1) := by decide +kernel
theorem dN_Program_takes_9 : decode cN_Program_takes 9 = .ok (.getfield 9, 3) := by decide +kernel
theorem dN_Program_takes_12 : decode cN_Program_takes 12 = .ok (.iload_n 1, 1) := by decide +kernel
theorem dN_Program_takes_13 : decode cN_Program_takes 13 = .ok (.iaload, 1) := by decide +kernel
theorem dN_Program_takes_14 : decode cN_Program_takes 14 = .ok (.iconst 1, 1) := by decide +kernel
theorem dN_Program_takes_15 : decode cN_Program_takes 15 = .ok (.if_icmp .ne 35, 3) := by decide +kernel
theorem dN_Program_takes_18 : decode cN_Program_takes 18 = .ok (.iload_n 2, 1) := by decide +kernel
theorem dN_Program_takes_19 : decode cN_Program_takes 19 = .ok (.aload_n 0, 1) := by decide +kernel
theorem dN_Program_takes_20 : decode cN_Program_takes 20 = .ok (.getfield 15, 3) := by decide +kernel
theorem dN_Program_takes_23 : decode cN_Program_takes 23 = .ok (.iload_n 1, 1) := by decide +kernel
theorem dN_Program_takes_24 : decode cN_Program_takes 24 = .ok (.iaload, 1) := by decide +kernel
theorem dN_Program_takes_25 : decode cN_Program_takes 25 = .ok (.sipush 256, 3) := by decide +kernel
theorem dN_Program_takes_28 : decode cN_Program_takes 28 = .ok (.idiv, 1) := by decide +kernel
theorem dN_Program_takes_29 : decode cN_Program_takes 29 = .ok (.if_icmp .lt 21, 3) := by decide +kernel
theorem dN_Program_takes_32 : decode cN_Program_takes 32 = .ok (.iload_n 2, 1) := by decide +kernel
theorem dN_Program_takes_33 : decode cN_Program_takes 33 = .ok (.aload_n 0, 1) := by decide +kernel
theorem dN_Program_takes_34 : decode cN_Program_takes 34 = .ok (.getfield 15, 3) := by decide +kernel
theorem dN_Program_takes_37 : decode cN_Program_takes 37 = .ok (.iload_n 1, 1) := by decide +kernel
theorem dN_Program_takes_38 : decode cN_Program_takes 38 = .ok (.iaload, 1) := by decide +kernel
theorem dN_Program_takes_39 : decode cN_Program_takes 39 = .ok (.sipush 256, 3) := by decide +kernel
theorem dN_Program_takes_42 : decode cN_Program_takes 42 = .ok (.irem, 1) := by decide +kernel
theorem dN_Program_takes_43 : decode cN_Program_takes 43 = .ok (.if_icmp .gt 7, 3) := by decide +kernel
theorem dN_Program_takes_46 : decode cN_Program_takes 46 = .ok (.iconst 1, 1) := by decide +kernel
theorem dN_Program_takes_47 : decode cN_Program_takes 47 = .ok (.goto 4, 3) := by decide +kernel
theorem dN_Program_takes_50 : decode cN_Program_takes 50 = .ok (.iconst 0, 1) := by decide +kernel
theorem dN_Program_takes_51 : decode cN_Program_takes 51 = .ok (.ireturn, 1) := by decide +kernel
