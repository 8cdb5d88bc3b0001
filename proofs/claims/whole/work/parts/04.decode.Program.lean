theorem dN_Program_init_0 : decode cN_Program_init 0 = .ok (.aload_n 0, 1) := by decide +kernel
theorem dN_Program_init_1 : decode cN_Program_init 1 = .ok (.invokespecial 3, 3) := by decide +kernel
theorem dN_Program_init_4 : decode cN_Program_init 4 = .ok (.aload_n 0, 1) := by decide +kernel
theorem dN_Program_init_5 : decode cN_Program_init 5 = .ok (.sipush 200, 3) := by decide +kernel
theorem dN_Program_init_8 : decode cN_Program_init 8 = .ok (.newarray .int, 2) := by decide +kernel
theorem dN_Program_init_10 : decode cN_Program_init 10 = .ok (.putfield 9, 3) := by decide +kernel
theorem dN_Program_init_13 : decode cN_Program_init 13 = .ok (.aload_n 0, 1) := by decide +kernel
theorem dN_Program_init_14 : decode cN_Program_init 14 = .ok (.sipush 200, 3) := by decide +kernel
theorem dN_Program_init_17 : decode cN_Program_init 17 = .ok (.newarray .int, 2) := by decide +kernel
theorem dN_Program_init_19 : decode cN_Program_init 19 = .ok (.putfield 15, 3) := by decide +kernel
theorem dN_Program_init_22 : decode cN_Program_init 22 = .ok (.aload_n 0, 1) := by decide +kernel
theorem dN_Program_init_23 : decode cN_Program_init 23 = .ok (.sipush 200, 3) := by decide +kernel
theorem dN_Program_init_26 : decode cN_Program_init 26 = .ok (.newarray .int, 2) := by decide +kernel
theorem dN_Program_init_28 : decode cN_Program_init 28 = .ok (.putfield 18, 3) := by decide +kernel
theorem dN_Program_init_31 : decode cN_Program_init 31 = .ok (.aload_n 0, 1) := by decide +kernel
theorem dN_Program_init_32 : decode cN_Program_init 32 = .ok (.sipush 200, 3) := by decide +kernel
theorem dN_Program_init_35 : decode cN_Program_init 35 = .ok (.newarray .int, 2) := by decide +kernel
theorem dN_Program_init_37 : decode cN_Program_init 37 = .ok (.putfield 21, 3) := by decide +kernel
theorem dN_Program_init_40 : decode cN_Program_init 40 = .ok (.aload_n 0, 1) := by decide +kernel
theorem dN_Program_init_41 : decode cN_Program_init 41 = .ok (.iconst 1, 1) := by decide +kernel
theorem dN_Program_init_42 : decode cN_Program_init 42 = .ok (.putfield 24, 3) := by decide +kernel
theorem dN_Program_init_45 : decode cN_Program_init 45 = .ok (.aload_n 0, 1) := by decide +kernel
theorem dN_Program_init_46 : decode cN_Program_init 46 = .ok (.iconst 0, 1) := by decide +kernel
theorem dN_Program_init_47 : decode cN_Program_init 47 = .ok (.putfield 28, 3) := by decide +kernel
theorem dN_Program_init_50 : decode cN_Program_init 50 = .ok (.return_, 1) := by decide +kernel
theorem dN_Program_takes_0 : decode cN_Program_takes 0 = .ok (.iload_n 2, 1) := by decide +kernel
theorem dN_Program_takes_1 : decode cN_Program_takes 1 = .ok (.aload_n 0, 1) := by decide +kernel
theorem dN_Program_takes_2 : decode cN_Program_takes 2 = .ok (.getfield 15, 3) := by decide +kernel
theorem dN_Program_takes_5 : decode cN_Program_takes 5 = .ok (.iload_n 1, 1) := by decide +kernel
theorem dN_Program_takes_6 : decode cN_Program_takes 6 = .ok (.iaload, 1) := by decide +kernel
theorem dN_Program_takes_7 : decode cN_Program_takes 7 = .ok (.sipush 256, 3) := by decide +kernel
theorem dN_Program_takes_10 : decode cN_Program_takes 10 = .ok (.idiv, 1) := by decide +kernel
theorem dN_Program_takes_11 : decode cN_Program_takes 11 = .ok (.if_icmp .lt 21, 3) := by decide +kernel
theorem dN_Program_takes_14 : decode cN_Program_takes 14 = .ok (.iload_n 2, 1) := by decide +kernel
theorem dN_Program_takes_15 : decode cN_Program_takes 15 = .ok (.aload_n 0, 1) := by decide +kernel
theorem dN_Program_takes_16 : decode cN_Program_takes 16 = .ok (.getfield 15, 3) := by decide +kernel
theorem dN_Program_takes_19 : decode cN_Program_takes 19 = .ok (.iload_n 1, 1) := by decide +kernel
theorem dN_Program_takes_20 : decode cN_Program_takes 20 = .ok (.iaload, 1) := by decide +kernel
theorem dN_Program_takes_21 : decode cN_Program_takes 21 = .ok (.sipush 256, 3) := by decide +kernel
theorem dN_Program_takes_24 : decode cN_Program_takes 24 = .ok (.irem, 1) := by decide +kernel
theorem dN_Program_takes_25 : decode cN_Program_takes 25 = .ok (.if_icmp .gt 7, 3) := by decide +kernel
theorem dN_Program_takes_28 : decode cN_Program_takes 28 = .ok (.iconst 1, 1) := by decide +kernel
theorem dN_Program_takes_29 : decode cN_Program_takes 29 = .ok (.goto 4, 3) := by decide +kernel
theorem dN_Program_takes_32 : decode cN_Program_takes 32 = .ok (.iconst 0, 1) := by decide +kernel
theorem dN_Program_takes_33 : decode cN_Program_takes 33 = .ok (.ireturn, 1) := by decide +kernel
theorem dN_Program_layOut_0 : decode cN_Program_layOut 0 = .ok (.aload_n 0, 1) := by decide +kernel
theorem dN_Program_layOut_1 : decode cN_Program_layOut 1 = .ok (.iload_n 1, 1) := by decide +kernel
theorem dN_Program_layOut_2 : decode cN_Program_layOut 2 = .ok (.putfield 24, 3) := by decide +kernel
theorem dN_Program_layOut_5 : decode cN_Program_layOut 5 = .ok (.aload_n 0, 1) := by decide +kernel
theorem dN_Program_layOut_6 : decode cN_Program_layOut 6 = .ok (.iconst 0, 1) := by decide +kernel
theorem dN_Program_layOut_7 : decode cN_Program_layOut 7 = .ok (.putfield 28, 3) := by decide +kernel
theorem dN_Program_layOut_10 : decode cN_Program_layOut 10 = .ok (.iconst 1, 1) := by decide +kernel
theorem dN_Program_layOut_11 : decode cN_Program_layOut 11 = .ok (.istore_n 2, 1) := by decide +kernel
theorem dN_Program_layOut_12 : decode cN_Program_layOut 12 = .ok (.iload_n 2, 1) := by decide +kernel
theorem dN_Program_layOut_13 : decode cN_Program_layOut 13 = .ok (.sipush 200, 3) := by decide +kernel
theorem dN_Program_layOut_16 : decode cN_Program_layOut 16 = .ok (.if_icmp .ge 18, 3) := by decide +kernel
theorem dN_Program_layOut_19 : decode cN_Program_layOut 19 = .ok (.aload_n 0, 1) := by decide +kernel
theorem dN_Program_layOut_20 : decode cN_Program_layOut 20 = .ok (.iload_n 2, 1) := by decide +kernel
theorem dN_Program_layOut_21 : decode cN_Program_layOut 21 = .ok (.iconst 5, 1) := by decide +kernel
theorem dN_Program_layOut_22 : decode cN_Program_layOut 22 = .ok (.iconst 0, 1) := by decide +kernel
theorem dN_Program_layOut_23 : decode cN_Program_layOut 23 = .ok (.iconst 0, 1) := by decide +kernel
theorem dN_Program_layOut_24 : decode cN_Program_layOut 24 = .ok (.iconst 0, 1) := by decide +kernel
theorem dN_Program_layOut_25 : decode cN_Program_layOut 25 = .ok (.invokevirtual 32, 3) := by decide +kernel
theorem dN_Program_layOut_28 : decode cN_Program_layOut 28 = .ok (.iinc 2 1, 3) := by decide +kernel
theorem dN_Program_layOut_31 : decode cN_Program_layOut 31 = .ok (.goto (-19), 3) := by decide +kernel
theorem dN_Program_layOut_34 : decode cN_Program_layOut 34 = .ok (.return_, 1) := by decide +kernel
theorem dN_Program_change_0 : decode cN_Program_change 0 = .ok (.aload_n 0, 1) := by decide +kernel
theorem dN_Program_change_1 : decode cN_Program_change 1 = .ok (.getfield 9, 3) := by decide +kernel
theorem dN_Program_change_4 : decode cN_Program_change 4 = .ok (.iload_n 1, 1) := by decide +kernel
theorem dN_Program_change_5 : decode cN_Program_change 5 = .ok (.iload_n 2, 1) := by decide +kernel
theorem dN_Program_change_6 : decode cN_Program_change 6 = .ok (.iastore, 1) := by decide +kernel
theorem dN_Program_change_7 : decode cN_Program_change 7 = .ok (.aload_n 0, 1) := by decide +kernel
theorem dN_Program_change_8 : decode cN_Program_change 8 = .ok (.getfield 15, 3) := by decide +kernel
theorem dN_Program_change_11 : decode cN_Program_change 11 = .ok (.iload_n 1, 1) := by decide +kernel
theorem dN_Program_change_12 : decode cN_Program_change 12 = .ok (.iload_n 2, 1) := by decide +kernel
theorem dN_Program_change_13 : decode cN_Program_change 13 = .ok (.iconst 2, 1) := by decide +kernel
theorem dN_Program_change_14 : decode cN_Program_change 14 = .ok (.if_icmp .eq 8, 3) := by decide +kernel
theorem dN_Program_change_17 : decode cN_Program_change 17 = .ok (.iload_n 2, 1) := by decide +kernel
theorem dN_Program_change_18 : decode cN_Program_change 18 = .ok (.iconst 5, 1) := by decide +kernel
theorem dN_Program_change_19 : decode cN_Program_change 19 = .ok (.if_icmp .ne 7, 3) := by decide +kernel
theorem dN_Program_change_22 : decode cN_Program_change 22 = .ok (.iconst 0, 1) := by decide +kernel
theorem dN_Program_change_23 : decode cN_Program_change 23 = .ok (.goto 4, 3) := by decide +kernel
theorem dN_Program_change_26 : decode cN_Program_change 26 = .ok (.iload_n 3, 1) := by decide +kernel
theorem dN_Program_change_27 : decode cN_Program_change 27 = .ok (.iastore, 1) := by decide +kernel
theorem dN_Program_change_28 : decode cN_Program_change 28 = .ok (.aload_n 0, 1) := by decide +kernel
theorem dN_Program_change_29 : decode cN_Program_change 29 = .ok (.getfield 18, 3) := by decide +kernel
theorem dN_Program_change_32 : decode cN_Program_change 32 = .ok (.iload_n 1, 1) := by decide +kernel
theorem dN_Program_change_33 : decode cN_Program_change 33 = .ok (.iload_n 2, 1) := by decide +kernel
theorem dN_Program_change_34 : decode cN_Program_change 34 = .ok (.iconst 5, 1) := by decide +kernel
theorem dN_Program_change_35 : decode cN_Program_change 35 = .ok (.if_icmp .ne 7, 3) := by decide +kernel
theorem dN_Program_change_38 : decode cN_Program_change 38 = .ok (.iconst 0, 1) := by decide +kernel
theorem dN_Program_change_39 : decode cN_Program_change 39 = .ok (.goto 5, 3) := by decide +kernel
theorem dN_Program_change_42 : decode cN_Program_change 42 = .ok (.iload 4, 2) := by decide +kernel
theorem dN_Program_change_44 : decode cN_Program_change 44 = .ok (.iastore, 1) := by decide +kernel
theorem dN_Program_change_45 : decode cN_Program_change 45 = .ok (.aload_n 0, 1) := by decide +kernel
theorem dN_Program_change_46 : decode cN_Program_change 46 = .ok (.getfield 21, 3) := by decide +kernel
theorem dN_Program_change_49 : decode cN_Program_change 49 = .ok (.iload_n 1, 1) := by decide +kernel
theorem dN_Program_change_50 : decode cN_Program_change 50 = .ok (.iload_n 2, 1) := by decide +kernel
theorem dN_Program_change_51 : decode cN_Program_change 51 = .ok (.iconst 2, 1) := by decide +kernel
theorem dN_Program_change_52 : decode cN_Program_change 52 = .ok (.if_icmp .ne 8, 3) := by decide +kernel
theorem dN_Program_change_55 : decode cN_Program_change 55 = .ok (.iload 5, 2) := by decide +kernel
theorem dN_Program_change_57 : decode cN_Program_change 57 = .ok (.goto 4, 3) := by decide +kernel
theorem dN_Program_change_60 : decode cN_Program_change 60 = .ok (.iconst 0, 1) := by decide +kernel
theorem dN_Program_change_61 : decode cN_Program_change 61 = .ok (.iastore, 1) := by decide +kernel
theorem dN_Program_change_62 : decode cN_Program_change 62 = .ok (.return_, 1) := by decide +kernel
theorem dN_Program_has_0 : decode cN_Program_has 0 = .ok (.iload_n 1, 1) := by decide +kernel
theorem dN_Program_has_1 : decode cN_Program_has 1 = .ok (.ifCond .lt 15, 3) := by decide +kernel
theorem dN_Program_has_4 : decode cN_Program_has 4 = .ok (.iload_n 1, 1) := by decide +kernel
theorem dN_Program_has_5 : decode cN_Program_has 5 = .ok (.aload_n 0, 1) := by decide +kernel
theorem dN_Program_has_6 : decode cN_Program_has 6 = .ok (.getfield 24, 3) := by decide +kernel
theorem dN_Program_has_9 : decode cN_Program_has 9 = .ok (.if_icmp .ge 7, 3) := by decide +kernel
theorem dN_Program_has_12 : decode cN_Program_has 12 = .ok (.iconst 1, 1) := by decide +kernel
theorem dN_Program_has_13 : decode cN_Program_has 13 = .ok (.goto 4, 3) := by decide +kernel
theorem dN_Program_has_16 : decode cN_Program_has 16 = .ok (.iconst 0, 1) := by decide +kernel
theorem dN_Program_has_17 : decode cN_Program_has 17 = .ok (.ireturn, 1) := by decide +kernel
theorem dN_Program_isValue_0 : decode cN_Program_isValue 0 = .ok (.iload_n 0, 1) := by decide +kernel
theorem dN_Program_isValue_1 : decode cN_Program_isValue 1 = .ok (.tableswitch 93 1 4 #[31, 93, 60, 77], 31) := by decide +kernel
theorem dN_Program_isValue_32 : decode cN_Program_isValue 32 = .ok (.iload_n 1, 1) := by decide +kernel
theorem dN_Program_isValue_33 : decode cN_Program_isValue 33 = .ok (.ifCond .lt 26, 3) := by decide +kernel
theorem dN_Program_isValue_36 : decode cN_Program_isValue 36 = .ok (.iload_n 1, 1) := by decide +kernel
theorem dN_Program_isValue_37 : decode cN_Program_isValue 37 = .ok (.ldc 31, 2) := by decide +kernel
theorem dN_Program_isValue_39 : decode cN_Program_isValue 39 = .ok (.if_icmp .ge 20, 3) := by decide +kernel
theorem dN_Program_isValue_42 : decode cN_Program_isValue 42 = .ok (.iload_n 1, 1) := by decide +kernel
theorem dN_Program_isValue_43 : decode cN_Program_isValue 43 = .ok (.sipush 256, 3) := by decide +kernel
theorem dN_Program_isValue_46 : decode cN_Program_isValue 46 = .ok (.idiv, 1) := by decide +kernel
theorem dN_Program_isValue_47 : decode cN_Program_isValue 47 = .ok (.iload_n 1, 1) := by decide +kernel
theorem dN_Program_isValue_48 : decode cN_Program_isValue 48 = .ok (.sipush 256, 3) := by decide +kernel
theorem dN_Program_isValue_51 : decode cN_Program_isValue 51 = .ok (.irem, 1) := by decide +kernel
theorem dN_Program_isValue_52 : decode cN_Program_isValue 52 = .ok (.if_icmp .gt 7, 3) := by decide +kernel
theorem dN_Program_isValue_55 : decode cN_Program_isValue 55 = .ok (.iconst 1, 1) := by decide +kernel
theorem dN_Program_isValue_56 : decode cN_Program_isValue 56 = .ok (.goto 4, 3) := by decide +kernel
theorem dN_Program_isValue_59 : decode cN_Program_isValue 59 = .ok (.iconst 0, 1) := by decide +kernel
theorem dN_Program_isValue_60 : decode cN_Program_isValue 60 = .ok (.ireturn, 1) := by decide +kernel
theorem dN_Program_isValue_61 : decode cN_Program_isValue 61 = .ok (.iload_n 1, 1) := by decide +kernel
theorem dN_Program_isValue_62 : decode cN_Program_isValue 62 = .ok (.iconst 2, 1) := by decide +kernel
theorem dN_Program_isValue_63 : decode cN_Program_isValue 63 = .ok (.if_icmp .lt 13, 3) := by decide +kernel
theorem dN_Program_isValue_66 : decode cN_Program_isValue 66 = .ok (.iload_n 1, 1) := by decide +kernel
theorem dN_Program_isValue_67 : decode cN_Program_isValue 67 = .ok (.bipush 20, 2) := by decide +kernel
theorem dN_Program_isValue_69 : decode cN_Program_isValue 69 = .ok (.if_icmp .ge 7, 3) := by decide +kernel
theorem dN_Program_isValue_72 : decode cN_Program_isValue 72 = .ok (.iconst 1, 1) := by decide +kernel
theorem dN_Program_isValue_73 : decode cN_Program_isValue 73 = .ok (.goto 4, 3) := by decide +kernel
theorem dN_Program_isValue_76 : decode cN_Program_isValue 76 = .ok (.iconst 0, 1) := by decide +kernel
theorem dN_Program_isValue_77 : decode cN_Program_isValue 77 = .ok (.ireturn, 1) := by decide +kernel
theorem dN_Program_isValue_78 : decode cN_Program_isValue 78 = .ok (.iload_n 1, 1) := by decide +kernel
theorem dN_Program_isValue_79 : decode cN_Program_isValue 79 = .ok (.ifCond .lt 13, 3) := by decide +kernel
theorem dN_Program_isValue_82 : decode cN_Program_isValue 82 = .ok (.iload_n 1, 1) := by decide +kernel
theorem dN_Program_isValue_83 : decode cN_Program_isValue 83 = .ok (.bipush 6, 2) := by decide +kernel
theorem dN_Program_isValue_85 : decode cN_Program_isValue 85 = .ok (.if_icmp .ge 7, 3) := by decide +kernel
theorem dN_Program_isValue_88 : decode cN_Program_isValue 88 = .ok (.iconst 1, 1) := by decide +kernel
theorem dN_Program_isValue_89 : decode cN_Program_isValue 89 = .ok (.goto 4, 3) := by decide +kernel
theorem dN_Program_isValue_92 : decode cN_Program_isValue 92 = .ok (.iconst 0, 1) := by decide +kernel
theorem dN_Program_isValue_93 : decode cN_Program_isValue 93 = .ok (.ireturn, 1) := by decide +kernel
theorem dN_Program_isValue_94 : decode cN_Program_isValue 94 = .ok (.iconst 1, 1) := by decide +kernel
theorem dN_Program_isValue_95 : decode cN_Program_isValue 95 = .ok (.ireturn, 1) := by decide +kernel
