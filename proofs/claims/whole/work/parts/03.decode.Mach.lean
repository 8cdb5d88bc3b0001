theorem dN_Mach_init_0 : decode cN_Mach_init 0 = .ok (.aload_n 0, 1) := by decide +kernel
theorem dN_Mach_init_1 : decode cN_Mach_init 1 = .ok (.invokespecial 1, 3) := by decide +kernel
theorem dN_Mach_init_4 : decode cN_Mach_init 4 = .ok (.aload_n 0, 1) := by decide +kernel
theorem dN_Mach_init_5 : decode cN_Mach_init 5 = .ok (.new 7, 3) := by decide +kernel
theorem dN_Mach_init_8 : decode cN_Mach_init 8 = .ok (.dup, 1) := by decide +kernel
theorem dN_Mach_init_9 : decode cN_Mach_init 9 = .ok (.invokespecial 9, 3) := by decide +kernel
theorem dN_Mach_init_12 : decode cN_Mach_init 12 = .ok (.putfield 10, 3) := by decide +kernel
theorem dN_Mach_init_15 : decode cN_Mach_init 15 = .ok (.aload_n 0, 1) := by decide +kernel
theorem dN_Mach_init_16 : decode cN_Mach_init 16 = .ok (.new 16, 3) := by decide +kernel
theorem dN_Mach_init_19 : decode cN_Mach_init 19 = .ok (.dup, 1) := by decide +kernel
theorem dN_Mach_init_20 : decode cN_Mach_init 20 = .ok (.invokespecial 18, 3) := by decide +kernel
theorem dN_Mach_init_23 : decode cN_Mach_init 23 = .ok (.putfield 19, 3) := by decide +kernel
theorem dN_Mach_init_26 : decode cN_Mach_init 26 = .ok (.aload_n 0, 1) := by decide +kernel
theorem dN_Mach_init_27 : decode cN_Mach_init 27 = .ok (.new 23, 3) := by decide +kernel
theorem dN_Mach_init_30 : decode cN_Mach_init 30 = .ok (.dup, 1) := by decide +kernel
theorem dN_Mach_init_31 : decode cN_Mach_init 31 = .ok (.invokespecial 25, 3) := by decide +kernel
theorem dN_Mach_init_34 : decode cN_Mach_init 34 = .ok (.putfield 26, 3) := by decide +kernel
theorem dN_Mach_init_37 : decode cN_Mach_init 37 = .ok (.aload_n 0, 1) := by decide +kernel
theorem dN_Mach_init_38 : decode cN_Mach_init 38 = .ok (.bipush 20, 2) := by decide +kernel
theorem dN_Mach_init_40 : decode cN_Mach_init 40 = .ok (.newarray .int, 2) := by decide +kernel
theorem dN_Mach_init_42 : decode cN_Mach_init 42 = .ok (.putfield 30, 3) := by decide +kernel
theorem dN_Mach_init_45 : decode cN_Mach_init 45 = .ok (.aload_n 0, 1) := by decide +kernel
theorem dN_Mach_init_46 : decode cN_Mach_init 46 = .ok (.new 34, 3) := by decide +kernel
theorem dN_Mach_init_49 : decode cN_Mach_init 49 = .ok (.dup, 1) := by decide +kernel
theorem dN_Mach_init_50 : decode cN_Mach_init 50 = .ok (.aload_n 0, 1) := by decide +kernel
theorem dN_Mach_init_51 : decode cN_Mach_init 51 = .ok (.getfield 10, 3) := by decide +kernel
theorem dN_Mach_init_54 : decode cN_Mach_init 54 = .ok (.aload_n 0, 1) := by decide +kernel
theorem dN_Mach_init_55 : decode cN_Mach_init 55 = .ok (.getfield 19, 3) := by decide +kernel
theorem dN_Mach_init_58 : decode cN_Mach_init 58 = .ok (.aload_n 0, 1) := by decide +kernel
theorem dN_Mach_init_59 : decode cN_Mach_init 59 = .ok (.getfield 26, 3) := by decide +kernel
theorem dN_Mach_init_62 : decode cN_Mach_init 62 = .ok (.aload_n 0, 1) := by decide +kernel
theorem dN_Mach_init_63 : decode cN_Mach_init 63 = .ok (.getfield 30, 3) := by decide +kernel
theorem dN_Mach_init_66 : decode cN_Mach_init 66 = .ok (.invokespecial 36, 3) := by decide +kernel
theorem dN_Mach_init_69 : decode cN_Mach_init 69 = .ok (.putfield 39, 3) := by decide +kernel
theorem dN_Mach_init_72 : decode cN_Mach_init 72 = .ok (.aload_n 0, 1) := by decide +kernel
theorem dN_Mach_init_73 : decode cN_Mach_init 73 = .ok (.new 43, 3) := by decide +kernel
theorem dN_Mach_init_76 : decode cN_Mach_init 76 = .ok (.dup, 1) := by decide +kernel
theorem dN_Mach_init_77 : decode cN_Mach_init 77 = .ok (.aload_n 0, 1) := by decide +kernel
theorem dN_Mach_init_78 : decode cN_Mach_init 78 = .ok (.getfield 10, 3) := by decide +kernel
theorem dN_Mach_init_81 : decode cN_Mach_init 81 = .ok (.aload_n 0, 1) := by decide +kernel
theorem dN_Mach_init_82 : decode cN_Mach_init 82 = .ok (.getfield 19, 3) := by decide +kernel
theorem dN_Mach_init_85 : decode cN_Mach_init 85 = .ok (.aload_n 0, 1) := by decide +kernel
theorem dN_Mach_init_86 : decode cN_Mach_init 86 = .ok (.getfield 26, 3) := by decide +kernel
theorem dN_Mach_init_89 : decode cN_Mach_init 89 = .ok (.aload_n 0, 1) := by decide +kernel
theorem dN_Mach_init_90 : decode cN_Mach_init 90 = .ok (.getfield 30, 3) := by decide +kernel
theorem dN_Mach_init_93 : decode cN_Mach_init 93 = .ok (.invokespecial 45, 3) := by decide +kernel
theorem dN_Mach_init_96 : decode cN_Mach_init 96 = .ok (.putfield 46, 3) := by decide +kernel
theorem dN_Mach_init_99 : decode cN_Mach_init 99 = .ok (.aload_n 0, 1) := by decide +kernel
theorem dN_Mach_init_100 : decode cN_Mach_init 100 = .ok (.new 50, 3) := by decide +kernel
theorem dN_Mach_init_103 : decode cN_Mach_init 103 = .ok (.dup, 1) := by decide +kernel
theorem dN_Mach_init_104 : decode cN_Mach_init 104 = .ok (.aload_n 0, 1) := by decide +kernel
theorem dN_Mach_init_105 : decode cN_Mach_init 105 = .ok (.getfield 10, 3) := by decide +kernel
theorem dN_Mach_init_108 : decode cN_Mach_init 108 = .ok (.aload_n 0, 1) := by decide +kernel
theorem dN_Mach_init_109 : decode cN_Mach_init 109 = .ok (.getfield 19, 3) := by decide +kernel
theorem dN_Mach_init_112 : decode cN_Mach_init 112 = .ok (.aload_n 0, 1) := by decide +kernel
theorem dN_Mach_init_113 : decode cN_Mach_init 113 = .ok (.getfield 26, 3) := by decide +kernel
theorem dN_Mach_init_116 : decode cN_Mach_init 116 = .ok (.aload_n 0, 1) := by decide +kernel
theorem dN_Mach_init_117 : decode cN_Mach_init 117 = .ok (.getfield 30, 3) := by decide +kernel
theorem dN_Mach_init_120 : decode cN_Mach_init 120 = .ok (.invokespecial 52, 3) := by decide +kernel
theorem dN_Mach_init_123 : decode cN_Mach_init 123 = .ok (.putfield 53, 3) := by decide +kernel
theorem dN_Mach_init_126 : decode cN_Mach_init 126 = .ok (.aload_n 0, 1) := by decide +kernel
theorem dN_Mach_init_127 : decode cN_Mach_init 127 = .ok (.new 57, 3) := by decide +kernel
theorem dN_Mach_init_130 : decode cN_Mach_init 130 = .ok (.dup, 1) := by decide +kernel
theorem dN_Mach_init_131 : decode cN_Mach_init 131 = .ok (.aload_n 0, 1) := by decide +kernel
theorem dN_Mach_init_132 : decode cN_Mach_init 132 = .ok (.getfield 10, 3) := by decide +kernel
theorem dN_Mach_init_135 : decode cN_Mach_init 135 = .ok (.aload_n 0, 1) := by decide +kernel
theorem dN_Mach_init_136 : decode cN_Mach_init 136 = .ok (.getfield 19, 3) := by decide +kernel
theorem dN_Mach_init_139 : decode cN_Mach_init 139 = .ok (.aload_n 0, 1) := by decide +kernel
theorem dN_Mach_init_140 : decode cN_Mach_init 140 = .ok (.getfield 26, 3) := by decide +kernel
theorem dN_Mach_init_143 : decode cN_Mach_init 143 = .ok (.invokespecial 59, 3) := by decide +kernel
theorem dN_Mach_init_146 : decode cN_Mach_init 146 = .ok (.putfield 62, 3) := by decide +kernel
theorem dN_Mach_init_149 : decode cN_Mach_init 149 = .ok (.aload_n 0, 1) := by decide +kernel
theorem dN_Mach_init_150 : decode cN_Mach_init 150 = .ok (.getfield 30, 3) := by decide +kernel
theorem dN_Mach_init_153 : decode cN_Mach_init 153 = .ok (.iconst (-1), 1) := by decide +kernel
theorem dN_Mach_init_154 : decode cN_Mach_init 154 = .ok (.invokestatic 66, 3) := by decide +kernel
theorem dN_Mach_init_157 : decode cN_Mach_init 157 = .ok (.return_, 1) := by decide +kernel
theorem dN_Mach_put_0 : decode cN_Mach_put 0 = .ok (.iload_n 3, 1) := by decide +kernel
theorem dN_Mach_put_1 : decode cN_Mach_put 1 = .ok (.ifCond .lt 24, 3) := by decide +kernel
theorem dN_Mach_put_4 : decode cN_Mach_put 4 = .ok (.iload_n 3, 1) := by decide +kernel
theorem dN_Mach_put_5 : decode cN_Mach_put 5 = .ok (.bipush 8, 2) := by decide +kernel
theorem dN_Mach_put_7 : decode cN_Mach_put 7 = .ok (.if_icmp .gt 18, 3) := by decide +kernel
theorem dN_Mach_put_10 : decode cN_Mach_put 10 = .ok (.aload_n 0, 1) := by decide +kernel
theorem dN_Mach_put_11 : decode cN_Mach_put 11 = .ok (.getfield 19, 3) := by decide +kernel
theorem dN_Mach_put_14 : decode cN_Mach_put 14 = .ok (.invokevirtual 116, 3) := by decide +kernel
theorem dN_Mach_put_17 : decode cN_Mach_put 17 = .ok (.iload_n 3, 1) := by decide +kernel
theorem dN_Mach_put_18 : decode cN_Mach_put 18 = .ok (.iadd, 1) := by decide +kernel
theorem dN_Mach_put_19 : decode cN_Mach_put 19 = .ok (.sipush 200, 3) := by decide +kernel
theorem dN_Mach_put_22 : decode cN_Mach_put 22 = .ok (.if_icmp .le 5, 3) := by decide +kernel
theorem dN_Mach_put_25 : decode cN_Mach_put 25 = .ok (.iconst 0, 1) := by decide +kernel
theorem dN_Mach_put_26 : decode cN_Mach_put 26 = .ok (.ireturn, 1) := by decide +kernel
theorem dN_Mach_put_27 : decode cN_Mach_put 27 = .ok (.iload_n 3, 1) := by decide +kernel
theorem dN_Mach_put_28 : decode cN_Mach_put 28 = .ok (.iconst 1, 1) := by decide +kernel
theorem dN_Mach_put_29 : decode cN_Mach_put 29 = .ok (.isub, 1) := by decide +kernel
theorem dN_Mach_put_30 : decode cN_Mach_put 30 = .ok (.istore 4, 2) := by decide +kernel
theorem dN_Mach_put_32 : decode cN_Mach_put 32 = .ok (.iload 4, 2) := by decide +kernel
theorem dN_Mach_put_34 : decode cN_Mach_put 34 = .ok (.ifCond .lt 28, 3) := by decide +kernel
theorem dN_Mach_put_37 : decode cN_Mach_put 37 = .ok (.aload_n 0, 1) := by decide +kernel
theorem dN_Mach_put_38 : decode cN_Mach_put 38 = .ok (.getfield 19, 3) := by decide +kernel
theorem dN_Mach_put_41 : decode cN_Mach_put 41 = .ok (.lload_n 1, 1) := by decide +kernel
theorem dN_Mach_put_42 : decode cN_Mach_put 42 = .ok (.bipush 8, 2) := by decide +kernel
theorem dN_Mach_put_44 : decode cN_Mach_put 44 = .ok (.iload 4, 2) := by decide +kernel
theorem dN_Mach_put_46 : decode cN_Mach_put 46 = .ok (.imul, 1) := by decide +kernel
theorem dN_Mach_put_47 : decode cN_Mach_put 47 = .ok (.lushr, 1) := by decide +kernel
theorem dN_Mach_put_48 : decode cN_Mach_put 48 = .ok (.l2i, 1) := by decide +kernel
theorem dN_Mach_put_49 : decode cN_Mach_put 49 = .ok (.sipush 255, 3) := by decide +kernel
theorem dN_Mach_put_52 : decode cN_Mach_put 52 = .ok (.iand, 1) := by decide +kernel
theorem dN_Mach_put_53 : decode cN_Mach_put 53 = .ok (.invokevirtual 120, 3) := by decide +kernel
theorem dN_Mach_put_56 : decode cN_Mach_put 56 = .ok (.iinc 4 (-1), 3) := by decide +kernel
theorem dN_Mach_put_59 : decode cN_Mach_put 59 = .ok (.goto (-27), 3) := by decide +kernel
theorem dN_Mach_put_62 : decode cN_Mach_put 62 = .ok (.iconst 1, 1) := by decide +kernel
theorem dN_Mach_put_63 : decode cN_Mach_put 63 = .ok (.ireturn, 1) := by decide +kernel
theorem dN_Mach_clear_0 : decode cN_Mach_clear 0 = .ok (.aload_n 0, 1) := by decide +kernel
theorem dN_Mach_clear_1 : decode cN_Mach_clear 1 = .ok (.getfield 19, 3) := by decide +kernel
theorem dN_Mach_clear_4 : decode cN_Mach_clear 4 = .ok (.invokevirtual 123, 3) := by decide +kernel
theorem dN_Mach_clear_7 : decode cN_Mach_clear 7 = .ok (.return_, 1) := by decide +kernel
theorem dN_Mach_saved_0 : decode cN_Mach_saved 0 = .ok (.iload_n 1, 1) := by decide +kernel
theorem dN_Mach_saved_1 : decode cN_Mach_saved 1 = .ok (.ifCond .lt 18, 3) := by decide +kernel
theorem dN_Mach_saved_4 : decode cN_Mach_saved 4 = .ok (.iload_n 1, 1) := by decide +kernel
theorem dN_Mach_saved_5 : decode cN_Mach_saved 5 = .ok (.bipush 20, 2) := by decide +kernel
theorem dN_Mach_saved_7 : decode cN_Mach_saved 7 = .ok (.if_icmp .ge 12, 3) := by decide +kernel
theorem dN_Mach_saved_10 : decode cN_Mach_saved 10 = .ok (.aload_n 0, 1) := by decide +kernel
theorem dN_Mach_saved_11 : decode cN_Mach_saved 11 = .ok (.getfield 30, 3) := by decide +kernel
theorem dN_Mach_saved_14 : decode cN_Mach_saved 14 = .ok (.iload_n 1, 1) := by decide +kernel
theorem dN_Mach_saved_15 : decode cN_Mach_saved 15 = .ok (.iaload, 1) := by decide +kernel
theorem dN_Mach_saved_16 : decode cN_Mach_saved 16 = .ok (.goto 4, 3) := by decide +kernel
theorem dN_Mach_saved_19 : decode cN_Mach_saved 19 = .ok (.iconst (-1), 1) := by decide +kernel
theorem dN_Mach_saved_20 : decode cN_Mach_saved 20 = .ok (.ireturn, 1) := by decide +kernel
theorem dN_Mach_isOneWay_0 : decode cN_Mach_isOneWay 0 = .ok (.aload_n 0, 1) := by decide +kernel
theorem dN_Mach_isOneWay_1 : decode cN_Mach_isOneWay 1 = .ok (.getfield 53, 3) := by decide +kernel
theorem dN_Mach_isOneWay_4 : decode cN_Mach_isOneWay 4 = .ok (.invokevirtual 140, 3) := by decide +kernel
theorem dN_Mach_isOneWay_7 : decode cN_Mach_isOneWay 7 = .ok (.ireturn, 1) := by decide +kernel
theorem dN_Mach_over_0 : decode cN_Mach_over 0 = .ok (.aload_n 0, 1) := by decide +kernel
theorem dN_Mach_over_1 : decode cN_Mach_over 1 = .ok (.getfield 26, 3) := by decide +kernel
theorem dN_Mach_over_4 : decode cN_Mach_over 4 = .ok (.getfield 162, 3) := by decide +kernel
theorem dN_Mach_over_7 : decode cN_Mach_over 7 = .ok (.ireturn, 1) := by decide +kernel
theorem dN_Mach_lay_0 : decode cN_Mach_lay 0 = .ok (.iload_n 1, 1) := by decide +kernel
theorem dN_Mach_lay_1 : decode cN_Mach_lay 1 = .ok (.iconst 1, 1) := by decide +kernel
theorem dN_Mach_lay_2 : decode cN_Mach_lay 2 = .ok (.if_icmp .lt 10, 3) := by decide +kernel
theorem dN_Mach_lay_5 : decode cN_Mach_lay 5 = .ok (.iload_n 1, 1) := by decide +kernel
theorem dN_Mach_lay_6 : decode cN_Mach_lay 6 = .ok (.sipush 200, 3) := by decide +kernel
theorem dN_Mach_lay_9 : decode cN_Mach_lay 9 = .ok (.if_icmp .le 13, 3) := by decide +kernel
theorem dN_Mach_lay_12 : decode cN_Mach_lay 12 = .ok (.new 72, 3) := by decide +kernel
theorem dN_Mach_lay_15 : decode cN_Mach_lay 15 = .ok (.dup, 1) := by decide +kernel
theorem dN_Mach_lay_16 : decode cN_Mach_lay 16 = .ok (.ldc 74, 2) := by decide +kernel
theorem dN_Mach_lay_18 : decode cN_Mach_lay 18 = .ok (.invokespecial 76, 3) := by decide +kernel
theorem dN_Mach_lay_21 : decode cN_Mach_lay 21 = .ok (.athrow, 1) := by decide +kernel
theorem dN_Mach_lay_22 : decode cN_Mach_lay 22 = .ok (.aload_n 0, 1) := by decide +kernel
theorem dN_Mach_lay_23 : decode cN_Mach_lay 23 = .ok (.getfield 10, 3) := by decide +kernel
theorem dN_Mach_lay_26 : decode cN_Mach_lay 26 = .ok (.iload_n 1, 1) := by decide +kernel
theorem dN_Mach_lay_27 : decode cN_Mach_lay 27 = .ok (.invokevirtual 79, 3) := by decide +kernel
theorem dN_Mach_lay_30 : decode cN_Mach_lay 30 = .ok (.aload_n 0, 1) := by decide +kernel
theorem dN_Mach_lay_31 : decode cN_Mach_lay 31 = .ok (.invokevirtual 83, 3) := by decide +kernel
theorem dN_Mach_lay_34 : decode cN_Mach_lay 34 = .ok (.return_, 1) := by decide +kernel
theorem dN_Mach_forgetWhatWasMade_0 : decode cN_Mach_forgetWhatWasMade 0 = .ok (.aload_n 0, 1) := by decide +kernel
theorem dN_Mach_forgetWhatWasMade_1 : decode cN_Mach_forgetWhatWasMade 1 = .ok (.getfield 53, 3) := by decide +kernel
theorem dN_Mach_forgetWhatWasMade_4 : decode cN_Mach_forgetWhatWasMade 4 = .ok (.invokevirtual 169, 3) := by decide +kernel
theorem dN_Mach_forgetWhatWasMade_7 : decode cN_Mach_forgetWhatWasMade 7 = .ok (.aload_n 0, 1) := by decide +kernel
theorem dN_Mach_forgetWhatWasMade_8 : decode cN_Mach_forgetWhatWasMade 8 = .ok (.getfield 62, 3) := by decide +kernel
theorem dN_Mach_forgetWhatWasMade_11 : decode cN_Mach_forgetWhatWasMade 11 = .ok (.invokevirtual 172, 3) := by decide +kernel
theorem dN_Mach_forgetWhatWasMade_14 : decode cN_Mach_forgetWhatWasMade 14 = .ok (.return_, 1) := by decide +kernel
theorem dN_Mach_step_0 : decode cN_Mach_step 0 = .ok (.iload_n 1, 1) := by decide +kernel
theorem dN_Mach_step_1 : decode cN_Mach_step 1 = .ok (.ifCond .eq 14, 3) := by decide +kernel
theorem dN_Mach_step_4 : decode cN_Mach_step 4 = .ok (.aload_n 0, 1) := by decide +kernel
theorem dN_Mach_step_5 : decode cN_Mach_step 5 = .ok (.getfield 10, 3) := by decide +kernel
theorem dN_Mach_step_8 : decode cN_Mach_step 8 = .ok (.iload_n 1, 1) := by decide +kernel
theorem dN_Mach_step_9 : decode cN_Mach_step 9 = .ok (.invokevirtual 86, 3) := by decide +kernel
theorem dN_Mach_step_12 : decode cN_Mach_step 12 = .ok (.ifCond .ne 13, 3) := by decide +kernel
theorem dN_Mach_step_15 : decode cN_Mach_step 15 = .ok (.new 90, 3) := by decide +kernel
theorem dN_Mach_step_18 : decode cN_Mach_step 18 = .ok (.dup, 1) := by decide +kernel
theorem dN_Mach_step_19 : decode cN_Mach_step 19 = .ok (.ldc 92, 2) := by decide +kernel
theorem dN_Mach_step_21 : decode cN_Mach_step 21 = .ok (.invokespecial 94, 3) := by decide +kernel
theorem dN_Mach_step_24 : decode cN_Mach_step 24 = .ok (.athrow, 1) := by decide +kernel
theorem dN_Mach_step_25 : decode cN_Mach_step 25 = .ok (.iload_n 2, 1) := by decide +kernel
theorem dN_Mach_step_26 : decode cN_Mach_step 26 = .ok (.iconst 5, 1) := by decide +kernel
theorem dN_Mach_step_27 : decode cN_Mach_step 27 = .ok (.if_icmp .eq 25, 3) := by decide +kernel
theorem dN_Mach_step_30 : decode cN_Mach_step 30 = .ok (.aload_n 0, 1) := by decide +kernel
theorem dN_Mach_step_31 : decode cN_Mach_step 31 = .ok (.getfield 10, 3) := by decide +kernel
theorem dN_Mach_step_34 : decode cN_Mach_step 34 = .ok (.iload 4, 2) := by decide +kernel
theorem dN_Mach_step_36 : decode cN_Mach_step 36 = .ok (.invokevirtual 86, 3) := by decide +kernel
theorem dN_Mach_step_39 : decode cN_Mach_step 39 = .ok (.ifCond .ne 13, 3) := by decide +kernel
theorem dN_Mach_step_42 : decode cN_Mach_step 42 = .ok (.new 90, 3) := by decide +kernel
theorem dN_Mach_step_45 : decode cN_Mach_step 45 = .ok (.dup, 1) := by decide +kernel
theorem dN_Mach_step_46 : decode cN_Mach_step 46 = .ok (.ldc 95, 2) := by decide +kernel
theorem dN_Mach_step_48 : decode cN_Mach_step 48 = .ok (.invokespecial 94, 3) := by decide +kernel
theorem dN_Mach_step_51 : decode cN_Mach_step 51 = .ok (.athrow, 1) := by decide +kernel
theorem dN_Mach_step_52 : decode cN_Mach_step 52 = .ok (.iload_n 2, 1) := by decide +kernel
theorem dN_Mach_step_53 : decode cN_Mach_step 53 = .ok (.iconst 2, 1) := by decide +kernel
theorem dN_Mach_step_54 : decode cN_Mach_step 54 = .ok (.if_icmp .ne 25, 3) := by decide +kernel
theorem dN_Mach_step_57 : decode cN_Mach_step 57 = .ok (.aload_n 0, 1) := by decide +kernel
theorem dN_Mach_step_58 : decode cN_Mach_step 58 = .ok (.getfield 10, 3) := by decide +kernel
theorem dN_Mach_step_61 : decode cN_Mach_step 61 = .ok (.iload 5, 2) := by decide +kernel
theorem dN_Mach_step_63 : decode cN_Mach_step 63 = .ok (.invokevirtual 86, 3) := by decide +kernel
theorem dN_Mach_step_66 : decode cN_Mach_step 66 = .ok (.ifCond .ne 13, 3) := by decide +kernel
theorem dN_Mach_step_69 : decode cN_Mach_step 69 = .ok (.new 90, 3) := by decide +kernel
theorem dN_Mach_step_72 : decode cN_Mach_step 72 = .ok (.dup, 1) := by decide +kernel
theorem dN_Mach_step_73 : decode cN_Mach_step 73 = .ok (.ldc 97, 2) := by decide +kernel
theorem dN_Mach_step_75 : decode cN_Mach_step 75 = .ok (.invokespecial 94, 3) := by decide +kernel
theorem dN_Mach_step_78 : decode cN_Mach_step 78 = .ok (.athrow, 1) := by decide +kernel
theorem dN_Mach_step_79 : decode cN_Mach_step 79 = .ok (.iload_n 2, 1) := by decide +kernel
theorem dN_Mach_step_80 : decode cN_Mach_step 80 = .ok (.iconst 1, 1) := by decide +kernel
theorem dN_Mach_step_81 : decode cN_Mach_step 81 = .ok (.if_icmp .lt 8, 3) := by decide +kernel
theorem dN_Mach_step_84 : decode cN_Mach_step 84 = .ok (.iload_n 2, 1) := by decide +kernel
theorem dN_Mach_step_85 : decode cN_Mach_step 85 = .ok (.iconst 5, 1) := by decide +kernel
theorem dN_Mach_step_86 : decode cN_Mach_step 86 = .ok (.if_icmp .le 13, 3) := by decide +kernel
theorem dN_Mach_step_89 : decode cN_Mach_step 89 = .ok (.new 72, 3) := by decide +kernel
theorem dN_Mach_step_92 : decode cN_Mach_step 92 = .ok (.dup, 1) := by decide +kernel
theorem dN_Mach_step_93 : decode cN_Mach_step 93 = .ok (.ldc 99, 2) := by decide +kernel
theorem dN_Mach_step_95 : decode cN_Mach_step 95 = .ok (.invokespecial 76, 3) := by decide +kernel
theorem dN_Mach_step_98 : decode cN_Mach_step 98 = .ok (.athrow, 1) := by decide +kernel
theorem dN_Mach_step_99 : decode cN_Mach_step 99 = .ok (.iload_n 2, 1) := by decide +kernel
theorem dN_Mach_step_100 : decode cN_Mach_step 100 = .ok (.iload_n 3, 1) := by decide +kernel
theorem dN_Mach_step_101 : decode cN_Mach_step 101 = .ok (.invokestatic 101, 3) := by decide +kernel
theorem dN_Mach_step_104 : decode cN_Mach_step 104 = .ok (.ifCond .ne 13, 3) := by decide +kernel
theorem dN_Mach_step_107 : decode cN_Mach_step 107 = .ok (.new 72, 3) := by decide +kernel
theorem dN_Mach_step_110 : decode cN_Mach_step 110 = .ok (.dup, 1) := by decide +kernel
theorem dN_Mach_step_111 : decode cN_Mach_step 111 = .ok (.ldc 105, 2) := by decide +kernel
theorem dN_Mach_step_113 : decode cN_Mach_step 113 = .ok (.invokespecial 76, 3) := by decide +kernel
theorem dN_Mach_step_116 : decode cN_Mach_step 116 = .ok (.athrow, 1) := by decide +kernel
theorem dN_Mach_step_117 : decode cN_Mach_step 117 = .ok (.aload_n 0, 1) := by decide +kernel
theorem dN_Mach_step_118 : decode cN_Mach_step 118 = .ok (.getfield 10, 3) := by decide +kernel
theorem dN_Mach_step_121 : decode cN_Mach_step 121 = .ok (.iload_n 1, 1) := by decide +kernel
theorem dN_Mach_step_122 : decode cN_Mach_step 122 = .ok (.iload_n 2, 1) := by decide +kernel
theorem dN_Mach_step_123 : decode cN_Mach_step 123 = .ok (.iload_n 3, 1) := by decide +kernel
theorem dN_Mach_step_124 : decode cN_Mach_step 124 = .ok (.iload 4, 2) := by decide +kernel
theorem dN_Mach_step_126 : decode cN_Mach_step 126 = .ok (.iload 5, 2) := by decide +kernel
theorem dN_Mach_step_128 : decode cN_Mach_step 128 = .ok (.invokevirtual 107, 3) := by decide +kernel
theorem dN_Mach_step_131 : decode cN_Mach_step 131 = .ok (.aload_n 0, 1) := by decide +kernel
theorem dN_Mach_step_132 : decode cN_Mach_step 132 = .ok (.invokevirtual 83, 3) := by decide +kernel
theorem dN_Mach_step_135 : decode cN_Mach_step 135 = .ok (.return_, 1) := by decide +kernel
theorem dN_Mach_begin_0 : decode cN_Mach_begin 0 = .ok (.aload_n 0, 1) := by decide +kernel
theorem dN_Mach_begin_1 : decode cN_Mach_begin 1 = .ok (.getfield 10, 3) := by decide +kernel
theorem dN_Mach_begin_4 : decode cN_Mach_begin 4 = .ok (.iload_n 1, 1) := by decide +kernel
theorem dN_Mach_begin_5 : decode cN_Mach_begin 5 = .ok (.invokevirtual 86, 3) := by decide +kernel
theorem dN_Mach_begin_8 : decode cN_Mach_begin 8 = .ok (.ifCond .ne 13, 3) := by decide +kernel
theorem dN_Mach_begin_11 : decode cN_Mach_begin 11 = .ok (.new 90, 3) := by decide +kernel
theorem dN_Mach_begin_14 : decode cN_Mach_begin 14 = .ok (.dup, 1) := by decide +kernel
theorem dN_Mach_begin_15 : decode cN_Mach_begin 15 = .ok (.ldc 111, 2) := by decide +kernel
theorem dN_Mach_begin_17 : decode cN_Mach_begin 17 = .ok (.invokespecial 94, 3) := by decide +kernel
theorem dN_Mach_begin_20 : decode cN_Mach_begin 20 = .ok (.athrow, 1) := by decide +kernel
theorem dN_Mach_begin_21 : decode cN_Mach_begin 21 = .ok (.aload_n 0, 1) := by decide +kernel
theorem dN_Mach_begin_22 : decode cN_Mach_begin 22 = .ok (.getfield 10, 3) := by decide +kernel
theorem dN_Mach_begin_25 : decode cN_Mach_begin 25 = .ok (.iload_n 1, 1) := by decide +kernel
theorem dN_Mach_begin_26 : decode cN_Mach_begin 26 = .ok (.invokevirtual 113, 3) := by decide +kernel
theorem dN_Mach_begin_29 : decode cN_Mach_begin 29 = .ok (.aload_n 0, 1) := by decide +kernel
theorem dN_Mach_begin_30 : decode cN_Mach_begin 30 = .ok (.invokevirtual 83, 3) := by decide +kernel
theorem dN_Mach_begin_33 : decode cN_Mach_begin 33 = .ok (.return_, 1) := by decide +kernel
theorem dN_Mach_match_0 : decode cN_Mach_match 0 = .ok (.iload_n 3, 1) := by decide +kernel
theorem dN_Mach_match_1 : decode cN_Mach_match 1 = .ok (.ifCond .lt 8, 3) := by decide +kernel
theorem dN_Mach_match_4 : decode cN_Mach_match 4 = .ok (.iload_n 3, 1) := by decide +kernel
theorem dN_Mach_match_5 : decode cN_Mach_match 5 = .ok (.iconst 2, 1) := by decide +kernel
theorem dN_Mach_match_6 : decode cN_Mach_match 6 = .ok (.if_icmp .le 13, 3) := by decide +kernel
theorem dN_Mach_match_9 : decode cN_Mach_match 9 = .ok (.new 72, 3) := by decide +kernel
theorem dN_Mach_match_12 : decode cN_Mach_match 12 = .ok (.dup, 1) := by decide +kernel
theorem dN_Mach_match_13 : decode cN_Mach_match 13 = .ok (.ldc 126, 2) := by decide +kernel
theorem dN_Mach_match_15 : decode cN_Mach_match 15 = .ok (.invokespecial 76, 3) := by decide +kernel
theorem dN_Mach_match_18 : decode cN_Mach_match 18 = .ok (.athrow, 1) := by decide +kernel
theorem dN_Mach_match_19 : decode cN_Mach_match 19 = .ok (.aload_n 0, 1) := by decide +kernel
theorem dN_Mach_match_20 : decode cN_Mach_match 20 = .ok (.iload_n 1, 1) := by decide +kernel
theorem dN_Mach_match_21 : decode cN_Mach_match 21 = .ok (.iload 4, 2) := by decide +kernel
theorem dN_Mach_match_23 : decode cN_Mach_match 23 = .ok (.invokevirtual 128, 3) := by decide +kernel
theorem dN_Mach_match_26 : decode cN_Mach_match 26 = .ok (.ifCond .ne 13, 3) := by decide +kernel
theorem dN_Mach_match_29 : decode cN_Mach_match 29 = .ok (.new 72, 3) := by decide +kernel
theorem dN_Mach_match_32 : decode cN_Mach_match 32 = .ok (.dup, 1) := by decide +kernel
theorem dN_Mach_match_33 : decode cN_Mach_match 33 = .ok (.ldc 131, 2) := by decide +kernel
theorem dN_Mach_match_35 : decode cN_Mach_match 35 = .ok (.invokespecial 76, 3) := by decide +kernel
theorem dN_Mach_match_38 : decode cN_Mach_match 38 = .ok (.athrow, 1) := by decide +kernel
theorem dN_Mach_match_39 : decode cN_Mach_match 39 = .ok (.aload_n 0, 1) := by decide +kernel
theorem dN_Mach_match_40 : decode cN_Mach_match 40 = .ok (.getfield 30, 3) := by decide +kernel
theorem dN_Mach_match_43 : decode cN_Mach_match 43 = .ok (.iconst (-1), 1) := by decide +kernel
theorem dN_Mach_match_44 : decode cN_Mach_match 44 = .ok (.invokestatic 66, 3) := by decide +kernel
theorem dN_Mach_match_47 : decode cN_Mach_match 47 = .ok (.aload_n 0, 1) := by decide +kernel
theorem dN_Mach_match_48 : decode cN_Mach_match 48 = .ok (.getfield 26, 3) := by decide +kernel
theorem dN_Mach_match_51 : decode cN_Mach_match 51 = .ok (.invokevirtual 133, 3) := by decide +kernel
theorem dN_Mach_match_54 : decode cN_Mach_match 54 = .ok (.iload_n 3, 1) := by decide +kernel
theorem dN_Mach_match_55 : decode cN_Mach_match 55 = .ok (.iconst 1, 1) := by decide +kernel
theorem dN_Mach_match_56 : decode cN_Mach_match 56 = .ok (.if_icmp .ne 17, 3) := by decide +kernel
theorem dN_Mach_match_59 : decode cN_Mach_match 59 = .ok (.aload_n 0, 1) := by decide +kernel
theorem dN_Mach_match_60 : decode cN_Mach_match 60 = .ok (.getfield 46, 3) := by decide +kernel
theorem dN_Mach_match_63 : decode cN_Mach_match 63 = .ok (.iload_n 1, 1) := by decide +kernel
theorem dN_Mach_match_64 : decode cN_Mach_match 64 = .ok (.iload_n 2, 1) := by decide +kernel
theorem dN_Mach_match_65 : decode cN_Mach_match 65 = .ok (.iload 4, 2) := by decide +kernel
theorem dN_Mach_match_67 : decode cN_Mach_match 67 = .ok (.invokevirtual 136, 3) := by decide +kernel
theorem dN_Mach_match_70 : decode cN_Mach_match 70 = .ok (.goto 47, 3) := by decide +kernel
theorem dN_Mach_match_73 : decode cN_Mach_match 73 = .ok (.iload_n 3, 1) := by decide +kernel
theorem dN_Mach_match_74 : decode cN_Mach_match 74 = .ok (.iconst 2, 1) := by decide +kernel
theorem dN_Mach_match_75 : decode cN_Mach_match 75 = .ok (.if_icmp .ne 31, 3) := by decide +kernel
theorem dN_Mach_match_78 : decode cN_Mach_match 78 = .ok (.iload_n 1, 1) := by decide +kernel
theorem dN_Mach_match_79 : decode cN_Mach_match 79 = .ok (.ifCond .eq 27, 3) := by decide +kernel
theorem dN_Mach_match_82 : decode cN_Mach_match 82 = .ok (.aload_n 0, 1) := by decide +kernel
theorem dN_Mach_match_83 : decode cN_Mach_match 83 = .ok (.getfield 53, 3) := by decide +kernel
theorem dN_Mach_match_86 : decode cN_Mach_match 86 = .ok (.invokevirtual 140, 3) := by decide +kernel
theorem dN_Mach_match_89 : decode cN_Mach_match 89 = .ok (.ifCond .eq 17, 3) := by decide +kernel
theorem dN_Mach_match_92 : decode cN_Mach_match 92 = .ok (.aload_n 0, 1) := by decide +kernel
theorem dN_Mach_match_93 : decode cN_Mach_match 93 = .ok (.getfield 53, 3) := by decide +kernel
theorem dN_Mach_match_96 : decode cN_Mach_match 96 = .ok (.iload_n 1, 1) := by decide +kernel
theorem dN_Mach_match_97 : decode cN_Mach_match 97 = .ok (.iload_n 2, 1) := by decide +kernel
theorem dN_Mach_match_98 : decode cN_Mach_match 98 = .ok (.iload 4, 2) := by decide +kernel
theorem dN_Mach_match_100 : decode cN_Mach_match 100 = .ok (.invokevirtual 144, 3) := by decide +kernel
theorem dN_Mach_match_103 : decode cN_Mach_match 103 = .ok (.goto 14, 3) := by decide +kernel
theorem dN_Mach_match_106 : decode cN_Mach_match 106 = .ok (.aload_n 0, 1) := by decide +kernel
theorem dN_Mach_match_107 : decode cN_Mach_match 107 = .ok (.getfield 39, 3) := by decide +kernel
theorem dN_Mach_match_110 : decode cN_Mach_match 110 = .ok (.iload_n 1, 1) := by decide +kernel
theorem dN_Mach_match_111 : decode cN_Mach_match 111 = .ok (.iload_n 2, 1) := by decide +kernel
theorem dN_Mach_match_112 : decode cN_Mach_match 112 = .ok (.iload 4, 2) := by decide +kernel
theorem dN_Mach_match_114 : decode cN_Mach_match 114 = .ok (.invokevirtual 145, 3) := by decide +kernel
theorem dN_Mach_match_117 : decode cN_Mach_match 117 = .ok (.aload_n 0, 1) := by decide +kernel
theorem dN_Mach_match_118 : decode cN_Mach_match 118 = .ok (.getfield 26, 3) := by decide +kernel
theorem dN_Mach_match_121 : decode cN_Mach_match 121 = .ok (.aload_n 0, 1) := by decide +kernel
theorem dN_Mach_match_122 : decode cN_Mach_match 122 = .ok (.invokevirtual 146, 3) := by decide +kernel
theorem dN_Mach_match_125 : decode cN_Mach_match 125 = .ok (.invokevirtual 149, 3) := by decide +kernel
theorem dN_Mach_match_128 : decode cN_Mach_match 128 = .ok (.aload_n 0, 1) := by decide +kernel
theorem dN_Mach_match_129 : decode cN_Mach_match 129 = .ok (.getfield 30, 3) := by decide +kernel
theorem dN_Mach_match_132 : decode cN_Mach_match 132 = .ok (.iconst 1, 1) := by decide +kernel
theorem dN_Mach_match_133 : decode cN_Mach_match 133 = .ok (.iaload, 1) := by decide +kernel
theorem dN_Mach_match_134 : decode cN_Mach_match 134 = .ok (.ireturn, 1) := by decide +kernel
theorem dN_Mach_isQuestion_0 : decode cN_Mach_isQuestion 0 = .ok (.iload_n 1, 1) := by decide +kernel
theorem dN_Mach_isQuestion_1 : decode cN_Mach_isQuestion 1 = .ok (.ifCond .lt 27, 3) := by decide +kernel
theorem dN_Mach_isQuestion_4 : decode cN_Mach_isQuestion 4 = .ok (.iload_n 1, 1) := by decide +kernel
theorem dN_Mach_isQuestion_5 : decode cN_Mach_isQuestion 5 = .ok (.iconst 2, 1) := by decide +kernel
theorem dN_Mach_isQuestion_6 : decode cN_Mach_isQuestion 6 = .ok (.if_icmp .gt 22, 3) := by decide +kernel
theorem dN_Mach_isQuestion_9 : decode cN_Mach_isQuestion 9 = .ok (.iload_n 2, 1) := by decide +kernel
theorem dN_Mach_isQuestion_10 : decode cN_Mach_isQuestion 10 = .ok (.ifCond .lt 18, 3) := by decide +kernel
theorem dN_Mach_isQuestion_13 : decode cN_Mach_isQuestion 13 = .ok (.iload_n 2, 1) := by decide +kernel
theorem dN_Mach_isQuestion_14 : decode cN_Mach_isQuestion 14 = .ok (.aload_n 0, 1) := by decide +kernel
theorem dN_Mach_isQuestion_15 : decode cN_Mach_isQuestion 15 = .ok (.getfield 19, 3) := by decide +kernel
theorem dN_Mach_isQuestion_18 : decode cN_Mach_isQuestion 18 = .ok (.invokevirtual 116, 3) := by decide +kernel
theorem dN_Mach_isQuestion_21 : decode cN_Mach_isQuestion 21 = .ok (.if_icmp .gt 7, 3) := by decide +kernel
theorem dN_Mach_isQuestion_24 : decode cN_Mach_isQuestion 24 = .ok (.iconst 1, 1) := by decide +kernel
theorem dN_Mach_isQuestion_25 : decode cN_Mach_isQuestion 25 = .ok (.goto 4, 3) := by decide +kernel
theorem dN_Mach_isQuestion_28 : decode cN_Mach_isQuestion 28 = .ok (.iconst 0, 1) := by decide +kernel
theorem dN_Mach_isQuestion_29 : decode cN_Mach_isQuestion 29 = .ok (.ireturn, 1) := by decide +kernel
theorem dN_Mach_mostTaken_0 : decode cN_Mach_mostTaken 0 = .ok (.bipush 60, 2) := by decide +kernel
theorem dN_Mach_mostTaken_2 : decode cN_Mach_mostTaken 2 = .ok (.aload_n 0, 1) := by decide +kernel
theorem dN_Mach_mostTaken_3 : decode cN_Mach_mostTaken 3 = .ok (.getfield 10, 3) := by decide +kernel
theorem dN_Mach_mostTaken_6 : decode cN_Mach_mostTaken 6 = .ok (.invokevirtual 166, 3) := by decide +kernel
theorem dN_Mach_mostTaken_9 : decode cN_Mach_mostTaken 9 = .ok (.imul, 1) := by decide +kernel
theorem dN_Mach_mostTaken_10 : decode cN_Mach_mostTaken 10 = .ok (.aload_n 0, 1) := by decide +kernel
theorem dN_Mach_mostTaken_11 : decode cN_Mach_mostTaken 11 = .ok (.getfield 19, 3) := by decide +kernel
theorem dN_Mach_mostTaken_14 : decode cN_Mach_mostTaken 14 = .ok (.invokevirtual 116, 3) := by decide +kernel
theorem dN_Mach_mostTaken_17 : decode cN_Mach_mostTaken 17 = .ok (.bipush 20, 2) := by decide +kernel
theorem dN_Mach_mostTaken_19 : decode cN_Mach_mostTaken 19 = .ok (.iadd, 1) := by decide +kernel
theorem dN_Mach_mostTaken_20 : decode cN_Mach_mostTaken 20 = .ok (.imul, 1) := by decide +kernel
theorem dN_Mach_mostTaken_21 : decode cN_Mach_mostTaken 21 = .ok (.ireturn, 1) := by decide +kernel
theorem dN_Mach_ends_0 : decode cN_Mach_ends 0 = .ok (.aload_n 0, 1) := by decide +kernel
theorem dN_Mach_ends_1 : decode cN_Mach_ends 1 = .ok (.iload_n 1, 1) := by decide +kernel
theorem dN_Mach_ends_2 : decode cN_Mach_ends 2 = .ok (.iload_n 3, 1) := by decide +kernel
theorem dN_Mach_ends_3 : decode cN_Mach_ends 3 = .ok (.invokevirtual 128, 3) := by decide +kernel
theorem dN_Mach_ends_6 : decode cN_Mach_ends 6 = .ok (.ifCond .ne 13, 3) := by decide +kernel
theorem dN_Mach_ends_9 : decode cN_Mach_ends 9 = .ok (.new 72, 3) := by decide +kernel
theorem dN_Mach_ends_12 : decode cN_Mach_ends 12 = .ok (.dup, 1) := by decide +kernel
theorem dN_Mach_ends_13 : decode cN_Mach_ends 13 = .ok (.ldc 131, 2) := by decide +kernel
theorem dN_Mach_ends_15 : decode cN_Mach_ends 15 = .ok (.invokespecial 76, 3) := by decide +kernel
theorem dN_Mach_ends_18 : decode cN_Mach_ends 18 = .ok (.athrow, 1) := by decide +kernel
theorem dN_Mach_ends_19 : decode cN_Mach_ends 19 = .ok (.iload_n 2, 1) := by decide +kernel
theorem dN_Mach_ends_20 : decode cN_Mach_ends 20 = .ok (.ifCond .eq 17, 3) := by decide +kernel
theorem dN_Mach_ends_23 : decode cN_Mach_ends 23 = .ok (.iload_n 1, 1) := by decide +kernel
theorem dN_Mach_ends_24 : decode cN_Mach_ends 24 = .ok (.ifCond .ne 13, 3) := by decide +kernel
theorem dN_Mach_ends_27 : decode cN_Mach_ends 27 = .ok (.new 72, 3) := by decide +kernel
theorem dN_Mach_ends_30 : decode cN_Mach_ends 30 = .ok (.dup, 1) := by decide +kernel
theorem dN_Mach_ends_31 : decode cN_Mach_ends 31 = .ok (.ldc 152, 2) := by decide +kernel
theorem dN_Mach_ends_33 : decode cN_Mach_ends 33 = .ok (.invokespecial 76, 3) := by decide +kernel
theorem dN_Mach_ends_36 : decode cN_Mach_ends 36 = .ok (.athrow, 1) := by decide +kernel
theorem dN_Mach_ends_37 : decode cN_Mach_ends 37 = .ok (.aload_n 0, 1) := by decide +kernel
theorem dN_Mach_ends_38 : decode cN_Mach_ends 38 = .ok (.getfield 26, 3) := by decide +kernel
theorem dN_Mach_ends_41 : decode cN_Mach_ends 41 = .ok (.invokevirtual 133, 3) := by decide +kernel
theorem dN_Mach_ends_44 : decode cN_Mach_ends 44 = .ok (.aload_n 0, 1) := by decide +kernel
theorem dN_Mach_ends_45 : decode cN_Mach_ends 45 = .ok (.getfield 62, 3) := by decide +kernel
theorem dN_Mach_ends_48 : decode cN_Mach_ends 48 = .ok (.iload_n 1, 1) := by decide +kernel
theorem dN_Mach_ends_49 : decode cN_Mach_ends 49 = .ok (.iload_n 2, 1) := by decide +kernel
theorem dN_Mach_ends_50 : decode cN_Mach_ends 50 = .ok (.iload_n 3, 1) := by decide +kernel
theorem dN_Mach_ends_51 : decode cN_Mach_ends 51 = .ok (.invokevirtual 154, 3) := by decide +kernel
theorem dN_Mach_ends_54 : decode cN_Mach_ends 54 = .ok (.istore 4, 2) := by decide +kernel
theorem dN_Mach_ends_56 : decode cN_Mach_ends 56 = .ok (.aload_n 0, 1) := by decide +kernel
theorem dN_Mach_ends_57 : decode cN_Mach_ends 57 = .ok (.getfield 26, 3) := by decide +kernel
theorem dN_Mach_ends_60 : decode cN_Mach_ends 60 = .ok (.aload_n 0, 1) := by decide +kernel
theorem dN_Mach_ends_61 : decode cN_Mach_ends 61 = .ok (.invokevirtual 146, 3) := by decide +kernel
theorem dN_Mach_ends_64 : decode cN_Mach_ends 64 = .ok (.invokevirtual 149, 3) := by decide +kernel
theorem dN_Mach_ends_67 : decode cN_Mach_ends 67 = .ok (.iload 4, 2) := by decide +kernel
theorem dN_Mach_ends_69 : decode cN_Mach_ends 69 = .ok (.ireturn, 1) := by decide +kernel
theorem dN_Mach_keep_0 : decode cN_Mach_keep 0 = .ok (.iload_n 1, 1) := by decide +kernel
theorem dN_Mach_keep_1 : decode cN_Mach_keep 1 = .ok (.iconst 4, 1) := by decide +kernel
theorem dN_Mach_keep_2 : decode cN_Mach_keep 2 = .ok (.if_icmp .lt 9, 3) := by decide +kernel
theorem dN_Mach_keep_5 : decode cN_Mach_keep 5 = .ok (.iload_n 1, 1) := by decide +kernel
theorem dN_Mach_keep_6 : decode cN_Mach_keep 6 = .ok (.bipush 64, 2) := by decide +kernel
theorem dN_Mach_keep_8 : decode cN_Mach_keep 8 = .ok (.if_icmp .le 13, 3) := by decide +kernel
theorem dN_Mach_keep_11 : decode cN_Mach_keep 11 = .ok (.new 72, 3) := by decide +kernel
theorem dN_Mach_keep_14 : decode cN_Mach_keep 14 = .ok (.dup, 1) := by decide +kernel
theorem dN_Mach_keep_15 : decode cN_Mach_keep 15 = .ok (.ldc 157, 2) := by decide +kernel
theorem dN_Mach_keep_17 : decode cN_Mach_keep 17 = .ok (.invokespecial 76, 3) := by decide +kernel
theorem dN_Mach_keep_20 : decode cN_Mach_keep 20 = .ok (.athrow, 1) := by decide +kernel
theorem dN_Mach_keep_21 : decode cN_Mach_keep 21 = .ok (.aload_n 0, 1) := by decide +kernel
theorem dN_Mach_keep_22 : decode cN_Mach_keep 22 = .ok (.getfield 62, 3) := by decide +kernel
theorem dN_Mach_keep_25 : decode cN_Mach_keep 25 = .ok (.iload_n 1, 1) := by decide +kernel
theorem dN_Mach_keep_26 : decode cN_Mach_keep 26 = .ok (.invokevirtual 159, 3) := by decide +kernel
theorem dN_Mach_keep_29 : decode cN_Mach_keep 29 = .ok (.return_, 1) := by decide +kernel
