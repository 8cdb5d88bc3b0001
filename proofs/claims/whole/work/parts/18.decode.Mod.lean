theorem dN_Mod_init_0 : decode cN_Mod_init 0 = .ok (.aload_n 0, 1) := by decide +kernel
theorem dN_Mod_init_1 : decode cN_Mod_init 1 = .ok (.invokespecial 1, 3) := by decide +kernel
theorem dN_Mod_init_4 : decode cN_Mod_init 4 = .ok (.aload_n 0, 1) := by decide +kernel
theorem dN_Mod_init_5 : decode cN_Mod_init 5 = .ok (.iconst 1, 1) := by decide +kernel
theorem dN_Mod_init_6 : decode cN_Mod_init 6 = .ok (.putfield 7, 3) := by decide +kernel
theorem dN_Mod_init_9 : decode cN_Mod_init 9 = .ok (.aload_n 0, 1) := by decide +kernel
theorem dN_Mod_init_10 : decode cN_Mod_init 10 = .ok (.sipush 200, 3) := by decide +kernel
theorem dN_Mod_init_13 : decode cN_Mod_init 13 = .ok (.newarray .int, 2) := by decide +kernel
theorem dN_Mod_init_15 : decode cN_Mod_init 15 = .ok (.putfield 13, 3) := by decide +kernel
theorem dN_Mod_init_18 : decode cN_Mod_init 18 = .ok (.aload_n 0, 1) := by decide +kernel
theorem dN_Mod_init_19 : decode cN_Mod_init 19 = .ok (.sipush 200, 3) := by decide +kernel
theorem dN_Mod_init_22 : decode cN_Mod_init 22 = .ok (.newarray .int, 2) := by decide +kernel
theorem dN_Mod_init_24 : decode cN_Mod_init 24 = .ok (.putfield 17, 3) := by decide +kernel
theorem dN_Mod_init_27 : decode cN_Mod_init 27 = .ok (.aload_n 0, 1) := by decide +kernel
theorem dN_Mod_init_28 : decode cN_Mod_init 28 = .ok (.sipush 200, 3) := by decide +kernel
theorem dN_Mod_init_31 : decode cN_Mod_init 31 = .ok (.newarray .int, 2) := by decide +kernel
theorem dN_Mod_init_33 : decode cN_Mod_init 33 = .ok (.putfield 20, 3) := by decide +kernel
theorem dN_Mod_init_36 : decode cN_Mod_init 36 = .ok (.aload_n 0, 1) := by decide +kernel
theorem dN_Mod_init_37 : decode cN_Mod_init 37 = .ok (.sipush 200, 3) := by decide +kernel
theorem dN_Mod_init_40 : decode cN_Mod_init 40 = .ok (.newarray .int, 2) := by decide +kernel
theorem dN_Mod_init_42 : decode cN_Mod_init 42 = .ok (.putfield 23, 3) := by decide +kernel
theorem dN_Mod_init_45 : decode cN_Mod_init 45 = .ok (.aload_n 0, 1) := by decide +kernel
theorem dN_Mod_init_46 : decode cN_Mod_init 46 = .ok (.sipush 200, 3) := by decide +kernel
theorem dN_Mod_init_49 : decode cN_Mod_init 49 = .ok (.newarray .int, 2) := by decide +kernel
theorem dN_Mod_init_51 : decode cN_Mod_init 51 = .ok (.putfield 26, 3) := by decide +kernel
theorem dN_Mod_init_54 : decode cN_Mod_init 54 = .ok (.aload_n 0, 1) := by decide +kernel
theorem dN_Mod_init_55 : decode cN_Mod_init 55 = .ok (.ldc 29, 2) := by decide +kernel
theorem dN_Mod_init_57 : decode cN_Mod_init 57 = .ok (.newarray .boolean, 2) := by decide +kernel
theorem dN_Mod_init_59 : decode cN_Mod_init 59 = .ok (.putfield 30, 3) := by decide +kernel
theorem dN_Mod_init_62 : decode cN_Mod_init 62 = .ok (.aload_n 0, 1) := by decide +kernel
theorem dN_Mod_init_63 : decode cN_Mod_init 63 = .ok (.ldc 29, 2) := by decide +kernel
theorem dN_Mod_init_65 : decode cN_Mod_init 65 = .ok (.newarray .boolean, 2) := by decide +kernel
theorem dN_Mod_init_67 : decode cN_Mod_init 67 = .ok (.putfield 34, 3) := by decide +kernel
theorem dN_Mod_init_70 : decode cN_Mod_init 70 = .ok (.aload_n 0, 1) := by decide +kernel
theorem dN_Mod_init_71 : decode cN_Mod_init 71 = .ok (.bipush 20, 2) := by decide +kernel
theorem dN_Mod_init_73 : decode cN_Mod_init 73 = .ok (.newarray .int, 2) := by decide +kernel
theorem dN_Mod_init_75 : decode cN_Mod_init 75 = .ok (.putfield 37, 3) := by decide +kernel
theorem dN_Mod_init_78 : decode cN_Mod_init 78 = .ok (.aload_n 0, 1) := by decide +kernel
theorem dN_Mod_init_79 : decode cN_Mod_init 79 = .ok (.bipush 20, 2) := by decide +kernel
theorem dN_Mod_init_81 : decode cN_Mod_init 81 = .ok (.newarray .int, 2) := by decide +kernel
theorem dN_Mod_init_83 : decode cN_Mod_init 83 = .ok (.putfield 40, 3) := by decide +kernel
theorem dN_Mod_init_86 : decode cN_Mod_init 86 = .ok (.aload_n 0, 1) := by decide +kernel
theorem dN_Mod_init_87 : decode cN_Mod_init 87 = .ok (.sipush 500, 3) := by decide +kernel
theorem dN_Mod_init_90 : decode cN_Mod_init 90 = .ok (.newarray .int, 2) := by decide +kernel
theorem dN_Mod_init_92 : decode cN_Mod_init 92 = .ok (.putfield 43, 3) := by decide +kernel
theorem dN_Mod_init_95 : decode cN_Mod_init 95 = .ok (.aload_n 0, 1) := by decide +kernel
theorem dN_Mod_init_96 : decode cN_Mod_init 96 = .ok (.sipush 500, 3) := by decide +kernel
theorem dN_Mod_init_99 : decode cN_Mod_init 99 = .ok (.newarray .int, 2) := by decide +kernel
theorem dN_Mod_init_101 : decode cN_Mod_init 101 = .ok (.putfield 46, 3) := by decide +kernel
theorem dN_Mod_init_104 : decode cN_Mod_init 104 = .ok (.aload_n 0, 1) := by decide +kernel
theorem dN_Mod_init_105 : decode cN_Mod_init 105 = .ok (.sipush 300, 3) := by decide +kernel
theorem dN_Mod_init_108 : decode cN_Mod_init 108 = .ok (.newarray .int, 2) := by decide +kernel
theorem dN_Mod_init_110 : decode cN_Mod_init 110 = .ok (.putfield 49, 3) := by decide +kernel
theorem dN_Mod_init_113 : decode cN_Mod_init 113 = .ok (.aload_n 0, 1) := by decide +kernel
theorem dN_Mod_init_114 : decode cN_Mod_init 114 = .ok (.sipush 300, 3) := by decide +kernel
theorem dN_Mod_init_117 : decode cN_Mod_init 117 = .ok (.newarray .int, 2) := by decide +kernel
theorem dN_Mod_init_119 : decode cN_Mod_init 119 = .ok (.putfield 52, 3) := by decide +kernel
theorem dN_Mod_init_122 : decode cN_Mod_init 122 = .ok (.aload_n 0, 1) := by decide +kernel
theorem dN_Mod_init_123 : decode cN_Mod_init 123 = .ok (.sipush 200, 3) := by decide +kernel
theorem dN_Mod_init_126 : decode cN_Mod_init 126 = .ok (.newarray .boolean, 2) := by decide +kernel
theorem dN_Mod_init_128 : decode cN_Mod_init 128 = .ok (.putfield 55, 3) := by decide +kernel
theorem dN_Mod_init_131 : decode cN_Mod_init 131 = .ok (.aload_n 0, 1) := by decide +kernel
theorem dN_Mod_init_132 : decode cN_Mod_init 132 = .ok (.sipush 200, 3) := by decide +kernel
theorem dN_Mod_init_135 : decode cN_Mod_init 135 = .ok (.newarray .int, 2) := by decide +kernel
theorem dN_Mod_init_137 : decode cN_Mod_init 137 = .ok (.putfield 58, 3) := by decide +kernel
theorem dN_Mod_init_140 : decode cN_Mod_init 140 = .ok (.aload_n 0, 1) := by decide +kernel
theorem dN_Mod_init_141 : decode cN_Mod_init 141 = .ok (.sipush 200, 3) := by decide +kernel
theorem dN_Mod_init_144 : decode cN_Mod_init 144 = .ok (.newarray .int, 2) := by decide +kernel
theorem dN_Mod_init_146 : decode cN_Mod_init 146 = .ok (.putfield 61, 3) := by decide +kernel
theorem dN_Mod_init_149 : decode cN_Mod_init 149 = .ok (.aload_n 0, 1) := by decide +kernel
theorem dN_Mod_init_150 : decode cN_Mod_init 150 = .ok (.sipush 200, 3) := by decide +kernel
theorem dN_Mod_init_153 : decode cN_Mod_init 153 = .ok (.newarray .int, 2) := by decide +kernel
theorem dN_Mod_init_155 : decode cN_Mod_init 155 = .ok (.putfield 64, 3) := by decide +kernel
theorem dN_Mod_init_158 : decode cN_Mod_init 158 = .ok (.aload_n 0, 1) := by decide +kernel
theorem dN_Mod_init_159 : decode cN_Mod_init 159 = .ok (.sipush 200, 3) := by decide +kernel
theorem dN_Mod_init_162 : decode cN_Mod_init 162 = .ok (.newarray .int, 2) := by decide +kernel
theorem dN_Mod_init_164 : decode cN_Mod_init 164 = .ok (.putfield 67, 3) := by decide +kernel
theorem dN_Mod_init_167 : decode cN_Mod_init 167 = .ok (.iconst 0, 1) := by decide +kernel
theorem dN_Mod_init_168 : decode cN_Mod_init 168 = .ok (.istore_n 1, 1) := by decide +kernel
theorem dN_Mod_init_169 : decode cN_Mod_init 169 = .ok (.iload_n 1, 1) := by decide +kernel
theorem dN_Mod_init_170 : decode cN_Mod_init 170 = .ok (.bipush 20, 2) := by decide +kernel
theorem dN_Mod_init_172 : decode cN_Mod_init 172 = .ok (.if_icmp .ge 16, 3) := by decide +kernel
theorem dN_Mod_init_175 : decode cN_Mod_init 175 = .ok (.aload_n 0, 1) := by decide +kernel
theorem dN_Mod_init_176 : decode cN_Mod_init 176 = .ok (.getfield 40, 3) := by decide +kernel
theorem dN_Mod_init_179 : decode cN_Mod_init 179 = .ok (.iload_n 1, 1) := by decide +kernel
theorem dN_Mod_init_180 : decode cN_Mod_init 180 = .ok (.iconst (-1), 1) := by decide +kernel
theorem dN_Mod_init_181 : decode cN_Mod_init 181 = .ok (.iastore, 1) := by decide +kernel
theorem dN_Mod_init_182 : decode cN_Mod_init 182 = .ok (.iinc 1 1, 3) := by decide +kernel
theorem dN_Mod_init_185 : decode cN_Mod_init 185 = .ok (.goto (-16), 3) := by decide +kernel
theorem dN_Mod_init_188 : decode cN_Mod_init 188 = .ok (.return_, 1) := by decide +kernel
theorem dN_Mod_thrown_0 : decode cN_Mod_thrown 0 = .ok (.aload_n 0, 1) := by decide +kernel
theorem dN_Mod_thrown_1 : decode cN_Mod_thrown 1 = .ok (.getfield 70, 3) := by decide +kernel
theorem dN_Mod_thrown_4 : decode cN_Mod_thrown 4 = .ok (.ireturn, 1) := by decide +kernel
theorem dN_Mod_lay_0 : decode cN_Mod_lay 0 = .ok (.aload_n 0, 1) := by decide +kernel
theorem dN_Mod_lay_1 : decode cN_Mod_lay 1 = .ok (.iload_n 1, 1) := by decide +kernel
theorem dN_Mod_lay_2 : decode cN_Mod_lay 2 = .ok (.iconst 1, 1) := by decide +kernel
theorem dN_Mod_lay_3 : decode cN_Mod_lay 3 = .ok (.if_icmp .lt 10, 3) := by decide +kernel
theorem dN_Mod_lay_6 : decode cN_Mod_lay 6 = .ok (.iload_n 1, 1) := by decide +kernel
theorem dN_Mod_lay_7 : decode cN_Mod_lay 7 = .ok (.sipush 200, 3) := by decide +kernel
theorem dN_Mod_lay_10 : decode cN_Mod_lay 10 = .ok (.if_icmp .le 7, 3) := by decide +kernel
theorem dN_Mod_lay_13 : decode cN_Mod_lay 13 = .ok (.iconst 1, 1) := by decide +kernel
theorem dN_Mod_lay_14 : decode cN_Mod_lay 14 = .ok (.goto 4, 3) := by decide +kernel
theorem dN_Mod_lay_17 : decode cN_Mod_lay 17 = .ok (.iconst 0, 1) := by decide +kernel
theorem dN_Mod_lay_18 : decode cN_Mod_lay 18 = .ok (.putfield 70, 3) := by decide +kernel
theorem dN_Mod_lay_21 : decode cN_Mod_lay 21 = .ok (.aload_n 0, 1) := by decide +kernel
theorem dN_Mod_lay_22 : decode cN_Mod_lay 22 = .ok (.getfield 70, 3) := by decide +kernel
theorem dN_Mod_lay_25 : decode cN_Mod_lay 25 = .ok (.ifCond .le 4, 3) := by decide +kernel
theorem dN_Mod_lay_28 : decode cN_Mod_lay 28 = .ok (.return_, 1) := by decide +kernel
theorem dN_Mod_lay_29 : decode cN_Mod_lay 29 = .ok (.aload_n 0, 1) := by decide +kernel
theorem dN_Mod_lay_30 : decode cN_Mod_lay 30 = .ok (.iload_n 1, 1) := by decide +kernel
theorem dN_Mod_lay_31 : decode cN_Mod_lay 31 = .ok (.putfield 7, 3) := by decide +kernel
theorem dN_Mod_lay_34 : decode cN_Mod_lay 34 = .ok (.aload_n 0, 1) := by decide +kernel
theorem dN_Mod_lay_35 : decode cN_Mod_lay 35 = .ok (.iconst 0, 1) := by decide +kernel
theorem dN_Mod_lay_36 : decode cN_Mod_lay 36 = .ok (.putfield 73, 3) := by decide +kernel
theorem dN_Mod_lay_39 : decode cN_Mod_lay 39 = .ok (.iconst 0, 1) := by decide +kernel
theorem dN_Mod_lay_40 : decode cN_Mod_lay 40 = .ok (.istore_n 2, 1) := by decide +kernel
theorem dN_Mod_lay_41 : decode cN_Mod_lay 41 = .ok (.iload_n 2, 1) := by decide +kernel
theorem dN_Mod_lay_42 : decode cN_Mod_lay 42 = .ok (.iload_n 1, 1) := by decide +kernel
theorem dN_Mod_lay_43 : decode cN_Mod_lay 43 = .ok (.if_icmp .ge 16, 3) := by decide +kernel
theorem dN_Mod_lay_46 : decode cN_Mod_lay 46 = .ok (.aload_n 0, 1) := by decide +kernel
theorem dN_Mod_lay_47 : decode cN_Mod_lay 47 = .ok (.getfield 13, 3) := by decide +kernel
theorem dN_Mod_lay_50 : decode cN_Mod_lay 50 = .ok (.iload_n 2, 1) := by decide +kernel
theorem dN_Mod_lay_51 : decode cN_Mod_lay 51 = .ok (.iconst 5, 1) := by decide +kernel
theorem dN_Mod_lay_52 : decode cN_Mod_lay 52 = .ok (.iastore, 1) := by decide +kernel
theorem dN_Mod_lay_53 : decode cN_Mod_lay 53 = .ok (.iinc 2 1, 3) := by decide +kernel
theorem dN_Mod_lay_56 : decode cN_Mod_lay 56 = .ok (.goto (-15), 3) := by decide +kernel
theorem dN_Mod_lay_59 : decode cN_Mod_lay 59 = .ok (.return_, 1) := by decide +kernel
theorem dN_Mod_step_0 : decode cN_Mod_step 0 = .ok (.aload_n 0, 1) := by decide +kernel
theorem dN_Mod_step_1 : decode cN_Mod_step 1 = .ok (.aload_n 0, 1) := by decide +kernel
theorem dN_Mod_step_2 : decode cN_Mod_step 2 = .ok (.iload_n 1, 1) := by decide +kernel
theorem dN_Mod_step_3 : decode cN_Mod_step 3 = .ok (.invokevirtual 76, 3) := by decide +kernel
theorem dN_Mod_step_6 : decode cN_Mod_step 6 = .ok (.ifCond .eq 35, 3) := by decide +kernel
theorem dN_Mod_step_9 : decode cN_Mod_step 9 = .ok (.iload_n 1, 1) := by decide +kernel
theorem dN_Mod_step_10 : decode cN_Mod_step 10 = .ok (.ifCond .eq 31, 3) := by decide +kernel
theorem dN_Mod_step_13 : decode cN_Mod_step 13 = .ok (.iload_n 2, 1) := by decide +kernel
theorem dN_Mod_step_14 : decode cN_Mod_step 14 = .ok (.iconst 5, 1) := by decide +kernel
theorem dN_Mod_step_15 : decode cN_Mod_step 15 = .ok (.if_icmp .eq 12, 3) := by decide +kernel
theorem dN_Mod_step_18 : decode cN_Mod_step 18 = .ok (.aload_n 0, 1) := by decide +kernel
theorem dN_Mod_step_19 : decode cN_Mod_step 19 = .ok (.iload 4, 2) := by decide +kernel
theorem dN_Mod_step_21 : decode cN_Mod_step 21 = .ok (.invokevirtual 76, 3) := by decide +kernel
theorem dN_Mod_step_24 : decode cN_Mod_step 24 = .ok (.ifCond .eq 17, 3) := by decide +kernel
theorem dN_Mod_step_27 : decode cN_Mod_step 27 = .ok (.iload_n 2, 1) := by decide +kernel
theorem dN_Mod_step_28 : decode cN_Mod_step 28 = .ok (.iconst 2, 1) := by decide +kernel
theorem dN_Mod_step_29 : decode cN_Mod_step 29 = .ok (.if_icmp .ne 16, 3) := by decide +kernel
theorem dN_Mod_step_32 : decode cN_Mod_step 32 = .ok (.aload_n 0, 1) := by decide +kernel
theorem dN_Mod_step_33 : decode cN_Mod_step 33 = .ok (.iload 5, 2) := by decide +kernel
theorem dN_Mod_step_35 : decode cN_Mod_step 35 = .ok (.invokevirtual 76, 3) := by decide +kernel
theorem dN_Mod_step_38 : decode cN_Mod_step 38 = .ok (.ifCond .ne 7, 3) := by decide +kernel
theorem dN_Mod_step_41 : decode cN_Mod_step 41 = .ok (.iconst 1, 1) := by decide +kernel
theorem dN_Mod_step_42 : decode cN_Mod_step 42 = .ok (.goto 4, 3) := by decide +kernel
theorem dN_Mod_step_45 : decode cN_Mod_step 45 = .ok (.iconst 0, 1) := by decide +kernel
theorem dN_Mod_step_46 : decode cN_Mod_step 46 = .ok (.putfield 70, 3) := by decide +kernel
theorem dN_Mod_step_49 : decode cN_Mod_step 49 = .ok (.iload_n 2, 1) := by decide +kernel
theorem dN_Mod_step_50 : decode cN_Mod_step 50 = .ok (.iconst 2, 1) := by decide +kernel
theorem dN_Mod_step_51 : decode cN_Mod_step 51 = .ok (.if_icmp .eq 67, 3) := by decide +kernel
theorem dN_Mod_step_54 : decode cN_Mod_step 54 = .ok (.iload_n 2, 1) := by decide +kernel
theorem dN_Mod_step_55 : decode cN_Mod_step 55 = .ok (.iconst 5, 1) := by decide +kernel
theorem dN_Mod_step_56 : decode cN_Mod_step 56 = .ok (.if_icmp .eq 62, 3) := by decide +kernel
theorem dN_Mod_step_59 : decode cN_Mod_step 59 = .ok (.iload_n 2, 1) := by decide +kernel
theorem dN_Mod_step_60 : decode cN_Mod_step 60 = .ok (.iconst 1, 1) := by decide +kernel
theorem dN_Mod_step_61 : decode cN_Mod_step 61 = .ok (.if_icmp .ne 26, 3) := by decide +kernel
theorem dN_Mod_step_64 : decode cN_Mod_step 64 = .ok (.iload_n 3, 1) := by decide +kernel
theorem dN_Mod_step_65 : decode cN_Mod_step 65 = .ok (.ifCond .lt 22, 3) := by decide +kernel
theorem dN_Mod_step_68 : decode cN_Mod_step 68 = .ok (.iload_n 3, 1) := by decide +kernel
theorem dN_Mod_step_69 : decode cN_Mod_step 69 = .ok (.ldc 80, 2) := by decide +kernel
theorem dN_Mod_step_71 : decode cN_Mod_step 71 = .ok (.if_icmp .ge 16, 3) := by decide +kernel
theorem dN_Mod_step_74 : decode cN_Mod_step 74 = .ok (.iload_n 3, 1) := by decide +kernel
theorem dN_Mod_step_75 : decode cN_Mod_step 75 = .ok (.sipush 256, 3) := by decide +kernel
theorem dN_Mod_step_78 : decode cN_Mod_step 78 = .ok (.idiv, 1) := by decide +kernel
theorem dN_Mod_step_79 : decode cN_Mod_step 79 = .ok (.iload_n 3, 1) := by decide +kernel
theorem dN_Mod_step_80 : decode cN_Mod_step 80 = .ok (.sipush 256, 3) := by decide +kernel
theorem dN_Mod_step_83 : decode cN_Mod_step 83 = .ok (.irem, 1) := by decide +kernel
theorem dN_Mod_step_84 : decode cN_Mod_step 84 = .ok (.if_icmp .le 34, 3) := by decide +kernel
theorem dN_Mod_step_87 : decode cN_Mod_step 87 = .ok (.iload_n 2, 1) := by decide +kernel
theorem dN_Mod_step_88 : decode cN_Mod_step 88 = .ok (.iconst 3, 1) := by decide +kernel
theorem dN_Mod_step_89 : decode cN_Mod_step 89 = .ok (.if_icmp .ne 14, 3) := by decide +kernel
theorem dN_Mod_step_92 : decode cN_Mod_step 92 = .ok (.iload_n 3, 1) := by decide +kernel
theorem dN_Mod_step_93 : decode cN_Mod_step 93 = .ok (.iconst 2, 1) := by decide +kernel
theorem dN_Mod_step_94 : decode cN_Mod_step 94 = .ok (.if_icmp .lt 9, 3) := by decide +kernel
theorem dN_Mod_step_97 : decode cN_Mod_step 97 = .ok (.iload_n 3, 1) := by decide +kernel
theorem dN_Mod_step_98 : decode cN_Mod_step 98 = .ok (.bipush 20, 2) := by decide +kernel
theorem dN_Mod_step_100 : decode cN_Mod_step 100 = .ok (.if_icmp .lt 18, 3) := by decide +kernel
theorem dN_Mod_step_103 : decode cN_Mod_step 103 = .ok (.iload_n 2, 1) := by decide +kernel
theorem dN_Mod_step_104 : decode cN_Mod_step 104 = .ok (.iconst 4, 1) := by decide +kernel
theorem dN_Mod_step_105 : decode cN_Mod_step 105 = .ok (.if_icmp .ne 17, 3) := by decide +kernel
theorem dN_Mod_step_108 : decode cN_Mod_step 108 = .ok (.iload_n 3, 1) := by decide +kernel
theorem dN_Mod_step_109 : decode cN_Mod_step 109 = .ok (.ifCond .lt 13, 3) := by decide +kernel
theorem dN_Mod_step_112 : decode cN_Mod_step 112 = .ok (.iload_n 3, 1) := by decide +kernel
theorem dN_Mod_step_113 : decode cN_Mod_step 113 = .ok (.bipush 6, 2) := by decide +kernel
theorem dN_Mod_step_115 : decode cN_Mod_step 115 = .ok (.if_icmp .ge 7, 3) := by decide +kernel
theorem dN_Mod_step_118 : decode cN_Mod_step 118 = .ok (.iconst 1, 1) := by decide +kernel
theorem dN_Mod_step_119 : decode cN_Mod_step 119 = .ok (.goto 4, 3) := by decide +kernel
theorem dN_Mod_step_122 : decode cN_Mod_step 122 = .ok (.iconst 0, 1) := by decide +kernel
theorem dN_Mod_step_123 : decode cN_Mod_step 123 = .ok (.istore 6, 2) := by decide +kernel
theorem dN_Mod_step_125 : decode cN_Mod_step 125 = .ok (.aload_n 0, 1) := by decide +kernel
theorem dN_Mod_step_126 : decode cN_Mod_step 126 = .ok (.getfield 70, 3) := by decide +kernel
theorem dN_Mod_step_129 : decode cN_Mod_step 129 = .ok (.ifCond .ne 13, 3) := by decide +kernel
theorem dN_Mod_step_132 : decode cN_Mod_step 132 = .ok (.iload 6, 2) := by decide +kernel
theorem dN_Mod_step_134 : decode cN_Mod_step 134 = .ok (.ifCond .ne 8, 3) := by decide +kernel
theorem dN_Mod_step_137 : decode cN_Mod_step 137 = .ok (.aload_n 0, 1) := by decide +kernel
theorem dN_Mod_step_138 : decode cN_Mod_step 138 = .ok (.iconst 2, 1) := by decide +kernel
theorem dN_Mod_step_139 : decode cN_Mod_step 139 = .ok (.putfield 70, 3) := by decide +kernel
theorem dN_Mod_step_142 : decode cN_Mod_step 142 = .ok (.aload_n 0, 1) := by decide +kernel
theorem dN_Mod_step_143 : decode cN_Mod_step 143 = .ok (.getfield 70, 3) := by decide +kernel
theorem dN_Mod_step_146 : decode cN_Mod_step 146 = .ok (.ifCond .le 4, 3) := by decide +kernel
theorem dN_Mod_step_149 : decode cN_Mod_step 149 = .ok (.return_, 1) := by decide +kernel
theorem dN_Mod_step_150 : decode cN_Mod_step 150 = .ok (.aload_n 0, 1) := by decide +kernel
theorem dN_Mod_step_151 : decode cN_Mod_step 151 = .ok (.getfield 13, 3) := by decide +kernel
theorem dN_Mod_step_154 : decode cN_Mod_step 154 = .ok (.iload_n 1, 1) := by decide +kernel
theorem dN_Mod_step_155 : decode cN_Mod_step 155 = .ok (.iload_n 2, 1) := by decide +kernel
theorem dN_Mod_step_156 : decode cN_Mod_step 156 = .ok (.iastore, 1) := by decide +kernel
theorem dN_Mod_step_157 : decode cN_Mod_step 157 = .ok (.aload_n 0, 1) := by decide +kernel
theorem dN_Mod_step_158 : decode cN_Mod_step 158 = .ok (.getfield 17, 3) := by decide +kernel
theorem dN_Mod_step_161 : decode cN_Mod_step 161 = .ok (.iload_n 1, 1) := by decide +kernel
theorem dN_Mod_step_162 : decode cN_Mod_step 162 = .ok (.iload_n 3, 1) := by decide +kernel
theorem dN_Mod_step_163 : decode cN_Mod_step 163 = .ok (.iastore, 1) := by decide +kernel
theorem dN_Mod_step_164 : decode cN_Mod_step 164 = .ok (.aload_n 0, 1) := by decide +kernel
theorem dN_Mod_step_165 : decode cN_Mod_step 165 = .ok (.getfield 20, 3) := by decide +kernel
theorem dN_Mod_step_168 : decode cN_Mod_step 168 = .ok (.iload_n 1, 1) := by decide +kernel
theorem dN_Mod_step_169 : decode cN_Mod_step 169 = .ok (.iload 4, 2) := by decide +kernel
theorem dN_Mod_step_171 : decode cN_Mod_step 171 = .ok (.iastore, 1) := by decide +kernel
theorem dN_Mod_step_172 : decode cN_Mod_step 172 = .ok (.aload_n 0, 1) := by decide +kernel
theorem dN_Mod_step_173 : decode cN_Mod_step 173 = .ok (.getfield 23, 3) := by decide +kernel
theorem dN_Mod_step_176 : decode cN_Mod_step 176 = .ok (.iload_n 1, 1) := by decide +kernel
theorem dN_Mod_step_177 : decode cN_Mod_step 177 = .ok (.iload 5, 2) := by decide +kernel
theorem dN_Mod_step_179 : decode cN_Mod_step 179 = .ok (.iastore, 1) := by decide +kernel
theorem dN_Mod_step_180 : decode cN_Mod_step 180 = .ok (.return_, 1) := by decide +kernel
theorem dN_Mod_isStep_0 : decode cN_Mod_isStep 0 = .ok (.iload_n 1, 1) := by decide +kernel
theorem dN_Mod_isStep_1 : decode cN_Mod_isStep 1 = .ok (.ifCond .lt 15, 3) := by decide +kernel
theorem dN_Mod_isStep_4 : decode cN_Mod_isStep 4 = .ok (.iload_n 1, 1) := by decide +kernel
theorem dN_Mod_isStep_5 : decode cN_Mod_isStep 5 = .ok (.aload_n 0, 1) := by decide +kernel
theorem dN_Mod_isStep_6 : decode cN_Mod_isStep 6 = .ok (.getfield 7, 3) := by decide +kernel
theorem dN_Mod_isStep_9 : decode cN_Mod_isStep 9 = .ok (.if_icmp .ge 7, 3) := by decide +kernel
theorem dN_Mod_isStep_12 : decode cN_Mod_isStep 12 = .ok (.iconst 1, 1) := by decide +kernel
theorem dN_Mod_isStep_13 : decode cN_Mod_isStep 13 = .ok (.goto 4, 3) := by decide +kernel
theorem dN_Mod_isStep_16 : decode cN_Mod_isStep 16 = .ok (.iconst 0, 1) := by decide +kernel
theorem dN_Mod_isStep_17 : decode cN_Mod_isStep 17 = .ok (.ireturn, 1) := by decide +kernel
theorem dN_Mod_begin_0 : decode cN_Mod_begin 0 = .ok (.aload_n 0, 1) := by decide +kernel
theorem dN_Mod_begin_1 : decode cN_Mod_begin 1 = .ok (.aload_n 0, 1) := by decide +kernel
theorem dN_Mod_begin_2 : decode cN_Mod_begin 2 = .ok (.iload_n 1, 1) := by decide +kernel
theorem dN_Mod_begin_3 : decode cN_Mod_begin 3 = .ok (.invokevirtual 76, 3) := by decide +kernel
theorem dN_Mod_begin_6 : decode cN_Mod_begin 6 = .ok (.ifCond .eq 7, 3) := by decide +kernel
theorem dN_Mod_begin_9 : decode cN_Mod_begin 9 = .ok (.iconst 0, 1) := by decide +kernel
theorem dN_Mod_begin_10 : decode cN_Mod_begin 10 = .ok (.goto 4, 3) := by decide +kernel
theorem dN_Mod_begin_13 : decode cN_Mod_begin 13 = .ok (.iconst 1, 1) := by decide +kernel
theorem dN_Mod_begin_14 : decode cN_Mod_begin 14 = .ok (.putfield 70, 3) := by decide +kernel
theorem dN_Mod_begin_17 : decode cN_Mod_begin 17 = .ok (.aload_n 0, 1) := by decide +kernel
theorem dN_Mod_begin_18 : decode cN_Mod_begin 18 = .ok (.getfield 70, 3) := by decide +kernel
theorem dN_Mod_begin_21 : decode cN_Mod_begin 21 = .ok (.ifCond .ne 8, 3) := by decide +kernel
theorem dN_Mod_begin_24 : decode cN_Mod_begin 24 = .ok (.aload_n 0, 1) := by decide +kernel
theorem dN_Mod_begin_25 : decode cN_Mod_begin 25 = .ok (.iload_n 1, 1) := by decide +kernel
theorem dN_Mod_begin_26 : decode cN_Mod_begin 26 = .ok (.putfield 73, 3) := by decide +kernel
theorem dN_Mod_begin_29 : decode cN_Mod_begin 29 = .ok (.return_, 1) := by decide +kernel
theorem dN_Mod_put_0 : decode cN_Mod_put 0 = .ok (.aload_n 0, 1) := by decide +kernel
theorem dN_Mod_put_1 : decode cN_Mod_put 1 = .ok (.iconst 0, 1) := by decide +kernel
theorem dN_Mod_put_2 : decode cN_Mod_put 2 = .ok (.putfield 70, 3) := by decide +kernel
theorem dN_Mod_put_5 : decode cN_Mod_put 5 = .ok (.iload_n 3, 1) := by decide +kernel
theorem dN_Mod_put_6 : decode cN_Mod_put 6 = .ok (.ifCond .lt 21, 3) := by decide +kernel
theorem dN_Mod_put_9 : decode cN_Mod_put 9 = .ok (.iload_n 3, 1) := by decide +kernel
theorem dN_Mod_put_10 : decode cN_Mod_put 10 = .ok (.bipush 8, 2) := by decide +kernel
theorem dN_Mod_put_12 : decode cN_Mod_put 12 = .ok (.if_icmp .gt 15, 3) := by decide +kernel
theorem dN_Mod_put_15 : decode cN_Mod_put 15 = .ok (.aload_n 0, 1) := by decide +kernel
theorem dN_Mod_put_16 : decode cN_Mod_put 16 = .ok (.getfield 81, 3) := by decide +kernel
theorem dN_Mod_put_19 : decode cN_Mod_put 19 = .ok (.iload_n 3, 1) := by decide +kernel
theorem dN_Mod_put_20 : decode cN_Mod_put 20 = .ok (.iadd, 1) := by decide +kernel
theorem dN_Mod_put_21 : decode cN_Mod_put 21 = .ok (.sipush 200, 3) := by decide +kernel
theorem dN_Mod_put_24 : decode cN_Mod_put 24 = .ok (.if_icmp .le 5, 3) := by decide +kernel
theorem dN_Mod_put_27 : decode cN_Mod_put 27 = .ok (.iconst 0, 1) := by decide +kernel
theorem dN_Mod_put_28 : decode cN_Mod_put 28 = .ok (.ireturn, 1) := by decide +kernel
theorem dN_Mod_put_29 : decode cN_Mod_put 29 = .ok (.iload_n 3, 1) := by decide +kernel
theorem dN_Mod_put_30 : decode cN_Mod_put 30 = .ok (.iconst 1, 1) := by decide +kernel
theorem dN_Mod_put_31 : decode cN_Mod_put 31 = .ok (.isub, 1) := by decide +kernel
theorem dN_Mod_put_32 : decode cN_Mod_put 32 = .ok (.istore 4, 2) := by decide +kernel
theorem dN_Mod_put_34 : decode cN_Mod_put 34 = .ok (.iload 4, 2) := by decide +kernel
theorem dN_Mod_put_36 : decode cN_Mod_put 36 = .ok (.ifCond .lt 40, 3) := by decide +kernel
theorem dN_Mod_put_39 : decode cN_Mod_put 39 = .ok (.aload_n 0, 1) := by decide +kernel
theorem dN_Mod_put_40 : decode cN_Mod_put 40 = .ok (.getfield 26, 3) := by decide +kernel
theorem dN_Mod_put_43 : decode cN_Mod_put 43 = .ok (.aload_n 0, 1) := by decide +kernel
theorem dN_Mod_put_44 : decode cN_Mod_put 44 = .ok (.getfield 81, 3) := by decide +kernel
theorem dN_Mod_put_47 : decode cN_Mod_put 47 = .ok (.lload_n 1, 1) := by decide +kernel
theorem dN_Mod_put_48 : decode cN_Mod_put 48 = .ok (.bipush 8, 2) := by decide +kernel
theorem dN_Mod_put_50 : decode cN_Mod_put 50 = .ok (.iload 4, 2) := by decide +kernel
theorem dN_Mod_put_52 : decode cN_Mod_put 52 = .ok (.imul, 1) := by decide +kernel
theorem dN_Mod_put_53 : decode cN_Mod_put 53 = .ok (.lshr, 1) := by decide +kernel
theorem dN_Mod_put_54 : decode cN_Mod_put 54 = .ok (.ldc2_w 84, 3) := by decide +kernel
theorem dN_Mod_put_57 : decode cN_Mod_put 57 = .ok (.land, 1) := by decide +kernel
theorem dN_Mod_put_58 : decode cN_Mod_put 58 = .ok (.l2i, 1) := by decide +kernel
theorem dN_Mod_put_59 : decode cN_Mod_put 59 = .ok (.iastore, 1) := by decide +kernel
theorem dN_Mod_put_60 : decode cN_Mod_put 60 = .ok (.aload_n 0, 1) := by decide +kernel
theorem dN_Mod_put_61 : decode cN_Mod_put 61 = .ok (.dup, 1) := by decide +kernel
theorem dN_Mod_put_62 : decode cN_Mod_put 62 = .ok (.getfield 81, 3) := by decide +kernel
theorem dN_Mod_put_65 : decode cN_Mod_put 65 = .ok (.iconst 1, 1) := by decide +kernel
theorem dN_Mod_put_66 : decode cN_Mod_put 66 = .ok (.iadd, 1) := by decide +kernel
theorem dN_Mod_put_67 : decode cN_Mod_put 67 = .ok (.putfield 81, 3) := by decide +kernel
theorem dN_Mod_put_70 : decode cN_Mod_put 70 = .ok (.iinc 4 (-1), 3) := by decide +kernel
theorem dN_Mod_put_73 : decode cN_Mod_put 73 = .ok (.goto (-39), 3) := by decide +kernel
theorem dN_Mod_put_76 : decode cN_Mod_put 76 = .ok (.iconst 1, 1) := by decide +kernel
theorem dN_Mod_put_77 : decode cN_Mod_put 77 = .ok (.ireturn, 1) := by decide +kernel
theorem dN_Mod_clear_0 : decode cN_Mod_clear 0 = .ok (.aload_n 0, 1) := by decide +kernel
theorem dN_Mod_clear_1 : decode cN_Mod_clear 1 = .ok (.iconst 0, 1) := by decide +kernel
theorem dN_Mod_clear_2 : decode cN_Mod_clear 2 = .ok (.putfield 70, 3) := by decide +kernel
theorem dN_Mod_clear_5 : decode cN_Mod_clear 5 = .ok (.aload_n 0, 1) := by decide +kernel
theorem dN_Mod_clear_6 : decode cN_Mod_clear 6 = .ok (.iconst 0, 1) := by decide +kernel
theorem dN_Mod_clear_7 : decode cN_Mod_clear 7 = .ok (.putfield 81, 3) := by decide +kernel
theorem dN_Mod_clear_10 : decode cN_Mod_clear 10 = .ok (.return_, 1) := by decide +kernel
theorem dN_Mod_match_0 : decode cN_Mod_match 0 = .ok (.aload_n 0, 1) := by decide +kernel
theorem dN_Mod_match_1 : decode cN_Mod_match 1 = .ok (.aload_n 0, 1) := by decide +kernel
theorem dN_Mod_match_2 : decode cN_Mod_match 2 = .ok (.iload_n 1, 1) := by decide +kernel
theorem dN_Mod_match_3 : decode cN_Mod_match 3 = .ok (.iload 4, 2) := by decide +kernel
theorem dN_Mod_match_5 : decode cN_Mod_match 5 = .ok (.invokevirtual 124, 3) := by decide +kernel
theorem dN_Mod_match_8 : decode cN_Mod_match 8 = .ok (.ifCond .eq 16, 3) := by decide +kernel
theorem dN_Mod_match_11 : decode cN_Mod_match 11 = .ok (.iload_n 3, 1) := by decide +kernel
theorem dN_Mod_match_12 : decode cN_Mod_match 12 = .ok (.ifCond .lt 12, 3) := by decide +kernel
theorem dN_Mod_match_15 : decode cN_Mod_match 15 = .ok (.iload_n 3, 1) := by decide +kernel
theorem dN_Mod_match_16 : decode cN_Mod_match 16 = .ok (.iconst 3, 1) := by decide +kernel
theorem dN_Mod_match_17 : decode cN_Mod_match 17 = .ok (.if_icmp .ge 7, 3) := by decide +kernel
theorem dN_Mod_match_20 : decode cN_Mod_match 20 = .ok (.iconst 0, 1) := by decide +kernel
theorem dN_Mod_match_21 : decode cN_Mod_match 21 = .ok (.goto 4, 3) := by decide +kernel
theorem dN_Mod_match_24 : decode cN_Mod_match 24 = .ok (.iconst 1, 1) := by decide +kernel
theorem dN_Mod_match_25 : decode cN_Mod_match 25 = .ok (.putfield 70, 3) := by decide +kernel
theorem dN_Mod_match_28 : decode cN_Mod_match 28 = .ok (.aload_n 0, 1) := by decide +kernel
theorem dN_Mod_match_29 : decode cN_Mod_match 29 = .ok (.getfield 70, 3) := by decide +kernel
theorem dN_Mod_match_32 : decode cN_Mod_match 32 = .ok (.ifCond .le 5, 3) := by decide +kernel
theorem dN_Mod_match_35 : decode cN_Mod_match 35 = .ok (.iconst 0, 1) := by decide +kernel
theorem dN_Mod_match_36 : decode cN_Mod_match 36 = .ok (.ireturn, 1) := by decide +kernel
theorem dN_Mod_match_37 : decode cN_Mod_match 37 = .ok (.aload_n 0, 1) := by decide +kernel
theorem dN_Mod_match_38 : decode cN_Mod_match 38 = .ok (.iload_n 1, 1) := by decide +kernel
theorem dN_Mod_match_39 : decode cN_Mod_match 39 = .ok (.iload_n 2, 1) := by decide +kernel
theorem dN_Mod_match_40 : decode cN_Mod_match 40 = .ok (.iload 4, 2) := by decide +kernel
theorem dN_Mod_match_42 : decode cN_Mod_match 42 = .ok (.invokevirtual 127, 3) := by decide +kernel
theorem dN_Mod_match_45 : decode cN_Mod_match 45 = .ok (.istore 5, 2) := by decide +kernel
theorem dN_Mod_match_47 : decode cN_Mod_match 47 = .ok (.iconst 0, 1) := by decide +kernel
theorem dN_Mod_match_48 : decode cN_Mod_match 48 = .ok (.istore 6, 2) := by decide +kernel
theorem dN_Mod_match_50 : decode cN_Mod_match 50 = .ok (.iload 6, 2) := by decide +kernel
theorem dN_Mod_match_52 : decode cN_Mod_match 52 = .ok (.bipush 20, 2) := by decide +kernel
theorem dN_Mod_match_54 : decode cN_Mod_match 54 = .ok (.if_icmp .ge 32, 3) := by decide +kernel
theorem dN_Mod_match_57 : decode cN_Mod_match 57 = .ok (.aload_n 0, 1) := by decide +kernel
theorem dN_Mod_match_58 : decode cN_Mod_match 58 = .ok (.getfield 40, 3) := by decide +kernel
theorem dN_Mod_match_61 : decode cN_Mod_match 61 = .ok (.iload 6, 2) := by decide +kernel
theorem dN_Mod_match_63 : decode cN_Mod_match 63 = .ok (.iload 5, 2) := by decide +kernel
theorem dN_Mod_match_65 : decode cN_Mod_match 65 = .ok (.ifCond .ge 7, 3) := by decide +kernel
theorem dN_Mod_match_68 : decode cN_Mod_match 68 = .ok (.iconst (-1), 1) := by decide +kernel
theorem dN_Mod_match_69 : decode cN_Mod_match 69 = .ok (.goto 10, 3) := by decide +kernel
theorem dN_Mod_match_72 : decode cN_Mod_match 72 = .ok (.aload_n 0, 1) := by decide +kernel
theorem dN_Mod_match_73 : decode cN_Mod_match 73 = .ok (.getfield 37, 3) := by decide +kernel
theorem dN_Mod_match_76 : decode cN_Mod_match 76 = .ok (.iload 6, 2) := by decide +kernel
theorem dN_Mod_match_78 : decode cN_Mod_match 78 = .ok (.iaload, 1) := by decide +kernel
theorem dN_Mod_match_79 : decode cN_Mod_match 79 = .ok (.iastore, 1) := by decide +kernel
theorem dN_Mod_match_80 : decode cN_Mod_match 80 = .ok (.iinc 6 1, 3) := by decide +kernel
theorem dN_Mod_match_83 : decode cN_Mod_match 83 = .ok (.goto (-33), 3) := by decide +kernel
theorem dN_Mod_match_86 : decode cN_Mod_match 86 = .ok (.iload 5, 2) := by decide +kernel
theorem dN_Mod_match_88 : decode cN_Mod_match 88 = .ok (.ireturn, 1) := by decide +kernel
theorem dN_Mod_isGood_0 : decode cN_Mod_isGood 0 = .ok (.iload_n 1, 1) := by decide +kernel
theorem dN_Mod_isGood_1 : decode cN_Mod_isGood 1 = .ok (.ifCond .lt 24, 3) := by decide +kernel
theorem dN_Mod_isGood_4 : decode cN_Mod_isGood 4 = .ok (.iload_n 1, 1) := by decide +kernel
theorem dN_Mod_isGood_5 : decode cN_Mod_isGood 5 = .ok (.iconst 3, 1) := by decide +kernel
theorem dN_Mod_isGood_6 : decode cN_Mod_isGood 6 = .ok (.if_icmp .ge 19, 3) := by decide +kernel
theorem dN_Mod_isGood_9 : decode cN_Mod_isGood 9 = .ok (.iload_n 2, 1) := by decide +kernel
theorem dN_Mod_isGood_10 : decode cN_Mod_isGood 10 = .ok (.ifCond .lt 15, 3) := by decide +kernel
theorem dN_Mod_isGood_13 : decode cN_Mod_isGood 13 = .ok (.iload_n 2, 1) := by decide +kernel
theorem dN_Mod_isGood_14 : decode cN_Mod_isGood 14 = .ok (.aload_n 0, 1) := by decide +kernel
theorem dN_Mod_isGood_15 : decode cN_Mod_isGood 15 = .ok (.getfield 81, 3) := by decide +kernel
theorem dN_Mod_isGood_18 : decode cN_Mod_isGood 18 = .ok (.if_icmp .gt 7, 3) := by decide +kernel
theorem dN_Mod_isGood_21 : decode cN_Mod_isGood 21 = .ok (.iconst 1, 1) := by decide +kernel
theorem dN_Mod_isGood_22 : decode cN_Mod_isGood 22 = .ok (.goto 4, 3) := by decide +kernel
theorem dN_Mod_isGood_25 : decode cN_Mod_isGood 25 = .ok (.iconst 0, 1) := by decide +kernel
theorem dN_Mod_isGood_26 : decode cN_Mod_isGood 26 = .ok (.ireturn, 1) := by decide +kernel
theorem dN_Mod_find_0 : decode cN_Mod_find 0 = .ok (.aload_n 0, 1) := by decide +kernel
theorem dN_Mod_find_1 : decode cN_Mod_find 1 = .ok (.aload_n 0, 1) := by decide +kernel
theorem dN_Mod_find_2 : decode cN_Mod_find 2 = .ok (.getfield 81, 3) := by decide +kernel
theorem dN_Mod_find_5 : decode cN_Mod_find 5 = .ok (.iload_n 3, 1) := by decide +kernel
theorem dN_Mod_find_6 : decode cN_Mod_find 6 = .ok (.iload_n 1, 1) := by decide +kernel
theorem dN_Mod_find_7 : decode cN_Mod_find 7 = .ok (.iconst 2, 1) := by decide +kernel
theorem dN_Mod_find_8 : decode cN_Mod_find 8 = .ok (.if_icmp .ne 7, 3) := by decide +kernel
theorem dN_Mod_find_11 : decode cN_Mod_find 11 = .ok (.iconst 1, 1) := by decide +kernel
theorem dN_Mod_find_12 : decode cN_Mod_find 12 = .ok (.goto 4, 3) := by decide +kernel
theorem dN_Mod_find_15 : decode cN_Mod_find 15 = .ok (.iconst 0, 1) := by decide +kernel
theorem dN_Mod_find_16 : decode cN_Mod_find 16 = .ok (.invokevirtual 112, 3) := by decide +kernel
theorem dN_Mod_find_19 : decode cN_Mod_find 19 = .ok (.iload_n 3, 1) := by decide +kernel
theorem dN_Mod_find_20 : decode cN_Mod_find 20 = .ok (.istore 4, 2) := by decide +kernel
theorem dN_Mod_find_22 : decode cN_Mod_find 22 = .ok (.iload_n 1, 1) := by decide +kernel
theorem dN_Mod_find_23 : decode cN_Mod_find 23 = .ok (.ifCond .ne 37, 3) := by decide +kernel
theorem dN_Mod_find_26 : decode cN_Mod_find 26 = .ok (.iload 4, 2) := by decide +kernel
theorem dN_Mod_find_28 : decode cN_Mod_find 28 = .ok (.aload_n 0, 1) := by decide +kernel
theorem dN_Mod_find_29 : decode cN_Mod_find 29 = .ok (.getfield 81, 3) := by decide +kernel
theorem dN_Mod_find_32 : decode cN_Mod_find 32 = .ok (.if_icmp .ge 28, 3) := by decide +kernel
theorem dN_Mod_find_35 : decode cN_Mod_find 35 = .ok (.aload_n 0, 1) := by decide +kernel
theorem dN_Mod_find_36 : decode cN_Mod_find 36 = .ok (.getfield 30, 3) := by decide +kernel
theorem dN_Mod_find_39 : decode cN_Mod_find 39 = .ok (.sipush 200, 3) := by decide +kernel
theorem dN_Mod_find_42 : decode cN_Mod_find 42 = .ok (.iload 4, 2) := by decide +kernel
theorem dN_Mod_find_44 : decode cN_Mod_find 44 = .ok (.imul, 1) := by decide +kernel
theorem dN_Mod_find_45 : decode cN_Mod_find 45 = .ok (.aload_n 0, 1) := by decide +kernel
theorem dN_Mod_find_46 : decode cN_Mod_find 46 = .ok (.getfield 73, 3) := by decide +kernel
theorem dN_Mod_find_49 : decode cN_Mod_find 49 = .ok (.iadd, 1) := by decide +kernel
theorem dN_Mod_find_50 : decode cN_Mod_find 50 = .ok (.baload, 1) := by decide +kernel
theorem dN_Mod_find_51 : decode cN_Mod_find 51 = .ok (.ifCond .ne 9, 3) := by decide +kernel
theorem dN_Mod_find_54 : decode cN_Mod_find 54 = .ok (.iinc 4 1, 3) := by decide +kernel
theorem dN_Mod_find_57 : decode cN_Mod_find 57 = .ok (.goto (-35), 3) := by decide +kernel
theorem dN_Mod_find_60 : decode cN_Mod_find 60 = .ok (.aload_n 0, 1) := by decide +kernel
theorem dN_Mod_find_61 : decode cN_Mod_find 61 = .ok (.getfield 30, 3) := by decide +kernel
theorem dN_Mod_find_64 : decode cN_Mod_find 64 = .ok (.sipush 200, 3) := by decide +kernel
theorem dN_Mod_find_67 : decode cN_Mod_find 67 = .ok (.iload 4, 2) := by decide +kernel
theorem dN_Mod_find_69 : decode cN_Mod_find 69 = .ok (.imul, 1) := by decide +kernel
theorem dN_Mod_find_70 : decode cN_Mod_find 70 = .ok (.aload_n 0, 1) := by decide +kernel
theorem dN_Mod_find_71 : decode cN_Mod_find 71 = .ok (.getfield 73, 3) := by decide +kernel
theorem dN_Mod_find_74 : decode cN_Mod_find 74 = .ok (.iadd, 1) := by decide +kernel
theorem dN_Mod_find_75 : decode cN_Mod_find 75 = .ok (.baload, 1) := by decide +kernel
theorem dN_Mod_find_76 : decode cN_Mod_find 76 = .ok (.ifCond .ne 5, 3) := by decide +kernel
theorem dN_Mod_find_79 : decode cN_Mod_find 79 = .ok (.iconst (-1), 1) := by decide +kernel
theorem dN_Mod_find_80 : decode cN_Mod_find 80 = .ok (.ireturn, 1) := by decide +kernel
theorem dN_Mod_find_81 : decode cN_Mod_find 81 = .ok (.iload_n 1, 1) := by decide +kernel
theorem dN_Mod_find_82 : decode cN_Mod_find 82 = .ok (.iconst 2, 1) := by decide +kernel
theorem dN_Mod_find_83 : decode cN_Mod_find 83 = .ok (.if_icmp .ne 10, 3) := by decide +kernel
theorem dN_Mod_find_86 : decode cN_Mod_find 86 = .ok (.aload_n 0, 1) := by decide +kernel
theorem dN_Mod_find_87 : decode cN_Mod_find 87 = .ok (.getfield 81, 3) := by decide +kernel
theorem dN_Mod_find_90 : decode cN_Mod_find 90 = .ok (.goto 4, 3) := by decide +kernel
theorem dN_Mod_find_93 : decode cN_Mod_find 93 = .ok (.iconst (-1), 1) := by decide +kernel
theorem dN_Mod_find_94 : decode cN_Mod_find 94 = .ok (.istore 5, 2) := by decide +kernel
theorem dN_Mod_find_96 : decode cN_Mod_find 96 = .ok (.iload_n 2, 1) := by decide +kernel
theorem dN_Mod_find_97 : decode cN_Mod_find 97 = .ok (.ifCond .eq 25, 3) := by decide +kernel
theorem dN_Mod_find_100 : decode cN_Mod_find 100 = .ok (.iload_n 1, 1) := by decide +kernel
theorem dN_Mod_find_101 : decode cN_Mod_find 101 = .ok (.iconst 2, 1) := by decide +kernel
theorem dN_Mod_find_102 : decode cN_Mod_find 102 = .ok (.if_icmp .ge 20, 3) := by decide +kernel
theorem dN_Mod_find_105 : decode cN_Mod_find 105 = .ok (.aload_n 0, 1) := by decide +kernel
theorem dN_Mod_find_106 : decode cN_Mod_find 106 = .ok (.iload 4, 2) := by decide +kernel
theorem dN_Mod_find_108 : decode cN_Mod_find 108 = .ok (.invokevirtual 116, 3) := by decide +kernel
theorem dN_Mod_find_111 : decode cN_Mod_find 111 = .ok (.istore 5, 2) := by decide +kernel
theorem dN_Mod_find_113 : decode cN_Mod_find 113 = .ok (.aload_n 0, 1) := by decide +kernel
theorem dN_Mod_find_114 : decode cN_Mod_find 114 = .ok (.iload 5, 2) := by decide +kernel
theorem dN_Mod_find_116 : decode cN_Mod_find 116 = .ok (.iload 4, 2) := by decide +kernel
theorem dN_Mod_find_118 : decode cN_Mod_find 118 = .ok (.iconst 1, 1) := by decide +kernel
theorem dN_Mod_find_119 : decode cN_Mod_find 119 = .ok (.invokevirtual 112, 3) := by decide +kernel
theorem dN_Mod_find_122 : decode cN_Mod_find 122 = .ok (.aload_n 0, 1) := by decide +kernel
theorem dN_Mod_find_123 : decode cN_Mod_find 123 = .ok (.iload 4, 2) := by decide +kernel
theorem dN_Mod_find_125 : decode cN_Mod_find 125 = .ok (.iload 5, 2) := by decide +kernel
theorem dN_Mod_find_127 : decode cN_Mod_find 127 = .ok (.invokevirtual 120, 3) := by decide +kernel
theorem dN_Mod_find_130 : decode cN_Mod_find 130 = .ok (.istore 6, 2) := by decide +kernel
theorem dN_Mod_find_132 : decode cN_Mod_find 132 = .ok (.aload_n 0, 1) := by decide +kernel
theorem dN_Mod_find_133 : decode cN_Mod_find 133 = .ok (.getfield 37, 3) := by decide +kernel
theorem dN_Mod_find_136 : decode cN_Mod_find 136 = .ok (.iconst 0, 1) := by decide +kernel
theorem dN_Mod_find_137 : decode cN_Mod_find 137 = .ok (.iload 4, 2) := by decide +kernel
theorem dN_Mod_find_139 : decode cN_Mod_find 139 = .ok (.iastore, 1) := by decide +kernel
theorem dN_Mod_find_140 : decode cN_Mod_find 140 = .ok (.aload_n 0, 1) := by decide +kernel
theorem dN_Mod_find_141 : decode cN_Mod_find 141 = .ok (.getfield 37, 3) := by decide +kernel
theorem dN_Mod_find_144 : decode cN_Mod_find 144 = .ok (.iconst 1, 1) := by decide +kernel
theorem dN_Mod_find_145 : decode cN_Mod_find 145 = .ok (.iload 6, 2) := by decide +kernel
theorem dN_Mod_find_147 : decode cN_Mod_find 147 = .ok (.iastore, 1) := by decide +kernel
theorem dN_Mod_find_148 : decode cN_Mod_find 148 = .ok (.iload 6, 2) := by decide +kernel
theorem dN_Mod_find_150 : decode cN_Mod_find 150 = .ok (.ireturn, 1) := by decide +kernel
theorem dN_Mod_note_0 : decode cN_Mod_note 0 = .ok (.iload_n 1, 1) := by decide +kernel
theorem dN_Mod_note_1 : decode cN_Mod_note 1 = .ok (.istore 4, 2) := by decide +kernel
theorem dN_Mod_note_3 : decode cN_Mod_note 3 = .ok (.iload 4, 2) := by decide +kernel
theorem dN_Mod_note_5 : decode cN_Mod_note 5 = .ok (.iload_n 2, 1) := by decide +kernel
theorem dN_Mod_note_6 : decode cN_Mod_note 6 = .ok (.if_icmp .lt 270, 3) := by decide +kernel
theorem dN_Mod_note_9 : decode cN_Mod_note 9 = .ok (.iconst 0, 1) := by decide +kernel
theorem dN_Mod_note_10 : decode cN_Mod_note 10 = .ok (.istore 5, 2) := by decide +kernel
theorem dN_Mod_note_12 : decode cN_Mod_note 12 = .ok (.iload 5, 2) := by decide +kernel
theorem dN_Mod_note_14 : decode cN_Mod_note 14 = .ok (.aload_n 0, 1) := by decide +kernel
theorem dN_Mod_note_15 : decode cN_Mod_note 15 = .ok (.getfield 7, 3) := by decide +kernel
theorem dN_Mod_note_18 : decode cN_Mod_note 18 = .ok (.if_icmp .ge 94, 3) := by decide +kernel
theorem dN_Mod_note_21 : decode cN_Mod_note 21 = .ok (.aload_n 0, 1) := by decide +kernel
theorem dN_Mod_note_22 : decode cN_Mod_note 22 = .ok (.getfield 30, 3) := by decide +kernel
theorem dN_Mod_note_25 : decode cN_Mod_note 25 = .ok (.sipush 200, 3) := by decide +kernel
theorem dN_Mod_note_28 : decode cN_Mod_note 28 = .ok (.iload 4, 2) := by decide +kernel
theorem dN_Mod_note_30 : decode cN_Mod_note 30 = .ok (.imul, 1) := by decide +kernel
theorem dN_Mod_note_31 : decode cN_Mod_note 31 = .ok (.iload 5, 2) := by decide +kernel
theorem dN_Mod_note_33 : decode cN_Mod_note 33 = .ok (.iadd, 1) := by decide +kernel
theorem dN_Mod_note_34 : decode cN_Mod_note 34 = .ok (.iload 5, 2) := by decide +kernel
theorem dN_Mod_note_36 : decode cN_Mod_note 36 = .ok (.ifCond .ne 21, 3) := by decide +kernel
theorem dN_Mod_note_39 : decode cN_Mod_note 39 = .ok (.iload 4, 2) := by decide +kernel
theorem dN_Mod_note_41 : decode cN_Mod_note 41 = .ok (.iload_n 1, 1) := by decide +kernel
theorem dN_Mod_note_42 : decode cN_Mod_note 42 = .ok (.if_icmp .eq 7, 3) := by decide +kernel
theorem dN_Mod_note_45 : decode cN_Mod_note 45 = .ok (.iload_n 3, 1) := by decide +kernel
theorem dN_Mod_note_46 : decode cN_Mod_note 46 = .ok (.ifCond .ne 7, 3) := by decide +kernel
theorem dN_Mod_note_49 : decode cN_Mod_note 49 = .ok (.iconst 1, 1) := by decide +kernel
theorem dN_Mod_note_50 : decode cN_Mod_note 50 = .ok (.goto 55, 3) := by decide +kernel
theorem dN_Mod_note_53 : decode cN_Mod_note 53 = .ok (.iconst 0, 1) := by decide +kernel
theorem dN_Mod_note_54 : decode cN_Mod_note 54 = .ok (.goto 51, 3) := by decide +kernel
theorem dN_Mod_note_57 : decode cN_Mod_note 57 = .ok (.aload_n 0, 1) := by decide +kernel
theorem dN_Mod_note_58 : decode cN_Mod_note 58 = .ok (.iload 5, 2) := by decide +kernel
theorem dN_Mod_note_60 : decode cN_Mod_note 60 = .ok (.iload 4, 2) := by decide +kernel
theorem dN_Mod_note_62 : decode cN_Mod_note 62 = .ok (.invokevirtual 93, 3) := by decide +kernel
theorem dN_Mod_note_65 : decode cN_Mod_note 65 = .ok (.ifCond .eq 39, 3) := by decide +kernel
theorem dN_Mod_note_68 : decode cN_Mod_note 68 = .ok (.iload 4, 2) := by decide +kernel
theorem dN_Mod_note_70 : decode cN_Mod_note 70 = .ok (.iload_n 1, 1) := by decide +kernel
theorem dN_Mod_note_71 : decode cN_Mod_note 71 = .ok (.if_icmp .ge 33, 3) := by decide +kernel
theorem dN_Mod_note_74 : decode cN_Mod_note 74 = .ok (.aload_n 0, 1) := by decide +kernel
theorem dN_Mod_note_75 : decode cN_Mod_note 75 = .ok (.getfield 30, 3) := by decide +kernel
theorem dN_Mod_note_78 : decode cN_Mod_note 78 = .ok (.sipush 200, 3) := by decide +kernel
theorem dN_Mod_note_81 : decode cN_Mod_note 81 = .ok (.iload 4, 2) := by decide +kernel
theorem dN_Mod_note_83 : decode cN_Mod_note 83 = .ok (.imul, 1) := by decide +kernel
theorem dN_Mod_note_84 : decode cN_Mod_note 84 = .ok (.sipush 200, 3) := by decide +kernel
theorem dN_Mod_note_87 : decode cN_Mod_note 87 = .ok (.iadd, 1) := by decide +kernel
theorem dN_Mod_note_88 : decode cN_Mod_note 88 = .ok (.aload_n 0, 1) := by decide +kernel
theorem dN_Mod_note_89 : decode cN_Mod_note 89 = .ok (.getfield 20, 3) := by decide +kernel
theorem dN_Mod_note_92 : decode cN_Mod_note 92 = .ok (.iload 5, 2) := by decide +kernel
theorem dN_Mod_note_94 : decode cN_Mod_note 94 = .ok (.iaload, 1) := by decide +kernel
theorem dN_Mod_note_95 : decode cN_Mod_note 95 = .ok (.iadd, 1) := by decide +kernel
theorem dN_Mod_note_96 : decode cN_Mod_note 96 = .ok (.baload, 1) := by decide +kernel
theorem dN_Mod_note_97 : decode cN_Mod_note 97 = .ok (.ifCond .eq 7, 3) := by decide +kernel
theorem dN_Mod_note_100 : decode cN_Mod_note 100 = .ok (.iconst 1, 1) := by decide +kernel
theorem dN_Mod_note_101 : decode cN_Mod_note 101 = .ok (.goto 4, 3) := by decide +kernel
theorem dN_Mod_note_104 : decode cN_Mod_note 104 = .ok (.iconst 0, 1) := by decide +kernel
theorem dN_Mod_note_105 : decode cN_Mod_note 105 = .ok (.bastore, 1) := by decide +kernel
theorem dN_Mod_note_106 : decode cN_Mod_note 106 = .ok (.iinc 5 1, 3) := by decide +kernel
theorem dN_Mod_note_109 : decode cN_Mod_note 109 = .ok (.goto (-97), 3) := by decide +kernel
theorem dN_Mod_note_112 : decode cN_Mod_note 112 = .ok (.iconst 1, 1) := by decide +kernel
theorem dN_Mod_note_113 : decode cN_Mod_note 113 = .ok (.istore 5, 2) := by decide +kernel
theorem dN_Mod_note_115 : decode cN_Mod_note 115 = .ok (.iload 5, 2) := by decide +kernel
theorem dN_Mod_note_117 : decode cN_Mod_note 117 = .ok (.ifCond .eq 153, 3) := by decide +kernel
theorem dN_Mod_note_120 : decode cN_Mod_note 120 = .ok (.iconst 0, 1) := by decide +kernel
theorem dN_Mod_note_121 : decode cN_Mod_note 121 = .ok (.istore 5, 2) := by decide +kernel
theorem dN_Mod_note_123 : decode cN_Mod_note 123 = .ok (.iconst 1, 1) := by decide +kernel
theorem dN_Mod_note_124 : decode cN_Mod_note 124 = .ok (.istore 6, 2) := by decide +kernel
theorem dN_Mod_note_126 : decode cN_Mod_note 126 = .ok (.iload 6, 2) := by decide +kernel
theorem dN_Mod_note_128 : decode cN_Mod_note 128 = .ok (.aload_n 0, 1) := by decide +kernel
theorem dN_Mod_note_129 : decode cN_Mod_note 129 = .ok (.getfield 7, 3) := by decide +kernel
theorem dN_Mod_note_132 : decode cN_Mod_note 132 = .ok (.if_icmp .ge 135, 3) := by decide +kernel
theorem dN_Mod_note_135 : decode cN_Mod_note 135 = .ok (.aload_n 0, 1) := by decide +kernel
theorem dN_Mod_note_136 : decode cN_Mod_note 136 = .ok (.getfield 30, 3) := by decide +kernel
theorem dN_Mod_note_139 : decode cN_Mod_note 139 = .ok (.sipush 200, 3) := by decide +kernel
theorem dN_Mod_note_142 : decode cN_Mod_note 142 = .ok (.iload 4, 2) := by decide +kernel
theorem dN_Mod_note_144 : decode cN_Mod_note 144 = .ok (.imul, 1) := by decide +kernel
theorem dN_Mod_note_145 : decode cN_Mod_note 145 = .ok (.iload 6, 2) := by decide +kernel
theorem dN_Mod_note_147 : decode cN_Mod_note 147 = .ok (.iadd, 1) := by decide +kernel
theorem dN_Mod_note_148 : decode cN_Mod_note 148 = .ok (.baload, 1) := by decide +kernel
theorem dN_Mod_note_149 : decode cN_Mod_note 149 = .ok (.ifCond .ne 112, 3) := by decide +kernel
theorem dN_Mod_note_152 : decode cN_Mod_note 152 = .ok (.aload_n 0, 1) := by decide +kernel
theorem dN_Mod_note_153 : decode cN_Mod_note 153 = .ok (.iload 6, 2) := by decide +kernel
theorem dN_Mod_note_155 : decode cN_Mod_note 155 = .ok (.iload 4, 2) := by decide +kernel
theorem dN_Mod_note_157 : decode cN_Mod_note 157 = .ok (.invokevirtual 96, 3) := by decide +kernel
theorem dN_Mod_note_160 : decode cN_Mod_note 160 = .ok (.ifCond .ne 6, 3) := by decide +kernel
theorem dN_Mod_note_163 : decode cN_Mod_note 163 = .ok (.goto 98, 3) := by decide +kernel
theorem dN_Mod_note_166 : decode cN_Mod_note 166 = .ok (.aload_n 0, 1) := by decide +kernel
theorem dN_Mod_note_167 : decode cN_Mod_note 167 = .ok (.getfield 30, 3) := by decide +kernel
theorem dN_Mod_note_170 : decode cN_Mod_note 170 = .ok (.sipush 200, 3) := by decide +kernel
theorem dN_Mod_note_173 : decode cN_Mod_note 173 = .ok (.iload 4, 2) := by decide +kernel
theorem dN_Mod_note_175 : decode cN_Mod_note 175 = .ok (.imul, 1) := by decide +kernel
theorem dN_Mod_note_176 : decode cN_Mod_note 176 = .ok (.aload_n 0, 1) := by decide +kernel
theorem dN_Mod_note_177 : decode cN_Mod_note 177 = .ok (.getfield 20, 3) := by decide +kernel
theorem dN_Mod_note_180 : decode cN_Mod_note 180 = .ok (.iload 6, 2) := by decide +kernel
theorem dN_Mod_note_182 : decode cN_Mod_note 182 = .ok (.iaload, 1) := by decide +kernel
theorem dN_Mod_note_183 : decode cN_Mod_note 183 = .ok (.iadd, 1) := by decide +kernel
theorem dN_Mod_note_184 : decode cN_Mod_note 184 = .ok (.baload, 1) := by decide +kernel
theorem dN_Mod_note_185 : decode cN_Mod_note 185 = .ok (.ifCond .ne 36, 3) := by decide +kernel
theorem dN_Mod_note_188 : decode cN_Mod_note 188 = .ok (.aload_n 0, 1) := by decide +kernel
theorem dN_Mod_note_189 : decode cN_Mod_note 189 = .ok (.getfield 13, 3) := by decide +kernel
theorem dN_Mod_note_192 : decode cN_Mod_note 192 = .ok (.iload 6, 2) := by decide +kernel
theorem dN_Mod_note_194 : decode cN_Mod_note 194 = .ok (.iaload, 1) := by decide +kernel
theorem dN_Mod_note_195 : decode cN_Mod_note 195 = .ok (.iconst 2, 1) := by decide +kernel
theorem dN_Mod_note_196 : decode cN_Mod_note 196 = .ok (.if_icmp .ne 29, 3) := by decide +kernel
theorem dN_Mod_note_199 : decode cN_Mod_note 199 = .ok (.aload_n 0, 1) := by decide +kernel
theorem dN_Mod_note_200 : decode cN_Mod_note 200 = .ok (.getfield 30, 3) := by decide +kernel
theorem dN_Mod_note_203 : decode cN_Mod_note 203 = .ok (.sipush 200, 3) := by decide +kernel
theorem dN_Mod_note_206 : decode cN_Mod_note 206 = .ok (.iload 4, 2) := by decide +kernel
theorem dN_Mod_note_208 : decode cN_Mod_note 208 = .ok (.imul, 1) := by decide +kernel
theorem dN_Mod_note_209 : decode cN_Mod_note 209 = .ok (.aload_n 0, 1) := by decide +kernel
theorem dN_Mod_note_210 : decode cN_Mod_note 210 = .ok (.getfield 23, 3) := by decide +kernel
theorem dN_Mod_note_213 : decode cN_Mod_note 213 = .ok (.iload 6, 2) := by decide +kernel
theorem dN_Mod_note_215 : decode cN_Mod_note 215 = .ok (.iaload, 1) := by decide +kernel
theorem dN_Mod_note_216 : decode cN_Mod_note 216 = .ok (.iadd, 1) := by decide +kernel
theorem dN_Mod_note_217 : decode cN_Mod_note 217 = .ok (.baload, 1) := by decide +kernel
theorem dN_Mod_note_218 : decode cN_Mod_note 218 = .ok (.ifCond .eq 7, 3) := by decide +kernel
theorem dN_Mod_note_221 : decode cN_Mod_note 221 = .ok (.iconst 1, 1) := by decide +kernel
theorem dN_Mod_note_222 : decode cN_Mod_note 222 = .ok (.goto 4, 3) := by decide +kernel
theorem dN_Mod_note_225 : decode cN_Mod_note 225 = .ok (.iconst 0, 1) := by decide +kernel
theorem dN_Mod_note_226 : decode cN_Mod_note 226 = .ok (.istore 7, 2) := by decide +kernel
theorem dN_Mod_note_228 : decode cN_Mod_note 228 = .ok (.aload_n 0, 1) := by decide +kernel
theorem dN_Mod_note_229 : decode cN_Mod_note 229 = .ok (.getfield 30, 3) := by decide +kernel
theorem dN_Mod_note_232 : decode cN_Mod_note 232 = .ok (.sipush 200, 3) := by decide +kernel
theorem dN_Mod_note_235 : decode cN_Mod_note 235 = .ok (.iload 4, 2) := by decide +kernel
theorem dN_Mod_note_237 : decode cN_Mod_note 237 = .ok (.imul, 1) := by decide +kernel
theorem dN_Mod_note_238 : decode cN_Mod_note 238 = .ok (.iload 6, 2) := by decide +kernel
theorem dN_Mod_note_240 : decode cN_Mod_note 240 = .ok (.iadd, 1) := by decide +kernel
theorem dN_Mod_note_241 : decode cN_Mod_note 241 = .ok (.iload 7, 2) := by decide +kernel
theorem dN_Mod_note_243 : decode cN_Mod_note 243 = .ok (.bastore, 1) := by decide +kernel
theorem dN_Mod_note_244 : decode cN_Mod_note 244 = .ok (.iload 5, 2) := by decide +kernel
theorem dN_Mod_note_246 : decode cN_Mod_note 246 = .ok (.ifCond .ne 8, 3) := by decide +kernel
theorem dN_Mod_note_249 : decode cN_Mod_note 249 = .ok (.iload 7, 2) := by decide +kernel
theorem dN_Mod_note_251 : decode cN_Mod_note 251 = .ok (.ifCond .eq 7, 3) := by decide +kernel
theorem dN_Mod_note_254 : decode cN_Mod_note 254 = .ok (.iconst 1, 1) := by decide +kernel
theorem dN_Mod_note_255 : decode cN_Mod_note 255 = .ok (.goto 4, 3) := by decide +kernel
theorem dN_Mod_note_258 : decode cN_Mod_note 258 = .ok (.iconst 0, 1) := by decide +kernel
theorem dN_Mod_note_259 : decode cN_Mod_note 259 = .ok (.istore 5, 2) := by decide +kernel
theorem dN_Mod_note_261 : decode cN_Mod_note 261 = .ok (.iinc 6 1, 3) := by decide +kernel
theorem dN_Mod_note_264 : decode cN_Mod_note 264 = .ok (.goto (-138), 3) := by decide +kernel
theorem dN_Mod_note_267 : decode cN_Mod_note 267 = .ok (.goto (-152), 3) := by decide +kernel
theorem dN_Mod_note_270 : decode cN_Mod_note 270 = .ok (.iinc 4 (-1), 3) := by decide +kernel
theorem dN_Mod_note_273 : decode cN_Mod_note 273 = .ok (.goto (-270), 3) := by decide +kernel
theorem dN_Mod_note_276 : decode cN_Mod_note 276 = .ok (.return_, 1) := by decide +kernel
theorem dN_Mod_takes_0 : decode cN_Mod_takes 0 = .ok (.iload_n 1, 1) := by decide +kernel
theorem dN_Mod_takes_1 : decode cN_Mod_takes 1 = .ok (.ifCond .le 63, 3) := by decide +kernel
theorem dN_Mod_takes_4 : decode cN_Mod_takes 4 = .ok (.aload_n 0, 1) := by decide +kernel
theorem dN_Mod_takes_5 : decode cN_Mod_takes 5 = .ok (.getfield 13, 3) := by decide +kernel
theorem dN_Mod_takes_8 : decode cN_Mod_takes 8 = .ok (.iload_n 1, 1) := by decide +kernel
theorem dN_Mod_takes_9 : decode cN_Mod_takes 9 = .ok (.iaload, 1) := by decide +kernel
theorem dN_Mod_takes_10 : decode cN_Mod_takes 10 = .ok (.iconst 1, 1) := by decide +kernel
theorem dN_Mod_takes_11 : decode cN_Mod_takes 11 = .ok (.if_icmp .ne 53, 3) := by decide +kernel
theorem dN_Mod_takes_14 : decode cN_Mod_takes 14 = .ok (.iload_n 2, 1) := by decide +kernel
theorem dN_Mod_takes_15 : decode cN_Mod_takes 15 = .ok (.aload_n 0, 1) := by decide +kernel
