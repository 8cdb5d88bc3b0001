theorem dN_Mod_ends_3 : decode cN_Mod_ends 3 = .ok (.iload_n 3, 1) := by decide +kernel
theorem dN_Mod_ends_4 : decode cN_Mod_ends 4 = .ok (.invokevirtual 124, 3) := by decide +kernel
theorem dN_Mod_ends_7 : decode cN_Mod_ends 7 = .ok (.ifCond .eq 15, 3) := by decide +kernel
theorem dN_Mod_ends_10 : decode cN_Mod_ends 10 = .ok (.iload_n 2, 1) := by decide +kernel
theorem dN_Mod_ends_11 : decode cN_Mod_ends 11 = .ok (.ifCond .eq 7, 3) := by decide +kernel
theorem dN_Mod_ends_14 : decode cN_Mod_ends 14 = .ok (.iload_n 1, 1) := by decide +kernel
theorem dN_Mod_ends_15 : decode cN_Mod_ends 15 = .ok (.ifCond .eq 7, 3) := by decide +kernel
theorem dN_Mod_ends_18 : decode cN_Mod_ends 18 = .ok (.iconst 0, 1) := by decide +kernel
theorem dN_Mod_ends_19 : decode cN_Mod_ends 19 = .ok (.goto 4, 3) := by decide +kernel
theorem dN_Mod_ends_22 : decode cN_Mod_ends 22 = .ok (.iconst 1, 1) := by decide +kernel
theorem dN_Mod_ends_23 : decode cN_Mod_ends 23 = .ok (.putfield 70, 3) := by decide +kernel
theorem dN_Mod_ends_26 : decode cN_Mod_ends 26 = .ok (.aload_n 0, 1) := by decide +kernel
theorem dN_Mod_ends_27 : decode cN_Mod_ends 27 = .ok (.getfield 70, 3) := by decide +kernel
theorem dN_Mod_ends_30 : decode cN_Mod_ends 30 = .ok (.ifCond .le 7, 3) := by decide +kernel
theorem dN_Mod_ends_33 : decode cN_Mod_ends 33 = .ok (.iconst 0, 1) := by decide +kernel
theorem dN_Mod_ends_34 : decode cN_Mod_ends 34 = .ok (.goto 10, 3) := by decide +kernel
theorem dN_Mod_ends_37 : decode cN_Mod_ends 37 = .ok (.aload_n 0, 1) := by decide +kernel
theorem dN_Mod_ends_38 : decode cN_Mod_ends 38 = .ok (.iload_n 1, 1) := by decide +kernel
theorem dN_Mod_ends_39 : decode cN_Mod_ends 39 = .ok (.iload_n 2, 1) := by decide +kernel
theorem dN_Mod_ends_40 : decode cN_Mod_ends 40 = .ok (.iload_n 3, 1) := by decide +kernel
theorem dN_Mod_ends_41 : decode cN_Mod_ends 41 = .ok (.invokevirtual 127, 3) := by decide +kernel
theorem dN_Mod_ends_44 : decode cN_Mod_ends 44 = .ok (.ireturn, 1) := by decide +kernel
theorem dN_Mod_keep_0 : decode cN_Mod_keep 0 = .ok (.aload_n 0, 1) := by decide +kernel
theorem dN_Mod_keep_1 : decode cN_Mod_keep 1 = .ok (.iload_n 1, 1) := by decide +kernel
theorem dN_Mod_keep_2 : decode cN_Mod_keep 2 = .ok (.iconst 4, 1) := by decide +kernel
theorem dN_Mod_keep_3 : decode cN_Mod_keep 3 = .ok (.if_icmp .lt 9, 3) := by decide +kernel
theorem dN_Mod_keep_6 : decode cN_Mod_keep 6 = .ok (.iload_n 1, 1) := by decide +kernel
theorem dN_Mod_keep_7 : decode cN_Mod_keep 7 = .ok (.bipush 64, 2) := by decide +kernel
theorem dN_Mod_keep_9 : decode cN_Mod_keep 9 = .ok (.if_icmp .le 7, 3) := by decide +kernel
theorem dN_Mod_keep_12 : decode cN_Mod_keep 12 = .ok (.iconst 1, 1) := by decide +kernel
theorem dN_Mod_keep_13 : decode cN_Mod_keep 13 = .ok (.goto 4, 3) := by decide +kernel
theorem dN_Mod_keep_16 : decode cN_Mod_keep 16 = .ok (.iconst 0, 1) := by decide +kernel
theorem dN_Mod_keep_17 : decode cN_Mod_keep 17 = .ok (.putfield 70, 3) := by decide +kernel
theorem dN_Mod_keep_20 : decode cN_Mod_keep 20 = .ok (.return_, 1) := by decide +kernel
theorem dN_Mod_isOneWay_0 : decode cN_Mod_isOneWay 0 = .ok (.aload_n 0, 1) := by decide +kernel
theorem dN_Mod_isOneWay_1 : decode cN_Mod_isOneWay 1 = .ok (.iconst 0, 1) := by decide +kernel
theorem dN_Mod_isOneWay_2 : decode cN_Mod_isOneWay 2 = .ok (.putfield 70, 3) := by decide +kernel
theorem dN_Mod_isOneWay_5 : decode cN_Mod_isOneWay 5 = .ok (.aload_n 0, 1) := by decide +kernel
theorem dN_Mod_isOneWay_6 : decode cN_Mod_isOneWay 6 = .ok (.iconst 0, 1) := by decide +kernel
theorem dN_Mod_isOneWay_7 : decode cN_Mod_isOneWay 7 = .ok (.putfield 131, 3) := by decide +kernel
theorem dN_Mod_isOneWay_10 : decode cN_Mod_isOneWay 10 = .ok (.aload_n 0, 1) := by decide +kernel
theorem dN_Mod_isOneWay_11 : decode cN_Mod_isOneWay 11 = .ok (.aload_n 0, 1) := by decide +kernel
theorem dN_Mod_isOneWay_12 : decode cN_Mod_isOneWay 12 = .ok (.getfield 73, 3) := by decide +kernel
theorem dN_Mod_isOneWay_15 : decode cN_Mod_isOneWay 15 = .ok (.invokevirtual 141, 3) := by decide +kernel
theorem dN_Mod_isOneWay_18 : decode cN_Mod_isOneWay 18 = .ok (.iconst 1, 1) := by decide +kernel
theorem dN_Mod_isOneWay_19 : decode cN_Mod_isOneWay 19 = .ok (.istore_n 1, 1) := by decide +kernel
theorem dN_Mod_isOneWay_20 : decode cN_Mod_isOneWay 20 = .ok (.iconst 0, 1) := by decide +kernel
theorem dN_Mod_isOneWay_21 : decode cN_Mod_isOneWay 21 = .ok (.istore_n 2, 1) := by decide +kernel
theorem dN_Mod_isOneWay_22 : decode cN_Mod_isOneWay 22 = .ok (.iload_n 2, 1) := by decide +kernel
theorem dN_Mod_isOneWay_23 : decode cN_Mod_isOneWay 23 = .ok (.aload_n 0, 1) := by decide +kernel
theorem dN_Mod_isOneWay_24 : decode cN_Mod_isOneWay 24 = .ok (.getfield 131, 3) := by decide +kernel
theorem dN_Mod_isOneWay_27 : decode cN_Mod_isOneWay 27 = .ok (.if_icmp .ge 162, 3) := by decide +kernel
theorem dN_Mod_isOneWay_30 : decode cN_Mod_isOneWay 30 = .ok (.iload_n 1, 1) := by decide +kernel
theorem dN_Mod_isOneWay_31 : decode cN_Mod_isOneWay 31 = .ok (.ifCond .eq 158, 3) := by decide +kernel
theorem dN_Mod_isOneWay_34 : decode cN_Mod_isOneWay 34 = .ok (.aload_n 0, 1) := by decide +kernel
theorem dN_Mod_isOneWay_35 : decode cN_Mod_isOneWay 35 = .ok (.aload_n 0, 1) := by decide +kernel
theorem dN_Mod_isOneWay_36 : decode cN_Mod_isOneWay 36 = .ok (.getfield 58, 3) := by decide +kernel
theorem dN_Mod_isOneWay_39 : decode cN_Mod_isOneWay 39 = .ok (.iload_n 2, 1) := by decide +kernel
theorem dN_Mod_isOneWay_40 : decode cN_Mod_isOneWay 40 = .ok (.iaload, 1) := by decide +kernel
theorem dN_Mod_isOneWay_41 : decode cN_Mod_isOneWay 41 = .ok (.invokevirtual 144, 3) := by decide +kernel
theorem dN_Mod_isOneWay_44 : decode cN_Mod_isOneWay 44 = .ok (.istore_n 1, 1) := by decide +kernel
theorem dN_Mod_isOneWay_45 : decode cN_Mod_isOneWay 45 = .ok (.iconst 1, 1) := by decide +kernel
theorem dN_Mod_isOneWay_46 : decode cN_Mod_isOneWay 46 = .ok (.istore_n 3, 1) := by decide +kernel
theorem dN_Mod_isOneWay_47 : decode cN_Mod_isOneWay 47 = .ok (.iload_n 3, 1) := by decide +kernel
theorem dN_Mod_isOneWay_48 : decode cN_Mod_isOneWay 48 = .ok (.aload_n 0, 1) := by decide +kernel
theorem dN_Mod_isOneWay_49 : decode cN_Mod_isOneWay 49 = .ok (.getfield 7, 3) := by decide +kernel
theorem dN_Mod_isOneWay_52 : decode cN_Mod_isOneWay 52 = .ok (.if_icmp .ge 112, 3) := by decide +kernel
theorem dN_Mod_isOneWay_55 : decode cN_Mod_isOneWay 55 = .ok (.iload_n 1, 1) := by decide +kernel
theorem dN_Mod_isOneWay_56 : decode cN_Mod_isOneWay 56 = .ok (.ifCond .eq 108, 3) := by decide +kernel
theorem dN_Mod_isOneWay_59 : decode cN_Mod_isOneWay 59 = .ok (.aload_n 0, 1) := by decide +kernel
theorem dN_Mod_isOneWay_60 : decode cN_Mod_isOneWay 60 = .ok (.getfield 67, 3) := by decide +kernel
theorem dN_Mod_isOneWay_63 : decode cN_Mod_isOneWay 63 = .ok (.iload_n 3, 1) := by decide +kernel
theorem dN_Mod_isOneWay_64 : decode cN_Mod_isOneWay 64 = .ok (.iaload, 1) := by decide +kernel
theorem dN_Mod_isOneWay_65 : decode cN_Mod_isOneWay 65 = .ok (.ifCond .lt 93, 3) := by decide +kernel
theorem dN_Mod_isOneWay_68 : decode cN_Mod_isOneWay 68 = .ok (.aload_n 0, 1) := by decide +kernel
theorem dN_Mod_isOneWay_69 : decode cN_Mod_isOneWay 69 = .ok (.getfield 13, 3) := by decide +kernel
theorem dN_Mod_isOneWay_72 : decode cN_Mod_isOneWay 72 = .ok (.iload_n 3, 1) := by decide +kernel
theorem dN_Mod_isOneWay_73 : decode cN_Mod_isOneWay 73 = .ok (.iaload, 1) := by decide +kernel
theorem dN_Mod_isOneWay_74 : decode cN_Mod_isOneWay 74 = .ok (.iconst 1, 1) := by decide +kernel
theorem dN_Mod_isOneWay_75 : decode cN_Mod_isOneWay 75 = .ok (.if_icmp .eq 6, 3) := by decide +kernel
theorem dN_Mod_isOneWay_78 : decode cN_Mod_isOneWay 78 = .ok (.goto 80, 3) := by decide +kernel
theorem dN_Mod_isOneWay_81 : decode cN_Mod_isOneWay 81 = .ok (.aload_n 0, 1) := by decide +kernel
theorem dN_Mod_isOneWay_82 : decode cN_Mod_isOneWay 82 = .ok (.aload_n 0, 1) := by decide +kernel
theorem dN_Mod_isOneWay_83 : decode cN_Mod_isOneWay 83 = .ok (.getfield 20, 3) := by decide +kernel
theorem dN_Mod_isOneWay_86 : decode cN_Mod_isOneWay 86 = .ok (.iload_n 3, 1) := by decide +kernel
theorem dN_Mod_isOneWay_87 : decode cN_Mod_isOneWay 87 = .ok (.iaload, 1) := by decide +kernel
theorem dN_Mod_isOneWay_88 : decode cN_Mod_isOneWay 88 = .ok (.invokevirtual 141, 3) := by decide +kernel
theorem dN_Mod_isOneWay_91 : decode cN_Mod_isOneWay 91 = .ok (.iconst 1, 1) := by decide +kernel
theorem dN_Mod_isOneWay_92 : decode cN_Mod_isOneWay 92 = .ok (.istore 4, 2) := by decide +kernel
theorem dN_Mod_isOneWay_94 : decode cN_Mod_isOneWay 94 = .ok (.iload 4, 2) := by decide +kernel
theorem dN_Mod_isOneWay_96 : decode cN_Mod_isOneWay 96 = .ok (.iload_n 3, 1) := by decide +kernel
theorem dN_Mod_isOneWay_97 : decode cN_Mod_isOneWay 97 = .ok (.if_icmp .ge 61, 3) := by decide +kernel
theorem dN_Mod_isOneWay_100 : decode cN_Mod_isOneWay 100 = .ok (.aload_n 0, 1) := by decide +kernel
theorem dN_Mod_isOneWay_101 : decode cN_Mod_isOneWay 101 = .ok (.getfield 67, 3) := by decide +kernel
theorem dN_Mod_isOneWay_104 : decode cN_Mod_isOneWay 104 = .ok (.iload 4, 2) := by decide +kernel
theorem dN_Mod_isOneWay_106 : decode cN_Mod_isOneWay 106 = .ok (.iaload, 1) := by decide +kernel
theorem dN_Mod_isOneWay_107 : decode cN_Mod_isOneWay 107 = .ok (.ifCond .lt 45, 3) := by decide +kernel
theorem dN_Mod_isOneWay_110 : decode cN_Mod_isOneWay 110 = .ok (.aload_n 0, 1) := by decide +kernel
theorem dN_Mod_isOneWay_111 : decode cN_Mod_isOneWay 111 = .ok (.getfield 13, 3) := by decide +kernel
theorem dN_Mod_isOneWay_114 : decode cN_Mod_isOneWay 114 = .ok (.iload 4, 2) := by decide +kernel
theorem dN_Mod_isOneWay_116 : decode cN_Mod_isOneWay 116 = .ok (.iaload, 1) := by decide +kernel
theorem dN_Mod_isOneWay_117 : decode cN_Mod_isOneWay 117 = .ok (.iconst 1, 1) := by decide +kernel
theorem dN_Mod_isOneWay_118 : decode cN_Mod_isOneWay 118 = .ok (.if_icmp .ne 34, 3) := by decide +kernel
theorem dN_Mod_isOneWay_121 : decode cN_Mod_isOneWay 121 = .ok (.aload_n 0, 1) := by decide +kernel
theorem dN_Mod_isOneWay_122 : decode cN_Mod_isOneWay 122 = .ok (.getfield 17, 3) := by decide +kernel
theorem dN_Mod_isOneWay_125 : decode cN_Mod_isOneWay 125 = .ok (.iload_n 3, 1) := by decide +kernel
theorem dN_Mod_isOneWay_126 : decode cN_Mod_isOneWay 126 = .ok (.iaload, 1) := by decide +kernel
theorem dN_Mod_isOneWay_127 : decode cN_Mod_isOneWay 127 = .ok (.aload_n 0, 1) := by decide +kernel
theorem dN_Mod_isOneWay_128 : decode cN_Mod_isOneWay 128 = .ok (.getfield 17, 3) := by decide +kernel
theorem dN_Mod_isOneWay_131 : decode cN_Mod_isOneWay 131 = .ok (.iload 4, 2) := by decide +kernel
theorem dN_Mod_isOneWay_133 : decode cN_Mod_isOneWay 133 = .ok (.iaload, 1) := by decide +kernel
theorem dN_Mod_isOneWay_134 : decode cN_Mod_isOneWay 134 = .ok (.invokestatic 147, 3) := by decide +kernel
theorem dN_Mod_isOneWay_137 : decode cN_Mod_isOneWay 137 = .ok (.ifCond .eq 15, 3) := by decide +kernel
theorem dN_Mod_isOneWay_140 : decode cN_Mod_isOneWay 140 = .ok (.aload_n 0, 1) := by decide +kernel
theorem dN_Mod_isOneWay_141 : decode cN_Mod_isOneWay 141 = .ok (.iload_n 3, 1) := by decide +kernel
theorem dN_Mod_isOneWay_142 : decode cN_Mod_isOneWay 142 = .ok (.iload 4, 2) := by decide +kernel
theorem dN_Mod_isOneWay_144 : decode cN_Mod_isOneWay 144 = .ok (.invokevirtual 150, 3) := by decide +kernel
theorem dN_Mod_isOneWay_147 : decode cN_Mod_isOneWay 147 = .ok (.ifCond .ne 5, 3) := by decide +kernel
theorem dN_Mod_isOneWay_150 : decode cN_Mod_isOneWay 150 = .ok (.iconst 0, 1) := by decide +kernel
theorem dN_Mod_isOneWay_151 : decode cN_Mod_isOneWay 151 = .ok (.istore_n 1, 1) := by decide +kernel
theorem dN_Mod_isOneWay_152 : decode cN_Mod_isOneWay 152 = .ok (.iinc 4 1, 3) := by decide +kernel
theorem dN_Mod_isOneWay_155 : decode cN_Mod_isOneWay 155 = .ok (.goto (-61), 3) := by decide +kernel
theorem dN_Mod_isOneWay_158 : decode cN_Mod_isOneWay 158 = .ok (.iinc 3 1, 3) := by decide +kernel
theorem dN_Mod_isOneWay_161 : decode cN_Mod_isOneWay 161 = .ok (.goto (-114), 3) := by decide +kernel
theorem dN_Mod_isOneWay_164 : decode cN_Mod_isOneWay 164 = .ok (.iload_n 1, 1) := by decide +kernel
theorem dN_Mod_isOneWay_165 : decode cN_Mod_isOneWay 165 = .ok (.ifCond .eq 16, 3) := by decide +kernel
theorem dN_Mod_isOneWay_168 : decode cN_Mod_isOneWay 168 = .ok (.aload_n 0, 1) := by decide +kernel
theorem dN_Mod_isOneWay_169 : decode cN_Mod_isOneWay 169 = .ok (.getfield 131, 3) := by decide +kernel
theorem dN_Mod_isOneWay_172 : decode cN_Mod_isOneWay 172 = .ok (.bipush 64, 2) := by decide +kernel
theorem dN_Mod_isOneWay_174 : decode cN_Mod_isOneWay 174 = .ok (.if_icmp .gt 7, 3) := by decide +kernel
theorem dN_Mod_isOneWay_177 : decode cN_Mod_isOneWay 177 = .ok (.iconst 1, 1) := by decide +kernel
theorem dN_Mod_isOneWay_178 : decode cN_Mod_isOneWay 178 = .ok (.goto 4, 3) := by decide +kernel
theorem dN_Mod_isOneWay_181 : decode cN_Mod_isOneWay 181 = .ok (.iconst 0, 1) := by decide +kernel
theorem dN_Mod_isOneWay_182 : decode cN_Mod_isOneWay 182 = .ok (.istore_n 1, 1) := by decide +kernel
theorem dN_Mod_isOneWay_183 : decode cN_Mod_isOneWay 183 = .ok (.iinc 2 1, 3) := by decide +kernel
theorem dN_Mod_isOneWay_186 : decode cN_Mod_isOneWay 186 = .ok (.goto (-164), 3) := by decide +kernel
theorem dN_Mod_isOneWay_189 : decode cN_Mod_isOneWay 189 = .ok (.iload_n 1, 1) := by decide +kernel
theorem dN_Mod_isOneWay_190 : decode cN_Mod_isOneWay 190 = .ok (.ireturn, 1) := by decide +kernel
theorem dN_Mod_start_0 : decode cN_Mod_start 0 = .ok (.iconst 0, 1) := by decide +kernel
theorem dN_Mod_start_1 : decode cN_Mod_start 1 = .ok (.istore_n 2, 1) := by decide +kernel
theorem dN_Mod_start_2 : decode cN_Mod_start 2 = .ok (.iload_n 2, 1) := by decide +kernel
theorem dN_Mod_start_3 : decode cN_Mod_start 3 = .ok (.aload_n 0, 1) := by decide +kernel
theorem dN_Mod_start_4 : decode cN_Mod_start 4 = .ok (.getfield 131, 3) := by decide +kernel
theorem dN_Mod_start_7 : decode cN_Mod_start 7 = .ok (.if_icmp .ge 20, 3) := by decide +kernel
theorem dN_Mod_start_10 : decode cN_Mod_start 10 = .ok (.aload_n 0, 1) := by decide +kernel
theorem dN_Mod_start_11 : decode cN_Mod_start 11 = .ok (.getfield 58, 3) := by decide +kernel
theorem dN_Mod_start_14 : decode cN_Mod_start 14 = .ok (.iload_n 2, 1) := by decide +kernel
theorem dN_Mod_start_15 : decode cN_Mod_start 15 = .ok (.iaload, 1) := by decide +kernel
theorem dN_Mod_start_16 : decode cN_Mod_start 16 = .ok (.iload_n 1, 1) := by decide +kernel
theorem dN_Mod_start_17 : decode cN_Mod_start 17 = .ok (.if_icmp .ne 4, 3) := by decide +kernel
theorem dN_Mod_start_20 : decode cN_Mod_start 20 = .ok (.return_, 1) := by decide +kernel
theorem dN_Mod_start_21 : decode cN_Mod_start 21 = .ok (.iinc 2 1, 3) := by decide +kernel
theorem dN_Mod_start_24 : decode cN_Mod_start 24 = .ok (.goto (-22), 3) := by decide +kernel
theorem dN_Mod_start_27 : decode cN_Mod_start 27 = .ok (.aload_n 0, 1) := by decide +kernel
theorem dN_Mod_start_28 : decode cN_Mod_start 28 = .ok (.getfield 58, 3) := by decide +kernel
theorem dN_Mod_start_31 : decode cN_Mod_start 31 = .ok (.aload_n 0, 1) := by decide +kernel
theorem dN_Mod_start_32 : decode cN_Mod_start 32 = .ok (.getfield 131, 3) := by decide +kernel
theorem dN_Mod_start_35 : decode cN_Mod_start 35 = .ok (.iload_n 1, 1) := by decide +kernel
theorem dN_Mod_start_36 : decode cN_Mod_start 36 = .ok (.iastore, 1) := by decide +kernel
theorem dN_Mod_start_37 : decode cN_Mod_start 37 = .ok (.aload_n 0, 1) := by decide +kernel
theorem dN_Mod_start_38 : decode cN_Mod_start 38 = .ok (.dup, 1) := by decide +kernel
theorem dN_Mod_start_39 : decode cN_Mod_start 39 = .ok (.getfield 131, 3) := by decide +kernel
theorem dN_Mod_start_42 : decode cN_Mod_start 42 = .ok (.iconst 1, 1) := by decide +kernel
theorem dN_Mod_start_43 : decode cN_Mod_start 43 = .ok (.iadd, 1) := by decide +kernel
theorem dN_Mod_start_44 : decode cN_Mod_start 44 = .ok (.putfield 131, 3) := by decide +kernel
theorem dN_Mod_start_47 : decode cN_Mod_start 47 = .ok (.return_, 1) := by decide +kernel
theorem dN_Mod_spreads_0 : decode cN_Mod_spreads 0 = .ok (.iconst 0, 1) := by decide +kernel
theorem dN_Mod_spreads_1 : decode cN_Mod_spreads 1 = .ok (.istore_n 2, 1) := by decide +kernel
theorem dN_Mod_spreads_2 : decode cN_Mod_spreads 2 = .ok (.iload_n 2, 1) := by decide +kernel
theorem dN_Mod_spreads_3 : decode cN_Mod_spreads 3 = .ok (.aload_n 0, 1) := by decide +kernel
theorem dN_Mod_spreads_4 : decode cN_Mod_spreads 4 = .ok (.getfield 7, 3) := by decide +kernel
theorem dN_Mod_spreads_7 : decode cN_Mod_spreads 7 = .ok (.if_icmp .ge 16, 3) := by decide +kernel
theorem dN_Mod_spreads_10 : decode cN_Mod_spreads 10 = .ok (.aload_n 0, 1) := by decide +kernel
theorem dN_Mod_spreads_11 : decode cN_Mod_spreads 11 = .ok (.getfield 67, 3) := by decide +kernel
theorem dN_Mod_spreads_14 : decode cN_Mod_spreads 14 = .ok (.iload_n 2, 1) := by decide +kernel
theorem dN_Mod_spreads_15 : decode cN_Mod_spreads 15 = .ok (.iconst (-1), 1) := by decide +kernel
theorem dN_Mod_spreads_16 : decode cN_Mod_spreads 16 = .ok (.iastore, 1) := by decide +kernel
theorem dN_Mod_spreads_17 : decode cN_Mod_spreads 17 = .ok (.iinc 2 1, 3) := by decide +kernel
theorem dN_Mod_spreads_20 : decode cN_Mod_spreads 20 = .ok (.goto (-18), 3) := by decide +kernel
theorem dN_Mod_spreads_23 : decode cN_Mod_spreads 23 = .ok (.iconst 0, 1) := by decide +kernel
theorem dN_Mod_spreads_24 : decode cN_Mod_spreads 24 = .ok (.istore_n 2, 1) := by decide +kernel
theorem dN_Mod_spreads_25 : decode cN_Mod_spreads 25 = .ok (.aload_n 0, 1) := by decide +kernel
theorem dN_Mod_spreads_26 : decode cN_Mod_spreads 26 = .ok (.getfield 43, 3) := by decide +kernel
theorem dN_Mod_spreads_29 : decode cN_Mod_spreads 29 = .ok (.iconst 0, 1) := by decide +kernel
theorem dN_Mod_spreads_30 : decode cN_Mod_spreads 30 = .ok (.iload_n 1, 1) := by decide +kernel
theorem dN_Mod_spreads_31 : decode cN_Mod_spreads 31 = .ok (.iastore, 1) := by decide +kernel
theorem dN_Mod_spreads_32 : decode cN_Mod_spreads 32 = .ok (.aload_n 0, 1) := by decide +kernel
theorem dN_Mod_spreads_33 : decode cN_Mod_spreads 33 = .ok (.iconst 1, 1) := by decide +kernel
theorem dN_Mod_spreads_34 : decode cN_Mod_spreads 34 = .ok (.putfield 99, 3) := by decide +kernel
theorem dN_Mod_spreads_37 : decode cN_Mod_spreads 37 = .ok (.aload_n 0, 1) := by decide +kernel
theorem dN_Mod_spreads_38 : decode cN_Mod_spreads 38 = .ok (.getfield 61, 3) := by decide +kernel
theorem dN_Mod_spreads_41 : decode cN_Mod_spreads 41 = .ok (.iload_n 1, 1) := by decide +kernel
theorem dN_Mod_spreads_42 : decode cN_Mod_spreads 42 = .ok (.iconst 0, 1) := by decide +kernel
theorem dN_Mod_spreads_43 : decode cN_Mod_spreads 43 = .ok (.iastore, 1) := by decide +kernel
theorem dN_Mod_spreads_44 : decode cN_Mod_spreads 44 = .ok (.aload_n 0, 1) := by decide +kernel
theorem dN_Mod_spreads_45 : decode cN_Mod_spreads 45 = .ok (.getfield 64, 3) := by decide +kernel
theorem dN_Mod_spreads_48 : decode cN_Mod_spreads 48 = .ok (.iload_n 1, 1) := by decide +kernel
theorem dN_Mod_spreads_49 : decode cN_Mod_spreads 49 = .ok (.iconst 0, 1) := by decide +kernel
theorem dN_Mod_spreads_50 : decode cN_Mod_spreads 50 = .ok (.iastore, 1) := by decide +kernel
theorem dN_Mod_spreads_51 : decode cN_Mod_spreads 51 = .ok (.aload_n 0, 1) := by decide +kernel
theorem dN_Mod_spreads_52 : decode cN_Mod_spreads 52 = .ok (.getfield 99, 3) := by decide +kernel
theorem dN_Mod_spreads_55 : decode cN_Mod_spreads 55 = .ok (.ifCond .le 272, 3) := by decide +kernel
theorem dN_Mod_spreads_58 : decode cN_Mod_spreads 58 = .ok (.aload_n 0, 1) := by decide +kernel
theorem dN_Mod_spreads_59 : decode cN_Mod_spreads 59 = .ok (.dup, 1) := by decide +kernel
theorem dN_Mod_spreads_60 : decode cN_Mod_spreads 60 = .ok (.getfield 99, 3) := by decide +kernel
theorem dN_Mod_spreads_63 : decode cN_Mod_spreads 63 = .ok (.iconst 1, 1) := by decide +kernel
theorem dN_Mod_spreads_64 : decode cN_Mod_spreads 64 = .ok (.isub, 1) := by decide +kernel
theorem dN_Mod_spreads_65 : decode cN_Mod_spreads 65 = .ok (.putfield 99, 3) := by decide +kernel
theorem dN_Mod_spreads_68 : decode cN_Mod_spreads 68 = .ok (.aload_n 0, 1) := by decide +kernel
theorem dN_Mod_spreads_69 : decode cN_Mod_spreads 69 = .ok (.getfield 43, 3) := by decide +kernel
theorem dN_Mod_spreads_72 : decode cN_Mod_spreads 72 = .ok (.aload_n 0, 1) := by decide +kernel
theorem dN_Mod_spreads_73 : decode cN_Mod_spreads 73 = .ok (.getfield 99, 3) := by decide +kernel
theorem dN_Mod_spreads_76 : decode cN_Mod_spreads 76 = .ok (.iaload, 1) := by decide +kernel
theorem dN_Mod_spreads_77 : decode cN_Mod_spreads 77 = .ok (.istore_n 3, 1) := by decide +kernel
theorem dN_Mod_spreads_78 : decode cN_Mod_spreads 78 = .ok (.aload_n 0, 1) := by decide +kernel
theorem dN_Mod_spreads_79 : decode cN_Mod_spreads 79 = .ok (.getfield 67, 3) := by decide +kernel
theorem dN_Mod_spreads_82 : decode cN_Mod_spreads 82 = .ok (.iload_n 3, 1) := by decide +kernel
theorem dN_Mod_spreads_83 : decode cN_Mod_spreads 83 = .ok (.iaload, 1) := by decide +kernel
theorem dN_Mod_spreads_84 : decode cN_Mod_spreads 84 = .ok (.ifCond .lt 5, 3) := by decide +kernel
theorem dN_Mod_spreads_87 : decode cN_Mod_spreads 87 = .ok (.iconst 0, 1) := by decide +kernel
theorem dN_Mod_spreads_88 : decode cN_Mod_spreads 88 = .ok (.ireturn, 1) := by decide +kernel
theorem dN_Mod_spreads_89 : decode cN_Mod_spreads 89 = .ok (.aload_n 0, 1) := by decide +kernel
theorem dN_Mod_spreads_90 : decode cN_Mod_spreads 90 = .ok (.getfield 67, 3) := by decide +kernel
theorem dN_Mod_spreads_93 : decode cN_Mod_spreads 93 = .ok (.iload_n 3, 1) := by decide +kernel
theorem dN_Mod_spreads_94 : decode cN_Mod_spreads 94 = .ok (.iload_n 2, 1) := by decide +kernel
theorem dN_Mod_spreads_95 : decode cN_Mod_spreads 95 = .ok (.iastore, 1) := by decide +kernel
theorem dN_Mod_spreads_96 : decode cN_Mod_spreads 96 = .ok (.iinc 2 1, 3) := by decide +kernel
theorem dN_Mod_spreads_99 : decode cN_Mod_spreads 99 = .ok (.iload_n 3, 1) := by decide +kernel
theorem dN_Mod_spreads_100 : decode cN_Mod_spreads 100 = .ok (.ifCond .eq (-49), 3) := by decide +kernel
theorem dN_Mod_spreads_103 : decode cN_Mod_spreads 103 = .ok (.aload_n 0, 1) := by decide +kernel
theorem dN_Mod_spreads_104 : decode cN_Mod_spreads 104 = .ok (.getfield 13, 3) := by decide +kernel
theorem dN_Mod_spreads_107 : decode cN_Mod_spreads 107 = .ok (.iload_n 3, 1) := by decide +kernel
theorem dN_Mod_spreads_108 : decode cN_Mod_spreads 108 = .ok (.iaload, 1) := by decide +kernel
theorem dN_Mod_spreads_109 : decode cN_Mod_spreads 109 = .ok (.iconst 1, 1) := by decide +kernel
theorem dN_Mod_spreads_110 : decode cN_Mod_spreads 110 = .ok (.if_icmp .eq (-59), 3) := by decide +kernel
theorem dN_Mod_spreads_113 : decode cN_Mod_spreads 113 = .ok (.aload_n 0, 1) := by decide +kernel
theorem dN_Mod_spreads_114 : decode cN_Mod_spreads 114 = .ok (.getfield 13, 3) := by decide +kernel
theorem dN_Mod_spreads_117 : decode cN_Mod_spreads 117 = .ok (.iload_n 3, 1) := by decide +kernel
theorem dN_Mod_spreads_118 : decode cN_Mod_spreads 118 = .ok (.iaload, 1) := by decide +kernel
theorem dN_Mod_spreads_119 : decode cN_Mod_spreads 119 = .ok (.iconst 5, 1) := by decide +kernel
theorem dN_Mod_spreads_120 : decode cN_Mod_spreads 120 = .ok (.if_icmp .ne 6, 3) := by decide +kernel
theorem dN_Mod_spreads_123 : decode cN_Mod_spreads 123 = .ok (.goto (-72), 3) := by decide +kernel
theorem dN_Mod_spreads_126 : decode cN_Mod_spreads 126 = .ok (.aload_n 0, 1) := by decide +kernel
theorem dN_Mod_spreads_127 : decode cN_Mod_spreads 127 = .ok (.getfield 13, 3) := by decide +kernel
theorem dN_Mod_spreads_130 : decode cN_Mod_spreads 130 = .ok (.iload_n 3, 1) := by decide +kernel
theorem dN_Mod_spreads_131 : decode cN_Mod_spreads 131 = .ok (.iaload, 1) := by decide +kernel
theorem dN_Mod_spreads_132 : decode cN_Mod_spreads 132 = .ok (.iconst 3, 1) := by decide +kernel
theorem dN_Mod_spreads_133 : decode cN_Mod_spreads 133 = .ok (.if_icmp .ne 21, 3) := by decide +kernel
theorem dN_Mod_spreads_136 : decode cN_Mod_spreads 136 = .ok (.aload_n 0, 1) := by decide +kernel
theorem dN_Mod_spreads_137 : decode cN_Mod_spreads 137 = .ok (.getfield 61, 3) := by decide +kernel
theorem dN_Mod_spreads_140 : decode cN_Mod_spreads 140 = .ok (.iload_n 3, 1) := by decide +kernel
theorem dN_Mod_spreads_141 : decode cN_Mod_spreads 141 = .ok (.iaload, 1) := by decide +kernel
theorem dN_Mod_spreads_142 : decode cN_Mod_spreads 142 = .ok (.iconst 1, 1) := by decide +kernel
theorem dN_Mod_spreads_143 : decode cN_Mod_spreads 143 = .ok (.aload_n 0, 1) := by decide +kernel
theorem dN_Mod_spreads_144 : decode cN_Mod_spreads 144 = .ok (.getfield 17, 3) := by decide +kernel
theorem dN_Mod_spreads_147 : decode cN_Mod_spreads 147 = .ok (.iload_n 3, 1) := by decide +kernel
theorem dN_Mod_spreads_148 : decode cN_Mod_spreads 148 = .ok (.iaload, 1) := by decide +kernel
theorem dN_Mod_spreads_149 : decode cN_Mod_spreads 149 = .ok (.ishl, 1) := by decide +kernel
theorem dN_Mod_spreads_150 : decode cN_Mod_spreads 150 = .ok (.ior, 1) := by decide +kernel
theorem dN_Mod_spreads_151 : decode cN_Mod_spreads 151 = .ok (.goto 9, 3) := by decide +kernel
theorem dN_Mod_spreads_154 : decode cN_Mod_spreads 154 = .ok (.aload_n 0, 1) := by decide +kernel
theorem dN_Mod_spreads_155 : decode cN_Mod_spreads 155 = .ok (.getfield 61, 3) := by decide +kernel
theorem dN_Mod_spreads_158 : decode cN_Mod_spreads 158 = .ok (.iload_n 3, 1) := by decide +kernel
theorem dN_Mod_spreads_159 : decode cN_Mod_spreads 159 = .ok (.iaload, 1) := by decide +kernel
theorem dN_Mod_spreads_160 : decode cN_Mod_spreads 160 = .ok (.istore 4, 2) := by decide +kernel
theorem dN_Mod_spreads_162 : decode cN_Mod_spreads 162 = .ok (.aload_n 0, 1) := by decide +kernel
theorem dN_Mod_spreads_163 : decode cN_Mod_spreads 163 = .ok (.getfield 13, 3) := by decide +kernel
theorem dN_Mod_spreads_166 : decode cN_Mod_spreads 166 = .ok (.iload_n 3, 1) := by decide +kernel
theorem dN_Mod_spreads_167 : decode cN_Mod_spreads 167 = .ok (.iaload, 1) := by decide +kernel
theorem dN_Mod_spreads_168 : decode cN_Mod_spreads 168 = .ok (.iconst 4, 1) := by decide +kernel
theorem dN_Mod_spreads_169 : decode cN_Mod_spreads 169 = .ok (.if_icmp .ne 21, 3) := by decide +kernel
theorem dN_Mod_spreads_172 : decode cN_Mod_spreads 172 = .ok (.aload_n 0, 1) := by decide +kernel
theorem dN_Mod_spreads_173 : decode cN_Mod_spreads 173 = .ok (.getfield 64, 3) := by decide +kernel
theorem dN_Mod_spreads_176 : decode cN_Mod_spreads 176 = .ok (.iload_n 3, 1) := by decide +kernel
theorem dN_Mod_spreads_177 : decode cN_Mod_spreads 177 = .ok (.iaload, 1) := by decide +kernel
theorem dN_Mod_spreads_178 : decode cN_Mod_spreads 178 = .ok (.iconst 1, 1) := by decide +kernel
theorem dN_Mod_spreads_179 : decode cN_Mod_spreads 179 = .ok (.aload_n 0, 1) := by decide +kernel
theorem dN_Mod_spreads_180 : decode cN_Mod_spreads 180 = .ok (.getfield 17, 3) := by decide +kernel
theorem dN_Mod_spreads_183 : decode cN_Mod_spreads 183 = .ok (.iload_n 3, 1) := by decide +kernel
theorem dN_Mod_spreads_184 : decode cN_Mod_spreads 184 = .ok (.iaload, 1) := by decide +kernel
theorem dN_Mod_spreads_185 : decode cN_Mod_spreads 185 = .ok (.ishl, 1) := by decide +kernel
theorem dN_Mod_spreads_186 : decode cN_Mod_spreads 186 = .ok (.ior, 1) := by decide +kernel
theorem dN_Mod_spreads_187 : decode cN_Mod_spreads 187 = .ok (.goto 9, 3) := by decide +kernel
theorem dN_Mod_spreads_190 : decode cN_Mod_spreads 190 = .ok (.aload_n 0, 1) := by decide +kernel
theorem dN_Mod_spreads_191 : decode cN_Mod_spreads 191 = .ok (.getfield 64, 3) := by decide +kernel
theorem dN_Mod_spreads_194 : decode cN_Mod_spreads 194 = .ok (.iload_n 3, 1) := by decide +kernel
theorem dN_Mod_spreads_195 : decode cN_Mod_spreads 195 = .ok (.iaload, 1) := by decide +kernel
theorem dN_Mod_spreads_196 : decode cN_Mod_spreads 196 = .ok (.istore 5, 2) := by decide +kernel
theorem dN_Mod_spreads_198 : decode cN_Mod_spreads 198 = .ok (.aload_n 0, 1) := by decide +kernel
theorem dN_Mod_spreads_199 : decode cN_Mod_spreads 199 = .ok (.getfield 13, 3) := by decide +kernel
theorem dN_Mod_spreads_202 : decode cN_Mod_spreads 202 = .ok (.iload_n 3, 1) := by decide +kernel
theorem dN_Mod_spreads_203 : decode cN_Mod_spreads 203 = .ok (.iaload, 1) := by decide +kernel
theorem dN_Mod_spreads_204 : decode cN_Mod_spreads 204 = .ok (.iconst 2, 1) := by decide +kernel
theorem dN_Mod_spreads_205 : decode cN_Mod_spreads 205 = .ok (.if_icmp .ne 7, 3) := by decide +kernel
theorem dN_Mod_spreads_208 : decode cN_Mod_spreads 208 = .ok (.iconst 1, 1) := by decide +kernel
theorem dN_Mod_spreads_209 : decode cN_Mod_spreads 209 = .ok (.goto 4, 3) := by decide +kernel
theorem dN_Mod_spreads_212 : decode cN_Mod_spreads 212 = .ok (.iconst 0, 1) := by decide +kernel
theorem dN_Mod_spreads_213 : decode cN_Mod_spreads 213 = .ok (.istore 6, 2) := by decide +kernel
theorem dN_Mod_spreads_215 : decode cN_Mod_spreads 215 = .ok (.iload 6, 2) := by decide +kernel
theorem dN_Mod_spreads_217 : decode cN_Mod_spreads 217 = .ok (.ifCond .eq 45, 3) := by decide +kernel
theorem dN_Mod_spreads_220 : decode cN_Mod_spreads 220 = .ok (.aload_n 0, 1) := by decide +kernel
theorem dN_Mod_spreads_221 : decode cN_Mod_spreads 221 = .ok (.getfield 67, 3) := by decide +kernel
theorem dN_Mod_spreads_224 : decode cN_Mod_spreads 224 = .ok (.aload_n 0, 1) := by decide +kernel
theorem dN_Mod_spreads_225 : decode cN_Mod_spreads 225 = .ok (.getfield 23, 3) := by decide +kernel
theorem dN_Mod_spreads_228 : decode cN_Mod_spreads 228 = .ok (.iload_n 3, 1) := by decide +kernel
theorem dN_Mod_spreads_229 : decode cN_Mod_spreads 229 = .ok (.iaload, 1) := by decide +kernel
theorem dN_Mod_spreads_230 : decode cN_Mod_spreads 230 = .ok (.iaload, 1) := by decide +kernel
theorem dN_Mod_spreads_231 : decode cN_Mod_spreads 231 = .ok (.ifCond .ge 58, 3) := by decide +kernel
theorem dN_Mod_spreads_234 : decode cN_Mod_spreads 234 = .ok (.aload_n 0, 1) := by decide +kernel
theorem dN_Mod_spreads_235 : decode cN_Mod_spreads 235 = .ok (.aload_n 0, 1) := by decide +kernel
theorem dN_Mod_spreads_236 : decode cN_Mod_spreads 236 = .ok (.getfield 23, 3) := by decide +kernel
theorem dN_Mod_spreads_239 : decode cN_Mod_spreads 239 = .ok (.iload_n 3, 1) := by decide +kernel
theorem dN_Mod_spreads_240 : decode cN_Mod_spreads 240 = .ok (.iaload, 1) := by decide +kernel
theorem dN_Mod_spreads_241 : decode cN_Mod_spreads 241 = .ok (.invokevirtual 134, 3) := by decide +kernel
theorem dN_Mod_spreads_244 : decode cN_Mod_spreads 244 = .ok (.ifCond .ne 45, 3) := by decide +kernel
theorem dN_Mod_spreads_247 : decode cN_Mod_spreads 247 = .ok (.aload_n 0, 1) := by decide +kernel
theorem dN_Mod_spreads_248 : decode cN_Mod_spreads 248 = .ok (.getfield 20, 3) := by decide +kernel
theorem dN_Mod_spreads_251 : decode cN_Mod_spreads 251 = .ok (.iload_n 3, 1) := by decide +kernel
theorem dN_Mod_spreads_252 : decode cN_Mod_spreads 252 = .ok (.iaload, 1) := by decide +kernel
theorem dN_Mod_spreads_253 : decode cN_Mod_spreads 253 = .ok (.aload_n 0, 1) := by decide +kernel
theorem dN_Mod_spreads_254 : decode cN_Mod_spreads 254 = .ok (.getfield 23, 3) := by decide +kernel
theorem dN_Mod_spreads_257 : decode cN_Mod_spreads 257 = .ok (.iload_n 3, 1) := by decide +kernel
theorem dN_Mod_spreads_258 : decode cN_Mod_spreads 258 = .ok (.iaload, 1) := by decide +kernel
theorem dN_Mod_spreads_259 : decode cN_Mod_spreads 259 = .ok (.if_icmp .eq 30, 3) := by decide +kernel
theorem dN_Mod_spreads_262 : decode cN_Mod_spreads 262 = .ok (.aload_n 0, 1) := by decide +kernel
theorem dN_Mod_spreads_263 : decode cN_Mod_spreads 263 = .ok (.getfield 67, 3) := by decide +kernel
theorem dN_Mod_spreads_266 : decode cN_Mod_spreads 266 = .ok (.aload_n 0, 1) := by decide +kernel
theorem dN_Mod_spreads_267 : decode cN_Mod_spreads 267 = .ok (.getfield 20, 3) := by decide +kernel
theorem dN_Mod_spreads_270 : decode cN_Mod_spreads 270 = .ok (.iload_n 3, 1) := by decide +kernel
theorem dN_Mod_spreads_271 : decode cN_Mod_spreads 271 = .ok (.iaload, 1) := by decide +kernel
theorem dN_Mod_spreads_272 : decode cN_Mod_spreads 272 = .ok (.iaload, 1) := by decide +kernel
theorem dN_Mod_spreads_273 : decode cN_Mod_spreads 273 = .ok (.ifCond .ge 16, 3) := by decide +kernel
theorem dN_Mod_spreads_276 : decode cN_Mod_spreads 276 = .ok (.aload_n 0, 1) := by decide +kernel
theorem dN_Mod_spreads_277 : decode cN_Mod_spreads 277 = .ok (.aload_n 0, 1) := by decide +kernel
theorem dN_Mod_spreads_278 : decode cN_Mod_spreads 278 = .ok (.getfield 20, 3) := by decide +kernel
theorem dN_Mod_spreads_281 : decode cN_Mod_spreads 281 = .ok (.iload_n 3, 1) := by decide +kernel
theorem dN_Mod_spreads_282 : decode cN_Mod_spreads 282 = .ok (.iaload, 1) := by decide +kernel
theorem dN_Mod_spreads_283 : decode cN_Mod_spreads 283 = .ok (.invokevirtual 134, 3) := by decide +kernel
theorem dN_Mod_spreads_286 : decode cN_Mod_spreads 286 = .ok (.ifCond .eq 5, 3) := by decide +kernel
theorem dN_Mod_spreads_289 : decode cN_Mod_spreads 289 = .ok (.iconst 0, 1) := by decide +kernel
theorem dN_Mod_spreads_290 : decode cN_Mod_spreads 290 = .ok (.ireturn, 1) := by decide +kernel
theorem dN_Mod_spreads_291 : decode cN_Mod_spreads 291 = .ok (.iload 6, 2) := by decide +kernel
theorem dN_Mod_spreads_293 : decode cN_Mod_spreads 293 = .ok (.ifCond .eq 17, 3) := by decide +kernel
theorem dN_Mod_spreads_296 : decode cN_Mod_spreads 296 = .ok (.aload_n 0, 1) := by decide +kernel
theorem dN_Mod_spreads_297 : decode cN_Mod_spreads 297 = .ok (.aload_n 0, 1) := by decide +kernel
theorem dN_Mod_spreads_298 : decode cN_Mod_spreads 298 = .ok (.getfield 23, 3) := by decide +kernel
theorem dN_Mod_spreads_301 : decode cN_Mod_spreads 301 = .ok (.iload_n 3, 1) := by decide +kernel
theorem dN_Mod_spreads_302 : decode cN_Mod_spreads 302 = .ok (.iaload, 1) := by decide +kernel
theorem dN_Mod_spreads_303 : decode cN_Mod_spreads 303 = .ok (.iload 4, 2) := by decide +kernel
theorem dN_Mod_spreads_305 : decode cN_Mod_spreads 305 = .ok (.iload 5, 2) := by decide +kernel
theorem dN_Mod_spreads_307 : decode cN_Mod_spreads 307 = .ok (.invokevirtual 137, 3) := by decide +kernel
theorem dN_Mod_spreads_310 : decode cN_Mod_spreads 310 = .ok (.aload_n 0, 1) := by decide +kernel
theorem dN_Mod_spreads_311 : decode cN_Mod_spreads 311 = .ok (.aload_n 0, 1) := by decide +kernel
theorem dN_Mod_spreads_312 : decode cN_Mod_spreads 312 = .ok (.getfield 20, 3) := by decide +kernel
theorem dN_Mod_spreads_315 : decode cN_Mod_spreads 315 = .ok (.iload_n 3, 1) := by decide +kernel
theorem dN_Mod_spreads_316 : decode cN_Mod_spreads 316 = .ok (.iaload, 1) := by decide +kernel
theorem dN_Mod_spreads_317 : decode cN_Mod_spreads 317 = .ok (.iload 4, 2) := by decide +kernel
theorem dN_Mod_spreads_319 : decode cN_Mod_spreads 319 = .ok (.iload 5, 2) := by decide +kernel
theorem dN_Mod_spreads_321 : decode cN_Mod_spreads 321 = .ok (.invokevirtual 137, 3) := by decide +kernel
theorem dN_Mod_spreads_324 : decode cN_Mod_spreads 324 = .ok (.goto (-273), 3) := by decide +kernel
theorem dN_Mod_spreads_327 : decode cN_Mod_spreads 327 = .ok (.iconst 1, 1) := by decide +kernel
theorem dN_Mod_spreads_328 : decode cN_Mod_spreads 328 = .ok (.ireturn, 1) := by decide +kernel
theorem dN_Mod_isWaiting_0 : decode cN_Mod_isWaiting 0 = .ok (.iconst 0, 1) := by decide +kernel
theorem dN_Mod_isWaiting_1 : decode cN_Mod_isWaiting 1 = .ok (.istore_n 2, 1) := by decide +kernel
theorem dN_Mod_isWaiting_2 : decode cN_Mod_isWaiting 2 = .ok (.iconst 0, 1) := by decide +kernel
theorem dN_Mod_isWaiting_3 : decode cN_Mod_isWaiting 3 = .ok (.istore_n 3, 1) := by decide +kernel
theorem dN_Mod_isWaiting_4 : decode cN_Mod_isWaiting 4 = .ok (.iload_n 3, 1) := by decide +kernel
theorem dN_Mod_isWaiting_5 : decode cN_Mod_isWaiting 5 = .ok (.aload_n 0, 1) := by decide +kernel
theorem dN_Mod_isWaiting_6 : decode cN_Mod_isWaiting 6 = .ok (.getfield 99, 3) := by decide +kernel
theorem dN_Mod_isWaiting_9 : decode cN_Mod_isWaiting 9 = .ok (.if_icmp .ge 29, 3) := by decide +kernel
theorem dN_Mod_isWaiting_12 : decode cN_Mod_isWaiting 12 = .ok (.iload_n 2, 1) := by decide +kernel
theorem dN_Mod_isWaiting_13 : decode cN_Mod_isWaiting 13 = .ok (.ifCond .ne 13, 3) := by decide +kernel
theorem dN_Mod_isWaiting_16 : decode cN_Mod_isWaiting 16 = .ok (.aload_n 0, 1) := by decide +kernel
theorem dN_Mod_isWaiting_17 : decode cN_Mod_isWaiting 17 = .ok (.getfield 43, 3) := by decide +kernel
theorem dN_Mod_isWaiting_20 : decode cN_Mod_isWaiting 20 = .ok (.iload_n 3, 1) := by decide +kernel
theorem dN_Mod_isWaiting_21 : decode cN_Mod_isWaiting 21 = .ok (.iaload, 1) := by decide +kernel
theorem dN_Mod_isWaiting_22 : decode cN_Mod_isWaiting 22 = .ok (.iload_n 1, 1) := by decide +kernel
theorem dN_Mod_isWaiting_23 : decode cN_Mod_isWaiting 23 = .ok (.if_icmp .ne 7, 3) := by decide +kernel
theorem dN_Mod_isWaiting_26 : decode cN_Mod_isWaiting 26 = .ok (.iconst 1, 1) := by decide +kernel
theorem dN_Mod_isWaiting_27 : decode cN_Mod_isWaiting 27 = .ok (.goto 4, 3) := by decide +kernel
theorem dN_Mod_isWaiting_30 : decode cN_Mod_isWaiting 30 = .ok (.iconst 0, 1) := by decide +kernel
theorem dN_Mod_isWaiting_31 : decode cN_Mod_isWaiting 31 = .ok (.istore_n 2, 1) := by decide +kernel
theorem dN_Mod_isWaiting_32 : decode cN_Mod_isWaiting 32 = .ok (.iinc 3 1, 3) := by decide +kernel
theorem dN_Mod_isWaiting_35 : decode cN_Mod_isWaiting 35 = .ok (.goto (-31), 3) := by decide +kernel
theorem dN_Mod_isWaiting_38 : decode cN_Mod_isWaiting 38 = .ok (.iload_n 2, 1) := by decide +kernel
theorem dN_Mod_isWaiting_39 : decode cN_Mod_isWaiting 39 = .ok (.ireturn, 1) := by decide +kernel
theorem dN_Mod_hold_0 : decode cN_Mod_hold 0 = .ok (.aload_n 0, 1) := by decide +kernel
theorem dN_Mod_hold_1 : decode cN_Mod_hold 1 = .ok (.getfield 43, 3) := by decide +kernel
theorem dN_Mod_hold_4 : decode cN_Mod_hold 4 = .ok (.aload_n 0, 1) := by decide +kernel
theorem dN_Mod_hold_5 : decode cN_Mod_hold 5 = .ok (.getfield 99, 3) := by decide +kernel
theorem dN_Mod_hold_8 : decode cN_Mod_hold 8 = .ok (.iload_n 1, 1) := by decide +kernel
theorem dN_Mod_hold_9 : decode cN_Mod_hold 9 = .ok (.iastore, 1) := by decide +kernel
theorem dN_Mod_hold_10 : decode cN_Mod_hold 10 = .ok (.aload_n 0, 1) := by decide +kernel
theorem dN_Mod_hold_11 : decode cN_Mod_hold 11 = .ok (.dup, 1) := by decide +kernel
theorem dN_Mod_hold_12 : decode cN_Mod_hold 12 = .ok (.getfield 99, 3) := by decide +kernel
theorem dN_Mod_hold_15 : decode cN_Mod_hold 15 = .ok (.iconst 1, 1) := by decide +kernel
theorem dN_Mod_hold_16 : decode cN_Mod_hold 16 = .ok (.iadd, 1) := by decide +kernel
theorem dN_Mod_hold_17 : decode cN_Mod_hold 17 = .ok (.putfield 99, 3) := by decide +kernel
theorem dN_Mod_hold_20 : decode cN_Mod_hold 20 = .ok (.aload_n 0, 1) := by decide +kernel
theorem dN_Mod_hold_21 : decode cN_Mod_hold 21 = .ok (.getfield 61, 3) := by decide +kernel
theorem dN_Mod_hold_24 : decode cN_Mod_hold 24 = .ok (.iload_n 1, 1) := by decide +kernel
theorem dN_Mod_hold_25 : decode cN_Mod_hold 25 = .ok (.iload_n 2, 1) := by decide +kernel
theorem dN_Mod_hold_26 : decode cN_Mod_hold 26 = .ok (.iastore, 1) := by decide +kernel
theorem dN_Mod_hold_27 : decode cN_Mod_hold 27 = .ok (.aload_n 0, 1) := by decide +kernel
theorem dN_Mod_hold_28 : decode cN_Mod_hold 28 = .ok (.getfield 64, 3) := by decide +kernel
theorem dN_Mod_hold_31 : decode cN_Mod_hold 31 = .ok (.iload_n 1, 1) := by decide +kernel
theorem dN_Mod_hold_32 : decode cN_Mod_hold 32 = .ok (.iload_n 3, 1) := by decide +kernel
theorem dN_Mod_hold_33 : decode cN_Mod_hold 33 = .ok (.iastore, 1) := by decide +kernel
theorem dN_Mod_hold_34 : decode cN_Mod_hold 34 = .ok (.return_, 1) := by decide +kernel
theorem dN_Mod_meet_0 : decode cN_Mod_meet 0 = .ok (.iload_n 0, 1) := by decide +kernel
theorem dN_Mod_meet_1 : decode cN_Mod_meet 1 = .ok (.sipush 256, 3) := by decide +kernel
theorem dN_Mod_meet_4 : decode cN_Mod_meet 4 = .ok (.idiv, 1) := by decide +kernel
theorem dN_Mod_meet_5 : decode cN_Mod_meet 5 = .ok (.iload_n 1, 1) := by decide +kernel
theorem dN_Mod_meet_6 : decode cN_Mod_meet 6 = .ok (.sipush 256, 3) := by decide +kernel
theorem dN_Mod_meet_9 : decode cN_Mod_meet 9 = .ok (.irem, 1) := by decide +kernel
theorem dN_Mod_meet_10 : decode cN_Mod_meet 10 = .ok (.if_icmp .gt 20, 3) := by decide +kernel
theorem dN_Mod_meet_13 : decode cN_Mod_meet 13 = .ok (.iload_n 1, 1) := by decide +kernel
theorem dN_Mod_meet_14 : decode cN_Mod_meet 14 = .ok (.sipush 256, 3) := by decide +kernel
theorem dN_Mod_meet_17 : decode cN_Mod_meet 17 = .ok (.idiv, 1) := by decide +kernel
theorem dN_Mod_meet_18 : decode cN_Mod_meet 18 = .ok (.iload_n 0, 1) := by decide +kernel
theorem dN_Mod_meet_19 : decode cN_Mod_meet 19 = .ok (.sipush 256, 3) := by decide +kernel
theorem dN_Mod_meet_22 : decode cN_Mod_meet 22 = .ok (.irem, 1) := by decide +kernel
theorem dN_Mod_meet_23 : decode cN_Mod_meet 23 = .ok (.if_icmp .gt 7, 3) := by decide +kernel
theorem dN_Mod_meet_26 : decode cN_Mod_meet 26 = .ok (.iconst 1, 1) := by decide +kernel
theorem dN_Mod_meet_27 : decode cN_Mod_meet 27 = .ok (.goto 4, 3) := by decide +kernel
theorem dN_Mod_meet_30 : decode cN_Mod_meet 30 = .ok (.iconst 0, 1) := by decide +kernel
theorem dN_Mod_meet_31 : decode cN_Mod_meet 31 = .ok (.ireturn, 1) := by decide +kernel
theorem dN_Mod_areAlike_0 : decode cN_Mod_areAlike 0 = .ok (.aload_n 0, 1) := by decide +kernel
theorem dN_Mod_areAlike_1 : decode cN_Mod_areAlike 1 = .ok (.getfield 67, 3) := by decide +kernel
theorem dN_Mod_areAlike_4 : decode cN_Mod_areAlike 4 = .ok (.iconst 0, 1) := by decide +kernel
theorem dN_Mod_areAlike_5 : decode cN_Mod_areAlike 5 = .ok (.iaload, 1) := by decide +kernel
theorem dN_Mod_areAlike_6 : decode cN_Mod_areAlike 6 = .ok (.ifCond .lt 46, 3) := by decide +kernel
theorem dN_Mod_areAlike_9 : decode cN_Mod_areAlike 9 = .ok (.aload_n 0, 1) := by decide +kernel
theorem dN_Mod_areAlike_10 : decode cN_Mod_areAlike 10 = .ok (.getfield 67, 3) := by decide +kernel
theorem dN_Mod_areAlike_13 : decode cN_Mod_areAlike 13 = .ok (.iload_n 1, 1) := by decide +kernel
theorem dN_Mod_areAlike_14 : decode cN_Mod_areAlike 14 = .ok (.iaload, 1) := by decide +kernel
theorem dN_Mod_areAlike_15 : decode cN_Mod_areAlike 15 = .ok (.aload_n 0, 1) := by decide +kernel
theorem dN_Mod_areAlike_16 : decode cN_Mod_areAlike 16 = .ok (.getfield 67, 3) := by decide +kernel
theorem dN_Mod_areAlike_19 : decode cN_Mod_areAlike 19 = .ok (.iconst 0, 1) := by decide +kernel
theorem dN_Mod_areAlike_20 : decode cN_Mod_areAlike 20 = .ok (.iaload, 1) := by decide +kernel
theorem dN_Mod_areAlike_21 : decode cN_Mod_areAlike 21 = .ok (.if_icmp .ge 7, 3) := by decide +kernel
theorem dN_Mod_areAlike_24 : decode cN_Mod_areAlike 24 = .ok (.iconst 1, 1) := by decide +kernel
theorem dN_Mod_areAlike_25 : decode cN_Mod_areAlike 25 = .ok (.goto 4, 3) := by decide +kernel
theorem dN_Mod_areAlike_28 : decode cN_Mod_areAlike 28 = .ok (.iconst 0, 1) := by decide +kernel
theorem dN_Mod_areAlike_29 : decode cN_Mod_areAlike 29 = .ok (.aload_n 0, 1) := by decide +kernel
theorem dN_Mod_areAlike_30 : decode cN_Mod_areAlike 30 = .ok (.getfield 67, 3) := by decide +kernel
theorem dN_Mod_areAlike_33 : decode cN_Mod_areAlike 33 = .ok (.iload_n 2, 1) := by decide +kernel
theorem dN_Mod_areAlike_34 : decode cN_Mod_areAlike 34 = .ok (.iaload, 1) := by decide +kernel
theorem dN_Mod_areAlike_35 : decode cN_Mod_areAlike 35 = .ok (.aload_n 0, 1) := by decide +kernel
theorem dN_Mod_areAlike_36 : decode cN_Mod_areAlike 36 = .ok (.getfield 67, 3) := by decide +kernel
theorem dN_Mod_areAlike_39 : decode cN_Mod_areAlike 39 = .ok (.iconst 0, 1) := by decide +kernel
theorem dN_Mod_areAlike_40 : decode cN_Mod_areAlike 40 = .ok (.iaload, 1) := by decide +kernel
theorem dN_Mod_areAlike_41 : decode cN_Mod_areAlike 41 = .ok (.if_icmp .ge 7, 3) := by decide +kernel
theorem dN_Mod_areAlike_44 : decode cN_Mod_areAlike 44 = .ok (.iconst 1, 1) := by decide +kernel
theorem dN_Mod_areAlike_45 : decode cN_Mod_areAlike 45 = .ok (.goto 4, 3) := by decide +kernel
theorem dN_Mod_areAlike_48 : decode cN_Mod_areAlike 48 = .ok (.iconst 0, 1) := by decide +kernel
theorem dN_Mod_areAlike_49 : decode cN_Mod_areAlike 49 = .ok (.if_icmp .ne 7, 3) := by decide +kernel
theorem dN_Mod_areAlike_52 : decode cN_Mod_areAlike 52 = .ok (.iconst 1, 1) := by decide +kernel
theorem dN_Mod_areAlike_53 : decode cN_Mod_areAlike 53 = .ok (.goto 4, 3) := by decide +kernel
theorem dN_Mod_areAlike_56 : decode cN_Mod_areAlike 56 = .ok (.iconst 0, 1) := by decide +kernel
theorem dN_Mod_areAlike_57 : decode cN_Mod_areAlike 57 = .ok (.istore_n 3, 1) := by decide +kernel
theorem dN_Mod_areAlike_58 : decode cN_Mod_areAlike 58 = .ok (.iload_n 3, 1) := by decide +kernel
theorem dN_Mod_areAlike_59 : decode cN_Mod_areAlike 59 = .ok (.ifCond .eq 52, 3) := by decide +kernel
theorem dN_Mod_areAlike_62 : decode cN_Mod_areAlike 62 = .ok (.aload_n 0, 1) := by decide +kernel
theorem dN_Mod_areAlike_63 : decode cN_Mod_areAlike 63 = .ok (.getfield 20, 3) := by decide +kernel
theorem dN_Mod_areAlike_66 : decode cN_Mod_areAlike 66 = .ok (.iload_n 1, 1) := by decide +kernel
theorem dN_Mod_areAlike_67 : decode cN_Mod_areAlike 67 = .ok (.iaload, 1) := by decide +kernel
theorem dN_Mod_areAlike_68 : decode cN_Mod_areAlike 68 = .ok (.aload_n 0, 1) := by decide +kernel
theorem dN_Mod_areAlike_69 : decode cN_Mod_areAlike 69 = .ok (.getfield 20, 3) := by decide +kernel
theorem dN_Mod_areAlike_72 : decode cN_Mod_areAlike 72 = .ok (.iload_n 2, 1) := by decide +kernel
theorem dN_Mod_areAlike_73 : decode cN_Mod_areAlike 73 = .ok (.iaload, 1) := by decide +kernel
theorem dN_Mod_areAlike_74 : decode cN_Mod_areAlike 74 = .ok (.if_icmp .ne 37, 3) := by decide +kernel
theorem dN_Mod_areAlike_77 : decode cN_Mod_areAlike 77 = .ok (.aload_n 0, 1) := by decide +kernel
theorem dN_Mod_areAlike_78 : decode cN_Mod_areAlike 78 = .ok (.getfield 61, 3) := by decide +kernel
theorem dN_Mod_areAlike_81 : decode cN_Mod_areAlike 81 = .ok (.iload_n 1, 1) := by decide +kernel
theorem dN_Mod_areAlike_82 : decode cN_Mod_areAlike 82 = .ok (.iaload, 1) := by decide +kernel
theorem dN_Mod_areAlike_83 : decode cN_Mod_areAlike 83 = .ok (.aload_n 0, 1) := by decide +kernel
theorem dN_Mod_areAlike_84 : decode cN_Mod_areAlike 84 = .ok (.getfield 61, 3) := by decide +kernel
theorem dN_Mod_areAlike_87 : decode cN_Mod_areAlike 87 = .ok (.iload_n 2, 1) := by decide +kernel
theorem dN_Mod_areAlike_88 : decode cN_Mod_areAlike 88 = .ok (.iaload, 1) := by decide +kernel
theorem dN_Mod_areAlike_89 : decode cN_Mod_areAlike 89 = .ok (.if_icmp .ne 22, 3) := by decide +kernel
theorem dN_Mod_areAlike_92 : decode cN_Mod_areAlike 92 = .ok (.aload_n 0, 1) := by decide +kernel
theorem dN_Mod_areAlike_93 : decode cN_Mod_areAlike 93 = .ok (.getfield 64, 3) := by decide +kernel
theorem dN_Mod_areAlike_96 : decode cN_Mod_areAlike 96 = .ok (.iload_n 1, 1) := by decide +kernel
theorem dN_Mod_areAlike_97 : decode cN_Mod_areAlike 97 = .ok (.iaload, 1) := by decide +kernel
theorem dN_Mod_areAlike_98 : decode cN_Mod_areAlike 98 = .ok (.aload_n 0, 1) := by decide +kernel
theorem dN_Mod_areAlike_99 : decode cN_Mod_areAlike 99 = .ok (.getfield 64, 3) := by decide +kernel
theorem dN_Mod_areAlike_102 : decode cN_Mod_areAlike 102 = .ok (.iload_n 2, 1) := by decide +kernel
theorem dN_Mod_areAlike_103 : decode cN_Mod_areAlike 103 = .ok (.iaload, 1) := by decide +kernel
theorem dN_Mod_areAlike_104 : decode cN_Mod_areAlike 104 = .ok (.if_icmp .ne 7, 3) := by decide +kernel
theorem dN_Mod_areAlike_107 : decode cN_Mod_areAlike 107 = .ok (.iconst 1, 1) := by decide +kernel
theorem dN_Mod_areAlike_108 : decode cN_Mod_areAlike 108 = .ok (.goto 4, 3) := by decide +kernel
theorem dN_Mod_areAlike_111 : decode cN_Mod_areAlike 111 = .ok (.iconst 0, 1) := by decide +kernel
theorem dN_Mod_areAlike_112 : decode cN_Mod_areAlike 112 = .ok (.ireturn, 1) := by decide +kernel
theorem dN_Mod_over_0 : decode cN_Mod_over 0 = .ok (.aload_n 0, 1) := by decide +kernel
theorem dN_Mod_over_1 : decode cN_Mod_over 1 = .ok (.iconst 0, 1) := by decide +kernel
theorem dN_Mod_over_2 : decode cN_Mod_over 2 = .ok (.putfield 70, 3) := by decide +kernel
theorem dN_Mod_over_5 : decode cN_Mod_over 5 = .ok (.iconst 0, 1) := by decide +kernel
theorem dN_Mod_over_6 : decode cN_Mod_over 6 = .ok (.ireturn, 1) := by decide +kernel
