theorem dN_Mod_takes_16 : decode cN_Mod_takes 16 = .ok (.getfield 81, 3) := by decide +kernel
theorem dN_Mod_takes_19 : decode cN_Mod_takes 19 = .ok (.if_icmp .ge 45, 3) := by decide +kernel
theorem dN_Mod_takes_22 : decode cN_Mod_takes 22 = .ok (.aload_n 0, 1) := by decide +kernel
theorem dN_Mod_takes_23 : decode cN_Mod_takes 23 = .ok (.getfield 26, 3) := by decide +kernel
theorem dN_Mod_takes_26 : decode cN_Mod_takes 26 = .ok (.iload_n 2, 1) := by decide +kernel
theorem dN_Mod_takes_27 : decode cN_Mod_takes 27 = .ok (.iaload, 1) := by decide +kernel
theorem dN_Mod_takes_28 : decode cN_Mod_takes 28 = .ok (.aload_n 0, 1) := by decide +kernel
theorem dN_Mod_takes_29 : decode cN_Mod_takes 29 = .ok (.getfield 17, 3) := by decide +kernel
theorem dN_Mod_takes_32 : decode cN_Mod_takes 32 = .ok (.iload_n 1, 1) := by decide +kernel
theorem dN_Mod_takes_33 : decode cN_Mod_takes 33 = .ok (.iaload, 1) := by decide +kernel
theorem dN_Mod_takes_34 : decode cN_Mod_takes 34 = .ok (.sipush 256, 3) := by decide +kernel
theorem dN_Mod_takes_37 : decode cN_Mod_takes 37 = .ok (.idiv, 1) := by decide +kernel
theorem dN_Mod_takes_38 : decode cN_Mod_takes 38 = .ok (.if_icmp .lt 26, 3) := by decide +kernel
theorem dN_Mod_takes_41 : decode cN_Mod_takes 41 = .ok (.aload_n 0, 1) := by decide +kernel
theorem dN_Mod_takes_42 : decode cN_Mod_takes 42 = .ok (.getfield 26, 3) := by decide +kernel
theorem dN_Mod_takes_45 : decode cN_Mod_takes 45 = .ok (.iload_n 2, 1) := by decide +kernel
theorem dN_Mod_takes_46 : decode cN_Mod_takes 46 = .ok (.iaload, 1) := by decide +kernel
theorem dN_Mod_takes_47 : decode cN_Mod_takes 47 = .ok (.aload_n 0, 1) := by decide +kernel
theorem dN_Mod_takes_48 : decode cN_Mod_takes 48 = .ok (.getfield 17, 3) := by decide +kernel
theorem dN_Mod_takes_51 : decode cN_Mod_takes 51 = .ok (.iload_n 1, 1) := by decide +kernel
theorem dN_Mod_takes_52 : decode cN_Mod_takes 52 = .ok (.iaload, 1) := by decide +kernel
theorem dN_Mod_takes_53 : decode cN_Mod_takes 53 = .ok (.sipush 256, 3) := by decide +kernel
theorem dN_Mod_takes_56 : decode cN_Mod_takes 56 = .ok (.irem, 1) := by decide +kernel
theorem dN_Mod_takes_57 : decode cN_Mod_takes 57 = .ok (.if_icmp .gt 7, 3) := by decide +kernel
theorem dN_Mod_takes_60 : decode cN_Mod_takes 60 = .ok (.iconst 1, 1) := by decide +kernel
theorem dN_Mod_takes_61 : decode cN_Mod_takes 61 = .ok (.goto 4, 3) := by decide +kernel
theorem dN_Mod_takes_64 : decode cN_Mod_takes 64 = .ok (.iconst 0, 1) := by decide +kernel
theorem dN_Mod_takes_65 : decode cN_Mod_takes 65 = .ok (.ireturn, 1) := by decide +kernel
theorem dN_Mod_passes_0 : decode cN_Mod_passes 0 = .ok (.iload_n 1, 1) := by decide +kernel
theorem dN_Mod_passes_1 : decode cN_Mod_passes 1 = .ok (.ifCond .le 51, 3) := by decide +kernel
theorem dN_Mod_passes_4 : decode cN_Mod_passes 4 = .ok (.aload_n 0, 1) := by decide +kernel
theorem dN_Mod_passes_5 : decode cN_Mod_passes 5 = .ok (.getfield 13, 3) := by decide +kernel
theorem dN_Mod_passes_8 : decode cN_Mod_passes 8 = .ok (.iload_n 1, 1) := by decide +kernel
theorem dN_Mod_passes_9 : decode cN_Mod_passes 9 = .ok (.iaload, 1) := by decide +kernel
theorem dN_Mod_passes_10 : decode cN_Mod_passes 10 = .ok (.iconst 2, 1) := by decide +kernel
theorem dN_Mod_passes_11 : decode cN_Mod_passes 11 = .ok (.if_icmp .eq 37, 3) := by decide +kernel
theorem dN_Mod_passes_14 : decode cN_Mod_passes 14 = .ok (.aload_n 0, 1) := by decide +kernel
theorem dN_Mod_passes_15 : decode cN_Mod_passes 15 = .ok (.getfield 13, 3) := by decide +kernel
theorem dN_Mod_passes_18 : decode cN_Mod_passes 18 = .ok (.iload_n 1, 1) := by decide +kernel
theorem dN_Mod_passes_19 : decode cN_Mod_passes 19 = .ok (.iaload, 1) := by decide +kernel
theorem dN_Mod_passes_20 : decode cN_Mod_passes 20 = .ok (.iconst 3, 1) := by decide +kernel
theorem dN_Mod_passes_21 : decode cN_Mod_passes 21 = .ok (.if_icmp .eq 27, 3) := by decide +kernel
theorem dN_Mod_passes_24 : decode cN_Mod_passes 24 = .ok (.aload_n 0, 1) := by decide +kernel
theorem dN_Mod_passes_25 : decode cN_Mod_passes 25 = .ok (.getfield 13, 3) := by decide +kernel
theorem dN_Mod_passes_28 : decode cN_Mod_passes 28 = .ok (.iload_n 1, 1) := by decide +kernel
theorem dN_Mod_passes_29 : decode cN_Mod_passes 29 = .ok (.iaload, 1) := by decide +kernel
theorem dN_Mod_passes_30 : decode cN_Mod_passes 30 = .ok (.iconst 4, 1) := by decide +kernel
theorem dN_Mod_passes_31 : decode cN_Mod_passes 31 = .ok (.if_icmp .ne 21, 3) := by decide +kernel
theorem dN_Mod_passes_34 : decode cN_Mod_passes 34 = .ok (.aload_n 0, 1) := by decide +kernel
theorem dN_Mod_passes_35 : decode cN_Mod_passes 35 = .ok (.aload_n 0, 1) := by decide +kernel
theorem dN_Mod_passes_36 : decode cN_Mod_passes 36 = .ok (.getfield 17, 3) := by decide +kernel
theorem dN_Mod_passes_39 : decode cN_Mod_passes 39 = .ok (.iload_n 1, 1) := by decide +kernel
theorem dN_Mod_passes_40 : decode cN_Mod_passes 40 = .ok (.iaload, 1) := by decide +kernel
theorem dN_Mod_passes_41 : decode cN_Mod_passes 41 = .ok (.iload_n 2, 1) := by decide +kernel
theorem dN_Mod_passes_42 : decode cN_Mod_passes 42 = .ok (.invokevirtual 89, 3) := by decide +kernel
theorem dN_Mod_passes_45 : decode cN_Mod_passes 45 = .ok (.ifCond .eq 7, 3) := by decide +kernel
theorem dN_Mod_passes_48 : decode cN_Mod_passes 48 = .ok (.iconst 1, 1) := by decide +kernel
theorem dN_Mod_passes_49 : decode cN_Mod_passes 49 = .ok (.goto 4, 3) := by decide +kernel
theorem dN_Mod_passes_52 : decode cN_Mod_passes 52 = .ok (.iconst 0, 1) := by decide +kernel
theorem dN_Mod_passes_53 : decode cN_Mod_passes 53 = .ok (.ireturn, 1) := by decide +kernel
theorem dN_Mod_isSo_0 : decode cN_Mod_isSo 0 = .ok (.iload_n 1, 1) := by decide +kernel
theorem dN_Mod_isSo_1 : decode cN_Mod_isSo 1 = .ok (.tableswitch 128 0 4 #[35, 45, 59, 82, 107], 35) := by decide +kernel
theorem dN_Mod_isSo_36 : decode cN_Mod_isSo 36 = .ok (.iload_n 2, 1) := by decide +kernel
theorem dN_Mod_isSo_37 : decode cN_Mod_isSo 37 = .ok (.ifCond .ne 7, 3) := by decide +kernel
theorem dN_Mod_isSo_40 : decode cN_Mod_isSo 40 = .ok (.iconst 1, 1) := by decide +kernel
theorem dN_Mod_isSo_41 : decode cN_Mod_isSo 41 = .ok (.goto 4, 3) := by decide +kernel
theorem dN_Mod_isSo_44 : decode cN_Mod_isSo 44 = .ok (.iconst 0, 1) := by decide +kernel
theorem dN_Mod_isSo_45 : decode cN_Mod_isSo 45 = .ok (.ireturn, 1) := by decide +kernel
theorem dN_Mod_isSo_46 : decode cN_Mod_isSo 46 = .ok (.iload_n 2, 1) := by decide +kernel
theorem dN_Mod_isSo_47 : decode cN_Mod_isSo 47 = .ok (.aload_n 0, 1) := by decide +kernel
theorem dN_Mod_isSo_48 : decode cN_Mod_isSo 48 = .ok (.getfield 81, 3) := by decide +kernel
theorem dN_Mod_isSo_51 : decode cN_Mod_isSo 51 = .ok (.if_icmp .ne 7, 3) := by decide +kernel
theorem dN_Mod_isSo_54 : decode cN_Mod_isSo 54 = .ok (.iconst 1, 1) := by decide +kernel
theorem dN_Mod_isSo_55 : decode cN_Mod_isSo 55 = .ok (.goto 4, 3) := by decide +kernel
theorem dN_Mod_isSo_58 : decode cN_Mod_isSo 58 = .ok (.iconst 0, 1) := by decide +kernel
theorem dN_Mod_isSo_59 : decode cN_Mod_isSo 59 = .ok (.ireturn, 1) := by decide +kernel
theorem dN_Mod_isSo_60 : decode cN_Mod_isSo 60 = .ok (.iload_n 2, 1) := by decide +kernel
theorem dN_Mod_isSo_61 : decode cN_Mod_isSo 61 = .ok (.ifCond .eq 16, 3) := by decide +kernel
theorem dN_Mod_isSo_64 : decode cN_Mod_isSo 64 = .ok (.aload_n 0, 1) := by decide +kernel
theorem dN_Mod_isSo_65 : decode cN_Mod_isSo 65 = .ok (.getfield 26, 3) := by decide +kernel
theorem dN_Mod_isSo_68 : decode cN_Mod_isSo 68 = .ok (.iload_n 2, 1) := by decide +kernel
theorem dN_Mod_isSo_69 : decode cN_Mod_isSo 69 = .ok (.iconst 1, 1) := by decide +kernel
theorem dN_Mod_isSo_70 : decode cN_Mod_isSo 70 = .ok (.isub, 1) := by decide +kernel
theorem dN_Mod_isSo_71 : decode cN_Mod_isSo 71 = .ok (.iaload, 1) := by decide +kernel
theorem dN_Mod_isSo_72 : decode cN_Mod_isSo 72 = .ok (.bipush 10, 2) := by decide +kernel
theorem dN_Mod_isSo_74 : decode cN_Mod_isSo 74 = .ok (.if_icmp .ne 7, 3) := by decide +kernel
theorem dN_Mod_isSo_77 : decode cN_Mod_isSo 77 = .ok (.iconst 1, 1) := by decide +kernel
theorem dN_Mod_isSo_78 : decode cN_Mod_isSo 78 = .ok (.goto 4, 3) := by decide +kernel
theorem dN_Mod_isSo_81 : decode cN_Mod_isSo 81 = .ok (.iconst 0, 1) := by decide +kernel
theorem dN_Mod_isSo_82 : decode cN_Mod_isSo 82 = .ok (.ireturn, 1) := by decide +kernel
theorem dN_Mod_isSo_83 : decode cN_Mod_isSo 83 = .ok (.iload_n 2, 1) := by decide +kernel
theorem dN_Mod_isSo_84 : decode cN_Mod_isSo 84 = .ok (.aload_n 0, 1) := by decide +kernel
theorem dN_Mod_isSo_85 : decode cN_Mod_isSo 85 = .ok (.getfield 81, 3) := by decide +kernel
theorem dN_Mod_isSo_88 : decode cN_Mod_isSo 88 = .ok (.if_icmp .eq 14, 3) := by decide +kernel
theorem dN_Mod_isSo_91 : decode cN_Mod_isSo 91 = .ok (.aload_n 0, 1) := by decide +kernel
theorem dN_Mod_isSo_92 : decode cN_Mod_isSo 92 = .ok (.getfield 26, 3) := by decide +kernel
theorem dN_Mod_isSo_95 : decode cN_Mod_isSo 95 = .ok (.iload_n 2, 1) := by decide +kernel
theorem dN_Mod_isSo_96 : decode cN_Mod_isSo 96 = .ok (.iaload, 1) := by decide +kernel
theorem dN_Mod_isSo_97 : decode cN_Mod_isSo 97 = .ok (.bipush 10, 2) := by decide +kernel
theorem dN_Mod_isSo_99 : decode cN_Mod_isSo 99 = .ok (.if_icmp .ne 7, 3) := by decide +kernel
theorem dN_Mod_isSo_102 : decode cN_Mod_isSo 102 = .ok (.iconst 1, 1) := by decide +kernel
theorem dN_Mod_isSo_103 : decode cN_Mod_isSo 103 = .ok (.goto 4, 3) := by decide +kernel
theorem dN_Mod_isSo_106 : decode cN_Mod_isSo 106 = .ok (.iconst 0, 1) := by decide +kernel
theorem dN_Mod_isSo_107 : decode cN_Mod_isSo 107 = .ok (.ireturn, 1) := by decide +kernel
theorem dN_Mod_isSo_108 : decode cN_Mod_isSo 108 = .ok (.aload_n 0, 1) := by decide +kernel
theorem dN_Mod_isSo_109 : decode cN_Mod_isSo 109 = .ok (.iload_n 2, 1) := by decide +kernel
theorem dN_Mod_isSo_110 : decode cN_Mod_isSo 110 = .ok (.iconst 1, 1) := by decide +kernel
theorem dN_Mod_isSo_111 : decode cN_Mod_isSo 111 = .ok (.isub, 1) := by decide +kernel
theorem dN_Mod_isSo_112 : decode cN_Mod_isSo 112 = .ok (.invokevirtual 86, 3) := by decide +kernel
theorem dN_Mod_isSo_115 : decode cN_Mod_isSo 115 = .ok (.aload_n 0, 1) := by decide +kernel
theorem dN_Mod_isSo_116 : decode cN_Mod_isSo 116 = .ok (.iload_n 2, 1) := by decide +kernel
theorem dN_Mod_isSo_117 : decode cN_Mod_isSo 117 = .ok (.invokevirtual 86, 3) := by decide +kernel
theorem dN_Mod_isSo_120 : decode cN_Mod_isSo 120 = .ok (.if_icmp .eq 7, 3) := by decide +kernel
theorem dN_Mod_isSo_123 : decode cN_Mod_isSo 123 = .ok (.iconst 1, 1) := by decide +kernel
theorem dN_Mod_isSo_124 : decode cN_Mod_isSo 124 = .ok (.goto 4, 3) := by decide +kernel
theorem dN_Mod_isSo_127 : decode cN_Mod_isSo 127 = .ok (.iconst 0, 1) := by decide +kernel
theorem dN_Mod_isSo_128 : decode cN_Mod_isSo 128 = .ok (.ireturn, 1) := by decide +kernel
theorem dN_Mod_isSo_129 : decode cN_Mod_isSo 129 = .ok (.aload_n 0, 1) := by decide +kernel
theorem dN_Mod_isSo_130 : decode cN_Mod_isSo 130 = .ok (.iload_n 2, 1) := by decide +kernel
theorem dN_Mod_isSo_131 : decode cN_Mod_isSo 131 = .ok (.iconst 1, 1) := by decide +kernel
theorem dN_Mod_isSo_132 : decode cN_Mod_isSo 132 = .ok (.isub, 1) := by decide +kernel
theorem dN_Mod_isSo_133 : decode cN_Mod_isSo 133 = .ok (.invokevirtual 86, 3) := by decide +kernel
theorem dN_Mod_isSo_136 : decode cN_Mod_isSo 136 = .ok (.aload_n 0, 1) := by decide +kernel
theorem dN_Mod_isSo_137 : decode cN_Mod_isSo 137 = .ok (.iload_n 2, 1) := by decide +kernel
theorem dN_Mod_isSo_138 : decode cN_Mod_isSo 138 = .ok (.invokevirtual 86, 3) := by decide +kernel
theorem dN_Mod_isSo_141 : decode cN_Mod_isSo 141 = .ok (.if_icmp .ne 7, 3) := by decide +kernel
theorem dN_Mod_isSo_144 : decode cN_Mod_isSo 144 = .ok (.iconst 1, 1) := by decide +kernel
theorem dN_Mod_isSo_145 : decode cN_Mod_isSo 145 = .ok (.goto 4, 3) := by decide +kernel
theorem dN_Mod_isSo_148 : decode cN_Mod_isSo 148 = .ok (.iconst 0, 1) := by decide +kernel
theorem dN_Mod_isSo_149 : decode cN_Mod_isSo 149 = .ok (.ireturn, 1) := by decide +kernel
theorem dN_Mod_wordAt_0 : decode cN_Mod_wordAt 0 = .ok (.iload_n 1, 1) := by decide +kernel
theorem dN_Mod_wordAt_1 : decode cN_Mod_wordAt 1 = .ok (.ifCond .lt 20, 3) := by decide +kernel
theorem dN_Mod_wordAt_4 : decode cN_Mod_wordAt 4 = .ok (.iload_n 1, 1) := by decide +kernel
theorem dN_Mod_wordAt_5 : decode cN_Mod_wordAt 5 = .ok (.aload_n 0, 1) := by decide +kernel
theorem dN_Mod_wordAt_6 : decode cN_Mod_wordAt 6 = .ok (.getfield 81, 3) := by decide +kernel
theorem dN_Mod_wordAt_9 : decode cN_Mod_wordAt 9 = .ok (.if_icmp .ge 12, 3) := by decide +kernel
theorem dN_Mod_wordAt_12 : decode cN_Mod_wordAt 12 = .ok (.aload_n 0, 1) := by decide +kernel
theorem dN_Mod_wordAt_13 : decode cN_Mod_wordAt 13 = .ok (.getfield 26, 3) := by decide +kernel
theorem dN_Mod_wordAt_16 : decode cN_Mod_wordAt 16 = .ok (.iload_n 1, 1) := by decide +kernel
theorem dN_Mod_wordAt_17 : decode cN_Mod_wordAt 17 = .ok (.iaload, 1) := by decide +kernel
theorem dN_Mod_wordAt_18 : decode cN_Mod_wordAt 18 = .ok (.goto 4, 3) := by decide +kernel
theorem dN_Mod_wordAt_21 : decode cN_Mod_wordAt 21 = .ok (.iconst 0, 1) := by decide +kernel
theorem dN_Mod_wordAt_22 : decode cN_Mod_wordAt 22 = .ok (.istore_n 2, 1) := by decide +kernel
theorem dN_Mod_wordAt_23 : decode cN_Mod_wordAt 23 = .ok (.iload_n 2, 1) := by decide +kernel
theorem dN_Mod_wordAt_24 : decode cN_Mod_wordAt 24 = .ok (.bipush 48, 2) := by decide +kernel
theorem dN_Mod_wordAt_26 : decode cN_Mod_wordAt 26 = .ok (.if_icmp .lt 9, 3) := by decide +kernel
theorem dN_Mod_wordAt_29 : decode cN_Mod_wordAt 29 = .ok (.iload_n 2, 1) := by decide +kernel
theorem dN_Mod_wordAt_30 : decode cN_Mod_wordAt 30 = .ok (.bipush 57, 2) := by decide +kernel
theorem dN_Mod_wordAt_32 : decode cN_Mod_wordAt 32 = .ok (.if_icmp .le 33, 3) := by decide +kernel
theorem dN_Mod_wordAt_35 : decode cN_Mod_wordAt 35 = .ok (.iload_n 2, 1) := by decide +kernel
theorem dN_Mod_wordAt_36 : decode cN_Mod_wordAt 36 = .ok (.bipush 65, 2) := by decide +kernel
theorem dN_Mod_wordAt_38 : decode cN_Mod_wordAt 38 = .ok (.if_icmp .lt 9, 3) := by decide +kernel
theorem dN_Mod_wordAt_41 : decode cN_Mod_wordAt 41 = .ok (.iload_n 2, 1) := by decide +kernel
theorem dN_Mod_wordAt_42 : decode cN_Mod_wordAt 42 = .ok (.bipush 90, 2) := by decide +kernel
theorem dN_Mod_wordAt_44 : decode cN_Mod_wordAt 44 = .ok (.if_icmp .le 21, 3) := by decide +kernel
theorem dN_Mod_wordAt_47 : decode cN_Mod_wordAt 47 = .ok (.iload_n 2, 1) := by decide +kernel
theorem dN_Mod_wordAt_48 : decode cN_Mod_wordAt 48 = .ok (.bipush 97, 2) := by decide +kernel
theorem dN_Mod_wordAt_50 : decode cN_Mod_wordAt 50 = .ok (.if_icmp .lt 9, 3) := by decide +kernel
theorem dN_Mod_wordAt_53 : decode cN_Mod_wordAt 53 = .ok (.iload_n 2, 1) := by decide +kernel
theorem dN_Mod_wordAt_54 : decode cN_Mod_wordAt 54 = .ok (.bipush 122, 2) := by decide +kernel
theorem dN_Mod_wordAt_56 : decode cN_Mod_wordAt 56 = .ok (.if_icmp .le 9, 3) := by decide +kernel
theorem dN_Mod_wordAt_59 : decode cN_Mod_wordAt 59 = .ok (.iload_n 2, 1) := by decide +kernel
theorem dN_Mod_wordAt_60 : decode cN_Mod_wordAt 60 = .ok (.bipush 95, 2) := by decide +kernel
theorem dN_Mod_wordAt_62 : decode cN_Mod_wordAt 62 = .ok (.if_icmp .ne 7, 3) := by decide +kernel
theorem dN_Mod_wordAt_65 : decode cN_Mod_wordAt 65 = .ok (.iconst 1, 1) := by decide +kernel
theorem dN_Mod_wordAt_66 : decode cN_Mod_wordAt 66 = .ok (.goto 4, 3) := by decide +kernel
theorem dN_Mod_wordAt_69 : decode cN_Mod_wordAt 69 = .ok (.iconst 0, 1) := by decide +kernel
theorem dN_Mod_wordAt_70 : decode cN_Mod_wordAt 70 = .ok (.ireturn, 1) := by decide +kernel
theorem dN_Mod_lastEnd_0 : decode cN_Mod_lastEnd 0 = .ok (.sipush 200, 3) := by decide +kernel
theorem dN_Mod_lastEnd_3 : decode cN_Mod_lastEnd 3 = .ok (.iload_n 1, 1) := by decide +kernel
theorem dN_Mod_lastEnd_4 : decode cN_Mod_lastEnd 4 = .ok (.imul, 1) := by decide +kernel
theorem dN_Mod_lastEnd_5 : decode cN_Mod_lastEnd 5 = .ok (.istore_n 2, 1) := by decide +kernel
theorem dN_Mod_lastEnd_6 : decode cN_Mod_lastEnd 6 = .ok (.iload_n 2, 1) := by decide +kernel
theorem dN_Mod_lastEnd_7 : decode cN_Mod_lastEnd 7 = .ok (.sipush 200, 3) := by decide +kernel
theorem dN_Mod_lastEnd_10 : decode cN_Mod_lastEnd 10 = .ok (.aload_n 0, 1) := by decide +kernel
theorem dN_Mod_lastEnd_11 : decode cN_Mod_lastEnd 11 = .ok (.getfield 81, 3) := by decide +kernel
theorem dN_Mod_lastEnd_14 : decode cN_Mod_lastEnd 14 = .ok (.imul, 1) := by decide +kernel
theorem dN_Mod_lastEnd_15 : decode cN_Mod_lastEnd 15 = .ok (.sipush 200, 3) := by decide +kernel
theorem dN_Mod_lastEnd_18 : decode cN_Mod_lastEnd 18 = .ok (.iadd, 1) := by decide +kernel
theorem dN_Mod_lastEnd_19 : decode cN_Mod_lastEnd 19 = .ok (.if_icmp .ge 16, 3) := by decide +kernel
theorem dN_Mod_lastEnd_22 : decode cN_Mod_lastEnd 22 = .ok (.aload_n 0, 1) := by decide +kernel
theorem dN_Mod_lastEnd_23 : decode cN_Mod_lastEnd 23 = .ok (.getfield 34, 3) := by decide +kernel
theorem dN_Mod_lastEnd_26 : decode cN_Mod_lastEnd 26 = .ok (.iload_n 2, 1) := by decide +kernel
theorem dN_Mod_lastEnd_27 : decode cN_Mod_lastEnd 27 = .ok (.iconst 0, 1) := by decide +kernel
theorem dN_Mod_lastEnd_28 : decode cN_Mod_lastEnd 28 = .ok (.bastore, 1) := by decide +kernel
theorem dN_Mod_lastEnd_29 : decode cN_Mod_lastEnd 29 = .ok (.iinc 2 1, 3) := by decide +kernel
theorem dN_Mod_lastEnd_32 : decode cN_Mod_lastEnd 32 = .ok (.goto (-26), 3) := by decide +kernel
theorem dN_Mod_lastEnd_35 : decode cN_Mod_lastEnd 35 = .ok (.aload_n 0, 1) := by decide +kernel
theorem dN_Mod_lastEnd_36 : decode cN_Mod_lastEnd 36 = .ok (.getfield 34, 3) := by decide +kernel
theorem dN_Mod_lastEnd_39 : decode cN_Mod_lastEnd 39 = .ok (.sipush 200, 3) := by decide +kernel
theorem dN_Mod_lastEnd_42 : decode cN_Mod_lastEnd 42 = .ok (.iload_n 1, 1) := by decide +kernel
theorem dN_Mod_lastEnd_43 : decode cN_Mod_lastEnd 43 = .ok (.imul, 1) := by decide +kernel
theorem dN_Mod_lastEnd_44 : decode cN_Mod_lastEnd 44 = .ok (.aload_n 0, 1) := by decide +kernel
theorem dN_Mod_lastEnd_45 : decode cN_Mod_lastEnd 45 = .ok (.getfield 73, 3) := by decide +kernel
theorem dN_Mod_lastEnd_48 : decode cN_Mod_lastEnd 48 = .ok (.iadd, 1) := by decide +kernel
theorem dN_Mod_lastEnd_49 : decode cN_Mod_lastEnd 49 = .ok (.iconst 1, 1) := by decide +kernel
theorem dN_Mod_lastEnd_50 : decode cN_Mod_lastEnd 50 = .ok (.bastore, 1) := by decide +kernel
theorem dN_Mod_lastEnd_51 : decode cN_Mod_lastEnd 51 = .ok (.iconst (-1), 1) := by decide +kernel
theorem dN_Mod_lastEnd_52 : decode cN_Mod_lastEnd 52 = .ok (.istore_n 2, 1) := by decide +kernel
theorem dN_Mod_lastEnd_53 : decode cN_Mod_lastEnd 53 = .ok (.iload_n 1, 1) := by decide +kernel
theorem dN_Mod_lastEnd_54 : decode cN_Mod_lastEnd 54 = .ok (.istore_n 3, 1) := by decide +kernel
theorem dN_Mod_lastEnd_55 : decode cN_Mod_lastEnd 55 = .ok (.iload_n 3, 1) := by decide +kernel
theorem dN_Mod_lastEnd_56 : decode cN_Mod_lastEnd 56 = .ok (.aload_n 0, 1) := by decide +kernel
theorem dN_Mod_lastEnd_57 : decode cN_Mod_lastEnd 57 = .ok (.getfield 81, 3) := by decide +kernel
theorem dN_Mod_lastEnd_60 : decode cN_Mod_lastEnd 60 = .ok (.if_icmp .gt 268, 3) := by decide +kernel
theorem dN_Mod_lastEnd_63 : decode cN_Mod_lastEnd 63 = .ok (.iconst 1, 1) := by decide +kernel
theorem dN_Mod_lastEnd_64 : decode cN_Mod_lastEnd 64 = .ok (.istore 4, 2) := by decide +kernel
theorem dN_Mod_lastEnd_66 : decode cN_Mod_lastEnd 66 = .ok (.iload 4, 2) := by decide +kernel
theorem dN_Mod_lastEnd_68 : decode cN_Mod_lastEnd 68 = .ok (.ifCond .eq 168, 3) := by decide +kernel
theorem dN_Mod_lastEnd_71 : decode cN_Mod_lastEnd 71 = .ok (.iconst 0, 1) := by decide +kernel
theorem dN_Mod_lastEnd_72 : decode cN_Mod_lastEnd 72 = .ok (.istore 4, 2) := by decide +kernel
theorem dN_Mod_lastEnd_74 : decode cN_Mod_lastEnd 74 = .ok (.iconst 1, 1) := by decide +kernel
theorem dN_Mod_lastEnd_75 : decode cN_Mod_lastEnd 75 = .ok (.istore 5, 2) := by decide +kernel
theorem dN_Mod_lastEnd_77 : decode cN_Mod_lastEnd 77 = .ok (.iload 5, 2) := by decide +kernel
theorem dN_Mod_lastEnd_79 : decode cN_Mod_lastEnd 79 = .ok (.aload_n 0, 1) := by decide +kernel
theorem dN_Mod_lastEnd_80 : decode cN_Mod_lastEnd 80 = .ok (.getfield 7, 3) := by decide +kernel
theorem dN_Mod_lastEnd_83 : decode cN_Mod_lastEnd 83 = .ok (.if_icmp .ge 150, 3) := by decide +kernel
theorem dN_Mod_lastEnd_86 : decode cN_Mod_lastEnd 86 = .ok (.aload_n 0, 1) := by decide +kernel
theorem dN_Mod_lastEnd_87 : decode cN_Mod_lastEnd 87 = .ok (.getfield 34, 3) := by decide +kernel
theorem dN_Mod_lastEnd_90 : decode cN_Mod_lastEnd 90 = .ok (.sipush 200, 3) := by decide +kernel
theorem dN_Mod_lastEnd_93 : decode cN_Mod_lastEnd 93 = .ok (.iload_n 3, 1) := by decide +kernel
theorem dN_Mod_lastEnd_94 : decode cN_Mod_lastEnd 94 = .ok (.imul, 1) := by decide +kernel
theorem dN_Mod_lastEnd_95 : decode cN_Mod_lastEnd 95 = .ok (.iload 5, 2) := by decide +kernel
theorem dN_Mod_lastEnd_97 : decode cN_Mod_lastEnd 97 = .ok (.iadd, 1) := by decide +kernel
theorem dN_Mod_lastEnd_98 : decode cN_Mod_lastEnd 98 = .ok (.baload, 1) := by decide +kernel
theorem dN_Mod_lastEnd_99 : decode cN_Mod_lastEnd 99 = .ok (.ifCond .eq 128, 3) := by decide +kernel
theorem dN_Mod_lastEnd_102 : decode cN_Mod_lastEnd 102 = .ok (.aload_n 0, 1) := by decide +kernel
theorem dN_Mod_lastEnd_103 : decode cN_Mod_lastEnd 103 = .ok (.iload 5, 2) := by decide +kernel
theorem dN_Mod_lastEnd_105 : decode cN_Mod_lastEnd 105 = .ok (.iload_n 3, 1) := by decide +kernel
theorem dN_Mod_lastEnd_106 : decode cN_Mod_lastEnd 106 = .ok (.invokevirtual 96, 3) := by decide +kernel
theorem dN_Mod_lastEnd_109 : decode cN_Mod_lastEnd 109 = .ok (.ifCond .ne 6, 3) := by decide +kernel
theorem dN_Mod_lastEnd_112 : decode cN_Mod_lastEnd 112 = .ok (.goto 115, 3) := by decide +kernel
theorem dN_Mod_lastEnd_115 : decode cN_Mod_lastEnd 115 = .ok (.aload_n 0, 1) := by decide +kernel
theorem dN_Mod_lastEnd_116 : decode cN_Mod_lastEnd 116 = .ok (.getfield 13, 3) := by decide +kernel
theorem dN_Mod_lastEnd_119 : decode cN_Mod_lastEnd 119 = .ok (.iload 5, 2) := by decide +kernel
theorem dN_Mod_lastEnd_121 : decode cN_Mod_lastEnd 121 = .ok (.iaload, 1) := by decide +kernel
theorem dN_Mod_lastEnd_122 : decode cN_Mod_lastEnd 122 = .ok (.iconst 2, 1) := by decide +kernel
theorem dN_Mod_lastEnd_123 : decode cN_Mod_lastEnd 123 = .ok (.if_icmp .ne 13, 3) := by decide +kernel
theorem dN_Mod_lastEnd_126 : decode cN_Mod_lastEnd 126 = .ok (.aload_n 0, 1) := by decide +kernel
theorem dN_Mod_lastEnd_127 : decode cN_Mod_lastEnd 127 = .ok (.getfield 23, 3) := by decide +kernel
theorem dN_Mod_lastEnd_130 : decode cN_Mod_lastEnd 130 = .ok (.iload 5, 2) := by decide +kernel
theorem dN_Mod_lastEnd_132 : decode cN_Mod_lastEnd 132 = .ok (.iaload, 1) := by decide +kernel
theorem dN_Mod_lastEnd_133 : decode cN_Mod_lastEnd 133 = .ok (.goto 10, 3) := by decide +kernel
theorem dN_Mod_lastEnd_136 : decode cN_Mod_lastEnd 136 = .ok (.aload_n 0, 1) := by decide +kernel
theorem dN_Mod_lastEnd_137 : decode cN_Mod_lastEnd 137 = .ok (.getfield 20, 3) := by decide +kernel
theorem dN_Mod_lastEnd_140 : decode cN_Mod_lastEnd 140 = .ok (.iload 5, 2) := by decide +kernel
theorem dN_Mod_lastEnd_142 : decode cN_Mod_lastEnd 142 = .ok (.iaload, 1) := by decide +kernel
theorem dN_Mod_lastEnd_143 : decode cN_Mod_lastEnd 143 = .ok (.istore 6, 2) := by decide +kernel
theorem dN_Mod_lastEnd_145 : decode cN_Mod_lastEnd 145 = .ok (.iload 4, 2) := by decide +kernel
theorem dN_Mod_lastEnd_147 : decode cN_Mod_lastEnd 147 = .ok (.ifCond .ne 40, 3) := by decide +kernel
theorem dN_Mod_lastEnd_150 : decode cN_Mod_lastEnd 150 = .ok (.aload_n 0, 1) := by decide +kernel
theorem dN_Mod_lastEnd_151 : decode cN_Mod_lastEnd 151 = .ok (.getfield 34, 3) := by decide +kernel
theorem dN_Mod_lastEnd_154 : decode cN_Mod_lastEnd 154 = .ok (.sipush 200, 3) := by decide +kernel
theorem dN_Mod_lastEnd_157 : decode cN_Mod_lastEnd 157 = .ok (.iload_n 3, 1) := by decide +kernel
theorem dN_Mod_lastEnd_158 : decode cN_Mod_lastEnd 158 = .ok (.imul, 1) := by decide +kernel
theorem dN_Mod_lastEnd_159 : decode cN_Mod_lastEnd 159 = .ok (.aload_n 0, 1) := by decide +kernel
theorem dN_Mod_lastEnd_160 : decode cN_Mod_lastEnd 160 = .ok (.getfield 20, 3) := by decide +kernel
theorem dN_Mod_lastEnd_163 : decode cN_Mod_lastEnd 163 = .ok (.iload 5, 2) := by decide +kernel
theorem dN_Mod_lastEnd_165 : decode cN_Mod_lastEnd 165 = .ok (.iaload, 1) := by decide +kernel
theorem dN_Mod_lastEnd_166 : decode cN_Mod_lastEnd 166 = .ok (.iadd, 1) := by decide +kernel
theorem dN_Mod_lastEnd_167 : decode cN_Mod_lastEnd 167 = .ok (.baload, 1) := by decide +kernel
theorem dN_Mod_lastEnd_168 : decode cN_Mod_lastEnd 168 = .ok (.ifCond .eq 19, 3) := by decide +kernel
theorem dN_Mod_lastEnd_171 : decode cN_Mod_lastEnd 171 = .ok (.aload_n 0, 1) := by decide +kernel
theorem dN_Mod_lastEnd_172 : decode cN_Mod_lastEnd 172 = .ok (.getfield 34, 3) := by decide +kernel
theorem dN_Mod_lastEnd_175 : decode cN_Mod_lastEnd 175 = .ok (.sipush 200, 3) := by decide +kernel
theorem dN_Mod_lastEnd_178 : decode cN_Mod_lastEnd 178 = .ok (.iload_n 3, 1) := by decide +kernel
theorem dN_Mod_lastEnd_179 : decode cN_Mod_lastEnd 179 = .ok (.imul, 1) := by decide +kernel
theorem dN_Mod_lastEnd_180 : decode cN_Mod_lastEnd 180 = .ok (.iload 6, 2) := by decide +kernel
theorem dN_Mod_lastEnd_182 : decode cN_Mod_lastEnd 182 = .ok (.iadd, 1) := by decide +kernel
theorem dN_Mod_lastEnd_183 : decode cN_Mod_lastEnd 183 = .ok (.baload, 1) := by decide +kernel
theorem dN_Mod_lastEnd_184 : decode cN_Mod_lastEnd 184 = .ok (.ifCond .ne 7, 3) := by decide +kernel
theorem dN_Mod_lastEnd_187 : decode cN_Mod_lastEnd 187 = .ok (.iconst 1, 1) := by decide +kernel
theorem dN_Mod_lastEnd_188 : decode cN_Mod_lastEnd 188 = .ok (.goto 4, 3) := by decide +kernel
theorem dN_Mod_lastEnd_191 : decode cN_Mod_lastEnd 191 = .ok (.iconst 0, 1) := by decide +kernel
theorem dN_Mod_lastEnd_192 : decode cN_Mod_lastEnd 192 = .ok (.istore 4, 2) := by decide +kernel
theorem dN_Mod_lastEnd_194 : decode cN_Mod_lastEnd 194 = .ok (.aload_n 0, 1) := by decide +kernel
theorem dN_Mod_lastEnd_195 : decode cN_Mod_lastEnd 195 = .ok (.getfield 34, 3) := by decide +kernel
theorem dN_Mod_lastEnd_198 : decode cN_Mod_lastEnd 198 = .ok (.sipush 200, 3) := by decide +kernel
theorem dN_Mod_lastEnd_201 : decode cN_Mod_lastEnd 201 = .ok (.iload_n 3, 1) := by decide +kernel
theorem dN_Mod_lastEnd_202 : decode cN_Mod_lastEnd 202 = .ok (.imul, 1) := by decide +kernel
theorem dN_Mod_lastEnd_203 : decode cN_Mod_lastEnd 203 = .ok (.aload_n 0, 1) := by decide +kernel
theorem dN_Mod_lastEnd_204 : decode cN_Mod_lastEnd 204 = .ok (.getfield 20, 3) := by decide +kernel
theorem dN_Mod_lastEnd_207 : decode cN_Mod_lastEnd 207 = .ok (.iload 5, 2) := by decide +kernel
theorem dN_Mod_lastEnd_209 : decode cN_Mod_lastEnd 209 = .ok (.iaload, 1) := by decide +kernel
theorem dN_Mod_lastEnd_210 : decode cN_Mod_lastEnd 210 = .ok (.iadd, 1) := by decide +kernel
theorem dN_Mod_lastEnd_211 : decode cN_Mod_lastEnd 211 = .ok (.iconst 1, 1) := by decide +kernel
theorem dN_Mod_lastEnd_212 : decode cN_Mod_lastEnd 212 = .ok (.bastore, 1) := by decide +kernel
theorem dN_Mod_lastEnd_213 : decode cN_Mod_lastEnd 213 = .ok (.aload_n 0, 1) := by decide +kernel
theorem dN_Mod_lastEnd_214 : decode cN_Mod_lastEnd 214 = .ok (.getfield 34, 3) := by decide +kernel
theorem dN_Mod_lastEnd_217 : decode cN_Mod_lastEnd 217 = .ok (.sipush 200, 3) := by decide +kernel
theorem dN_Mod_lastEnd_220 : decode cN_Mod_lastEnd 220 = .ok (.iload_n 3, 1) := by decide +kernel
theorem dN_Mod_lastEnd_221 : decode cN_Mod_lastEnd 221 = .ok (.imul, 1) := by decide +kernel
theorem dN_Mod_lastEnd_222 : decode cN_Mod_lastEnd 222 = .ok (.iload 6, 2) := by decide +kernel
theorem dN_Mod_lastEnd_224 : decode cN_Mod_lastEnd 224 = .ok (.iadd, 1) := by decide +kernel
theorem dN_Mod_lastEnd_225 : decode cN_Mod_lastEnd 225 = .ok (.iconst 1, 1) := by decide +kernel
theorem dN_Mod_lastEnd_226 : decode cN_Mod_lastEnd 226 = .ok (.bastore, 1) := by decide +kernel
theorem dN_Mod_lastEnd_227 : decode cN_Mod_lastEnd 227 = .ok (.iinc 5 1, 3) := by decide +kernel
theorem dN_Mod_lastEnd_230 : decode cN_Mod_lastEnd 230 = .ok (.goto (-153), 3) := by decide +kernel
theorem dN_Mod_lastEnd_233 : decode cN_Mod_lastEnd 233 = .ok (.goto (-167), 3) := by decide +kernel
theorem dN_Mod_lastEnd_236 : decode cN_Mod_lastEnd 236 = .ok (.iconst 1, 1) := by decide +kernel
theorem dN_Mod_lastEnd_237 : decode cN_Mod_lastEnd 237 = .ok (.istore 5, 2) := by decide +kernel
theorem dN_Mod_lastEnd_239 : decode cN_Mod_lastEnd 239 = .ok (.iload 5, 2) := by decide +kernel
theorem dN_Mod_lastEnd_241 : decode cN_Mod_lastEnd 241 = .ok (.aload_n 0, 1) := by decide +kernel
theorem dN_Mod_lastEnd_242 : decode cN_Mod_lastEnd 242 = .ok (.getfield 7, 3) := by decide +kernel
theorem dN_Mod_lastEnd_245 : decode cN_Mod_lastEnd 245 = .ok (.if_icmp .ge 58, 3) := by decide +kernel
theorem dN_Mod_lastEnd_248 : decode cN_Mod_lastEnd 248 = .ok (.aload_n 0, 1) := by decide +kernel
theorem dN_Mod_lastEnd_249 : decode cN_Mod_lastEnd 249 = .ok (.getfield 34, 3) := by decide +kernel
theorem dN_Mod_lastEnd_252 : decode cN_Mod_lastEnd 252 = .ok (.sipush 200, 3) := by decide +kernel
theorem dN_Mod_lastEnd_255 : decode cN_Mod_lastEnd 255 = .ok (.iload_n 3, 1) := by decide +kernel
theorem dN_Mod_lastEnd_256 : decode cN_Mod_lastEnd 256 = .ok (.imul, 1) := by decide +kernel
theorem dN_Mod_lastEnd_257 : decode cN_Mod_lastEnd 257 = .ok (.iload 5, 2) := by decide +kernel
theorem dN_Mod_lastEnd_259 : decode cN_Mod_lastEnd 259 = .ok (.iadd, 1) := by decide +kernel
theorem dN_Mod_lastEnd_260 : decode cN_Mod_lastEnd 260 = .ok (.baload, 1) := by decide +kernel
theorem dN_Mod_lastEnd_261 : decode cN_Mod_lastEnd 261 = .ok (.ifCond .eq 36, 3) := by decide +kernel
theorem dN_Mod_lastEnd_264 : decode cN_Mod_lastEnd 264 = .ok (.aload_n 0, 1) := by decide +kernel
theorem dN_Mod_lastEnd_265 : decode cN_Mod_lastEnd 265 = .ok (.iload 5, 2) := by decide +kernel
theorem dN_Mod_lastEnd_267 : decode cN_Mod_lastEnd 267 = .ok (.iload_n 3, 1) := by decide +kernel
theorem dN_Mod_lastEnd_268 : decode cN_Mod_lastEnd 268 = .ok (.invokevirtual 93, 3) := by decide +kernel
theorem dN_Mod_lastEnd_271 : decode cN_Mod_lastEnd 271 = .ok (.ifCond .eq 26, 3) := by decide +kernel
theorem dN_Mod_lastEnd_274 : decode cN_Mod_lastEnd 274 = .ok (.aload_n 0, 1) := by decide +kernel
theorem dN_Mod_lastEnd_275 : decode cN_Mod_lastEnd 275 = .ok (.getfield 34, 3) := by decide +kernel
theorem dN_Mod_lastEnd_278 : decode cN_Mod_lastEnd 278 = .ok (.sipush 200, 3) := by decide +kernel
theorem dN_Mod_lastEnd_281 : decode cN_Mod_lastEnd 281 = .ok (.iload_n 3, 1) := by decide +kernel
theorem dN_Mod_lastEnd_282 : decode cN_Mod_lastEnd 282 = .ok (.imul, 1) := by decide +kernel
theorem dN_Mod_lastEnd_283 : decode cN_Mod_lastEnd 283 = .ok (.sipush 200, 3) := by decide +kernel
theorem dN_Mod_lastEnd_286 : decode cN_Mod_lastEnd 286 = .ok (.iadd, 1) := by decide +kernel
theorem dN_Mod_lastEnd_287 : decode cN_Mod_lastEnd 287 = .ok (.aload_n 0, 1) := by decide +kernel
theorem dN_Mod_lastEnd_288 : decode cN_Mod_lastEnd 288 = .ok (.getfield 20, 3) := by decide +kernel
theorem dN_Mod_lastEnd_291 : decode cN_Mod_lastEnd 291 = .ok (.iload 5, 2) := by decide +kernel
theorem dN_Mod_lastEnd_293 : decode cN_Mod_lastEnd 293 = .ok (.iaload, 1) := by decide +kernel
theorem dN_Mod_lastEnd_294 : decode cN_Mod_lastEnd 294 = .ok (.iadd, 1) := by decide +kernel
theorem dN_Mod_lastEnd_295 : decode cN_Mod_lastEnd 295 = .ok (.iconst 1, 1) := by decide +kernel
theorem dN_Mod_lastEnd_296 : decode cN_Mod_lastEnd 296 = .ok (.bastore, 1) := by decide +kernel
theorem dN_Mod_lastEnd_297 : decode cN_Mod_lastEnd 297 = .ok (.iinc 5 1, 3) := by decide +kernel
theorem dN_Mod_lastEnd_300 : decode cN_Mod_lastEnd 300 = .ok (.goto (-61), 3) := by decide +kernel
theorem dN_Mod_lastEnd_303 : decode cN_Mod_lastEnd 303 = .ok (.aload_n 0, 1) := by decide +kernel
theorem dN_Mod_lastEnd_304 : decode cN_Mod_lastEnd 304 = .ok (.getfield 34, 3) := by decide +kernel
theorem dN_Mod_lastEnd_307 : decode cN_Mod_lastEnd 307 = .ok (.sipush 200, 3) := by decide +kernel
theorem dN_Mod_lastEnd_310 : decode cN_Mod_lastEnd 310 = .ok (.iload_n 3, 1) := by decide +kernel
theorem dN_Mod_lastEnd_311 : decode cN_Mod_lastEnd 311 = .ok (.imul, 1) := by decide +kernel
theorem dN_Mod_lastEnd_312 : decode cN_Mod_lastEnd 312 = .ok (.baload, 1) := by decide +kernel
theorem dN_Mod_lastEnd_313 : decode cN_Mod_lastEnd 313 = .ok (.ifCond .eq 7, 3) := by decide +kernel
theorem dN_Mod_lastEnd_316 : decode cN_Mod_lastEnd 316 = .ok (.iload_n 3, 1) := by decide +kernel
theorem dN_Mod_lastEnd_317 : decode cN_Mod_lastEnd 317 = .ok (.goto 4, 3) := by decide +kernel
theorem dN_Mod_lastEnd_320 : decode cN_Mod_lastEnd 320 = .ok (.iload_n 2, 1) := by decide +kernel
theorem dN_Mod_lastEnd_321 : decode cN_Mod_lastEnd 321 = .ok (.istore_n 2, 1) := by decide +kernel
theorem dN_Mod_lastEnd_322 : decode cN_Mod_lastEnd 322 = .ok (.iinc 3 1, 3) := by decide +kernel
theorem dN_Mod_lastEnd_325 : decode cN_Mod_lastEnd 325 = .ok (.goto (-270), 3) := by decide +kernel
theorem dN_Mod_lastEnd_328 : decode cN_Mod_lastEnd 328 = .ok (.iload_n 2, 1) := by decide +kernel
theorem dN_Mod_lastEnd_329 : decode cN_Mod_lastEnd 329 = .ok (.ireturn, 1) := by decide +kernel
theorem dN_Mod_walk_0 : decode cN_Mod_walk 0 = .ok (.iconst 0, 1) := by decide +kernel
theorem dN_Mod_walk_1 : decode cN_Mod_walk 1 = .ok (.istore_n 3, 1) := by decide +kernel
theorem dN_Mod_walk_2 : decode cN_Mod_walk 2 = .ok (.iload_n 3, 1) := by decide +kernel
theorem dN_Mod_walk_3 : decode cN_Mod_walk 3 = .ok (.bipush 20, 2) := by decide +kernel
theorem dN_Mod_walk_5 : decode cN_Mod_walk 5 = .ok (.if_icmp .ge 16, 3) := by decide +kernel
theorem dN_Mod_walk_8 : decode cN_Mod_walk 8 = .ok (.aload_n 0, 1) := by decide +kernel
theorem dN_Mod_walk_9 : decode cN_Mod_walk 9 = .ok (.getfield 37, 3) := by decide +kernel
theorem dN_Mod_walk_12 : decode cN_Mod_walk 12 = .ok (.iload_n 3, 1) := by decide +kernel
theorem dN_Mod_walk_13 : decode cN_Mod_walk 13 = .ok (.iconst (-1), 1) := by decide +kernel
theorem dN_Mod_walk_14 : decode cN_Mod_walk 14 = .ok (.iastore, 1) := by decide +kernel
theorem dN_Mod_walk_15 : decode cN_Mod_walk 15 = .ok (.iinc 3 1, 3) := by decide +kernel
theorem dN_Mod_walk_18 : decode cN_Mod_walk 18 = .ok (.goto (-16), 3) := by decide +kernel
theorem dN_Mod_walk_21 : decode cN_Mod_walk 21 = .ok (.iload_n 1, 1) := by decide +kernel
theorem dN_Mod_walk_22 : decode cN_Mod_walk 22 = .ok (.istore_n 3, 1) := by decide +kernel
theorem dN_Mod_walk_23 : decode cN_Mod_walk 23 = .ok (.aload_n 0, 1) := by decide +kernel
theorem dN_Mod_walk_24 : decode cN_Mod_walk 24 = .ok (.getfield 73, 3) := by decide +kernel
theorem dN_Mod_walk_27 : decode cN_Mod_walk 27 = .ok (.istore 4, 2) := by decide +kernel
theorem dN_Mod_walk_29 : decode cN_Mod_walk 29 = .ok (.aload_n 0, 1) := by decide +kernel
theorem dN_Mod_walk_30 : decode cN_Mod_walk 30 = .ok (.iconst 0, 1) := by decide +kernel
theorem dN_Mod_walk_31 : decode cN_Mod_walk 31 = .ok (.putfield 99, 3) := by decide +kernel
theorem dN_Mod_walk_34 : decode cN_Mod_walk 34 = .ok (.aload_n 0, 1) := by decide +kernel
theorem dN_Mod_walk_35 : decode cN_Mod_walk 35 = .ok (.iconst 0, 1) := by decide +kernel
theorem dN_Mod_walk_36 : decode cN_Mod_walk 36 = .ok (.putfield 102, 3) := by decide +kernel
theorem dN_Mod_walk_39 : decode cN_Mod_walk 39 = .ok (.aload_n 0, 1) := by decide +kernel
theorem dN_Mod_walk_40 : decode cN_Mod_walk 40 = .ok (.iload 4, 2) := by decide +kernel
theorem dN_Mod_walk_42 : decode cN_Mod_walk 42 = .ok (.invokevirtual 105, 3) := by decide +kernel
theorem dN_Mod_walk_45 : decode cN_Mod_walk 45 = .ok (.iconst 0, 1) := by decide +kernel
theorem dN_Mod_walk_46 : decode cN_Mod_walk 46 = .ok (.istore 5, 2) := by decide +kernel
theorem dN_Mod_walk_48 : decode cN_Mod_walk 48 = .ok (.iload 5, 2) := by decide +kernel
theorem dN_Mod_walk_50 : decode cN_Mod_walk 50 = .ok (.aload_n 0, 1) := by decide +kernel
theorem dN_Mod_walk_51 : decode cN_Mod_walk 51 = .ok (.getfield 7, 3) := by decide +kernel
theorem dN_Mod_walk_54 : decode cN_Mod_walk 54 = .ok (.if_icmp .ge 17, 3) := by decide +kernel
theorem dN_Mod_walk_57 : decode cN_Mod_walk 57 = .ok (.aload_n 0, 1) := by decide +kernel
theorem dN_Mod_walk_58 : decode cN_Mod_walk 58 = .ok (.getfield 55, 3) := by decide +kernel
theorem dN_Mod_walk_61 : decode cN_Mod_walk 61 = .ok (.iload 5, 2) := by decide +kernel
theorem dN_Mod_walk_63 : decode cN_Mod_walk 63 = .ok (.iconst 0, 1) := by decide +kernel
theorem dN_Mod_walk_64 : decode cN_Mod_walk 64 = .ok (.bastore, 1) := by decide +kernel
theorem dN_Mod_walk_65 : decode cN_Mod_walk 65 = .ok (.iinc 5 1, 3) := by decide +kernel
theorem dN_Mod_walk_68 : decode cN_Mod_walk 68 = .ok (.goto (-20), 3) := by decide +kernel
theorem dN_Mod_walk_71 : decode cN_Mod_walk 71 = .ok (.iconst 0, 1) := by decide +kernel
theorem dN_Mod_walk_72 : decode cN_Mod_walk 72 = .ok (.istore 5, 2) := by decide +kernel
theorem dN_Mod_walk_74 : decode cN_Mod_walk 74 = .ok (.iload 5, 2) := by decide +kernel
theorem dN_Mod_walk_76 : decode cN_Mod_walk 76 = .ok (.ifCond .ne 264, 3) := by decide +kernel
theorem dN_Mod_walk_79 : decode cN_Mod_walk 79 = .ok (.aload_n 0, 1) := by decide +kernel
theorem dN_Mod_walk_80 : decode cN_Mod_walk 80 = .ok (.dup, 1) := by decide +kernel
theorem dN_Mod_walk_81 : decode cN_Mod_walk 81 = .ok (.getfield 99, 3) := by decide +kernel
theorem dN_Mod_walk_84 : decode cN_Mod_walk 84 = .ok (.iconst 1, 1) := by decide +kernel
theorem dN_Mod_walk_85 : decode cN_Mod_walk 85 = .ok (.isub, 1) := by decide +kernel
theorem dN_Mod_walk_86 : decode cN_Mod_walk 86 = .ok (.putfield 99, 3) := by decide +kernel
theorem dN_Mod_walk_89 : decode cN_Mod_walk 89 = .ok (.aload_n 0, 1) := by decide +kernel
theorem dN_Mod_walk_90 : decode cN_Mod_walk 90 = .ok (.aload_n 0, 1) := by decide +kernel
theorem dN_Mod_walk_91 : decode cN_Mod_walk 91 = .ok (.getfield 46, 3) := by decide +kernel
theorem dN_Mod_walk_94 : decode cN_Mod_walk 94 = .ok (.aload_n 0, 1) := by decide +kernel
theorem dN_Mod_walk_95 : decode cN_Mod_walk 95 = .ok (.getfield 99, 3) := by decide +kernel
theorem dN_Mod_walk_98 : decode cN_Mod_walk 98 = .ok (.iaload, 1) := by decide +kernel
theorem dN_Mod_walk_99 : decode cN_Mod_walk 99 = .ok (.invokevirtual 109, 3) := by decide +kernel
theorem dN_Mod_walk_102 : decode cN_Mod_walk 102 = .ok (.aload_n 0, 1) := by decide +kernel
theorem dN_Mod_walk_103 : decode cN_Mod_walk 103 = .ok (.getfield 43, 3) := by decide +kernel
theorem dN_Mod_walk_106 : decode cN_Mod_walk 106 = .ok (.aload_n 0, 1) := by decide +kernel
theorem dN_Mod_walk_107 : decode cN_Mod_walk 107 = .ok (.getfield 99, 3) := by decide +kernel
theorem dN_Mod_walk_110 : decode cN_Mod_walk 110 = .ok (.iaload, 1) := by decide +kernel
theorem dN_Mod_walk_111 : decode cN_Mod_walk 111 = .ok (.istore 6, 2) := by decide +kernel
theorem dN_Mod_walk_113 : decode cN_Mod_walk 113 = .ok (.aload_n 0, 1) := by decide +kernel
theorem dN_Mod_walk_114 : decode cN_Mod_walk 114 = .ok (.getfield 55, 3) := by decide +kernel
theorem dN_Mod_walk_117 : decode cN_Mod_walk 117 = .ok (.iload 6, 2) := by decide +kernel
theorem dN_Mod_walk_119 : decode cN_Mod_walk 119 = .ok (.baload, 1) := by decide +kernel
theorem dN_Mod_walk_120 : decode cN_Mod_walk 120 = .ok (.ifCond .eq 6, 3) := by decide +kernel
theorem dN_Mod_walk_123 : decode cN_Mod_walk 123 = .ok (.goto (-49), 3) := by decide +kernel
theorem dN_Mod_walk_126 : decode cN_Mod_walk 126 = .ok (.aload_n 0, 1) := by decide +kernel
theorem dN_Mod_walk_127 : decode cN_Mod_walk 127 = .ok (.getfield 55, 3) := by decide +kernel
theorem dN_Mod_walk_130 : decode cN_Mod_walk 130 = .ok (.iload 6, 2) := by decide +kernel
theorem dN_Mod_walk_132 : decode cN_Mod_walk 132 = .ok (.iconst 1, 1) := by decide +kernel
theorem dN_Mod_walk_133 : decode cN_Mod_walk 133 = .ok (.bastore, 1) := by decide +kernel
theorem dN_Mod_walk_134 : decode cN_Mod_walk 134 = .ok (.iload 6, 2) := by decide +kernel
theorem dN_Mod_walk_136 : decode cN_Mod_walk 136 = .ok (.ifCond .ne 14, 3) := by decide +kernel
theorem dN_Mod_walk_139 : decode cN_Mod_walk 139 = .ok (.iload_n 2, 1) := by decide +kernel
theorem dN_Mod_walk_140 : decode cN_Mod_walk 140 = .ok (.ifCond .lt 8, 3) := by decide +kernel
theorem dN_Mod_walk_143 : decode cN_Mod_walk 143 = .ok (.iload_n 3, 1) := by decide +kernel
theorem dN_Mod_walk_144 : decode cN_Mod_walk 144 = .ok (.iload_n 2, 1) := by decide +kernel
theorem dN_Mod_walk_145 : decode cN_Mod_walk 145 = .ok (.if_icmp .ne 192, 3) := by decide +kernel
theorem dN_Mod_walk_148 : decode cN_Mod_walk 148 = .ok (.iload_n 3, 1) := by decide +kernel
theorem dN_Mod_walk_149 : decode cN_Mod_walk 149 = .ok (.ireturn, 1) := by decide +kernel
theorem dN_Mod_walk_150 : decode cN_Mod_walk 150 = .ok (.aload_n 0, 1) := by decide +kernel
theorem dN_Mod_walk_151 : decode cN_Mod_walk 151 = .ok (.iload 6, 2) := by decide +kernel
theorem dN_Mod_walk_153 : decode cN_Mod_walk 153 = .ok (.iload_n 3, 1) := by decide +kernel
theorem dN_Mod_walk_154 : decode cN_Mod_walk 154 = .ok (.invokevirtual 93, 3) := by decide +kernel
theorem dN_Mod_walk_157 : decode cN_Mod_walk 157 = .ok (.ifCond .eq 66, 3) := by decide +kernel
theorem dN_Mod_walk_160 : decode cN_Mod_walk 160 = .ok (.iload_n 2, 1) := by decide +kernel
theorem dN_Mod_walk_161 : decode cN_Mod_walk 161 = .ok (.ifCond .lt 8, 3) := by decide +kernel
theorem dN_Mod_walk_164 : decode cN_Mod_walk 164 = .ok (.iload_n 3, 1) := by decide +kernel
theorem dN_Mod_walk_165 : decode cN_Mod_walk 165 = .ok (.iload_n 2, 1) := by decide +kernel
theorem dN_Mod_walk_166 : decode cN_Mod_walk 166 = .ok (.if_icmp .ge 32, 3) := by decide +kernel
theorem dN_Mod_walk_169 : decode cN_Mod_walk 169 = .ok (.aload_n 0, 1) := by decide +kernel
theorem dN_Mod_walk_170 : decode cN_Mod_walk 170 = .ok (.getfield 30, 3) := by decide +kernel
theorem dN_Mod_walk_173 : decode cN_Mod_walk 173 = .ok (.sipush 200, 3) := by decide +kernel
theorem dN_Mod_walk_176 : decode cN_Mod_walk 176 = .ok (.iload_n 3, 1) := by decide +kernel
theorem dN_Mod_walk_177 : decode cN_Mod_walk 177 = .ok (.imul, 1) := by decide +kernel
theorem dN_Mod_walk_178 : decode cN_Mod_walk 178 = .ok (.sipush 200, 3) := by decide +kernel
theorem dN_Mod_walk_181 : decode cN_Mod_walk 181 = .ok (.iadd, 1) := by decide +kernel
theorem dN_Mod_walk_182 : decode cN_Mod_walk 182 = .ok (.aload_n 0, 1) := by decide +kernel
theorem dN_Mod_walk_183 : decode cN_Mod_walk 183 = .ok (.getfield 20, 3) := by decide +kernel
theorem dN_Mod_walk_186 : decode cN_Mod_walk 186 = .ok (.iload 6, 2) := by decide +kernel
theorem dN_Mod_walk_188 : decode cN_Mod_walk 188 = .ok (.iaload, 1) := by decide +kernel
theorem dN_Mod_walk_189 : decode cN_Mod_walk 189 = .ok (.iadd, 1) := by decide +kernel
theorem dN_Mod_walk_190 : decode cN_Mod_walk 190 = .ok (.baload, 1) := by decide +kernel
theorem dN_Mod_walk_191 : decode cN_Mod_walk 191 = .ok (.ifCond .eq 7, 3) := by decide +kernel
theorem dN_Mod_walk_194 : decode cN_Mod_walk 194 = .ok (.iconst 1, 1) := by decide +kernel
theorem dN_Mod_walk_195 : decode cN_Mod_walk 195 = .ok (.goto 4, 3) := by decide +kernel
theorem dN_Mod_walk_198 : decode cN_Mod_walk 198 = .ok (.iconst 0, 1) := by decide +kernel
theorem dN_Mod_walk_199 : decode cN_Mod_walk 199 = .ok (.istore 5, 2) := by decide +kernel
theorem dN_Mod_walk_201 : decode cN_Mod_walk 201 = .ok (.iload 5, 2) := by decide +kernel
theorem dN_Mod_walk_203 : decode cN_Mod_walk 203 = .ok (.ifCond .eq 13, 3) := by decide +kernel
theorem dN_Mod_walk_206 : decode cN_Mod_walk 206 = .ok (.aload_n 0, 1) := by decide +kernel
theorem dN_Mod_walk_207 : decode cN_Mod_walk 207 = .ok (.getfield 20, 3) := by decide +kernel
theorem dN_Mod_walk_210 : decode cN_Mod_walk 210 = .ok (.iload 6, 2) := by decide +kernel
theorem dN_Mod_walk_212 : decode cN_Mod_walk 212 = .ok (.iaload, 1) := by decide +kernel
theorem dN_Mod_walk_213 : decode cN_Mod_walk 213 = .ok (.goto 5, 3) := by decide +kernel
theorem dN_Mod_walk_216 : decode cN_Mod_walk 216 = .ok (.iload 4, 2) := by decide +kernel
theorem dN_Mod_walk_218 : decode cN_Mod_walk 218 = .ok (.istore 4, 2) := by decide +kernel
theorem dN_Mod_walk_220 : decode cN_Mod_walk 220 = .ok (.goto 117, 3) := by decide +kernel
theorem dN_Mod_walk_223 : decode cN_Mod_walk 223 = .ok (.aload_n 0, 1) := by decide +kernel
theorem dN_Mod_walk_224 : decode cN_Mod_walk 224 = .ok (.iload 6, 2) := by decide +kernel
theorem dN_Mod_walk_226 : decode cN_Mod_walk 226 = .ok (.iload_n 3, 1) := by decide +kernel
theorem dN_Mod_walk_227 : decode cN_Mod_walk 227 = .ok (.invokevirtual 96, 3) := by decide +kernel
theorem dN_Mod_walk_230 : decode cN_Mod_walk 230 = .ok (.ifCond .eq 107, 3) := by decide +kernel
theorem dN_Mod_walk_233 : decode cN_Mod_walk 233 = .ok (.aload_n 0, 1) := by decide +kernel
theorem dN_Mod_walk_234 : decode cN_Mod_walk 234 = .ok (.getfield 13, 3) := by decide +kernel
theorem dN_Mod_walk_237 : decode cN_Mod_walk 237 = .ok (.iload 6, 2) := by decide +kernel
theorem dN_Mod_walk_239 : decode cN_Mod_walk 239 = .ok (.iaload, 1) := by decide +kernel
theorem dN_Mod_walk_240 : decode cN_Mod_walk 240 = .ok (.iconst 3, 1) := by decide +kernel
theorem dN_Mod_walk_241 : decode cN_Mod_walk 241 = .ok (.if_icmp .ne 63, 3) := by decide +kernel
theorem dN_Mod_walk_244 : decode cN_Mod_walk 244 = .ok (.aload_n 0, 1) := by decide +kernel
theorem dN_Mod_walk_245 : decode cN_Mod_walk 245 = .ok (.getfield 49, 3) := by decide +kernel
theorem dN_Mod_walk_248 : decode cN_Mod_walk 248 = .ok (.aload_n 0, 1) := by decide +kernel
theorem dN_Mod_walk_249 : decode cN_Mod_walk 249 = .ok (.getfield 102, 3) := by decide +kernel
theorem dN_Mod_walk_252 : decode cN_Mod_walk 252 = .ok (.aload_n 0, 1) := by decide +kernel
theorem dN_Mod_walk_253 : decode cN_Mod_walk 253 = .ok (.getfield 17, 3) := by decide +kernel
theorem dN_Mod_walk_256 : decode cN_Mod_walk 256 = .ok (.iload 6, 2) := by decide +kernel
theorem dN_Mod_walk_258 : decode cN_Mod_walk 258 = .ok (.iaload, 1) := by decide +kernel
theorem dN_Mod_walk_259 : decode cN_Mod_walk 259 = .ok (.iastore, 1) := by decide +kernel
theorem dN_Mod_walk_260 : decode cN_Mod_walk 260 = .ok (.aload_n 0, 1) := by decide +kernel
theorem dN_Mod_walk_261 : decode cN_Mod_walk 261 = .ok (.getfield 52, 3) := by decide +kernel
theorem dN_Mod_walk_264 : decode cN_Mod_walk 264 = .ok (.aload_n 0, 1) := by decide +kernel
theorem dN_Mod_walk_265 : decode cN_Mod_walk 265 = .ok (.getfield 102, 3) := by decide +kernel
theorem dN_Mod_walk_268 : decode cN_Mod_walk 268 = .ok (.aload_n 0, 1) := by decide +kernel
theorem dN_Mod_walk_269 : decode cN_Mod_walk 269 = .ok (.getfield 37, 3) := by decide +kernel
theorem dN_Mod_walk_272 : decode cN_Mod_walk 272 = .ok (.aload_n 0, 1) := by decide +kernel
theorem dN_Mod_walk_273 : decode cN_Mod_walk 273 = .ok (.getfield 17, 3) := by decide +kernel
theorem dN_Mod_walk_276 : decode cN_Mod_walk 276 = .ok (.iload 6, 2) := by decide +kernel
theorem dN_Mod_walk_278 : decode cN_Mod_walk 278 = .ok (.iaload, 1) := by decide +kernel
theorem dN_Mod_walk_279 : decode cN_Mod_walk 279 = .ok (.iaload, 1) := by decide +kernel
theorem dN_Mod_walk_280 : decode cN_Mod_walk 280 = .ok (.iastore, 1) := by decide +kernel
theorem dN_Mod_walk_281 : decode cN_Mod_walk 281 = .ok (.aload_n 0, 1) := by decide +kernel
theorem dN_Mod_walk_282 : decode cN_Mod_walk 282 = .ok (.dup, 1) := by decide +kernel
theorem dN_Mod_walk_283 : decode cN_Mod_walk 283 = .ok (.getfield 102, 3) := by decide +kernel
theorem dN_Mod_walk_286 : decode cN_Mod_walk 286 = .ok (.iconst 1, 1) := by decide +kernel
theorem dN_Mod_walk_287 : decode cN_Mod_walk 287 = .ok (.iadd, 1) := by decide +kernel
theorem dN_Mod_walk_288 : decode cN_Mod_walk 288 = .ok (.putfield 102, 3) := by decide +kernel
theorem dN_Mod_walk_291 : decode cN_Mod_walk 291 = .ok (.aload_n 0, 1) := by decide +kernel
theorem dN_Mod_walk_292 : decode cN_Mod_walk 292 = .ok (.getfield 37, 3) := by decide +kernel
theorem dN_Mod_walk_295 : decode cN_Mod_walk 295 = .ok (.aload_n 0, 1) := by decide +kernel
theorem dN_Mod_walk_296 : decode cN_Mod_walk 296 = .ok (.getfield 17, 3) := by decide +kernel
theorem dN_Mod_walk_299 : decode cN_Mod_walk 299 = .ok (.iload 6, 2) := by decide +kernel
theorem dN_Mod_walk_301 : decode cN_Mod_walk 301 = .ok (.iaload, 1) := by decide +kernel
theorem dN_Mod_walk_302 : decode cN_Mod_walk 302 = .ok (.iload_n 3, 1) := by decide +kernel
theorem dN_Mod_walk_303 : decode cN_Mod_walk 303 = .ok (.iastore, 1) := by decide +kernel
theorem dN_Mod_walk_304 : decode cN_Mod_walk 304 = .ok (.aload_n 0, 1) := by decide +kernel
theorem dN_Mod_walk_305 : decode cN_Mod_walk 305 = .ok (.getfield 13, 3) := by decide +kernel
theorem dN_Mod_walk_308 : decode cN_Mod_walk 308 = .ok (.iload 6, 2) := by decide +kernel
theorem dN_Mod_walk_310 : decode cN_Mod_walk 310 = .ok (.iaload, 1) := by decide +kernel
theorem dN_Mod_walk_311 : decode cN_Mod_walk 311 = .ok (.iconst 2, 1) := by decide +kernel
theorem dN_Mod_walk_312 : decode cN_Mod_walk 312 = .ok (.if_icmp .ne 14, 3) := by decide +kernel
theorem dN_Mod_walk_315 : decode cN_Mod_walk 315 = .ok (.aload_n 0, 1) := by decide +kernel
theorem dN_Mod_walk_316 : decode cN_Mod_walk 316 = .ok (.aload_n 0, 1) := by decide +kernel
theorem dN_Mod_walk_317 : decode cN_Mod_walk 317 = .ok (.getfield 23, 3) := by decide +kernel
theorem dN_Mod_walk_320 : decode cN_Mod_walk 320 = .ok (.iload 6, 2) := by decide +kernel
theorem dN_Mod_walk_322 : decode cN_Mod_walk 322 = .ok (.iaload, 1) := by decide +kernel
theorem dN_Mod_walk_323 : decode cN_Mod_walk 323 = .ok (.invokevirtual 105, 3) := by decide +kernel
theorem dN_Mod_walk_326 : decode cN_Mod_walk 326 = .ok (.aload_n 0, 1) := by decide +kernel
theorem dN_Mod_walk_327 : decode cN_Mod_walk 327 = .ok (.aload_n 0, 1) := by decide +kernel
theorem dN_Mod_walk_328 : decode cN_Mod_walk 328 = .ok (.getfield 20, 3) := by decide +kernel
theorem dN_Mod_walk_331 : decode cN_Mod_walk 331 = .ok (.iload 6, 2) := by decide +kernel
theorem dN_Mod_walk_333 : decode cN_Mod_walk 333 = .ok (.iaload, 1) := by decide +kernel
theorem dN_Mod_walk_334 : decode cN_Mod_walk 334 = .ok (.invokevirtual 105, 3) := by decide +kernel
theorem dN_Mod_walk_337 : decode cN_Mod_walk 337 = .ok (.goto (-263), 3) := by decide +kernel
theorem dN_Mod_walk_340 : decode cN_Mod_walk 340 = .ok (.iinc 3 1, 3) := by decide +kernel
theorem dN_Mod_walk_343 : decode cN_Mod_walk 343 = .ok (.goto (-314), 3) := by decide +kernel
theorem dN_Mod_heap_0 : decode cN_Mod_heap 0 = .ok (.aload_n 0, 1) := by decide +kernel
theorem dN_Mod_heap_1 : decode cN_Mod_heap 1 = .ok (.getfield 43, 3) := by decide +kernel
theorem dN_Mod_heap_4 : decode cN_Mod_heap 4 = .ok (.aload_n 0, 1) := by decide +kernel
theorem dN_Mod_heap_5 : decode cN_Mod_heap 5 = .ok (.getfield 99, 3) := by decide +kernel
theorem dN_Mod_heap_8 : decode cN_Mod_heap 8 = .ok (.iload_n 1, 1) := by decide +kernel
theorem dN_Mod_heap_9 : decode cN_Mod_heap 9 = .ok (.iastore, 1) := by decide +kernel
theorem dN_Mod_heap_10 : decode cN_Mod_heap 10 = .ok (.aload_n 0, 1) := by decide +kernel
theorem dN_Mod_heap_11 : decode cN_Mod_heap 11 = .ok (.getfield 46, 3) := by decide +kernel
theorem dN_Mod_heap_14 : decode cN_Mod_heap 14 = .ok (.aload_n 0, 1) := by decide +kernel
theorem dN_Mod_heap_15 : decode cN_Mod_heap 15 = .ok (.getfield 99, 3) := by decide +kernel
theorem dN_Mod_heap_18 : decode cN_Mod_heap 18 = .ok (.aload_n 0, 1) := by decide +kernel
theorem dN_Mod_heap_19 : decode cN_Mod_heap 19 = .ok (.getfield 102, 3) := by decide +kernel
theorem dN_Mod_heap_22 : decode cN_Mod_heap 22 = .ok (.iastore, 1) := by decide +kernel
theorem dN_Mod_heap_23 : decode cN_Mod_heap 23 = .ok (.aload_n 0, 1) := by decide +kernel
theorem dN_Mod_heap_24 : decode cN_Mod_heap 24 = .ok (.dup, 1) := by decide +kernel
theorem dN_Mod_heap_25 : decode cN_Mod_heap 25 = .ok (.getfield 99, 3) := by decide +kernel
theorem dN_Mod_heap_28 : decode cN_Mod_heap 28 = .ok (.iconst 1, 1) := by decide +kernel
theorem dN_Mod_heap_29 : decode cN_Mod_heap 29 = .ok (.iadd, 1) := by decide +kernel
theorem dN_Mod_heap_30 : decode cN_Mod_heap 30 = .ok (.putfield 99, 3) := by decide +kernel
theorem dN_Mod_heap_33 : decode cN_Mod_heap 33 = .ok (.return_, 1) := by decide +kernel
theorem dN_Mod_undo_0 : decode cN_Mod_undo 0 = .ok (.aload_n 0, 1) := by decide +kernel
theorem dN_Mod_undo_1 : decode cN_Mod_undo 1 = .ok (.getfield 102, 3) := by decide +kernel
theorem dN_Mod_undo_4 : decode cN_Mod_undo 4 = .ok (.iload_n 1, 1) := by decide +kernel
theorem dN_Mod_undo_5 : decode cN_Mod_undo 5 = .ok (.if_icmp .le 39, 3) := by decide +kernel
theorem dN_Mod_undo_8 : decode cN_Mod_undo 8 = .ok (.aload_n 0, 1) := by decide +kernel
theorem dN_Mod_undo_9 : decode cN_Mod_undo 9 = .ok (.dup, 1) := by decide +kernel
theorem dN_Mod_undo_10 : decode cN_Mod_undo 10 = .ok (.getfield 102, 3) := by decide +kernel
theorem dN_Mod_undo_13 : decode cN_Mod_undo 13 = .ok (.iconst 1, 1) := by decide +kernel
theorem dN_Mod_undo_14 : decode cN_Mod_undo 14 = .ok (.isub, 1) := by decide +kernel
theorem dN_Mod_undo_15 : decode cN_Mod_undo 15 = .ok (.putfield 102, 3) := by decide +kernel
theorem dN_Mod_undo_18 : decode cN_Mod_undo 18 = .ok (.aload_n 0, 1) := by decide +kernel
theorem dN_Mod_undo_19 : decode cN_Mod_undo 19 = .ok (.getfield 37, 3) := by decide +kernel
theorem dN_Mod_undo_22 : decode cN_Mod_undo 22 = .ok (.aload_n 0, 1) := by decide +kernel
theorem dN_Mod_undo_23 : decode cN_Mod_undo 23 = .ok (.getfield 49, 3) := by decide +kernel
theorem dN_Mod_undo_26 : decode cN_Mod_undo 26 = .ok (.aload_n 0, 1) := by decide +kernel
theorem dN_Mod_undo_27 : decode cN_Mod_undo 27 = .ok (.getfield 102, 3) := by decide +kernel
theorem dN_Mod_undo_30 : decode cN_Mod_undo 30 = .ok (.iaload, 1) := by decide +kernel
theorem dN_Mod_undo_31 : decode cN_Mod_undo 31 = .ok (.aload_n 0, 1) := by decide +kernel
theorem dN_Mod_undo_32 : decode cN_Mod_undo 32 = .ok (.getfield 52, 3) := by decide +kernel
theorem dN_Mod_undo_35 : decode cN_Mod_undo 35 = .ok (.aload_n 0, 1) := by decide +kernel
theorem dN_Mod_undo_36 : decode cN_Mod_undo 36 = .ok (.getfield 102, 3) := by decide +kernel
theorem dN_Mod_undo_39 : decode cN_Mod_undo 39 = .ok (.iaload, 1) := by decide +kernel
theorem dN_Mod_undo_40 : decode cN_Mod_undo 40 = .ok (.iastore, 1) := by decide +kernel
theorem dN_Mod_undo_41 : decode cN_Mod_undo 41 = .ok (.goto (-41), 3) := by decide +kernel
theorem dN_Mod_undo_44 : decode cN_Mod_undo 44 = .ok (.return_, 1) := by decide +kernel
theorem dN_Mod_saved_0 : decode cN_Mod_saved 0 = .ok (.aload_n 0, 1) := by decide +kernel
theorem dN_Mod_saved_1 : decode cN_Mod_saved 1 = .ok (.iconst 0, 1) := by decide +kernel
theorem dN_Mod_saved_2 : decode cN_Mod_saved 2 = .ok (.putfield 70, 3) := by decide +kernel
theorem dN_Mod_saved_5 : decode cN_Mod_saved 5 = .ok (.iload_n 1, 1) := by decide +kernel
theorem dN_Mod_saved_6 : decode cN_Mod_saved 6 = .ok (.ifCond .lt 9, 3) := by decide +kernel
theorem dN_Mod_saved_9 : decode cN_Mod_saved 9 = .ok (.iload_n 1, 1) := by decide +kernel
theorem dN_Mod_saved_10 : decode cN_Mod_saved 10 = .ok (.bipush 19, 2) := by decide +kernel
theorem dN_Mod_saved_12 : decode cN_Mod_saved 12 = .ok (.if_icmp .le 7, 3) := by decide +kernel
theorem dN_Mod_saved_15 : decode cN_Mod_saved 15 = .ok (.iconst (-1), 1) := by decide +kernel
theorem dN_Mod_saved_16 : decode cN_Mod_saved 16 = .ok (.goto 9, 3) := by decide +kernel
theorem dN_Mod_saved_19 : decode cN_Mod_saved 19 = .ok (.aload_n 0, 1) := by decide +kernel
theorem dN_Mod_saved_20 : decode cN_Mod_saved 20 = .ok (.getfield 40, 3) := by decide +kernel
theorem dN_Mod_saved_23 : decode cN_Mod_saved 23 = .ok (.iload_n 1, 1) := by decide +kernel
theorem dN_Mod_saved_24 : decode cN_Mod_saved 24 = .ok (.iaload, 1) := by decide +kernel
theorem dN_Mod_saved_25 : decode cN_Mod_saved 25 = .ok (.ireturn, 1) := by decide +kernel
theorem dN_Mod_ends_0 : decode cN_Mod_ends 0 = .ok (.aload_n 0, 1) := by decide +kernel
theorem dN_Mod_ends_1 : decode cN_Mod_ends 1 = .ok (.aload_n 0, 1) := by decide +kernel
theorem dN_Mod_ends_2 : decode cN_Mod_ends 2 = .ok (.iload_n 1, 1) := by decide +kernel
