theorem dN_Subject_init_0 : decode cN_Subject_init 0 = .ok (.aload_n 0, 1) := by decide +kernel
theorem dN_Subject_init_1 : decode cN_Subject_init 1 = .ok (.invokespecial 3, 3) := by decide +kernel
theorem dN_Subject_init_4 : decode cN_Subject_init 4 = .ok (.aload_n 0, 1) := by decide +kernel
theorem dN_Subject_init_5 : decode cN_Subject_init 5 = .ok (.sipush 200, 3) := by decide +kernel
theorem dN_Subject_init_8 : decode cN_Subject_init 8 = .ok (.newarray .int, 2) := by decide +kernel
theorem dN_Subject_init_10 : decode cN_Subject_init 10 = .ok (.putfield 9, 3) := by decide +kernel
theorem dN_Subject_init_13 : decode cN_Subject_init 13 = .ok (.aload_n 0, 1) := by decide +kernel
theorem dN_Subject_init_14 : decode cN_Subject_init 14 = .ok (.iconst 0, 1) := by decide +kernel
theorem dN_Subject_init_15 : decode cN_Subject_init 15 = .ok (.putfield 15, 3) := by decide +kernel
theorem dN_Subject_init_18 : decode cN_Subject_init 18 = .ok (.return_, 1) := by decide +kernel
theorem dN_Subject_length_0 : decode cN_Subject_length 0 = .ok (.aload_n 0, 1) := by decide +kernel
theorem dN_Subject_length_1 : decode cN_Subject_length 1 = .ok (.getfield 15, 3) := by decide +kernel
theorem dN_Subject_length_4 : decode cN_Subject_length 4 = .ok (.ireturn, 1) := by decide +kernel
theorem dN_Subject_append_0 : decode cN_Subject_append 0 = .ok (.aload_n 0, 1) := by decide +kernel
theorem dN_Subject_append_1 : decode cN_Subject_append 1 = .ok (.getfield 15, 3) := by decide +kernel
theorem dN_Subject_append_4 : decode cN_Subject_append 4 = .ok (.sipush 200, 3) := by decide +kernel
theorem dN_Subject_append_7 : decode cN_Subject_append 7 = .ok (.if_icmp .ge 27, 3) := by decide +kernel
theorem dN_Subject_append_10 : decode cN_Subject_append 10 = .ok (.aload_n 0, 1) := by decide +kernel
theorem dN_Subject_append_11 : decode cN_Subject_append 11 = .ok (.getfield 9, 3) := by decide +kernel
theorem dN_Subject_append_14 : decode cN_Subject_append 14 = .ok (.aload_n 0, 1) := by decide +kernel
theorem dN_Subject_append_15 : decode cN_Subject_append 15 = .ok (.getfield 15, 3) := by decide +kernel
theorem dN_Subject_append_18 : decode cN_Subject_append 18 = .ok (.iload_n 1, 1) := by decide +kernel
theorem dN_Subject_append_19 : decode cN_Subject_append 19 = .ok (.sipush 255, 3) := by decide +kernel
theorem dN_Subject_append_22 : decode cN_Subject_append 22 = .ok (.iand, 1) := by decide +kernel
theorem dN_Subject_append_23 : decode cN_Subject_append 23 = .ok (.iastore, 1) := by decide +kernel
theorem dN_Subject_append_24 : decode cN_Subject_append 24 = .ok (.aload_n 0, 1) := by decide +kernel
theorem dN_Subject_append_25 : decode cN_Subject_append 25 = .ok (.dup, 1) := by decide +kernel
theorem dN_Subject_append_26 : decode cN_Subject_append 26 = .ok (.getfield 15, 3) := by decide +kernel
theorem dN_Subject_append_29 : decode cN_Subject_append 29 = .ok (.iconst 1, 1) := by decide +kernel
theorem dN_Subject_append_30 : decode cN_Subject_append 30 = .ok (.iadd, 1) := by decide +kernel
theorem dN_Subject_append_31 : decode cN_Subject_append 31 = .ok (.putfield 15, 3) := by decide +kernel
theorem dN_Subject_append_34 : decode cN_Subject_append 34 = .ok (.return_, 1) := by decide +kernel
theorem dN_Subject_empty_0 : decode cN_Subject_empty 0 = .ok (.aload_n 0, 1) := by decide +kernel
theorem dN_Subject_empty_1 : decode cN_Subject_empty 1 = .ok (.iconst 0, 1) := by decide +kernel
theorem dN_Subject_empty_2 : decode cN_Subject_empty 2 = .ok (.putfield 15, 3) := by decide +kernel
theorem dN_Subject_empty_5 : decode cN_Subject_empty 5 = .ok (.return_, 1) := by decide +kernel
theorem dN_Subject_mayEnd_0 : decode cN_Subject_mayEnd 0 = .ok (.iload_n 1, 1) := by decide +kernel
theorem dN_Subject_mayEnd_1 : decode cN_Subject_mayEnd 1 = .ok (.iconst 2, 1) := by decide +kernel
theorem dN_Subject_mayEnd_2 : decode cN_Subject_mayEnd 2 = .ok (.if_icmp .ne 11, 3) := by decide +kernel
theorem dN_Subject_mayEnd_5 : decode cN_Subject_mayEnd 5 = .ok (.iload_n 2, 1) := by decide +kernel
theorem dN_Subject_mayEnd_6 : decode cN_Subject_mayEnd 6 = .ok (.aload_n 0, 1) := by decide +kernel
theorem dN_Subject_mayEnd_7 : decode cN_Subject_mayEnd 7 = .ok (.getfield 15, 3) := by decide +kernel
theorem dN_Subject_mayEnd_10 : decode cN_Subject_mayEnd 10 = .ok (.if_icmp .ne 7, 3) := by decide +kernel
theorem dN_Subject_mayEnd_13 : decode cN_Subject_mayEnd 13 = .ok (.iconst 1, 1) := by decide +kernel
theorem dN_Subject_mayEnd_14 : decode cN_Subject_mayEnd 14 = .ok (.goto 4, 3) := by decide +kernel
theorem dN_Subject_mayEnd_17 : decode cN_Subject_mayEnd 17 = .ok (.iconst 0, 1) := by decide +kernel
theorem dN_Subject_mayEnd_18 : decode cN_Subject_mayEnd 18 = .ok (.ireturn, 1) := by decide +kernel
theorem dN_Subject_byteBehind_0 : decode cN_Subject_byteBehind 0 = .ok (.iload_n 1, 1) := by decide +kernel
theorem dN_Subject_byteBehind_1 : decode cN_Subject_byteBehind 1 = .ok (.ifCond .lt 20, 3) := by decide +kernel
theorem dN_Subject_byteBehind_4 : decode cN_Subject_byteBehind 4 = .ok (.iload_n 1, 1) := by decide +kernel
theorem dN_Subject_byteBehind_5 : decode cN_Subject_byteBehind 5 = .ok (.aload_n 0, 1) := by decide +kernel
theorem dN_Subject_byteBehind_6 : decode cN_Subject_byteBehind 6 = .ok (.getfield 15, 3) := by decide +kernel
theorem dN_Subject_byteBehind_9 : decode cN_Subject_byteBehind 9 = .ok (.if_icmp .ge 12, 3) := by decide +kernel
theorem dN_Subject_byteBehind_12 : decode cN_Subject_byteBehind 12 = .ok (.aload_n 0, 1) := by decide +kernel
theorem dN_Subject_byteBehind_13 : decode cN_Subject_byteBehind 13 = .ok (.getfield 9, 3) := by decide +kernel
theorem dN_Subject_byteBehind_16 : decode cN_Subject_byteBehind 16 = .ok (.iload_n 1, 1) := by decide +kernel
theorem dN_Subject_byteBehind_17 : decode cN_Subject_byteBehind 17 = .ok (.iaload, 1) := by decide +kernel
theorem dN_Subject_byteBehind_18 : decode cN_Subject_byteBehind 18 = .ok (.goto 4, 3) := by decide +kernel
theorem dN_Subject_byteBehind_21 : decode cN_Subject_byteBehind 21 = .ok (.iconst (-1), 1) := by decide +kernel
theorem dN_Subject_byteBehind_22 : decode cN_Subject_byteBehind 22 = .ok (.ireturn, 1) := by decide +kernel
theorem dN_Subject_whatIsSoAt_0 : decode cN_Subject_whatIsSoAt 0 = .ok (.aload_n 0, 1) := by decide +kernel
theorem dN_Subject_whatIsSoAt_1 : decode cN_Subject_whatIsSoAt 1 = .ok (.iload_n 1, 1) := by decide +kernel
theorem dN_Subject_whatIsSoAt_2 : decode cN_Subject_whatIsSoAt 2 = .ok (.iconst 1, 1) := by decide +kernel
theorem dN_Subject_whatIsSoAt_3 : decode cN_Subject_whatIsSoAt 3 = .ok (.isub, 1) := by decide +kernel
theorem dN_Subject_whatIsSoAt_4 : decode cN_Subject_whatIsSoAt 4 = .ok (.invokevirtual 23, 3) := by decide +kernel
theorem dN_Subject_whatIsSoAt_7 : decode cN_Subject_whatIsSoAt 7 = .ok (.aload_n 0, 1) := by decide +kernel
theorem dN_Subject_whatIsSoAt_8 : decode cN_Subject_whatIsSoAt 8 = .ok (.iload_n 1, 1) := by decide +kernel
theorem dN_Subject_whatIsSoAt_9 : decode cN_Subject_whatIsSoAt 9 = .ok (.invokevirtual 23, 3) := by decide +kernel
theorem dN_Subject_whatIsSoAt_12 : decode cN_Subject_whatIsSoAt 12 = .ok (.invokestatic 27, 3) := by decide +kernel
theorem dN_Subject_whatIsSoAt_15 : decode cN_Subject_whatIsSoAt 15 = .ok (.ireturn, 1) := by decide +kernel
theorem dN_Subject_whatIsSo_0 : decode cN_Subject_whatIsSo 0 = .ok (.iload_n 0, 1) := by decide +kernel
theorem dN_Subject_whatIsSo_1 : decode cN_Subject_whatIsSo 1 = .ok (.invokestatic 19, 3) := by decide +kernel
theorem dN_Subject_whatIsSo_4 : decode cN_Subject_whatIsSo 4 = .ok (.iload_n 1, 1) := by decide +kernel
theorem dN_Subject_whatIsSo_5 : decode cN_Subject_whatIsSo 5 = .ok (.invokestatic 19, 3) := by decide +kernel
theorem dN_Subject_whatIsSo_8 : decode cN_Subject_whatIsSo 8 = .ok (.if_icmp .eq 8, 3) := by decide +kernel
theorem dN_Subject_whatIsSo_11 : decode cN_Subject_whatIsSo 11 = .ok (.bipush 16, 2) := by decide +kernel
theorem dN_Subject_whatIsSo_13 : decode cN_Subject_whatIsSo 13 = .ok (.goto 5, 3) := by decide +kernel
theorem dN_Subject_whatIsSo_16 : decode cN_Subject_whatIsSo 16 = .ok (.bipush 32, 2) := by decide +kernel
theorem dN_Subject_whatIsSo_18 : decode cN_Subject_whatIsSo 18 = .ok (.istore_n 2, 1) := by decide +kernel
theorem dN_Subject_whatIsSo_19 : decode cN_Subject_whatIsSo 19 = .ok (.iload_n 0, 1) := by decide +kernel
theorem dN_Subject_whatIsSo_20 : decode cN_Subject_whatIsSo 20 = .ok (.iconst (-1), 1) := by decide +kernel
theorem dN_Subject_whatIsSo_21 : decode cN_Subject_whatIsSo 21 = .ok (.if_icmp .ne 7, 3) := by decide +kernel
theorem dN_Subject_whatIsSo_24 : decode cN_Subject_whatIsSo 24 = .ok (.iload_n 2, 1) := by decide +kernel
theorem dN_Subject_whatIsSo_25 : decode cN_Subject_whatIsSo 25 = .ok (.iconst 5, 1) := by decide +kernel
theorem dN_Subject_whatIsSo_26 : decode cN_Subject_whatIsSo 26 = .ok (.ior, 1) := by decide +kernel
theorem dN_Subject_whatIsSo_27 : decode cN_Subject_whatIsSo 27 = .ok (.istore_n 2, 1) := by decide +kernel
theorem dN_Subject_whatIsSo_28 : decode cN_Subject_whatIsSo 28 = .ok (.iload_n 1, 1) := by decide +kernel
theorem dN_Subject_whatIsSo_29 : decode cN_Subject_whatIsSo 29 = .ok (.iconst (-1), 1) := by decide +kernel
theorem dN_Subject_whatIsSo_30 : decode cN_Subject_whatIsSo 30 = .ok (.if_icmp .ne 8, 3) := by decide +kernel
theorem dN_Subject_whatIsSo_33 : decode cN_Subject_whatIsSo 33 = .ok (.iload_n 2, 1) := by decide +kernel
theorem dN_Subject_whatIsSo_34 : decode cN_Subject_whatIsSo 34 = .ok (.bipush 10, 2) := by decide +kernel
theorem dN_Subject_whatIsSo_36 : decode cN_Subject_whatIsSo 36 = .ok (.ior, 1) := by decide +kernel
theorem dN_Subject_whatIsSo_37 : decode cN_Subject_whatIsSo 37 = .ok (.istore_n 2, 1) := by decide +kernel
theorem dN_Subject_whatIsSo_38 : decode cN_Subject_whatIsSo 38 = .ok (.iload_n 0, 1) := by decide +kernel
theorem dN_Subject_whatIsSo_39 : decode cN_Subject_whatIsSo 39 = .ok (.bipush 10, 2) := by decide +kernel
theorem dN_Subject_whatIsSo_41 : decode cN_Subject_whatIsSo 41 = .ok (.if_icmp .ne 7, 3) := by decide +kernel
theorem dN_Subject_whatIsSo_44 : decode cN_Subject_whatIsSo 44 = .ok (.iload_n 2, 1) := by decide +kernel
theorem dN_Subject_whatIsSo_45 : decode cN_Subject_whatIsSo 45 = .ok (.iconst 4, 1) := by decide +kernel
theorem dN_Subject_whatIsSo_46 : decode cN_Subject_whatIsSo 46 = .ok (.ior, 1) := by decide +kernel
theorem dN_Subject_whatIsSo_47 : decode cN_Subject_whatIsSo 47 = .ok (.istore_n 2, 1) := by decide +kernel
theorem dN_Subject_whatIsSo_48 : decode cN_Subject_whatIsSo 48 = .ok (.iload_n 1, 1) := by decide +kernel
theorem dN_Subject_whatIsSo_49 : decode cN_Subject_whatIsSo 49 = .ok (.bipush 10, 2) := by decide +kernel
theorem dN_Subject_whatIsSo_51 : decode cN_Subject_whatIsSo 51 = .ok (.if_icmp .ne 8, 3) := by decide +kernel
theorem dN_Subject_whatIsSo_54 : decode cN_Subject_whatIsSo 54 = .ok (.iload_n 2, 1) := by decide +kernel
theorem dN_Subject_whatIsSo_55 : decode cN_Subject_whatIsSo 55 = .ok (.bipush 8, 2) := by decide +kernel
theorem dN_Subject_whatIsSo_57 : decode cN_Subject_whatIsSo 57 = .ok (.ior, 1) := by decide +kernel
theorem dN_Subject_whatIsSo_58 : decode cN_Subject_whatIsSo 58 = .ok (.istore_n 2, 1) := by decide +kernel
theorem dN_Subject_whatIsSo_59 : decode cN_Subject_whatIsSo 59 = .ok (.iload_n 2, 1) := by decide +kernel
theorem dN_Subject_whatIsSo_60 : decode cN_Subject_whatIsSo 60 = .ok (.ireturn, 1) := by decide +kernel
theorem dN_Subject_isWord_0 : decode cN_Subject_isWord 0 = .ok (.iload_n 0, 1) := by decide +kernel
theorem dN_Subject_isWord_1 : decode cN_Subject_isWord 1 = .ok (.bipush 48, 2) := by decide +kernel
theorem dN_Subject_isWord_3 : decode cN_Subject_isWord 3 = .ok (.if_icmp .lt 9, 3) := by decide +kernel
theorem dN_Subject_isWord_6 : decode cN_Subject_isWord 6 = .ok (.iload_n 0, 1) := by decide +kernel
theorem dN_Subject_isWord_7 : decode cN_Subject_isWord 7 = .ok (.bipush 57, 2) := by decide +kernel
theorem dN_Subject_isWord_9 : decode cN_Subject_isWord 9 = .ok (.if_icmp .le 33, 3) := by decide +kernel
theorem dN_Subject_isWord_12 : decode cN_Subject_isWord 12 = .ok (.iload_n 0, 1) := by decide +kernel
theorem dN_Subject_isWord_13 : decode cN_Subject_isWord 13 = .ok (.bipush 65, 2) := by decide +kernel
theorem dN_Subject_isWord_15 : decode cN_Subject_isWord 15 = .ok (.if_icmp .lt 9, 3) := by decide +kernel
theorem dN_Subject_isWord_18 : decode cN_Subject_isWord 18 = .ok (.iload_n 0, 1) := by decide +kernel
theorem dN_Subject_isWord_19 : decode cN_Subject_isWord 19 = .ok (.bipush 90, 2) := by decide +kernel
theorem dN_Subject_isWord_21 : decode cN_Subject_isWord 21 = .ok (.if_icmp .le 21, 3) := by decide +kernel
theorem dN_Subject_isWord_24 : decode cN_Subject_isWord 24 = .ok (.iload_n 0, 1) := by decide +kernel
theorem dN_Subject_isWord_25 : decode cN_Subject_isWord 25 = .ok (.bipush 97, 2) := by decide +kernel
theorem dN_Subject_isWord_27 : decode cN_Subject_isWord 27 = .ok (.if_icmp .lt 9, 3) := by decide +kernel
theorem dN_Subject_isWord_30 : decode cN_Subject_isWord 30 = .ok (.iload_n 0, 1) := by decide +kernel
theorem dN_Subject_isWord_31 : decode cN_Subject_isWord 31 = .ok (.bipush 122, 2) := by decide +kernel
theorem dN_Subject_isWord_33 : decode cN_Subject_isWord 33 = .ok (.if_icmp .le 9, 3) := by decide +kernel
theorem dN_Subject_isWord_36 : decode cN_Subject_isWord 36 = .ok (.iload_n 0, 1) := by decide +kernel
theorem dN_Subject_isWord_37 : decode cN_Subject_isWord 37 = .ok (.bipush 95, 2) := by decide +kernel
theorem dN_Subject_isWord_39 : decode cN_Subject_isWord 39 = .ok (.if_icmp .ne 7, 3) := by decide +kernel
theorem dN_Subject_isWord_42 : decode cN_Subject_isWord 42 = .ok (.iconst 1, 1) := by decide +kernel
theorem dN_Subject_isWord_43 : decode cN_Subject_isWord 43 = .ok (.goto 4, 3) := by decide +kernel
theorem dN_Subject_isWord_46 : decode cN_Subject_isWord 46 = .ok (.iconst 0, 1) := by decide +kernel
theorem dN_Subject_isWord_47 : decode cN_Subject_isWord 47 = .ok (.ireturn, 1) := by decide +kernel
