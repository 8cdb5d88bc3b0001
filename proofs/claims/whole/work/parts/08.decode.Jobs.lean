theorem dN_Jobs_init_0 : decode cN_Jobs_init 0 = .ok (.aload_n 0, 1) := by decide +kernel
theorem dN_Jobs_init_1 : decode cN_Jobs_init 1 = .ok (.invokespecial 5, 3) := by decide +kernel
theorem dN_Jobs_init_4 : decode cN_Jobs_init 4 = .ok (.aload_n 0, 1) := by decide +kernel
theorem dN_Jobs_init_5 : decode cN_Jobs_init 5 = .ok (.iconst 0, 1) := by decide +kernel
theorem dN_Jobs_init_6 : decode cN_Jobs_init 6 = .ok (.putfield 11, 3) := by decide +kernel
theorem dN_Jobs_init_9 : decode cN_Jobs_init 9 = .ok (.aload_n 0, 1) := by decide +kernel
theorem dN_Jobs_init_10 : decode cN_Jobs_init 10 = .ok (.iload_n 1, 1) := by decide +kernel
theorem dN_Jobs_init_11 : decode cN_Jobs_init 11 = .ok (.ifCond .ge 7, 3) := by decide +kernel
theorem dN_Jobs_init_14 : decode cN_Jobs_init 14 = .ok (.iconst 0, 1) := by decide +kernel
theorem dN_Jobs_init_15 : decode cN_Jobs_init 15 = .ok (.goto 8, 3) := by decide +kernel
theorem dN_Jobs_init_18 : decode cN_Jobs_init 18 = .ok (.iload_n 1, 1) := by decide +kernel
theorem dN_Jobs_init_19 : decode cN_Jobs_init 19 = .ok (.iconst 4, 1) := by decide +kernel
theorem dN_Jobs_init_20 : decode cN_Jobs_init 20 = .ok (.idiv, 1) := by decide +kernel
theorem dN_Jobs_init_21 : decode cN_Jobs_init 21 = .ok (.iconst 1, 1) := by decide +kernel
theorem dN_Jobs_init_22 : decode cN_Jobs_init 22 = .ok (.iadd, 1) := by decide +kernel
theorem dN_Jobs_init_23 : decode cN_Jobs_init 23 = .ok (.newarray .long, 2) := by decide +kernel
theorem dN_Jobs_init_25 : decode cN_Jobs_init 25 = .ok (.putfield 15, 3) := by decide +kernel
theorem dN_Jobs_init_28 : decode cN_Jobs_init 28 = .ok (.return_, 1) := by decide +kernel
theorem dN_Jobs_drop_0 : decode cN_Jobs_drop 0 = .ok (.aload_n 0, 1) := by decide +kernel
theorem dN_Jobs_drop_1 : decode cN_Jobs_drop 1 = .ok (.iconst 0, 1) := by decide +kernel
theorem dN_Jobs_drop_2 : decode cN_Jobs_drop 2 = .ok (.putfield 11, 3) := by decide +kernel
theorem dN_Jobs_drop_5 : decode cN_Jobs_drop 5 = .ok (.return_, 1) := by decide +kernel
theorem dN_Jobs_add_0 : decode cN_Jobs_add 0 = .ok (.aload_n 0, 1) := by decide +kernel
theorem dN_Jobs_add_1 : decode cN_Jobs_add 1 = .ok (.getfield 11, 3) := by decide +kernel
theorem dN_Jobs_add_4 : decode cN_Jobs_add 4 = .ok (.iconst 4, 1) := by decide +kernel
theorem dN_Jobs_add_5 : decode cN_Jobs_add 5 = .ok (.idiv, 1) := by decide +kernel
theorem dN_Jobs_add_6 : decode cN_Jobs_add 6 = .ok (.istore_n 2, 1) := by decide +kernel
theorem dN_Jobs_add_7 : decode cN_Jobs_add 7 = .ok (.iload_n 2, 1) := by decide +kernel
theorem dN_Jobs_add_8 : decode cN_Jobs_add 8 = .ok (.aload_n 0, 1) := by decide +kernel
theorem dN_Jobs_add_9 : decode cN_Jobs_add 9 = .ok (.getfield 15, 3) := by decide +kernel
theorem dN_Jobs_add_12 : decode cN_Jobs_add 12 = .ok (.arraylength, 1) := by decide +kernel
theorem dN_Jobs_add_13 : decode cN_Jobs_add 13 = .ok (.if_icmp .ge 54, 3) := by decide +kernel
theorem dN_Jobs_add_16 : decode cN_Jobs_add 16 = .ok (.aload_n 0, 1) := by decide +kernel
theorem dN_Jobs_add_17 : decode cN_Jobs_add 17 = .ok (.getfield 11, 3) := by decide +kernel
theorem dN_Jobs_add_20 : decode cN_Jobs_add 20 = .ok (.iconst 4, 1) := by decide +kernel
theorem dN_Jobs_add_21 : decode cN_Jobs_add 21 = .ok (.irem, 1) := by decide +kernel
theorem dN_Jobs_add_22 : decode cN_Jobs_add 22 = .ok (.bipush 16, 2) := by decide +kernel
theorem dN_Jobs_add_24 : decode cN_Jobs_add 24 = .ok (.imul, 1) := by decide +kernel
theorem dN_Jobs_add_25 : decode cN_Jobs_add 25 = .ok (.istore_n 3, 1) := by decide +kernel
theorem dN_Jobs_add_26 : decode cN_Jobs_add 26 = .ok (.aload_n 0, 1) := by decide +kernel
theorem dN_Jobs_add_27 : decode cN_Jobs_add 27 = .ok (.getfield 15, 3) := by decide +kernel
theorem dN_Jobs_add_30 : decode cN_Jobs_add 30 = .ok (.iload_n 2, 1) := by decide +kernel
theorem dN_Jobs_add_31 : decode cN_Jobs_add 31 = .ok (.aload_n 0, 1) := by decide +kernel
theorem dN_Jobs_add_32 : decode cN_Jobs_add 32 = .ok (.getfield 15, 3) := by decide +kernel
theorem dN_Jobs_add_35 : decode cN_Jobs_add 35 = .ok (.iload_n 2, 1) := by decide +kernel
theorem dN_Jobs_add_36 : decode cN_Jobs_add 36 = .ok (.laload, 1) := by decide +kernel
theorem dN_Jobs_add_37 : decode cN_Jobs_add 37 = .ok (.ldc2_w 28, 3) := by decide +kernel
theorem dN_Jobs_add_40 : decode cN_Jobs_add 40 = .ok (.iload_n 3, 1) := by decide +kernel
theorem dN_Jobs_add_41 : decode cN_Jobs_add 41 = .ok (.lshl, 1) := by decide +kernel
theorem dN_Jobs_add_42 : decode cN_Jobs_add 42 = .ok (.ldc2_w 30, 3) := by decide +kernel
theorem dN_Jobs_add_45 : decode cN_Jobs_add 45 = .ok (.lxor, 1) := by decide +kernel
theorem dN_Jobs_add_46 : decode cN_Jobs_add 46 = .ok (.land, 1) := by decide +kernel
theorem dN_Jobs_add_47 : decode cN_Jobs_add 47 = .ok (.iload_n 1, 1) := by decide +kernel
theorem dN_Jobs_add_48 : decode cN_Jobs_add 48 = .ok (.i2l, 1) := by decide +kernel
theorem dN_Jobs_add_49 : decode cN_Jobs_add 49 = .ok (.ldc2_w 28, 3) := by decide +kernel
theorem dN_Jobs_add_52 : decode cN_Jobs_add 52 = .ok (.land, 1) := by decide +kernel
theorem dN_Jobs_add_53 : decode cN_Jobs_add 53 = .ok (.iload_n 3, 1) := by decide +kernel
theorem dN_Jobs_add_54 : decode cN_Jobs_add 54 = .ok (.lshl, 1) := by decide +kernel
theorem dN_Jobs_add_55 : decode cN_Jobs_add 55 = .ok (.lor, 1) := by decide +kernel
theorem dN_Jobs_add_56 : decode cN_Jobs_add 56 = .ok (.lastore, 1) := by decide +kernel
theorem dN_Jobs_add_57 : decode cN_Jobs_add 57 = .ok (.aload_n 0, 1) := by decide +kernel
theorem dN_Jobs_add_58 : decode cN_Jobs_add 58 = .ok (.dup, 1) := by decide +kernel
theorem dN_Jobs_add_59 : decode cN_Jobs_add 59 = .ok (.getfield 11, 3) := by decide +kernel
theorem dN_Jobs_add_62 : decode cN_Jobs_add 62 = .ok (.iconst 1, 1) := by decide +kernel
theorem dN_Jobs_add_63 : decode cN_Jobs_add 63 = .ok (.iadd, 1) := by decide +kernel
theorem dN_Jobs_add_64 : decode cN_Jobs_add 64 = .ok (.putfield 11, 3) := by decide +kernel
theorem dN_Jobs_add_67 : decode cN_Jobs_add 67 = .ok (.return_, 1) := by decide +kernel
theorem dN_Jobs_isEmpty_0 : decode cN_Jobs_isEmpty 0 = .ok (.aload_n 0, 1) := by decide +kernel
theorem dN_Jobs_isEmpty_1 : decode cN_Jobs_isEmpty 1 = .ok (.getfield 11, 3) := by decide +kernel
theorem dN_Jobs_isEmpty_4 : decode cN_Jobs_isEmpty 4 = .ok (.ifCond .ne 7, 3) := by decide +kernel
theorem dN_Jobs_isEmpty_7 : decode cN_Jobs_isEmpty 7 = .ok (.iconst 1, 1) := by decide +kernel
theorem dN_Jobs_isEmpty_8 : decode cN_Jobs_isEmpty 8 = .ok (.goto 4, 3) := by decide +kernel
theorem dN_Jobs_isEmpty_11 : decode cN_Jobs_isEmpty 11 = .ok (.iconst 0, 1) := by decide +kernel
theorem dN_Jobs_isEmpty_12 : decode cN_Jobs_isEmpty 12 = .ok (.ireturn, 1) := by decide +kernel
theorem dN_Jobs_take_0 : decode cN_Jobs_take 0 = .ok (.aload_n 0, 1) := by decide +kernel
theorem dN_Jobs_take_1 : decode cN_Jobs_take 1 = .ok (.getfield 11, 3) := by decide +kernel
theorem dN_Jobs_take_4 : decode cN_Jobs_take 4 = .ok (.ifCond .ne 5, 3) := by decide +kernel
theorem dN_Jobs_take_7 : decode cN_Jobs_take 7 = .ok (.iconst 0, 1) := by decide +kernel
theorem dN_Jobs_take_8 : decode cN_Jobs_take 8 = .ok (.ireturn, 1) := by decide +kernel
theorem dN_Jobs_take_9 : decode cN_Jobs_take 9 = .ok (.aload_n 0, 1) := by decide +kernel
theorem dN_Jobs_take_10 : decode cN_Jobs_take 10 = .ok (.dup, 1) := by decide +kernel
theorem dN_Jobs_take_11 : decode cN_Jobs_take 11 = .ok (.getfield 11, 3) := by decide +kernel
theorem dN_Jobs_take_14 : decode cN_Jobs_take 14 = .ok (.iconst 1, 1) := by decide +kernel
theorem dN_Jobs_take_15 : decode cN_Jobs_take 15 = .ok (.isub, 1) := by decide +kernel
theorem dN_Jobs_take_16 : decode cN_Jobs_take 16 = .ok (.putfield 11, 3) := by decide +kernel
theorem dN_Jobs_take_19 : decode cN_Jobs_take 19 = .ok (.aload_n 0, 1) := by decide +kernel
theorem dN_Jobs_take_20 : decode cN_Jobs_take 20 = .ok (.getfield 15, 3) := by decide +kernel
theorem dN_Jobs_take_23 : decode cN_Jobs_take 23 = .ok (.aload_n 0, 1) := by decide +kernel
theorem dN_Jobs_take_24 : decode cN_Jobs_take 24 = .ok (.getfield 11, 3) := by decide +kernel
theorem dN_Jobs_take_27 : decode cN_Jobs_take 27 = .ok (.iconst 4, 1) := by decide +kernel
theorem dN_Jobs_take_28 : decode cN_Jobs_take 28 = .ok (.idiv, 1) := by decide +kernel
theorem dN_Jobs_take_29 : decode cN_Jobs_take 29 = .ok (.laload, 1) := by decide +kernel
theorem dN_Jobs_take_30 : decode cN_Jobs_take 30 = .ok (.aload_n 0, 1) := by decide +kernel
theorem dN_Jobs_take_31 : decode cN_Jobs_take 31 = .ok (.getfield 11, 3) := by decide +kernel
theorem dN_Jobs_take_34 : decode cN_Jobs_take 34 = .ok (.iconst 4, 1) := by decide +kernel
theorem dN_Jobs_take_35 : decode cN_Jobs_take 35 = .ok (.irem, 1) := by decide +kernel
theorem dN_Jobs_take_36 : decode cN_Jobs_take 36 = .ok (.bipush 16, 2) := by decide +kernel
theorem dN_Jobs_take_38 : decode cN_Jobs_take 38 = .ok (.imul, 1) := by decide +kernel
theorem dN_Jobs_take_39 : decode cN_Jobs_take 39 = .ok (.lushr, 1) := by decide +kernel
theorem dN_Jobs_take_40 : decode cN_Jobs_take 40 = .ok (.ldc2_w 28, 3) := by decide +kernel
theorem dN_Jobs_take_43 : decode cN_Jobs_take 43 = .ok (.land, 1) := by decide +kernel
theorem dN_Jobs_take_44 : decode cN_Jobs_take 44 = .ok (.l2i, 1) := by decide +kernel
theorem dN_Jobs_take_45 : decode cN_Jobs_take 45 = .ok (.ireturn, 1) := by decide +kernel
theorem dN_Jobs_stepAt_0 : decode cN_Jobs_stepAt 0 = .ok (.iload_n 1, 1) := by decide +kernel
theorem dN_Jobs_stepAt_1 : decode cN_Jobs_stepAt 1 = .ok (.sipush 256, 3) := by decide +kernel
theorem dN_Jobs_stepAt_4 : decode cN_Jobs_stepAt 4 = .ok (.imul, 1) := by decide +kernel
theorem dN_Jobs_stepAt_5 : decode cN_Jobs_stepAt 5 = .ok (.iload_n 0, 1) := by decide +kernel
theorem dN_Jobs_stepAt_6 : decode cN_Jobs_stepAt 6 = .ok (.iadd, 1) := by decide +kernel
theorem dN_Jobs_stepAt_7 : decode cN_Jobs_stepAt 7 = .ok (.ireturn, 1) := by decide +kernel
theorem dN_Jobs_isPutBack_0 : decode cN_Jobs_isPutBack 0 = .ok (.iload_n 0, 1) := by decide +kernel
theorem dN_Jobs_isPutBack_1 : decode cN_Jobs_isPutBack 1 = .ok (.ldc 19, 2) := by decide +kernel
theorem dN_Jobs_isPutBack_3 : decode cN_Jobs_isPutBack 3 = .ok (.if_icmp .lt 7, 3) := by decide +kernel
theorem dN_Jobs_isPutBack_6 : decode cN_Jobs_isPutBack 6 = .ok (.iconst 1, 1) := by decide +kernel
theorem dN_Jobs_isPutBack_7 : decode cN_Jobs_isPutBack 7 = .ok (.goto 4, 3) := by decide +kernel
theorem dN_Jobs_isPutBack_10 : decode cN_Jobs_isPutBack 10 = .ok (.iconst 0, 1) := by decide +kernel
theorem dN_Jobs_isPutBack_11 : decode cN_Jobs_isPutBack 11 = .ok (.ireturn, 1) := by decide +kernel
theorem dN_Jobs_putBack_0 : decode cN_Jobs_putBack 0 = .ok (.iload_n 0, 1) := by decide +kernel
theorem dN_Jobs_putBack_1 : decode cN_Jobs_putBack 1 = .ok (.ldc 19, 2) := by decide +kernel
theorem dN_Jobs_putBack_3 : decode cN_Jobs_putBack 3 = .ok (.isub, 1) := by decide +kernel
theorem dN_Jobs_putBack_4 : decode cN_Jobs_putBack 4 = .ok (.sipush 256, 3) := by decide +kernel
theorem dN_Jobs_putBack_7 : decode cN_Jobs_putBack 7 = .ok (.idiv, 1) := by decide +kernel
theorem dN_Jobs_putBack_8 : decode cN_Jobs_putBack 8 = .ok (.istore_n 2, 1) := by decide +kernel
theorem dN_Jobs_putBack_9 : decode cN_Jobs_putBack 9 = .ok (.iload_n 2, 1) := by decide +kernel
theorem dN_Jobs_putBack_10 : decode cN_Jobs_putBack 10 = .ok (.ifCond .lt 22, 3) := by decide +kernel
theorem dN_Jobs_putBack_13 : decode cN_Jobs_putBack 13 = .ok (.iload_n 2, 1) := by decide +kernel
theorem dN_Jobs_putBack_14 : decode cN_Jobs_putBack 14 = .ok (.aload_n 1, 1) := by decide +kernel
theorem dN_Jobs_putBack_15 : decode cN_Jobs_putBack 15 = .ok (.arraylength, 1) := by decide +kernel
theorem dN_Jobs_putBack_16 : decode cN_Jobs_putBack 16 = .ok (.if_icmp .ge 16, 3) := by decide +kernel
theorem dN_Jobs_putBack_19 : decode cN_Jobs_putBack 19 = .ok (.aload_n 1, 1) := by decide +kernel
theorem dN_Jobs_putBack_20 : decode cN_Jobs_putBack 20 = .ok (.iload_n 2, 1) := by decide +kernel
theorem dN_Jobs_putBack_21 : decode cN_Jobs_putBack 21 = .ok (.iload_n 0, 1) := by decide +kernel
theorem dN_Jobs_putBack_22 : decode cN_Jobs_putBack 22 = .ok (.ldc 19, 2) := by decide +kernel
theorem dN_Jobs_putBack_24 : decode cN_Jobs_putBack 24 = .ok (.isub, 1) := by decide +kernel
theorem dN_Jobs_putBack_25 : decode cN_Jobs_putBack 25 = .ok (.sipush 256, 3) := by decide +kernel
theorem dN_Jobs_putBack_28 : decode cN_Jobs_putBack 28 = .ok (.irem, 1) := by decide +kernel
theorem dN_Jobs_putBack_29 : decode cN_Jobs_putBack 29 = .ok (.iconst 1, 1) := by decide +kernel
theorem dN_Jobs_putBack_30 : decode cN_Jobs_putBack 30 = .ok (.isub, 1) := by decide +kernel
theorem dN_Jobs_putBack_31 : decode cN_Jobs_putBack 31 = .ok (.iastore, 1) := by decide +kernel
theorem dN_Jobs_putBack_32 : decode cN_Jobs_putBack 32 = .ok (.return_, 1) := by decide +kernel
theorem dN_Jobs_stepOf_0 : decode cN_Jobs_stepOf 0 = .ok (.iload_n 0, 1) := by decide +kernel
theorem dN_Jobs_stepOf_1 : decode cN_Jobs_stepOf 1 = .ok (.sipush 256, 3) := by decide +kernel
theorem dN_Jobs_stepOf_4 : decode cN_Jobs_stepOf 4 = .ok (.irem, 1) := by decide +kernel
theorem dN_Jobs_stepOf_5 : decode cN_Jobs_stepOf 5 = .ok (.ireturn, 1) := by decide +kernel
theorem dN_Jobs_placeOf_0 : decode cN_Jobs_placeOf 0 = .ok (.iload_n 0, 1) := by decide +kernel
theorem dN_Jobs_placeOf_1 : decode cN_Jobs_placeOf 1 = .ok (.sipush 256, 3) := by decide +kernel
theorem dN_Jobs_placeOf_4 : decode cN_Jobs_placeOf 4 = .ok (.idiv, 1) := by decide +kernel
theorem dN_Jobs_placeOf_5 : decode cN_Jobs_placeOf 5 = .ok (.ireturn, 1) := by decide +kernel
theorem dN_Jobs_save_0 : decode cN_Jobs_save 0 = .ok (.iload_n 1, 1) := by decide +kernel
theorem dN_Jobs_save_1 : decode cN_Jobs_save 1 = .ok (.ifCond .lt 24, 3) := by decide +kernel
theorem dN_Jobs_save_4 : decode cN_Jobs_save 4 = .ok (.iload_n 1, 1) := by decide +kernel
theorem dN_Jobs_save_5 : decode cN_Jobs_save 5 = .ok (.aload_n 3, 1) := by decide +kernel
theorem dN_Jobs_save_6 : decode cN_Jobs_save 6 = .ok (.arraylength, 1) := by decide +kernel
theorem dN_Jobs_save_7 : decode cN_Jobs_save 7 = .ok (.if_icmp .ge 18, 3) := by decide +kernel
theorem dN_Jobs_save_10 : decode cN_Jobs_save 10 = .ok (.aload_n 0, 1) := by decide +kernel
theorem dN_Jobs_save_11 : decode cN_Jobs_save 11 = .ok (.iload_n 1, 1) := by decide +kernel
theorem dN_Jobs_save_12 : decode cN_Jobs_save 12 = .ok (.aload_n 3, 1) := by decide +kernel
theorem dN_Jobs_save_13 : decode cN_Jobs_save 13 = .ok (.iload_n 1, 1) := by decide +kernel
theorem dN_Jobs_save_14 : decode cN_Jobs_save 14 = .ok (.iaload, 1) := by decide +kernel
theorem dN_Jobs_save_15 : decode cN_Jobs_save 15 = .ok (.invokestatic 20, 3) := by decide +kernel
theorem dN_Jobs_save_18 : decode cN_Jobs_save 18 = .ok (.invokevirtual 24, 3) := by decide +kernel
theorem dN_Jobs_save_21 : decode cN_Jobs_save 21 = .ok (.aload_n 3, 1) := by decide +kernel
theorem dN_Jobs_save_22 : decode cN_Jobs_save 22 = .ok (.iload_n 1, 1) := by decide +kernel
theorem dN_Jobs_save_23 : decode cN_Jobs_save 23 = .ok (.iload_n 2, 1) := by decide +kernel
theorem dN_Jobs_save_24 : decode cN_Jobs_save 24 = .ok (.iastore, 1) := by decide +kernel
theorem dN_Jobs_save_25 : decode cN_Jobs_save 25 = .ok (.return_, 1) := by decide +kernel
theorem dN_Jobs_putBackOf_0 : decode cN_Jobs_putBackOf 0 = .ok (.ldc 19, 2) := by decide +kernel
theorem dN_Jobs_putBackOf_2 : decode cN_Jobs_putBackOf 2 = .ok (.iload_n 0, 1) := by decide +kernel
theorem dN_Jobs_putBackOf_3 : decode cN_Jobs_putBackOf 3 = .ok (.sipush 256, 3) := by decide +kernel
theorem dN_Jobs_putBackOf_6 : decode cN_Jobs_putBackOf 6 = .ok (.imul, 1) := by decide +kernel
theorem dN_Jobs_putBackOf_7 : decode cN_Jobs_putBackOf 7 = .ok (.iadd, 1) := by decide +kernel
theorem dN_Jobs_putBackOf_8 : decode cN_Jobs_putBackOf 8 = .ok (.iload_n 1, 1) := by decide +kernel
theorem dN_Jobs_putBackOf_9 : decode cN_Jobs_putBackOf 9 = .ok (.iadd, 1) := by decide +kernel
theorem dN_Jobs_putBackOf_10 : decode cN_Jobs_putBackOf 10 = .ok (.iconst 1, 1) := by decide +kernel
theorem dN_Jobs_putBackOf_11 : decode cN_Jobs_putBackOf 11 = .ok (.iadd, 1) := by decide +kernel
theorem dN_Jobs_putBackOf_12 : decode cN_Jobs_putBackOf 12 = .ok (.ireturn, 1) := by decide +kernel
