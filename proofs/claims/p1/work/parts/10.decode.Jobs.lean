theorem dN_Jobs_init_0 : decode cN_Jobs_init 0 = .ok (.aload_n 0, 1) := by decide +kernel
theorem dN_Jobs_init_1 : decode cN_Jobs_init 1 = .ok (.invokespecial 3, 3) := by decide +kernel
theorem dN_Jobs_init_4 : decode cN_Jobs_init 4 = .ok (.aload_n 0, 1) := by decide +kernel
theorem dN_Jobs_init_5 : decode cN_Jobs_init 5 = .ok (.iconst 0, 1) := by decide +kernel
theorem dN_Jobs_init_6 : decode cN_Jobs_init 6 = .ok (.putfield 9, 3) := by decide +kernel
theorem dN_Jobs_init_9 : decode cN_Jobs_init 9 = .ok (.aload_n 0, 1) := by decide +kernel
theorem dN_Jobs_init_10 : decode cN_Jobs_init 10 = .ok (.iload_n 1, 1) := by decide +kernel
theorem dN_Jobs_init_11 : decode cN_Jobs_init 11 = .ok (.ifCond .ge 7, 3) := by decide +kernel
theorem dN_Jobs_init_14 : decode cN_Jobs_init 14 = .ok (.iconst 0, 1) := by decide +kernel
theorem dN_Jobs_init_15 : decode cN_Jobs_init 15 = .ok (.goto 4, 3) := by decide +kernel
theorem dN_Jobs_init_18 : decode cN_Jobs_init 18 = .ok (.iload_n 1, 1) := by decide +kernel
theorem dN_Jobs_init_19 : decode cN_Jobs_init 19 = .ok (.newarray .int, 2) := by decide +kernel
theorem dN_Jobs_init_21 : decode cN_Jobs_init 21 = .ok (.putfield 15, 3) := by decide +kernel
theorem dN_Jobs_init_24 : decode cN_Jobs_init 24 = .ok (.return_, 1) := by decide +kernel
theorem dN_Jobs_drop_0 : decode cN_Jobs_drop 0 = .ok (.aload_n 0, 1) := by decide +kernel
theorem dN_Jobs_drop_1 : decode cN_Jobs_drop 1 = .ok (.iconst 0, 1) := by decide +kernel
theorem dN_Jobs_drop_2 : decode cN_Jobs_drop 2 = .ok (.putfield 9, 3) := by decide +kernel
theorem dN_Jobs_drop_5 : decode cN_Jobs_drop 5 = .ok (.return_, 1) := by decide +kernel
theorem dN_Jobs_add_0 : decode cN_Jobs_add 0 = .ok (.aload_n 0, 1) := by decide +kernel
theorem dN_Jobs_add_1 : decode cN_Jobs_add 1 = .ok (.getfield 9, 3) := by decide +kernel
theorem dN_Jobs_add_4 : decode cN_Jobs_add 4 = .ok (.aload_n 0, 1) := by decide +kernel
theorem dN_Jobs_add_5 : decode cN_Jobs_add 5 = .ok (.getfield 15, 3) := by decide +kernel
theorem dN_Jobs_add_8 : decode cN_Jobs_add 8 = .ok (.arraylength, 1) := by decide +kernel
theorem dN_Jobs_add_9 : decode cN_Jobs_add 9 = .ok (.if_icmp .ge 23, 3) := by decide +kernel
theorem dN_Jobs_add_12 : decode cN_Jobs_add 12 = .ok (.aload_n 0, 1) := by decide +kernel
theorem dN_Jobs_add_13 : decode cN_Jobs_add 13 = .ok (.getfield 15, 3) := by decide +kernel
theorem dN_Jobs_add_16 : decode cN_Jobs_add 16 = .ok (.aload_n 0, 1) := by decide +kernel
theorem dN_Jobs_add_17 : decode cN_Jobs_add 17 = .ok (.getfield 9, 3) := by decide +kernel
theorem dN_Jobs_add_20 : decode cN_Jobs_add 20 = .ok (.iload_n 1, 1) := by decide +kernel
theorem dN_Jobs_add_21 : decode cN_Jobs_add 21 = .ok (.iastore, 1) := by decide +kernel
theorem dN_Jobs_add_22 : decode cN_Jobs_add 22 = .ok (.aload_n 0, 1) := by decide +kernel
theorem dN_Jobs_add_23 : decode cN_Jobs_add 23 = .ok (.dup, 1) := by decide +kernel
theorem dN_Jobs_add_24 : decode cN_Jobs_add 24 = .ok (.getfield 9, 3) := by decide +kernel
theorem dN_Jobs_add_27 : decode cN_Jobs_add 27 = .ok (.iconst 1, 1) := by decide +kernel
theorem dN_Jobs_add_28 : decode cN_Jobs_add 28 = .ok (.iadd, 1) := by decide +kernel
theorem dN_Jobs_add_29 : decode cN_Jobs_add 29 = .ok (.putfield 9, 3) := by decide +kernel
theorem dN_Jobs_add_32 : decode cN_Jobs_add 32 = .ok (.return_, 1) := by decide +kernel
theorem dN_Jobs_isEmpty_0 : decode cN_Jobs_isEmpty 0 = .ok (.aload_n 0, 1) := by decide +kernel
theorem dN_Jobs_isEmpty_1 : decode cN_Jobs_isEmpty 1 = .ok (.getfield 9, 3) := by decide +kernel
theorem dN_Jobs_isEmpty_4 : decode cN_Jobs_isEmpty 4 = .ok (.ifCond .ne 7, 3) := by decide +kernel
theorem dN_Jobs_isEmpty_7 : decode cN_Jobs_isEmpty 7 = .ok (.iconst 1, 1) := by decide +kernel
theorem dN_Jobs_isEmpty_8 : decode cN_Jobs_isEmpty 8 = .ok (.goto 4, 3) := by decide +kernel
theorem dN_Jobs_isEmpty_11 : decode cN_Jobs_isEmpty 11 = .ok (.iconst 0, 1) := by decide +kernel
theorem dN_Jobs_isEmpty_12 : decode cN_Jobs_isEmpty 12 = .ok (.ireturn, 1) := by decide +kernel
theorem dN_Jobs_take_0 : decode cN_Jobs_take 0 = .ok (.aload_n 0, 1) := by decide +kernel
theorem dN_Jobs_take_1 : decode cN_Jobs_take 1 = .ok (.getfield 9, 3) := by decide +kernel
theorem dN_Jobs_take_4 : decode cN_Jobs_take 4 = .ok (.ifCond .ne 5, 3) := by decide +kernel
theorem dN_Jobs_take_7 : decode cN_Jobs_take 7 = .ok (.iconst 0, 1) := by decide +kernel
theorem dN_Jobs_take_8 : decode cN_Jobs_take 8 = .ok (.ireturn, 1) := by decide +kernel
theorem dN_Jobs_take_9 : decode cN_Jobs_take 9 = .ok (.aload_n 0, 1) := by decide +kernel
theorem dN_Jobs_take_10 : decode cN_Jobs_take 10 = .ok (.dup, 1) := by decide +kernel
theorem dN_Jobs_take_11 : decode cN_Jobs_take 11 = .ok (.getfield 9, 3) := by decide +kernel
theorem dN_Jobs_take_14 : decode cN_Jobs_take 14 = .ok (.iconst 1, 1) := by decide +kernel
theorem dN_Jobs_take_15 : decode cN_Jobs_take 15 = .ok (.isub, 1) := by decide +kernel
theorem dN_Jobs_take_16 : decode cN_Jobs_take 16 = .ok (.putfield 9, 3) := by decide +kernel
theorem dN_Jobs_take_19 : decode cN_Jobs_take 19 = .ok (.aload_n 0, 1) := by decide +kernel
theorem dN_Jobs_take_20 : decode cN_Jobs_take 20 = .ok (.getfield 15, 3) := by decide +kernel
theorem dN_Jobs_take_23 : decode cN_Jobs_take 23 = .ok (.aload_n 0, 1) := by decide +kernel
theorem dN_Jobs_take_24 : decode cN_Jobs_take 24 = .ok (.getfield 9, 3) := by decide +kernel
theorem dN_Jobs_take_27 : decode cN_Jobs_take 27 = .ok (.iaload, 1) := by decide +kernel
theorem dN_Jobs_take_28 : decode cN_Jobs_take 28 = .ok (.ireturn, 1) := by decide +kernel
theorem dN_Jobs_makeRoom_0 : decode cN_Jobs_makeRoom 0 = .ok (.aload_n 0, 1) := by decide +kernel
theorem dN_Jobs_makeRoom_1 : decode cN_Jobs_makeRoom 1 = .ok (.getfield 15, 3) := by decide +kernel
theorem dN_Jobs_makeRoom_4 : decode cN_Jobs_makeRoom 4 = .ok (.arraylength, 1) := by decide +kernel
theorem dN_Jobs_makeRoom_5 : decode cN_Jobs_makeRoom 5 = .ok (.iload_n 1, 1) := by decide +kernel
theorem dN_Jobs_makeRoom_6 : decode cN_Jobs_makeRoom 6 = .ok (.if_icmp .ge 25, 3) := by decide +kernel
theorem dN_Jobs_makeRoom_9 : decode cN_Jobs_makeRoom 9 = .ok (.aload_n 0, 1) := by decide +kernel
theorem dN_Jobs_makeRoom_10 : decode cN_Jobs_makeRoom 10 = .ok (.iload_n 1, 1) := by decide +kernel
theorem dN_Jobs_makeRoom_11 : decode cN_Jobs_makeRoom 11 = .ok (.iconst 2, 1) := by decide +kernel
theorem dN_Jobs_makeRoom_12 : decode cN_Jobs_makeRoom 12 = .ok (.aload_n 0, 1) := by decide +kernel
theorem dN_Jobs_makeRoom_13 : decode cN_Jobs_makeRoom 13 = .ok (.getfield 15, 3) := by decide +kernel
theorem dN_Jobs_makeRoom_16 : decode cN_Jobs_makeRoom 16 = .ok (.arraylength, 1) := by decide +kernel
theorem dN_Jobs_makeRoom_17 : decode cN_Jobs_makeRoom 17 = .ok (.imul, 1) := by decide +kernel
theorem dN_Jobs_makeRoom_18 : decode cN_Jobs_makeRoom 18 = .ok (.invokestatic 19, 3) := by decide +kernel
theorem dN_Jobs_makeRoom_21 : decode cN_Jobs_makeRoom 21 = .ok (.newarray .int, 2) := by decide +kernel
theorem dN_Jobs_makeRoom_23 : decode cN_Jobs_makeRoom 23 = .ok (.putfield 15, 3) := by decide +kernel
theorem dN_Jobs_makeRoom_26 : decode cN_Jobs_makeRoom 26 = .ok (.aload_n 0, 1) := by decide +kernel
theorem dN_Jobs_makeRoom_27 : decode cN_Jobs_makeRoom 27 = .ok (.iconst 0, 1) := by decide +kernel
theorem dN_Jobs_makeRoom_28 : decode cN_Jobs_makeRoom 28 = .ok (.putfield 9, 3) := by decide +kernel
theorem dN_Jobs_makeRoom_31 : decode cN_Jobs_makeRoom 31 = .ok (.return_, 1) := by decide +kernel
theorem dN_Jobs_stepAt_0 : decode cN_Jobs_stepAt 0 = .ok (.iload_n 1, 1) := by decide +kernel
theorem dN_Jobs_stepAt_1 : decode cN_Jobs_stepAt 1 = .ok (.sipush 256, 3) := by decide +kernel
theorem dN_Jobs_stepAt_4 : decode cN_Jobs_stepAt 4 = .ok (.imul, 1) := by decide +kernel
theorem dN_Jobs_stepAt_5 : decode cN_Jobs_stepAt 5 = .ok (.iload_n 0, 1) := by decide +kernel
theorem dN_Jobs_stepAt_6 : decode cN_Jobs_stepAt 6 = .ok (.iadd, 1) := by decide +kernel
theorem dN_Jobs_stepAt_7 : decode cN_Jobs_stepAt 7 = .ok (.ireturn, 1) := by decide +kernel
theorem dN_Jobs_isPutBack_0 : decode cN_Jobs_isPutBack 0 = .ok (.iload_n 0, 1) := by decide +kernel
theorem dN_Jobs_isPutBack_1 : decode cN_Jobs_isPutBack 1 = .ok (.ifCond .ge 7, 3) := by decide +kernel
theorem dN_Jobs_isPutBack_4 : decode cN_Jobs_isPutBack 4 = .ok (.iconst 1, 1) := by decide +kernel
theorem dN_Jobs_isPutBack_5 : decode cN_Jobs_isPutBack 5 = .ok (.goto 4, 3) := by decide +kernel
theorem dN_Jobs_isPutBack_8 : decode cN_Jobs_isPutBack 8 = .ok (.iconst 0, 1) := by decide +kernel
theorem dN_Jobs_isPutBack_9 : decode cN_Jobs_isPutBack 9 = .ok (.ireturn, 1) := by decide +kernel
theorem dN_Jobs_putBack_0 : decode cN_Jobs_putBack 0 = .ok (.iconst (-1), 1) := by decide +kernel
theorem dN_Jobs_putBack_1 : decode cN_Jobs_putBack 1 = .ok (.iload_n 0, 1) := by decide +kernel
theorem dN_Jobs_putBack_2 : decode cN_Jobs_putBack 2 = .ok (.isub, 1) := by decide +kernel
theorem dN_Jobs_putBack_3 : decode cN_Jobs_putBack 3 = .ok (.sipush 256, 3) := by decide +kernel
theorem dN_Jobs_putBack_6 : decode cN_Jobs_putBack 6 = .ok (.idiv, 1) := by decide +kernel
theorem dN_Jobs_putBack_7 : decode cN_Jobs_putBack 7 = .ok (.istore_n 2, 1) := by decide +kernel
theorem dN_Jobs_putBack_8 : decode cN_Jobs_putBack 8 = .ok (.iload_n 2, 1) := by decide +kernel
theorem dN_Jobs_putBack_9 : decode cN_Jobs_putBack 9 = .ok (.ifCond .lt 21, 3) := by decide +kernel
theorem dN_Jobs_putBack_12 : decode cN_Jobs_putBack 12 = .ok (.iload_n 2, 1) := by decide +kernel
theorem dN_Jobs_putBack_13 : decode cN_Jobs_putBack 13 = .ok (.aload_n 1, 1) := by decide +kernel
theorem dN_Jobs_putBack_14 : decode cN_Jobs_putBack 14 = .ok (.arraylength, 1) := by decide +kernel
theorem dN_Jobs_putBack_15 : decode cN_Jobs_putBack 15 = .ok (.if_icmp .ge 15, 3) := by decide +kernel
theorem dN_Jobs_putBack_18 : decode cN_Jobs_putBack 18 = .ok (.aload_n 1, 1) := by decide +kernel
theorem dN_Jobs_putBack_19 : decode cN_Jobs_putBack 19 = .ok (.iload_n 2, 1) := by decide +kernel
theorem dN_Jobs_putBack_20 : decode cN_Jobs_putBack 20 = .ok (.iconst (-1), 1) := by decide +kernel
theorem dN_Jobs_putBack_21 : decode cN_Jobs_putBack 21 = .ok (.iload_n 0, 1) := by decide +kernel
theorem dN_Jobs_putBack_22 : decode cN_Jobs_putBack 22 = .ok (.isub, 1) := by decide +kernel
theorem dN_Jobs_putBack_23 : decode cN_Jobs_putBack 23 = .ok (.sipush 256, 3) := by decide +kernel
theorem dN_Jobs_putBack_26 : decode cN_Jobs_putBack 26 = .ok (.irem, 1) := by decide +kernel
theorem dN_Jobs_putBack_27 : decode cN_Jobs_putBack 27 = .ok (.iconst 1, 1) := by decide +kernel
theorem dN_Jobs_putBack_28 : decode cN_Jobs_putBack 28 = .ok (.isub, 1) := by decide +kernel
theorem dN_Jobs_putBack_29 : decode cN_Jobs_putBack 29 = .ok (.iastore, 1) := by decide +kernel
theorem dN_Jobs_putBack_30 : decode cN_Jobs_putBack 30 = .ok (.return_, 1) := by decide +kernel
theorem dN_Jobs_stepOf_0 : decode cN_Jobs_stepOf 0 = .ok (.iload_n 0, 1) := by decide +kernel
theorem dN_Jobs_stepOf_1 : decode cN_Jobs_stepOf 1 = .ok (.sipush 256, 3) := by decide +kernel
theorem dN_Jobs_stepOf_4 : decode cN_Jobs_stepOf 4 = .ok (.irem, 1) := by decide +kernel
theorem dN_Jobs_stepOf_5 : decode cN_Jobs_stepOf 5 = .ok (.ireturn, 1) := by decide +kernel
theorem dN_Jobs_placeOf_0 : decode cN_Jobs_placeOf 0 = .ok (.iload_n 0, 1) := by decide +kernel
theorem dN_Jobs_placeOf_1 : decode cN_Jobs_placeOf 1 = .ok (.sipush 256, 3) := by decide +kernel
theorem dN_Jobs_placeOf_4 : decode cN_Jobs_placeOf 4 = .ok (.idiv, 1) := by decide +kernel
theorem dN_Jobs_placeOf_5 : decode cN_Jobs_placeOf 5 = .ok (.ireturn, 1) := by decide +kernel
theorem dN_Jobs_putBackOf_0 : decode cN_Jobs_putBackOf 0 = .ok (.iconst (-1), 1) := by decide +kernel
theorem dN_Jobs_putBackOf_1 : decode cN_Jobs_putBackOf 1 = .ok (.iload_n 0, 1) := by decide +kernel
theorem dN_Jobs_putBackOf_2 : decode cN_Jobs_putBackOf 2 = .ok (.sipush 256, 3) := by decide +kernel
theorem dN_Jobs_putBackOf_5 : decode cN_Jobs_putBackOf 5 = .ok (.imul, 1) := by decide +kernel
theorem dN_Jobs_putBackOf_6 : decode cN_Jobs_putBackOf 6 = .ok (.iload_n 1, 1) := by decide +kernel
theorem dN_Jobs_putBackOf_7 : decode cN_Jobs_putBackOf 7 = .ok (.iadd, 1) := by decide +kernel
theorem dN_Jobs_putBackOf_8 : decode cN_Jobs_putBackOf 8 = .ok (.iconst 1, 1) := by decide +kernel
theorem dN_Jobs_putBackOf_9 : decode cN_Jobs_putBackOf 9 = .ok (.iadd, 1) := by decide +kernel
theorem dN_Jobs_putBackOf_10 : decode cN_Jobs_putBackOf 10 = .ok (.isub, 1) := by decide +kernel
theorem dN_Jobs_putBackOf_11 : decode cN_Jobs_putBackOf 11 = .ok (.ireturn, 1) := by decide +kernel
