theorem dN_Packed_init_0 : decode cN_Packed_init 0 = .ok (.aload_n 0, 1) := by decide +kernel
theorem dN_Packed_init_1 : decode cN_Packed_init 1 = .ok (.invokespecial 1, 3) := by decide +kernel
theorem dN_Packed_init_4 : decode cN_Packed_init 4 = .ok (.aload_n 0, 1) := by decide +kernel
theorem dN_Packed_init_5 : decode cN_Packed_init 5 = .ok (.iload_n 1, 1) := by decide +kernel
theorem dN_Packed_init_6 : decode cN_Packed_init 6 = .ok (.ifCond .ge 7, 3) := by decide +kernel
theorem dN_Packed_init_9 : decode cN_Packed_init 9 = .ok (.iconst 0, 1) := by decide +kernel
theorem dN_Packed_init_10 : decode cN_Packed_init 10 = .ok (.goto 9, 3) := by decide +kernel
theorem dN_Packed_init_13 : decode cN_Packed_init 13 = .ok (.iload_n 1, 1) := by decide +kernel
theorem dN_Packed_init_14 : decode cN_Packed_init 14 = .ok (.bipush 8, 2) := by decide +kernel
theorem dN_Packed_init_16 : decode cN_Packed_init 16 = .ok (.idiv, 1) := by decide +kernel
theorem dN_Packed_init_17 : decode cN_Packed_init 17 = .ok (.iconst 1, 1) := by decide +kernel
theorem dN_Packed_init_18 : decode cN_Packed_init 18 = .ok (.iadd, 1) := by decide +kernel
theorem dN_Packed_init_19 : decode cN_Packed_init 19 = .ok (.newarray .long, 2) := by decide +kernel
theorem dN_Packed_init_21 : decode cN_Packed_init 21 = .ok (.putfield 9, 3) := by decide +kernel
theorem dN_Packed_init_24 : decode cN_Packed_init 24 = .ok (.return_, 1) := by decide +kernel
theorem dN_Packed_get_0 : decode cN_Packed_get 0 = .ok (.iload_n 1, 1) := by decide +kernel
theorem dN_Packed_get_1 : decode cN_Packed_get 1 = .ok (.bipush 8, 2) := by decide +kernel
theorem dN_Packed_get_3 : decode cN_Packed_get 3 = .ok (.idiv, 1) := by decide +kernel
theorem dN_Packed_get_4 : decode cN_Packed_get 4 = .ok (.istore_n 2, 1) := by decide +kernel
theorem dN_Packed_get_5 : decode cN_Packed_get 5 = .ok (.iload_n 1, 1) := by decide +kernel
theorem dN_Packed_get_6 : decode cN_Packed_get 6 = .ok (.ifCond .lt 12, 3) := by decide +kernel
theorem dN_Packed_get_9 : decode cN_Packed_get 9 = .ok (.iload_n 2, 1) := by decide +kernel
theorem dN_Packed_get_10 : decode cN_Packed_get 10 = .ok (.aload_n 0, 1) := by decide +kernel
theorem dN_Packed_get_11 : decode cN_Packed_get 11 = .ok (.getfield 9, 3) := by decide +kernel
theorem dN_Packed_get_14 : decode cN_Packed_get 14 = .ok (.arraylength, 1) := by decide +kernel
theorem dN_Packed_get_15 : decode cN_Packed_get 15 = .ok (.if_icmp .lt 7, 3) := by decide +kernel
theorem dN_Packed_get_18 : decode cN_Packed_get 18 = .ok (.iconst 0, 1) := by decide +kernel
theorem dN_Packed_get_19 : decode cN_Packed_get 19 = .ok (.goto 22, 3) := by decide +kernel
theorem dN_Packed_get_22 : decode cN_Packed_get 22 = .ok (.aload_n 0, 1) := by decide +kernel
theorem dN_Packed_get_23 : decode cN_Packed_get 23 = .ok (.getfield 9, 3) := by decide +kernel
theorem dN_Packed_get_26 : decode cN_Packed_get 26 = .ok (.iload_n 2, 1) := by decide +kernel
theorem dN_Packed_get_27 : decode cN_Packed_get 27 = .ok (.laload, 1) := by decide +kernel
theorem dN_Packed_get_28 : decode cN_Packed_get 28 = .ok (.iload_n 1, 1) := by decide +kernel
theorem dN_Packed_get_29 : decode cN_Packed_get 29 = .ok (.bipush 8, 2) := by decide +kernel
theorem dN_Packed_get_31 : decode cN_Packed_get 31 = .ok (.irem, 1) := by decide +kernel
theorem dN_Packed_get_32 : decode cN_Packed_get 32 = .ok (.bipush 8, 2) := by decide +kernel
theorem dN_Packed_get_34 : decode cN_Packed_get 34 = .ok (.imul, 1) := by decide +kernel
theorem dN_Packed_get_35 : decode cN_Packed_get 35 = .ok (.lushr, 1) := by decide +kernel
theorem dN_Packed_get_36 : decode cN_Packed_get 36 = .ok (.ldc2_w 13, 3) := by decide +kernel
theorem dN_Packed_get_39 : decode cN_Packed_get 39 = .ok (.land, 1) := by decide +kernel
theorem dN_Packed_get_40 : decode cN_Packed_get 40 = .ok (.l2i, 1) := by decide +kernel
theorem dN_Packed_get_41 : decode cN_Packed_get 41 = .ok (.ireturn, 1) := by decide +kernel
theorem dN_Packed_set_0 : decode cN_Packed_set 0 = .ok (.iload_n 1, 1) := by decide +kernel
theorem dN_Packed_set_1 : decode cN_Packed_set 1 = .ok (.bipush 8, 2) := by decide +kernel
theorem dN_Packed_set_3 : decode cN_Packed_set 3 = .ok (.idiv, 1) := by decide +kernel
theorem dN_Packed_set_4 : decode cN_Packed_set 4 = .ok (.istore_n 3, 1) := by decide +kernel
theorem dN_Packed_set_5 : decode cN_Packed_set 5 = .ok (.iload_n 1, 1) := by decide +kernel
theorem dN_Packed_set_6 : decode cN_Packed_set 6 = .ok (.ifCond .lt 54, 3) := by decide +kernel
theorem dN_Packed_set_9 : decode cN_Packed_set 9 = .ok (.iload_n 3, 1) := by decide +kernel
theorem dN_Packed_set_10 : decode cN_Packed_set 10 = .ok (.aload_n 0, 1) := by decide +kernel
theorem dN_Packed_set_11 : decode cN_Packed_set 11 = .ok (.getfield 9, 3) := by decide +kernel
theorem dN_Packed_set_14 : decode cN_Packed_set 14 = .ok (.arraylength, 1) := by decide +kernel
theorem dN_Packed_set_15 : decode cN_Packed_set 15 = .ok (.if_icmp .ge 45, 3) := by decide +kernel
theorem dN_Packed_set_18 : decode cN_Packed_set 18 = .ok (.iload_n 1, 1) := by decide +kernel
theorem dN_Packed_set_19 : decode cN_Packed_set 19 = .ok (.bipush 8, 2) := by decide +kernel
theorem dN_Packed_set_21 : decode cN_Packed_set 21 = .ok (.irem, 1) := by decide +kernel
theorem dN_Packed_set_22 : decode cN_Packed_set 22 = .ok (.bipush 8, 2) := by decide +kernel
theorem dN_Packed_set_24 : decode cN_Packed_set 24 = .ok (.imul, 1) := by decide +kernel
theorem dN_Packed_set_25 : decode cN_Packed_set 25 = .ok (.istore 4, 2) := by decide +kernel
theorem dN_Packed_set_27 : decode cN_Packed_set 27 = .ok (.aload_n 0, 1) := by decide +kernel
theorem dN_Packed_set_28 : decode cN_Packed_set 28 = .ok (.getfield 9, 3) := by decide +kernel
theorem dN_Packed_set_31 : decode cN_Packed_set 31 = .ok (.iload_n 3, 1) := by decide +kernel
theorem dN_Packed_set_32 : decode cN_Packed_set 32 = .ok (.aload_n 0, 1) := by decide +kernel
theorem dN_Packed_set_33 : decode cN_Packed_set 33 = .ok (.getfield 9, 3) := by decide +kernel
theorem dN_Packed_set_36 : decode cN_Packed_set 36 = .ok (.iload_n 3, 1) := by decide +kernel
theorem dN_Packed_set_37 : decode cN_Packed_set 37 = .ok (.laload, 1) := by decide +kernel
theorem dN_Packed_set_38 : decode cN_Packed_set 38 = .ok (.ldc2_w 13, 3) := by decide +kernel
theorem dN_Packed_set_41 : decode cN_Packed_set 41 = .ok (.iload 4, 2) := by decide +kernel
theorem dN_Packed_set_43 : decode cN_Packed_set 43 = .ok (.lshl, 1) := by decide +kernel
theorem dN_Packed_set_44 : decode cN_Packed_set 44 = .ok (.ldc2_w 15, 3) := by decide +kernel
theorem dN_Packed_set_47 : decode cN_Packed_set 47 = .ok (.lxor, 1) := by decide +kernel
theorem dN_Packed_set_48 : decode cN_Packed_set 48 = .ok (.land, 1) := by decide +kernel
theorem dN_Packed_set_49 : decode cN_Packed_set 49 = .ok (.iload_n 2, 1) := by decide +kernel
theorem dN_Packed_set_50 : decode cN_Packed_set 50 = .ok (.i2l, 1) := by decide +kernel
theorem dN_Packed_set_51 : decode cN_Packed_set 51 = .ok (.ldc2_w 13, 3) := by decide +kernel
theorem dN_Packed_set_54 : decode cN_Packed_set 54 = .ok (.land, 1) := by decide +kernel
theorem dN_Packed_set_55 : decode cN_Packed_set 55 = .ok (.iload 4, 2) := by decide +kernel
theorem dN_Packed_set_57 : decode cN_Packed_set 57 = .ok (.lshl, 1) := by decide +kernel
theorem dN_Packed_set_58 : decode cN_Packed_set 58 = .ok (.lor, 1) := by decide +kernel
theorem dN_Packed_set_59 : decode cN_Packed_set 59 = .ok (.lastore, 1) := by decide +kernel
theorem dN_Packed_set_60 : decode cN_Packed_set 60 = .ok (.return_, 1) := by decide +kernel
theorem dN_Packed_wipe_0 : decode cN_Packed_wipe 0 = .ok (.iload_n 1, 1) := by decide +kernel
theorem dN_Packed_wipe_1 : decode cN_Packed_wipe 1 = .ok (.iload_n 2, 1) := by decide +kernel
theorem dN_Packed_wipe_2 : decode cN_Packed_wipe 2 = .ok (.iadd, 1) := by decide +kernel
theorem dN_Packed_wipe_3 : decode cN_Packed_wipe 3 = .ok (.bipush 8, 2) := by decide +kernel
theorem dN_Packed_wipe_5 : decode cN_Packed_wipe 5 = .ok (.idiv, 1) := by decide +kernel
theorem dN_Packed_wipe_6 : decode cN_Packed_wipe 6 = .ok (.istore_n 3, 1) := by decide +kernel
theorem dN_Packed_wipe_7 : decode cN_Packed_wipe 7 = .ok (.iload_n 1, 1) := by decide +kernel
theorem dN_Packed_wipe_8 : decode cN_Packed_wipe 8 = .ok (.bipush 8, 2) := by decide +kernel
theorem dN_Packed_wipe_10 : decode cN_Packed_wipe 10 = .ok (.idiv, 1) := by decide +kernel
theorem dN_Packed_wipe_11 : decode cN_Packed_wipe 11 = .ok (.istore 4, 2) := by decide +kernel
theorem dN_Packed_wipe_13 : decode cN_Packed_wipe 13 = .ok (.iload 4, 2) := by decide +kernel
theorem dN_Packed_wipe_15 : decode cN_Packed_wipe 15 = .ok (.ifCond .lt 33, 3) := by decide +kernel
theorem dN_Packed_wipe_18 : decode cN_Packed_wipe 18 = .ok (.iload 4, 2) := by decide +kernel
theorem dN_Packed_wipe_20 : decode cN_Packed_wipe 20 = .ok (.iload_n 3, 1) := by decide +kernel
theorem dN_Packed_wipe_21 : decode cN_Packed_wipe 21 = .ok (.if_icmp .ge 27, 3) := by decide +kernel
theorem dN_Packed_wipe_24 : decode cN_Packed_wipe 24 = .ok (.iload 4, 2) := by decide +kernel
theorem dN_Packed_wipe_26 : decode cN_Packed_wipe 26 = .ok (.aload_n 0, 1) := by decide +kernel
theorem dN_Packed_wipe_27 : decode cN_Packed_wipe 27 = .ok (.getfield 9, 3) := by decide +kernel
theorem dN_Packed_wipe_30 : decode cN_Packed_wipe 30 = .ok (.arraylength, 1) := by decide +kernel
theorem dN_Packed_wipe_31 : decode cN_Packed_wipe 31 = .ok (.if_icmp .ge 17, 3) := by decide +kernel
theorem dN_Packed_wipe_34 : decode cN_Packed_wipe 34 = .ok (.aload_n 0, 1) := by decide +kernel
theorem dN_Packed_wipe_35 : decode cN_Packed_wipe 35 = .ok (.getfield 9, 3) := by decide +kernel
theorem dN_Packed_wipe_38 : decode cN_Packed_wipe 38 = .ok (.iload 4, 2) := by decide +kernel
theorem dN_Packed_wipe_40 : decode cN_Packed_wipe 40 = .ok (.lconst 0, 1) := by decide +kernel
theorem dN_Packed_wipe_41 : decode cN_Packed_wipe 41 = .ok (.lastore, 1) := by decide +kernel
theorem dN_Packed_wipe_42 : decode cN_Packed_wipe 42 = .ok (.iinc 4 1, 3) := by decide +kernel
theorem dN_Packed_wipe_45 : decode cN_Packed_wipe 45 = .ok (.goto (-32), 3) := by decide +kernel
theorem dN_Packed_wipe_48 : decode cN_Packed_wipe 48 = .ok (.return_, 1) := by decide +kernel
