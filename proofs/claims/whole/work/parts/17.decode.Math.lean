theorem dN_Math_floorMod_0 : decode cN_Math_floorMod 0 = .ok (.iload_n 0, 1) := by decide +kernel
theorem dN_Math_floorMod_1 : decode cN_Math_floorMod 1 = .ok (.iload_n 1, 1) := by decide +kernel
theorem dN_Math_floorMod_2 : decode cN_Math_floorMod 2 = .ok (.irem, 1) := by decide +kernel
theorem dN_Math_floorMod_3 : decode cN_Math_floorMod 3 = .ok (.istore_n 2, 1) := by decide +kernel
theorem dN_Math_floorMod_4 : decode cN_Math_floorMod 4 = .ok (.iload_n 0, 1) := by decide +kernel
theorem dN_Math_floorMod_5 : decode cN_Math_floorMod 5 = .ok (.iload_n 1, 1) := by decide +kernel
theorem dN_Math_floorMod_6 : decode cN_Math_floorMod 6 = .ok (.ixor, 1) := by decide +kernel
theorem dN_Math_floorMod_7 : decode cN_Math_floorMod 7 = .ok (.ifCond .ge 11, 3) := by decide +kernel
theorem dN_Math_floorMod_10 : decode cN_Math_floorMod 10 = .ok (.iload_n 2, 1) := by decide +kernel
theorem dN_Math_floorMod_11 : decode cN_Math_floorMod 11 = .ok (.ifCond .eq 7, 3) := by decide +kernel
theorem dN_Math_floorMod_14 : decode cN_Math_floorMod 14 = .ok (.iload_n 2, 1) := by decide +kernel
theorem dN_Math_floorMod_15 : decode cN_Math_floorMod 15 = .ok (.iload_n 1, 1) := by decide +kernel
theorem dN_Math_floorMod_16 : decode cN_Math_floorMod 16 = .ok (.iadd, 1) := by decide +kernel
theorem dN_Math_floorMod_17 : decode cN_Math_floorMod 17 = .ok (.ireturn, 1) := by decide +kernel
theorem dN_Math_floorMod_18 : decode cN_Math_floorMod 18 = .ok (.iload_n 2, 1) := by decide +kernel
theorem dN_Math_floorMod_19 : decode cN_Math_floorMod 19 = .ok (.ireturn, 1) := by decide +kernel
