-- ===== PART A: goes FIRST, ahead of the names: the tables' words, and 'selects' of the private methods out of them =====
/-- a private method of a class that the tables say can be made, by its rows of tables_1 -/
def lw_okq (q : MethodName × Nat) : Prop := (q.1.cls ≠ "java/lang/invoke/MethodHandle" ∧ q.1.cls ≠ "java/lang/invoke/VarHandle") ∧ Cond.instantiable q.1.cls q.2 ∈ tables_1 ∧ Cond.privateMethod q.1 ∈ tables_1 ∧ Cond.instanceMethod q.1 ∈ tables_1
theorem lw_p0 : lw_okq (⟨"StepMachines$Table", "make", "()V"⟩, 15) := ⟨⟨by decide +kernel, by decide +kernel⟩, List.mem_of_getElem? (i := 188) (by decide +kernel), List.mem_of_getElem? (i := 377) (by decide +kernel), List.mem_of_getElem? (i := 378) (by decide +kernel)⟩
theorem lw_p1 : lw_okq (⟨"StepMachines$Table", "rowFor", "(I)I"⟩, 15) := ⟨⟨by decide +kernel, by decide +kernel⟩, List.mem_of_getElem? (i := 188) (by decide +kernel), List.mem_of_getElem? (i := 386) (by decide +kernel), List.mem_of_getElem? (i := 387) (by decide +kernel)⟩
theorem lw_p2 : lw_okq (⟨"StepMachines$Table", "makeRow", "(I)Z"⟩, 15) := ⟨⟨by decide +kernel, by decide +kernel⟩, List.mem_of_getElem? (i := 188) (by decide +kernel), List.mem_of_getElem? (i := 394) (by decide +kernel), List.mem_of_getElem? (i := 395) (by decide +kernel)⟩
theorem lw_p3 : lw_okq (⟨"StepMachines$Table", "later", "(II)V"⟩, 15) := ⟨⟨by decide +kernel, by decide +kernel⟩, List.mem_of_getElem? (i := 188) (by decide +kernel), List.mem_of_getElem? (i := 406) (by decide +kernel), List.mem_of_getElem? (i := 407) (by decide +kernel)⟩
theorem lw_p4 : lw_okq (⟨"StepMachines$Table", "walk", "(III)Z"⟩, 15) := ⟨⟨by decide +kernel, by decide +kernel⟩, List.mem_of_getElem? (i := 188) (by decide +kernel), List.mem_of_getElem? (i := 433) (by decide +kernel), List.mem_of_getElem? (i := 434) (by decide +kernel)⟩
theorem lw_p5 : lw_okq (⟨"StepMachines$Table", "takeBytes", "(III)Z"⟩, 15) := ⟨⟨by decide +kernel, by decide +kernel⟩, List.mem_of_getElem? (i := 188) (by decide +kernel), List.mem_of_getElem? (i := 446) (by decide +kernel), List.mem_of_getElem? (i := 447) (by decide +kernel)⟩
theorem lw_p6 : lw_okq (⟨"java/lang/Throwable", "fillInStackTrace", "(I)Ljava/lang/Throwable;"⟩, 6) := ⟨⟨by decide +kernel, by decide +kernel⟩, List.mem_of_getElem? (i := 510) (by decide +kernel), List.mem_of_getElem? (i := 508) (by decide +kernel), List.mem_of_getElem? (i := 509) (by decide +kernel)⟩
theorem lw_p7 : lw_okq (⟨"StepMachines", "forgetWhatWasMade", "()V"⟩, 8) := ⟨⟨by decide +kernel, by decide +kernel⟩, List.mem_of_getElem? (i := 23) (by decide +kernel), List.mem_of_getElem? (i := 552) (by decide +kernel), List.mem_of_getElem? (i := 553) (by decide +kernel)⟩
theorem lw_p8 : lw_okq (⟨"StepMachines", "isQuestion", "(II)Z"⟩, 8) := ⟨⟨by decide +kernel, by decide +kernel⟩, List.mem_of_getElem? (i := 23) (by decide +kernel), List.mem_of_getElem? (i := 622) (by decide +kernel), List.mem_of_getElem? (i := 623) (by decide +kernel)⟩
theorem lw_p9 : lw_okq (⟨"StepMachines$Marks", "wipe", "()V"⟩, 7) := ⟨⟨by decide +kernel, by decide +kernel⟩, List.mem_of_getElem? (i := 157) (by decide +kernel), List.mem_of_getElem? (i := 635) (by decide +kernel), List.mem_of_getElem? (i := 636) (by decide +kernel)⟩
theorem lw_p10 : lw_okq (⟨"StepMachines$Marks", "tryFrom", "(IIZ)V"⟩, 7) := ⟨⟨by decide +kernel, by decide +kernel⟩, List.mem_of_getElem? (i := 157) (by decide +kernel), List.mem_of_getElem? (i := 645) (by decide +kernel), List.mem_of_getElem? (i := 646) (by decide +kernel)⟩
theorem lw_p11 : lw_okq (⟨"StepMachines$Marks", "visit", "(III)V"⟩, 7) := ⟨⟨by decide +kernel, by decide +kernel⟩, List.mem_of_getElem? (i := 157) (by decide +kernel), List.mem_of_getElem? (i := 672) (by decide +kernel), List.mem_of_getElem? (i := 673) (by decide +kernel)⟩
theorem lw_p12 : lw_okq (⟨"StepMachines$Marks", "isNew", "(II)Z"⟩, 7) := ⟨⟨by decide +kernel, by decide +kernel⟩, List.mem_of_getElem? (i := 157) (by decide +kernel), List.mem_of_getElem? (i := 677) (by decide +kernel), List.mem_of_getElem? (i := 678) (by decide +kernel)⟩
theorem lw_p13 : lw_okq (⟨"StepMachines$Marks", "end", "(II)V"⟩, 7) := ⟨⟨by decide +kernel, by decide +kernel⟩, List.mem_of_getElem? (i := 157) (by decide +kernel), List.mem_of_getElem? (i := 683) (by decide +kernel), List.mem_of_getElem? (i := 684) (by decide +kernel)⟩
theorem lw_p14 : lw_okq (⟨"StepMachines$Table", "endHere", "(III)Z"⟩, 15) := ⟨⟨by decide +kernel, by decide +kernel⟩, List.mem_of_getElem? (i := 188) (by decide +kernel), List.mem_of_getElem? (i := 728) (by decide +kernel), List.mem_of_getElem? (i := 729) (by decide +kernel)⟩
theorem lw_p15 : lw_okq (⟨"StepMachines$Table", "allHold", "(II)Z"⟩, 15) := ⟨⟨by decide +kernel, by decide +kernel⟩, List.mem_of_getElem? (i := 188) (by decide +kernel), List.mem_of_getElem? (i := 733) (by decide +kernel), List.mem_of_getElem? (i := 734) (by decide +kernel)⟩
def lw_privs_1 : List (MethodName × Nat) := [(⟨"StepMachines$Table", "make", "()V"⟩, 15), (⟨"StepMachines$Table", "rowFor", "(I)I"⟩, 15), (⟨"StepMachines$Table", "makeRow", "(I)Z"⟩, 15), (⟨"StepMachines$Table", "later", "(II)V"⟩, 15), (⟨"StepMachines$Table", "walk", "(III)Z"⟩, 15), (⟨"StepMachines$Table", "takeBytes", "(III)Z"⟩, 15), (⟨"java/lang/Throwable", "fillInStackTrace", "(I)Ljava/lang/Throwable;"⟩, 6), (⟨"StepMachines", "forgetWhatWasMade", "()V"⟩, 8), (⟨"StepMachines", "isQuestion", "(II)Z"⟩, 8), (⟨"StepMachines$Marks", "wipe", "()V"⟩, 7), (⟨"StepMachines$Marks", "tryFrom", "(IIZ)V"⟩, 7), (⟨"StepMachines$Marks", "visit", "(III)V"⟩, 7), (⟨"StepMachines$Marks", "isNew", "(II)Z"⟩, 7), (⟨"StepMachines$Marks", "end", "(II)V"⟩, 7), (⟨"StepMachines$Table", "endHere", "(III)Z"⟩, 15), (⟨"StepMachines$Table", "allHold", "(II)Z"⟩, 15)]
theorem lw_r1 : ∀ q ∈ lw_privs_1, lw_okq q := List.forall_mem_cons.mpr ⟨lw_p0, List.forall_mem_cons.mpr ⟨lw_p1, List.forall_mem_cons.mpr ⟨lw_p2, List.forall_mem_cons.mpr ⟨lw_p3, List.forall_mem_cons.mpr ⟨lw_p4, List.forall_mem_cons.mpr ⟨lw_p5, List.forall_mem_cons.mpr ⟨lw_p6, List.forall_mem_cons.mpr ⟨lw_p7, List.forall_mem_cons.mpr ⟨lw_p8, List.forall_mem_cons.mpr ⟨lw_p9, List.forall_mem_cons.mpr ⟨lw_p10, List.forall_mem_cons.mpr ⟨lw_p11, List.forall_mem_cons.mpr ⟨lw_p12, List.forall_mem_cons.mpr ⟨lw_p13, List.forall_mem_cons.mpr ⟨lw_p14, List.forall_mem_cons.mpr ⟨lw_p15, fun _ h => absurd h List.not_mem_nil⟩⟩⟩⟩⟩⟩⟩⟩⟩⟩⟩⟩⟩⟩⟩⟩
theorem lw_p16 : lw_okq (⟨"StepMachines$Threads", "beginThread", "(I)V"⟩, 11) := ⟨⟨by decide +kernel, by decide +kernel⟩, List.mem_of_getElem? (i := 84) (by decide +kernel), List.mem_of_getElem? (i := 749) (by decide +kernel), List.mem_of_getElem? (i := 750) (by decide +kernel)⟩
theorem lw_p17 : lw_okq (⟨"StepMachines$Threads", "comeTo", "(IILStepMachines$Row;[I)V"⟩, 11) := ⟨⟨by decide +kernel, by decide +kernel⟩, List.mem_of_getElem? (i := 84) (by decide +kernel), List.mem_of_getElem? (i := 756) (by decide +kernel), List.mem_of_getElem? (i := 757) (by decide +kernel)⟩
theorem lw_p18 : lw_okq (⟨"StepMachines$Threads", "visit", "(IILStepMachines$Row;[I)V"⟩, 11) := ⟨⟨by decide +kernel, by decide +kernel⟩, List.mem_of_getElem? (i := 84) (by decide +kernel), List.mem_of_getElem? (i := 767) (by decide +kernel), List.mem_of_getElem? (i := 768) (by decide +kernel)⟩
theorem lw_p19 : lw_okq (⟨"StepMachines$Threads", "writeSaved", "(I[I)V"⟩, 11) := ⟨⟨by decide +kernel, by decide +kernel⟩, List.mem_of_getElem? (i := 84) (by decide +kernel), List.mem_of_getElem? (i := 779) (by decide +kernel), List.mem_of_getElem? (i := 780) (by decide +kernel)⟩
theorem lw_p20 : lw_okq (⟨"StepMachines$Threads", "goOverByte", "(IZI)V"⟩, 11) := ⟨⟨by decide +kernel, by decide +kernel⟩, List.mem_of_getElem? (i := 84) (by decide +kernel), List.mem_of_getElem? (i := 788) (by decide +kernel), List.mem_of_getElem? (i := 789) (by decide +kernel)⟩
theorem lw_p21 : lw_okq (⟨"StepMachines$Threads", "beginningOf", "(I)I"⟩, 11) := ⟨⟨by decide +kernel, by decide +kernel⟩, List.mem_of_getElem? (i := 84) (by decide +kernel), List.mem_of_getElem? (i := 801) (by decide +kernel), List.mem_of_getElem? (i := 802) (by decide +kernel)⟩
theorem lw_p22 : lw_okq (⟨"StepMachines$Threads", "readSaved", "(I[I)V"⟩, 11) := ⟨⟨by decide +kernel, by decide +kernel⟩, List.mem_of_getElem? (i := 84) (by decide +kernel), List.mem_of_getElem? (i := 806) (by decide +kernel), List.mem_of_getElem? (i := 807) (by decide +kernel)⟩
theorem lw_p23 : lw_okq (⟨"StepMachines$Threads", "swapRows", "()V"⟩, 11) := ⟨⟨by decide +kernel, by decide +kernel⟩, List.mem_of_getElem? (i := 84) (by decide +kernel), List.mem_of_getElem? (i := 811) (by decide +kernel), List.mem_of_getElem? (i := 812) (by decide +kernel)⟩
theorem lw_p24 : lw_okq (⟨"StepMachines", "mostTaken", "()I"⟩, 8) := ⟨⟨by decide +kernel, by decide +kernel⟩, List.mem_of_getElem? (i := 23) (by decide +kernel), List.mem_of_getElem? (i := 815) (by decide +kernel), List.mem_of_getElem? (i := 816) (by decide +kernel)⟩
theorem lw_p25 : lw_okq (⟨"StepMachines$States", "firstState", "(II)I"⟩, 8) := ⟨⟨by decide +kernel, by decide +kernel⟩, List.mem_of_getElem? (i := 244) (by decide +kernel), List.mem_of_getElem? (i := 840) (by decide +kernel), List.mem_of_getElem? (i := 841) (by decide +kernel)⟩
theorem lw_p26 : lw_okq (⟨"StepMachines$Kept", "isSame", "(ILStepMachines$Row;I)Z"⟩, 7) := ⟨⟨by decide +kernel, by decide +kernel⟩, List.mem_of_getElem? (i := 250) (by decide +kernel), List.mem_of_getElem? (i := 862) (by decide +kernel), List.mem_of_getElem? (i := 863) (by decide +kernel)⟩
theorem lw_p27 : lw_okq (⟨"StepMachines$Kept", "add", "(LStepMachines$Row;II)V"⟩, 7) := ⟨⟨by decide +kernel, by decide +kernel⟩, List.mem_of_getElem? (i := 250) (by decide +kernel), List.mem_of_getElem? (i := 876) (by decide +kernel), List.mem_of_getElem? (i := 877) (by decide +kernel)⟩
theorem lw_p28 : lw_okq (⟨"StepMachines$States", "moveFrom", "(II)I"⟩, 8) := ⟨⟨by decide +kernel, by decide +kernel⟩, List.mem_of_getElem? (i := 244) (by decide +kernel), List.mem_of_getElem? (i := 890) (by decide +kernel), List.mem_of_getElem? (i := 891) (by decide +kernel)⟩
theorem lw_p29 : lw_okq (⟨"StepMachines$States", "goOver", "(III)Z"⟩, 8) := ⟨⟨by decide +kernel, by decide +kernel⟩, List.mem_of_getElem? (i := 244) (by decide +kernel), List.mem_of_getElem? (i := 907) (by decide +kernel), List.mem_of_getElem? (i := 908) (by decide +kernel)⟩
theorem lw_p30 : lw_okq (⟨"StepMachines$States", "follow", "(III)Z"⟩, 8) := ⟨⟨by decide +kernel, by decide +kernel⟩, List.mem_of_getElem? (i := 244) (by decide +kernel), List.mem_of_getElem? (i := 920) (by decide +kernel), List.mem_of_getElem? (i := 921) (by decide +kernel)⟩
theorem lw_p31 : lw_okq (⟨"StepMachines$States", "visit", "(II)V"⟩, 8) := ⟨⟨by decide +kernel, by decide +kernel⟩, List.mem_of_getElem? (i := 244) (by decide +kernel), List.mem_of_getElem? (i := 930) (by decide +kernel), List.mem_of_getElem? (i := 931) (by decide +kernel)⟩
def lw_privs_2 : List (MethodName × Nat) := [(⟨"StepMachines$Threads", "beginThread", "(I)V"⟩, 11), (⟨"StepMachines$Threads", "comeTo", "(IILStepMachines$Row;[I)V"⟩, 11), (⟨"StepMachines$Threads", "visit", "(IILStepMachines$Row;[I)V"⟩, 11), (⟨"StepMachines$Threads", "writeSaved", "(I[I)V"⟩, 11), (⟨"StepMachines$Threads", "goOverByte", "(IZI)V"⟩, 11), (⟨"StepMachines$Threads", "beginningOf", "(I)I"⟩, 11), (⟨"StepMachines$Threads", "readSaved", "(I[I)V"⟩, 11), (⟨"StepMachines$Threads", "swapRows", "()V"⟩, 11), (⟨"StepMachines", "mostTaken", "()I"⟩, 8), (⟨"StepMachines$States", "firstState", "(II)I"⟩, 8), (⟨"StepMachines$Kept", "isSame", "(ILStepMachines$Row;I)Z"⟩, 7), (⟨"StepMachines$Kept", "add", "(LStepMachines$Row;II)V"⟩, 7), (⟨"StepMachines$States", "moveFrom", "(II)I"⟩, 8), (⟨"StepMachines$States", "goOver", "(III)Z"⟩, 8), (⟨"StepMachines$States", "follow", "(III)Z"⟩, 8), (⟨"StepMachines$States", "visit", "(II)V"⟩, 8)]
theorem lw_r2 : ∀ q ∈ lw_privs_2, lw_okq q := List.forall_mem_cons.mpr ⟨lw_p16, List.forall_mem_cons.mpr ⟨lw_p17, List.forall_mem_cons.mpr ⟨lw_p18, List.forall_mem_cons.mpr ⟨lw_p19, List.forall_mem_cons.mpr ⟨lw_p20, List.forall_mem_cons.mpr ⟨lw_p21, List.forall_mem_cons.mpr ⟨lw_p22, List.forall_mem_cons.mpr ⟨lw_p23, List.forall_mem_cons.mpr ⟨lw_p24, List.forall_mem_cons.mpr ⟨lw_p25, List.forall_mem_cons.mpr ⟨lw_p26, List.forall_mem_cons.mpr ⟨lw_p27, List.forall_mem_cons.mpr ⟨lw_p28, List.forall_mem_cons.mpr ⟨lw_p29, List.forall_mem_cons.mpr ⟨lw_p30, List.forall_mem_cons.mpr ⟨lw_p31, fun _ h => absurd h List.not_mem_nil⟩⟩⟩⟩⟩⟩⟩⟩⟩⟩⟩⟩⟩⟩⟩⟩
theorem lw_p32 : lw_okq (⟨"StepMachinesModel", "isStep", "(I)Z"⟩, 25) := ⟨⟨by decide +kernel, by decide +kernel⟩, List.mem_of_getElem? (i := 966) (by decide +kernel), List.mem_of_getElem? (i := 1062) (by decide +kernel), List.mem_of_getElem? (i := 1063) (by decide +kernel)⟩
theorem lw_p33 : lw_okq (⟨"StepMachinesModel", "isGood", "(II)Z"⟩, 25) := ⟨⟨by decide +kernel, by decide +kernel⟩, List.mem_of_getElem? (i := 966) (by decide +kernel), List.mem_of_getElem? (i := 1084) (by decide +kernel), List.mem_of_getElem? (i := 1085) (by decide +kernel)⟩
theorem lw_p34 : lw_okq (⟨"StepMachinesModel", "find", "(IZI)I"⟩, 25) := ⟨⟨by decide +kernel, by decide +kernel⟩, List.mem_of_getElem? (i := 966) (by decide +kernel), List.mem_of_getElem? (i := 1088) (by decide +kernel), List.mem_of_getElem? (i := 1089) (by decide +kernel)⟩
theorem lw_p35 : lw_okq (⟨"StepMachinesModel", "note", "(IIZ)V"⟩, 25) := ⟨⟨by decide +kernel, by decide +kernel⟩, List.mem_of_getElem? (i := 966) (by decide +kernel), List.mem_of_getElem? (i := 1092) (by decide +kernel), List.mem_of_getElem? (i := 1093) (by decide +kernel)⟩
theorem lw_p36 : lw_okq (⟨"StepMachinesModel", "takes", "(II)Z"⟩, 25) := ⟨⟨by decide +kernel, by decide +kernel⟩, List.mem_of_getElem? (i := 966) (by decide +kernel), List.mem_of_getElem? (i := 1096) (by decide +kernel), List.mem_of_getElem? (i := 1097) (by decide +kernel)⟩
theorem lw_p37 : lw_okq (⟨"StepMachinesModel", "passes", "(II)Z"⟩, 25) := ⟨⟨by decide +kernel, by decide +kernel⟩, List.mem_of_getElem? (i := 966) (by decide +kernel), List.mem_of_getElem? (i := 1100) (by decide +kernel), List.mem_of_getElem? (i := 1101) (by decide +kernel)⟩
theorem lw_p38 : lw_okq (⟨"StepMachinesModel", "isSo", "(II)Z"⟩, 25) := ⟨⟨by decide +kernel, by decide +kernel⟩, List.mem_of_getElem? (i := 966) (by decide +kernel), List.mem_of_getElem? (i := 1104) (by decide +kernel), List.mem_of_getElem? (i := 1105) (by decide +kernel)⟩
theorem lw_p39 : lw_okq (⟨"StepMachinesModel", "wordAt", "(I)Z"⟩, 25) := ⟨⟨by decide +kernel, by decide +kernel⟩, List.mem_of_getElem? (i := 966) (by decide +kernel), List.mem_of_getElem? (i := 1108) (by decide +kernel), List.mem_of_getElem? (i := 1109) (by decide +kernel)⟩
theorem lw_p40 : lw_okq (⟨"StepMachinesModel", "lastEnd", "(I)I"⟩, 25) := ⟨⟨by decide +kernel, by decide +kernel⟩, List.mem_of_getElem? (i := 966) (by decide +kernel), List.mem_of_getElem? (i := 1112) (by decide +kernel), List.mem_of_getElem? (i := 1113) (by decide +kernel)⟩
theorem lw_p41 : lw_okq (⟨"StepMachinesModel", "walk", "(II)I"⟩, 25) := ⟨⟨by decide +kernel, by decide +kernel⟩, List.mem_of_getElem? (i := 966) (by decide +kernel), List.mem_of_getElem? (i := 1116) (by decide +kernel), List.mem_of_getElem? (i := 1117) (by decide +kernel)⟩
theorem lw_p42 : lw_okq (⟨"StepMachinesModel", "heap", "(I)V"⟩, 25) := ⟨⟨by decide +kernel, by decide +kernel⟩, List.mem_of_getElem? (i := 966) (by decide +kernel), List.mem_of_getElem? (i := 1120) (by decide +kernel), List.mem_of_getElem? (i := 1121) (by decide +kernel)⟩
theorem lw_p43 : lw_okq (⟨"StepMachinesModel", "undo", "(I)V"⟩, 25) := ⟨⟨by decide +kernel, by decide +kernel⟩, List.mem_of_getElem? (i := 966) (by decide +kernel), List.mem_of_getElem? (i := 1124) (by decide +kernel), List.mem_of_getElem? (i := 1125) (by decide +kernel)⟩
theorem lw_p44 : lw_okq (⟨"StepMachinesModel", "start", "(I)V"⟩, 25) := ⟨⟨by decide +kernel, by decide +kernel⟩, List.mem_of_getElem? (i := 966) (by decide +kernel), List.mem_of_getElem? (i := 1144) (by decide +kernel), List.mem_of_getElem? (i := 1145) (by decide +kernel)⟩
theorem lw_p45 : lw_okq (⟨"StepMachinesModel", "spreads", "(I)Z"⟩, 25) := ⟨⟨by decide +kernel, by decide +kernel⟩, List.mem_of_getElem? (i := 966) (by decide +kernel), List.mem_of_getElem? (i := 1148) (by decide +kernel), List.mem_of_getElem? (i := 1149) (by decide +kernel)⟩
theorem lw_p46 : lw_okq (⟨"StepMachinesModel", "isWaiting", "(I)Z"⟩, 25) := ⟨⟨by decide +kernel, by decide +kernel⟩, List.mem_of_getElem? (i := 966) (by decide +kernel), List.mem_of_getElem? (i := 1152) (by decide +kernel), List.mem_of_getElem? (i := 1153) (by decide +kernel)⟩
theorem lw_p47 : lw_okq (⟨"StepMachinesModel", "hold", "(III)V"⟩, 25) := ⟨⟨by decide +kernel, by decide +kernel⟩, List.mem_of_getElem? (i := 966) (by decide +kernel), List.mem_of_getElem? (i := 1156) (by decide +kernel), List.mem_of_getElem? (i := 1157) (by decide +kernel)⟩
def lw_privs_3 : List (MethodName × Nat) := [(⟨"StepMachinesModel", "isStep", "(I)Z"⟩, 25), (⟨"StepMachinesModel", "isGood", "(II)Z"⟩, 25), (⟨"StepMachinesModel", "find", "(IZI)I"⟩, 25), (⟨"StepMachinesModel", "note", "(IIZ)V"⟩, 25), (⟨"StepMachinesModel", "takes", "(II)Z"⟩, 25), (⟨"StepMachinesModel", "passes", "(II)Z"⟩, 25), (⟨"StepMachinesModel", "isSo", "(II)Z"⟩, 25), (⟨"StepMachinesModel", "wordAt", "(I)Z"⟩, 25), (⟨"StepMachinesModel", "lastEnd", "(I)I"⟩, 25), (⟨"StepMachinesModel", "walk", "(II)I"⟩, 25), (⟨"StepMachinesModel", "heap", "(I)V"⟩, 25), (⟨"StepMachinesModel", "undo", "(I)V"⟩, 25), (⟨"StepMachinesModel", "start", "(I)V"⟩, 25), (⟨"StepMachinesModel", "spreads", "(I)Z"⟩, 25), (⟨"StepMachinesModel", "isWaiting", "(I)Z"⟩, 25), (⟨"StepMachinesModel", "hold", "(III)V"⟩, 25)]
theorem lw_r3 : ∀ q ∈ lw_privs_3, lw_okq q := List.forall_mem_cons.mpr ⟨lw_p32, List.forall_mem_cons.mpr ⟨lw_p33, List.forall_mem_cons.mpr ⟨lw_p34, List.forall_mem_cons.mpr ⟨lw_p35, List.forall_mem_cons.mpr ⟨lw_p36, List.forall_mem_cons.mpr ⟨lw_p37, List.forall_mem_cons.mpr ⟨lw_p38, List.forall_mem_cons.mpr ⟨lw_p39, List.forall_mem_cons.mpr ⟨lw_p40, List.forall_mem_cons.mpr ⟨lw_p41, List.forall_mem_cons.mpr ⟨lw_p42, List.forall_mem_cons.mpr ⟨lw_p43, List.forall_mem_cons.mpr ⟨lw_p44, List.forall_mem_cons.mpr ⟨lw_p45, List.forall_mem_cons.mpr ⟨lw_p46, List.forall_mem_cons.mpr ⟨lw_p47, fun _ h => absurd h List.not_mem_nil⟩⟩⟩⟩⟩⟩⟩⟩⟩⟩⟩⟩⟩⟩⟩⟩
theorem lw_p48 : lw_okq (⟨"StepMachinesModel", "areAlike", "(II)Z"⟩, 25) := ⟨⟨by decide +kernel, by decide +kernel⟩, List.mem_of_getElem? (i := 966) (by decide +kernel), List.mem_of_getElem? (i := 1163) (by decide +kernel), List.mem_of_getElem? (i := 1164) (by decide +kernel)⟩
def lw_privs_4 : List (MethodName × Nat) := [(⟨"StepMachinesModel", "areAlike", "(II)Z"⟩, 25)]
theorem lw_r4 : ∀ q ∈ lw_privs_4, lw_okq q := List.forall_mem_cons.mpr ⟨lw_p48, fun _ h => absurd h List.not_mem_nil⟩
def lw_privs : List (MethodName × Nat) := lw_privs_1 ++ (lw_privs_2 ++ (lw_privs_3 ++ (lw_privs_4)))
def lw_tbl : List Cond := k2_sels lw_privs ++ tables_1
theorem lw_privs_ok : ∀ q ∈ lw_privs, lw_okq q := by
  show ∀ q ∈ lw_privs_1 ++ (lw_privs_2 ++ (lw_privs_3 ++ (lw_privs_4))), lw_okq q
  exact List.forall_mem_append.mpr ⟨lw_r1, List.forall_mem_append.mpr ⟨lw_r2, List.forall_mem_append.mpr ⟨lw_r3, lw_r4⟩⟩⟩
-- ===== names: classes, their fields in one order, methods
def RN_Jobs : String := "StepMachines$Jobs"
def FN_Jobs : u_T := fun k => match k with
  | 0 => ("StepMachines$Jobs", "fours", "[J", true)
  | _ => ("StepMachines$Jobs", "count", "I", false)
def tN_Jobs : Nat → FieldType := fun k => match k with
  | 0 => .array .long
  | _ => .int
theorem nN_Jobs : ∀ a, a < 2 → ∀ b, b < 2 → a ≠ b → (FN_Jobs a).2.1 ≠ (FN_Jobs b).2.1 := by decide +kernel
theorem oN_Jobs : ∀ k, k < 2 → parseFieldDescriptor (FN_Jobs k).2.2.1 = some (tN_Jobs k) := by decide +kernel
def RN_Kept : String := "StepMachines$Kept"
def FN_Kept : u_T := fun k => match k with
  | 0 => ("StepMachines$Kept", "steps", "LStepMachines$Packed;", true)
  | 1 => ("StepMachines$Kept", "moves", "LStepMachines$Packed;", true)
  | 2 => ("StepMachines$Kept", "counts", "[I", true)
  | 3 => ("StepMachines$Kept", "labels", "[I", true)
  | 4 => ("StepMachines$Kept", "sums", "[I", true)
  | 5 => ("StepMachines$Kept", "most", "I", false)
  | _ => ("StepMachines$Kept", "kept", "I", false)
def tN_Kept : Nat → FieldType := fun k => match k with
  | 0 => .object "StepMachines$Packed"
  | 1 => .object "StepMachines$Packed"
  | 2 => .array .int
  | 3 => .array .int
  | 4 => .array .int
  | 5 => .int
  | _ => .int
theorem nN_Kept : ∀ a, a < 7 → ∀ b, b < 7 → a ≠ b → (FN_Kept a).2.1 ≠ (FN_Kept b).2.1 := by decide +kernel
theorem oN_Kept : ∀ k, k < 7 → parseFieldDescriptor (FN_Kept k).2.2.1 = some (tN_Kept k) := by decide +kernel
def RN_Marks : String := "StepMachines$Marks"
def FN_Marks : u_T := fun k => match k with
  | 0 => ("StepMachines$Marks", "program", "LStepMachines$Program;", true)
  | 1 => ("StepMachines$Marks", "subject", "LStepMachines$Subject;", true)
  | 2 => ("StepMachines$Marks", "tally", "LStepMachines$Tally;", true)
  | 3 => ("StepMachines$Marks", "best", "[I", true)
  | 4 => ("StepMachines$Marks", "now", "[I", true)
  | 5 => ("StepMachines$Marks", "jobs", "LStepMachines$Jobs;", true)
  | _ => ("StepMachines$Marks", "tried", "[I", true)
def tN_Marks : Nat → FieldType := fun k => match k with
  | 0 => .object "StepMachines$Program"
  | 1 => .object "StepMachines$Subject"
  | 2 => .object "StepMachines$Tally"
  | 3 => .array .int
  | 4 => .array .int
  | 5 => .object "StepMachines$Jobs"
  | _ => .array .int
theorem nN_Marks : ∀ a, a < 7 → ∀ b, b < 7 → a ≠ b → (FN_Marks a).2.1 ≠ (FN_Marks b).2.1 := by decide +kernel
theorem oN_Marks : ∀ k, k < 7 → parseFieldDescriptor (FN_Marks k).2.2.1 = some (tN_Marks k) := by decide +kernel
def RN_Packed : String := "StepMachines$Packed"
def FN_Packed : u_T := fun k => match k with
  | _ => ("StepMachines$Packed", "eights", "[J", true)
def tN_Packed : Nat → FieldType := fun k => match k with
  | _ => .array .long
theorem nN_Packed : ∀ a, a < 1 → ∀ b, b < 1 → a ≠ b → (FN_Packed a).2.1 ≠ (FN_Packed b).2.1 := by decide +kernel
theorem oN_Packed : ∀ k, k < 1 → parseFieldDescriptor (FN_Packed k).2.2.1 = some (tN_Packed k) := by decide +kernel
def RN_Program : String := "StepMachines$Program"
def FN_Program : u_T := fun k => match k with
  | 0 => ("StepMachines$Program", "kinds", "[I", true)
  | 1 => ("StepMachines$Program", "values", "[I", true)
  | 2 => ("StepMachines$Program", "firsts", "[I", true)
  | 3 => ("StepMachines$Program", "seconds", "[I", true)
  | 4 => ("StepMachines$Program", "size", "I", false)
  | _ => ("StepMachines$Program", "beginning", "I", false)
def tN_Program : Nat → FieldType := fun k => match k with
  | 0 => .array .int
  | 1 => .array .int
  | 2 => .array .int
  | 3 => .array .int
  | 4 => .int
  | _ => .int
theorem nN_Program : ∀ a, a < 6 → ∀ b, b < 6 → a ≠ b → (FN_Program a).2.1 ≠ (FN_Program b).2.1 := by decide +kernel
theorem oN_Program : ∀ k, k < 6 → parseFieldDescriptor (FN_Program k).2.2.1 = some (tN_Program k) := by decide +kernel
def RN_Row : String := "StepMachines$Row"
def FN_Row : u_T := fun k => match k with
  | 0 => ("StepMachines$Row", "steps", "[I", true)
  | 1 => ("StepMachines$Row", "met", "[I", true)
  | 2 => ("StepMachines$Row", "count", "I", false)
  | _ => ("StepMachines$Row", "turn", "I", false)
def tN_Row : Nat → FieldType := fun k => match k with
  | 0 => .array .int
  | 1 => .array .int
  | 2 => .int
  | _ => .int
theorem nN_Row : ∀ a, a < 4 → ∀ b, b < 4 → a ≠ b → (FN_Row a).2.1 ≠ (FN_Row b).2.1 := by decide +kernel
theorem oN_Row : ∀ k, k < 4 → parseFieldDescriptor (FN_Row k).2.2.1 = some (tN_Row k) := by decide +kernel
def RN_States : String := "StepMachines$States"
def FN_States : u_T := fun k => match k with
  | 0 => ("StepMachines$States", "program", "LStepMachines$Program;", true)
  | 1 => ("StepMachines$States", "subject", "LStepMachines$Subject;", true)
  | 2 => ("StepMachines$States", "tally", "LStepMachines$Tally;", true)
  | 3 => ("StepMachines$States", "kept", "LStepMachines$Kept;", true)
  | 4 => ("StepMachines$States", "walked", "LStepMachines$Row;", true)
  | 5 => ("StepMachines$States", "onward", "LStepMachines$Row;", true)
  | 6 => ("StepMachines$States", "jobs", "LStepMachines$Jobs;", true)
  | _ => ("StepMachines$States", "so", "I", false)
def tN_States : Nat → FieldType := fun k => match k with
  | 0 => .object "StepMachines$Program"
  | 1 => .object "StepMachines$Subject"
  | 2 => .object "StepMachines$Tally"
  | 3 => .object "StepMachines$Kept"
  | 4 => .object "StepMachines$Row"
  | 5 => .object "StepMachines$Row"
  | 6 => .object "StepMachines$Jobs"
  | _ => .int
theorem nN_States : ∀ a, a < 8 → ∀ b, b < 8 → a ≠ b → (FN_States a).2.1 ≠ (FN_States b).2.1 := by decide +kernel
theorem oN_States : ∀ k, k < 8 → parseFieldDescriptor (FN_States k).2.2.1 = some (tN_States k) := by decide +kernel
def RN_Subject : String := "StepMachines$Subject"
def FN_Subject : u_T := fun k => match k with
  | 0 => ("StepMachines$Subject", "bytes", "[I", true)
  | _ => ("StepMachines$Subject", "length", "I", false)
def tN_Subject : Nat → FieldType := fun k => match k with
  | 0 => .array .int
  | _ => .int
theorem nN_Subject : ∀ a, a < 2 → ∀ b, b < 2 → a ≠ b → (FN_Subject a).2.1 ≠ (FN_Subject b).2.1 := by decide +kernel
theorem oN_Subject : ∀ k, k < 2 → parseFieldDescriptor (FN_Subject k).2.2.1 = some (tN_Subject k) := by decide +kernel
def RN_Table : String := "StepMachines$Table"
def FN_Table : u_T := fun k => match k with
  | 0 => ("StepMachines$Table", "program", "LStepMachines$Program;", true)
  | 1 => ("StepMachines$Table", "subject", "LStepMachines$Subject;", true)
  | 2 => ("StepMachines$Table", "tally", "LStepMachines$Tally;", true)
  | 3 => ("StepMachines$Table", "best", "[I", true)
  | 4 => ("StepMachines$Table", "now", "[I", true)
  | 5 => ("StepMachines$Table", "actions", "[I", true)
  | 6 => ("StepMachines$Table", "endings", "[I", true)
  | 7 => ("StepMachines$Table", "stepOfRow", "[I", true)
  | 8 => ("StepMachines$Table", "rowOfStep", "[I", true)
  | 9 => ("StepMachines$Table", "since", "[I", true)
  | 10 => ("StepMachines$Table", "walked", "LStepMachines$Row;", true)
  | 11 => ("StepMachines$Table", "jobs", "LStepMachines$Jobs;", true)
  | 12 => ("StepMachines$Table", "rows", "I", false)
  | 13 => ("StepMachines$Table", "made", "Z", false)
  | _ => ("StepMachines$Table", "single", "Z", false)
def tN_Table : Nat → FieldType := fun k => match k with
  | 0 => .object "StepMachines$Program"
  | 1 => .object "StepMachines$Subject"
  | 2 => .object "StepMachines$Tally"
  | 3 => .array .int
  | 4 => .array .int
  | 5 => .array .int
  | 6 => .array .int
  | 7 => .array .int
  | 8 => .array .int
  | 9 => .array .int
  | 10 => .object "StepMachines$Row"
  | 11 => .object "StepMachines$Jobs"
  | 12 => .int
  | 13 => .boolean
  | _ => .boolean
theorem nN_Table : ∀ a, a < 15 → ∀ b, b < 15 → a ≠ b → (FN_Table a).2.1 ≠ (FN_Table b).2.1 := by decide +kernel
theorem oN_Table : ∀ k, k < 15 → parseFieldDescriptor (FN_Table k).2.2.1 = some (tN_Table k) := by decide +kernel
def RN_Tally : String := "StepMachines$Tally"
def FN_Tally : u_T := fun k => match k with
  | 0 => ("StepMachines$Tally", "taken", "I", false)
  | _ => ("StepMachines$Tally", "overruns", "I", false)
def tN_Tally : Nat → FieldType := fun k => match k with
  | 0 => .int
  | _ => .int
theorem nN_Tally : ∀ a, a < 2 → ∀ b, b < 2 → a ≠ b → (FN_Tally a).2.1 ≠ (FN_Tally b).2.1 := by decide +kernel
theorem oN_Tally : ∀ k, k < 2 → parseFieldDescriptor (FN_Tally k).2.2.1 = some (tN_Tally k) := by decide +kernel
def RN_Threads : String := "StepMachines$Threads"
def FN_Threads : u_T := fun k => match k with
  | 0 => ("StepMachines$Threads", "program", "LStepMachines$Program;", true)
  | 1 => ("StepMachines$Threads", "subject", "LStepMachines$Subject;", true)
  | 2 => ("StepMachines$Threads", "tally", "LStepMachines$Tally;", true)
  | 3 => ("StepMachines$Threads", "best", "[I", true)
  | 4 => ("StepMachines$Threads", "now", "[I", true)
  | 5 => ("StepMachines$Threads", "jobs", "LStepMachines$Jobs;", true)
  | 6 => ("StepMachines$Threads", "here", "LStepMachines$Row;", false)
  | 7 => ("StepMachines$Threads", "next", "LStepMachines$Row;", false)
  | 8 => ("StepMachines$Threads", "savedHere", "[I", false)
  | 9 => ("StepMachines$Threads", "savedNext", "[I", false)
  | _ => ("StepMachines$Threads", "so", "I", false)
def tN_Threads : Nat → FieldType := fun k => match k with
  | 0 => .object "StepMachines$Program"
  | 1 => .object "StepMachines$Subject"
  | 2 => .object "StepMachines$Tally"
  | 3 => .array .int
  | 4 => .array .int
  | 5 => .object "StepMachines$Jobs"
  | 6 => .object "StepMachines$Row"
  | 7 => .object "StepMachines$Row"
  | 8 => .array .int
  | 9 => .array .int
  | _ => .int
theorem nN_Threads : ∀ a, a < 11 → ∀ b, b < 11 → a ≠ b → (FN_Threads a).2.1 ≠ (FN_Threads b).2.1 := by decide +kernel
theorem oN_Threads : ∀ k, k < 11 → parseFieldDescriptor (FN_Threads k).2.2.1 = some (tN_Threads k) := by decide +kernel
def RN_Mach : String := "StepMachines"
def FN_Mach : u_T := fun k => match k with
  | 0 => ("StepMachines", "program", "LStepMachines$Program;", true)
  | 1 => ("StepMachines", "subject", "LStepMachines$Subject;", true)
  | 2 => ("StepMachines", "tally", "LStepMachines$Tally;", true)
  | 3 => ("StepMachines", "latest", "[I", true)
  | 4 => ("StepMachines", "threads", "LStepMachines$Threads;", true)
  | 5 => ("StepMachines", "marks", "LStepMachines$Marks;", true)
  | 6 => ("StepMachines", "table", "LStepMachines$Table;", true)
  | _ => ("StepMachines", "states", "LStepMachines$States;", true)
def tN_Mach : Nat → FieldType := fun k => match k with
  | 0 => .object "StepMachines$Program"
  | 1 => .object "StepMachines$Subject"
  | 2 => .object "StepMachines$Tally"
  | 3 => .array .int
  | 4 => .object "StepMachines$Threads"
  | 5 => .object "StepMachines$Marks"
  | 6 => .object "StepMachines$Table"
  | _ => .object "StepMachines$States"
theorem nN_Mach : ∀ a, a < 8 → ∀ b, b < 8 → a ≠ b → (FN_Mach a).2.1 ≠ (FN_Mach b).2.1 := by decide +kernel
theorem oN_Mach : ∀ k, k < 8 → parseFieldDescriptor (FN_Mach k).2.2.1 = some (tN_Mach k) := by decide +kernel
def RN_Mod : String := "StepMachinesModel"
def FN_Mod : u_T := fun k => match k with
  | 0 => ("StepMachinesModel", "thrown", "I", false)
  | 1 => ("StepMachinesModel", "steps", "I", false)
  | 2 => ("StepMachinesModel", "begin", "I", false)
  | 3 => ("StepMachinesModel", "kinds", "[I", true)
  | 4 => ("StepMachinesModel", "values", "[I", true)
  | 5 => ("StepMachinesModel", "first", "[I", true)
  | 6 => ("StepMachinesModel", "second", "[I", true)
  | 7 => ("StepMachinesModel", "subject", "[I", true)
  | 8 => ("StepMachinesModel", "length", "I", false)
  | 9 => ("StepMachinesModel", "can", "[Z", true)
  | 10 => ("StepMachinesModel", "come", "[Z", true)
  | 11 => ("StepMachinesModel", "saves", "[I", true)
  | 12 => ("StepMachinesModel", "kept", "[I", true)
  | 13 => ("StepMachinesModel", "pile", "[I", true)
  | 14 => ("StepMachinesModel", "pileTrail", "[I", true)
  | 15 => ("StepMachinesModel", "trailPlace", "[I", true)
  | 16 => ("StepMachinesModel", "trailOld", "[I", true)
  | 17 => ("StepMachinesModel", "seen", "[Z", true)
  | 18 => ("StepMachinesModel", "trail", "I", false)
  | 19 => ("StepMachinesModel", "high", "I", false)
  | 20 => ("StepMachinesModel", "starts", "[I", true)
  | 21 => ("StepMachinesModel", "bySaves", "[I", true)
  | 22 => ("StepMachinesModel", "byAsserts", "[I", true)
  | 23 => ("StepMachinesModel", "byTime", "[I", true)
  | _ => ("StepMachinesModel", "many", "I", false)
def tN_Mod : Nat → FieldType := fun k => match k with
  | 0 => .int
  | 1 => .int
  | 2 => .int
  | 3 => .array .int
  | 4 => .array .int
  | 5 => .array .int
  | 6 => .array .int
  | 7 => .array .int
  | 8 => .int
  | 9 => .array .boolean
  | 10 => .array .boolean
  | 11 => .array .int
  | 12 => .array .int
  | 13 => .array .int
  | 14 => .array .int
  | 15 => .array .int
  | 16 => .array .int
  | 17 => .array .boolean
  | 18 => .int
  | 19 => .int
  | 20 => .array .int
  | 21 => .array .int
  | 22 => .array .int
  | 23 => .array .int
  | _ => .int
theorem nN_Mod : ∀ a, a < 25 → ∀ b, b < 25 → a ≠ b → (FN_Mod a).2.1 ≠ (FN_Mod b).2.1 := by decide +kernel
theorem oN_Mod : ∀ k, k < 25 → parseFieldDescriptor (FN_Mod k).2.2.1 = some (tN_Mod k) := by decide +kernel
def RN_Law : String := "StepMachinesLaw"
abbrev clN : List vw_C := [(RN_Jobs, FN_Jobs, 2), (RN_Kept, FN_Kept, 7), (RN_Marks, FN_Marks, 7), (RN_Packed, FN_Packed, 1), (RN_Program, FN_Program, 6), (RN_Row, FN_Row, 4), (RN_States, FN_States, 8), (RN_Subject, FN_Subject, 2), (RN_Table, FN_Table, 15), (RN_Tally, FN_Tally, 2), (RN_Threads, FN_Threads, 11), (RN_Mach, FN_Mach, 8), (RN_Mod, FN_Mod, 25)]
def TB : List Cond := lw_tbl.filter goodWord
theorem TB_tab {i : Nat} {w : Cond} (h : tables_1[i]? = some w) (hg : goodWord w = true) : w ∈ TB := List.mem_filter.mpr ⟨List.mem_append_right _ (List.mem_of_getElem? h), hg⟩
theorem TB_sel {i : Nat} {w : Cond} (h : (k2_sels lw_privs)[i]? = some w) (hg : goodWord w = true) : w ∈ TB := List.mem_filter.mpr ⟨List.mem_append_left _ (List.mem_of_getElem? h), hg⟩
theorem TB_good {w : Cond} (h : w ∈ TB) : (w.onTables && w.keeps) = true ∨ ∃ ty, w = .arrayClass ty := good_of_word (List.mem_filter.mp h).2
theorem TB_lw {w : Cond} (h : w ∈ TB) : w ∈ lw_tbl := (List.mem_filter.mp h).1
/-- a callee's words among the caller's: both are a code row ahead of TB -/
theorem TB_in {k c : Cond} (h : c ∈ TB) : GoodIn (k :: TB) (c :: TB) := fun w hw => by
  rcases List.mem_cons.mp hw with rfl | hw
  · exact ⟨List.mem_cons_of_mem _ h, TB_good h⟩
  · exact ⟨List.mem_cons_of_mem _ hw, TB_good hw⟩
theorem TB_in2 {c : Cond} (h : c ∈ TB) : GoodIn TB (c :: TB) := fun w hw => by
  rcases List.mem_cons.mp hw with rfl | hw
  · exact ⟨h, TB_good h⟩
  · exact ⟨hw, TB_good hw⟩
theorem TB_inl {c : Cond} (h : c ∈ TB) : GoodIn lw_tbl (c :: TB) := fun w hw => by
  rcases List.mem_cons.mp hw with rfl | hw
  · exact ⟨TB_lw h, TB_good h⟩
  · exact ⟨TB_lw hw, TB_good hw⟩
abbrev cN_Mach_init : ByteArray := prog_1_method_1_code
def yN_Mach_init : MethodName := ⟨RN_Mach, "<init>", "()V"⟩
abbrev kN_Mach_init : Cond := Cond.code yN_Mach_init cN_Mach_init 1 none
abbrev wN_Mach_init : List Cond := kN_Mach_init :: TB
theorem gN_Mach_init : kN_Mach_init ∈ TB := TB_tab (i := 26) (by decide +kernel) rfl
abbrev cN_Program_init : ByteArray := prog_6_method_1_code
def yN_Program_init : MethodName := ⟨RN_Program, "<init>", "()V"⟩
abbrev kN_Program_init : Cond := Cond.code yN_Program_init cN_Program_init 1 none
abbrev wN_Program_init : List Cond := kN_Program_init :: TB
theorem gN_Program_init : kN_Program_init ∈ TB := TB_tab (i := 34) (by decide +kernel) rfl
abbrev cN_Subject_init : ByteArray := prog_9_method_1_code
def yN_Subject_init : MethodName := ⟨RN_Subject, "<init>", "()V"⟩
abbrev kN_Subject_init : Cond := Cond.code yN_Subject_init cN_Subject_init 1 none
abbrev wN_Subject_init : List Cond := kN_Subject_init :: TB
theorem gN_Subject_init : kN_Subject_init ∈ TB := TB_tab (i := 60) (by decide +kernel) rfl
abbrev cN_Tally_init : ByteArray := prog_11_method_1_code
def yN_Tally_init : MethodName := ⟨RN_Tally, "<init>", "()V"⟩
abbrev kN_Tally_init : Cond := Cond.code yN_Tally_init cN_Tally_init 1 none
abbrev wN_Tally_init : List Cond := kN_Tally_init :: TB
theorem gN_Tally_init : kN_Tally_init ∈ TB := TB_tab (i := 73) (by decide +kernel) rfl
abbrev cN_Threads_init : ByteArray := prog_12_method_1_code
def yN_Threads_init : MethodName := ⟨RN_Threads, "<init>", "(LStepMachines$Program;LStepMachines$Subject;LStepMachines$Tally;[I)V"⟩
abbrev kN_Threads_init : Cond := Cond.code yN_Threads_init cN_Threads_init 5 none
abbrev wN_Threads_init : List Cond := kN_Threads_init :: TB
theorem gN_Threads_init : kN_Threads_init ∈ TB := TB_tab (i := 87) (by decide +kernel) rfl
abbrev cN_Jobs_init : ByteArray := prog_2_method_1_code
def yN_Jobs_init : MethodName := ⟨RN_Jobs, "<init>", "(I)V"⟩
abbrev kN_Jobs_init : Cond := Cond.code yN_Jobs_init cN_Jobs_init 2 none
abbrev wN_Jobs_init : List Cond := kN_Jobs_init :: TB
theorem gN_Jobs_init : kN_Jobs_init ∈ TB := TB_tab (i := 93) (by decide +kernel) rfl
abbrev cN_Row_init : ByteArray := prog_7_method_1_code
def yN_Row_init : MethodName := ⟨RN_Row, "<init>", "()V"⟩
abbrev kN_Row_init : Cond := Cond.code yN_Row_init cN_Row_init 1 none
abbrev wN_Row_init : List Cond := kN_Row_init :: TB
theorem gN_Row_init : kN_Row_init ∈ TB := TB_tab (i := 107) (by decide +kernel) rfl
abbrev cN_Marks_init : ByteArray := prog_4_method_1_code
def yN_Marks_init : MethodName := ⟨RN_Marks, "<init>", "(LStepMachines$Program;LStepMachines$Subject;LStepMachines$Tally;[I)V"⟩
abbrev kN_Marks_init : Cond := Cond.code yN_Marks_init cN_Marks_init 5 none
abbrev wN_Marks_init : List Cond := kN_Marks_init :: TB
theorem gN_Marks_init : kN_Marks_init ∈ TB := TB_tab (i := 160) (by decide +kernel) rfl
abbrev cN_Table_init : ByteArray := prog_10_method_1_code
def yN_Table_init : MethodName := ⟨RN_Table, "<init>", "(LStepMachines$Program;LStepMachines$Subject;LStepMachines$Tally;[I)V"⟩
abbrev kN_Table_init : Cond := Cond.code yN_Table_init cN_Table_init 5 none
abbrev wN_Table_init : List Cond := kN_Table_init :: TB
theorem gN_Table_init : kN_Table_init ∈ TB := TB_tab (i := 191) (by decide +kernel) rfl
abbrev cN_States_init : ByteArray := prog_8_method_1_code
def yN_States_init : MethodName := ⟨RN_States, "<init>", "(LStepMachines$Program;LStepMachines$Subject;LStepMachines$Tally;)V"⟩
abbrev kN_States_init : Cond := Cond.code yN_States_init cN_States_init 4 none
abbrev wN_States_init : List Cond := kN_States_init :: TB
theorem gN_States_init : kN_States_init ∈ TB := TB_tab (i := 247) (by decide +kernel) rfl
abbrev cN_Kept_init : ByteArray := prog_3_method_1_code
def yN_Kept_init : MethodName := ⟨RN_Kept, "<init>", "()V"⟩
abbrev kN_Kept_init : Cond := Cond.code yN_Kept_init cN_Kept_init 1 none
abbrev wN_Kept_init : List Cond := kN_Kept_init :: TB
theorem gN_Kept_init : kN_Kept_init ∈ TB := TB_tab (i := 253) (by decide +kernel) rfl
abbrev cN_Packed_init : ByteArray := prog_5_method_1_code
def yN_Packed_init : MethodName := ⟨RN_Packed, "<init>", "(I)V"⟩
abbrev kN_Packed_init : Cond := Cond.code yN_Packed_init cN_Packed_init 2 none
abbrev wN_Packed_init : List Cond := kN_Packed_init :: TB
theorem gN_Packed_init : kN_Packed_init ∈ TB := TB_tab (i := 259) (by decide +kernel) rfl
abbrev cN_Arrays_fill : ByteArray := prog_23_method_103_code
def yN_Arrays_fill : MethodName := ⟨"java/util/Arrays", "fill", "([II)V"⟩
abbrev kN_Arrays_fill : Cond := Cond.code yN_Arrays_fill cN_Arrays_fill 4 none
abbrev wN_Arrays_fill : List Cond := kN_Arrays_fill :: TB
theorem gN_Arrays_fill : kN_Arrays_fill ∈ TB := TB_tab (i := 318) (by decide +kernel) rfl
abbrev cN_Mach_put : ByteArray := prog_1_method_5_code
def yN_Mach_put : MethodName := ⟨RN_Mach, "put", "(JI)Z"⟩
abbrev kN_Mach_put : Cond := Cond.code yN_Mach_put cN_Mach_put 5 (some .boolean)
abbrev wN_Mach_put : List Cond := kN_Mach_put :: TB
theorem gN_Mach_put : kN_Mach_put ∈ TB := TB_tab (i := 347) (by decide +kernel) rfl
abbrev cN_Subject_length : ByteArray := prog_9_method_5_code
def yN_Subject_length : MethodName := ⟨RN_Subject, "length", "()I"⟩
abbrev kN_Subject_length : Cond := Cond.code yN_Subject_length cN_Subject_length 1 (some .int)
abbrev wN_Subject_length : List Cond := kN_Subject_length :: TB
theorem gN_Subject_length : kN_Subject_length ∈ TB := TB_tab (i := 351) (by decide +kernel) rfl
abbrev cN_Subject_append : ByteArray := prog_9_method_6_code
def yN_Subject_append : MethodName := ⟨RN_Subject, "append", "(I)V"⟩
abbrev kN_Subject_append : Cond := Cond.code yN_Subject_append cN_Subject_append 2 none
abbrev wN_Subject_append : List Cond := kN_Subject_append :: TB
theorem gN_Subject_append : kN_Subject_append ∈ TB := TB_tab (i := 355) (by decide +kernel) rfl
abbrev cN_Mach_clear : ByteArray := prog_1_method_6_code
def yN_Mach_clear : MethodName := ⟨RN_Mach, "clear", "()V"⟩
abbrev kN_Mach_clear : Cond := Cond.code yN_Mach_clear cN_Mach_clear 1 none
abbrev wN_Mach_clear : List Cond := kN_Mach_clear :: TB
theorem gN_Mach_clear : kN_Mach_clear ∈ TB := TB_tab (i := 359) (by decide +kernel) rfl
abbrev cN_Subject_empty : ByteArray := prog_9_method_4_code
def yN_Subject_empty : MethodName := ⟨RN_Subject, "empty", "()V"⟩
abbrev kN_Subject_empty : Cond := Cond.code yN_Subject_empty cN_Subject_empty 1 none
abbrev wN_Subject_empty : List Cond := kN_Subject_empty :: TB
theorem gN_Subject_empty : kN_Subject_empty ∈ TB := TB_tab (i := 363) (by decide +kernel) rfl
abbrev cN_Mach_saved : ByteArray := prog_1_method_8_code
def yN_Mach_saved : MethodName := ⟨RN_Mach, "saved", "(I)I"⟩
abbrev kN_Mach_saved : Cond := Cond.code yN_Mach_saved cN_Mach_saved 2 (some .int)
abbrev wN_Mach_saved : List Cond := kN_Mach_saved :: TB
theorem gN_Mach_saved : kN_Mach_saved ∈ TB := TB_tab (i := 367) (by decide +kernel) rfl
abbrev cN_Mach_isOneWay : ByteArray := prog_1_method_11_code
def yN_Mach_isOneWay : MethodName := ⟨RN_Mach, "isOneWay", "()Z"⟩
abbrev kN_Mach_isOneWay : Cond := Cond.code yN_Mach_isOneWay cN_Mach_isOneWay 1 (some .boolean)
abbrev wN_Mach_isOneWay : List Cond := kN_Mach_isOneWay :: TB
theorem gN_Mach_isOneWay : kN_Mach_isOneWay ∈ TB := TB_tab (i := 371) (by decide +kernel) rfl
abbrev cN_Table_isSingleMinded : ByteArray := prog_10_method_3_code
def yN_Table_isSingleMinded : MethodName := ⟨RN_Table, "isSingleMinded", "()Z"⟩
abbrev kN_Table_isSingleMinded : Cond := Cond.code yN_Table_isSingleMinded cN_Table_isSingleMinded 1 (some .boolean)
abbrev wN_Table_isSingleMinded : List Cond := kN_Table_isSingleMinded :: TB
theorem gN_Table_isSingleMinded : kN_Table_isSingleMinded ∈ TB := TB_tab (i := 375) (by decide +kernel) rfl
abbrev cN_Table_make : ByteArray := prog_10_method_4_code
def yN_Table_make : MethodName := ⟨RN_Table, "make", "()V"⟩
abbrev kN_Table_make : Cond := Cond.code yN_Table_make cN_Table_make 2 none
abbrev wN_Table_make : List Cond := kN_Table_make :: TB
theorem gN_Table_make : kN_Table_make ∈ TB := TB_tab (i := 379) (by decide +kernel) rfl
abbrev cN_Program_beginning : ByteArray := prog_6_method_6_code
def yN_Program_beginning : MethodName := ⟨RN_Program, "beginning", "()I"⟩
abbrev kN_Program_beginning : Cond := Cond.code yN_Program_beginning cN_Program_beginning 1 (some .int)
abbrev wN_Program_beginning : List Cond := kN_Program_beginning :: TB
theorem gN_Program_beginning : kN_Program_beginning ∈ TB := TB_tab (i := 384) (by decide +kernel) rfl
abbrev cN_Table_rowFor : ByteArray := prog_10_method_5_code
def yN_Table_rowFor : MethodName := ⟨RN_Table, "rowFor", "(I)I"⟩
abbrev kN_Table_rowFor : Cond := Cond.code yN_Table_rowFor cN_Table_rowFor 2 (some .int)
abbrev wN_Table_rowFor : List Cond := kN_Table_rowFor :: TB
theorem gN_Table_rowFor : kN_Table_rowFor ∈ TB := TB_tab (i := 388) (by decide +kernel) rfl
abbrev cN_Program_has : ByteArray := prog_6_method_8_code
def yN_Program_has : MethodName := ⟨RN_Program, "has", "(I)Z"⟩
abbrev kN_Program_has : Cond := Cond.code yN_Program_has cN_Program_has 2 (some .boolean)
abbrev wN_Program_has : List Cond := kN_Program_has :: TB
theorem gN_Program_has : kN_Program_has ∈ TB := TB_tab (i := 392) (by decide +kernel) rfl
abbrev cN_Table_makeRow : ByteArray := prog_10_method_6_code
def yN_Table_makeRow : MethodName := ⟨RN_Table, "makeRow", "(I)Z"⟩
abbrev kN_Table_makeRow : Cond := Cond.code yN_Table_makeRow cN_Table_makeRow 5 (some .boolean)
abbrev wN_Table_makeRow : List Cond := kN_Table_makeRow :: TB
theorem gN_Table_makeRow : kN_Table_makeRow ∈ TB := TB_tab (i := 396) (by decide +kernel) rfl
abbrev cN_Row_empty : ByteArray := prog_7_method_2_code
def yN_Row_empty : MethodName := ⟨RN_Row, "empty", "()V"⟩
abbrev kN_Row_empty : Cond := Cond.code yN_Row_empty cN_Row_empty 1 none
abbrev wN_Row_empty : List Cond := kN_Row_empty :: TB
theorem gN_Row_empty : kN_Row_empty ∈ TB := TB_tab (i := 400) (by decide +kernel) rfl
abbrev cN_Jobs_drop : ByteArray := prog_2_method_9_code
def yN_Jobs_drop : MethodName := ⟨RN_Jobs, "drop", "()V"⟩
abbrev kN_Jobs_drop : Cond := Cond.code yN_Jobs_drop cN_Jobs_drop 1 none
abbrev wN_Jobs_drop : List Cond := kN_Jobs_drop :: TB
theorem gN_Jobs_drop : kN_Jobs_drop ∈ TB := TB_tab (i := 404) (by decide +kernel) rfl
abbrev cN_Table_later : ByteArray := prog_10_method_7_code
def yN_Table_later : MethodName := ⟨RN_Table, "later", "(II)V"⟩
abbrev kN_Table_later : Cond := Cond.code yN_Table_later cN_Table_later 3 none
abbrev wN_Table_later : List Cond := kN_Table_later :: TB
theorem gN_Table_later : kN_Table_later ∈ TB := TB_tab (i := 408) (by decide +kernel) rfl
abbrev cN_Jobs_add : ByteArray := prog_2_method_11_code
def yN_Jobs_add : MethodName := ⟨RN_Jobs, "add", "(I)V"⟩
abbrev kN_Jobs_add : Cond := Cond.code yN_Jobs_add cN_Jobs_add 4 none
abbrev wN_Jobs_add : List Cond := kN_Jobs_add :: TB
theorem gN_Jobs_add : kN_Jobs_add ∈ TB := TB_tab (i := 412) (by decide +kernel) rfl
abbrev cN_Jobs_isEmpty : ByteArray := prog_2_method_10_code
def yN_Jobs_isEmpty : MethodName := ⟨RN_Jobs, "isEmpty", "()Z"⟩
abbrev kN_Jobs_isEmpty : Cond := Cond.code yN_Jobs_isEmpty cN_Jobs_isEmpty 1 (some .boolean)
abbrev wN_Jobs_isEmpty : List Cond := kN_Jobs_isEmpty :: TB
theorem gN_Jobs_isEmpty : kN_Jobs_isEmpty ∈ TB := TB_tab (i := 419) (by decide +kernel) rfl
abbrev cN_Jobs_take : ByteArray := prog_2_method_12_code
def yN_Jobs_take : MethodName := ⟨RN_Jobs, "take", "()I"⟩
abbrev kN_Jobs_take : Cond := Cond.code yN_Jobs_take cN_Jobs_take 1 (some .int)
abbrev wN_Jobs_take : List Cond := kN_Jobs_take :: TB
theorem gN_Jobs_take : kN_Jobs_take ∈ TB := TB_tab (i := 423) (by decide +kernel) rfl
abbrev cN_Tally_count : ByteArray := prog_11_method_3_code
def yN_Tally_count : MethodName := ⟨RN_Tally, "count", "()V"⟩
abbrev kN_Tally_count : Cond := Cond.code yN_Tally_count cN_Tally_count 1 none
abbrev wN_Tally_count : List Cond := kN_Tally_count :: TB
theorem gN_Tally_count : kN_Tally_count ∈ TB := TB_tab (i := 427) (by decide +kernel) rfl
abbrev cN_Row_meets : ByteArray := prog_7_method_3_code
def yN_Row_meets : MethodName := ⟨RN_Row, "meets", "(I)Z"⟩
abbrev kN_Row_meets : Cond := Cond.code yN_Row_meets cN_Row_meets 2 (some .boolean)
abbrev wN_Row_meets : List Cond := kN_Row_meets :: TB
theorem gN_Row_meets : kN_Row_meets ∈ TB := TB_tab (i := 431) (by decide +kernel) rfl
abbrev cN_Table_walk : ByteArray := prog_10_method_8_code
def yN_Table_walk : MethodName := ⟨RN_Table, "walk", "(III)Z"⟩
abbrev kN_Table_walk : Cond := Cond.code yN_Table_walk cN_Table_walk 5 (some .boolean)
abbrev wN_Table_walk : List Cond := kN_Table_walk :: TB
theorem gN_Table_walk : kN_Table_walk ∈ TB := TB_tab (i := 435) (by decide +kernel) rfl
abbrev cN_Program_valueOf : ByteArray := prog_6_method_10_code
def yN_Program_valueOf : MethodName := ⟨RN_Program, "valueOf", "(I)I"⟩
abbrev kN_Program_valueOf : Cond := Cond.code yN_Program_valueOf cN_Program_valueOf 2 (some .int)
abbrev wN_Program_valueOf : List Cond := kN_Program_valueOf :: TB
theorem gN_Program_valueOf : kN_Program_valueOf ∈ TB := TB_tab (i := 439) (by decide +kernel) rfl
abbrev cN_Program_kindOf : ByteArray := prog_6_method_9_code
def yN_Program_kindOf : MethodName := ⟨RN_Program, "kindOf", "(I)I"⟩
abbrev kN_Program_kindOf : Cond := Cond.code yN_Program_kindOf cN_Program_kindOf 2 (some .int)
abbrev wN_Program_kindOf : List Cond := kN_Program_kindOf :: TB
theorem gN_Program_kindOf : kN_Program_kindOf ∈ TB := TB_tab (i := 444) (by decide +kernel) rfl
abbrev cN_Table_takeBytes : ByteArray := prog_10_method_9_code
def yN_Table_takeBytes : MethodName := ⟨RN_Table, "takeBytes", "(III)Z"⟩
abbrev kN_Table_takeBytes : Cond := Cond.code yN_Table_takeBytes cN_Table_takeBytes 11 (some .boolean)
abbrev wN_Table_takeBytes : List Cond := kN_Table_takeBytes :: TB
theorem gN_Table_takeBytes : kN_Table_takeBytes ∈ TB := TB_tab (i := 448) (by decide +kernel) rfl
abbrev cN_Program_firstOf : ByteArray := prog_6_method_11_code
def yN_Program_firstOf : MethodName := ⟨RN_Program, "firstOf", "(I)I"⟩
abbrev kN_Program_firstOf : Cond := Cond.code yN_Program_firstOf cN_Program_firstOf 2 (some .int)
abbrev wN_Program_firstOf : List Cond := kN_Program_firstOf :: TB
theorem gN_Program_firstOf : kN_Program_firstOf ∈ TB := TB_tab (i := 452) (by decide +kernel) rfl
abbrev cN_Program_secondOf : ByteArray := prog_6_method_12_code
def yN_Program_secondOf : MethodName := ⟨RN_Program, "secondOf", "(I)I"⟩
abbrev kN_Program_secondOf : Cond := Cond.code yN_Program_secondOf cN_Program_secondOf 2 (some .int)
abbrev wN_Program_secondOf : List Cond := kN_Program_secondOf :: TB
theorem gN_Program_secondOf : kN_Program_secondOf ∈ TB := TB_tab (i := 459) (by decide +kernel) rfl
abbrev cN_Mach_over : ByteArray := prog_1_method_12_code
def yN_Mach_over : MethodName := ⟨RN_Mach, "over", "()I"⟩
abbrev kN_Mach_over : Cond := Cond.code yN_Mach_over cN_Mach_over 1 (some .int)
abbrev wN_Mach_over : List Cond := kN_Mach_over :: TB
theorem gN_Mach_over : kN_Mach_over ∈ TB := TB_tab (i := 463) (by decide +kernel) rfl
abbrev cN_Law_lay : ByteArray := method_3_code
def yN_Law_lay : MethodName := ⟨RN_Law, "lay", "(LStepMachines;I)I"⟩
abbrev kN_Law_lay : Cond := Cond.codeWith yN_Law_lay cN_Law_lay 3 (some .int) [(0, 5, 8, 13)]
abbrev wN_Law_lay : List Cond := kN_Law_lay :: TB
theorem gN_Law_lay : kN_Law_lay ∈ TB := TB_tab (i := 466) (by decide +kernel) rfl
abbrev cN_Mach_lay : ByteArray := prog_1_method_2_code
def yN_Mach_lay : MethodName := ⟨RN_Mach, "lay", "(I)V"⟩
abbrev kN_Mach_lay : Cond := Cond.code yN_Mach_lay cN_Mach_lay 2 none
abbrev wN_Mach_lay : List Cond := kN_Mach_lay :: TB
theorem gN_Mach_lay : kN_Mach_lay ∈ TB := TB_tab (i := 471) (by decide +kernel) rfl
abbrev cN_Program_layOut : ByteArray := prog_6_method_3_code
def yN_Program_layOut : MethodName := ⟨RN_Program, "layOut", "(I)V"⟩
abbrev kN_Program_layOut : Cond := Cond.code yN_Program_layOut cN_Program_layOut 3 none
abbrev wN_Program_layOut : List Cond := kN_Program_layOut :: TB
theorem gN_Program_layOut : kN_Program_layOut ∈ TB := TB_tab (i := 542) (by decide +kernel) rfl
abbrev cN_Program_change : ByteArray := prog_6_method_4_code
def yN_Program_change : MethodName := ⟨RN_Program, "change", "(IIIII)V"⟩
abbrev kN_Program_change : Cond := Cond.code yN_Program_change cN_Program_change 6 none
abbrev wN_Program_change : List Cond := kN_Program_change :: TB
theorem gN_Program_change : kN_Program_change ∈ TB := TB_tab (i := 550) (by decide +kernel) rfl
abbrev cN_Mach_forgetWhatWasMade : ByteArray := prog_1_method_15_code
def yN_Mach_forgetWhatWasMade : MethodName := ⟨RN_Mach, "forgetWhatWasMade", "()V"⟩
abbrev kN_Mach_forgetWhatWasMade : Cond := Cond.code yN_Mach_forgetWhatWasMade cN_Mach_forgetWhatWasMade 1 none
abbrev wN_Mach_forgetWhatWasMade : List Cond := kN_Mach_forgetWhatWasMade :: TB
theorem gN_Mach_forgetWhatWasMade : kN_Mach_forgetWhatWasMade ∈ TB := TB_tab (i := 554) (by decide +kernel) rfl
abbrev cN_Table_forget : ByteArray := prog_10_method_2_code
def yN_Table_forget : MethodName := ⟨RN_Table, "forget", "()V"⟩
abbrev kN_Table_forget : Cond := Cond.code yN_Table_forget cN_Table_forget 1 none
abbrev wN_Table_forget : List Cond := kN_Table_forget :: TB
theorem gN_Table_forget : kN_Table_forget ∈ TB := TB_tab (i := 558) (by decide +kernel) rfl
abbrev cN_States_forget : ByteArray := prog_8_method_3_code
def yN_States_forget : MethodName := ⟨RN_States, "forget", "()V"⟩
abbrev kN_States_forget : Cond := Cond.code yN_States_forget cN_States_forget 1 none
abbrev wN_States_forget : List Cond := kN_States_forget :: TB
theorem gN_States_forget : kN_States_forget ∈ TB := TB_tab (i := 562) (by decide +kernel) rfl
abbrev cN_Kept_forget : ByteArray := prog_3_method_3_code
def yN_Kept_forget : MethodName := ⟨RN_Kept, "forget", "()V"⟩
abbrev kN_Kept_forget : Cond := Cond.code yN_Kept_forget cN_Kept_forget 1 none
abbrev wN_Kept_forget : List Cond := kN_Kept_forget :: TB
theorem gN_Kept_forget : kN_Kept_forget ∈ TB := TB_tab (i := 566) (by decide +kernel) rfl
abbrev cN_Law_step : ByteArray := method_4_code
def yN_Law_step : MethodName := ⟨RN_Law, "step", "(LStepMachines;IIIII)I"⟩
abbrev kN_Law_step : Cond := Cond.codeWith yN_Law_step cN_Law_step 7 (some .int) [(0, 11, 14, 19), (0, 11, 18, 13)]
abbrev wN_Law_step : List Cond := kN_Law_step :: TB
theorem gN_Law_step : kN_Law_step ∈ TB := TB_tab (i := 569) (by decide +kernel) rfl
abbrev cN_Mach_step : ByteArray := prog_1_method_3_code
def yN_Mach_step : MethodName := ⟨RN_Mach, "step", "(IIIII)V"⟩
abbrev kN_Mach_step : Cond := Cond.code yN_Mach_step cN_Mach_step 6 none
abbrev wN_Mach_step : List Cond := kN_Mach_step :: TB
theorem gN_Mach_step : kN_Mach_step ∈ TB := TB_tab (i := 574) (by decide +kernel) rfl
abbrev cN_Program_isValue : ByteArray := prog_6_method_2_code
def yN_Program_isValue : MethodName := ⟨RN_Program, "isValue", "(II)Z"⟩
abbrev kN_Program_isValue : Cond := Cond.code yN_Program_isValue cN_Program_isValue 2 (some .boolean)
abbrev wN_Program_isValue : List Cond := kN_Program_isValue :: TB
theorem gN_Program_isValue : kN_Program_isValue ∈ TB := TB_tab (i := 597) (by decide +kernel) rfl
abbrev cN_Law_begin : ByteArray := method_5_code
def yN_Law_begin : MethodName := ⟨RN_Law, "begin", "(LStepMachines;I)I"⟩
abbrev kN_Law_begin : Cond := Cond.codeWith yN_Law_begin cN_Law_begin 3 (some .int) [(0, 5, 8, 19)]
abbrev wN_Law_begin : List Cond := kN_Law_begin :: TB
theorem gN_Law_begin : kN_Law_begin ∈ TB := TB_tab (i := 603) (by decide +kernel) rfl
abbrev cN_Mach_begin : ByteArray := prog_1_method_4_code
def yN_Mach_begin : MethodName := ⟨RN_Mach, "begin", "(I)V"⟩
abbrev kN_Mach_begin : Cond := Cond.code yN_Mach_begin cN_Mach_begin 2 none
abbrev wN_Mach_begin : List Cond := kN_Mach_begin :: TB
theorem gN_Mach_begin : kN_Mach_begin ∈ TB := TB_tab (i := 607) (by decide +kernel) rfl
abbrev cN_Program_beginWith : ByteArray := prog_6_method_5_code
def yN_Program_beginWith : MethodName := ⟨RN_Program, "beginWith", "(I)V"⟩
abbrev kN_Program_beginWith : Cond := Cond.code yN_Program_beginWith cN_Program_beginWith 2 none
abbrev wN_Program_beginWith : List Cond := kN_Program_beginWith :: TB
theorem gN_Program_beginWith : kN_Program_beginWith ∈ TB := TB_tab (i := 612) (by decide +kernel) rfl
abbrev cN_Law_match : ByteArray := method_6_code
def yN_Law_match : MethodName := ⟨RN_Law, "match", "(LStepMachines;IZII[J)I"⟩
abbrev kN_Law_match : Cond := Cond.codeWith yN_Law_match cN_Law_match 7 (some .int) [(0, 14, 17, 13)]
abbrev wN_Law_match : List Cond := kN_Law_match :: TB
theorem gN_Law_match : kN_Law_match ∈ TB := TB_tab (i := 615) (by decide +kernel) rfl
abbrev cN_Mach_match : ByteArray := prog_1_method_7_code
def yN_Mach_match : MethodName := ⟨RN_Mach, "match", "(IZII)I"⟩
abbrev kN_Mach_match : Cond := Cond.code yN_Mach_match cN_Mach_match 5 (some .int)
abbrev wN_Mach_match : List Cond := kN_Mach_match :: TB
theorem gN_Mach_match : kN_Mach_match ∈ TB := TB_tab (i := 619) (by decide +kernel) rfl
abbrev cN_Mach_isQuestion : ByteArray := prog_1_method_13_code
def yN_Mach_isQuestion : MethodName := ⟨RN_Mach, "isQuestion", "(II)Z"⟩
abbrev kN_Mach_isQuestion : Cond := Cond.code yN_Mach_isQuestion cN_Mach_isQuestion 3 (some .boolean)
abbrev wN_Mach_isQuestion : List Cond := kN_Mach_isQuestion :: TB
theorem gN_Mach_isQuestion : kN_Mach_isQuestion ∈ TB := TB_tab (i := 624) (by decide +kernel) rfl
abbrev cN_Tally_open : ByteArray := prog_11_method_2_code
def yN_Tally_open : MethodName := ⟨RN_Tally, "open", "()V"⟩
abbrev kN_Tally_open : Cond := Cond.code yN_Tally_open cN_Tally_open 1 none
abbrev wN_Tally_open : List Cond := kN_Tally_open :: TB
theorem gN_Tally_open : kN_Tally_open ∈ TB := TB_tab (i := 629) (by decide +kernel) rfl
abbrev cN_Marks_run : ByteArray := prog_4_method_2_code
def yN_Marks_run : MethodName := ⟨RN_Marks, "run", "(IZI)V"⟩
abbrev kN_Marks_run : Cond := Cond.code yN_Marks_run cN_Marks_run 6 none
abbrev wN_Marks_run : List Cond := kN_Marks_run :: TB
theorem gN_Marks_run : kN_Marks_run ∈ TB := TB_tab (i := 633) (by decide +kernel) rfl
abbrev cN_Marks_wipe : ByteArray := prog_4_method_3_code
def yN_Marks_wipe : MethodName := ⟨RN_Marks, "wipe", "()V"⟩
abbrev kN_Marks_wipe : Cond := Cond.code yN_Marks_wipe cN_Marks_wipe 3 none
abbrev wN_Marks_wipe : List Cond := kN_Marks_wipe :: TB
theorem gN_Marks_wipe : kN_Marks_wipe ∈ TB := TB_tab (i := 637) (by decide +kernel) rfl
abbrev cN_Program_size : ByteArray := prog_6_method_7_code
def yN_Program_size : MethodName := ⟨RN_Program, "size", "()I"⟩
abbrev kN_Program_size : Cond := Cond.code yN_Program_size cN_Program_size 1 (some .int)
abbrev wN_Program_size : List Cond := kN_Program_size :: TB
theorem gN_Program_size : kN_Program_size ∈ TB := TB_tab (i := 641) (by decide +kernel) rfl
abbrev cN_Marks_tryFrom : ByteArray := prog_4_method_4_code
def yN_Marks_tryFrom : MethodName := ⟨RN_Marks, "tryFrom", "(IIZ)V"⟩
abbrev kN_Marks_tryFrom : Cond := Cond.code yN_Marks_tryFrom cN_Marks_tryFrom 6 none
abbrev wN_Marks_tryFrom : List Cond := kN_Marks_tryFrom :: TB
theorem gN_Marks_tryFrom : kN_Marks_tryFrom ∈ TB := TB_tab (i := 647) (by decide +kernel) rfl
abbrev cN_Jobs_stepAt : ByteArray := prog_2_method_2_code
def yN_Jobs_stepAt : MethodName := ⟨RN_Jobs, "stepAt", "(II)I"⟩
abbrev kN_Jobs_stepAt : Cond := Cond.code yN_Jobs_stepAt cN_Jobs_stepAt 2 (some .int)
abbrev wN_Jobs_stepAt : List Cond := kN_Jobs_stepAt :: TB
theorem gN_Jobs_stepAt : kN_Jobs_stepAt ∈ TB := TB_tab (i := 653) (by decide +kernel) rfl
abbrev cN_Jobs_isPutBack : ByteArray := prog_2_method_6_code
def yN_Jobs_isPutBack : MethodName := ⟨RN_Jobs, "isPutBack", "(I)Z"⟩
abbrev kN_Jobs_isPutBack : Cond := Cond.code yN_Jobs_isPutBack cN_Jobs_isPutBack 1 (some .boolean)
abbrev wN_Jobs_isPutBack : List Cond := kN_Jobs_isPutBack :: TB
theorem gN_Jobs_isPutBack : kN_Jobs_isPutBack ∈ TB := TB_tab (i := 660) (by decide +kernel) rfl
abbrev cN_Jobs_putBack : ByteArray := prog_2_method_7_code
def yN_Jobs_putBack : MethodName := ⟨RN_Jobs, "putBack", "(I[I)V"⟩
abbrev kN_Jobs_putBack : Cond := Cond.code yN_Jobs_putBack cN_Jobs_putBack 3 none
abbrev wN_Jobs_putBack : List Cond := kN_Jobs_putBack :: TB
theorem gN_Jobs_putBack : kN_Jobs_putBack ∈ TB := TB_tab (i := 664) (by decide +kernel) rfl
abbrev cN_Jobs_stepOf : ByteArray := prog_2_method_3_code
def yN_Jobs_stepOf : MethodName := ⟨RN_Jobs, "stepOf", "(I)I"⟩
abbrev kN_Jobs_stepOf : Cond := Cond.code yN_Jobs_stepOf cN_Jobs_stepOf 1 (some .int)
abbrev wN_Jobs_stepOf : List Cond := kN_Jobs_stepOf :: TB
theorem gN_Jobs_stepOf : kN_Jobs_stepOf ∈ TB := TB_tab (i := 667) (by decide +kernel) rfl
abbrev cN_Jobs_placeOf : ByteArray := prog_2_method_4_code
def yN_Jobs_placeOf : MethodName := ⟨RN_Jobs, "placeOf", "(I)I"⟩
abbrev kN_Jobs_placeOf : Cond := Cond.code yN_Jobs_placeOf cN_Jobs_placeOf 1 (some .int)
abbrev wN_Jobs_placeOf : List Cond := kN_Jobs_placeOf :: TB
theorem gN_Jobs_placeOf : kN_Jobs_placeOf ∈ TB := TB_tab (i := 670) (by decide +kernel) rfl
abbrev cN_Marks_visit : ByteArray := prog_4_method_6_code
def yN_Marks_visit : MethodName := ⟨RN_Marks, "visit", "(III)V"⟩
abbrev kN_Marks_visit : Cond := Cond.code yN_Marks_visit cN_Marks_visit 5 none
abbrev wN_Marks_visit : List Cond := kN_Marks_visit :: TB
theorem gN_Marks_visit : kN_Marks_visit ∈ TB := TB_tab (i := 674) (by decide +kernel) rfl
abbrev cN_Marks_isNew : ByteArray := prog_4_method_5_code
def yN_Marks_isNew : MethodName := ⟨RN_Marks, "isNew", "(II)Z"⟩
abbrev kN_Marks_isNew : Cond := Cond.code yN_Marks_isNew cN_Marks_isNew 6 (some .boolean)
abbrev wN_Marks_isNew : List Cond := kN_Marks_isNew :: TB
theorem gN_Marks_isNew : kN_Marks_isNew ∈ TB := TB_tab (i := 679) (by decide +kernel) rfl
abbrev cN_Marks_end : ByteArray := prog_4_method_7_code
def yN_Marks_end : MethodName := ⟨RN_Marks, "end", "(II)V"⟩
abbrev kN_Marks_end : Cond := Cond.code yN_Marks_end cN_Marks_end 3 none
abbrev wN_Marks_end : List Cond := kN_Marks_end :: TB
theorem gN_Marks_end : kN_Marks_end ∈ TB := TB_tab (i := 685) (by decide +kernel) rfl
abbrev cN_Subject_mayEnd : ByteArray := prog_9_method_9_code
def yN_Subject_mayEnd : MethodName := ⟨RN_Subject, "mayEnd", "(II)Z"⟩
abbrev kN_Subject_mayEnd : Cond := Cond.code yN_Subject_mayEnd cN_Subject_mayEnd 3 (some .boolean)
abbrev wN_Subject_mayEnd : List Cond := kN_Subject_mayEnd :: TB
theorem gN_Subject_mayEnd : kN_Subject_mayEnd ∈ TB := TB_tab (i := 689) (by decide +kernel) rfl
abbrev cN_Subject_byteBehind : ByteArray := prog_9_method_7_code
def yN_Subject_byteBehind : MethodName := ⟨RN_Subject, "byteBehind", "(I)I"⟩
abbrev kN_Subject_byteBehind : Cond := Cond.code yN_Subject_byteBehind cN_Subject_byteBehind 2 (some .int)
abbrev wN_Subject_byteBehind : List Cond := kN_Subject_byteBehind :: TB
theorem gN_Subject_byteBehind : kN_Subject_byteBehind ∈ TB := TB_tab (i := 696) (by decide +kernel) rfl
abbrev cN_Program_takes : ByteArray := prog_6_method_13_code
def yN_Program_takes : MethodName := ⟨RN_Program, "takes", "(II)Z"⟩
abbrev kN_Program_takes : Cond := Cond.code yN_Program_takes cN_Program_takes 3 (some .boolean)
abbrev wN_Program_takes : List Cond := kN_Program_takes :: TB
theorem gN_Program_takes : kN_Program_takes ∈ TB := TB_tab (i := 700) (by decide +kernel) rfl
abbrev cN_Jobs_save : ByteArray := prog_2_method_8_code
def yN_Jobs_save : MethodName := ⟨RN_Jobs, "save", "(II[I)V"⟩
abbrev kN_Jobs_save : Cond := Cond.code yN_Jobs_save cN_Jobs_save 4 none
abbrev wN_Jobs_save : List Cond := kN_Jobs_save :: TB
theorem gN_Jobs_save : kN_Jobs_save ∈ TB := TB_tab (i := 706) (by decide +kernel) rfl
abbrev cN_Jobs_putBackOf : ByteArray := prog_2_method_5_code
def yN_Jobs_putBackOf : MethodName := ⟨RN_Jobs, "putBackOf", "(II)I"⟩
abbrev kN_Jobs_putBackOf : Cond := Cond.code yN_Jobs_putBackOf cN_Jobs_putBackOf 2 (some .int)
abbrev wN_Jobs_putBackOf : List Cond := kN_Jobs_putBackOf :: TB
theorem gN_Jobs_putBackOf : kN_Jobs_putBackOf ∈ TB := TB_tab (i := 709) (by decide +kernel) rfl
abbrev cN_Subject_whatIsSoAt : ByteArray := prog_9_method_8_code
def yN_Subject_whatIsSoAt : MethodName := ⟨RN_Subject, "whatIsSoAt", "(I)I"⟩
abbrev kN_Subject_whatIsSoAt : Cond := Cond.code yN_Subject_whatIsSoAt cN_Subject_whatIsSoAt 2 (some .int)
abbrev wN_Subject_whatIsSoAt : List Cond := kN_Subject_whatIsSoAt :: TB
theorem gN_Subject_whatIsSoAt : kN_Subject_whatIsSoAt ∈ TB := TB_tab (i := 714) (by decide +kernel) rfl
abbrev cN_Subject_whatIsSo : ByteArray := prog_9_method_2_code
def yN_Subject_whatIsSo : MethodName := ⟨RN_Subject, "whatIsSo", "(II)I"⟩
abbrev kN_Subject_whatIsSo : Cond := Cond.code yN_Subject_whatIsSo cN_Subject_whatIsSo 3 (some .int)
abbrev wN_Subject_whatIsSo : List Cond := kN_Subject_whatIsSo :: TB
theorem gN_Subject_whatIsSo : kN_Subject_whatIsSo ∈ TB := TB_tab (i := 718) (by decide +kernel) rfl
abbrev cN_Subject_isWord : ByteArray := prog_9_method_3_code
def yN_Subject_isWord : MethodName := ⟨RN_Subject, "isWord", "(I)Z"⟩
abbrev kN_Subject_isWord : Cond := Cond.code yN_Subject_isWord cN_Subject_isWord 1 (some .boolean)
abbrev wN_Subject_isWord : List Cond := kN_Subject_isWord :: TB
theorem gN_Subject_isWord : kN_Subject_isWord ∈ TB := TB_tab (i := 721) (by decide +kernel) rfl
abbrev cN_Table_run : ByteArray := prog_10_method_10_code
def yN_Table_run : MethodName := ⟨RN_Table, "run", "(IZI)V"⟩
abbrev kN_Table_run : Cond := Cond.code yN_Table_run cN_Table_run 10 none
abbrev wN_Table_run : List Cond := kN_Table_run :: TB
theorem gN_Table_run : kN_Table_run ∈ TB := TB_tab (i := 725) (by decide +kernel) rfl
abbrev cN_Table_endHere : ByteArray := prog_10_method_11_code
def yN_Table_endHere : MethodName := ⟨RN_Table, "endHere", "(III)Z"⟩
abbrev kN_Table_endHere : Cond := Cond.code yN_Table_endHere cN_Table_endHere 5 (some .boolean)
abbrev wN_Table_endHere : List Cond := kN_Table_endHere :: TB
theorem gN_Table_endHere : kN_Table_endHere ∈ TB := TB_tab (i := 730) (by decide +kernel) rfl
abbrev cN_Table_allHold : ByteArray := prog_10_method_12_code
def yN_Table_allHold : MethodName := ⟨RN_Table, "allHold", "(II)Z"⟩
abbrev kN_Table_allHold : Cond := Cond.code yN_Table_allHold cN_Table_allHold 4 (some .boolean)
abbrev wN_Table_allHold : List Cond := kN_Table_allHold :: TB
theorem gN_Table_allHold : kN_Table_allHold ∈ TB := TB_tab (i := 735) (by decide +kernel) rfl
abbrev cN_Table_save : ByteArray := prog_10_method_13_code
def yN_Table_save : MethodName := ⟨RN_Table, "save", "(II[I)V"⟩
abbrev kN_Table_save : Cond := Cond.code yN_Table_save cN_Table_save 4 none
abbrev wN_Table_save : List Cond := kN_Table_save :: TB
theorem gN_Table_save : kN_Table_save ∈ TB := TB_tab (i := 740) (by decide +kernel) rfl
abbrev cN_Threads_run : ByteArray := prog_12_method_2_code
def yN_Threads_run : MethodName := ⟨RN_Threads, "run", "(IZI)V"⟩
abbrev kN_Threads_run : Cond := Cond.code yN_Threads_run cN_Threads_run 5 none
abbrev wN_Threads_run : List Cond := kN_Threads_run :: TB
theorem gN_Threads_run : kN_Threads_run ∈ TB := TB_tab (i := 745) (by decide +kernel) rfl
abbrev cN_Threads_beginThread : ByteArray := prog_12_method_3_code
def yN_Threads_beginThread : MethodName := ⟨RN_Threads, "beginThread", "(I)V"⟩
abbrev kN_Threads_beginThread : Cond := Cond.code yN_Threads_beginThread cN_Threads_beginThread 2 none
abbrev wN_Threads_beginThread : List Cond := kN_Threads_beginThread :: TB
theorem gN_Threads_beginThread : kN_Threads_beginThread ∈ TB := TB_tab (i := 751) (by decide +kernel) rfl
abbrev cN_Threads_comeTo : ByteArray := prog_12_method_9_code
def yN_Threads_comeTo : MethodName := ⟨RN_Threads, "comeTo", "(IILStepMachines$Row;[I)V"⟩
abbrev kN_Threads_comeTo : Cond := Cond.code yN_Threads_comeTo cN_Threads_comeTo 7 none
abbrev wN_Threads_comeTo : List Cond := kN_Threads_comeTo :: TB
theorem gN_Threads_comeTo : kN_Threads_comeTo ∈ TB := TB_tab (i := 758) (by decide +kernel) rfl
abbrev cN_Threads_visit : ByteArray := prog_12_method_10_code
def yN_Threads_visit : MethodName := ⟨RN_Threads, "visit", "(IILStepMachines$Row;[I)V"⟩
abbrev kN_Threads_visit : Cond := Cond.code yN_Threads_visit cN_Threads_visit 6 none
abbrev wN_Threads_visit : List Cond := kN_Threads_visit :: TB
theorem gN_Threads_visit : kN_Threads_visit ∈ TB := TB_tab (i := 769) (by decide +kernel) rfl
abbrev cN_Row_add : ByteArray := prog_7_method_4_code
def yN_Row_add : MethodName := ⟨RN_Row, "add", "(I)V"⟩
abbrev kN_Row_add : Cond := Cond.code yN_Row_add cN_Row_add 2 none
abbrev wN_Row_add : List Cond := kN_Row_add :: TB
theorem gN_Row_add : kN_Row_add ∈ TB := TB_tab (i := 777) (by decide +kernel) rfl
abbrev cN_Threads_writeSaved : ByteArray := prog_12_method_7_code
def yN_Threads_writeSaved : MethodName := ⟨RN_Threads, "writeSaved", "(I[I)V"⟩
abbrev kN_Threads_writeSaved : Cond := Cond.code yN_Threads_writeSaved cN_Threads_writeSaved 3 none
abbrev wN_Threads_writeSaved : List Cond := kN_Threads_writeSaved :: TB
theorem gN_Threads_writeSaved : kN_Threads_writeSaved ∈ TB := TB_tab (i := 781) (by decide +kernel) rfl
abbrev cN_Threads_goOverByte : ByteArray := prog_12_method_4_code
def yN_Threads_goOverByte : MethodName := ⟨RN_Threads, "goOverByte", "(IZI)V"⟩
abbrev kN_Threads_goOverByte : Cond := Cond.code yN_Threads_goOverByte cN_Threads_goOverByte 7 none
abbrev wN_Threads_goOverByte : List Cond := kN_Threads_goOverByte :: TB
theorem gN_Threads_goOverByte : kN_Threads_goOverByte ∈ TB := TB_tab (i := 790) (by decide +kernel) rfl
abbrev cN_Row_count : ByteArray := prog_7_method_5_code
def yN_Row_count : MethodName := ⟨RN_Row, "count", "()I"⟩
abbrev kN_Row_count : Cond := Cond.code yN_Row_count cN_Row_count 1 (some .int)
abbrev wN_Row_count : List Cond := kN_Row_count :: TB
theorem gN_Row_count : kN_Row_count ∈ TB := TB_tab (i := 795) (by decide +kernel) rfl
abbrev cN_Row_get : ByteArray := prog_7_method_6_code
def yN_Row_get : MethodName := ⟨RN_Row, "get", "(I)I"⟩
abbrev kN_Row_get : Cond := Cond.code yN_Row_get cN_Row_get 2 (some .int)
abbrev wN_Row_get : List Cond := kN_Row_get :: TB
theorem gN_Row_get : kN_Row_get ∈ TB := TB_tab (i := 799) (by decide +kernel) rfl
abbrev cN_Threads_beginningOf : ByteArray := prog_12_method_5_code
def yN_Threads_beginningOf : MethodName := ⟨RN_Threads, "beginningOf", "(I)I"⟩
abbrev kN_Threads_beginningOf : Cond := Cond.code yN_Threads_beginningOf cN_Threads_beginningOf 2 (some .int)
abbrev wN_Threads_beginningOf : List Cond := kN_Threads_beginningOf :: TB
theorem gN_Threads_beginningOf : kN_Threads_beginningOf ∈ TB := TB_tab (i := 803) (by decide +kernel) rfl
abbrev cN_Threads_readSaved : ByteArray := prog_12_method_6_code
def yN_Threads_readSaved : MethodName := ⟨RN_Threads, "readSaved", "(I[I)V"⟩
abbrev kN_Threads_readSaved : Cond := Cond.code yN_Threads_readSaved cN_Threads_readSaved 3 none
abbrev wN_Threads_readSaved : List Cond := kN_Threads_readSaved :: TB
theorem gN_Threads_readSaved : kN_Threads_readSaved ∈ TB := TB_tab (i := 808) (by decide +kernel) rfl
abbrev cN_Threads_swapRows : ByteArray := prog_12_method_8_code
def yN_Threads_swapRows : MethodName := ⟨RN_Threads, "swapRows", "()V"⟩
abbrev kN_Threads_swapRows : Cond := Cond.code yN_Threads_swapRows cN_Threads_swapRows 3 none
abbrev wN_Threads_swapRows : List Cond := kN_Threads_swapRows :: TB
theorem gN_Threads_swapRows : kN_Threads_swapRows ∈ TB := TB_tab (i := 813) (by decide +kernel) rfl
abbrev cN_Mach_mostTaken : ByteArray := prog_1_method_14_code
def yN_Mach_mostTaken : MethodName := ⟨RN_Mach, "mostTaken", "()I"⟩
abbrev kN_Mach_mostTaken : Cond := Cond.code yN_Mach_mostTaken cN_Mach_mostTaken 1 (some .int)
abbrev wN_Mach_mostTaken : List Cond := kN_Mach_mostTaken :: TB
theorem gN_Mach_mostTaken : kN_Mach_mostTaken ∈ TB := TB_tab (i := 817) (by decide +kernel) rfl
abbrev cN_Tally_close : ByteArray := prog_11_method_4_code
def yN_Tally_close : MethodName := ⟨RN_Tally, "close", "(I)V"⟩
abbrev kN_Tally_close : Cond := Cond.code yN_Tally_close cN_Tally_close 2 none
abbrev wN_Tally_close : List Cond := kN_Tally_close :: TB
theorem gN_Tally_close : kN_Tally_close ∈ TB := TB_tab (i := 822) (by decide +kernel) rfl
abbrev cN_Law_ends : ByteArray := method_7_code
def yN_Law_ends : MethodName := ⟨RN_Law, "ends", "(LStepMachines;IZI[J)I"⟩
abbrev kN_Law_ends : Cond := Cond.codeWith yN_Law_ends cN_Law_ends 6 (some .int) [(0, 12, 15, 13)]
abbrev wN_Law_ends : List Cond := kN_Law_ends :: TB
theorem gN_Law_ends : kN_Law_ends ∈ TB := TB_tab (i := 825) (by decide +kernel) rfl
abbrev cN_Mach_ends : ByteArray := prog_1_method_9_code
def yN_Mach_ends : MethodName := ⟨RN_Mach, "ends", "(IZI)I"⟩
abbrev kN_Mach_ends : Cond := Cond.code yN_Mach_ends cN_Mach_ends 5 (some .int)
abbrev wN_Mach_ends : List Cond := kN_Mach_ends :: TB
theorem gN_Mach_ends : kN_Mach_ends ∈ TB := TB_tab (i := 829) (by decide +kernel) rfl
abbrev cN_States_run : ByteArray := prog_8_method_4_code
def yN_States_run : MethodName := ⟨RN_States, "run", "(IZI)I"⟩
abbrev kN_States_run : Cond := Cond.code yN_States_run cN_States_run 9 (some .int)
abbrev wN_States_run : List Cond := kN_States_run :: TB
theorem gN_States_run : kN_States_run ∈ TB := TB_tab (i := 834) (by decide +kernel) rfl
abbrev cN_States_goalOf : ByteArray := prog_8_method_5_code
def yN_States_goalOf : MethodName := ⟨RN_States, "goalOf", "(IZ)I"⟩
abbrev kN_States_goalOf : Cond := Cond.code yN_States_goalOf cN_States_goalOf 2 (some .int)
abbrev wN_States_goalOf : List Cond := kN_States_goalOf :: TB
theorem gN_States_goalOf : kN_States_goalOf ∈ TB := TB_tab (i := 837) (by decide +kernel) rfl
abbrev cN_States_firstState : ByteArray := prog_8_method_7_code
def yN_States_firstState : MethodName := ⟨RN_States, "firstState", "(II)I"⟩
abbrev kN_States_firstState : Cond := Cond.code yN_States_firstState cN_States_firstState 3 (some .int)
abbrev wN_States_firstState : List Cond := kN_States_firstState :: TB
theorem gN_States_firstState : kN_States_firstState ∈ TB := TB_tab (i := 842) (by decide +kernel) rfl
abbrev cN_States_labelOf : ByteArray := prog_8_method_6_code
def yN_States_labelOf : MethodName := ⟨RN_States, "labelOf", "(II)I"⟩
abbrev kN_States_labelOf : Cond := Cond.code yN_States_labelOf cN_States_labelOf 3 (some .int)
abbrev wN_States_labelOf : List Cond := kN_States_labelOf :: TB
theorem gN_States_labelOf : kN_States_labelOf ∈ TB := TB_tab (i := 848) (by decide +kernel) rfl
abbrev cN_Kept_numberOf : ByteArray := prog_3_method_11_code
def yN_Kept_numberOf : MethodName := ⟨RN_Kept, "numberOf", "(LStepMachines$Row;I)I"⟩
abbrev kN_Kept_numberOf : Cond := Cond.code yN_Kept_numberOf cN_Kept_numberOf 5 (some .int)
abbrev wN_Kept_numberOf : List Cond := kN_Kept_numberOf :: TB
theorem gN_Kept_numberOf : kN_Kept_numberOf ∈ TB := TB_tab (i := 855) (by decide +kernel) rfl
abbrev cN_Kept_sumOf : ByteArray := prog_3_method_12_code
def yN_Kept_sumOf : MethodName := ⟨RN_Kept, "sumOf", "(LStepMachines$Row;I)I"⟩
abbrev kN_Kept_sumOf : Cond := Cond.code yN_Kept_sumOf cN_Kept_sumOf 4 (some .int)
abbrev wN_Kept_sumOf : List Cond := kN_Kept_sumOf :: TB
theorem gN_Kept_sumOf : kN_Kept_sumOf ∈ TB := TB_tab (i := 858) (by decide +kernel) rfl
abbrev cN_Kept_isSame : ByteArray := prog_3_method_13_code
def yN_Kept_isSame : MethodName := ⟨RN_Kept, "isSame", "(ILStepMachines$Row;I)Z"⟩
abbrev kN_Kept_isSame : Cond := Cond.code yN_Kept_isSame cN_Kept_isSame 5 (some .boolean)
abbrev wN_Kept_isSame : List Cond := kN_Kept_isSame :: TB
theorem gN_Kept_isSame : kN_Kept_isSame ∈ TB := TB_tab (i := 864) (by decide +kernel) rfl
abbrev cN_Kept_stepOf : ByteArray := prog_3_method_8_code
def yN_Kept_stepOf : MethodName := ⟨RN_Kept, "stepOf", "(II)I"⟩
abbrev kN_Kept_stepOf : Cond := Cond.code yN_Kept_stepOf cN_Kept_stepOf 3 (some .int)
abbrev wN_Kept_stepOf : List Cond := kN_Kept_stepOf :: TB
theorem gN_Kept_stepOf : kN_Kept_stepOf ∈ TB := TB_tab (i := 868) (by decide +kernel) rfl
abbrev cN_Packed_get : ByteArray := prog_5_method_2_code
def yN_Packed_get : MethodName := ⟨RN_Packed, "get", "(I)I"⟩
abbrev kN_Packed_get : Cond := Cond.code yN_Packed_get cN_Packed_get 3 (some .int)
abbrev wN_Packed_get : List Cond := kN_Packed_get :: TB
theorem gN_Packed_get : kN_Packed_get ∈ TB := TB_tab (i := 872) (by decide +kernel) rfl
abbrev cN_Kept_add : ByteArray := prog_3_method_14_code
def yN_Kept_add : MethodName := ⟨RN_Kept, "add", "(LStepMachines$Row;II)V"⟩
abbrev kN_Kept_add : Cond := Cond.code yN_Kept_add cN_Kept_add 5 none
abbrev wN_Kept_add : List Cond := kN_Kept_add :: TB
theorem gN_Kept_add : kN_Kept_add ∈ TB := TB_tab (i := 878) (by decide +kernel) rfl
abbrev cN_Packed_set : ByteArray := prog_5_method_3_code
def yN_Packed_set : MethodName := ⟨RN_Packed, "set", "(II)V"⟩
abbrev kN_Packed_set : Cond := Cond.code yN_Packed_set cN_Packed_set 5 none
abbrev wN_Packed_set : List Cond := kN_Packed_set :: TB
theorem gN_Packed_set : kN_Packed_set ∈ TB := TB_tab (i := 882) (by decide +kernel) rfl
abbrev cN_Packed_wipe : ByteArray := prog_5_method_4_code
def yN_Packed_wipe : MethodName := ⟨RN_Packed, "wipe", "(II)V"⟩
abbrev kN_Packed_wipe : Cond := Cond.code yN_Packed_wipe cN_Packed_wipe 5 none
abbrev wN_Packed_wipe : List Cond := kN_Packed_wipe :: TB
theorem gN_Packed_wipe : kN_Packed_wipe ∈ TB := TB_tab (i := 887) (by decide +kernel) rfl
abbrev cN_States_moveFrom : ByteArray := prog_8_method_8_code
def yN_States_moveFrom : MethodName := ⟨RN_States, "moveFrom", "(II)I"⟩
abbrev kN_States_moveFrom : Cond := Cond.code yN_States_moveFrom cN_States_moveFrom 10 (some .int)
abbrev wN_States_moveFrom : List Cond := kN_States_moveFrom :: TB
theorem gN_States_moveFrom : kN_States_moveFrom ∈ TB := TB_tab (i := 892) (by decide +kernel) rfl
abbrev cN_Kept_moveOf : ByteArray := prog_3_method_9_code
def yN_Kept_moveOf : MethodName := ⟨RN_Kept, "moveOf", "(II)I"⟩
abbrev kN_Kept_moveOf : Cond := Cond.code yN_Kept_moveOf cN_Kept_moveOf 3 (some .int)
abbrev wN_Kept_moveOf : List Cond := kN_Kept_moveOf :: TB
theorem gN_Kept_moveOf : kN_Kept_moveOf ∈ TB := TB_tab (i := 897) (by decide +kernel) rfl
abbrev cN_Kept_labelOf : ByteArray := prog_3_method_6_code
def yN_Kept_labelOf : MethodName := ⟨RN_Kept, "labelOf", "(I)I"⟩
abbrev kN_Kept_labelOf : Cond := Cond.code yN_Kept_labelOf cN_Kept_labelOf 2 (some .int)
abbrev wN_Kept_labelOf : List Cond := kN_Kept_labelOf :: TB
theorem gN_Kept_labelOf : kN_Kept_labelOf ∈ TB := TB_tab (i := 901) (by decide +kernel) rfl
abbrev cN_Kept_has : ByteArray := prog_3_method_5_code
def yN_Kept_has : MethodName := ⟨RN_Kept, "has", "(I)Z"⟩
abbrev kN_Kept_has : Cond := Cond.code yN_Kept_has cN_Kept_has 2 (some .boolean)
abbrev wN_Kept_has : List Cond := kN_Kept_has :: TB
theorem gN_Kept_has : kN_Kept_has ∈ TB := TB_tab (i := 905) (by decide +kernel) rfl
abbrev cN_States_goOver : ByteArray := prog_8_method_9_code
def yN_States_goOver : MethodName := ⟨RN_States, "goOver", "(III)Z"⟩
abbrev kN_States_goOver : Cond := Cond.code yN_States_goOver cN_States_goOver 8 (some .boolean)
abbrev wN_States_goOver : List Cond := kN_States_goOver :: TB
theorem gN_States_goOver : kN_States_goOver ∈ TB := TB_tab (i := 909) (by decide +kernel) rfl
abbrev cN_Math_floorMod : ByteArray := prog_18_method_50_code
def yN_Math_floorMod : MethodName := ⟨"java/lang/Math", "floorMod", "(II)I"⟩
abbrev kN_Math_floorMod : Cond := Cond.code yN_Math_floorMod cN_Math_floorMod 3 (some .int)
abbrev wN_Math_floorMod : List Cond := kN_Math_floorMod :: TB
theorem gN_Math_floorMod : kN_Math_floorMod ∈ TB := TB_tab (i := 912) (by decide +kernel) rfl
abbrev cN_Kept_countOf : ByteArray := prog_3_method_7_code
def yN_Kept_countOf : MethodName := ⟨RN_Kept, "countOf", "(I)I"⟩
abbrev kN_Kept_countOf : Cond := Cond.code yN_Kept_countOf cN_Kept_countOf 2 (some .int)
abbrev wN_Kept_countOf : List Cond := kN_Kept_countOf :: TB
theorem gN_Kept_countOf : kN_Kept_countOf ∈ TB := TB_tab (i := 917) (by decide +kernel) rfl
abbrev cN_States_follow : ByteArray := prog_8_method_10_code
def yN_States_follow : MethodName := ⟨RN_States, "follow", "(III)Z"⟩
abbrev kN_States_follow : Cond := Cond.code yN_States_follow cN_States_follow 7 (some .boolean)
abbrev wN_States_follow : List Cond := kN_States_follow :: TB
theorem gN_States_follow : kN_States_follow ∈ TB := TB_tab (i := 922) (by decide +kernel) rfl
abbrev cN_States_visit : ByteArray := prog_8_method_11_code
def yN_States_visit : MethodName := ⟨RN_States, "visit", "(II)V"⟩
abbrev kN_States_visit : Cond := Cond.code yN_States_visit cN_States_visit 3 none
abbrev wN_States_visit : List Cond := kN_States_visit :: TB
theorem gN_States_visit : kN_States_visit ∈ TB := TB_tab (i := 932) (by decide +kernel) rfl
abbrev cN_Kept_count : ByteArray := prog_3_method_4_code
def yN_Kept_count : MethodName := ⟨RN_Kept, "count", "()I"⟩
abbrev kN_Kept_count : Cond := Cond.code yN_Kept_count cN_Kept_count 1 (some .int)
abbrev wN_Kept_count : List Cond := kN_Kept_count :: TB
theorem gN_Kept_count : kN_Kept_count ∈ TB := TB_tab (i := 941) (by decide +kernel) rfl
abbrev cN_Kept_know : ByteArray := prog_3_method_10_code
def yN_Kept_know : MethodName := ⟨RN_Kept, "know", "(III)V"⟩
abbrev kN_Kept_know : Cond := Cond.code yN_Kept_know cN_Kept_know 4 none
abbrev wN_Kept_know : List Cond := kN_Kept_know :: TB
theorem gN_Kept_know : kN_Kept_know ∈ TB := TB_tab (i := 946) (by decide +kernel) rfl
abbrev cN_Law_keep : ByteArray := method_8_code
def yN_Law_keep : MethodName := ⟨RN_Law, "keep", "(LStepMachines;I)I"⟩
abbrev kN_Law_keep : Cond := Cond.codeWith yN_Law_keep cN_Law_keep 3 (some .int) [(0, 5, 8, 13)]
abbrev wN_Law_keep : List Cond := kN_Law_keep :: TB
theorem gN_Law_keep : kN_Law_keep ∈ TB := TB_tab (i := 949) (by decide +kernel) rfl
abbrev cN_Mach_keep : ByteArray := prog_1_method_10_code
def yN_Mach_keep : MethodName := ⟨RN_Mach, "keep", "(I)V"⟩
abbrev kN_Mach_keep : Cond := Cond.code yN_Mach_keep cN_Mach_keep 2 none
abbrev wN_Mach_keep : List Cond := kN_Mach_keep :: TB
theorem gN_Mach_keep : kN_Mach_keep ∈ TB := TB_tab (i := 953) (by decide +kernel) rfl
abbrev cN_States_allow : ByteArray := prog_8_method_2_code
def yN_States_allow : MethodName := ⟨RN_States, "allow", "(I)V"⟩
abbrev kN_States_allow : Cond := Cond.code yN_States_allow cN_States_allow 2 none
abbrev wN_States_allow : List Cond := kN_States_allow :: TB
theorem gN_States_allow : kN_States_allow ∈ TB := TB_tab (i := 958) (by decide +kernel) rfl
abbrev cN_Kept_allow : ByteArray := prog_3_method_2_code
def yN_Kept_allow : MethodName := ⟨RN_Kept, "allow", "(I)V"⟩
abbrev kN_Kept_allow : Cond := Cond.code yN_Kept_allow cN_Kept_allow 2 none
abbrev wN_Kept_allow : List Cond := kN_Kept_allow :: TB
theorem gN_Kept_allow : kN_Kept_allow ∈ TB := TB_tab (i := 962) (by decide +kernel) rfl
abbrev cN_Mod_init : ByteArray := prog_14_method_1_code
def yN_Mod_init : MethodName := ⟨RN_Mod, "<init>", "()V"⟩
abbrev kN_Mod_init : Cond := Cond.code yN_Mod_init cN_Mod_init 2 none
abbrev wN_Mod_init : List Cond := kN_Mod_init :: TB
theorem gN_Mod_init : kN_Mod_init ∈ TB := TB_tab (i := 969) (by decide +kernel) rfl
abbrev cN_Mod_thrown : ByteArray := prog_14_method_2_code
def yN_Mod_thrown : MethodName := ⟨RN_Mod, "thrown", "()I"⟩
abbrev kN_Mod_thrown : Cond := Cond.code yN_Mod_thrown cN_Mod_thrown 1 (some .int)
abbrev wN_Mod_thrown : List Cond := kN_Mod_thrown :: TB
theorem gN_Mod_thrown : kN_Mod_thrown ∈ TB := TB_tab (i := 1052) (by decide +kernel) rfl
abbrev cN_Mod_lay : ByteArray := prog_14_method_4_code
def yN_Mod_lay : MethodName := ⟨RN_Mod, "lay", "(I)V"⟩
abbrev kN_Mod_lay : Cond := Cond.code yN_Mod_lay cN_Mod_lay 3 none
abbrev wN_Mod_lay : List Cond := kN_Mod_lay :: TB
theorem gN_Mod_lay : kN_Mod_lay ∈ TB := TB_tab (i := 1056) (by decide +kernel) rfl
abbrev cN_Mod_step : ByteArray := prog_14_method_5_code
def yN_Mod_step : MethodName := ⟨RN_Mod, "step", "(IIIII)V"⟩
abbrev kN_Mod_step : Cond := Cond.code yN_Mod_step cN_Mod_step 7 none
abbrev wN_Mod_step : List Cond := kN_Mod_step :: TB
theorem gN_Mod_step : kN_Mod_step ∈ TB := TB_tab (i := 1060) (by decide +kernel) rfl
abbrev cN_Mod_isStep : ByteArray := prog_14_method_3_code
def yN_Mod_isStep : MethodName := ⟨RN_Mod, "isStep", "(I)Z"⟩
abbrev kN_Mod_isStep : Cond := Cond.code yN_Mod_isStep cN_Mod_isStep 2 (some .boolean)
abbrev wN_Mod_isStep : List Cond := kN_Mod_isStep :: TB
theorem gN_Mod_isStep : kN_Mod_isStep ∈ TB := TB_tab (i := 1064) (by decide +kernel) rfl
abbrev cN_Mod_begin : ByteArray := prog_14_method_6_code
def yN_Mod_begin : MethodName := ⟨RN_Mod, "begin", "(I)V"⟩
abbrev kN_Mod_begin : Cond := Cond.code yN_Mod_begin cN_Mod_begin 2 none
abbrev wN_Mod_begin : List Cond := kN_Mod_begin :: TB
theorem gN_Mod_begin : kN_Mod_begin ∈ TB := TB_tab (i := 1069) (by decide +kernel) rfl
abbrev cN_Mod_put : ByteArray := prog_14_method_7_code
def yN_Mod_put : MethodName := ⟨RN_Mod, "put", "(JI)Z"⟩
abbrev kN_Mod_put : Cond := Cond.code yN_Mod_put cN_Mod_put 5 (some .boolean)
abbrev wN_Mod_put : List Cond := kN_Mod_put :: TB
theorem gN_Mod_put : kN_Mod_put ∈ TB := TB_tab (i := 1073) (by decide +kernel) rfl
abbrev cN_Mod_clear : ByteArray := prog_14_method_8_code
def yN_Mod_clear : MethodName := ⟨RN_Mod, "clear", "()V"⟩
abbrev kN_Mod_clear : Cond := Cond.code yN_Mod_clear cN_Mod_clear 1 none
abbrev wN_Mod_clear : List Cond := kN_Mod_clear :: TB
theorem gN_Mod_clear : kN_Mod_clear ∈ TB := TB_tab (i := 1078) (by decide +kernel) rfl
abbrev cN_Mod_match : ByteArray := prog_14_method_20_code
def yN_Mod_match : MethodName := ⟨RN_Mod, "match", "(IZII)I"⟩
abbrev kN_Mod_match : Cond := Cond.code yN_Mod_match cN_Mod_match 7 (some .int)
abbrev wN_Mod_match : List Cond := kN_Mod_match :: TB
theorem gN_Mod_match : kN_Mod_match ∈ TB := TB_tab (i := 1082) (by decide +kernel) rfl
abbrev cN_Mod_isGood : ByteArray := prog_14_method_19_code
def yN_Mod_isGood : MethodName := ⟨RN_Mod, "isGood", "(II)Z"⟩
abbrev kN_Mod_isGood : Cond := Cond.code yN_Mod_isGood cN_Mod_isGood 3 (some .boolean)
abbrev wN_Mod_isGood : List Cond := kN_Mod_isGood :: TB
theorem gN_Mod_isGood : kN_Mod_isGood ∈ TB := TB_tab (i := 1086) (by decide +kernel) rfl
abbrev cN_Mod_find : ByteArray := prog_14_method_18_code
def yN_Mod_find : MethodName := ⟨RN_Mod, "find", "(IZI)I"⟩
abbrev kN_Mod_find : Cond := Cond.code yN_Mod_find cN_Mod_find 7 (some .int)
abbrev wN_Mod_find : List Cond := kN_Mod_find :: TB
theorem gN_Mod_find : kN_Mod_find ∈ TB := TB_tab (i := 1090) (by decide +kernel) rfl
abbrev cN_Mod_note : ByteArray := prog_14_method_13_code
def yN_Mod_note : MethodName := ⟨RN_Mod, "note", "(IIZ)V"⟩
abbrev kN_Mod_note : Cond := Cond.code yN_Mod_note cN_Mod_note 8 none
abbrev wN_Mod_note : List Cond := kN_Mod_note :: TB
theorem gN_Mod_note : kN_Mod_note ∈ TB := TB_tab (i := 1094) (by decide +kernel) rfl
abbrev cN_Mod_takes : ByteArray := prog_14_method_11_code
def yN_Mod_takes : MethodName := ⟨RN_Mod, "takes", "(II)Z"⟩
abbrev kN_Mod_takes : Cond := Cond.code yN_Mod_takes cN_Mod_takes 3 (some .boolean)
abbrev wN_Mod_takes : List Cond := kN_Mod_takes :: TB
theorem gN_Mod_takes : kN_Mod_takes ∈ TB := TB_tab (i := 1098) (by decide +kernel) rfl
abbrev cN_Mod_passes : ByteArray := prog_14_method_12_code
def yN_Mod_passes : MethodName := ⟨RN_Mod, "passes", "(II)Z"⟩
abbrev kN_Mod_passes : Cond := Cond.code yN_Mod_passes cN_Mod_passes 3 (some .boolean)
abbrev wN_Mod_passes : List Cond := kN_Mod_passes :: TB
theorem gN_Mod_passes : kN_Mod_passes ∈ TB := TB_tab (i := 1102) (by decide +kernel) rfl
abbrev cN_Mod_isSo : ByteArray := prog_14_method_10_code
def yN_Mod_isSo : MethodName := ⟨RN_Mod, "isSo", "(II)Z"⟩
abbrev kN_Mod_isSo : Cond := Cond.code yN_Mod_isSo cN_Mod_isSo 3 (some .boolean)
abbrev wN_Mod_isSo : List Cond := kN_Mod_isSo :: TB
theorem gN_Mod_isSo : kN_Mod_isSo ∈ TB := TB_tab (i := 1106) (by decide +kernel) rfl
abbrev cN_Mod_wordAt : ByteArray := prog_14_method_9_code
def yN_Mod_wordAt : MethodName := ⟨RN_Mod, "wordAt", "(I)Z"⟩
abbrev kN_Mod_wordAt : Cond := Cond.code yN_Mod_wordAt cN_Mod_wordAt 3 (some .boolean)
abbrev wN_Mod_wordAt : List Cond := kN_Mod_wordAt :: TB
theorem gN_Mod_wordAt : kN_Mod_wordAt ∈ TB := TB_tab (i := 1110) (by decide +kernel) rfl
abbrev cN_Mod_lastEnd : ByteArray := prog_14_method_14_code
def yN_Mod_lastEnd : MethodName := ⟨RN_Mod, "lastEnd", "(I)I"⟩
abbrev kN_Mod_lastEnd : Cond := Cond.code yN_Mod_lastEnd cN_Mod_lastEnd 7 (some .int)
abbrev wN_Mod_lastEnd : List Cond := kN_Mod_lastEnd :: TB
theorem gN_Mod_lastEnd : kN_Mod_lastEnd ∈ TB := TB_tab (i := 1114) (by decide +kernel) rfl
abbrev cN_Mod_walk : ByteArray := prog_14_method_17_code
def yN_Mod_walk : MethodName := ⟨RN_Mod, "walk", "(II)I"⟩
abbrev kN_Mod_walk : Cond := Cond.code yN_Mod_walk cN_Mod_walk 7 (some .int)
abbrev wN_Mod_walk : List Cond := kN_Mod_walk :: TB
theorem gN_Mod_walk : kN_Mod_walk ∈ TB := TB_tab (i := 1118) (by decide +kernel) rfl
abbrev cN_Mod_heap : ByteArray := prog_14_method_15_code
def yN_Mod_heap : MethodName := ⟨RN_Mod, "heap", "(I)V"⟩
abbrev kN_Mod_heap : Cond := Cond.code yN_Mod_heap cN_Mod_heap 2 none
abbrev wN_Mod_heap : List Cond := kN_Mod_heap :: TB
theorem gN_Mod_heap : kN_Mod_heap ∈ TB := TB_tab (i := 1122) (by decide +kernel) rfl
abbrev cN_Mod_undo : ByteArray := prog_14_method_16_code
def yN_Mod_undo : MethodName := ⟨RN_Mod, "undo", "(I)V"⟩
abbrev kN_Mod_undo : Cond := Cond.code yN_Mod_undo cN_Mod_undo 2 none
abbrev wN_Mod_undo : List Cond := kN_Mod_undo :: TB
theorem gN_Mod_undo : kN_Mod_undo ∈ TB := TB_tab (i := 1126) (by decide +kernel) rfl
abbrev cN_Mod_saved : ByteArray := prog_14_method_21_code
def yN_Mod_saved : MethodName := ⟨RN_Mod, "saved", "(I)I"⟩
abbrev kN_Mod_saved : Cond := Cond.code yN_Mod_saved cN_Mod_saved 2 (some .int)
abbrev wN_Mod_saved : List Cond := kN_Mod_saved :: TB
theorem gN_Mod_saved : kN_Mod_saved ∈ TB := TB_tab (i := 1130) (by decide +kernel) rfl
abbrev cN_Mod_ends : ByteArray := prog_14_method_22_code
def yN_Mod_ends : MethodName := ⟨RN_Mod, "ends", "(IZI)I"⟩
abbrev kN_Mod_ends : Cond := Cond.code yN_Mod_ends cN_Mod_ends 4 (some .int)
abbrev wN_Mod_ends : List Cond := kN_Mod_ends :: TB
theorem gN_Mod_ends : kN_Mod_ends ∈ TB := TB_tab (i := 1134) (by decide +kernel) rfl
abbrev cN_Mod_keep : ByteArray := prog_14_method_23_code
def yN_Mod_keep : MethodName := ⟨RN_Mod, "keep", "(I)V"⟩
abbrev kN_Mod_keep : Cond := Cond.code yN_Mod_keep cN_Mod_keep 2 none
abbrev wN_Mod_keep : List Cond := kN_Mod_keep :: TB
theorem gN_Mod_keep : kN_Mod_keep ∈ TB := TB_tab (i := 1138) (by decide +kernel) rfl
abbrev cN_Mod_isOneWay : ByteArray := prog_14_method_30_code
def yN_Mod_isOneWay : MethodName := ⟨RN_Mod, "isOneWay", "()Z"⟩
abbrev kN_Mod_isOneWay : Cond := Cond.code yN_Mod_isOneWay cN_Mod_isOneWay 5 (some .boolean)
abbrev wN_Mod_isOneWay : List Cond := kN_Mod_isOneWay :: TB
theorem gN_Mod_isOneWay : kN_Mod_isOneWay ∈ TB := TB_tab (i := 1142) (by decide +kernel) rfl
abbrev cN_Mod_start : ByteArray := prog_14_method_24_code
def yN_Mod_start : MethodName := ⟨RN_Mod, "start", "(I)V"⟩
abbrev kN_Mod_start : Cond := Cond.code yN_Mod_start cN_Mod_start 3 none
abbrev wN_Mod_start : List Cond := kN_Mod_start :: TB
theorem gN_Mod_start : kN_Mod_start ∈ TB := TB_tab (i := 1146) (by decide +kernel) rfl
abbrev cN_Mod_spreads : ByteArray := prog_14_method_25_code
def yN_Mod_spreads : MethodName := ⟨RN_Mod, "spreads", "(I)Z"⟩
abbrev kN_Mod_spreads : Cond := Cond.code yN_Mod_spreads cN_Mod_spreads 7 (some .boolean)
abbrev wN_Mod_spreads : List Cond := kN_Mod_spreads :: TB
theorem gN_Mod_spreads : kN_Mod_spreads ∈ TB := TB_tab (i := 1150) (by decide +kernel) rfl
abbrev cN_Mod_isWaiting : ByteArray := prog_14_method_26_code
def yN_Mod_isWaiting : MethodName := ⟨RN_Mod, "isWaiting", "(I)Z"⟩
abbrev kN_Mod_isWaiting : Cond := Cond.code yN_Mod_isWaiting cN_Mod_isWaiting 4 (some .boolean)
abbrev wN_Mod_isWaiting : List Cond := kN_Mod_isWaiting :: TB
theorem gN_Mod_isWaiting : kN_Mod_isWaiting ∈ TB := TB_tab (i := 1154) (by decide +kernel) rfl
abbrev cN_Mod_hold : ByteArray := prog_14_method_27_code
def yN_Mod_hold : MethodName := ⟨RN_Mod, "hold", "(III)V"⟩
abbrev kN_Mod_hold : Cond := Cond.code yN_Mod_hold cN_Mod_hold 4 none
abbrev wN_Mod_hold : List Cond := kN_Mod_hold :: TB
theorem gN_Mod_hold : kN_Mod_hold ∈ TB := TB_tab (i := 1158) (by decide +kernel) rfl
abbrev cN_Mod_meet : ByteArray := prog_14_method_28_code
def yN_Mod_meet : MethodName := ⟨RN_Mod, "meet", "(II)Z"⟩
abbrev kN_Mod_meet : Cond := Cond.code yN_Mod_meet cN_Mod_meet 2 (some .boolean)
abbrev wN_Mod_meet : List Cond := kN_Mod_meet :: TB
theorem gN_Mod_meet : kN_Mod_meet ∈ TB := TB_tab (i := 1161) (by decide +kernel) rfl
abbrev cN_Mod_areAlike : ByteArray := prog_14_method_29_code
def yN_Mod_areAlike : MethodName := ⟨RN_Mod, "areAlike", "(II)Z"⟩
abbrev kN_Mod_areAlike : Cond := Cond.code yN_Mod_areAlike cN_Mod_areAlike 4 (some .boolean)
abbrev wN_Mod_areAlike : List Cond := kN_Mod_areAlike :: TB
theorem gN_Mod_areAlike : kN_Mod_areAlike ∈ TB := TB_tab (i := 1165) (by decide +kernel) rfl
abbrev cN_Mod_over : ByteArray := prog_14_method_31_code
def yN_Mod_over : MethodName := ⟨RN_Mod, "over", "()I"⟩
abbrev kN_Mod_over : Cond := Cond.code yN_Mod_over cN_Mod_over 1 (some .int)
abbrev wN_Mod_over : List Cond := kN_Mod_over :: TB
theorem gN_Mod_over : kN_Mod_over ∈ TB := TB_tab (i := 1169) (by decide +kernel) rfl
theorem fN_Jobs : ∀ w ∈ u_ws RN_Jobs FN_Jobs 2, w ∈ TB := by
  intro w hw
  have h2 : w ∈ [97, 99].filterMap (fun i => tables_1[i]?) := by
    have h3 : u_ws RN_Jobs FN_Jobs 2 = [97, 99].filterMap (fun i => tables_1[i]?) := by decide +kernel
    rw [← h3]; exact hw
  obtain ⟨i, hi, h4⟩ := List.mem_filterMap.mp h2
  refine TB_tab h4 ?_
  have h5 : (u_ws RN_Jobs FN_Jobs 2).all goodWord = true := by decide +kernel
  exact List.all_eq_true.mp h5 w hw
theorem fN_Kept : ∀ w ∈ u_ws RN_Kept FN_Kept 7, w ∈ TB := by
  intro w hw
  have h2 : w ∈ [272, 274, 276, 278, 280, 282, 284].filterMap (fun i => tables_1[i]?) := by
    have h3 : u_ws RN_Kept FN_Kept 7 = [272, 274, 276, 278, 280, 282, 284].filterMap (fun i => tables_1[i]?) := by decide +kernel
    rw [← h3]; exact hw
  obtain ⟨i, hi, h4⟩ := List.mem_filterMap.mp h2
  refine TB_tab h4 ?_
  have h5 : (u_ws RN_Kept FN_Kept 7).all goodWord = true := by decide +kernel
  exact List.all_eq_true.mp h5 w hw
theorem fN_Marks : ∀ w ∈ u_ws RN_Marks FN_Marks 7, w ∈ TB := by
  intro w hw
  have h2 : w ∈ [172, 174, 176, 178, 180, 182, 184].filterMap (fun i => tables_1[i]?) := by
    have h3 : u_ws RN_Marks FN_Marks 7 = [172, 174, 176, 178, 180, 182, 184].filterMap (fun i => tables_1[i]?) := by decide +kernel
    rw [← h3]; exact hw
  obtain ⟨i, hi, h4⟩ := List.mem_filterMap.mp h2
  refine TB_tab h4 ?_
  have h5 : (u_ws RN_Marks FN_Marks 7).all goodWord = true := by decide +kernel
  exact List.all_eq_true.mp h5 w hw
theorem fN_Packed : ∀ w ∈ u_ws RN_Packed FN_Packed 1, w ∈ TB := by
  intro w hw
  have h2 : w ∈ [262].filterMap (fun i => tables_1[i]?) := by
    have h3 : u_ws RN_Packed FN_Packed 1 = [262].filterMap (fun i => tables_1[i]?) := by decide +kernel
    rw [← h3]; exact hw
  obtain ⟨i, hi, h4⟩ := List.mem_filterMap.mp h2
  refine TB_tab h4 ?_
  have h5 : (u_ws RN_Packed FN_Packed 1).all goodWord = true := by decide +kernel
  exact List.all_eq_true.mp h5 w hw
theorem fN_Program : ∀ w ∈ u_ws RN_Program FN_Program 6, w ∈ TB := by
  intro w hw
  have h2 : w ∈ [42, 44, 46, 48, 50, 52].filterMap (fun i => tables_1[i]?) := by
    have h3 : u_ws RN_Program FN_Program 6 = [42, 44, 46, 48, 50, 52].filterMap (fun i => tables_1[i]?) := by decide +kernel
    rw [← h3]; exact hw
  obtain ⟨i, hi, h4⟩ := List.mem_filterMap.mp h2
  refine TB_tab h4 ?_
  have h5 : (u_ws RN_Program FN_Program 6).all goodWord = true := by decide +kernel
  exact List.all_eq_true.mp h5 w hw
theorem fN_Row : ∀ w ∈ u_ws RN_Row FN_Row 4, w ∈ TB := by
  intro w hw
  have h2 : w ∈ [113, 115, 117, 119].filterMap (fun i => tables_1[i]?) := by
    have h3 : u_ws RN_Row FN_Row 4 = [113, 115, 117, 119].filterMap (fun i => tables_1[i]?) := by decide +kernel
    rw [← h3]; exact hw
  obtain ⟨i, hi, h4⟩ := List.mem_filterMap.mp h2
  refine TB_tab h4 ?_
  have h5 : (u_ws RN_Row FN_Row 4).all goodWord = true := by decide +kernel
  exact List.all_eq_true.mp h5 w hw
theorem fN_States : ∀ w ∈ u_ws RN_States FN_States 8, w ∈ TB := by
  intro w hw
  have h2 : w ∈ [299, 301, 303, 305, 307, 309, 311, 313].filterMap (fun i => tables_1[i]?) := by
    have h3 : u_ws RN_States FN_States 8 = [299, 301, 303, 305, 307, 309, 311, 313].filterMap (fun i => tables_1[i]?) := by decide +kernel
    rw [← h3]; exact hw
  obtain ⟨i, hi, h4⟩ := List.mem_filterMap.mp h2
  refine TB_tab h4 ?_
  have h5 : (u_ws RN_States FN_States 8).all goodWord = true := by decide +kernel
  exact List.all_eq_true.mp h5 w hw
theorem fN_Subject : ∀ w ∈ u_ws RN_Subject FN_Subject 2, w ∈ TB := by
  intro w hw
  have h2 : w ∈ [64, 66].filterMap (fun i => tables_1[i]?) := by
    have h3 : u_ws RN_Subject FN_Subject 2 = [64, 66].filterMap (fun i => tables_1[i]?) := by decide +kernel
    rw [← h3]; exact hw
  obtain ⟨i, hi, h4⟩ := List.mem_filterMap.mp h2
  refine TB_tab h4 ?_
  have h5 : (u_ws RN_Subject FN_Subject 2).all goodWord = true := by decide +kernel
  exact List.all_eq_true.mp h5 w hw
theorem fN_Table : ∀ w ∈ u_ws RN_Table FN_Table 15, w ∈ TB := by
  intro w hw
  have h2 : w ∈ [212, 214, 216, 218, 220, 222, 224, 226, 228, 230, 232, 234, 236, 238, 240].filterMap (fun i => tables_1[i]?) := by
    have h3 : u_ws RN_Table FN_Table 15 = [212, 214, 216, 218, 220, 222, 224, 226, 228, 230, 232, 234, 236, 238, 240].filterMap (fun i => tables_1[i]?) := by decide +kernel
    rw [← h3]; exact hw
  obtain ⟨i, hi, h4⟩ := List.mem_filterMap.mp h2
  refine TB_tab h4 ?_
  have h5 : (u_ws RN_Table FN_Table 15).all goodWord = true := by decide +kernel
  exact List.all_eq_true.mp h5 w hw
theorem fN_Tally : ∀ w ∈ u_ws RN_Tally FN_Tally 2, w ∈ TB := by
  intro w hw
  have h2 : w ∈ [78, 80].filterMap (fun i => tables_1[i]?) := by
    have h3 : u_ws RN_Tally FN_Tally 2 = [78, 80].filterMap (fun i => tables_1[i]?) := by decide +kernel
    rw [← h3]; exact hw
  obtain ⟨i, hi, h4⟩ := List.mem_filterMap.mp h2
  refine TB_tab h4 ?_
  have h5 : (u_ws RN_Tally FN_Tally 2).all goodWord = true := by decide +kernel
  exact List.all_eq_true.mp h5 w hw
theorem fN_Threads : ∀ w ∈ u_ws RN_Threads FN_Threads 11, w ∈ TB := by
  intro w hw
  have h2 : w ∈ [133, 135, 137, 139, 141, 143, 145, 147, 149, 151, 153].filterMap (fun i => tables_1[i]?) := by
    have h3 : u_ws RN_Threads FN_Threads 11 = [133, 135, 137, 139, 141, 143, 145, 147, 149, 151, 153].filterMap (fun i => tables_1[i]?) := by decide +kernel
    rw [← h3]; exact hw
  obtain ⟨i, hi, h4⟩ := List.mem_filterMap.mp h2
  refine TB_tab h4 ?_
  have h5 : (u_ws RN_Threads FN_Threads 11).all goodWord = true := by decide +kernel
  exact List.all_eq_true.mp h5 w hw
theorem fN_Mach : ∀ w ∈ u_ws RN_Mach FN_Mach 8, w ∈ TB := by
  intro w hw
  have h2 : w ∈ [327, 329, 331, 333, 335, 337, 339, 341].filterMap (fun i => tables_1[i]?) := by
    have h3 : u_ws RN_Mach FN_Mach 8 = [327, 329, 331, 333, 335, 337, 339, 341].filterMap (fun i => tables_1[i]?) := by decide +kernel
    rw [← h3]; exact hw
  obtain ⟨i, hi, h4⟩ := List.mem_filterMap.mp h2
  refine TB_tab h4 ?_
  have h5 : (u_ws RN_Mach FN_Mach 8).all goodWord = true := by decide +kernel
  exact List.all_eq_true.mp h5 w hw
theorem fN_Mod : ∀ w ∈ u_ws RN_Mod FN_Mod 25, w ∈ TB := by
  intro w hw
  have h2 : w ∈ [997, 999, 1001, 1003, 1005, 1007, 1009, 1011, 1013, 1015, 1017, 1019, 1021, 1023, 1025, 1027, 1029, 1031, 1033, 1035, 1037, 1039, 1041, 1043, 1045].filterMap (fun i => tables_1[i]?) := by
    have h3 : u_ws RN_Mod FN_Mod 25 = [997, 999, 1001, 1003, 1005, 1007, 1009, 1011, 1013, 1015, 1017, 1019, 1021, 1023, 1025, 1027, 1029, 1031, 1033, 1035, 1037, 1039, 1041, 1043, 1045].filterMap (fun i => tables_1[i]?) := by decide +kernel
    rw [← h3]; exact hw
  obtain ⟨i, hi, h4⟩ := List.mem_filterMap.mp h2
  refine TB_tab h4 ?_
  have h5 : (u_ws RN_Mod FN_Mod 25).all goodWord = true := by decide +kernel
  exact List.all_eq_true.mp h5 w hw
