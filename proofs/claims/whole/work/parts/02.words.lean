theorem mw_0 : Cond.initialized "StepMachinesLaw" ∈ TB := TB_tab (i := 0) (by decide +kernel) rfl
theorem mw_1 : Cond.initialized "StepMachines" ∈ TB := TB_tab (i := 1) (by decide +kernel) rfl
theorem mw_2 : Cond.initialized "StepMachines$Program" ∈ TB := TB_tab (i := 2) (by decide +kernel) rfl
theorem mw_3 : Cond.initialized "StepMachines$Subject" ∈ TB := TB_tab (i := 3) (by decide +kernel) rfl
theorem mw_4 : Cond.initialized "StepMachines$Tally" ∈ TB := TB_tab (i := 4) (by decide +kernel) rfl
theorem mw_5 : Cond.initialized "StepMachines$Threads" ∈ TB := TB_tab (i := 5) (by decide +kernel) rfl
theorem mw_6 : Cond.initialized "StepMachines$Jobs" ∈ TB := TB_tab (i := 6) (by decide +kernel) rfl
theorem mw_7 : Cond.initialized "StepMachines$Row" ∈ TB := TB_tab (i := 7) (by decide +kernel) rfl
theorem mw_8 : Cond.initialized "StepMachines$Marks" ∈ TB := TB_tab (i := 8) (by decide +kernel) rfl
theorem mw_9 : Cond.initialized "StepMachines$Table" ∈ TB := TB_tab (i := 9) (by decide +kernel) rfl
theorem mw_10 : Cond.initialized "StepMachines$States" ∈ TB := TB_tab (i := 10) (by decide +kernel) rfl
theorem mw_11 : Cond.initialized "StepMachines$Kept" ∈ TB := TB_tab (i := 11) (by decide +kernel) rfl
theorem mw_12 : Cond.initialized "StepMachines$Packed" ∈ TB := TB_tab (i := 12) (by decide +kernel) rfl
theorem mw_13 : Cond.initialized "java/util/Arrays" ∈ TB := TB_tab (i := 13) (by decide +kernel) rfl
theorem mw_14 : Cond.initialized "StepMachinesModel" ∈ TB := TB_tab (i := 14) (by decide +kernel) rfl
theorem mw_15 : Cond.initialized "java/lang/Throwable" ∈ TB := TB_tab (i := 15) (by decide +kernel) rfl
theorem mw_16 : Cond.initialized "java/lang/Exception" ∈ TB := TB_tab (i := 16) (by decide +kernel) rfl
theorem mw_17 : Cond.initialized "java/lang/RuntimeException" ∈ TB := TB_tab (i := 17) (by decide +kernel) rfl
theorem mw_18 : Cond.initialized "java/lang/IllegalArgumentException" ∈ TB := TB_tab (i := 18) (by decide +kernel) rfl
theorem mw_19 : Cond.initialized "java/lang/IndexOutOfBoundsException" ∈ TB := TB_tab (i := 19) (by decide +kernel) rfl
theorem mw_20 : Cond.initialized "java/lang/System" ∈ TB := TB_tab (i := 20) (by decide +kernel) rfl
theorem mw_21 : Cond.initialized "java/lang/Math" ∈ TB := TB_tab (i := 21) (by decide +kernel) rfl
theorem mw_22 : Cond.classLink "StepMachinesLaw" 8 "StepMachines" ∈ TB := TB_tab (i := 22) (by decide +kernel) rfl
theorem mw_23 : Cond.instantiable "StepMachines" 8 ∈ TB := TB_tab (i := 23) (by decide +kernel) rfl
theorem mw_24 : Cond.methodLink "StepMachinesLaw" 35 ⟨"StepMachines", "<init>", "()V"⟩ ∈ TB := TB_tab (i := 24) (by decide +kernel) rfl
theorem mw_25 : Cond.instanceMethod ⟨"StepMachines", "<init>", "()V"⟩ ∈ TB := TB_tab (i := 25) (by decide +kernel) rfl
theorem mw_26 : Cond.code ⟨"StepMachines", "<init>", "()V"⟩ prog_1_method_1_code 1 none ∈ TB := TB_tab (i := 26) (by decide +kernel) rfl
theorem mw_27 : Cond.methodLink "StepMachines" 1 ⟨"java/lang/Object", "<init>", "()V"⟩ ∈ TB := TB_tab (i := 27) (by decide +kernel) rfl
theorem mw_28 : Cond.instanceMethod ⟨"java/lang/Object", "<init>", "()V"⟩ ∈ TB := TB_tab (i := 28) (by decide +kernel) rfl
theorem mw_29 : Cond.code ⟨"java/lang/Object", "<init>", "()V"⟩ object_method_1_code 1 none ∈ TB := TB_tab (i := 29) (by decide +kernel) rfl
theorem mw_30 : Cond.classLink "StepMachines" 7 "StepMachines$Program" ∈ TB := TB_tab (i := 30) (by decide +kernel) rfl
theorem mw_31 : Cond.instantiable "StepMachines$Program" 6 ∈ TB := TB_tab (i := 31) (by decide +kernel) rfl
theorem mw_33 : Cond.instanceMethod ⟨"StepMachines$Program", "<init>", "()V"⟩ ∈ TB := TB_tab (i := 33) (by decide +kernel) rfl
theorem mw_34 : Cond.code ⟨"StepMachines$Program", "<init>", "()V"⟩ prog_6_method_1_code 1 none ∈ TB := TB_tab (i := 34) (by decide +kernel) rfl
theorem mw_35 : Cond.methodLink "StepMachines$Program" 3 ⟨"java/lang/Object", "<init>", "()V"⟩ ∈ TB := TB_tab (i := 35) (by decide +kernel) rfl
theorem mw_36 : Cond.fieldLink "StepMachines$Program" 9 "StepMachines$Program" "kinds" "[I" ∈ TB := TB_tab (i := 36) (by decide +kernel) rfl
theorem mw_37 : Cond.fieldLink "StepMachines$Marks" 120 "StepMachines$Program" "kinds" "[I" ∈ TB := TB_tab (i := 37) (by decide +kernel) rfl
theorem mw_38 : Cond.fieldLink "StepMachines$Threads" 157 "StepMachines$Program" "kinds" "[I" ∈ TB := TB_tab (i := 38) (by decide +kernel) rfl
theorem mw_39 : Cond.fieldLink "StepMachines$Table" 131 "StepMachines$Program" "kinds" "[I" ∈ TB := TB_tab (i := 39) (by decide +kernel) rfl
theorem mw_40 : Cond.fieldLink "StepMachines$States" 159 "StepMachines$Program" "kinds" "[I" ∈ TB := TB_tab (i := 40) (by decide +kernel) rfl
theorem mw_41 : Cond.fieldLink "StepMachines$Program" 15 "StepMachines$Program" "values" "[I" ∈ TB := TB_tab (i := 41) (by decide +kernel) rfl
theorem mw_42 : Cond.fieldLink "StepMachines$Marks" 117 "StepMachines$Program" "values" "[I" ∈ TB := TB_tab (i := 42) (by decide +kernel) rfl
theorem mw_43 : Cond.fieldLink "StepMachines$Threads" 154 "StepMachines$Program" "values" "[I" ∈ TB := TB_tab (i := 43) (by decide +kernel) rfl
theorem mw_44 : Cond.fieldLink "StepMachines$Table" 128 "StepMachines$Program" "values" "[I" ∈ TB := TB_tab (i := 44) (by decide +kernel) rfl
theorem mw_45 : Cond.fieldLink "StepMachines$States" 172 "StepMachines$Program" "values" "[I" ∈ TB := TB_tab (i := 45) (by decide +kernel) rfl
theorem mw_46 : Cond.fieldLink "StepMachines$Program" 18 "StepMachines$Program" "firsts" "[I" ∈ TB := TB_tab (i := 46) (by decide +kernel) rfl
theorem mw_47 : Cond.fieldLink "StepMachines$Threads" 118 "StepMachines$Program" "firsts" "[I" ∈ TB := TB_tab (i := 47) (by decide +kernel) rfl
theorem mw_48 : Cond.fieldLink "StepMachines$Marks" 133 "StepMachines$Program" "firsts" "[I" ∈ TB := TB_tab (i := 48) (by decide +kernel) rfl
theorem mw_49 : Cond.fieldLink "StepMachines$Table" 140 "StepMachines$Program" "firsts" "[I" ∈ TB := TB_tab (i := 49) (by decide +kernel) rfl
theorem mw_50 : Cond.fieldLink "StepMachines$States" 166 "StepMachines$Program" "firsts" "[I" ∈ TB := TB_tab (i := 50) (by decide +kernel) rfl
theorem mw_51 : Cond.fieldLink "StepMachines$Program" 21 "StepMachines$Program" "seconds" "[I" ∈ TB := TB_tab (i := 51) (by decide +kernel) rfl
theorem mw_52 : Cond.fieldLink "StepMachines$Marks" 136 "StepMachines$Program" "seconds" "[I" ∈ TB := TB_tab (i := 52) (by decide +kernel) rfl
theorem mw_53 : Cond.fieldLink "StepMachines$Threads" 161 "StepMachines$Program" "seconds" "[I" ∈ TB := TB_tab (i := 53) (by decide +kernel) rfl
theorem mw_54 : Cond.fieldLink "StepMachines$Table" 137 "StepMachines$Program" "seconds" "[I" ∈ TB := TB_tab (i := 54) (by decide +kernel) rfl
theorem mw_55 : Cond.fieldLink "StepMachines$States" 169 "StepMachines$Program" "seconds" "[I" ∈ TB := TB_tab (i := 55) (by decide +kernel) rfl
theorem mw_56 : Cond.fieldLink "StepMachines$Program" 24 "StepMachines$Program" "size" "I" ∈ TB := TB_tab (i := 56) (by decide +kernel) rfl
theorem mw_57 : Cond.fieldLink "StepMachines$Marks" 56 "StepMachines$Program" "size" "I" ∈ TB := TB_tab (i := 57) (by decide +kernel) rfl
theorem mw_58 : Cond.fieldLink "StepMachines" 166 "StepMachines$Program" "size" "I" ∈ TB := TB_tab (i := 58) (by decide +kernel) rfl
theorem mw_59 : Cond.fieldLink "StepMachines$Program" 28 "StepMachines$Program" "beginning" "I" ∈ TB := TB_tab (i := 59) (by decide +kernel) rfl
theorem mw_60 : Cond.fieldLink "StepMachines$Threads" 87 "StepMachines$Program" "beginning" "I" ∈ TB := TB_tab (i := 60) (by decide +kernel) rfl
theorem mw_61 : Cond.fieldLink "StepMachines$Table" 81 "StepMachines$Program" "beginning" "I" ∈ TB := TB_tab (i := 61) (by decide +kernel) rfl
theorem mw_62 : Cond.fieldLink "StepMachines" 113 "StepMachines$Program" "beginning" "I" ∈ TB := TB_tab (i := 62) (by decide +kernel) rfl
theorem mw_63 : Cond.fieldLink "StepMachines$Marks" 70 "StepMachines$Program" "beginning" "I" ∈ TB := TB_tab (i := 63) (by decide +kernel) rfl
theorem mw_64 : Cond.fieldLink "StepMachines$States" 90 "StepMachines$Program" "beginning" "I" ∈ TB := TB_tab (i := 64) (by decide +kernel) rfl
theorem mw_78 : Cond.arrayClass .int ∈ TB := TB_tab (i := 78) (by decide +kernel) rfl
theorem mw_79 : Cond.classLink "StepMachines" 16 "StepMachines$Subject" ∈ TB := TB_tab (i := 79) (by decide +kernel) rfl
theorem mw_80 : Cond.instantiable "StepMachines$Subject" 2 ∈ TB := TB_tab (i := 80) (by decide +kernel) rfl
theorem mw_82 : Cond.instanceMethod ⟨"StepMachines$Subject", "<init>", "()V"⟩ ∈ TB := TB_tab (i := 82) (by decide +kernel) rfl
theorem mw_83 : Cond.code ⟨"StepMachines$Subject", "<init>", "()V"⟩ prog_9_method_1_code 1 none ∈ TB := TB_tab (i := 83) (by decide +kernel) rfl
theorem mw_84 : Cond.methodLink "StepMachines$Subject" 3 ⟨"java/lang/Object", "<init>", "()V"⟩ ∈ TB := TB_tab (i := 84) (by decide +kernel) rfl
theorem mw_85 : Cond.fieldLink "StepMachines$Subject" 9 "StepMachines$Subject" "bytes" "[I" ∈ TB := TB_tab (i := 85) (by decide +kernel) rfl
theorem mw_86 : Cond.fieldLink "StepMachines$Subject" 15 "StepMachines$Subject" "length" "I" ∈ TB := TB_tab (i := 86) (by decide +kernel) rfl
theorem mw_87 : Cond.fieldLink "StepMachines$Marks" 46 "StepMachines$Subject" "length" "I" ∈ TB := TB_tab (i := 87) (by decide +kernel) rfl
theorem mw_88 : Cond.fieldLink "StepMachines$Threads" 62 "StepMachines$Subject" "length" "I" ∈ TB := TB_tab (i := 88) (by decide +kernel) rfl
theorem mw_89 : Cond.fieldLink "StepMachines$States" 73 "StepMachines$Subject" "length" "I" ∈ TB := TB_tab (i := 89) (by decide +kernel) rfl
theorem mw_90 : Cond.fieldLink "StepMachines" 117 "StepMachines$Subject" "length" "I" ∈ TB := TB_tab (i := 90) (by decide +kernel) rfl
theorem mw_91 : Cond.fieldLink "StepMachines$Table" 147 "StepMachines$Subject" "length" "I" ∈ TB := TB_tab (i := 91) (by decide +kernel) rfl
theorem mw_97 : Cond.classLink "StepMachines" 23 "StepMachines$Tally" ∈ TB := TB_tab (i := 97) (by decide +kernel) rfl
theorem mw_98 : Cond.instantiable "StepMachines$Tally" 2 ∈ TB := TB_tab (i := 98) (by decide +kernel) rfl
theorem mw_100 : Cond.instanceMethod ⟨"StepMachines$Tally", "<init>", "()V"⟩ ∈ TB := TB_tab (i := 100) (by decide +kernel) rfl
theorem mw_101 : Cond.code ⟨"StepMachines$Tally", "<init>", "()V"⟩ prog_11_method_1_code 1 none ∈ TB := TB_tab (i := 101) (by decide +kernel) rfl
theorem mw_102 : Cond.methodLink "StepMachines$Tally" 1 ⟨"java/lang/Object", "<init>", "()V"⟩ ∈ TB := TB_tab (i := 102) (by decide +kernel) rfl
theorem mw_103 : Cond.fieldLink "StepMachines$Tally" 7 "StepMachines$Tally" "taken" "I" ∈ TB := TB_tab (i := 103) (by decide +kernel) rfl
theorem mw_104 : Cond.fieldLink "StepMachines$Tally" 13 "StepMachines$Tally" "overruns" "I" ∈ TB := TB_tab (i := 104) (by decide +kernel) rfl
theorem mw_105 : Cond.fieldLink "StepMachines" 163 "StepMachines$Tally" "overruns" "I" ∈ TB := TB_tab (i := 105) (by decide +kernel) rfl
theorem mw_111 : Cond.classLink "StepMachines" 34 "StepMachines$Threads" ∈ TB := TB_tab (i := 111) (by decide +kernel) rfl
theorem mw_112 : Cond.instantiable "StepMachines$Threads" 11 ∈ TB := TB_tab (i := 112) (by decide +kernel) rfl
theorem mw_113 : Cond.methodLink "StepMachines" 36 ⟨"StepMachines$Threads", "<init>", "(LStepMachines$Program;LStepMachines$Subject;LStepMachines$Tally;[I)V"⟩ ∈ TB := TB_tab (i := 113) (by decide +kernel) rfl
theorem mw_114 : Cond.instanceMethod ⟨"StepMachines$Threads", "<init>", "(LStepMachines$Program;LStepMachines$Subject;LStepMachines$Tally;[I)V"⟩ ∈ TB := TB_tab (i := 114) (by decide +kernel) rfl
theorem mw_115 : Cond.code ⟨"StepMachines$Threads", "<init>", "(LStepMachines$Program;LStepMachines$Subject;LStepMachines$Tally;[I)V"⟩ prog_12_method_1_code 5 none ∈ TB := TB_tab (i := 115) (by decide +kernel) rfl
theorem mw_116 : Cond.methodLink "StepMachines$Threads" 3 ⟨"java/lang/Object", "<init>", "()V"⟩ ∈ TB := TB_tab (i := 116) (by decide +kernel) rfl
theorem mw_117 : Cond.classLink "StepMachines$Threads" 15 "StepMachines$Jobs" ∈ TB := TB_tab (i := 117) (by decide +kernel) rfl
theorem mw_118 : Cond.instantiable "StepMachines$Jobs" 2 ∈ TB := TB_tab (i := 118) (by decide +kernel) rfl
theorem mw_119 : Cond.methodLink "StepMachines$Threads" 17 ⟨"StepMachines$Jobs", "<init>", "(I)V"⟩ ∈ TB := TB_tab (i := 119) (by decide +kernel) rfl
theorem mw_120 : Cond.instanceMethod ⟨"StepMachines$Jobs", "<init>", "(I)V"⟩ ∈ TB := TB_tab (i := 120) (by decide +kernel) rfl
theorem mw_121 : Cond.code ⟨"StepMachines$Jobs", "<init>", "(I)V"⟩ prog_2_method_1_code 2 none ∈ TB := TB_tab (i := 121) (by decide +kernel) rfl
theorem mw_122 : Cond.methodLink "StepMachines$Jobs" 5 ⟨"java/lang/Object", "<init>", "()V"⟩ ∈ TB := TB_tab (i := 122) (by decide +kernel) rfl
theorem mw_123 : Cond.fieldLink "StepMachines$Jobs" 15 "StepMachines$Jobs" "fours" "[J" ∈ TB := TB_tab (i := 123) (by decide +kernel) rfl
theorem mw_124 : Cond.fieldLink "StepMachines$Jobs" 11 "StepMachines$Jobs" "count" "I" ∈ TB := TB_tab (i := 124) (by decide +kernel) rfl
theorem mw_130 : Cond.arrayClass .long ∈ TB := TB_tab (i := 130) (by decide +kernel) rfl
theorem mw_131 : Cond.classLink "StepMachines$Threads" 24 "StepMachines$Row" ∈ TB := TB_tab (i := 131) (by decide +kernel) rfl
theorem mw_132 : Cond.instantiable "StepMachines$Row" 4 ∈ TB := TB_tab (i := 132) (by decide +kernel) rfl
theorem mw_134 : Cond.instanceMethod ⟨"StepMachines$Row", "<init>", "()V"⟩ ∈ TB := TB_tab (i := 134) (by decide +kernel) rfl
theorem mw_135 : Cond.code ⟨"StepMachines$Row", "<init>", "()V"⟩ prog_7_method_1_code 1 none ∈ TB := TB_tab (i := 135) (by decide +kernel) rfl
theorem mw_136 : Cond.methodLink "StepMachines$Row" 3 ⟨"java/lang/Object", "<init>", "()V"⟩ ∈ TB := TB_tab (i := 136) (by decide +kernel) rfl
theorem mw_137 : Cond.fieldLink "StepMachines$Row" 9 "StepMachines$Row" "steps" "[I" ∈ TB := TB_tab (i := 137) (by decide +kernel) rfl
theorem mw_138 : Cond.fieldLink "StepMachines$Threads" 102 "StepMachines$Row" "steps" "[I" ∈ TB := TB_tab (i := 138) (by decide +kernel) rfl
theorem mw_139 : Cond.fieldLink "StepMachines$Kept" 77 "StepMachines$Row" "steps" "[I" ∈ TB := TB_tab (i := 139) (by decide +kernel) rfl
theorem mw_140 : Cond.fieldLink "StepMachines$Row" 15 "StepMachines$Row" "count" "I" ∈ TB := TB_tab (i := 140) (by decide +kernel) rfl
theorem mw_141 : Cond.fieldLink "StepMachines$Threads" 99 "StepMachines$Row" "count" "I" ∈ TB := TB_tab (i := 141) (by decide +kernel) rfl
theorem mw_142 : Cond.fieldLink "StepMachines$States" 122 "StepMachines$Row" "count" "I" ∈ TB := TB_tab (i := 142) (by decide +kernel) rfl
theorem mw_143 : Cond.fieldLink "StepMachines$Kept" 72 "StepMachines$Row" "count" "I" ∈ TB := TB_tab (i := 143) (by decide +kernel) rfl
theorem mw_144 : Cond.fieldLink "StepMachines$Row" 19 "StepMachines$Row" "met" "[I" ∈ TB := TB_tab (i := 144) (by decide +kernel) rfl
theorem mw_145 : Cond.fieldLink "StepMachines$Row" 22 "StepMachines$Row" "turn" "I" ∈ TB := TB_tab (i := 145) (by decide +kernel) rfl
theorem mw_155 : Cond.fieldLink "StepMachines$Threads" 44 "StepMachines$Threads" "program" "LStepMachines$Program;" ∈ TB := TB_tab (i := 155) (by decide +kernel) rfl
theorem mw_156 : Cond.fieldLink "StepMachines$Threads" 48 "StepMachines$Threads" "subject" "LStepMachines$Subject;" ∈ TB := TB_tab (i := 156) (by decide +kernel) rfl
theorem mw_157 : Cond.fieldLink "StepMachines$Threads" 52 "StepMachines$Threads" "tally" "LStepMachines$Tally;" ∈ TB := TB_tab (i := 157) (by decide +kernel) rfl
theorem mw_158 : Cond.fieldLink "StepMachines$Threads" 56 "StepMachines$Threads" "best" "[I" ∈ TB := TB_tab (i := 158) (by decide +kernel) rfl
theorem mw_159 : Cond.fieldLink "StepMachines$Threads" 9 "StepMachines$Threads" "now" "[I" ∈ TB := TB_tab (i := 159) (by decide +kernel) rfl
theorem mw_160 : Cond.fieldLink "StepMachines$Threads" 20 "StepMachines$Threads" "jobs" "LStepMachines$Jobs;" ∈ TB := TB_tab (i := 160) (by decide +kernel) rfl
theorem mw_161 : Cond.fieldLink "StepMachines$Threads" 27 "StepMachines$Threads" "here" "LStepMachines$Row;" ∈ TB := TB_tab (i := 161) (by decide +kernel) rfl
theorem mw_162 : Cond.fieldLink "StepMachines$Threads" 31 "StepMachines$Threads" "next" "LStepMachines$Row;" ∈ TB := TB_tab (i := 162) (by decide +kernel) rfl
theorem mw_163 : Cond.fieldLink "StepMachines$Threads" 34 "StepMachines$Threads" "savedHere" "[I" ∈ TB := TB_tab (i := 163) (by decide +kernel) rfl
theorem mw_164 : Cond.fieldLink "StepMachines$Threads" 37 "StepMachines$Threads" "savedNext" "[I" ∈ TB := TB_tab (i := 164) (by decide +kernel) rfl
theorem mw_165 : Cond.fieldLink "StepMachines$Threads" 40 "StepMachines$Threads" "so" "I" ∈ TB := TB_tab (i := 165) (by decide +kernel) rfl
theorem mw_189 : Cond.classLink "StepMachines" 43 "StepMachines$Marks" ∈ TB := TB_tab (i := 189) (by decide +kernel) rfl
theorem mw_190 : Cond.instantiable "StepMachines$Marks" 7 ∈ TB := TB_tab (i := 190) (by decide +kernel) rfl
theorem mw_191 : Cond.methodLink "StepMachines" 45 ⟨"StepMachines$Marks", "<init>", "(LStepMachines$Program;LStepMachines$Subject;LStepMachines$Tally;[I)V"⟩ ∈ TB := TB_tab (i := 191) (by decide +kernel) rfl
theorem mw_192 : Cond.instanceMethod ⟨"StepMachines$Marks", "<init>", "(LStepMachines$Program;LStepMachines$Subject;LStepMachines$Tally;[I)V"⟩ ∈ TB := TB_tab (i := 192) (by decide +kernel) rfl
theorem mw_193 : Cond.code ⟨"StepMachines$Marks", "<init>", "(LStepMachines$Program;LStepMachines$Subject;LStepMachines$Tally;[I)V"⟩ prog_4_method_1_code 5 none ∈ TB := TB_tab (i := 193) (by decide +kernel) rfl
theorem mw_194 : Cond.methodLink "StepMachines$Marks" 3 ⟨"java/lang/Object", "<init>", "()V"⟩ ∈ TB := TB_tab (i := 194) (by decide +kernel) rfl
theorem mw_195 : Cond.classLink "StepMachines$Marks" 15 "StepMachines$Jobs" ∈ TB := TB_tab (i := 195) (by decide +kernel) rfl
theorem mw_196 : Cond.constant "StepMachines$Marks" 17 (40202 : Int32) ∈ TB := TB_tab (i := 196) (by decide +kernel) rfl
theorem mw_197 : Cond.methodLink "StepMachines$Marks" 18 ⟨"StepMachines$Jobs", "<init>", "(I)V"⟩ ∈ TB := TB_tab (i := 197) (by decide +kernel) rfl
theorem mw_198 : Cond.fieldLink "StepMachines$Marks" 28 "StepMachines$Marks" "program" "LStepMachines$Program;" ∈ TB := TB_tab (i := 198) (by decide +kernel) rfl
theorem mw_199 : Cond.fieldLink "StepMachines$Marks" 32 "StepMachines$Marks" "subject" "LStepMachines$Subject;" ∈ TB := TB_tab (i := 199) (by decide +kernel) rfl
theorem mw_200 : Cond.fieldLink "StepMachines$Marks" 36 "StepMachines$Marks" "tally" "LStepMachines$Tally;" ∈ TB := TB_tab (i := 200) (by decide +kernel) rfl
theorem mw_201 : Cond.fieldLink "StepMachines$Marks" 40 "StepMachines$Marks" "best" "[I" ∈ TB := TB_tab (i := 201) (by decide +kernel) rfl
theorem mw_202 : Cond.fieldLink "StepMachines$Marks" 9 "StepMachines$Marks" "now" "[I" ∈ TB := TB_tab (i := 202) (by decide +kernel) rfl
theorem mw_203 : Cond.fieldLink "StepMachines$Marks" 21 "StepMachines$Marks" "jobs" "LStepMachines$Jobs;" ∈ TB := TB_tab (i := 203) (by decide +kernel) rfl
theorem mw_204 : Cond.fieldLink "StepMachines$Marks" 25 "StepMachines$Marks" "tried" "[I" ∈ TB := TB_tab (i := 204) (by decide +kernel) rfl
theorem mw_220 : Cond.classLink "StepMachines" 50 "StepMachines$Table" ∈ TB := TB_tab (i := 220) (by decide +kernel) rfl
theorem mw_221 : Cond.instantiable "StepMachines$Table" 15 ∈ TB := TB_tab (i := 221) (by decide +kernel) rfl
theorem mw_222 : Cond.methodLink "StepMachines" 52 ⟨"StepMachines$Table", "<init>", "(LStepMachines$Program;LStepMachines$Subject;LStepMachines$Tally;[I)V"⟩ ∈ TB := TB_tab (i := 222) (by decide +kernel) rfl
theorem mw_223 : Cond.instanceMethod ⟨"StepMachines$Table", "<init>", "(LStepMachines$Program;LStepMachines$Subject;LStepMachines$Tally;[I)V"⟩ ∈ TB := TB_tab (i := 223) (by decide +kernel) rfl
theorem mw_224 : Cond.code ⟨"StepMachines$Table", "<init>", "(LStepMachines$Program;LStepMachines$Subject;LStepMachines$Tally;[I)V"⟩ prog_10_method_1_code 5 none ∈ TB := TB_tab (i := 224) (by decide +kernel) rfl
theorem mw_225 : Cond.methodLink "StepMachines$Table" 5 ⟨"java/lang/Object", "<init>", "()V"⟩ ∈ TB := TB_tab (i := 225) (by decide +kernel) rfl
theorem mw_226 : Cond.classLink "StepMachines$Table" 30 "StepMachines$Row" ∈ TB := TB_tab (i := 226) (by decide +kernel) rfl
theorem mw_228 : Cond.classLink "StepMachines$Table" 37 "StepMachines$Jobs" ∈ TB := TB_tab (i := 228) (by decide +kernel) rfl
theorem mw_229 : Cond.methodLink "StepMachines$Table" 39 ⟨"StepMachines$Jobs", "<init>", "(I)V"⟩ ∈ TB := TB_tab (i := 229) (by decide +kernel) rfl
theorem mw_230 : Cond.fieldLink "StepMachines$Table" 57 "StepMachines$Table" "program" "LStepMachines$Program;" ∈ TB := TB_tab (i := 230) (by decide +kernel) rfl
theorem mw_231 : Cond.fieldLink "StepMachines$Table" 61 "StepMachines$Table" "subject" "LStepMachines$Subject;" ∈ TB := TB_tab (i := 231) (by decide +kernel) rfl
theorem mw_232 : Cond.fieldLink "StepMachines$Table" 65 "StepMachines$Table" "tally" "LStepMachines$Tally;" ∈ TB := TB_tab (i := 232) (by decide +kernel) rfl
theorem mw_233 : Cond.fieldLink "StepMachines$Table" 69 "StepMachines$Table" "best" "[I" ∈ TB := TB_tab (i := 233) (by decide +kernel) rfl
theorem mw_234 : Cond.fieldLink "StepMachines$Table" 11 "StepMachines$Table" "now" "[I" ∈ TB := TB_tab (i := 234) (by decide +kernel) rfl
theorem mw_235 : Cond.fieldLink "StepMachines$Table" 15 "StepMachines$Table" "actions" "[I" ∈ TB := TB_tab (i := 235) (by decide +kernel) rfl
theorem mw_236 : Cond.fieldLink "StepMachines$Table" 18 "StepMachines$Table" "endings" "[I" ∈ TB := TB_tab (i := 236) (by decide +kernel) rfl
theorem mw_237 : Cond.fieldLink "StepMachines$Table" 21 "StepMachines$Table" "stepOfRow" "[I" ∈ TB := TB_tab (i := 237) (by decide +kernel) rfl
theorem mw_238 : Cond.fieldLink "StepMachines$Table" 24 "StepMachines$Table" "rowOfStep" "[I" ∈ TB := TB_tab (i := 238) (by decide +kernel) rfl
theorem mw_239 : Cond.fieldLink "StepMachines$Table" 27 "StepMachines$Table" "since" "[I" ∈ TB := TB_tab (i := 239) (by decide +kernel) rfl
theorem mw_240 : Cond.fieldLink "StepMachines$Table" 33 "StepMachines$Table" "walked" "LStepMachines$Row;" ∈ TB := TB_tab (i := 240) (by decide +kernel) rfl
theorem mw_241 : Cond.fieldLink "StepMachines$Table" 42 "StepMachines$Table" "jobs" "LStepMachines$Jobs;" ∈ TB := TB_tab (i := 241) (by decide +kernel) rfl
theorem mw_242 : Cond.fieldLink "StepMachines$Table" 46 "StepMachines$Table" "rows" "I" ∈ TB := TB_tab (i := 242) (by decide +kernel) rfl
theorem mw_243 : Cond.fieldLink "StepMachines$Table" 50 "StepMachines$Table" "made" "Z" ∈ TB := TB_tab (i := 243) (by decide +kernel) rfl
theorem mw_244 : Cond.fieldLink "StepMachines$Table" 54 "StepMachines$Table" "single" "Z" ∈ TB := TB_tab (i := 244) (by decide +kernel) rfl
theorem mw_276 : Cond.classLink "StepMachines" 57 "StepMachines$States" ∈ TB := TB_tab (i := 276) (by decide +kernel) rfl
theorem mw_277 : Cond.instantiable "StepMachines$States" 8 ∈ TB := TB_tab (i := 277) (by decide +kernel) rfl
theorem mw_278 : Cond.methodLink "StepMachines" 59 ⟨"StepMachines$States", "<init>", "(LStepMachines$Program;LStepMachines$Subject;LStepMachines$Tally;)V"⟩ ∈ TB := TB_tab (i := 278) (by decide +kernel) rfl
theorem mw_279 : Cond.instanceMethod ⟨"StepMachines$States", "<init>", "(LStepMachines$Program;LStepMachines$Subject;LStepMachines$Tally;)V"⟩ ∈ TB := TB_tab (i := 279) (by decide +kernel) rfl
theorem mw_280 : Cond.code ⟨"StepMachines$States", "<init>", "(LStepMachines$Program;LStepMachines$Subject;LStepMachines$Tally;)V"⟩ prog_8_method_1_code 4 none ∈ TB := TB_tab (i := 280) (by decide +kernel) rfl
theorem mw_281 : Cond.methodLink "StepMachines$States" 3 ⟨"java/lang/Object", "<init>", "()V"⟩ ∈ TB := TB_tab (i := 281) (by decide +kernel) rfl
theorem mw_282 : Cond.classLink "StepMachines$States" 9 "StepMachines$Kept" ∈ TB := TB_tab (i := 282) (by decide +kernel) rfl
theorem mw_283 : Cond.instantiable "StepMachines$Kept" 7 ∈ TB := TB_tab (i := 283) (by decide +kernel) rfl
theorem mw_285 : Cond.instanceMethod ⟨"StepMachines$Kept", "<init>", "()V"⟩ ∈ TB := TB_tab (i := 285) (by decide +kernel) rfl
theorem mw_286 : Cond.code ⟨"StepMachines$Kept", "<init>", "()V"⟩ prog_3_method_1_code 1 none ∈ TB := TB_tab (i := 286) (by decide +kernel) rfl
theorem mw_287 : Cond.methodLink "StepMachines$Kept" 7 ⟨"java/lang/Object", "<init>", "()V"⟩ ∈ TB := TB_tab (i := 287) (by decide +kernel) rfl
theorem mw_288 : Cond.classLink "StepMachines$Kept" 3 "StepMachines$Packed" ∈ TB := TB_tab (i := 288) (by decide +kernel) rfl
theorem mw_289 : Cond.instantiable "StepMachines$Packed" 1 ∈ TB := TB_tab (i := 289) (by decide +kernel) rfl
theorem mw_290 : Cond.methodLink "StepMachines$Kept" 13 ⟨"StepMachines$Packed", "<init>", "(I)V"⟩ ∈ TB := TB_tab (i := 290) (by decide +kernel) rfl
theorem mw_291 : Cond.instanceMethod ⟨"StepMachines$Packed", "<init>", "(I)V"⟩ ∈ TB := TB_tab (i := 291) (by decide +kernel) rfl
theorem mw_292 : Cond.code ⟨"StepMachines$Packed", "<init>", "(I)V"⟩ prog_5_method_1_code 2 none ∈ TB := TB_tab (i := 292) (by decide +kernel) rfl
theorem mw_293 : Cond.methodLink "StepMachines$Packed" 1 ⟨"java/lang/Object", "<init>", "()V"⟩ ∈ TB := TB_tab (i := 293) (by decide +kernel) rfl
theorem mw_294 : Cond.fieldLink "StepMachines$Packed" 9 "StepMachines$Packed" "eights" "[J" ∈ TB := TB_tab (i := 294) (by decide +kernel) rfl
theorem mw_298 : Cond.fieldLink "StepMachines$Kept" 16 "StepMachines$Kept" "steps" "LStepMachines$Packed;" ∈ TB := TB_tab (i := 298) (by decide +kernel) rfl
theorem mw_299 : Cond.fieldLink "StepMachines$Kept" 20 "StepMachines$Kept" "moves" "LStepMachines$Packed;" ∈ TB := TB_tab (i := 299) (by decide +kernel) rfl
theorem mw_300 : Cond.fieldLink "StepMachines$Kept" 23 "StepMachines$Kept" "counts" "[I" ∈ TB := TB_tab (i := 300) (by decide +kernel) rfl
theorem mw_301 : Cond.fieldLink "StepMachines$Kept" 27 "StepMachines$Kept" "labels" "[I" ∈ TB := TB_tab (i := 301) (by decide +kernel) rfl
theorem mw_302 : Cond.fieldLink "StepMachines$Kept" 30 "StepMachines$Kept" "sums" "[I" ∈ TB := TB_tab (i := 302) (by decide +kernel) rfl
theorem mw_303 : Cond.fieldLink "StepMachines$Kept" 33 "StepMachines$Kept" "most" "I" ∈ TB := TB_tab (i := 303) (by decide +kernel) rfl
theorem mw_304 : Cond.fieldLink "StepMachines$Kept" 37 "StepMachines$Kept" "kept" "I" ∈ TB := TB_tab (i := 304) (by decide +kernel) rfl
theorem mw_320 : Cond.classLink "StepMachines$States" 18 "StepMachines$Row" ∈ TB := TB_tab (i := 320) (by decide +kernel) rfl
theorem mw_322 : Cond.classLink "StepMachines$States" 28 "StepMachines$Jobs" ∈ TB := TB_tab (i := 322) (by decide +kernel) rfl
theorem mw_323 : Cond.methodLink "StepMachines$States" 30 ⟨"StepMachines$Jobs", "<init>", "(I)V"⟩ ∈ TB := TB_tab (i := 323) (by decide +kernel) rfl
theorem mw_324 : Cond.fieldLink "StepMachines$States" 41 "StepMachines$States" "program" "LStepMachines$Program;" ∈ TB := TB_tab (i := 324) (by decide +kernel) rfl
theorem mw_325 : Cond.fieldLink "StepMachines$States" 45 "StepMachines$States" "subject" "LStepMachines$Subject;" ∈ TB := TB_tab (i := 325) (by decide +kernel) rfl
theorem mw_326 : Cond.fieldLink "StepMachines$States" 49 "StepMachines$States" "tally" "LStepMachines$Tally;" ∈ TB := TB_tab (i := 326) (by decide +kernel) rfl
theorem mw_327 : Cond.fieldLink "StepMachines$States" 12 "StepMachines$States" "kept" "LStepMachines$Kept;" ∈ TB := TB_tab (i := 327) (by decide +kernel) rfl
theorem mw_328 : Cond.fieldLink "StepMachines$States" 21 "StepMachines$States" "walked" "LStepMachines$Row;" ∈ TB := TB_tab (i := 328) (by decide +kernel) rfl
theorem mw_329 : Cond.fieldLink "StepMachines$States" 25 "StepMachines$States" "onward" "LStepMachines$Row;" ∈ TB := TB_tab (i := 329) (by decide +kernel) rfl
theorem mw_330 : Cond.fieldLink "StepMachines$States" 33 "StepMachines$States" "jobs" "LStepMachines$Jobs;" ∈ TB := TB_tab (i := 330) (by decide +kernel) rfl
theorem mw_331 : Cond.fieldLink "StepMachines$States" 37 "StepMachines$States" "so" "I" ∈ TB := TB_tab (i := 331) (by decide +kernel) rfl
theorem mw_349 : Cond.methodLink "StepMachines" 66 ⟨"java/util/Arrays", "fill", "([II)V"⟩ ∈ TB := TB_tab (i := 349) (by decide +kernel) rfl
theorem mw_350 : Cond.static ⟨"java/util/Arrays", "fill", "([II)V"⟩ ∈ TB := TB_tab (i := 350) (by decide +kernel) rfl
theorem mw_351 : Cond.code ⟨"java/util/Arrays", "fill", "([II)V"⟩ prog_23_method_103_code 4 none ∈ TB := TB_tab (i := 351) (by decide +kernel) rfl
theorem mw_352 : Cond.fieldLink "StepMachines" 10 "StepMachines" "program" "LStepMachines$Program;" ∈ TB := TB_tab (i := 352) (by decide +kernel) rfl
theorem mw_353 : Cond.fieldLink "StepMachines" 19 "StepMachines" "subject" "LStepMachines$Subject;" ∈ TB := TB_tab (i := 353) (by decide +kernel) rfl
theorem mw_354 : Cond.fieldLink "StepMachines" 26 "StepMachines" "tally" "LStepMachines$Tally;" ∈ TB := TB_tab (i := 354) (by decide +kernel) rfl
theorem mw_355 : Cond.fieldLink "StepMachines" 30 "StepMachines" "latest" "[I" ∈ TB := TB_tab (i := 355) (by decide +kernel) rfl
theorem mw_356 : Cond.fieldLink "StepMachines" 39 "StepMachines" "threads" "LStepMachines$Threads;" ∈ TB := TB_tab (i := 356) (by decide +kernel) rfl
theorem mw_357 : Cond.fieldLink "StepMachines" 46 "StepMachines" "marks" "LStepMachines$Marks;" ∈ TB := TB_tab (i := 357) (by decide +kernel) rfl
theorem mw_358 : Cond.fieldLink "StepMachines" 53 "StepMachines" "table" "LStepMachines$Table;" ∈ TB := TB_tab (i := 358) (by decide +kernel) rfl
theorem mw_359 : Cond.fieldLink "StepMachines" 62 "StepMachines" "states" "LStepMachines$States;" ∈ TB := TB_tab (i := 359) (by decide +kernel) rfl
theorem mw_377 : Cond.methodLink "StepMachinesLaw" 58 ⟨"StepMachines", "put", "(JI)Z"⟩ ∈ TB := TB_tab (i := 377) (by decide +kernel) rfl
theorem mw_378 : Cond.instanceMethod ⟨"StepMachines", "put", "(JI)Z"⟩ ∈ TB := TB_tab (i := 378) (by decide +kernel) rfl
theorem mw_379 : Cond.selects "StepMachines" ⟨"StepMachines", "put", "(JI)Z"⟩ ⟨"StepMachines", "put", "(JI)Z"⟩ ∈ TB := TB_tab (i := 379) (by decide +kernel) rfl
theorem mw_380 : Cond.code ⟨"StepMachines", "put", "(JI)Z"⟩ prog_1_method_5_code 5 (some .boolean) ∈ TB := TB_tab (i := 380) (by decide +kernel) rfl
theorem mw_381 : Cond.methodLink "StepMachines" 120 ⟨"StepMachines$Subject", "append", "(I)V"⟩ ∈ TB := TB_tab (i := 381) (by decide +kernel) rfl
theorem mw_382 : Cond.instanceMethod ⟨"StepMachines$Subject", "append", "(I)V"⟩ ∈ TB := TB_tab (i := 382) (by decide +kernel) rfl
theorem mw_383 : Cond.selects "StepMachines$Subject" ⟨"StepMachines$Subject", "append", "(I)V"⟩ ⟨"StepMachines$Subject", "append", "(I)V"⟩ ∈ TB := TB_tab (i := 383) (by decide +kernel) rfl
theorem mw_384 : Cond.code ⟨"StepMachines$Subject", "append", "(I)V"⟩ prog_9_method_4_code 2 none ∈ TB := TB_tab (i := 384) (by decide +kernel) rfl
theorem mw_385 : Cond.methodLink "StepMachinesLaw" 63 ⟨"StepMachines", "clear", "()V"⟩ ∈ TB := TB_tab (i := 385) (by decide +kernel) rfl
theorem mw_386 : Cond.instanceMethod ⟨"StepMachines", "clear", "()V"⟩ ∈ TB := TB_tab (i := 386) (by decide +kernel) rfl
theorem mw_387 : Cond.selects "StepMachines" ⟨"StepMachines", "clear", "()V"⟩ ⟨"StepMachines", "clear", "()V"⟩ ∈ TB := TB_tab (i := 387) (by decide +kernel) rfl
theorem mw_388 : Cond.code ⟨"StepMachines", "clear", "()V"⟩ prog_1_method_6_code 1 none ∈ TB := TB_tab (i := 388) (by decide +kernel) rfl
theorem mw_389 : Cond.methodLink "StepMachinesLaw" 71 ⟨"StepMachines", "saved", "(I)I"⟩ ∈ TB := TB_tab (i := 389) (by decide +kernel) rfl
theorem mw_390 : Cond.instanceMethod ⟨"StepMachines", "saved", "(I)I"⟩ ∈ TB := TB_tab (i := 390) (by decide +kernel) rfl
theorem mw_391 : Cond.selects "StepMachines" ⟨"StepMachines", "saved", "(I)I"⟩ ⟨"StepMachines", "saved", "(I)I"⟩ ∈ TB := TB_tab (i := 391) (by decide +kernel) rfl
theorem mw_392 : Cond.code ⟨"StepMachines", "saved", "(I)I"⟩ prog_1_method_8_code 2 (some .int) ∈ TB := TB_tab (i := 392) (by decide +kernel) rfl
theorem mw_393 : Cond.methodLink "StepMachinesLaw" 83 ⟨"StepMachines", "isOneWay", "()Z"⟩ ∈ TB := TB_tab (i := 393) (by decide +kernel) rfl
theorem mw_394 : Cond.instanceMethod ⟨"StepMachines", "isOneWay", "()Z"⟩ ∈ TB := TB_tab (i := 394) (by decide +kernel) rfl
theorem mw_395 : Cond.selects "StepMachines" ⟨"StepMachines", "isOneWay", "()Z"⟩ ⟨"StepMachines", "isOneWay", "()Z"⟩ ∈ TB := TB_tab (i := 395) (by decide +kernel) rfl
theorem mw_396 : Cond.code ⟨"StepMachines", "isOneWay", "()Z"⟩ prog_1_method_11_code 1 (some .boolean) ∈ TB := TB_tab (i := 396) (by decide +kernel) rfl
theorem mw_397 : Cond.methodLink "StepMachines" 159 ⟨"StepMachines$Table", "isSingleMinded", "()Z"⟩ ∈ TB := TB_tab (i := 397) (by decide +kernel) rfl
theorem mw_398 : Cond.instanceMethod ⟨"StepMachines$Table", "isSingleMinded", "()Z"⟩ ∈ TB := TB_tab (i := 398) (by decide +kernel) rfl
theorem mw_399 : Cond.selects "StepMachines$Table" ⟨"StepMachines$Table", "isSingleMinded", "()Z"⟩ ⟨"StepMachines$Table", "isSingleMinded", "()Z"⟩ ∈ TB := TB_tab (i := 399) (by decide +kernel) rfl
theorem mw_400 : Cond.code ⟨"StepMachines$Table", "isSingleMinded", "()Z"⟩ prog_10_method_3_code 1 (some .boolean) ∈ TB := TB_tab (i := 400) (by decide +kernel) rfl
theorem mw_401 : Cond.methodLink "StepMachines$Table" 72 ⟨"StepMachines$Table", "make", "()V"⟩ ∈ TB := TB_tab (i := 401) (by decide +kernel) rfl
theorem mw_403 : Cond.instanceMethod ⟨"StepMachines$Table", "make", "()V"⟩ ∈ TB := TB_tab (i := 403) (by decide +kernel) rfl
theorem mw_404 : Cond.code ⟨"StepMachines$Table", "make", "()V"⟩ prog_10_method_4_code 2 none ∈ TB := TB_tab (i := 404) (by decide +kernel) rfl
theorem mw_405 : Cond.methodLink "StepMachines$Table" 75 ⟨"java/util/Arrays", "fill", "([II)V"⟩ ∈ TB := TB_tab (i := 405) (by decide +kernel) rfl
theorem mw_406 : Cond.methodLink "StepMachines$Table" 86 ⟨"StepMachines$Table", "rowFor", "(I)I"⟩ ∈ TB := TB_tab (i := 406) (by decide +kernel) rfl
theorem mw_408 : Cond.instanceMethod ⟨"StepMachines$Table", "rowFor", "(I)I"⟩ ∈ TB := TB_tab (i := 408) (by decide +kernel) rfl
theorem mw_409 : Cond.code ⟨"StepMachines$Table", "rowFor", "(I)I"⟩ prog_10_method_5_code 2 (some .int) ∈ TB := TB_tab (i := 409) (by decide +kernel) rfl
theorem mw_410 : Cond.methodLink "StepMachines$Table" 90 ⟨"StepMachines$Table", "makeRow", "(I)Z"⟩ ∈ TB := TB_tab (i := 410) (by decide +kernel) rfl
theorem mw_412 : Cond.instanceMethod ⟨"StepMachines$Table", "makeRow", "(I)Z"⟩ ∈ TB := TB_tab (i := 412) (by decide +kernel) rfl
theorem mw_413 : Cond.code ⟨"StepMachines$Table", "makeRow", "(I)Z"⟩ prog_10_method_6_code 5 (some .boolean) ∈ TB := TB_tab (i := 413) (by decide +kernel) rfl
theorem mw_414 : Cond.methodLink "StepMachines$Table" 94 ⟨"StepMachines$Row", "empty", "()V"⟩ ∈ TB := TB_tab (i := 414) (by decide +kernel) rfl
theorem mw_415 : Cond.instanceMethod ⟨"StepMachines$Row", "empty", "()V"⟩ ∈ TB := TB_tab (i := 415) (by decide +kernel) rfl
theorem mw_416 : Cond.selects "StepMachines$Row" ⟨"StepMachines$Row", "empty", "()V"⟩ ⟨"StepMachines$Row", "empty", "()V"⟩ ∈ TB := TB_tab (i := 416) (by decide +kernel) rfl
theorem mw_417 : Cond.code ⟨"StepMachines$Row", "empty", "()V"⟩ prog_7_method_2_code 1 none ∈ TB := TB_tab (i := 417) (by decide +kernel) rfl
theorem mw_418 : Cond.methodLink "StepMachines$Table" 97 ⟨"StepMachines$Jobs", "drop", "()V"⟩ ∈ TB := TB_tab (i := 418) (by decide +kernel) rfl
theorem mw_419 : Cond.instanceMethod ⟨"StepMachines$Jobs", "drop", "()V"⟩ ∈ TB := TB_tab (i := 419) (by decide +kernel) rfl
theorem mw_420 : Cond.selects "StepMachines$Jobs" ⟨"StepMachines$Jobs", "drop", "()V"⟩ ⟨"StepMachines$Jobs", "drop", "()V"⟩ ∈ TB := TB_tab (i := 420) (by decide +kernel) rfl
theorem mw_421 : Cond.code ⟨"StepMachines$Jobs", "drop", "()V"⟩ prog_2_method_8_code 1 none ∈ TB := TB_tab (i := 421) (by decide +kernel) rfl
theorem mw_422 : Cond.methodLink "StepMachines$Table" 100 ⟨"StepMachines$Table", "later", "(II)V"⟩ ∈ TB := TB_tab (i := 422) (by decide +kernel) rfl
theorem mw_424 : Cond.instanceMethod ⟨"StepMachines$Table", "later", "(II)V"⟩ ∈ TB := TB_tab (i := 424) (by decide +kernel) rfl
theorem mw_425 : Cond.code ⟨"StepMachines$Table", "later", "(II)V"⟩ prog_10_method_7_code 3 none ∈ TB := TB_tab (i := 425) (by decide +kernel) rfl
theorem mw_426 : Cond.methodLink "StepMachines$Table" 125 ⟨"StepMachines$Jobs", "add", "(I)V"⟩ ∈ TB := TB_tab (i := 426) (by decide +kernel) rfl
theorem mw_427 : Cond.instanceMethod ⟨"StepMachines$Jobs", "add", "(I)V"⟩ ∈ TB := TB_tab (i := 427) (by decide +kernel) rfl
theorem mw_428 : Cond.selects "StepMachines$Jobs" ⟨"StepMachines$Jobs", "add", "(I)V"⟩ ⟨"StepMachines$Jobs", "add", "(I)V"⟩ ∈ TB := TB_tab (i := 428) (by decide +kernel) rfl
theorem mw_429 : Cond.code ⟨"StepMachines$Jobs", "add", "(I)V"⟩ prog_2_method_10_code 4 none ∈ TB := TB_tab (i := 429) (by decide +kernel) rfl
theorem mw_430 : Cond.constantLong "StepMachines$Jobs" 20 (65535 : Int64) ∈ TB := TB_tab (i := 430) (by decide +kernel) rfl
theorem mw_431 : Cond.constantLong "StepMachines$Jobs" 22 (-1 : Int64) ∈ TB := TB_tab (i := 431) (by decide +kernel) rfl
theorem mw_432 : Cond.constant "StepMachines$Table" 104 (1000000 : Int32) ∈ TB := TB_tab (i := 432) (by decide +kernel) rfl
theorem mw_433 : Cond.methodLink "StepMachines$Table" 105 ⟨"StepMachines$Jobs", "isEmpty", "()Z"⟩ ∈ TB := TB_tab (i := 433) (by decide +kernel) rfl
theorem mw_434 : Cond.instanceMethod ⟨"StepMachines$Jobs", "isEmpty", "()Z"⟩ ∈ TB := TB_tab (i := 434) (by decide +kernel) rfl
theorem mw_435 : Cond.selects "StepMachines$Jobs" ⟨"StepMachines$Jobs", "isEmpty", "()Z"⟩ ⟨"StepMachines$Jobs", "isEmpty", "()Z"⟩ ∈ TB := TB_tab (i := 435) (by decide +kernel) rfl
theorem mw_436 : Cond.code ⟨"StepMachines$Jobs", "isEmpty", "()Z"⟩ prog_2_method_9_code 1 (some .boolean) ∈ TB := TB_tab (i := 436) (by decide +kernel) rfl
theorem mw_437 : Cond.methodLink "StepMachines$Table" 109 ⟨"StepMachines$Jobs", "take", "()I"⟩ ∈ TB := TB_tab (i := 437) (by decide +kernel) rfl
theorem mw_438 : Cond.instanceMethod ⟨"StepMachines$Jobs", "take", "()I"⟩ ∈ TB := TB_tab (i := 438) (by decide +kernel) rfl
theorem mw_439 : Cond.selects "StepMachines$Jobs" ⟨"StepMachines$Jobs", "take", "()I"⟩ ⟨"StepMachines$Jobs", "take", "()I"⟩ ∈ TB := TB_tab (i := 439) (by decide +kernel) rfl
theorem mw_440 : Cond.code ⟨"StepMachines$Jobs", "take", "()I"⟩ prog_2_method_11_code 1 (some .int) ∈ TB := TB_tab (i := 440) (by decide +kernel) rfl
theorem mw_441 : Cond.methodLink "StepMachines$Table" 113 ⟨"StepMachines$Tally", "count", "()V"⟩ ∈ TB := TB_tab (i := 441) (by decide +kernel) rfl
theorem mw_442 : Cond.instanceMethod ⟨"StepMachines$Tally", "count", "()V"⟩ ∈ TB := TB_tab (i := 442) (by decide +kernel) rfl
theorem mw_443 : Cond.selects "StepMachines$Tally" ⟨"StepMachines$Tally", "count", "()V"⟩ ⟨"StepMachines$Tally", "count", "()V"⟩ ∈ TB := TB_tab (i := 443) (by decide +kernel) rfl
theorem mw_444 : Cond.code ⟨"StepMachines$Tally", "count", "()V"⟩ prog_11_method_3_code 1 none ∈ TB := TB_tab (i := 444) (by decide +kernel) rfl
theorem mw_445 : Cond.methodLink "StepMachines$Table" 118 ⟨"StepMachines$Row", "meets", "(I)Z"⟩ ∈ TB := TB_tab (i := 445) (by decide +kernel) rfl
theorem mw_446 : Cond.instanceMethod ⟨"StepMachines$Row", "meets", "(I)Z"⟩ ∈ TB := TB_tab (i := 446) (by decide +kernel) rfl
theorem mw_447 : Cond.selects "StepMachines$Row" ⟨"StepMachines$Row", "meets", "(I)Z"⟩ ⟨"StepMachines$Row", "meets", "(I)Z"⟩ ∈ TB := TB_tab (i := 447) (by decide +kernel) rfl
theorem mw_448 : Cond.code ⟨"StepMachines$Row", "meets", "(I)Z"⟩ prog_7_method_3_code 2 (some .boolean) ∈ TB := TB_tab (i := 448) (by decide +kernel) rfl
theorem mw_449 : Cond.methodLink "StepMachines$Table" 121 ⟨"StepMachines$Table", "walk", "(III)Z"⟩ ∈ TB := TB_tab (i := 449) (by decide +kernel) rfl
theorem mw_451 : Cond.instanceMethod ⟨"StepMachines$Table", "walk", "(III)Z"⟩ ∈ TB := TB_tab (i := 451) (by decide +kernel) rfl
theorem mw_452 : Cond.code ⟨"StepMachines$Table", "walk", "(III)Z"⟩ prog_10_method_8_code 5 (some .boolean) ∈ TB := TB_tab (i := 452) (by decide +kernel) rfl
theorem mw_453 : Cond.methodLink "StepMachines$Table" 134 ⟨"StepMachines$Table", "takeBytes", "(III)Z"⟩ ∈ TB := TB_tab (i := 453) (by decide +kernel) rfl
theorem mw_455 : Cond.instanceMethod ⟨"StepMachines$Table", "takeBytes", "(III)Z"⟩ ∈ TB := TB_tab (i := 455) (by decide +kernel) rfl
theorem mw_456 : Cond.code ⟨"StepMachines$Table", "takeBytes", "(III)Z"⟩ prog_10_method_9_code 9 (some .boolean) ∈ TB := TB_tab (i := 456) (by decide +kernel) rfl
theorem mw_457 : Cond.methodLink "StepMachines$Table" 143 ⟨"StepMachines$Program", "takes", "(II)Z"⟩ ∈ TB := TB_tab (i := 457) (by decide +kernel) rfl
theorem mw_458 : Cond.instanceMethod ⟨"StepMachines$Program", "takes", "(II)Z"⟩ ∈ TB := TB_tab (i := 458) (by decide +kernel) rfl
theorem mw_459 : Cond.selects "StepMachines$Program" ⟨"StepMachines$Program", "takes", "(II)Z"⟩ ⟨"StepMachines$Program", "takes", "(II)Z"⟩ ∈ TB := TB_tab (i := 459) (by decide +kernel) rfl
theorem mw_460 : Cond.code ⟨"StepMachines$Program", "takes", "(II)Z"⟩ prog_6_method_6_code 3 (some .boolean) ∈ TB := TB_tab (i := 460) (by decide +kernel) rfl
theorem mw_461 : Cond.methodLink "StepMachinesLaw" 88 ⟨"StepMachines", "over", "()I"⟩ ∈ TB := TB_tab (i := 461) (by decide +kernel) rfl
theorem mw_462 : Cond.instanceMethod ⟨"StepMachines", "over", "()I"⟩ ∈ TB := TB_tab (i := 462) (by decide +kernel) rfl
theorem mw_463 : Cond.selects "StepMachines" ⟨"StepMachines", "over", "()I"⟩ ⟨"StepMachines", "over", "()I"⟩ ∈ TB := TB_tab (i := 463) (by decide +kernel) rfl
theorem mw_464 : Cond.code ⟨"StepMachines", "over", "()I"⟩ prog_1_method_12_code 1 (some .int) ∈ TB := TB_tab (i := 464) (by decide +kernel) rfl
theorem mw_465 : Cond.methodLink "StepMachinesLaw" 39 ⟨"StepMachinesLaw", "lay", "(LStepMachines;I)I"⟩ ∈ TB := TB_tab (i := 465) (by decide +kernel) rfl
theorem mw_466 : Cond.static ⟨"StepMachinesLaw", "lay", "(LStepMachines;I)I"⟩ ∈ TB := TB_tab (i := 466) (by decide +kernel) rfl
theorem mw_468 : Cond.classLink "StepMachinesLaw" 13 "java/lang/IllegalArgumentException" ∈ TB := TB_tab (i := 468) (by decide +kernel) rfl
theorem mw_469 : Cond.methodLink "StepMachinesLaw" 7 ⟨"StepMachines", "lay", "(I)V"⟩ ∈ TB := TB_tab (i := 469) (by decide +kernel) rfl
theorem mw_470 : Cond.instanceMethod ⟨"StepMachines", "lay", "(I)V"⟩ ∈ TB := TB_tab (i := 470) (by decide +kernel) rfl
theorem mw_471 : Cond.selects "StepMachines" ⟨"StepMachines", "lay", "(I)V"⟩ ⟨"StepMachines", "lay", "(I)V"⟩ ∈ TB := TB_tab (i := 471) (by decide +kernel) rfl
theorem mw_472 : Cond.code ⟨"StepMachines", "lay", "(I)V"⟩ prog_1_method_2_code 2 none ∈ TB := TB_tab (i := 472) (by decide +kernel) rfl
theorem mw_473 : Cond.classLink "StepMachines" 72 "java/lang/IllegalArgumentException" ∈ TB := TB_tab (i := 473) (by decide +kernel) rfl
theorem mw_474 : Cond.instantiable "java/lang/IllegalArgumentException" 6 ∈ TB := TB_tab (i := 474) (by decide +kernel) rfl
theorem mw_482 : Cond.selects "java/lang/IllegalArgumentException" ⟨"java/lang/Throwable", "fillInStackTrace", "(I)Ljava/lang/Throwable;"⟩ ⟨"java/lang/Throwable", "fillInStackTrace", "(I)Ljava/lang/Throwable;"⟩ ∈ TB := TB_tab (i := 482) (by decide +kernel) rfl
theorem mw_483 : Cond.selects "java/lang/IllegalArgumentException" ⟨"java/lang/Throwable", "fillInStackTrace", "()Ljava/lang/Throwable;"⟩ ⟨"java/lang/Throwable", "fillInStackTrace", "()Ljava/lang/Throwable;"⟩ ∈ TB := TB_tab (i := 483) (by decide +kernel) rfl
theorem mw_494 : Cond.fieldLink "java/lang/Throwable" 198 "java/lang/Throwable" "backtrace" "Ljava/lang/Object;" ∈ TB := TB_tab (i := 494) (by decide +kernel) rfl
theorem mw_496 : Cond.instanceMethod ⟨"java/lang/Throwable", "<init>", "()V"⟩ ∈ TB := TB_tab (i := 496) (by decide +kernel) rfl
theorem mw_497 : Cond.code ⟨"java/lang/Throwable", "<init>", "()V"⟩ prog_22_method_1_code 1 none ∈ TB := TB_tab (i := 497) (by decide +kernel) rfl
theorem mw_498 : Cond.methodLink "java/lang/Throwable" 1 ⟨"java/lang/Object", "<init>", "()V"⟩ ∈ TB := TB_tab (i := 498) (by decide +kernel) rfl
theorem mw_499 : Cond.fieldLink "java/lang/Throwable" 13 "java/lang/Throwable" "UNASSIGNED_STACK" "[Ljava/lang/StackTraceElement;" ∈ TB := TB_tab (i := 499) (by decide +kernel) rfl
theorem mw_501 : Cond.fieldLink "java/lang/Throwable" 20 "java/lang/Throwable" "SUPPRESSED_SENTINEL" "Ljava/util/List;" ∈ TB := TB_tab (i := 501) (by decide +kernel) rfl
theorem mw_503 : Cond.methodLink "java/lang/Throwable" 27 ⟨"java/lang/Throwable", "fillInStackTrace", "()Ljava/lang/Throwable;"⟩ ∈ TB := TB_tab (i := 503) (by decide +kernel) rfl
theorem mw_504 : Cond.instanceMethod ⟨"java/lang/Throwable", "fillInStackTrace", "()Ljava/lang/Throwable;"⟩ ∈ TB := TB_tab (i := 504) (by decide +kernel) rfl
theorem mw_506 : Cond.selects "java/lang/IndexOutOfBoundsException" ⟨"java/lang/Throwable", "fillInStackTrace", "()Ljava/lang/Throwable;"⟩ ⟨"java/lang/Throwable", "fillInStackTrace", "()Ljava/lang/Throwable;"⟩ ∈ TB := TB_tab (i := 506) (by decide +kernel) rfl
theorem mw_508 : Cond.methodLink "java/lang/Throwable" 202 ⟨"java/lang/Throwable", "fillInStackTrace", "(I)Ljava/lang/Throwable;"⟩ ∈ TB := TB_tab (i := 508) (by decide +kernel) rfl
theorem mw_510 : Cond.instanceMethod ⟨"java/lang/Throwable", "fillInStackTrace", "(I)Ljava/lang/Throwable;"⟩ ∈ TB := TB_tab (i := 510) (by decide +kernel) rfl
theorem mw_511 : Cond.instantiable "java/lang/Throwable" 6 ∈ TB := TB_tab (i := 511) (by decide +kernel) rfl
theorem mw_512 : Cond.native ⟨"java/lang/Throwable", "fillInStackTrace", "(I)Ljava/lang/Throwable;"⟩ ∈ TB := TB_tab (i := 512) (by decide +kernel) rfl
theorem mw_514 : Cond.methodLink "StepMachines" 76 ⟨"java/lang/IllegalArgumentException", "<init>", "(Ljava/lang/String;)V"⟩ ∈ TB := TB_tab (i := 514) (by decide +kernel) rfl
theorem mw_515 : Cond.instanceMethod ⟨"java/lang/IllegalArgumentException", "<init>", "(Ljava/lang/String;)V"⟩ ∈ TB := TB_tab (i := 515) (by decide +kernel) rfl
theorem mw_516 : Cond.code ⟨"java/lang/IllegalArgumentException", "<init>", "(Ljava/lang/String;)V"⟩ prog_16_method_2_code 2 none ∈ TB := TB_tab (i := 516) (by decide +kernel) rfl
theorem mw_517 : Cond.methodLink "java/lang/IllegalArgumentException" 7 ⟨"java/lang/RuntimeException", "<init>", "(Ljava/lang/String;)V"⟩ ∈ TB := TB_tab (i := 517) (by decide +kernel) rfl
theorem mw_518 : Cond.instanceMethod ⟨"java/lang/RuntimeException", "<init>", "(Ljava/lang/String;)V"⟩ ∈ TB := TB_tab (i := 518) (by decide +kernel) rfl
theorem mw_519 : Cond.code ⟨"java/lang/RuntimeException", "<init>", "(Ljava/lang/String;)V"⟩ prog_19_method_2_code 2 none ∈ TB := TB_tab (i := 519) (by decide +kernel) rfl
theorem mw_520 : Cond.methodLink "java/lang/RuntimeException" 7 ⟨"java/lang/Exception", "<init>", "(Ljava/lang/String;)V"⟩ ∈ TB := TB_tab (i := 520) (by decide +kernel) rfl
theorem mw_521 : Cond.instanceMethod ⟨"java/lang/Exception", "<init>", "(Ljava/lang/String;)V"⟩ ∈ TB := TB_tab (i := 521) (by decide +kernel) rfl
theorem mw_522 : Cond.code ⟨"java/lang/Exception", "<init>", "(Ljava/lang/String;)V"⟩ prog_15_method_2_code 2 none ∈ TB := TB_tab (i := 522) (by decide +kernel) rfl
theorem mw_523 : Cond.methodLink "java/lang/Exception" 7 ⟨"java/lang/Throwable", "<init>", "(Ljava/lang/String;)V"⟩ ∈ TB := TB_tab (i := 523) (by decide +kernel) rfl
theorem mw_524 : Cond.instanceMethod ⟨"java/lang/Throwable", "<init>", "(Ljava/lang/String;)V"⟩ ∈ TB := TB_tab (i := 524) (by decide +kernel) rfl
theorem mw_525 : Cond.code ⟨"java/lang/Throwable", "<init>", "(Ljava/lang/String;)V"⟩ prog_22_method_2_code 2 none ∈ TB := TB_tab (i := 525) (by decide +kernel) rfl
theorem mw_527 : Cond.fieldLink "java/lang/Throwable" 31 "java/lang/Throwable" "detailMessage" "Ljava/lang/String;" ∈ TB := TB_tab (i := 527) (by decide +kernel) rfl
theorem mw_528 : Cond.fieldLink "java/lang/Throwable" 7 "java/lang/Throwable" "cause" "Ljava/lang/Throwable;" ∈ TB := TB_tab (i := 528) (by decide +kernel) rfl
theorem mw_529 : Cond.fieldLink "java/lang/Throwable" 17 "java/lang/Throwable" "stackTrace" "[Ljava/lang/StackTraceElement;" ∈ TB := TB_tab (i := 529) (by decide +kernel) rfl
theorem mw_530 : Cond.fieldLink "java/lang/Throwable" 24 "java/lang/Throwable" "suppressedExceptions" "Ljava/util/List;" ∈ TB := TB_tab (i := 530) (by decide +kernel) rfl
theorem mw_539 : Cond.arrayClass .byte ∈ TB := TB_tab (i := 539) (by decide +kernel) rfl
theorem mw_540 : Cond.methodLink "StepMachines" 79 ⟨"StepMachines$Program", "layOut", "(I)V"⟩ ∈ TB := TB_tab (i := 540) (by decide +kernel) rfl
theorem mw_541 : Cond.instanceMethod ⟨"StepMachines$Program", "layOut", "(I)V"⟩ ∈ TB := TB_tab (i := 541) (by decide +kernel) rfl
theorem mw_542 : Cond.selects "StepMachines$Program" ⟨"StepMachines$Program", "layOut", "(I)V"⟩ ⟨"StepMachines$Program", "layOut", "(I)V"⟩ ∈ TB := TB_tab (i := 542) (by decide +kernel) rfl
theorem mw_543 : Cond.code ⟨"StepMachines$Program", "layOut", "(I)V"⟩ prog_6_method_3_code 3 none ∈ TB := TB_tab (i := 543) (by decide +kernel) rfl
theorem mw_544 : Cond.methodLink "StepMachines$Program" 32 ⟨"StepMachines$Program", "change", "(IIIII)V"⟩ ∈ TB := TB_tab (i := 544) (by decide +kernel) rfl
theorem mw_545 : Cond.instanceMethod ⟨"StepMachines$Program", "change", "(IIIII)V"⟩ ∈ TB := TB_tab (i := 545) (by decide +kernel) rfl
theorem mw_546 : Cond.selects "StepMachines$Program" ⟨"StepMachines$Program", "change", "(IIIII)V"⟩ ⟨"StepMachines$Program", "change", "(IIIII)V"⟩ ∈ TB := TB_tab (i := 546) (by decide +kernel) rfl
theorem mw_547 : Cond.code ⟨"StepMachines$Program", "change", "(IIIII)V"⟩ prog_6_method_4_code 6 none ∈ TB := TB_tab (i := 547) (by decide +kernel) rfl
theorem mw_548 : Cond.methodLink "StepMachines" 83 ⟨"StepMachines", "forgetWhatWasMade", "()V"⟩ ∈ TB := TB_tab (i := 548) (by decide +kernel) rfl
theorem mw_550 : Cond.instanceMethod ⟨"StepMachines", "forgetWhatWasMade", "()V"⟩ ∈ TB := TB_tab (i := 550) (by decide +kernel) rfl
theorem mw_551 : Cond.code ⟨"StepMachines", "forgetWhatWasMade", "()V"⟩ prog_1_method_15_code 1 none ∈ TB := TB_tab (i := 551) (by decide +kernel) rfl
theorem mw_552 : Cond.methodLink "StepMachines" 169 ⟨"StepMachines$Table", "forget", "()V"⟩ ∈ TB := TB_tab (i := 552) (by decide +kernel) rfl
theorem mw_553 : Cond.instanceMethod ⟨"StepMachines$Table", "forget", "()V"⟩ ∈ TB := TB_tab (i := 553) (by decide +kernel) rfl
theorem mw_554 : Cond.selects "StepMachines$Table" ⟨"StepMachines$Table", "forget", "()V"⟩ ⟨"StepMachines$Table", "forget", "()V"⟩ ∈ TB := TB_tab (i := 554) (by decide +kernel) rfl
theorem mw_555 : Cond.code ⟨"StepMachines$Table", "forget", "()V"⟩ prog_10_method_2_code 1 none ∈ TB := TB_tab (i := 555) (by decide +kernel) rfl
theorem mw_556 : Cond.methodLink "StepMachines" 172 ⟨"StepMachines$States", "forget", "()V"⟩ ∈ TB := TB_tab (i := 556) (by decide +kernel) rfl
theorem mw_557 : Cond.instanceMethod ⟨"StepMachines$States", "forget", "()V"⟩ ∈ TB := TB_tab (i := 557) (by decide +kernel) rfl
theorem mw_558 : Cond.selects "StepMachines$States" ⟨"StepMachines$States", "forget", "()V"⟩ ⟨"StepMachines$States", "forget", "()V"⟩ ∈ TB := TB_tab (i := 558) (by decide +kernel) rfl
theorem mw_559 : Cond.code ⟨"StepMachines$States", "forget", "()V"⟩ prog_8_method_3_code 1 none ∈ TB := TB_tab (i := 559) (by decide +kernel) rfl
theorem mw_560 : Cond.methodLink "StepMachines$States" 56 ⟨"StepMachines$Kept", "forget", "()V"⟩ ∈ TB := TB_tab (i := 560) (by decide +kernel) rfl
theorem mw_561 : Cond.instanceMethod ⟨"StepMachines$Kept", "forget", "()V"⟩ ∈ TB := TB_tab (i := 561) (by decide +kernel) rfl
theorem mw_562 : Cond.selects "StepMachines$Kept" ⟨"StepMachines$Kept", "forget", "()V"⟩ ⟨"StepMachines$Kept", "forget", "()V"⟩ ∈ TB := TB_tab (i := 562) (by decide +kernel) rfl
theorem mw_563 : Cond.code ⟨"StepMachines$Kept", "forget", "()V"⟩ prog_3_method_3_code 1 none ∈ TB := TB_tab (i := 563) (by decide +kernel) rfl
theorem mw_564 : Cond.methodLink "StepMachinesLaw" 49 ⟨"StepMachinesLaw", "step", "(LStepMachines;IIIII)I"⟩ ∈ TB := TB_tab (i := 564) (by decide +kernel) rfl
theorem mw_565 : Cond.static ⟨"StepMachinesLaw", "step", "(LStepMachines;IIIII)I"⟩ ∈ TB := TB_tab (i := 565) (by decide +kernel) rfl
theorem mw_567 : Cond.classLink "StepMachinesLaw" 19 "java/lang/IndexOutOfBoundsException" ∈ TB := TB_tab (i := 567) (by decide +kernel) rfl
theorem mw_568 : Cond.methodLink "StepMachinesLaw" 15 ⟨"StepMachines", "step", "(IIIII)V"⟩ ∈ TB := TB_tab (i := 568) (by decide +kernel) rfl
theorem mw_569 : Cond.instanceMethod ⟨"StepMachines", "step", "(IIIII)V"⟩ ∈ TB := TB_tab (i := 569) (by decide +kernel) rfl
theorem mw_570 : Cond.selects "StepMachines" ⟨"StepMachines", "step", "(IIIII)V"⟩ ⟨"StepMachines", "step", "(IIIII)V"⟩ ∈ TB := TB_tab (i := 570) (by decide +kernel) rfl
theorem mw_571 : Cond.code ⟨"StepMachines", "step", "(IIIII)V"⟩ prog_1_method_3_code 6 none ∈ TB := TB_tab (i := 571) (by decide +kernel) rfl
theorem mw_572 : Cond.methodLink "StepMachines" 86 ⟨"StepMachines$Program", "has", "(I)Z"⟩ ∈ TB := TB_tab (i := 572) (by decide +kernel) rfl
theorem mw_573 : Cond.instanceMethod ⟨"StepMachines$Program", "has", "(I)Z"⟩ ∈ TB := TB_tab (i := 573) (by decide +kernel) rfl
theorem mw_574 : Cond.selects "StepMachines$Program" ⟨"StepMachines$Program", "has", "(I)Z"⟩ ⟨"StepMachines$Program", "has", "(I)Z"⟩ ∈ TB := TB_tab (i := 574) (by decide +kernel) rfl
theorem mw_575 : Cond.code ⟨"StepMachines$Program", "has", "(I)Z"⟩ prog_6_method_5_code 2 (some .boolean) ∈ TB := TB_tab (i := 575) (by decide +kernel) rfl
theorem mw_576 : Cond.classLink "StepMachines" 90 "java/lang/IndexOutOfBoundsException" ∈ TB := TB_tab (i := 576) (by decide +kernel) rfl
theorem mw_577 : Cond.instantiable "java/lang/IndexOutOfBoundsException" 6 ∈ TB := TB_tab (i := 577) (by decide +kernel) rfl
theorem mw_579 : Cond.selects "java/lang/IndexOutOfBoundsException" ⟨"java/lang/Throwable", "fillInStackTrace", "(I)Ljava/lang/Throwable;"⟩ ⟨"java/lang/Throwable", "fillInStackTrace", "(I)Ljava/lang/Throwable;"⟩ ∈ TB := TB_tab (i := 579) (by decide +kernel) rfl
theorem mw_586 : Cond.methodLink "StepMachines" 94 ⟨"java/lang/IndexOutOfBoundsException", "<init>", "(Ljava/lang/String;)V"⟩ ∈ TB := TB_tab (i := 586) (by decide +kernel) rfl
theorem mw_587 : Cond.instanceMethod ⟨"java/lang/IndexOutOfBoundsException", "<init>", "(Ljava/lang/String;)V"⟩ ∈ TB := TB_tab (i := 587) (by decide +kernel) rfl
theorem mw_588 : Cond.code ⟨"java/lang/IndexOutOfBoundsException", "<init>", "(Ljava/lang/String;)V"⟩ prog_17_method_2_code 2 none ∈ TB := TB_tab (i := 588) (by decide +kernel) rfl
theorem mw_589 : Cond.methodLink "java/lang/IndexOutOfBoundsException" 7 ⟨"java/lang/RuntimeException", "<init>", "(Ljava/lang/String;)V"⟩ ∈ TB := TB_tab (i := 589) (by decide +kernel) rfl
theorem mw_595 : Cond.methodLink "StepMachines" 101 ⟨"StepMachines$Program", "isValue", "(II)Z"⟩ ∈ TB := TB_tab (i := 595) (by decide +kernel) rfl
theorem mw_596 : Cond.static ⟨"StepMachines$Program", "isValue", "(II)Z"⟩ ∈ TB := TB_tab (i := 596) (by decide +kernel) rfl
theorem mw_597 : Cond.code ⟨"StepMachines$Program", "isValue", "(II)Z"⟩ prog_6_method_2_code 2 (some .boolean) ∈ TB := TB_tab (i := 597) (by decide +kernel) rfl
theorem mw_598 : Cond.constant "StepMachines$Program" 31 (65536 : Int32) ∈ TB := TB_tab (i := 598) (by decide +kernel) rfl
theorem mw_600 : Cond.methodLink "StepMachines" 107 ⟨"StepMachines$Program", "change", "(IIIII)V"⟩ ∈ TB := TB_tab (i := 600) (by decide +kernel) rfl
theorem mw_601 : Cond.methodLink "StepMachinesLaw" 53 ⟨"StepMachinesLaw", "begin", "(LStepMachines;I)I"⟩ ∈ TB := TB_tab (i := 601) (by decide +kernel) rfl
theorem mw_602 : Cond.static ⟨"StepMachinesLaw", "begin", "(LStepMachines;I)I"⟩ ∈ TB := TB_tab (i := 602) (by decide +kernel) rfl
theorem mw_604 : Cond.methodLink "StepMachinesLaw" 21 ⟨"StepMachines", "begin", "(I)V"⟩ ∈ TB := TB_tab (i := 604) (by decide +kernel) rfl
theorem mw_605 : Cond.instanceMethod ⟨"StepMachines", "begin", "(I)V"⟩ ∈ TB := TB_tab (i := 605) (by decide +kernel) rfl
theorem mw_606 : Cond.selects "StepMachines" ⟨"StepMachines", "begin", "(I)V"⟩ ⟨"StepMachines", "begin", "(I)V"⟩ ∈ TB := TB_tab (i := 606) (by decide +kernel) rfl
theorem mw_607 : Cond.code ⟨"StepMachines", "begin", "(I)V"⟩ prog_1_method_4_code 2 none ∈ TB := TB_tab (i := 607) (by decide +kernel) rfl
theorem mw_609 : Cond.methodLink "StepMachinesLaw" 67 ⟨"StepMachinesLaw", "match", "(LStepMachines;IZII[J)I"⟩ ∈ TB := TB_tab (i := 609) (by decide +kernel) rfl
theorem mw_610 : Cond.static ⟨"StepMachinesLaw", "match", "(LStepMachines;IZII[J)I"⟩ ∈ TB := TB_tab (i := 610) (by decide +kernel) rfl
theorem mw_612 : Cond.methodLink "StepMachinesLaw" 24 ⟨"StepMachines", "match", "(IZII)I"⟩ ∈ TB := TB_tab (i := 612) (by decide +kernel) rfl
theorem mw_613 : Cond.instanceMethod ⟨"StepMachines", "match", "(IZII)I"⟩ ∈ TB := TB_tab (i := 613) (by decide +kernel) rfl
theorem mw_614 : Cond.selects "StepMachines" ⟨"StepMachines", "match", "(IZII)I"⟩ ⟨"StepMachines", "match", "(IZII)I"⟩ ∈ TB := TB_tab (i := 614) (by decide +kernel) rfl
theorem mw_615 : Cond.code ⟨"StepMachines", "match", "(IZII)I"⟩ prog_1_method_7_code 5 (some .int) ∈ TB := TB_tab (i := 615) (by decide +kernel) rfl
theorem mw_617 : Cond.methodLink "StepMachines" 125 ⟨"StepMachines", "isQuestion", "(II)Z"⟩ ∈ TB := TB_tab (i := 617) (by decide +kernel) rfl
theorem mw_619 : Cond.instanceMethod ⟨"StepMachines", "isQuestion", "(II)Z"⟩ ∈ TB := TB_tab (i := 619) (by decide +kernel) rfl
theorem mw_620 : Cond.code ⟨"StepMachines", "isQuestion", "(II)Z"⟩ prog_1_method_13_code 3 (some .boolean) ∈ TB := TB_tab (i := 620) (by decide +kernel) rfl
theorem mw_622 : Cond.methodLink "StepMachines" 130 ⟨"StepMachines$Tally", "open", "()V"⟩ ∈ TB := TB_tab (i := 622) (by decide +kernel) rfl
theorem mw_623 : Cond.instanceMethod ⟨"StepMachines$Tally", "open", "()V"⟩ ∈ TB := TB_tab (i := 623) (by decide +kernel) rfl
theorem mw_624 : Cond.selects "StepMachines$Tally" ⟨"StepMachines$Tally", "open", "()V"⟩ ⟨"StepMachines$Tally", "open", "()V"⟩ ∈ TB := TB_tab (i := 624) (by decide +kernel) rfl
theorem mw_625 : Cond.code ⟨"StepMachines$Tally", "open", "()V"⟩ prog_11_method_2_code 1 none ∈ TB := TB_tab (i := 625) (by decide +kernel) rfl
theorem mw_626 : Cond.methodLink "StepMachines" 133 ⟨"StepMachines$Marks", "run", "(IZI)V"⟩ ∈ TB := TB_tab (i := 626) (by decide +kernel) rfl
theorem mw_627 : Cond.instanceMethod ⟨"StepMachines$Marks", "run", "(IZI)V"⟩ ∈ TB := TB_tab (i := 627) (by decide +kernel) rfl
theorem mw_628 : Cond.selects "StepMachines$Marks" ⟨"StepMachines$Marks", "run", "(IZI)V"⟩ ⟨"StepMachines$Marks", "run", "(IZI)V"⟩ ∈ TB := TB_tab (i := 628) (by decide +kernel) rfl
theorem mw_629 : Cond.code ⟨"StepMachines$Marks", "run", "(IZI)V"⟩ prog_4_method_2_code 6 none ∈ TB := TB_tab (i := 629) (by decide +kernel) rfl
theorem mw_630 : Cond.methodLink "StepMachines$Marks" 43 ⟨"StepMachines$Marks", "wipe", "()V"⟩ ∈ TB := TB_tab (i := 630) (by decide +kernel) rfl
theorem mw_632 : Cond.instanceMethod ⟨"StepMachines$Marks", "wipe", "()V"⟩ ∈ TB := TB_tab (i := 632) (by decide +kernel) rfl
theorem mw_633 : Cond.code ⟨"StepMachines$Marks", "wipe", "()V"⟩ prog_4_method_3_code 3 none ∈ TB := TB_tab (i := 633) (by decide +kernel) rfl
theorem mw_634 : Cond.methodLink "StepMachines$Marks" 52 ⟨"StepMachines$Marks", "tryFrom", "(IIZ)V"⟩ ∈ TB := TB_tab (i := 634) (by decide +kernel) rfl
theorem mw_636 : Cond.instanceMethod ⟨"StepMachines$Marks", "tryFrom", "(IIZ)V"⟩ ∈ TB := TB_tab (i := 636) (by decide +kernel) rfl
theorem mw_637 : Cond.code ⟨"StepMachines$Marks", "tryFrom", "(IIZ)V"⟩ prog_4_method_4_code 6 none ∈ TB := TB_tab (i := 637) (by decide +kernel) rfl
theorem mw_638 : Cond.methodLink "StepMachines$Marks" 61 ⟨"java/util/Arrays", "fill", "([II)V"⟩ ∈ TB := TB_tab (i := 638) (by decide +kernel) rfl
theorem mw_639 : Cond.methodLink "StepMachines$Marks" 67 ⟨"StepMachines$Jobs", "drop", "()V"⟩ ∈ TB := TB_tab (i := 639) (by decide +kernel) rfl
theorem mw_640 : Cond.methodLink "StepMachines$Marks" 73 ⟨"StepMachines$Jobs", "stepAt", "(II)I"⟩ ∈ TB := TB_tab (i := 640) (by decide +kernel) rfl
theorem mw_641 : Cond.static ⟨"StepMachines$Jobs", "stepAt", "(II)I"⟩ ∈ TB := TB_tab (i := 641) (by decide +kernel) rfl
theorem mw_642 : Cond.code ⟨"StepMachines$Jobs", "stepAt", "(II)I"⟩ prog_2_method_2_code 2 (some .int) ∈ TB := TB_tab (i := 642) (by decide +kernel) rfl
theorem mw_643 : Cond.methodLink "StepMachines$Marks" 77 ⟨"StepMachines$Jobs", "add", "(I)V"⟩ ∈ TB := TB_tab (i := 643) (by decide +kernel) rfl
theorem mw_644 : Cond.constant "StepMachines$Marks" 80 (1000000 : Int32) ∈ TB := TB_tab (i := 644) (by decide +kernel) rfl
theorem mw_645 : Cond.methodLink "StepMachines$Marks" 81 ⟨"StepMachines$Jobs", "isEmpty", "()Z"⟩ ∈ TB := TB_tab (i := 645) (by decide +kernel) rfl
theorem mw_646 : Cond.methodLink "StepMachines$Marks" 85 ⟨"StepMachines$Jobs", "take", "()I"⟩ ∈ TB := TB_tab (i := 646) (by decide +kernel) rfl
theorem mw_647 : Cond.methodLink "StepMachines$Marks" 89 ⟨"StepMachines$Jobs", "isPutBack", "(I)Z"⟩ ∈ TB := TB_tab (i := 647) (by decide +kernel) rfl
theorem mw_648 : Cond.static ⟨"StepMachines$Jobs", "isPutBack", "(I)Z"⟩ ∈ TB := TB_tab (i := 648) (by decide +kernel) rfl
theorem mw_649 : Cond.code ⟨"StepMachines$Jobs", "isPutBack", "(I)Z"⟩ prog_2_method_6_code 1 (some .boolean) ∈ TB := TB_tab (i := 649) (by decide +kernel) rfl
theorem mw_650 : Cond.constant "StepMachines$Jobs" 19 (51456 : Int32) ∈ TB := TB_tab (i := 650) (by decide +kernel) rfl
theorem mw_651 : Cond.methodLink "StepMachines$Marks" 93 ⟨"StepMachines$Jobs", "putBack", "(I[I)V"⟩ ∈ TB := TB_tab (i := 651) (by decide +kernel) rfl
theorem mw_652 : Cond.static ⟨"StepMachines$Jobs", "putBack", "(I[I)V"⟩ ∈ TB := TB_tab (i := 652) (by decide +kernel) rfl
theorem mw_653 : Cond.code ⟨"StepMachines$Jobs", "putBack", "(I[I)V"⟩ prog_2_method_7_code 3 none ∈ TB := TB_tab (i := 653) (by decide +kernel) rfl
theorem mw_654 : Cond.methodLink "StepMachines$Marks" 97 ⟨"StepMachines$Jobs", "stepOf", "(I)I"⟩ ∈ TB := TB_tab (i := 654) (by decide +kernel) rfl
theorem mw_655 : Cond.static ⟨"StepMachines$Jobs", "stepOf", "(I)I"⟩ ∈ TB := TB_tab (i := 655) (by decide +kernel) rfl
theorem mw_656 : Cond.code ⟨"StepMachines$Jobs", "stepOf", "(I)I"⟩ prog_2_method_3_code 1 (some .int) ∈ TB := TB_tab (i := 656) (by decide +kernel) rfl
theorem mw_657 : Cond.methodLink "StepMachines$Marks" 101 ⟨"StepMachines$Jobs", "placeOf", "(I)I"⟩ ∈ TB := TB_tab (i := 657) (by decide +kernel) rfl
theorem mw_658 : Cond.static ⟨"StepMachines$Jobs", "placeOf", "(I)I"⟩ ∈ TB := TB_tab (i := 658) (by decide +kernel) rfl
theorem mw_659 : Cond.code ⟨"StepMachines$Jobs", "placeOf", "(I)I"⟩ prog_2_method_4_code 1 (some .int) ∈ TB := TB_tab (i := 659) (by decide +kernel) rfl
theorem mw_660 : Cond.methodLink "StepMachines$Marks" 104 ⟨"StepMachines$Marks", "visit", "(III)V"⟩ ∈ TB := TB_tab (i := 660) (by decide +kernel) rfl
theorem mw_662 : Cond.instanceMethod ⟨"StepMachines$Marks", "visit", "(III)V"⟩ ∈ TB := TB_tab (i := 662) (by decide +kernel) rfl
theorem mw_663 : Cond.code ⟨"StepMachines$Marks", "visit", "(III)V"⟩ prog_4_method_6_code 5 none ∈ TB := TB_tab (i := 663) (by decide +kernel) rfl
theorem mw_664 : Cond.methodLink "StepMachines$Marks" 108 ⟨"StepMachines$Tally", "count", "()V"⟩ ∈ TB := TB_tab (i := 664) (by decide +kernel) rfl
theorem mw_665 : Cond.methodLink "StepMachines$Marks" 113 ⟨"StepMachines$Marks", "isNew", "(II)Z"⟩ ∈ TB := TB_tab (i := 665) (by decide +kernel) rfl
theorem mw_667 : Cond.instanceMethod ⟨"StepMachines$Marks", "isNew", "(II)Z"⟩ ∈ TB := TB_tab (i := 667) (by decide +kernel) rfl
theorem mw_668 : Cond.code ⟨"StepMachines$Marks", "isNew", "(II)Z"⟩ prog_4_method_5_code 6 (some .boolean) ∈ TB := TB_tab (i := 668) (by decide +kernel) rfl
theorem mw_669 : Cond.methodLink "StepMachines$Marks" 123 ⟨"StepMachines$Marks", "end", "(II)V"⟩ ∈ TB := TB_tab (i := 669) (by decide +kernel) rfl
theorem mw_671 : Cond.instanceMethod ⟨"StepMachines$Marks", "end", "(II)V"⟩ ∈ TB := TB_tab (i := 671) (by decide +kernel) rfl
theorem mw_672 : Cond.code ⟨"StepMachines$Marks", "end", "(II)V"⟩ prog_4_method_7_code 3 none ∈ TB := TB_tab (i := 672) (by decide +kernel) rfl
theorem mw_673 : Cond.methodLink "StepMachines$Marks" 145 ⟨"StepMachines$Subject", "mayEnd", "(II)Z"⟩ ∈ TB := TB_tab (i := 673) (by decide +kernel) rfl
theorem mw_674 : Cond.instanceMethod ⟨"StepMachines$Subject", "mayEnd", "(II)Z"⟩ ∈ TB := TB_tab (i := 674) (by decide +kernel) rfl
theorem mw_675 : Cond.selects "StepMachines$Subject" ⟨"StepMachines$Subject", "mayEnd", "(II)Z"⟩ ⟨"StepMachines$Subject", "mayEnd", "(II)Z"⟩ ∈ TB := TB_tab (i := 675) (by decide +kernel) rfl
theorem mw_676 : Cond.code ⟨"StepMachines$Subject", "mayEnd", "(II)Z"⟩ prog_9_method_7_code 3 (some .boolean) ∈ TB := TB_tab (i := 676) (by decide +kernel) rfl
theorem mw_677 : Cond.methodLink "StepMachines$Marks" 148 ⟨"java/lang/System", "arraycopy", "(Ljava/lang/Object;ILjava/lang/Object;II)V"⟩ ∈ TB := TB_tab (i := 677) (by decide +kernel) rfl
theorem mw_678 : Cond.static ⟨"java/lang/System", "arraycopy", "(Ljava/lang/Object;ILjava/lang/Object;II)V"⟩ ∈ TB := TB_tab (i := 678) (by decide +kernel) rfl
theorem mw_679 : Cond.native ⟨"java/lang/System", "arraycopy", "(Ljava/lang/Object;ILjava/lang/Object;II)V"⟩ ∈ TB := TB_tab (i := 679) (by decide +kernel) rfl
theorem mw_680 : Cond.methodLink "StepMachines$Marks" 127 ⟨"StepMachines$Subject", "byteBehind", "(I)I"⟩ ∈ TB := TB_tab (i := 680) (by decide +kernel) rfl
theorem mw_681 : Cond.instanceMethod ⟨"StepMachines$Subject", "byteBehind", "(I)I"⟩ ∈ TB := TB_tab (i := 681) (by decide +kernel) rfl
theorem mw_682 : Cond.selects "StepMachines$Subject" ⟨"StepMachines$Subject", "byteBehind", "(I)I"⟩ ⟨"StepMachines$Subject", "byteBehind", "(I)I"⟩ ∈ TB := TB_tab (i := 682) (by decide +kernel) rfl
theorem mw_683 : Cond.code ⟨"StepMachines$Subject", "byteBehind", "(I)I"⟩ prog_9_method_5_code 2 (some .int) ∈ TB := TB_tab (i := 683) (by decide +kernel) rfl
theorem mw_684 : Cond.methodLink "StepMachines$Marks" 130 ⟨"StepMachines$Program", "takes", "(II)Z"⟩ ∈ TB := TB_tab (i := 684) (by decide +kernel) rfl
theorem mw_685 : Cond.methodLink "StepMachines$Marks" 139 ⟨"StepMachines$Jobs", "putBackOf", "(II)I"⟩ ∈ TB := TB_tab (i := 685) (by decide +kernel) rfl
theorem mw_686 : Cond.static ⟨"StepMachines$Jobs", "putBackOf", "(II)I"⟩ ∈ TB := TB_tab (i := 686) (by decide +kernel) rfl
theorem mw_687 : Cond.code ⟨"StepMachines$Jobs", "putBackOf", "(II)I"⟩ prog_2_method_5_code 2 (some .int) ∈ TB := TB_tab (i := 687) (by decide +kernel) rfl
theorem mw_688 : Cond.methodLink "StepMachines$Marks" 142 ⟨"StepMachines$Subject", "whatIsSoAt", "(I)I"⟩ ∈ TB := TB_tab (i := 688) (by decide +kernel) rfl
theorem mw_689 : Cond.instanceMethod ⟨"StepMachines$Subject", "whatIsSoAt", "(I)I"⟩ ∈ TB := TB_tab (i := 689) (by decide +kernel) rfl
theorem mw_690 : Cond.selects "StepMachines$Subject" ⟨"StepMachines$Subject", "whatIsSoAt", "(I)I"⟩ ⟨"StepMachines$Subject", "whatIsSoAt", "(I)I"⟩ ∈ TB := TB_tab (i := 690) (by decide +kernel) rfl
theorem mw_691 : Cond.code ⟨"StepMachines$Subject", "whatIsSoAt", "(I)I"⟩ prog_9_method_6_code 2 (some .int) ∈ TB := TB_tab (i := 691) (by decide +kernel) rfl
theorem mw_692 : Cond.methodLink "StepMachines$Subject" 23 ⟨"StepMachines$Subject", "byteBehind", "(I)I"⟩ ∈ TB := TB_tab (i := 692) (by decide +kernel) rfl
theorem mw_693 : Cond.methodLink "StepMachines$Subject" 27 ⟨"StepMachines$Subject", "whatIsSo", "(II)I"⟩ ∈ TB := TB_tab (i := 693) (by decide +kernel) rfl
theorem mw_694 : Cond.static ⟨"StepMachines$Subject", "whatIsSo", "(II)I"⟩ ∈ TB := TB_tab (i := 694) (by decide +kernel) rfl
theorem mw_695 : Cond.code ⟨"StepMachines$Subject", "whatIsSo", "(II)I"⟩ prog_9_method_2_code 3 (some .int) ∈ TB := TB_tab (i := 695) (by decide +kernel) rfl
theorem mw_696 : Cond.methodLink "StepMachines$Subject" 19 ⟨"StepMachines$Subject", "isWord", "(I)Z"⟩ ∈ TB := TB_tab (i := 696) (by decide +kernel) rfl
theorem mw_697 : Cond.static ⟨"StepMachines$Subject", "isWord", "(I)Z"⟩ ∈ TB := TB_tab (i := 697) (by decide +kernel) rfl
theorem mw_698 : Cond.code ⟨"StepMachines$Subject", "isWord", "(I)Z"⟩ prog_9_method_3_code 1 (some .boolean) ∈ TB := TB_tab (i := 698) (by decide +kernel) rfl
theorem mw_699 : Cond.methodLink "StepMachines" 137 ⟨"StepMachines", "canTable", "(I)Z"⟩ ∈ TB := TB_tab (i := 699) (by decide +kernel) rfl
theorem mw_701 : Cond.instanceMethod ⟨"StepMachines", "canTable", "(I)Z"⟩ ∈ TB := TB_tab (i := 701) (by decide +kernel) rfl
theorem mw_702 : Cond.code ⟨"StepMachines", "canTable", "(I)Z"⟩ prog_1_method_16_code 2 (some .boolean) ∈ TB := TB_tab (i := 702) (by decide +kernel) rfl
theorem mw_703 : Cond.methodLink "StepMachines" 140 ⟨"StepMachines$Table", "run", "(IZI)V"⟩ ∈ TB := TB_tab (i := 703) (by decide +kernel) rfl
theorem mw_704 : Cond.instanceMethod ⟨"StepMachines$Table", "run", "(IZI)V"⟩ ∈ TB := TB_tab (i := 704) (by decide +kernel) rfl
theorem mw_705 : Cond.selects "StepMachines$Table" ⟨"StepMachines$Table", "run", "(IZI)V"⟩ ⟨"StepMachines$Table", "run", "(IZI)V"⟩ ∈ TB := TB_tab (i := 705) (by decide +kernel) rfl
theorem mw_706 : Cond.code ⟨"StepMachines$Table", "run", "(IZI)V"⟩ prog_10_method_10_code 10 none ∈ TB := TB_tab (i := 706) (by decide +kernel) rfl
theorem mw_707 : Cond.methodLink "StepMachines$Table" 152 ⟨"StepMachines$Table", "endHere", "(III)Z"⟩ ∈ TB := TB_tab (i := 707) (by decide +kernel) rfl
theorem mw_709 : Cond.instanceMethod ⟨"StepMachines$Table", "endHere", "(III)Z"⟩ ∈ TB := TB_tab (i := 709) (by decide +kernel) rfl
theorem mw_710 : Cond.code ⟨"StepMachines$Table", "endHere", "(III)Z"⟩ prog_10_method_11_code 5 (some .boolean) ∈ TB := TB_tab (i := 710) (by decide +kernel) rfl
theorem mw_711 : Cond.methodLink "StepMachines$Table" 165 ⟨"StepMachines$Subject", "mayEnd", "(II)Z"⟩ ∈ TB := TB_tab (i := 711) (by decide +kernel) rfl
theorem mw_712 : Cond.methodLink "StepMachines$Table" 158 ⟨"StepMachines$Table", "allHold", "(II)Z"⟩ ∈ TB := TB_tab (i := 712) (by decide +kernel) rfl
theorem mw_714 : Cond.instanceMethod ⟨"StepMachines$Table", "allHold", "(II)Z"⟩ ∈ TB := TB_tab (i := 714) (by decide +kernel) rfl
theorem mw_715 : Cond.code ⟨"StepMachines$Table", "allHold", "(II)Z"⟩ prog_10_method_12_code 4 (some .boolean) ∈ TB := TB_tab (i := 715) (by decide +kernel) rfl
theorem mw_716 : Cond.methodLink "StepMachines$Table" 174 ⟨"StepMachines$Subject", "whatIsSoAt", "(I)I"⟩ ∈ TB := TB_tab (i := 716) (by decide +kernel) rfl
theorem mw_717 : Cond.methodLink "StepMachines$Table" 168 ⟨"java/lang/System", "arraycopy", "(Ljava/lang/Object;ILjava/lang/Object;II)V"⟩ ∈ TB := TB_tab (i := 717) (by decide +kernel) rfl
theorem mw_718 : Cond.methodLink "StepMachines$Table" 161 ⟨"StepMachines$Table", "save", "(II[I)V"⟩ ∈ TB := TB_tab (i := 718) (by decide +kernel) rfl
theorem mw_719 : Cond.static ⟨"StepMachines$Table", "save", "(II[I)V"⟩ ∈ TB := TB_tab (i := 719) (by decide +kernel) rfl
theorem mw_720 : Cond.code ⟨"StepMachines$Table", "save", "(II[I)V"⟩ prog_10_method_13_code 4 none ∈ TB := TB_tab (i := 720) (by decide +kernel) rfl
theorem mw_721 : Cond.methodLink "StepMachines$Table" 155 ⟨"StepMachines$Subject", "byteBehind", "(I)I"⟩ ∈ TB := TB_tab (i := 721) (by decide +kernel) rfl
theorem mw_722 : Cond.methodLink "StepMachines" 141 ⟨"StepMachines$Threads", "run", "(IZI)V"⟩ ∈ TB := TB_tab (i := 722) (by decide +kernel) rfl
theorem mw_723 : Cond.instanceMethod ⟨"StepMachines$Threads", "run", "(IZI)V"⟩ ∈ TB := TB_tab (i := 723) (by decide +kernel) rfl
theorem mw_724 : Cond.selects "StepMachines$Threads" ⟨"StepMachines$Threads", "run", "(IZI)V"⟩ ⟨"StepMachines$Threads", "run", "(IZI)V"⟩ ∈ TB := TB_tab (i := 724) (by decide +kernel) rfl
theorem mw_725 : Cond.code ⟨"StepMachines$Threads", "run", "(IZI)V"⟩ prog_12_method_2_code 5 none ∈ TB := TB_tab (i := 725) (by decide +kernel) rfl
theorem mw_726 : Cond.methodLink "StepMachines$Threads" 59 ⟨"StepMachines$Row", "empty", "()V"⟩ ∈ TB := TB_tab (i := 726) (by decide +kernel) rfl
theorem mw_727 : Cond.methodLink "StepMachines$Threads" 67 ⟨"StepMachines$Threads", "beginThread", "(I)V"⟩ ∈ TB := TB_tab (i := 727) (by decide +kernel) rfl
theorem mw_729 : Cond.instanceMethod ⟨"StepMachines$Threads", "beginThread", "(I)V"⟩ ∈ TB := TB_tab (i := 729) (by decide +kernel) rfl
theorem mw_730 : Cond.code ⟨"StepMachines$Threads", "beginThread", "(I)V"⟩ prog_12_method_3_code 2 none ∈ TB := TB_tab (i := 730) (by decide +kernel) rfl
theorem mw_731 : Cond.methodLink "StepMachines$Threads" 77 ⟨"java/util/Arrays", "fill", "([II)V"⟩ ∈ TB := TB_tab (i := 731) (by decide +kernel) rfl
theorem mw_732 : Cond.methodLink "StepMachines$Threads" 83 ⟨"StepMachines$Subject", "whatIsSoAt", "(I)I"⟩ ∈ TB := TB_tab (i := 732) (by decide +kernel) rfl
theorem mw_733 : Cond.methodLink "StepMachines$Threads" 92 ⟨"StepMachines$Threads", "comeTo", "(IILStepMachines$Row;[I)V"⟩ ∈ TB := TB_tab (i := 733) (by decide +kernel) rfl
theorem mw_735 : Cond.instanceMethod ⟨"StepMachines$Threads", "comeTo", "(IILStepMachines$Row;[I)V"⟩ ∈ TB := TB_tab (i := 735) (by decide +kernel) rfl
theorem mw_736 : Cond.code ⟨"StepMachines$Threads", "comeTo", "(IILStepMachines$Row;[I)V"⟩ prog_12_method_6_code 7 none ∈ TB := TB_tab (i := 736) (by decide +kernel) rfl
theorem mw_737 : Cond.methodLink "StepMachines$Threads" 121 ⟨"StepMachines$Jobs", "drop", "()V"⟩ ∈ TB := TB_tab (i := 737) (by decide +kernel) rfl
theorem mw_738 : Cond.methodLink "StepMachines$Threads" 124 ⟨"StepMachines$Jobs", "add", "(I)V"⟩ ∈ TB := TB_tab (i := 738) (by decide +kernel) rfl
theorem mw_739 : Cond.constant "StepMachines$Threads" 127 (1000000 : Int32) ∈ TB := TB_tab (i := 739) (by decide +kernel) rfl
theorem mw_740 : Cond.methodLink "StepMachines$Threads" 128 ⟨"StepMachines$Jobs", "isEmpty", "()Z"⟩ ∈ TB := TB_tab (i := 740) (by decide +kernel) rfl
theorem mw_741 : Cond.methodLink "StepMachines$Threads" 132 ⟨"StepMachines$Jobs", "take", "()I"⟩ ∈ TB := TB_tab (i := 741) (by decide +kernel) rfl
theorem mw_742 : Cond.methodLink "StepMachines$Threads" 136 ⟨"StepMachines$Jobs", "isPutBack", "(I)Z"⟩ ∈ TB := TB_tab (i := 742) (by decide +kernel) rfl
theorem mw_743 : Cond.methodLink "StepMachines$Threads" 140 ⟨"StepMachines$Jobs", "putBack", "(I[I)V"⟩ ∈ TB := TB_tab (i := 743) (by decide +kernel) rfl
theorem mw_744 : Cond.methodLink "StepMachines$Threads" 144 ⟨"StepMachines$Threads", "visit", "(IILStepMachines$Row;[I)V"⟩ ∈ TB := TB_tab (i := 744) (by decide +kernel) rfl
theorem mw_746 : Cond.instanceMethod ⟨"StepMachines$Threads", "visit", "(IILStepMachines$Row;[I)V"⟩ ∈ TB := TB_tab (i := 746) (by decide +kernel) rfl
theorem mw_747 : Cond.code ⟨"StepMachines$Threads", "visit", "(IILStepMachines$Row;[I)V"⟩ prog_12_method_7_code 6 none ∈ TB := TB_tab (i := 747) (by decide +kernel) rfl
theorem mw_748 : Cond.methodLink "StepMachines$Threads" 147 ⟨"StepMachines$Tally", "count", "()V"⟩ ∈ TB := TB_tab (i := 748) (by decide +kernel) rfl
theorem mw_749 : Cond.methodLink "StepMachines$Threads" 151 ⟨"StepMachines$Row", "meets", "(I)Z"⟩ ∈ TB := TB_tab (i := 749) (by decide +kernel) rfl
theorem mw_750 : Cond.methodLink "StepMachines$Threads" 160 ⟨"StepMachines$Row", "add", "(I)V"⟩ ∈ TB := TB_tab (i := 750) (by decide +kernel) rfl
theorem mw_751 : Cond.instanceMethod ⟨"StepMachines$Row", "add", "(I)V"⟩ ∈ TB := TB_tab (i := 751) (by decide +kernel) rfl
theorem mw_752 : Cond.selects "StepMachines$Row" ⟨"StepMachines$Row", "add", "(I)V"⟩ ⟨"StepMachines$Row", "add", "(I)V"⟩ ∈ TB := TB_tab (i := 752) (by decide +kernel) rfl
theorem mw_753 : Cond.code ⟨"StepMachines$Row", "add", "(I)V"⟩ prog_7_method_4_code 2 none ∈ TB := TB_tab (i := 753) (by decide +kernel) rfl
theorem mw_754 : Cond.methodLink "StepMachines$Threads" 109 ⟨"java/lang/System", "arraycopy", "(Ljava/lang/Object;ILjava/lang/Object;II)V"⟩ ∈ TB := TB_tab (i := 754) (by decide +kernel) rfl
theorem mw_755 : Cond.methodLink "StepMachines$Threads" 164 ⟨"StepMachines$Jobs", "putBackOf", "(II)I"⟩ ∈ TB := TB_tab (i := 755) (by decide +kernel) rfl
theorem mw_756 : Cond.methodLink "StepMachines$Threads" 70 ⟨"StepMachines$Threads", "goOverByte", "(IZI)V"⟩ ∈ TB := TB_tab (i := 756) (by decide +kernel) rfl
theorem mw_758 : Cond.instanceMethod ⟨"StepMachines$Threads", "goOverByte", "(IZI)V"⟩ ∈ TB := TB_tab (i := 758) (by decide +kernel) rfl
theorem mw_759 : Cond.code ⟨"StepMachines$Threads", "goOverByte", "(IZI)V"⟩ prog_12_method_4_code 7 none ∈ TB := TB_tab (i := 759) (by decide +kernel) rfl
theorem mw_760 : Cond.methodLink "StepMachines$Threads" 96 ⟨"StepMachines$Subject", "byteBehind", "(I)I"⟩ ∈ TB := TB_tab (i := 760) (by decide +kernel) rfl
theorem mw_761 : Cond.methodLink "StepMachines$Threads" 105 ⟨"StepMachines$Subject", "mayEnd", "(II)Z"⟩ ∈ TB := TB_tab (i := 761) (by decide +kernel) rfl
theorem mw_762 : Cond.methodLink "StepMachines$Threads" 115 ⟨"StepMachines$Program", "takes", "(II)Z"⟩ ∈ TB := TB_tab (i := 762) (by decide +kernel) rfl
theorem mw_763 : Cond.methodLink "StepMachines$Threads" 74 ⟨"StepMachines$Threads", "swapRows", "()V"⟩ ∈ TB := TB_tab (i := 763) (by decide +kernel) rfl
theorem mw_765 : Cond.instanceMethod ⟨"StepMachines$Threads", "swapRows", "()V"⟩ ∈ TB := TB_tab (i := 765) (by decide +kernel) rfl
theorem mw_766 : Cond.code ⟨"StepMachines$Threads", "swapRows", "()V"⟩ prog_12_method_5_code 3 none ∈ TB := TB_tab (i := 766) (by decide +kernel) rfl
theorem mw_767 : Cond.methodLink "StepMachines" 142 ⟨"StepMachines", "mostTaken", "()I"⟩ ∈ TB := TB_tab (i := 767) (by decide +kernel) rfl
theorem mw_769 : Cond.instanceMethod ⟨"StepMachines", "mostTaken", "()I"⟩ ∈ TB := TB_tab (i := 769) (by decide +kernel) rfl
theorem mw_770 : Cond.code ⟨"StepMachines", "mostTaken", "()I"⟩ prog_1_method_14_code 1 (some .int) ∈ TB := TB_tab (i := 770) (by decide +kernel) rfl
theorem mw_771 : Cond.methodLink "StepMachines" 146 ⟨"StepMachines$Tally", "close", "(I)V"⟩ ∈ TB := TB_tab (i := 771) (by decide +kernel) rfl
theorem mw_772 : Cond.instanceMethod ⟨"StepMachines$Tally", "close", "(I)V"⟩ ∈ TB := TB_tab (i := 772) (by decide +kernel) rfl
theorem mw_773 : Cond.selects "StepMachines$Tally" ⟨"StepMachines$Tally", "close", "(I)V"⟩ ⟨"StepMachines$Tally", "close", "(I)V"⟩ ∈ TB := TB_tab (i := 773) (by decide +kernel) rfl
theorem mw_774 : Cond.code ⟨"StepMachines$Tally", "close", "(I)V"⟩ prog_11_method_4_code 2 none ∈ TB := TB_tab (i := 774) (by decide +kernel) rfl
theorem mw_775 : Cond.methodLink "StepMachinesLaw" 76 ⟨"StepMachinesLaw", "ends", "(LStepMachines;IZI[J)I"⟩ ∈ TB := TB_tab (i := 775) (by decide +kernel) rfl
theorem mw_776 : Cond.static ⟨"StepMachinesLaw", "ends", "(LStepMachines;IZI[J)I"⟩ ∈ TB := TB_tab (i := 776) (by decide +kernel) rfl
theorem mw_778 : Cond.methodLink "StepMachinesLaw" 28 ⟨"StepMachines", "ends", "(IZI)I"⟩ ∈ TB := TB_tab (i := 778) (by decide +kernel) rfl
theorem mw_779 : Cond.instanceMethod ⟨"StepMachines", "ends", "(IZI)I"⟩ ∈ TB := TB_tab (i := 779) (by decide +kernel) rfl
theorem mw_780 : Cond.selects "StepMachines" ⟨"StepMachines", "ends", "(IZI)I"⟩ ⟨"StepMachines", "ends", "(IZI)I"⟩ ∈ TB := TB_tab (i := 780) (by decide +kernel) rfl
theorem mw_781 : Cond.code ⟨"StepMachines", "ends", "(IZI)I"⟩ prog_1_method_9_code 5 (some .int) ∈ TB := TB_tab (i := 781) (by decide +kernel) rfl
theorem mw_783 : Cond.methodLink "StepMachines" 151 ⟨"StepMachines$States", "run", "(IZI)I"⟩ ∈ TB := TB_tab (i := 783) (by decide +kernel) rfl
theorem mw_784 : Cond.instanceMethod ⟨"StepMachines$States", "run", "(IZI)I"⟩ ∈ TB := TB_tab (i := 784) (by decide +kernel) rfl
theorem mw_785 : Cond.selects "StepMachines$States" ⟨"StepMachines$States", "run", "(IZI)I"⟩ ⟨"StepMachines$States", "run", "(IZI)I"⟩ ∈ TB := TB_tab (i := 785) (by decide +kernel) rfl
theorem mw_786 : Cond.code ⟨"StepMachines$States", "run", "(IZI)I"⟩ prog_8_method_4_code 9 (some .int) ∈ TB := TB_tab (i := 786) (by decide +kernel) rfl
theorem mw_787 : Cond.methodLink "StepMachines$States" 59 ⟨"StepMachines$States", "goalOf", "(IZ)I"⟩ ∈ TB := TB_tab (i := 787) (by decide +kernel) rfl
theorem mw_788 : Cond.static ⟨"StepMachines$States", "goalOf", "(IZ)I"⟩ ∈ TB := TB_tab (i := 788) (by decide +kernel) rfl
theorem mw_789 : Cond.code ⟨"StepMachines$States", "goalOf", "(IZ)I"⟩ prog_8_method_5_code 2 (some .int) ∈ TB := TB_tab (i := 789) (by decide +kernel) rfl
theorem mw_790 : Cond.methodLink "StepMachines$States" 63 ⟨"StepMachines$Subject", "byteBehind", "(I)I"⟩ ∈ TB := TB_tab (i := 790) (by decide +kernel) rfl
theorem mw_791 : Cond.methodLink "StepMachines$States" 69 ⟨"StepMachines$States", "firstState", "(II)I"⟩ ∈ TB := TB_tab (i := 791) (by decide +kernel) rfl
theorem mw_793 : Cond.instanceMethod ⟨"StepMachines$States", "firstState", "(II)I"⟩ ∈ TB := TB_tab (i := 793) (by decide +kernel) rfl
theorem mw_794 : Cond.code ⟨"StepMachines$States", "firstState", "(II)I"⟩ prog_8_method_7_code 3 (some .int) ∈ TB := TB_tab (i := 794) (by decide +kernel) rfl
theorem mw_795 : Cond.methodLink "StepMachines$States" 87 ⟨"StepMachines$Row", "empty", "()V"⟩ ∈ TB := TB_tab (i := 795) (by decide +kernel) rfl
theorem mw_796 : Cond.methodLink "StepMachines$States" 95 ⟨"StepMachines$Row", "add", "(I)V"⟩ ∈ TB := TB_tab (i := 796) (by decide +kernel) rfl
theorem mw_797 : Cond.methodLink "StepMachines$States" 98 ⟨"StepMachines$States", "labelOf", "(II)I"⟩ ∈ TB := TB_tab (i := 797) (by decide +kernel) rfl
theorem mw_798 : Cond.static ⟨"StepMachines$States", "labelOf", "(II)I"⟩ ∈ TB := TB_tab (i := 798) (by decide +kernel) rfl
theorem mw_799 : Cond.code ⟨"StepMachines$States", "labelOf", "(II)I"⟩ prog_8_method_6_code 3 (some .int) ∈ TB := TB_tab (i := 799) (by decide +kernel) rfl
theorem mw_800 : Cond.methodLink "StepMachines$States" 79 ⟨"StepMachines$Subject", "isWord", "(I)Z"⟩ ∈ TB := TB_tab (i := 800) (by decide +kernel) rfl
theorem mw_801 : Cond.fieldLink "StepMachines$States" 83 "StepMachines$States" "BEFORE" "[I" ∈ TB := TB_tab (i := 801) (by decide +kernel) rfl
theorem mw_803 : Cond.methodLink "StepMachines$States" 101 ⟨"StepMachines$Kept", "numberOf", "(LStepMachines$Row;I)I"⟩ ∈ TB := TB_tab (i := 803) (by decide +kernel) rfl
theorem mw_804 : Cond.instanceMethod ⟨"StepMachines$Kept", "numberOf", "(LStepMachines$Row;I)I"⟩ ∈ TB := TB_tab (i := 804) (by decide +kernel) rfl
theorem mw_805 : Cond.selects "StepMachines$Kept" ⟨"StepMachines$Kept", "numberOf", "(LStepMachines$Row;I)I"⟩ ⟨"StepMachines$Kept", "numberOf", "(LStepMachines$Row;I)I"⟩ ∈ TB := TB_tab (i := 805) (by decide +kernel) rfl
theorem mw_806 : Cond.code ⟨"StepMachines$Kept", "numberOf", "(LStepMachines$Row;I)I"⟩ prog_3_method_10_code 5 (some .int) ∈ TB := TB_tab (i := 806) (by decide +kernel) rfl
theorem mw_807 : Cond.methodLink "StepMachines$Kept" 60 ⟨"StepMachines$Kept", "sumOf", "(LStepMachines$Row;I)I"⟩ ∈ TB := TB_tab (i := 807) (by decide +kernel) rfl
theorem mw_808 : Cond.static ⟨"StepMachines$Kept", "sumOf", "(LStepMachines$Row;I)I"⟩ ∈ TB := TB_tab (i := 808) (by decide +kernel) rfl
theorem mw_809 : Cond.code ⟨"StepMachines$Kept", "sumOf", "(LStepMachines$Row;I)I"⟩ prog_3_method_11_code 4 (some .int) ∈ TB := TB_tab (i := 809) (by decide +kernel) rfl
theorem mw_810 : Cond.methodLink "StepMachines$Kept" 64 ⟨"StepMachines$Kept", "isSame", "(ILStepMachines$Row;I)Z"⟩ ∈ TB := TB_tab (i := 810) (by decide +kernel) rfl
theorem mw_812 : Cond.instanceMethod ⟨"StepMachines$Kept", "isSame", "(ILStepMachines$Row;I)Z"⟩ ∈ TB := TB_tab (i := 812) (by decide +kernel) rfl
theorem mw_813 : Cond.code ⟨"StepMachines$Kept", "isSame", "(ILStepMachines$Row;I)Z"⟩ prog_3_method_12_code 5 (some .boolean) ∈ TB := TB_tab (i := 813) (by decide +kernel) rfl
theorem mw_814 : Cond.methodLink "StepMachines$Kept" 79 ⟨"StepMachines$Kept", "stepOf", "(II)I"⟩ ∈ TB := TB_tab (i := 814) (by decide +kernel) rfl
theorem mw_815 : Cond.instanceMethod ⟨"StepMachines$Kept", "stepOf", "(II)I"⟩ ∈ TB := TB_tab (i := 815) (by decide +kernel) rfl
theorem mw_816 : Cond.selects "StepMachines$Kept" ⟨"StepMachines$Kept", "stepOf", "(II)I"⟩ ⟨"StepMachines$Kept", "stepOf", "(II)I"⟩ ∈ TB := TB_tab (i := 816) (by decide +kernel) rfl
theorem mw_817 : Cond.code ⟨"StepMachines$Kept", "stepOf", "(II)I"⟩ prog_3_method_7_code 3 (some .int) ∈ TB := TB_tab (i := 817) (by decide +kernel) rfl
theorem mw_818 : Cond.methodLink "StepMachines$Kept" 52 ⟨"StepMachines$Packed", "get", "(I)I"⟩ ∈ TB := TB_tab (i := 818) (by decide +kernel) rfl
theorem mw_819 : Cond.instanceMethod ⟨"StepMachines$Packed", "get", "(I)I"⟩ ∈ TB := TB_tab (i := 819) (by decide +kernel) rfl
theorem mw_820 : Cond.selects "StepMachines$Packed" ⟨"StepMachines$Packed", "get", "(I)I"⟩ ⟨"StepMachines$Packed", "get", "(I)I"⟩ ∈ TB := TB_tab (i := 820) (by decide +kernel) rfl
theorem mw_821 : Cond.code ⟨"StepMachines$Packed", "get", "(I)I"⟩ prog_5_method_2_code 3 (some .int) ∈ TB := TB_tab (i := 821) (by decide +kernel) rfl
theorem mw_822 : Cond.constantLong "StepMachines$Packed" 13 (255 : Int64) ∈ TB := TB_tab (i := 822) (by decide +kernel) rfl
theorem mw_823 : Cond.methodLink "StepMachines$Kept" 40 ⟨"StepMachines$Kept", "forget", "()V"⟩ ∈ TB := TB_tab (i := 823) (by decide +kernel) rfl
theorem mw_824 : Cond.methodLink "StepMachines$Kept" 68 ⟨"StepMachines$Kept", "add", "(LStepMachines$Row;II)V"⟩ ∈ TB := TB_tab (i := 824) (by decide +kernel) rfl
theorem mw_826 : Cond.instanceMethod ⟨"StepMachines$Kept", "add", "(LStepMachines$Row;II)V"⟩ ∈ TB := TB_tab (i := 826) (by decide +kernel) rfl
theorem mw_827 : Cond.code ⟨"StepMachines$Kept", "add", "(LStepMachines$Row;II)V"⟩ prog_3_method_13_code 5 none ∈ TB := TB_tab (i := 827) (by decide +kernel) rfl
theorem mw_828 : Cond.methodLink "StepMachines$Kept" 56 ⟨"StepMachines$Packed", "set", "(II)V"⟩ ∈ TB := TB_tab (i := 828) (by decide +kernel) rfl
theorem mw_829 : Cond.instanceMethod ⟨"StepMachines$Packed", "set", "(II)V"⟩ ∈ TB := TB_tab (i := 829) (by decide +kernel) rfl
theorem mw_830 : Cond.selects "StepMachines$Packed" ⟨"StepMachines$Packed", "set", "(II)V"⟩ ⟨"StepMachines$Packed", "set", "(II)V"⟩ ∈ TB := TB_tab (i := 830) (by decide +kernel) rfl
theorem mw_831 : Cond.code ⟨"StepMachines$Packed", "set", "(II)V"⟩ prog_5_method_3_code 5 none ∈ TB := TB_tab (i := 831) (by decide +kernel) rfl
theorem mw_832 : Cond.constantLong "StepMachines$Packed" 15 (-1 : Int64) ∈ TB := TB_tab (i := 832) (by decide +kernel) rfl
theorem mw_833 : Cond.methodLink "StepMachines$Kept" 82 ⟨"StepMachines$Packed", "wipe", "(II)V"⟩ ∈ TB := TB_tab (i := 833) (by decide +kernel) rfl
theorem mw_834 : Cond.instanceMethod ⟨"StepMachines$Packed", "wipe", "(II)V"⟩ ∈ TB := TB_tab (i := 834) (by decide +kernel) rfl
theorem mw_835 : Cond.selects "StepMachines$Packed" ⟨"StepMachines$Packed", "wipe", "(II)V"⟩ ⟨"StepMachines$Packed", "wipe", "(II)V"⟩ ∈ TB := TB_tab (i := 835) (by decide +kernel) rfl
theorem mw_836 : Cond.code ⟨"StepMachines$Packed", "wipe", "(II)V"⟩ prog_5_method_4_code 5 none ∈ TB := TB_tab (i := 836) (by decide +kernel) rfl
theorem mw_837 : Cond.methodLink "StepMachines$States" 76 ⟨"StepMachines$States", "moveFrom", "(II)I"⟩ ∈ TB := TB_tab (i := 837) (by decide +kernel) rfl
theorem mw_839 : Cond.instanceMethod ⟨"StepMachines$States", "moveFrom", "(II)I"⟩ ∈ TB := TB_tab (i := 839) (by decide +kernel) rfl
theorem mw_840 : Cond.code ⟨"StepMachines$States", "moveFrom", "(II)I"⟩ prog_8_method_8_code 10 (some .int) ∈ TB := TB_tab (i := 840) (by decide +kernel) rfl
theorem mw_841 : Cond.methodLink "StepMachines$States" 105 ⟨"StepMachines$Tally", "count", "()V"⟩ ∈ TB := TB_tab (i := 841) (by decide +kernel) rfl
theorem mw_842 : Cond.methodLink "StepMachines$States" 110 ⟨"StepMachines$Kept", "moveOf", "(II)I"⟩ ∈ TB := TB_tab (i := 842) (by decide +kernel) rfl
theorem mw_843 : Cond.instanceMethod ⟨"StepMachines$Kept", "moveOf", "(II)I"⟩ ∈ TB := TB_tab (i := 843) (by decide +kernel) rfl
theorem mw_844 : Cond.selects "StepMachines$Kept" ⟨"StepMachines$Kept", "moveOf", "(II)I"⟩ ⟨"StepMachines$Kept", "moveOf", "(II)I"⟩ ∈ TB := TB_tab (i := 844) (by decide +kernel) rfl
theorem mw_845 : Cond.code ⟨"StepMachines$Kept", "moveOf", "(II)I"⟩ prog_3_method_8_code 3 (some .int) ∈ TB := TB_tab (i := 845) (by decide +kernel) rfl
theorem mw_846 : Cond.methodLink "StepMachines$States" 113 ⟨"StepMachines$Kept", "labelOf", "(I)I"⟩ ∈ TB := TB_tab (i := 846) (by decide +kernel) rfl
theorem mw_847 : Cond.instanceMethod ⟨"StepMachines$Kept", "labelOf", "(I)I"⟩ ∈ TB := TB_tab (i := 847) (by decide +kernel) rfl
theorem mw_848 : Cond.selects "StepMachines$Kept" ⟨"StepMachines$Kept", "labelOf", "(I)I"⟩ ⟨"StepMachines$Kept", "labelOf", "(I)I"⟩ ∈ TB := TB_tab (i := 848) (by decide +kernel) rfl
theorem mw_849 : Cond.code ⟨"StepMachines$Kept", "labelOf", "(I)I"⟩ prog_3_method_5_code 2 (some .int) ∈ TB := TB_tab (i := 849) (by decide +kernel) rfl
theorem mw_850 : Cond.methodLink "StepMachines$States" 115 ⟨"StepMachines$States", "goOver", "(III)Z"⟩ ∈ TB := TB_tab (i := 850) (by decide +kernel) rfl
theorem mw_852 : Cond.instanceMethod ⟨"StepMachines$States", "goOver", "(III)Z"⟩ ∈ TB := TB_tab (i := 852) (by decide +kernel) rfl
theorem mw_853 : Cond.code ⟨"StepMachines$States", "goOver", "(III)Z"⟩ prog_8_method_9_code 8 (some .boolean) ∈ TB := TB_tab (i := 853) (by decide +kernel) rfl
theorem mw_854 : Cond.methodLink "StepMachines$States" 128 ⟨"StepMachines$Subject", "whatIsSo", "(II)I"⟩ ∈ TB := TB_tab (i := 854) (by decide +kernel) rfl
theorem mw_855 : Cond.methodLink "StepMachines$States" 131 ⟨"StepMachines$Kept", "countOf", "(I)I"⟩ ∈ TB := TB_tab (i := 855) (by decide +kernel) rfl
theorem mw_856 : Cond.instanceMethod ⟨"StepMachines$Kept", "countOf", "(I)I"⟩ ∈ TB := TB_tab (i := 856) (by decide +kernel) rfl
theorem mw_857 : Cond.selects "StepMachines$Kept" ⟨"StepMachines$Kept", "countOf", "(I)I"⟩ ⟨"StepMachines$Kept", "countOf", "(I)I"⟩ ∈ TB := TB_tab (i := 857) (by decide +kernel) rfl
theorem mw_858 : Cond.code ⟨"StepMachines$Kept", "countOf", "(I)I"⟩ prog_3_method_6_code 2 (some .int) ∈ TB := TB_tab (i := 858) (by decide +kernel) rfl
theorem mw_859 : Cond.methodLink "StepMachines$States" 134 ⟨"StepMachines$Kept", "stepOf", "(II)I"⟩ ∈ TB := TB_tab (i := 859) (by decide +kernel) rfl
theorem mw_860 : Cond.methodLink "StepMachines$States" 137 ⟨"StepMachines$States", "follow", "(III)Z"⟩ ∈ TB := TB_tab (i := 860) (by decide +kernel) rfl
theorem mw_862 : Cond.instanceMethod ⟨"StepMachines$States", "follow", "(III)Z"⟩ ∈ TB := TB_tab (i := 862) (by decide +kernel) rfl
theorem mw_863 : Cond.code ⟨"StepMachines$States", "follow", "(III)Z"⟩ prog_8_method_10_code 7 (some .boolean) ∈ TB := TB_tab (i := 863) (by decide +kernel) rfl
theorem mw_864 : Cond.methodLink "StepMachines$States" 140 ⟨"StepMachines$Jobs", "drop", "()V"⟩ ∈ TB := TB_tab (i := 864) (by decide +kernel) rfl
theorem mw_865 : Cond.methodLink "StepMachines$States" 143 ⟨"StepMachines$Jobs", "add", "(I)V"⟩ ∈ TB := TB_tab (i := 865) (by decide +kernel) rfl
theorem mw_866 : Cond.constant "StepMachines$States" 144 (1000000 : Int32) ∈ TB := TB_tab (i := 866) (by decide +kernel) rfl
theorem mw_867 : Cond.methodLink "StepMachines$States" 145 ⟨"StepMachines$Jobs", "isEmpty", "()Z"⟩ ∈ TB := TB_tab (i := 867) (by decide +kernel) rfl
theorem mw_868 : Cond.methodLink "StepMachines$States" 149 ⟨"StepMachines$Jobs", "take", "()I"⟩ ∈ TB := TB_tab (i := 868) (by decide +kernel) rfl
theorem mw_869 : Cond.methodLink "StepMachines$States" 152 ⟨"StepMachines$Row", "meets", "(I)Z"⟩ ∈ TB := TB_tab (i := 869) (by decide +kernel) rfl
theorem mw_870 : Cond.methodLink "StepMachines$States" 155 ⟨"StepMachines$States", "visit", "(II)V"⟩ ∈ TB := TB_tab (i := 870) (by decide +kernel) rfl
theorem mw_872 : Cond.instanceMethod ⟨"StepMachines$States", "visit", "(II)V"⟩ ∈ TB := TB_tab (i := 872) (by decide +kernel) rfl
theorem mw_873 : Cond.code ⟨"StepMachines$States", "visit", "(II)V"⟩ prog_8_method_11_code 3 none ∈ TB := TB_tab (i := 873) (by decide +kernel) rfl
theorem mw_874 : Cond.methodLink "StepMachines$States" 162 ⟨"StepMachines$Program", "takes", "(II)Z"⟩ ∈ TB := TB_tab (i := 874) (by decide +kernel) rfl
theorem mw_875 : Cond.methodLink "StepMachines$States" 119 ⟨"StepMachines$Kept", "count", "()I"⟩ ∈ TB := TB_tab (i := 875) (by decide +kernel) rfl
theorem mw_876 : Cond.instanceMethod ⟨"StepMachines$Kept", "count", "()I"⟩ ∈ TB := TB_tab (i := 876) (by decide +kernel) rfl
theorem mw_877 : Cond.selects "StepMachines$Kept" ⟨"StepMachines$Kept", "count", "()I"⟩ ⟨"StepMachines$Kept", "count", "()I"⟩ ∈ TB := TB_tab (i := 877) (by decide +kernel) rfl
theorem mw_878 : Cond.code ⟨"StepMachines$Kept", "count", "()I"⟩ prog_3_method_4_code 1 (some .int) ∈ TB := TB_tab (i := 878) (by decide +kernel) rfl
theorem mw_879 : Cond.methodLink "StepMachines$States" 124 ⟨"StepMachines$Kept", "know", "(III)V"⟩ ∈ TB := TB_tab (i := 879) (by decide +kernel) rfl
theorem mw_880 : Cond.instanceMethod ⟨"StepMachines$Kept", "know", "(III)V"⟩ ∈ TB := TB_tab (i := 880) (by decide +kernel) rfl
theorem mw_881 : Cond.selects "StepMachines$Kept" ⟨"StepMachines$Kept", "know", "(III)V"⟩ ⟨"StepMachines$Kept", "know", "(III)V"⟩ ∈ TB := TB_tab (i := 881) (by decide +kernel) rfl
theorem mw_882 : Cond.code ⟨"StepMachines$Kept", "know", "(III)V"⟩ prog_3_method_9_code 4 none ∈ TB := TB_tab (i := 882) (by decide +kernel) rfl
theorem mw_883 : Cond.methodLink "StepMachinesLaw" 80 ⟨"StepMachinesLaw", "keep", "(LStepMachines;I)I"⟩ ∈ TB := TB_tab (i := 883) (by decide +kernel) rfl
theorem mw_884 : Cond.static ⟨"StepMachinesLaw", "keep", "(LStepMachines;I)I"⟩ ∈ TB := TB_tab (i := 884) (by decide +kernel) rfl
theorem mw_886 : Cond.methodLink "StepMachinesLaw" 32 ⟨"StepMachines", "keep", "(I)V"⟩ ∈ TB := TB_tab (i := 886) (by decide +kernel) rfl
theorem mw_887 : Cond.instanceMethod ⟨"StepMachines", "keep", "(I)V"⟩ ∈ TB := TB_tab (i := 887) (by decide +kernel) rfl
theorem mw_888 : Cond.selects "StepMachines" ⟨"StepMachines", "keep", "(I)V"⟩ ⟨"StepMachines", "keep", "(I)V"⟩ ∈ TB := TB_tab (i := 888) (by decide +kernel) rfl
theorem mw_889 : Cond.code ⟨"StepMachines", "keep", "(I)V"⟩ prog_1_method_10_code 2 none ∈ TB := TB_tab (i := 889) (by decide +kernel) rfl
theorem mw_891 : Cond.methodLink "StepMachines" 156 ⟨"StepMachines$States", "allow", "(I)V"⟩ ∈ TB := TB_tab (i := 891) (by decide +kernel) rfl
theorem mw_892 : Cond.instanceMethod ⟨"StepMachines$States", "allow", "(I)V"⟩ ∈ TB := TB_tab (i := 892) (by decide +kernel) rfl
theorem mw_893 : Cond.selects "StepMachines$States" ⟨"StepMachines$States", "allow", "(I)V"⟩ ⟨"StepMachines$States", "allow", "(I)V"⟩ ∈ TB := TB_tab (i := 893) (by decide +kernel) rfl
theorem mw_894 : Cond.code ⟨"StepMachines$States", "allow", "(I)V"⟩ prog_8_method_2_code 2 none ∈ TB := TB_tab (i := 894) (by decide +kernel) rfl
theorem mw_895 : Cond.methodLink "StepMachines$States" 53 ⟨"StepMachines$Kept", "allow", "(I)V"⟩ ∈ TB := TB_tab (i := 895) (by decide +kernel) rfl
theorem mw_896 : Cond.instanceMethod ⟨"StepMachines$Kept", "allow", "(I)V"⟩ ∈ TB := TB_tab (i := 896) (by decide +kernel) rfl
theorem mw_897 : Cond.selects "StepMachines$Kept" ⟨"StepMachines$Kept", "allow", "(I)V"⟩ ⟨"StepMachines$Kept", "allow", "(I)V"⟩ ∈ TB := TB_tab (i := 897) (by decide +kernel) rfl
theorem mw_898 : Cond.code ⟨"StepMachines$Kept", "allow", "(I)V"⟩ prog_3_method_2_code 2 none ∈ TB := TB_tab (i := 898) (by decide +kernel) rfl
theorem mw_899 : Cond.methodLink "StepMachines$Kept" 43 ⟨"java/lang/Math", "min", "(II)I"⟩ ∈ TB := TB_tab (i := 899) (by decide +kernel) rfl
theorem mw_900 : Cond.static ⟨"java/lang/Math", "min", "(II)I"⟩ ∈ TB := TB_tab (i := 900) (by decide +kernel) rfl
theorem mw_901 : Cond.code ⟨"java/lang/Math", "min", "(II)I"⟩ prog_18_method_69_code 2 (some .int) ∈ TB := TB_tab (i := 901) (by decide +kernel) rfl
theorem mw_902 : Cond.methodLink "StepMachines$Kept" 49 ⟨"java/lang/Math", "max", "(II)I"⟩ ∈ TB := TB_tab (i := 902) (by decide +kernel) rfl
theorem mw_903 : Cond.static ⟨"java/lang/Math", "max", "(II)I"⟩ ∈ TB := TB_tab (i := 903) (by decide +kernel) rfl
theorem mw_904 : Cond.code ⟨"java/lang/Math", "max", "(II)I"⟩ prog_18_method_65_code 2 (some .int) ∈ TB := TB_tab (i := 904) (by decide +kernel) rfl
theorem mw_905 : Cond.classLink "StepMachinesLaw" 36 "StepMachinesModel" ∈ TB := TB_tab (i := 905) (by decide +kernel) rfl
theorem mw_906 : Cond.instantiable "StepMachinesModel" 25 ∈ TB := TB_tab (i := 906) (by decide +kernel) rfl
theorem mw_907 : Cond.methodLink "StepMachinesLaw" 38 ⟨"StepMachinesModel", "<init>", "()V"⟩ ∈ TB := TB_tab (i := 907) (by decide +kernel) rfl
theorem mw_908 : Cond.instanceMethod ⟨"StepMachinesModel", "<init>", "()V"⟩ ∈ TB := TB_tab (i := 908) (by decide +kernel) rfl
theorem mw_909 : Cond.code ⟨"StepMachinesModel", "<init>", "()V"⟩ prog_14_method_1_code 2 none ∈ TB := TB_tab (i := 909) (by decide +kernel) rfl
theorem mw_910 : Cond.methodLink "StepMachinesModel" 1 ⟨"java/lang/Object", "<init>", "()V"⟩ ∈ TB := TB_tab (i := 910) (by decide +kernel) rfl
theorem mw_911 : Cond.constant "StepMachinesModel" 29 (40200 : Int32) ∈ TB := TB_tab (i := 911) (by decide +kernel) rfl
theorem mw_912 : Cond.fieldLink "StepMachinesModel" 70 "StepMachinesModel" "thrown" "I" ∈ TB := TB_tab (i := 912) (by decide +kernel) rfl
theorem mw_913 : Cond.fieldLink "StepMachinesModel" 7 "StepMachinesModel" "steps" "I" ∈ TB := TB_tab (i := 913) (by decide +kernel) rfl
theorem mw_914 : Cond.fieldLink "StepMachinesModel" 73 "StepMachinesModel" "begin" "I" ∈ TB := TB_tab (i := 914) (by decide +kernel) rfl
theorem mw_915 : Cond.fieldLink "StepMachinesModel" 13 "StepMachinesModel" "kinds" "[I" ∈ TB := TB_tab (i := 915) (by decide +kernel) rfl
theorem mw_916 : Cond.fieldLink "StepMachinesModel" 17 "StepMachinesModel" "values" "[I" ∈ TB := TB_tab (i := 916) (by decide +kernel) rfl
theorem mw_917 : Cond.fieldLink "StepMachinesModel" 20 "StepMachinesModel" "first" "[I" ∈ TB := TB_tab (i := 917) (by decide +kernel) rfl
theorem mw_918 : Cond.fieldLink "StepMachinesModel" 23 "StepMachinesModel" "second" "[I" ∈ TB := TB_tab (i := 918) (by decide +kernel) rfl
theorem mw_919 : Cond.fieldLink "StepMachinesModel" 26 "StepMachinesModel" "subject" "[I" ∈ TB := TB_tab (i := 919) (by decide +kernel) rfl
theorem mw_920 : Cond.fieldLink "StepMachinesModel" 81 "StepMachinesModel" "length" "I" ∈ TB := TB_tab (i := 920) (by decide +kernel) rfl
theorem mw_921 : Cond.fieldLink "StepMachinesModel" 30 "StepMachinesModel" "can" "[Z" ∈ TB := TB_tab (i := 921) (by decide +kernel) rfl
theorem mw_922 : Cond.fieldLink "StepMachinesModel" 34 "StepMachinesModel" "come" "[Z" ∈ TB := TB_tab (i := 922) (by decide +kernel) rfl
theorem mw_923 : Cond.fieldLink "StepMachinesModel" 37 "StepMachinesModel" "saves" "[I" ∈ TB := TB_tab (i := 923) (by decide +kernel) rfl
theorem mw_924 : Cond.fieldLink "StepMachinesModel" 40 "StepMachinesModel" "kept" "[I" ∈ TB := TB_tab (i := 924) (by decide +kernel) rfl
theorem mw_925 : Cond.fieldLink "StepMachinesModel" 43 "StepMachinesModel" "pile" "[I" ∈ TB := TB_tab (i := 925) (by decide +kernel) rfl
theorem mw_926 : Cond.fieldLink "StepMachinesModel" 46 "StepMachinesModel" "pileTrail" "[I" ∈ TB := TB_tab (i := 926) (by decide +kernel) rfl
theorem mw_927 : Cond.fieldLink "StepMachinesModel" 49 "StepMachinesModel" "trailPlace" "[I" ∈ TB := TB_tab (i := 927) (by decide +kernel) rfl
theorem mw_928 : Cond.fieldLink "StepMachinesModel" 52 "StepMachinesModel" "trailOld" "[I" ∈ TB := TB_tab (i := 928) (by decide +kernel) rfl
theorem mw_929 : Cond.fieldLink "StepMachinesModel" 55 "StepMachinesModel" "seen" "[Z" ∈ TB := TB_tab (i := 929) (by decide +kernel) rfl
theorem mw_930 : Cond.fieldLink "StepMachinesModel" 102 "StepMachinesModel" "trail" "I" ∈ TB := TB_tab (i := 930) (by decide +kernel) rfl
theorem mw_931 : Cond.fieldLink "StepMachinesModel" 99 "StepMachinesModel" "high" "I" ∈ TB := TB_tab (i := 931) (by decide +kernel) rfl
theorem mw_932 : Cond.fieldLink "StepMachinesModel" 58 "StepMachinesModel" "starts" "[I" ∈ TB := TB_tab (i := 932) (by decide +kernel) rfl
theorem mw_933 : Cond.fieldLink "StepMachinesModel" 61 "StepMachinesModel" "bySaves" "[I" ∈ TB := TB_tab (i := 933) (by decide +kernel) rfl
theorem mw_934 : Cond.fieldLink "StepMachinesModel" 64 "StepMachinesModel" "byAsserts" "[I" ∈ TB := TB_tab (i := 934) (by decide +kernel) rfl
theorem mw_935 : Cond.fieldLink "StepMachinesModel" 67 "StepMachinesModel" "byTime" "[I" ∈ TB := TB_tab (i := 935) (by decide +kernel) rfl
theorem mw_936 : Cond.fieldLink "StepMachinesModel" 131 "StepMachinesModel" "many" "I" ∈ TB := TB_tab (i := 936) (by decide +kernel) rfl
theorem mw_988 : Cond.arrayClass .boolean ∈ TB := TB_tab (i := 988) (by decide +kernel) rfl
theorem mw_989 : Cond.methodLink "StepMachinesLaw" 45 ⟨"StepMachinesModel", "thrown", "()I"⟩ ∈ TB := TB_tab (i := 989) (by decide +kernel) rfl
theorem mw_990 : Cond.instanceMethod ⟨"StepMachinesModel", "thrown", "()I"⟩ ∈ TB := TB_tab (i := 990) (by decide +kernel) rfl
theorem mw_991 : Cond.selects "StepMachinesModel" ⟨"StepMachinesModel", "thrown", "()I"⟩ ⟨"StepMachinesModel", "thrown", "()I"⟩ ∈ TB := TB_tab (i := 991) (by decide +kernel) rfl
theorem mw_992 : Cond.code ⟨"StepMachinesModel", "thrown", "()I"⟩ prog_14_method_2_code 1 (some .int) ∈ TB := TB_tab (i := 992) (by decide +kernel) rfl
theorem mw_993 : Cond.methodLink "StepMachinesLaw" 44 ⟨"StepMachinesModel", "lay", "(I)V"⟩ ∈ TB := TB_tab (i := 993) (by decide +kernel) rfl
theorem mw_994 : Cond.instanceMethod ⟨"StepMachinesModel", "lay", "(I)V"⟩ ∈ TB := TB_tab (i := 994) (by decide +kernel) rfl
theorem mw_995 : Cond.selects "StepMachinesModel" ⟨"StepMachinesModel", "lay", "(I)V"⟩ ⟨"StepMachinesModel", "lay", "(I)V"⟩ ∈ TB := TB_tab (i := 995) (by decide +kernel) rfl
theorem mw_996 : Cond.code ⟨"StepMachinesModel", "lay", "(I)V"⟩ prog_14_method_4_code 3 none ∈ TB := TB_tab (i := 996) (by decide +kernel) rfl
theorem mw_997 : Cond.methodLink "StepMachinesLaw" 52 ⟨"StepMachinesModel", "step", "(IIIII)V"⟩ ∈ TB := TB_tab (i := 997) (by decide +kernel) rfl
theorem mw_998 : Cond.instanceMethod ⟨"StepMachinesModel", "step", "(IIIII)V"⟩ ∈ TB := TB_tab (i := 998) (by decide +kernel) rfl
theorem mw_999 : Cond.selects "StepMachinesModel" ⟨"StepMachinesModel", "step", "(IIIII)V"⟩ ⟨"StepMachinesModel", "step", "(IIIII)V"⟩ ∈ TB := TB_tab (i := 999) (by decide +kernel) rfl
theorem mw_1000 : Cond.code ⟨"StepMachinesModel", "step", "(IIIII)V"⟩ prog_14_method_5_code 7 none ∈ TB := TB_tab (i := 1000) (by decide +kernel) rfl
theorem mw_1001 : Cond.methodLink "StepMachinesModel" 76 ⟨"StepMachinesModel", "isStep", "(I)Z"⟩ ∈ TB := TB_tab (i := 1001) (by decide +kernel) rfl
theorem mw_1003 : Cond.instanceMethod ⟨"StepMachinesModel", "isStep", "(I)Z"⟩ ∈ TB := TB_tab (i := 1003) (by decide +kernel) rfl
theorem mw_1004 : Cond.code ⟨"StepMachinesModel", "isStep", "(I)Z"⟩ prog_14_method_3_code 2 (some .boolean) ∈ TB := TB_tab (i := 1004) (by decide +kernel) rfl
theorem mw_1005 : Cond.constant "StepMachinesModel" 80 (65536 : Int32) ∈ TB := TB_tab (i := 1005) (by decide +kernel) rfl
theorem mw_1006 : Cond.methodLink "StepMachinesLaw" 55 ⟨"StepMachinesModel", "begin", "(I)V"⟩ ∈ TB := TB_tab (i := 1006) (by decide +kernel) rfl
theorem mw_1007 : Cond.instanceMethod ⟨"StepMachinesModel", "begin", "(I)V"⟩ ∈ TB := TB_tab (i := 1007) (by decide +kernel) rfl
theorem mw_1008 : Cond.selects "StepMachinesModel" ⟨"StepMachinesModel", "begin", "(I)V"⟩ ⟨"StepMachinesModel", "begin", "(I)V"⟩ ∈ TB := TB_tab (i := 1008) (by decide +kernel) rfl
theorem mw_1009 : Cond.code ⟨"StepMachinesModel", "begin", "(I)V"⟩ prog_14_method_6_code 2 none ∈ TB := TB_tab (i := 1009) (by decide +kernel) rfl
theorem mw_1010 : Cond.methodLink "StepMachinesLaw" 62 ⟨"StepMachinesModel", "put", "(JI)Z"⟩ ∈ TB := TB_tab (i := 1010) (by decide +kernel) rfl
theorem mw_1011 : Cond.instanceMethod ⟨"StepMachinesModel", "put", "(JI)Z"⟩ ∈ TB := TB_tab (i := 1011) (by decide +kernel) rfl
theorem mw_1012 : Cond.selects "StepMachinesModel" ⟨"StepMachinesModel", "put", "(JI)Z"⟩ ⟨"StepMachinesModel", "put", "(JI)Z"⟩ ∈ TB := TB_tab (i := 1012) (by decide +kernel) rfl
theorem mw_1013 : Cond.code ⟨"StepMachinesModel", "put", "(JI)Z"⟩ prog_14_method_7_code 5 (some .boolean) ∈ TB := TB_tab (i := 1013) (by decide +kernel) rfl
theorem mw_1014 : Cond.constantLong "StepMachinesModel" 84 (255 : Int64) ∈ TB := TB_tab (i := 1014) (by decide +kernel) rfl
theorem mw_1015 : Cond.methodLink "StepMachinesLaw" 66 ⟨"StepMachinesModel", "clear", "()V"⟩ ∈ TB := TB_tab (i := 1015) (by decide +kernel) rfl
theorem mw_1016 : Cond.instanceMethod ⟨"StepMachinesModel", "clear", "()V"⟩ ∈ TB := TB_tab (i := 1016) (by decide +kernel) rfl
theorem mw_1017 : Cond.selects "StepMachinesModel" ⟨"StepMachinesModel", "clear", "()V"⟩ ⟨"StepMachinesModel", "clear", "()V"⟩ ∈ TB := TB_tab (i := 1017) (by decide +kernel) rfl
theorem mw_1018 : Cond.code ⟨"StepMachinesModel", "clear", "()V"⟩ prog_14_method_8_code 1 none ∈ TB := TB_tab (i := 1018) (by decide +kernel) rfl
theorem mw_1019 : Cond.methodLink "StepMachinesLaw" 70 ⟨"StepMachinesModel", "match", "(IZII)I"⟩ ∈ TB := TB_tab (i := 1019) (by decide +kernel) rfl
theorem mw_1020 : Cond.instanceMethod ⟨"StepMachinesModel", "match", "(IZII)I"⟩ ∈ TB := TB_tab (i := 1020) (by decide +kernel) rfl
theorem mw_1021 : Cond.selects "StepMachinesModel" ⟨"StepMachinesModel", "match", "(IZII)I"⟩ ⟨"StepMachinesModel", "match", "(IZII)I"⟩ ∈ TB := TB_tab (i := 1021) (by decide +kernel) rfl
theorem mw_1022 : Cond.code ⟨"StepMachinesModel", "match", "(IZII)I"⟩ prog_14_method_20_code 7 (some .int) ∈ TB := TB_tab (i := 1022) (by decide +kernel) rfl
theorem mw_1023 : Cond.methodLink "StepMachinesModel" 124 ⟨"StepMachinesModel", "isGood", "(II)Z"⟩ ∈ TB := TB_tab (i := 1023) (by decide +kernel) rfl
theorem mw_1025 : Cond.instanceMethod ⟨"StepMachinesModel", "isGood", "(II)Z"⟩ ∈ TB := TB_tab (i := 1025) (by decide +kernel) rfl
theorem mw_1026 : Cond.code ⟨"StepMachinesModel", "isGood", "(II)Z"⟩ prog_14_method_19_code 3 (some .boolean) ∈ TB := TB_tab (i := 1026) (by decide +kernel) rfl
theorem mw_1027 : Cond.methodLink "StepMachinesModel" 127 ⟨"StepMachinesModel", "find", "(IZI)I"⟩ ∈ TB := TB_tab (i := 1027) (by decide +kernel) rfl
theorem mw_1029 : Cond.instanceMethod ⟨"StepMachinesModel", "find", "(IZI)I"⟩ ∈ TB := TB_tab (i := 1029) (by decide +kernel) rfl
theorem mw_1030 : Cond.code ⟨"StepMachinesModel", "find", "(IZI)I"⟩ prog_14_method_18_code 7 (some .int) ∈ TB := TB_tab (i := 1030) (by decide +kernel) rfl
theorem mw_1031 : Cond.methodLink "StepMachinesModel" 112 ⟨"StepMachinesModel", "note", "(IIZ)V"⟩ ∈ TB := TB_tab (i := 1031) (by decide +kernel) rfl
theorem mw_1033 : Cond.instanceMethod ⟨"StepMachinesModel", "note", "(IIZ)V"⟩ ∈ TB := TB_tab (i := 1033) (by decide +kernel) rfl
theorem mw_1034 : Cond.code ⟨"StepMachinesModel", "note", "(IIZ)V"⟩ prog_14_method_13_code 8 none ∈ TB := TB_tab (i := 1034) (by decide +kernel) rfl
theorem mw_1035 : Cond.methodLink "StepMachinesModel" 93 ⟨"StepMachinesModel", "takes", "(II)Z"⟩ ∈ TB := TB_tab (i := 1035) (by decide +kernel) rfl
theorem mw_1037 : Cond.instanceMethod ⟨"StepMachinesModel", "takes", "(II)Z"⟩ ∈ TB := TB_tab (i := 1037) (by decide +kernel) rfl
theorem mw_1038 : Cond.code ⟨"StepMachinesModel", "takes", "(II)Z"⟩ prog_14_method_11_code 3 (some .boolean) ∈ TB := TB_tab (i := 1038) (by decide +kernel) rfl
theorem mw_1039 : Cond.methodLink "StepMachinesModel" 96 ⟨"StepMachinesModel", "passes", "(II)Z"⟩ ∈ TB := TB_tab (i := 1039) (by decide +kernel) rfl
theorem mw_1041 : Cond.instanceMethod ⟨"StepMachinesModel", "passes", "(II)Z"⟩ ∈ TB := TB_tab (i := 1041) (by decide +kernel) rfl
theorem mw_1042 : Cond.code ⟨"StepMachinesModel", "passes", "(II)Z"⟩ prog_14_method_12_code 3 (some .boolean) ∈ TB := TB_tab (i := 1042) (by decide +kernel) rfl
theorem mw_1043 : Cond.methodLink "StepMachinesModel" 89 ⟨"StepMachinesModel", "isSo", "(II)Z"⟩ ∈ TB := TB_tab (i := 1043) (by decide +kernel) rfl
theorem mw_1045 : Cond.instanceMethod ⟨"StepMachinesModel", "isSo", "(II)Z"⟩ ∈ TB := TB_tab (i := 1045) (by decide +kernel) rfl
theorem mw_1046 : Cond.code ⟨"StepMachinesModel", "isSo", "(II)Z"⟩ prog_14_method_10_code 3 (some .boolean) ∈ TB := TB_tab (i := 1046) (by decide +kernel) rfl
theorem mw_1047 : Cond.methodLink "StepMachinesModel" 86 ⟨"StepMachinesModel", "wordAt", "(I)Z"⟩ ∈ TB := TB_tab (i := 1047) (by decide +kernel) rfl
theorem mw_1049 : Cond.instanceMethod ⟨"StepMachinesModel", "wordAt", "(I)Z"⟩ ∈ TB := TB_tab (i := 1049) (by decide +kernel) rfl
theorem mw_1050 : Cond.code ⟨"StepMachinesModel", "wordAt", "(I)Z"⟩ prog_14_method_9_code 3 (some .boolean) ∈ TB := TB_tab (i := 1050) (by decide +kernel) rfl
theorem mw_1051 : Cond.methodLink "StepMachinesModel" 116 ⟨"StepMachinesModel", "lastEnd", "(I)I"⟩ ∈ TB := TB_tab (i := 1051) (by decide +kernel) rfl
theorem mw_1053 : Cond.instanceMethod ⟨"StepMachinesModel", "lastEnd", "(I)I"⟩ ∈ TB := TB_tab (i := 1053) (by decide +kernel) rfl
theorem mw_1054 : Cond.code ⟨"StepMachinesModel", "lastEnd", "(I)I"⟩ prog_14_method_14_code 7 (some .int) ∈ TB := TB_tab (i := 1054) (by decide +kernel) rfl
theorem mw_1055 : Cond.methodLink "StepMachinesModel" 120 ⟨"StepMachinesModel", "walk", "(II)I"⟩ ∈ TB := TB_tab (i := 1055) (by decide +kernel) rfl
theorem mw_1057 : Cond.instanceMethod ⟨"StepMachinesModel", "walk", "(II)I"⟩ ∈ TB := TB_tab (i := 1057) (by decide +kernel) rfl
theorem mw_1058 : Cond.code ⟨"StepMachinesModel", "walk", "(II)I"⟩ prog_14_method_17_code 7 (some .int) ∈ TB := TB_tab (i := 1058) (by decide +kernel) rfl
theorem mw_1059 : Cond.methodLink "StepMachinesModel" 105 ⟨"StepMachinesModel", "heap", "(I)V"⟩ ∈ TB := TB_tab (i := 1059) (by decide +kernel) rfl
theorem mw_1061 : Cond.instanceMethod ⟨"StepMachinesModel", "heap", "(I)V"⟩ ∈ TB := TB_tab (i := 1061) (by decide +kernel) rfl
theorem mw_1062 : Cond.code ⟨"StepMachinesModel", "heap", "(I)V"⟩ prog_14_method_15_code 2 none ∈ TB := TB_tab (i := 1062) (by decide +kernel) rfl
theorem mw_1063 : Cond.methodLink "StepMachinesModel" 109 ⟨"StepMachinesModel", "undo", "(I)V"⟩ ∈ TB := TB_tab (i := 1063) (by decide +kernel) rfl
theorem mw_1065 : Cond.instanceMethod ⟨"StepMachinesModel", "undo", "(I)V"⟩ ∈ TB := TB_tab (i := 1065) (by decide +kernel) rfl
theorem mw_1066 : Cond.code ⟨"StepMachinesModel", "undo", "(I)V"⟩ prog_14_method_16_code 2 none ∈ TB := TB_tab (i := 1066) (by decide +kernel) rfl
theorem mw_1067 : Cond.methodLink "StepMachinesLaw" 75 ⟨"StepMachinesModel", "saved", "(I)I"⟩ ∈ TB := TB_tab (i := 1067) (by decide +kernel) rfl
theorem mw_1068 : Cond.instanceMethod ⟨"StepMachinesModel", "saved", "(I)I"⟩ ∈ TB := TB_tab (i := 1068) (by decide +kernel) rfl
theorem mw_1069 : Cond.selects "StepMachinesModel" ⟨"StepMachinesModel", "saved", "(I)I"⟩ ⟨"StepMachinesModel", "saved", "(I)I"⟩ ∈ TB := TB_tab (i := 1069) (by decide +kernel) rfl
theorem mw_1070 : Cond.code ⟨"StepMachinesModel", "saved", "(I)I"⟩ prog_14_method_21_code 2 (some .int) ∈ TB := TB_tab (i := 1070) (by decide +kernel) rfl
theorem mw_1071 : Cond.methodLink "StepMachinesLaw" 79 ⟨"StepMachinesModel", "ends", "(IZI)I"⟩ ∈ TB := TB_tab (i := 1071) (by decide +kernel) rfl
theorem mw_1072 : Cond.instanceMethod ⟨"StepMachinesModel", "ends", "(IZI)I"⟩ ∈ TB := TB_tab (i := 1072) (by decide +kernel) rfl
theorem mw_1073 : Cond.selects "StepMachinesModel" ⟨"StepMachinesModel", "ends", "(IZI)I"⟩ ⟨"StepMachinesModel", "ends", "(IZI)I"⟩ ∈ TB := TB_tab (i := 1073) (by decide +kernel) rfl
theorem mw_1074 : Cond.code ⟨"StepMachinesModel", "ends", "(IZI)I"⟩ prog_14_method_22_code 4 (some .int) ∈ TB := TB_tab (i := 1074) (by decide +kernel) rfl
theorem mw_1075 : Cond.methodLink "StepMachinesLaw" 82 ⟨"StepMachinesModel", "keep", "(I)V"⟩ ∈ TB := TB_tab (i := 1075) (by decide +kernel) rfl
theorem mw_1076 : Cond.instanceMethod ⟨"StepMachinesModel", "keep", "(I)V"⟩ ∈ TB := TB_tab (i := 1076) (by decide +kernel) rfl
theorem mw_1077 : Cond.selects "StepMachinesModel" ⟨"StepMachinesModel", "keep", "(I)V"⟩ ⟨"StepMachinesModel", "keep", "(I)V"⟩ ∈ TB := TB_tab (i := 1077) (by decide +kernel) rfl
theorem mw_1078 : Cond.code ⟨"StepMachinesModel", "keep", "(I)V"⟩ prog_14_method_23_code 2 none ∈ TB := TB_tab (i := 1078) (by decide +kernel) rfl
theorem mw_1079 : Cond.methodLink "StepMachinesLaw" 87 ⟨"StepMachinesModel", "isOneWay", "()Z"⟩ ∈ TB := TB_tab (i := 1079) (by decide +kernel) rfl
theorem mw_1080 : Cond.instanceMethod ⟨"StepMachinesModel", "isOneWay", "()Z"⟩ ∈ TB := TB_tab (i := 1080) (by decide +kernel) rfl
theorem mw_1081 : Cond.selects "StepMachinesModel" ⟨"StepMachinesModel", "isOneWay", "()Z"⟩ ⟨"StepMachinesModel", "isOneWay", "()Z"⟩ ∈ TB := TB_tab (i := 1081) (by decide +kernel) rfl
theorem mw_1082 : Cond.code ⟨"StepMachinesModel", "isOneWay", "()Z"⟩ prog_14_method_30_code 5 (some .boolean) ∈ TB := TB_tab (i := 1082) (by decide +kernel) rfl
theorem mw_1083 : Cond.methodLink "StepMachinesModel" 141 ⟨"StepMachinesModel", "start", "(I)V"⟩ ∈ TB := TB_tab (i := 1083) (by decide +kernel) rfl
theorem mw_1085 : Cond.instanceMethod ⟨"StepMachinesModel", "start", "(I)V"⟩ ∈ TB := TB_tab (i := 1085) (by decide +kernel) rfl
theorem mw_1086 : Cond.code ⟨"StepMachinesModel", "start", "(I)V"⟩ prog_14_method_24_code 3 none ∈ TB := TB_tab (i := 1086) (by decide +kernel) rfl
theorem mw_1087 : Cond.methodLink "StepMachinesModel" 144 ⟨"StepMachinesModel", "spreads", "(I)Z"⟩ ∈ TB := TB_tab (i := 1087) (by decide +kernel) rfl
theorem mw_1089 : Cond.instanceMethod ⟨"StepMachinesModel", "spreads", "(I)Z"⟩ ∈ TB := TB_tab (i := 1089) (by decide +kernel) rfl
theorem mw_1090 : Cond.code ⟨"StepMachinesModel", "spreads", "(I)Z"⟩ prog_14_method_25_code 7 (some .boolean) ∈ TB := TB_tab (i := 1090) (by decide +kernel) rfl
theorem mw_1091 : Cond.methodLink "StepMachinesModel" 134 ⟨"StepMachinesModel", "isWaiting", "(I)Z"⟩ ∈ TB := TB_tab (i := 1091) (by decide +kernel) rfl
theorem mw_1093 : Cond.instanceMethod ⟨"StepMachinesModel", "isWaiting", "(I)Z"⟩ ∈ TB := TB_tab (i := 1093) (by decide +kernel) rfl
theorem mw_1094 : Cond.code ⟨"StepMachinesModel", "isWaiting", "(I)Z"⟩ prog_14_method_26_code 4 (some .boolean) ∈ TB := TB_tab (i := 1094) (by decide +kernel) rfl
theorem mw_1095 : Cond.methodLink "StepMachinesModel" 137 ⟨"StepMachinesModel", "hold", "(III)V"⟩ ∈ TB := TB_tab (i := 1095) (by decide +kernel) rfl
theorem mw_1097 : Cond.instanceMethod ⟨"StepMachinesModel", "hold", "(III)V"⟩ ∈ TB := TB_tab (i := 1097) (by decide +kernel) rfl
theorem mw_1098 : Cond.code ⟨"StepMachinesModel", "hold", "(III)V"⟩ prog_14_method_27_code 4 none ∈ TB := TB_tab (i := 1098) (by decide +kernel) rfl
theorem mw_1099 : Cond.methodLink "StepMachinesModel" 147 ⟨"StepMachinesModel", "meet", "(II)Z"⟩ ∈ TB := TB_tab (i := 1099) (by decide +kernel) rfl
theorem mw_1100 : Cond.static ⟨"StepMachinesModel", "meet", "(II)Z"⟩ ∈ TB := TB_tab (i := 1100) (by decide +kernel) rfl
theorem mw_1101 : Cond.code ⟨"StepMachinesModel", "meet", "(II)Z"⟩ prog_14_method_28_code 2 (some .boolean) ∈ TB := TB_tab (i := 1101) (by decide +kernel) rfl
theorem mw_1102 : Cond.methodLink "StepMachinesModel" 150 ⟨"StepMachinesModel", "areAlike", "(II)Z"⟩ ∈ TB := TB_tab (i := 1102) (by decide +kernel) rfl
theorem mw_1104 : Cond.instanceMethod ⟨"StepMachinesModel", "areAlike", "(II)Z"⟩ ∈ TB := TB_tab (i := 1104) (by decide +kernel) rfl
theorem mw_1105 : Cond.code ⟨"StepMachinesModel", "areAlike", "(II)Z"⟩ prog_14_method_29_code 4 (some .boolean) ∈ TB := TB_tab (i := 1105) (by decide +kernel) rfl
theorem mw_1106 : Cond.methodLink "StepMachinesLaw" 91 ⟨"StepMachinesModel", "over", "()I"⟩ ∈ TB := TB_tab (i := 1106) (by decide +kernel) rfl
theorem mw_1107 : Cond.instanceMethod ⟨"StepMachinesModel", "over", "()I"⟩ ∈ TB := TB_tab (i := 1107) (by decide +kernel) rfl
theorem mw_1108 : Cond.selects "StepMachinesModel" ⟨"StepMachinesModel", "over", "()I"⟩ ⟨"StepMachinesModel", "over", "()I"⟩ ∈ TB := TB_tab (i := 1108) (by decide +kernel) rfl
theorem mw_1109 : Cond.code ⟨"StepMachinesModel", "over", "()I"⟩ prog_14_method_31_code 1 (some .int) ∈ TB := TB_tab (i := 1109) (by decide +kernel) rfl
theorem mw_1110 : Cond.constantLong "StepMachinesLaw" 56 (4294967295 : Int64) ∈ TB := TB_tab (i := 1110) (by decide +kernel) rfl
theorem ms_0 : Cond.selects "StepMachines$Table" ⟨"StepMachines$Table", "make", "()V"⟩ ⟨"StepMachines$Table", "make", "()V"⟩ ∈ TB := TB_sel (i := 0) (by decide +kernel) rfl
theorem ms_1 : Cond.selects "StepMachines$Table" ⟨"StepMachines$Table", "rowFor", "(I)I"⟩ ⟨"StepMachines$Table", "rowFor", "(I)I"⟩ ∈ TB := TB_sel (i := 1) (by decide +kernel) rfl
theorem ms_2 : Cond.selects "StepMachines$Table" ⟨"StepMachines$Table", "makeRow", "(I)Z"⟩ ⟨"StepMachines$Table", "makeRow", "(I)Z"⟩ ∈ TB := TB_sel (i := 2) (by decide +kernel) rfl
theorem ms_3 : Cond.selects "StepMachines$Table" ⟨"StepMachines$Table", "later", "(II)V"⟩ ⟨"StepMachines$Table", "later", "(II)V"⟩ ∈ TB := TB_sel (i := 3) (by decide +kernel) rfl
theorem ms_4 : Cond.selects "StepMachines$Table" ⟨"StepMachines$Table", "walk", "(III)Z"⟩ ⟨"StepMachines$Table", "walk", "(III)Z"⟩ ∈ TB := TB_sel (i := 4) (by decide +kernel) rfl
theorem ms_5 : Cond.selects "StepMachines$Table" ⟨"StepMachines$Table", "takeBytes", "(III)Z"⟩ ⟨"StepMachines$Table", "takeBytes", "(III)Z"⟩ ∈ TB := TB_sel (i := 5) (by decide +kernel) rfl
theorem ms_6 : Cond.selects "java/lang/Throwable" ⟨"java/lang/Throwable", "fillInStackTrace", "(I)Ljava/lang/Throwable;"⟩ ⟨"java/lang/Throwable", "fillInStackTrace", "(I)Ljava/lang/Throwable;"⟩ ∈ TB := TB_sel (i := 6) (by decide +kernel) rfl
theorem ms_7 : Cond.selects "StepMachines" ⟨"StepMachines", "forgetWhatWasMade", "()V"⟩ ⟨"StepMachines", "forgetWhatWasMade", "()V"⟩ ∈ TB := TB_sel (i := 7) (by decide +kernel) rfl
theorem ms_8 : Cond.selects "StepMachines" ⟨"StepMachines", "isQuestion", "(II)Z"⟩ ⟨"StepMachines", "isQuestion", "(II)Z"⟩ ∈ TB := TB_sel (i := 8) (by decide +kernel) rfl
theorem ms_9 : Cond.selects "StepMachines$Marks" ⟨"StepMachines$Marks", "wipe", "()V"⟩ ⟨"StepMachines$Marks", "wipe", "()V"⟩ ∈ TB := TB_sel (i := 9) (by decide +kernel) rfl
theorem ms_10 : Cond.selects "StepMachines$Marks" ⟨"StepMachines$Marks", "tryFrom", "(IIZ)V"⟩ ⟨"StepMachines$Marks", "tryFrom", "(IIZ)V"⟩ ∈ TB := TB_sel (i := 10) (by decide +kernel) rfl
theorem ms_11 : Cond.selects "StepMachines$Marks" ⟨"StepMachines$Marks", "visit", "(III)V"⟩ ⟨"StepMachines$Marks", "visit", "(III)V"⟩ ∈ TB := TB_sel (i := 11) (by decide +kernel) rfl
theorem ms_12 : Cond.selects "StepMachines$Marks" ⟨"StepMachines$Marks", "isNew", "(II)Z"⟩ ⟨"StepMachines$Marks", "isNew", "(II)Z"⟩ ∈ TB := TB_sel (i := 12) (by decide +kernel) rfl
theorem ms_13 : Cond.selects "StepMachines$Marks" ⟨"StepMachines$Marks", "end", "(II)V"⟩ ⟨"StepMachines$Marks", "end", "(II)V"⟩ ∈ TB := TB_sel (i := 13) (by decide +kernel) rfl
theorem ms_14 : Cond.selects "StepMachines" ⟨"StepMachines", "canTable", "(I)Z"⟩ ⟨"StepMachines", "canTable", "(I)Z"⟩ ∈ TB := TB_sel (i := 14) (by decide +kernel) rfl
theorem ms_15 : Cond.selects "StepMachines$Table" ⟨"StepMachines$Table", "endHere", "(III)Z"⟩ ⟨"StepMachines$Table", "endHere", "(III)Z"⟩ ∈ TB := TB_sel (i := 15) (by decide +kernel) rfl
theorem ms_16 : Cond.selects "StepMachines$Table" ⟨"StepMachines$Table", "allHold", "(II)Z"⟩ ⟨"StepMachines$Table", "allHold", "(II)Z"⟩ ∈ TB := TB_sel (i := 16) (by decide +kernel) rfl
theorem ms_17 : Cond.selects "StepMachines$Threads" ⟨"StepMachines$Threads", "beginThread", "(I)V"⟩ ⟨"StepMachines$Threads", "beginThread", "(I)V"⟩ ∈ TB := TB_sel (i := 17) (by decide +kernel) rfl
theorem ms_18 : Cond.selects "StepMachines$Threads" ⟨"StepMachines$Threads", "comeTo", "(IILStepMachines$Row;[I)V"⟩ ⟨"StepMachines$Threads", "comeTo", "(IILStepMachines$Row;[I)V"⟩ ∈ TB := TB_sel (i := 18) (by decide +kernel) rfl
theorem ms_19 : Cond.selects "StepMachines$Threads" ⟨"StepMachines$Threads", "visit", "(IILStepMachines$Row;[I)V"⟩ ⟨"StepMachines$Threads", "visit", "(IILStepMachines$Row;[I)V"⟩ ∈ TB := TB_sel (i := 19) (by decide +kernel) rfl
theorem ms_20 : Cond.selects "StepMachines$Threads" ⟨"StepMachines$Threads", "goOverByte", "(IZI)V"⟩ ⟨"StepMachines$Threads", "goOverByte", "(IZI)V"⟩ ∈ TB := TB_sel (i := 20) (by decide +kernel) rfl
theorem ms_21 : Cond.selects "StepMachines$Threads" ⟨"StepMachines$Threads", "swapRows", "()V"⟩ ⟨"StepMachines$Threads", "swapRows", "()V"⟩ ∈ TB := TB_sel (i := 21) (by decide +kernel) rfl
theorem ms_22 : Cond.selects "StepMachines" ⟨"StepMachines", "mostTaken", "()I"⟩ ⟨"StepMachines", "mostTaken", "()I"⟩ ∈ TB := TB_sel (i := 22) (by decide +kernel) rfl
theorem ms_23 : Cond.selects "StepMachines$States" ⟨"StepMachines$States", "firstState", "(II)I"⟩ ⟨"StepMachines$States", "firstState", "(II)I"⟩ ∈ TB := TB_sel (i := 23) (by decide +kernel) rfl
theorem ms_24 : Cond.selects "StepMachines$Kept" ⟨"StepMachines$Kept", "isSame", "(ILStepMachines$Row;I)Z"⟩ ⟨"StepMachines$Kept", "isSame", "(ILStepMachines$Row;I)Z"⟩ ∈ TB := TB_sel (i := 24) (by decide +kernel) rfl
theorem ms_25 : Cond.selects "StepMachines$Kept" ⟨"StepMachines$Kept", "add", "(LStepMachines$Row;II)V"⟩ ⟨"StepMachines$Kept", "add", "(LStepMachines$Row;II)V"⟩ ∈ TB := TB_sel (i := 25) (by decide +kernel) rfl
theorem ms_26 : Cond.selects "StepMachines$States" ⟨"StepMachines$States", "moveFrom", "(II)I"⟩ ⟨"StepMachines$States", "moveFrom", "(II)I"⟩ ∈ TB := TB_sel (i := 26) (by decide +kernel) rfl
theorem ms_27 : Cond.selects "StepMachines$States" ⟨"StepMachines$States", "goOver", "(III)Z"⟩ ⟨"StepMachines$States", "goOver", "(III)Z"⟩ ∈ TB := TB_sel (i := 27) (by decide +kernel) rfl
theorem ms_28 : Cond.selects "StepMachines$States" ⟨"StepMachines$States", "follow", "(III)Z"⟩ ⟨"StepMachines$States", "follow", "(III)Z"⟩ ∈ TB := TB_sel (i := 28) (by decide +kernel) rfl
theorem ms_29 : Cond.selects "StepMachines$States" ⟨"StepMachines$States", "visit", "(II)V"⟩ ⟨"StepMachines$States", "visit", "(II)V"⟩ ∈ TB := TB_sel (i := 29) (by decide +kernel) rfl
theorem ms_30 : Cond.selects "StepMachinesModel" ⟨"StepMachinesModel", "isStep", "(I)Z"⟩ ⟨"StepMachinesModel", "isStep", "(I)Z"⟩ ∈ TB := TB_sel (i := 30) (by decide +kernel) rfl
theorem ms_31 : Cond.selects "StepMachinesModel" ⟨"StepMachinesModel", "isGood", "(II)Z"⟩ ⟨"StepMachinesModel", "isGood", "(II)Z"⟩ ∈ TB := TB_sel (i := 31) (by decide +kernel) rfl
theorem ms_32 : Cond.selects "StepMachinesModel" ⟨"StepMachinesModel", "find", "(IZI)I"⟩ ⟨"StepMachinesModel", "find", "(IZI)I"⟩ ∈ TB := TB_sel (i := 32) (by decide +kernel) rfl
theorem ms_33 : Cond.selects "StepMachinesModel" ⟨"StepMachinesModel", "note", "(IIZ)V"⟩ ⟨"StepMachinesModel", "note", "(IIZ)V"⟩ ∈ TB := TB_sel (i := 33) (by decide +kernel) rfl
theorem ms_34 : Cond.selects "StepMachinesModel" ⟨"StepMachinesModel", "takes", "(II)Z"⟩ ⟨"StepMachinesModel", "takes", "(II)Z"⟩ ∈ TB := TB_sel (i := 34) (by decide +kernel) rfl
theorem ms_35 : Cond.selects "StepMachinesModel" ⟨"StepMachinesModel", "passes", "(II)Z"⟩ ⟨"StepMachinesModel", "passes", "(II)Z"⟩ ∈ TB := TB_sel (i := 35) (by decide +kernel) rfl
theorem ms_36 : Cond.selects "StepMachinesModel" ⟨"StepMachinesModel", "isSo", "(II)Z"⟩ ⟨"StepMachinesModel", "isSo", "(II)Z"⟩ ∈ TB := TB_sel (i := 36) (by decide +kernel) rfl
theorem ms_37 : Cond.selects "StepMachinesModel" ⟨"StepMachinesModel", "wordAt", "(I)Z"⟩ ⟨"StepMachinesModel", "wordAt", "(I)Z"⟩ ∈ TB := TB_sel (i := 37) (by decide +kernel) rfl
theorem ms_38 : Cond.selects "StepMachinesModel" ⟨"StepMachinesModel", "lastEnd", "(I)I"⟩ ⟨"StepMachinesModel", "lastEnd", "(I)I"⟩ ∈ TB := TB_sel (i := 38) (by decide +kernel) rfl
theorem ms_39 : Cond.selects "StepMachinesModel" ⟨"StepMachinesModel", "walk", "(II)I"⟩ ⟨"StepMachinesModel", "walk", "(II)I"⟩ ∈ TB := TB_sel (i := 39) (by decide +kernel) rfl
theorem ms_40 : Cond.selects "StepMachinesModel" ⟨"StepMachinesModel", "heap", "(I)V"⟩ ⟨"StepMachinesModel", "heap", "(I)V"⟩ ∈ TB := TB_sel (i := 40) (by decide +kernel) rfl
theorem ms_41 : Cond.selects "StepMachinesModel" ⟨"StepMachinesModel", "undo", "(I)V"⟩ ⟨"StepMachinesModel", "undo", "(I)V"⟩ ∈ TB := TB_sel (i := 41) (by decide +kernel) rfl
theorem ms_42 : Cond.selects "StepMachinesModel" ⟨"StepMachinesModel", "start", "(I)V"⟩ ⟨"StepMachinesModel", "start", "(I)V"⟩ ∈ TB := TB_sel (i := 42) (by decide +kernel) rfl
theorem ms_43 : Cond.selects "StepMachinesModel" ⟨"StepMachinesModel", "spreads", "(I)Z"⟩ ⟨"StepMachinesModel", "spreads", "(I)Z"⟩ ∈ TB := TB_sel (i := 43) (by decide +kernel) rfl
theorem ms_44 : Cond.selects "StepMachinesModel" ⟨"StepMachinesModel", "isWaiting", "(I)Z"⟩ ⟨"StepMachinesModel", "isWaiting", "(I)Z"⟩ ∈ TB := TB_sel (i := 44) (by decide +kernel) rfl
theorem ms_45 : Cond.selects "StepMachinesModel" ⟨"StepMachinesModel", "hold", "(III)V"⟩ ⟨"StepMachinesModel", "hold", "(III)V"⟩ ∈ TB := TB_sel (i := 45) (by decide +kernel) rfl
theorem ms_46 : Cond.selects "StepMachinesModel" ⟨"StepMachinesModel", "areAlike", "(II)Z"⟩ ⟨"StepMachinesModel", "areAlike", "(II)Z"⟩ ∈ TB := TB_sel (i := 46) (by decide +kernel) rfl
