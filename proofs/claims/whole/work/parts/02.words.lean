theorem mw_0 : Cond.initialized "StepMachinesLaw" ∈ TB := TB_tab (i := 0) (by decide +kernel) rfl
theorem mw_1 : Cond.initialized "StepMachines" ∈ TB := TB_tab (i := 1) (by decide +kernel) rfl
theorem mw_2 : Cond.initialized "StepMachines$Program" ∈ TB := TB_tab (i := 2) (by decide +kernel) rfl
theorem mw_3 : Cond.initialized "StepMachines$Subject" ∈ TB := TB_tab (i := 3) (by decide +kernel) rfl
theorem mw_4 : Cond.initialized "StepMachines$Tally" ∈ TB := TB_tab (i := 4) (by decide +kernel) rfl
theorem mw_5 : Cond.initialized "StepMachines$Threads" ∈ TB := TB_tab (i := 5) (by decide +kernel) rfl
theorem mw_6 : Cond.initialized "StepMachines$Jobs" ∈ TB := TB_tab (i := 6) (by decide +kernel) rfl
theorem mw_7 : Cond.initialized "StepMachines$Row" ∈ TB := TB_tab (i := 7) (by decide +kernel) rfl
theorem mw_8 : Cond.initialized "StepMachines$Marks" ∈ TB := TB_tab (i := 8) (by decide +kernel) rfl
theorem mw_9 : Cond.initialized "StepMachines$Table" ∈ TB := TB_tab (i := 9) (by decide +kernel) rfl
theorem mw_10 : Cond.initialized "StepMachines$States" ∈ TB := TB_tab (i := 10) (by decide +kernel) rfl
theorem mw_11 : Cond.initialized "StepMachines$Kept" ∈ TB := TB_tab (i := 11) (by decide +kernel) rfl
theorem mw_12 : Cond.initialized "StepMachines$Packed" ∈ TB := TB_tab (i := 12) (by decide +kernel) rfl
theorem mw_13 : Cond.initialized "java/util/Arrays" ∈ TB := TB_tab (i := 13) (by decide +kernel) rfl
theorem mw_14 : Cond.initialized "StepMachinesModel" ∈ TB := TB_tab (i := 14) (by decide +kernel) rfl
theorem mw_15 : Cond.initialized "java/lang/Throwable" ∈ TB := TB_tab (i := 15) (by decide +kernel) rfl
theorem mw_16 : Cond.initialized "java/lang/Exception" ∈ TB := TB_tab (i := 16) (by decide +kernel) rfl
theorem mw_17 : Cond.initialized "java/lang/RuntimeException" ∈ TB := TB_tab (i := 17) (by decide +kernel) rfl
theorem mw_18 : Cond.initialized "java/lang/IllegalArgumentException" ∈ TB := TB_tab (i := 18) (by decide +kernel) rfl
theorem mw_19 : Cond.initialized "java/lang/Math" ∈ TB := TB_tab (i := 19) (by decide +kernel) rfl
theorem mw_20 : Cond.initialized "java/lang/IndexOutOfBoundsException" ∈ TB := TB_tab (i := 20) (by decide +kernel) rfl
theorem mw_21 : Cond.initialized "java/lang/System" ∈ TB := TB_tab (i := 21) (by decide +kernel) rfl
theorem mw_22 : Cond.classLink "StepMachinesLaw" 8 "StepMachines" ∈ TB := TB_tab (i := 22) (by decide +kernel) rfl
theorem mw_23 : Cond.instantiable "StepMachines" 8 ∈ TB := TB_tab (i := 23) (by decide +kernel) rfl
theorem mw_24 : Cond.methodLink "StepMachinesLaw" 35 ⟨"StepMachines", "<init>", "()V"⟩ ∈ TB := TB_tab (i := 24) (by decide +kernel) rfl
theorem mw_25 : Cond.instanceMethod ⟨"StepMachines", "<init>", "()V"⟩ ∈ TB := TB_tab (i := 25) (by decide +kernel) rfl
theorem mw_26 : Cond.code ⟨"StepMachines", "<init>", "()V"⟩ prog_1_method_1_code 1 none ∈ TB := TB_tab (i := 26) (by decide +kernel) rfl
theorem mw_27 : Cond.methodLink "StepMachines" 1 ⟨"java/lang/Object", "<init>", "()V"⟩ ∈ TB := TB_tab (i := 27) (by decide +kernel) rfl
theorem mw_28 : Cond.instanceMethod ⟨"java/lang/Object", "<init>", "()V"⟩ ∈ TB := TB_tab (i := 28) (by decide +kernel) rfl
theorem mw_29 : Cond.code ⟨"java/lang/Object", "<init>", "()V"⟩ object_method_1_code 1 none ∈ TB := TB_tab (i := 29) (by decide +kernel) rfl
theorem mw_30 : Cond.classLink "StepMachines" 7 "StepMachines$Program" ∈ TB := TB_tab (i := 30) (by decide +kernel) rfl
theorem mw_31 : Cond.instantiable "StepMachines$Program" 6 ∈ TB := TB_tab (i := 31) (by decide +kernel) rfl
theorem mw_33 : Cond.instanceMethod ⟨"StepMachines$Program", "<init>", "()V"⟩ ∈ TB := TB_tab (i := 33) (by decide +kernel) rfl
theorem mw_34 : Cond.code ⟨"StepMachines$Program", "<init>", "()V"⟩ prog_6_method_1_code 1 none ∈ TB := TB_tab (i := 34) (by decide +kernel) rfl
theorem mw_35 : Cond.methodLink "StepMachines$Program" 3 ⟨"java/lang/Object", "<init>", "()V"⟩ ∈ TB := TB_tab (i := 35) (by decide +kernel) rfl
theorem mw_36 : Cond.fieldLink "StepMachines$Program" 9 "StepMachines$Program" "kinds" "[I" ∈ TB := TB_tab (i := 36) (by decide +kernel) rfl
theorem mw_37 : Cond.fieldLink "StepMachines$Program" 15 "StepMachines$Program" "values" "[I" ∈ TB := TB_tab (i := 37) (by decide +kernel) rfl
theorem mw_38 : Cond.fieldLink "StepMachines$Program" 18 "StepMachines$Program" "firsts" "[I" ∈ TB := TB_tab (i := 38) (by decide +kernel) rfl
theorem mw_39 : Cond.fieldLink "StepMachines$Program" 21 "StepMachines$Program" "seconds" "[I" ∈ TB := TB_tab (i := 39) (by decide +kernel) rfl
theorem mw_40 : Cond.fieldLink "StepMachines$Program" 24 "StepMachines$Program" "size" "I" ∈ TB := TB_tab (i := 40) (by decide +kernel) rfl
theorem mw_41 : Cond.fieldLink "StepMachines$Program" 28 "StepMachines$Program" "beginning" "I" ∈ TB := TB_tab (i := 41) (by decide +kernel) rfl
theorem mw_55 : Cond.arrayClass .int ∈ TB := TB_tab (i := 55) (by decide +kernel) rfl
theorem mw_56 : Cond.classLink "StepMachines" 16 "StepMachines$Subject" ∈ TB := TB_tab (i := 56) (by decide +kernel) rfl
theorem mw_57 : Cond.instantiable "StepMachines$Subject" 2 ∈ TB := TB_tab (i := 57) (by decide +kernel) rfl
theorem mw_59 : Cond.instanceMethod ⟨"StepMachines$Subject", "<init>", "()V"⟩ ∈ TB := TB_tab (i := 59) (by decide +kernel) rfl
theorem mw_60 : Cond.code ⟨"StepMachines$Subject", "<init>", "()V"⟩ prog_9_method_1_code 1 none ∈ TB := TB_tab (i := 60) (by decide +kernel) rfl
theorem mw_61 : Cond.methodLink "StepMachines$Subject" 3 ⟨"java/lang/Object", "<init>", "()V"⟩ ∈ TB := TB_tab (i := 61) (by decide +kernel) rfl
theorem mw_62 : Cond.fieldLink "StepMachines$Subject" 9 "StepMachines$Subject" "bytes" "[I" ∈ TB := TB_tab (i := 62) (by decide +kernel) rfl
theorem mw_63 : Cond.fieldLink "StepMachines$Subject" 15 "StepMachines$Subject" "length" "I" ∈ TB := TB_tab (i := 63) (by decide +kernel) rfl
theorem mw_69 : Cond.classLink "StepMachines" 23 "StepMachines$Tally" ∈ TB := TB_tab (i := 69) (by decide +kernel) rfl
theorem mw_70 : Cond.instantiable "StepMachines$Tally" 2 ∈ TB := TB_tab (i := 70) (by decide +kernel) rfl
theorem mw_72 : Cond.instanceMethod ⟨"StepMachines$Tally", "<init>", "()V"⟩ ∈ TB := TB_tab (i := 72) (by decide +kernel) rfl
theorem mw_73 : Cond.code ⟨"StepMachines$Tally", "<init>", "()V"⟩ prog_11_method_1_code 1 none ∈ TB := TB_tab (i := 73) (by decide +kernel) rfl
theorem mw_74 : Cond.methodLink "StepMachines$Tally" 1 ⟨"java/lang/Object", "<init>", "()V"⟩ ∈ TB := TB_tab (i := 74) (by decide +kernel) rfl
theorem mw_75 : Cond.fieldLink "StepMachines$Tally" 7 "StepMachines$Tally" "taken" "I" ∈ TB := TB_tab (i := 75) (by decide +kernel) rfl
theorem mw_76 : Cond.fieldLink "StepMachines$Tally" 13 "StepMachines$Tally" "overruns" "I" ∈ TB := TB_tab (i := 76) (by decide +kernel) rfl
theorem mw_77 : Cond.fieldLink "StepMachines" 162 "StepMachines$Tally" "overruns" "I" ∈ TB := TB_tab (i := 77) (by decide +kernel) rfl
theorem mw_83 : Cond.classLink "StepMachines" 34 "StepMachines$Threads" ∈ TB := TB_tab (i := 83) (by decide +kernel) rfl
theorem mw_84 : Cond.instantiable "StepMachines$Threads" 11 ∈ TB := TB_tab (i := 84) (by decide +kernel) rfl
theorem mw_85 : Cond.methodLink "StepMachines" 36 ⟨"StepMachines$Threads", "<init>", "(LStepMachines$Program;LStepMachines$Subject;LStepMachines$Tally;[I)V"⟩ ∈ TB := TB_tab (i := 85) (by decide +kernel) rfl
theorem mw_86 : Cond.instanceMethod ⟨"StepMachines$Threads", "<init>", "(LStepMachines$Program;LStepMachines$Subject;LStepMachines$Tally;[I)V"⟩ ∈ TB := TB_tab (i := 86) (by decide +kernel) rfl
theorem mw_87 : Cond.code ⟨"StepMachines$Threads", "<init>", "(LStepMachines$Program;LStepMachines$Subject;LStepMachines$Tally;[I)V"⟩ prog_12_method_1_code 5 none ∈ TB := TB_tab (i := 87) (by decide +kernel) rfl
theorem mw_88 : Cond.methodLink "StepMachines$Threads" 3 ⟨"java/lang/Object", "<init>", "()V"⟩ ∈ TB := TB_tab (i := 88) (by decide +kernel) rfl
theorem mw_89 : Cond.classLink "StepMachines$Threads" 15 "StepMachines$Jobs" ∈ TB := TB_tab (i := 89) (by decide +kernel) rfl
theorem mw_90 : Cond.instantiable "StepMachines$Jobs" 2 ∈ TB := TB_tab (i := 90) (by decide +kernel) rfl
theorem mw_91 : Cond.methodLink "StepMachines$Threads" 17 ⟨"StepMachines$Jobs", "<init>", "(I)V"⟩ ∈ TB := TB_tab (i := 91) (by decide +kernel) rfl
theorem mw_92 : Cond.instanceMethod ⟨"StepMachines$Jobs", "<init>", "(I)V"⟩ ∈ TB := TB_tab (i := 92) (by decide +kernel) rfl
theorem mw_93 : Cond.code ⟨"StepMachines$Jobs", "<init>", "(I)V"⟩ prog_2_method_1_code 2 none ∈ TB := TB_tab (i := 93) (by decide +kernel) rfl
theorem mw_94 : Cond.methodLink "StepMachines$Jobs" 5 ⟨"java/lang/Object", "<init>", "()V"⟩ ∈ TB := TB_tab (i := 94) (by decide +kernel) rfl
theorem mw_95 : Cond.fieldLink "StepMachines$Jobs" 15 "StepMachines$Jobs" "fours" "[J" ∈ TB := TB_tab (i := 95) (by decide +kernel) rfl
theorem mw_96 : Cond.fieldLink "StepMachines$Jobs" 11 "StepMachines$Jobs" "count" "I" ∈ TB := TB_tab (i := 96) (by decide +kernel) rfl
theorem mw_102 : Cond.arrayClass .long ∈ TB := TB_tab (i := 102) (by decide +kernel) rfl
theorem mw_103 : Cond.classLink "StepMachines$Threads" 24 "StepMachines$Row" ∈ TB := TB_tab (i := 103) (by decide +kernel) rfl
theorem mw_104 : Cond.instantiable "StepMachines$Row" 4 ∈ TB := TB_tab (i := 104) (by decide +kernel) rfl
theorem mw_106 : Cond.instanceMethod ⟨"StepMachines$Row", "<init>", "()V"⟩ ∈ TB := TB_tab (i := 106) (by decide +kernel) rfl
theorem mw_107 : Cond.code ⟨"StepMachines$Row", "<init>", "()V"⟩ prog_7_method_1_code 1 none ∈ TB := TB_tab (i := 107) (by decide +kernel) rfl
theorem mw_108 : Cond.methodLink "StepMachines$Row" 3 ⟨"java/lang/Object", "<init>", "()V"⟩ ∈ TB := TB_tab (i := 108) (by decide +kernel) rfl
theorem mw_109 : Cond.fieldLink "StepMachines$Row" 9 "StepMachines$Row" "steps" "[I" ∈ TB := TB_tab (i := 109) (by decide +kernel) rfl
theorem mw_110 : Cond.fieldLink "StepMachines$Row" 15 "StepMachines$Row" "met" "[I" ∈ TB := TB_tab (i := 110) (by decide +kernel) rfl
theorem mw_111 : Cond.fieldLink "StepMachines$Row" 18 "StepMachines$Row" "count" "I" ∈ TB := TB_tab (i := 111) (by decide +kernel) rfl
theorem mw_112 : Cond.fieldLink "StepMachines$Row" 22 "StepMachines$Row" "turn" "I" ∈ TB := TB_tab (i := 112) (by decide +kernel) rfl
theorem mw_122 : Cond.fieldLink "StepMachines$Threads" 44 "StepMachines$Threads" "program" "LStepMachines$Program;" ∈ TB := TB_tab (i := 122) (by decide +kernel) rfl
theorem mw_123 : Cond.fieldLink "StepMachines$Threads" 48 "StepMachines$Threads" "subject" "LStepMachines$Subject;" ∈ TB := TB_tab (i := 123) (by decide +kernel) rfl
theorem mw_124 : Cond.fieldLink "StepMachines$Threads" 52 "StepMachines$Threads" "tally" "LStepMachines$Tally;" ∈ TB := TB_tab (i := 124) (by decide +kernel) rfl
theorem mw_125 : Cond.fieldLink "StepMachines$Threads" 56 "StepMachines$Threads" "best" "[I" ∈ TB := TB_tab (i := 125) (by decide +kernel) rfl
theorem mw_126 : Cond.fieldLink "StepMachines$Threads" 9 "StepMachines$Threads" "now" "[I" ∈ TB := TB_tab (i := 126) (by decide +kernel) rfl
theorem mw_127 : Cond.fieldLink "StepMachines$Threads" 20 "StepMachines$Threads" "jobs" "LStepMachines$Jobs;" ∈ TB := TB_tab (i := 127) (by decide +kernel) rfl
theorem mw_128 : Cond.fieldLink "StepMachines$Threads" 27 "StepMachines$Threads" "here" "LStepMachines$Row;" ∈ TB := TB_tab (i := 128) (by decide +kernel) rfl
theorem mw_129 : Cond.fieldLink "StepMachines$Threads" 31 "StepMachines$Threads" "next" "LStepMachines$Row;" ∈ TB := TB_tab (i := 129) (by decide +kernel) rfl
theorem mw_130 : Cond.fieldLink "StepMachines$Threads" 34 "StepMachines$Threads" "savedHere" "[I" ∈ TB := TB_tab (i := 130) (by decide +kernel) rfl
theorem mw_131 : Cond.fieldLink "StepMachines$Threads" 37 "StepMachines$Threads" "savedNext" "[I" ∈ TB := TB_tab (i := 131) (by decide +kernel) rfl
theorem mw_132 : Cond.fieldLink "StepMachines$Threads" 40 "StepMachines$Threads" "so" "I" ∈ TB := TB_tab (i := 132) (by decide +kernel) rfl
theorem mw_156 : Cond.classLink "StepMachines" 43 "StepMachines$Marks" ∈ TB := TB_tab (i := 156) (by decide +kernel) rfl
theorem mw_157 : Cond.instantiable "StepMachines$Marks" 7 ∈ TB := TB_tab (i := 157) (by decide +kernel) rfl
theorem mw_158 : Cond.methodLink "StepMachines" 45 ⟨"StepMachines$Marks", "<init>", "(LStepMachines$Program;LStepMachines$Subject;LStepMachines$Tally;[I)V"⟩ ∈ TB := TB_tab (i := 158) (by decide +kernel) rfl
theorem mw_159 : Cond.instanceMethod ⟨"StepMachines$Marks", "<init>", "(LStepMachines$Program;LStepMachines$Subject;LStepMachines$Tally;[I)V"⟩ ∈ TB := TB_tab (i := 159) (by decide +kernel) rfl
theorem mw_160 : Cond.code ⟨"StepMachines$Marks", "<init>", "(LStepMachines$Program;LStepMachines$Subject;LStepMachines$Tally;[I)V"⟩ prog_4_method_1_code 5 none ∈ TB := TB_tab (i := 160) (by decide +kernel) rfl
theorem mw_161 : Cond.methodLink "StepMachines$Marks" 3 ⟨"java/lang/Object", "<init>", "()V"⟩ ∈ TB := TB_tab (i := 161) (by decide +kernel) rfl
theorem mw_162 : Cond.classLink "StepMachines$Marks" 15 "StepMachines$Jobs" ∈ TB := TB_tab (i := 162) (by decide +kernel) rfl
theorem mw_163 : Cond.constant "StepMachines$Marks" 17 (40202 : Int32) ∈ TB := TB_tab (i := 163) (by decide +kernel) rfl
theorem mw_164 : Cond.methodLink "StepMachines$Marks" 18 ⟨"StepMachines$Jobs", "<init>", "(I)V"⟩ ∈ TB := TB_tab (i := 164) (by decide +kernel) rfl
theorem mw_165 : Cond.fieldLink "StepMachines$Marks" 28 "StepMachines$Marks" "program" "LStepMachines$Program;" ∈ TB := TB_tab (i := 165) (by decide +kernel) rfl
theorem mw_166 : Cond.fieldLink "StepMachines$Marks" 32 "StepMachines$Marks" "subject" "LStepMachines$Subject;" ∈ TB := TB_tab (i := 166) (by decide +kernel) rfl
theorem mw_167 : Cond.fieldLink "StepMachines$Marks" 36 "StepMachines$Marks" "tally" "LStepMachines$Tally;" ∈ TB := TB_tab (i := 167) (by decide +kernel) rfl
theorem mw_168 : Cond.fieldLink "StepMachines$Marks" 40 "StepMachines$Marks" "best" "[I" ∈ TB := TB_tab (i := 168) (by decide +kernel) rfl
theorem mw_169 : Cond.fieldLink "StepMachines$Marks" 9 "StepMachines$Marks" "now" "[I" ∈ TB := TB_tab (i := 169) (by decide +kernel) rfl
theorem mw_170 : Cond.fieldLink "StepMachines$Marks" 21 "StepMachines$Marks" "jobs" "LStepMachines$Jobs;" ∈ TB := TB_tab (i := 170) (by decide +kernel) rfl
theorem mw_171 : Cond.fieldLink "StepMachines$Marks" 25 "StepMachines$Marks" "tried" "[I" ∈ TB := TB_tab (i := 171) (by decide +kernel) rfl
theorem mw_187 : Cond.classLink "StepMachines" 50 "StepMachines$Table" ∈ TB := TB_tab (i := 187) (by decide +kernel) rfl
theorem mw_188 : Cond.instantiable "StepMachines$Table" 15 ∈ TB := TB_tab (i := 188) (by decide +kernel) rfl
theorem mw_189 : Cond.methodLink "StepMachines" 52 ⟨"StepMachines$Table", "<init>", "(LStepMachines$Program;LStepMachines$Subject;LStepMachines$Tally;[I)V"⟩ ∈ TB := TB_tab (i := 189) (by decide +kernel) rfl
theorem mw_190 : Cond.instanceMethod ⟨"StepMachines$Table", "<init>", "(LStepMachines$Program;LStepMachines$Subject;LStepMachines$Tally;[I)V"⟩ ∈ TB := TB_tab (i := 190) (by decide +kernel) rfl
theorem mw_191 : Cond.code ⟨"StepMachines$Table", "<init>", "(LStepMachines$Program;LStepMachines$Subject;LStepMachines$Tally;[I)V"⟩ prog_10_method_1_code 5 none ∈ TB := TB_tab (i := 191) (by decide +kernel) rfl
theorem mw_192 : Cond.methodLink "StepMachines$Table" 5 ⟨"java/lang/Object", "<init>", "()V"⟩ ∈ TB := TB_tab (i := 192) (by decide +kernel) rfl
theorem mw_193 : Cond.classLink "StepMachines$Table" 30 "StepMachines$Row" ∈ TB := TB_tab (i := 193) (by decide +kernel) rfl
theorem mw_195 : Cond.classLink "StepMachines$Table" 37 "StepMachines$Jobs" ∈ TB := TB_tab (i := 195) (by decide +kernel) rfl
theorem mw_196 : Cond.methodLink "StepMachines$Table" 39 ⟨"StepMachines$Jobs", "<init>", "(I)V"⟩ ∈ TB := TB_tab (i := 196) (by decide +kernel) rfl
theorem mw_197 : Cond.fieldLink "StepMachines$Table" 57 "StepMachines$Table" "program" "LStepMachines$Program;" ∈ TB := TB_tab (i := 197) (by decide +kernel) rfl
theorem mw_198 : Cond.fieldLink "StepMachines$Table" 61 "StepMachines$Table" "subject" "LStepMachines$Subject;" ∈ TB := TB_tab (i := 198) (by decide +kernel) rfl
theorem mw_199 : Cond.fieldLink "StepMachines$Table" 65 "StepMachines$Table" "tally" "LStepMachines$Tally;" ∈ TB := TB_tab (i := 199) (by decide +kernel) rfl
theorem mw_200 : Cond.fieldLink "StepMachines$Table" 69 "StepMachines$Table" "best" "[I" ∈ TB := TB_tab (i := 200) (by decide +kernel) rfl
theorem mw_201 : Cond.fieldLink "StepMachines$Table" 11 "StepMachines$Table" "now" "[I" ∈ TB := TB_tab (i := 201) (by decide +kernel) rfl
theorem mw_202 : Cond.fieldLink "StepMachines$Table" 15 "StepMachines$Table" "actions" "[I" ∈ TB := TB_tab (i := 202) (by decide +kernel) rfl
theorem mw_203 : Cond.fieldLink "StepMachines$Table" 18 "StepMachines$Table" "endings" "[I" ∈ TB := TB_tab (i := 203) (by decide +kernel) rfl
theorem mw_204 : Cond.fieldLink "StepMachines$Table" 21 "StepMachines$Table" "stepOfRow" "[I" ∈ TB := TB_tab (i := 204) (by decide +kernel) rfl
theorem mw_205 : Cond.fieldLink "StepMachines$Table" 24 "StepMachines$Table" "rowOfStep" "[I" ∈ TB := TB_tab (i := 205) (by decide +kernel) rfl
theorem mw_206 : Cond.fieldLink "StepMachines$Table" 27 "StepMachines$Table" "since" "[I" ∈ TB := TB_tab (i := 206) (by decide +kernel) rfl
theorem mw_207 : Cond.fieldLink "StepMachines$Table" 33 "StepMachines$Table" "walked" "LStepMachines$Row;" ∈ TB := TB_tab (i := 207) (by decide +kernel) rfl
theorem mw_208 : Cond.fieldLink "StepMachines$Table" 42 "StepMachines$Table" "jobs" "LStepMachines$Jobs;" ∈ TB := TB_tab (i := 208) (by decide +kernel) rfl
theorem mw_209 : Cond.fieldLink "StepMachines$Table" 46 "StepMachines$Table" "rows" "I" ∈ TB := TB_tab (i := 209) (by decide +kernel) rfl
theorem mw_210 : Cond.fieldLink "StepMachines$Table" 50 "StepMachines$Table" "made" "Z" ∈ TB := TB_tab (i := 210) (by decide +kernel) rfl
theorem mw_211 : Cond.fieldLink "StepMachines$Table" 54 "StepMachines$Table" "single" "Z" ∈ TB := TB_tab (i := 211) (by decide +kernel) rfl
theorem mw_243 : Cond.classLink "StepMachines" 57 "StepMachines$States" ∈ TB := TB_tab (i := 243) (by decide +kernel) rfl
theorem mw_244 : Cond.instantiable "StepMachines$States" 8 ∈ TB := TB_tab (i := 244) (by decide +kernel) rfl
theorem mw_245 : Cond.methodLink "StepMachines" 59 ⟨"StepMachines$States", "<init>", "(LStepMachines$Program;LStepMachines$Subject;LStepMachines$Tally;)V"⟩ ∈ TB := TB_tab (i := 245) (by decide +kernel) rfl
theorem mw_246 : Cond.instanceMethod ⟨"StepMachines$States", "<init>", "(LStepMachines$Program;LStepMachines$Subject;LStepMachines$Tally;)V"⟩ ∈ TB := TB_tab (i := 246) (by decide +kernel) rfl
theorem mw_247 : Cond.code ⟨"StepMachines$States", "<init>", "(LStepMachines$Program;LStepMachines$Subject;LStepMachines$Tally;)V"⟩ prog_8_method_1_code 4 none ∈ TB := TB_tab (i := 247) (by decide +kernel) rfl
theorem mw_248 : Cond.methodLink "StepMachines$States" 3 ⟨"java/lang/Object", "<init>", "()V"⟩ ∈ TB := TB_tab (i := 248) (by decide +kernel) rfl
theorem mw_249 : Cond.classLink "StepMachines$States" 9 "StepMachines$Kept" ∈ TB := TB_tab (i := 249) (by decide +kernel) rfl
theorem mw_250 : Cond.instantiable "StepMachines$Kept" 7 ∈ TB := TB_tab (i := 250) (by decide +kernel) rfl
theorem mw_252 : Cond.instanceMethod ⟨"StepMachines$Kept", "<init>", "()V"⟩ ∈ TB := TB_tab (i := 252) (by decide +kernel) rfl
theorem mw_253 : Cond.code ⟨"StepMachines$Kept", "<init>", "()V"⟩ prog_3_method_1_code 1 none ∈ TB := TB_tab (i := 253) (by decide +kernel) rfl
theorem mw_254 : Cond.methodLink "StepMachines$Kept" 7 ⟨"java/lang/Object", "<init>", "()V"⟩ ∈ TB := TB_tab (i := 254) (by decide +kernel) rfl
theorem mw_255 : Cond.classLink "StepMachines$Kept" 3 "StepMachines$Packed" ∈ TB := TB_tab (i := 255) (by decide +kernel) rfl
theorem mw_256 : Cond.instantiable "StepMachines$Packed" 1 ∈ TB := TB_tab (i := 256) (by decide +kernel) rfl
theorem mw_257 : Cond.methodLink "StepMachines$Kept" 13 ⟨"StepMachines$Packed", "<init>", "(I)V"⟩ ∈ TB := TB_tab (i := 257) (by decide +kernel) rfl
theorem mw_258 : Cond.instanceMethod ⟨"StepMachines$Packed", "<init>", "(I)V"⟩ ∈ TB := TB_tab (i := 258) (by decide +kernel) rfl
theorem mw_259 : Cond.code ⟨"StepMachines$Packed", "<init>", "(I)V"⟩ prog_5_method_1_code 2 none ∈ TB := TB_tab (i := 259) (by decide +kernel) rfl
theorem mw_260 : Cond.methodLink "StepMachines$Packed" 1 ⟨"java/lang/Object", "<init>", "()V"⟩ ∈ TB := TB_tab (i := 260) (by decide +kernel) rfl
theorem mw_261 : Cond.fieldLink "StepMachines$Packed" 9 "StepMachines$Packed" "eights" "[J" ∈ TB := TB_tab (i := 261) (by decide +kernel) rfl
theorem mw_265 : Cond.fieldLink "StepMachines$Kept" 16 "StepMachines$Kept" "steps" "LStepMachines$Packed;" ∈ TB := TB_tab (i := 265) (by decide +kernel) rfl
theorem mw_266 : Cond.fieldLink "StepMachines$Kept" 20 "StepMachines$Kept" "moves" "LStepMachines$Packed;" ∈ TB := TB_tab (i := 266) (by decide +kernel) rfl
theorem mw_267 : Cond.fieldLink "StepMachines$Kept" 23 "StepMachines$Kept" "counts" "[I" ∈ TB := TB_tab (i := 267) (by decide +kernel) rfl
theorem mw_268 : Cond.fieldLink "StepMachines$Kept" 27 "StepMachines$Kept" "labels" "[I" ∈ TB := TB_tab (i := 268) (by decide +kernel) rfl
theorem mw_269 : Cond.fieldLink "StepMachines$Kept" 30 "StepMachines$Kept" "sums" "[I" ∈ TB := TB_tab (i := 269) (by decide +kernel) rfl
theorem mw_270 : Cond.fieldLink "StepMachines$Kept" 33 "StepMachines$Kept" "most" "I" ∈ TB := TB_tab (i := 270) (by decide +kernel) rfl
theorem mw_271 : Cond.fieldLink "StepMachines$Kept" 37 "StepMachines$Kept" "kept" "I" ∈ TB := TB_tab (i := 271) (by decide +kernel) rfl
theorem mw_287 : Cond.classLink "StepMachines$States" 18 "StepMachines$Row" ∈ TB := TB_tab (i := 287) (by decide +kernel) rfl
theorem mw_289 : Cond.classLink "StepMachines$States" 28 "StepMachines$Jobs" ∈ TB := TB_tab (i := 289) (by decide +kernel) rfl
theorem mw_290 : Cond.methodLink "StepMachines$States" 30 ⟨"StepMachines$Jobs", "<init>", "(I)V"⟩ ∈ TB := TB_tab (i := 290) (by decide +kernel) rfl
theorem mw_291 : Cond.fieldLink "StepMachines$States" 41 "StepMachines$States" "program" "LStepMachines$Program;" ∈ TB := TB_tab (i := 291) (by decide +kernel) rfl
theorem mw_292 : Cond.fieldLink "StepMachines$States" 45 "StepMachines$States" "subject" "LStepMachines$Subject;" ∈ TB := TB_tab (i := 292) (by decide +kernel) rfl
theorem mw_293 : Cond.fieldLink "StepMachines$States" 49 "StepMachines$States" "tally" "LStepMachines$Tally;" ∈ TB := TB_tab (i := 293) (by decide +kernel) rfl
theorem mw_294 : Cond.fieldLink "StepMachines$States" 12 "StepMachines$States" "kept" "LStepMachines$Kept;" ∈ TB := TB_tab (i := 294) (by decide +kernel) rfl
theorem mw_295 : Cond.fieldLink "StepMachines$States" 21 "StepMachines$States" "walked" "LStepMachines$Row;" ∈ TB := TB_tab (i := 295) (by decide +kernel) rfl
theorem mw_296 : Cond.fieldLink "StepMachines$States" 25 "StepMachines$States" "onward" "LStepMachines$Row;" ∈ TB := TB_tab (i := 296) (by decide +kernel) rfl
theorem mw_297 : Cond.fieldLink "StepMachines$States" 33 "StepMachines$States" "jobs" "LStepMachines$Jobs;" ∈ TB := TB_tab (i := 297) (by decide +kernel) rfl
theorem mw_298 : Cond.fieldLink "StepMachines$States" 37 "StepMachines$States" "so" "I" ∈ TB := TB_tab (i := 298) (by decide +kernel) rfl
theorem mw_316 : Cond.methodLink "StepMachines" 66 ⟨"java/util/Arrays", "fill", "([II)V"⟩ ∈ TB := TB_tab (i := 316) (by decide +kernel) rfl
theorem mw_317 : Cond.static ⟨"java/util/Arrays", "fill", "([II)V"⟩ ∈ TB := TB_tab (i := 317) (by decide +kernel) rfl
theorem mw_318 : Cond.code ⟨"java/util/Arrays", "fill", "([II)V"⟩ prog_23_method_103_code 4 none ∈ TB := TB_tab (i := 318) (by decide +kernel) rfl
theorem mw_319 : Cond.fieldLink "StepMachines" 10 "StepMachines" "program" "LStepMachines$Program;" ∈ TB := TB_tab (i := 319) (by decide +kernel) rfl
theorem mw_320 : Cond.fieldLink "StepMachines" 19 "StepMachines" "subject" "LStepMachines$Subject;" ∈ TB := TB_tab (i := 320) (by decide +kernel) rfl
theorem mw_321 : Cond.fieldLink "StepMachines" 26 "StepMachines" "tally" "LStepMachines$Tally;" ∈ TB := TB_tab (i := 321) (by decide +kernel) rfl
theorem mw_322 : Cond.fieldLink "StepMachines" 30 "StepMachines" "latest" "[I" ∈ TB := TB_tab (i := 322) (by decide +kernel) rfl
theorem mw_323 : Cond.fieldLink "StepMachines" 39 "StepMachines" "threads" "LStepMachines$Threads;" ∈ TB := TB_tab (i := 323) (by decide +kernel) rfl
theorem mw_324 : Cond.fieldLink "StepMachines" 46 "StepMachines" "marks" "LStepMachines$Marks;" ∈ TB := TB_tab (i := 324) (by decide +kernel) rfl
theorem mw_325 : Cond.fieldLink "StepMachines" 53 "StepMachines" "table" "LStepMachines$Table;" ∈ TB := TB_tab (i := 325) (by decide +kernel) rfl
theorem mw_326 : Cond.fieldLink "StepMachines" 62 "StepMachines" "states" "LStepMachines$States;" ∈ TB := TB_tab (i := 326) (by decide +kernel) rfl
theorem mw_344 : Cond.methodLink "StepMachinesLaw" 58 ⟨"StepMachines", "put", "(JI)Z"⟩ ∈ TB := TB_tab (i := 344) (by decide +kernel) rfl
theorem mw_345 : Cond.instanceMethod ⟨"StepMachines", "put", "(JI)Z"⟩ ∈ TB := TB_tab (i := 345) (by decide +kernel) rfl
theorem mw_346 : Cond.selects "StepMachines" ⟨"StepMachines", "put", "(JI)Z"⟩ ⟨"StepMachines", "put", "(JI)Z"⟩ ∈ TB := TB_tab (i := 346) (by decide +kernel) rfl
theorem mw_347 : Cond.code ⟨"StepMachines", "put", "(JI)Z"⟩ prog_1_method_5_code 5 (some .boolean) ∈ TB := TB_tab (i := 347) (by decide +kernel) rfl
theorem mw_348 : Cond.methodLink "StepMachines" 116 ⟨"StepMachines$Subject", "length", "()I"⟩ ∈ TB := TB_tab (i := 348) (by decide +kernel) rfl
theorem mw_349 : Cond.instanceMethod ⟨"StepMachines$Subject", "length", "()I"⟩ ∈ TB := TB_tab (i := 349) (by decide +kernel) rfl
theorem mw_350 : Cond.selects "StepMachines$Subject" ⟨"StepMachines$Subject", "length", "()I"⟩ ⟨"StepMachines$Subject", "length", "()I"⟩ ∈ TB := TB_tab (i := 350) (by decide +kernel) rfl
theorem mw_351 : Cond.code ⟨"StepMachines$Subject", "length", "()I"⟩ prog_9_method_5_code 1 (some .int) ∈ TB := TB_tab (i := 351) (by decide +kernel) rfl
theorem mw_352 : Cond.methodLink "StepMachines" 120 ⟨"StepMachines$Subject", "append", "(I)V"⟩ ∈ TB := TB_tab (i := 352) (by decide +kernel) rfl
theorem mw_353 : Cond.instanceMethod ⟨"StepMachines$Subject", "append", "(I)V"⟩ ∈ TB := TB_tab (i := 353) (by decide +kernel) rfl
theorem mw_354 : Cond.selects "StepMachines$Subject" ⟨"StepMachines$Subject", "append", "(I)V"⟩ ⟨"StepMachines$Subject", "append", "(I)V"⟩ ∈ TB := TB_tab (i := 354) (by decide +kernel) rfl
theorem mw_355 : Cond.code ⟨"StepMachines$Subject", "append", "(I)V"⟩ prog_9_method_6_code 2 none ∈ TB := TB_tab (i := 355) (by decide +kernel) rfl
theorem mw_356 : Cond.methodLink "StepMachinesLaw" 63 ⟨"StepMachines", "clear", "()V"⟩ ∈ TB := TB_tab (i := 356) (by decide +kernel) rfl
theorem mw_357 : Cond.instanceMethod ⟨"StepMachines", "clear", "()V"⟩ ∈ TB := TB_tab (i := 357) (by decide +kernel) rfl
theorem mw_358 : Cond.selects "StepMachines" ⟨"StepMachines", "clear", "()V"⟩ ⟨"StepMachines", "clear", "()V"⟩ ∈ TB := TB_tab (i := 358) (by decide +kernel) rfl
theorem mw_359 : Cond.code ⟨"StepMachines", "clear", "()V"⟩ prog_1_method_6_code 1 none ∈ TB := TB_tab (i := 359) (by decide +kernel) rfl
theorem mw_360 : Cond.methodLink "StepMachines" 123 ⟨"StepMachines$Subject", "empty", "()V"⟩ ∈ TB := TB_tab (i := 360) (by decide +kernel) rfl
theorem mw_361 : Cond.instanceMethod ⟨"StepMachines$Subject", "empty", "()V"⟩ ∈ TB := TB_tab (i := 361) (by decide +kernel) rfl
theorem mw_362 : Cond.selects "StepMachines$Subject" ⟨"StepMachines$Subject", "empty", "()V"⟩ ⟨"StepMachines$Subject", "empty", "()V"⟩ ∈ TB := TB_tab (i := 362) (by decide +kernel) rfl
theorem mw_363 : Cond.code ⟨"StepMachines$Subject", "empty", "()V"⟩ prog_9_method_4_code 1 none ∈ TB := TB_tab (i := 363) (by decide +kernel) rfl
theorem mw_364 : Cond.methodLink "StepMachinesLaw" 71 ⟨"StepMachines", "saved", "(I)I"⟩ ∈ TB := TB_tab (i := 364) (by decide +kernel) rfl
theorem mw_365 : Cond.instanceMethod ⟨"StepMachines", "saved", "(I)I"⟩ ∈ TB := TB_tab (i := 365) (by decide +kernel) rfl
theorem mw_366 : Cond.selects "StepMachines" ⟨"StepMachines", "saved", "(I)I"⟩ ⟨"StepMachines", "saved", "(I)I"⟩ ∈ TB := TB_tab (i := 366) (by decide +kernel) rfl
theorem mw_367 : Cond.code ⟨"StepMachines", "saved", "(I)I"⟩ prog_1_method_8_code 2 (some .int) ∈ TB := TB_tab (i := 367) (by decide +kernel) rfl
theorem mw_368 : Cond.methodLink "StepMachinesLaw" 83 ⟨"StepMachines", "isOneWay", "()Z"⟩ ∈ TB := TB_tab (i := 368) (by decide +kernel) rfl
theorem mw_369 : Cond.instanceMethod ⟨"StepMachines", "isOneWay", "()Z"⟩ ∈ TB := TB_tab (i := 369) (by decide +kernel) rfl
theorem mw_370 : Cond.selects "StepMachines" ⟨"StepMachines", "isOneWay", "()Z"⟩ ⟨"StepMachines", "isOneWay", "()Z"⟩ ∈ TB := TB_tab (i := 370) (by decide +kernel) rfl
theorem mw_371 : Cond.code ⟨"StepMachines", "isOneWay", "()Z"⟩ prog_1_method_11_code 1 (some .boolean) ∈ TB := TB_tab (i := 371) (by decide +kernel) rfl
theorem mw_372 : Cond.methodLink "StepMachines" 140 ⟨"StepMachines$Table", "isSingleMinded", "()Z"⟩ ∈ TB := TB_tab (i := 372) (by decide +kernel) rfl
theorem mw_373 : Cond.instanceMethod ⟨"StepMachines$Table", "isSingleMinded", "()Z"⟩ ∈ TB := TB_tab (i := 373) (by decide +kernel) rfl
theorem mw_374 : Cond.selects "StepMachines$Table" ⟨"StepMachines$Table", "isSingleMinded", "()Z"⟩ ⟨"StepMachines$Table", "isSingleMinded", "()Z"⟩ ∈ TB := TB_tab (i := 374) (by decide +kernel) rfl
theorem mw_375 : Cond.code ⟨"StepMachines$Table", "isSingleMinded", "()Z"⟩ prog_10_method_3_code 1 (some .boolean) ∈ TB := TB_tab (i := 375) (by decide +kernel) rfl
theorem mw_376 : Cond.methodLink "StepMachines$Table" 72 ⟨"StepMachines$Table", "make", "()V"⟩ ∈ TB := TB_tab (i := 376) (by decide +kernel) rfl
theorem mw_378 : Cond.instanceMethod ⟨"StepMachines$Table", "make", "()V"⟩ ∈ TB := TB_tab (i := 378) (by decide +kernel) rfl
theorem mw_379 : Cond.code ⟨"StepMachines$Table", "make", "()V"⟩ prog_10_method_4_code 2 none ∈ TB := TB_tab (i := 379) (by decide +kernel) rfl
theorem mw_380 : Cond.methodLink "StepMachines$Table" 75 ⟨"java/util/Arrays", "fill", "([II)V"⟩ ∈ TB := TB_tab (i := 380) (by decide +kernel) rfl
theorem mw_381 : Cond.methodLink "StepMachines$Table" 81 ⟨"StepMachines$Program", "beginning", "()I"⟩ ∈ TB := TB_tab (i := 381) (by decide +kernel) rfl
theorem mw_382 : Cond.instanceMethod ⟨"StepMachines$Program", "beginning", "()I"⟩ ∈ TB := TB_tab (i := 382) (by decide +kernel) rfl
theorem mw_383 : Cond.selects "StepMachines$Program" ⟨"StepMachines$Program", "beginning", "()I"⟩ ⟨"StepMachines$Program", "beginning", "()I"⟩ ∈ TB := TB_tab (i := 383) (by decide +kernel) rfl
theorem mw_384 : Cond.code ⟨"StepMachines$Program", "beginning", "()I"⟩ prog_6_method_6_code 1 (some .int) ∈ TB := TB_tab (i := 384) (by decide +kernel) rfl
theorem mw_385 : Cond.methodLink "StepMachines$Table" 87 ⟨"StepMachines$Table", "rowFor", "(I)I"⟩ ∈ TB := TB_tab (i := 385) (by decide +kernel) rfl
theorem mw_387 : Cond.instanceMethod ⟨"StepMachines$Table", "rowFor", "(I)I"⟩ ∈ TB := TB_tab (i := 387) (by decide +kernel) rfl
theorem mw_388 : Cond.code ⟨"StepMachines$Table", "rowFor", "(I)I"⟩ prog_10_method_5_code 2 (some .int) ∈ TB := TB_tab (i := 388) (by decide +kernel) rfl
theorem mw_389 : Cond.methodLink "StepMachines$Table" 95 ⟨"StepMachines$Program", "has", "(I)Z"⟩ ∈ TB := TB_tab (i := 389) (by decide +kernel) rfl
theorem mw_390 : Cond.instanceMethod ⟨"StepMachines$Program", "has", "(I)Z"⟩ ∈ TB := TB_tab (i := 390) (by decide +kernel) rfl
theorem mw_391 : Cond.selects "StepMachines$Program" ⟨"StepMachines$Program", "has", "(I)Z"⟩ ⟨"StepMachines$Program", "has", "(I)Z"⟩ ∈ TB := TB_tab (i := 391) (by decide +kernel) rfl
theorem mw_392 : Cond.code ⟨"StepMachines$Program", "has", "(I)Z"⟩ prog_6_method_8_code 2 (some .boolean) ∈ TB := TB_tab (i := 392) (by decide +kernel) rfl
theorem mw_393 : Cond.methodLink "StepMachines$Table" 91 ⟨"StepMachines$Table", "makeRow", "(I)Z"⟩ ∈ TB := TB_tab (i := 393) (by decide +kernel) rfl
theorem mw_395 : Cond.instanceMethod ⟨"StepMachines$Table", "makeRow", "(I)Z"⟩ ∈ TB := TB_tab (i := 395) (by decide +kernel) rfl
theorem mw_396 : Cond.code ⟨"StepMachines$Table", "makeRow", "(I)Z"⟩ prog_10_method_6_code 5 (some .boolean) ∈ TB := TB_tab (i := 396) (by decide +kernel) rfl
theorem mw_397 : Cond.methodLink "StepMachines$Table" 98 ⟨"StepMachines$Row", "empty", "()V"⟩ ∈ TB := TB_tab (i := 397) (by decide +kernel) rfl
theorem mw_398 : Cond.instanceMethod ⟨"StepMachines$Row", "empty", "()V"⟩ ∈ TB := TB_tab (i := 398) (by decide +kernel) rfl
theorem mw_399 : Cond.selects "StepMachines$Row" ⟨"StepMachines$Row", "empty", "()V"⟩ ⟨"StepMachines$Row", "empty", "()V"⟩ ∈ TB := TB_tab (i := 399) (by decide +kernel) rfl
theorem mw_400 : Cond.code ⟨"StepMachines$Row", "empty", "()V"⟩ prog_7_method_2_code 1 none ∈ TB := TB_tab (i := 400) (by decide +kernel) rfl
theorem mw_401 : Cond.methodLink "StepMachines$Table" 101 ⟨"StepMachines$Jobs", "drop", "()V"⟩ ∈ TB := TB_tab (i := 401) (by decide +kernel) rfl
theorem mw_402 : Cond.instanceMethod ⟨"StepMachines$Jobs", "drop", "()V"⟩ ∈ TB := TB_tab (i := 402) (by decide +kernel) rfl
theorem mw_403 : Cond.selects "StepMachines$Jobs" ⟨"StepMachines$Jobs", "drop", "()V"⟩ ⟨"StepMachines$Jobs", "drop", "()V"⟩ ∈ TB := TB_tab (i := 403) (by decide +kernel) rfl
theorem mw_404 : Cond.code ⟨"StepMachines$Jobs", "drop", "()V"⟩ prog_2_method_9_code 1 none ∈ TB := TB_tab (i := 404) (by decide +kernel) rfl
theorem mw_405 : Cond.methodLink "StepMachines$Table" 104 ⟨"StepMachines$Table", "later", "(II)V"⟩ ∈ TB := TB_tab (i := 405) (by decide +kernel) rfl
theorem mw_407 : Cond.instanceMethod ⟨"StepMachines$Table", "later", "(II)V"⟩ ∈ TB := TB_tab (i := 407) (by decide +kernel) rfl
theorem mw_408 : Cond.code ⟨"StepMachines$Table", "later", "(II)V"⟩ prog_10_method_7_code 3 none ∈ TB := TB_tab (i := 408) (by decide +kernel) rfl
theorem mw_409 : Cond.methodLink "StepMachines$Table" 128 ⟨"StepMachines$Jobs", "add", "(I)V"⟩ ∈ TB := TB_tab (i := 409) (by decide +kernel) rfl
theorem mw_410 : Cond.instanceMethod ⟨"StepMachines$Jobs", "add", "(I)V"⟩ ∈ TB := TB_tab (i := 410) (by decide +kernel) rfl
theorem mw_411 : Cond.selects "StepMachines$Jobs" ⟨"StepMachines$Jobs", "add", "(I)V"⟩ ⟨"StepMachines$Jobs", "add", "(I)V"⟩ ∈ TB := TB_tab (i := 411) (by decide +kernel) rfl
theorem mw_412 : Cond.code ⟨"StepMachines$Jobs", "add", "(I)V"⟩ prog_2_method_11_code 4 none ∈ TB := TB_tab (i := 412) (by decide +kernel) rfl
theorem mw_413 : Cond.constantLong "StepMachines$Jobs" 28 (65535 : Int64) ∈ TB := TB_tab (i := 413) (by decide +kernel) rfl
theorem mw_414 : Cond.constantLong "StepMachines$Jobs" 30 (-1 : Int64) ∈ TB := TB_tab (i := 414) (by decide +kernel) rfl
theorem mw_415 : Cond.constant "StepMachines$Table" 108 (1000000 : Int32) ∈ TB := TB_tab (i := 415) (by decide +kernel) rfl
theorem mw_416 : Cond.methodLink "StepMachines$Table" 109 ⟨"StepMachines$Jobs", "isEmpty", "()Z"⟩ ∈ TB := TB_tab (i := 416) (by decide +kernel) rfl
theorem mw_417 : Cond.instanceMethod ⟨"StepMachines$Jobs", "isEmpty", "()Z"⟩ ∈ TB := TB_tab (i := 417) (by decide +kernel) rfl
theorem mw_418 : Cond.selects "StepMachines$Jobs" ⟨"StepMachines$Jobs", "isEmpty", "()Z"⟩ ⟨"StepMachines$Jobs", "isEmpty", "()Z"⟩ ∈ TB := TB_tab (i := 418) (by decide +kernel) rfl
theorem mw_419 : Cond.code ⟨"StepMachines$Jobs", "isEmpty", "()Z"⟩ prog_2_method_10_code 1 (some .boolean) ∈ TB := TB_tab (i := 419) (by decide +kernel) rfl
theorem mw_420 : Cond.methodLink "StepMachines$Table" 113 ⟨"StepMachines$Jobs", "take", "()I"⟩ ∈ TB := TB_tab (i := 420) (by decide +kernel) rfl
theorem mw_421 : Cond.instanceMethod ⟨"StepMachines$Jobs", "take", "()I"⟩ ∈ TB := TB_tab (i := 421) (by decide +kernel) rfl
theorem mw_422 : Cond.selects "StepMachines$Jobs" ⟨"StepMachines$Jobs", "take", "()I"⟩ ⟨"StepMachines$Jobs", "take", "()I"⟩ ∈ TB := TB_tab (i := 422) (by decide +kernel) rfl
theorem mw_423 : Cond.code ⟨"StepMachines$Jobs", "take", "()I"⟩ prog_2_method_12_code 1 (some .int) ∈ TB := TB_tab (i := 423) (by decide +kernel) rfl
theorem mw_424 : Cond.methodLink "StepMachines$Table" 116 ⟨"StepMachines$Tally", "count", "()V"⟩ ∈ TB := TB_tab (i := 424) (by decide +kernel) rfl
theorem mw_425 : Cond.instanceMethod ⟨"StepMachines$Tally", "count", "()V"⟩ ∈ TB := TB_tab (i := 425) (by decide +kernel) rfl
theorem mw_426 : Cond.selects "StepMachines$Tally" ⟨"StepMachines$Tally", "count", "()V"⟩ ⟨"StepMachines$Tally", "count", "()V"⟩ ∈ TB := TB_tab (i := 426) (by decide +kernel) rfl
theorem mw_427 : Cond.code ⟨"StepMachines$Tally", "count", "()V"⟩ prog_11_method_3_code 1 none ∈ TB := TB_tab (i := 427) (by decide +kernel) rfl
theorem mw_428 : Cond.methodLink "StepMachines$Table" 121 ⟨"StepMachines$Row", "meets", "(I)Z"⟩ ∈ TB := TB_tab (i := 428) (by decide +kernel) rfl
theorem mw_429 : Cond.instanceMethod ⟨"StepMachines$Row", "meets", "(I)Z"⟩ ∈ TB := TB_tab (i := 429) (by decide +kernel) rfl
theorem mw_430 : Cond.selects "StepMachines$Row" ⟨"StepMachines$Row", "meets", "(I)Z"⟩ ⟨"StepMachines$Row", "meets", "(I)Z"⟩ ∈ TB := TB_tab (i := 430) (by decide +kernel) rfl
theorem mw_431 : Cond.code ⟨"StepMachines$Row", "meets", "(I)Z"⟩ prog_7_method_3_code 2 (some .boolean) ∈ TB := TB_tab (i := 431) (by decide +kernel) rfl
theorem mw_432 : Cond.methodLink "StepMachines$Table" 124 ⟨"StepMachines$Table", "walk", "(III)Z"⟩ ∈ TB := TB_tab (i := 432) (by decide +kernel) rfl
theorem mw_434 : Cond.instanceMethod ⟨"StepMachines$Table", "walk", "(III)Z"⟩ ∈ TB := TB_tab (i := 434) (by decide +kernel) rfl
theorem mw_435 : Cond.code ⟨"StepMachines$Table", "walk", "(III)Z"⟩ prog_10_method_8_code 5 (some .boolean) ∈ TB := TB_tab (i := 435) (by decide +kernel) rfl
theorem mw_436 : Cond.methodLink "StepMachines$Table" 131 ⟨"StepMachines$Program", "valueOf", "(I)I"⟩ ∈ TB := TB_tab (i := 436) (by decide +kernel) rfl
theorem mw_437 : Cond.instanceMethod ⟨"StepMachines$Program", "valueOf", "(I)I"⟩ ∈ TB := TB_tab (i := 437) (by decide +kernel) rfl
theorem mw_438 : Cond.selects "StepMachines$Program" ⟨"StepMachines$Program", "valueOf", "(I)I"⟩ ⟨"StepMachines$Program", "valueOf", "(I)I"⟩ ∈ TB := TB_tab (i := 438) (by decide +kernel) rfl
theorem mw_439 : Cond.code ⟨"StepMachines$Program", "valueOf", "(I)I"⟩ prog_6_method_10_code 2 (some .int) ∈ TB := TB_tab (i := 439) (by decide +kernel) rfl
theorem mw_440 : Cond.methodLink "StepMachines$Program" 45 ⟨"StepMachines$Program", "has", "(I)Z"⟩ ∈ TB := TB_tab (i := 440) (by decide +kernel) rfl
theorem mw_441 : Cond.methodLink "StepMachines$Table" 134 ⟨"StepMachines$Program", "kindOf", "(I)I"⟩ ∈ TB := TB_tab (i := 441) (by decide +kernel) rfl
theorem mw_442 : Cond.instanceMethod ⟨"StepMachines$Program", "kindOf", "(I)I"⟩ ∈ TB := TB_tab (i := 442) (by decide +kernel) rfl
theorem mw_443 : Cond.selects "StepMachines$Program" ⟨"StepMachines$Program", "kindOf", "(I)I"⟩ ⟨"StepMachines$Program", "kindOf", "(I)I"⟩ ∈ TB := TB_tab (i := 443) (by decide +kernel) rfl
theorem mw_444 : Cond.code ⟨"StepMachines$Program", "kindOf", "(I)I"⟩ prog_6_method_9_code 2 (some .int) ∈ TB := TB_tab (i := 444) (by decide +kernel) rfl
theorem mw_445 : Cond.methodLink "StepMachines$Table" 137 ⟨"StepMachines$Table", "takeBytes", "(III)Z"⟩ ∈ TB := TB_tab (i := 445) (by decide +kernel) rfl
theorem mw_447 : Cond.instanceMethod ⟨"StepMachines$Table", "takeBytes", "(III)Z"⟩ ∈ TB := TB_tab (i := 447) (by decide +kernel) rfl
theorem mw_448 : Cond.code ⟨"StepMachines$Table", "takeBytes", "(III)Z"⟩ prog_10_method_9_code 11 (some .boolean) ∈ TB := TB_tab (i := 448) (by decide +kernel) rfl
theorem mw_449 : Cond.methodLink "StepMachines$Table" 143 ⟨"StepMachines$Program", "firstOf", "(I)I"⟩ ∈ TB := TB_tab (i := 449) (by decide +kernel) rfl
theorem mw_450 : Cond.instanceMethod ⟨"StepMachines$Program", "firstOf", "(I)I"⟩ ∈ TB := TB_tab (i := 450) (by decide +kernel) rfl
theorem mw_451 : Cond.selects "StepMachines$Program" ⟨"StepMachines$Program", "firstOf", "(I)I"⟩ ⟨"StepMachines$Program", "firstOf", "(I)I"⟩ ∈ TB := TB_tab (i := 451) (by decide +kernel) rfl
theorem mw_452 : Cond.code ⟨"StepMachines$Program", "firstOf", "(I)I"⟩ prog_6_method_11_code 2 (some .int) ∈ TB := TB_tab (i := 452) (by decide +kernel) rfl
theorem mw_453 : Cond.methodLink "StepMachines$Table" 146 ⟨"java/lang/Math", "max", "(II)I"⟩ ∈ TB := TB_tab (i := 453) (by decide +kernel) rfl
theorem mw_454 : Cond.static ⟨"java/lang/Math", "max", "(II)I"⟩ ∈ TB := TB_tab (i := 454) (by decide +kernel) rfl
theorem mw_455 : Cond.code ⟨"java/lang/Math", "max", "(II)I"⟩ prog_18_method_65_code 2 (some .int) ∈ TB := TB_tab (i := 455) (by decide +kernel) rfl
theorem mw_456 : Cond.methodLink "StepMachines$Table" 140 ⟨"StepMachines$Program", "secondOf", "(I)I"⟩ ∈ TB := TB_tab (i := 456) (by decide +kernel) rfl
theorem mw_457 : Cond.instanceMethod ⟨"StepMachines$Program", "secondOf", "(I)I"⟩ ∈ TB := TB_tab (i := 457) (by decide +kernel) rfl
theorem mw_458 : Cond.selects "StepMachines$Program" ⟨"StepMachines$Program", "secondOf", "(I)I"⟩ ⟨"StepMachines$Program", "secondOf", "(I)I"⟩ ∈ TB := TB_tab (i := 458) (by decide +kernel) rfl
theorem mw_459 : Cond.code ⟨"StepMachines$Program", "secondOf", "(I)I"⟩ prog_6_method_12_code 2 (some .int) ∈ TB := TB_tab (i := 459) (by decide +kernel) rfl
theorem mw_460 : Cond.methodLink "StepMachinesLaw" 88 ⟨"StepMachines", "over", "()I"⟩ ∈ TB := TB_tab (i := 460) (by decide +kernel) rfl
theorem mw_461 : Cond.instanceMethod ⟨"StepMachines", "over", "()I"⟩ ∈ TB := TB_tab (i := 461) (by decide +kernel) rfl
theorem mw_462 : Cond.selects "StepMachines" ⟨"StepMachines", "over", "()I"⟩ ⟨"StepMachines", "over", "()I"⟩ ∈ TB := TB_tab (i := 462) (by decide +kernel) rfl
theorem mw_463 : Cond.code ⟨"StepMachines", "over", "()I"⟩ prog_1_method_12_code 1 (some .int) ∈ TB := TB_tab (i := 463) (by decide +kernel) rfl
theorem mw_464 : Cond.methodLink "StepMachinesLaw" 39 ⟨"StepMachinesLaw", "lay", "(LStepMachines;I)I"⟩ ∈ TB := TB_tab (i := 464) (by decide +kernel) rfl
theorem mw_465 : Cond.static ⟨"StepMachinesLaw", "lay", "(LStepMachines;I)I"⟩ ∈ TB := TB_tab (i := 465) (by decide +kernel) rfl
theorem mw_467 : Cond.classLink "StepMachinesLaw" 13 "java/lang/IllegalArgumentException" ∈ TB := TB_tab (i := 467) (by decide +kernel) rfl
theorem mw_468 : Cond.methodLink "StepMachinesLaw" 7 ⟨"StepMachines", "lay", "(I)V"⟩ ∈ TB := TB_tab (i := 468) (by decide +kernel) rfl
theorem mw_469 : Cond.instanceMethod ⟨"StepMachines", "lay", "(I)V"⟩ ∈ TB := TB_tab (i := 469) (by decide +kernel) rfl
theorem mw_470 : Cond.selects "StepMachines" ⟨"StepMachines", "lay", "(I)V"⟩ ⟨"StepMachines", "lay", "(I)V"⟩ ∈ TB := TB_tab (i := 470) (by decide +kernel) rfl
theorem mw_471 : Cond.code ⟨"StepMachines", "lay", "(I)V"⟩ prog_1_method_2_code 2 none ∈ TB := TB_tab (i := 471) (by decide +kernel) rfl
theorem mw_472 : Cond.classLink "StepMachines" 72 "java/lang/IllegalArgumentException" ∈ TB := TB_tab (i := 472) (by decide +kernel) rfl
theorem mw_473 : Cond.instantiable "java/lang/IllegalArgumentException" 6 ∈ TB := TB_tab (i := 473) (by decide +kernel) rfl
theorem mw_481 : Cond.selects "java/lang/IllegalArgumentException" ⟨"java/lang/Throwable", "fillInStackTrace", "(I)Ljava/lang/Throwable;"⟩ ⟨"java/lang/Throwable", "fillInStackTrace", "(I)Ljava/lang/Throwable;"⟩ ∈ TB := TB_tab (i := 481) (by decide +kernel) rfl
theorem mw_482 : Cond.selects "java/lang/IllegalArgumentException" ⟨"java/lang/Throwable", "fillInStackTrace", "()Ljava/lang/Throwable;"⟩ ⟨"java/lang/Throwable", "fillInStackTrace", "()Ljava/lang/Throwable;"⟩ ∈ TB := TB_tab (i := 482) (by decide +kernel) rfl
theorem mw_493 : Cond.fieldLink "java/lang/Throwable" 198 "java/lang/Throwable" "backtrace" "Ljava/lang/Object;" ∈ TB := TB_tab (i := 493) (by decide +kernel) rfl
theorem mw_495 : Cond.instanceMethod ⟨"java/lang/Throwable", "<init>", "()V"⟩ ∈ TB := TB_tab (i := 495) (by decide +kernel) rfl
theorem mw_496 : Cond.code ⟨"java/lang/Throwable", "<init>", "()V"⟩ prog_22_method_1_code 1 none ∈ TB := TB_tab (i := 496) (by decide +kernel) rfl
theorem mw_497 : Cond.methodLink "java/lang/Throwable" 1 ⟨"java/lang/Object", "<init>", "()V"⟩ ∈ TB := TB_tab (i := 497) (by decide +kernel) rfl
theorem mw_498 : Cond.fieldLink "java/lang/Throwable" 13 "java/lang/Throwable" "UNASSIGNED_STACK" "[Ljava/lang/StackTraceElement;" ∈ TB := TB_tab (i := 498) (by decide +kernel) rfl
theorem mw_500 : Cond.fieldLink "java/lang/Throwable" 20 "java/lang/Throwable" "SUPPRESSED_SENTINEL" "Ljava/util/List;" ∈ TB := TB_tab (i := 500) (by decide +kernel) rfl
theorem mw_502 : Cond.methodLink "java/lang/Throwable" 27 ⟨"java/lang/Throwable", "fillInStackTrace", "()Ljava/lang/Throwable;"⟩ ∈ TB := TB_tab (i := 502) (by decide +kernel) rfl
theorem mw_503 : Cond.instanceMethod ⟨"java/lang/Throwable", "fillInStackTrace", "()Ljava/lang/Throwable;"⟩ ∈ TB := TB_tab (i := 503) (by decide +kernel) rfl
theorem mw_505 : Cond.selects "java/lang/IndexOutOfBoundsException" ⟨"java/lang/Throwable", "fillInStackTrace", "()Ljava/lang/Throwable;"⟩ ⟨"java/lang/Throwable", "fillInStackTrace", "()Ljava/lang/Throwable;"⟩ ∈ TB := TB_tab (i := 505) (by decide +kernel) rfl
theorem mw_507 : Cond.methodLink "java/lang/Throwable" 202 ⟨"java/lang/Throwable", "fillInStackTrace", "(I)Ljava/lang/Throwable;"⟩ ∈ TB := TB_tab (i := 507) (by decide +kernel) rfl
theorem mw_509 : Cond.instanceMethod ⟨"java/lang/Throwable", "fillInStackTrace", "(I)Ljava/lang/Throwable;"⟩ ∈ TB := TB_tab (i := 509) (by decide +kernel) rfl
theorem mw_510 : Cond.instantiable "java/lang/Throwable" 6 ∈ TB := TB_tab (i := 510) (by decide +kernel) rfl
theorem mw_511 : Cond.native ⟨"java/lang/Throwable", "fillInStackTrace", "(I)Ljava/lang/Throwable;"⟩ ∈ TB := TB_tab (i := 511) (by decide +kernel) rfl
theorem mw_513 : Cond.methodLink "StepMachines" 76 ⟨"java/lang/IllegalArgumentException", "<init>", "(Ljava/lang/String;)V"⟩ ∈ TB := TB_tab (i := 513) (by decide +kernel) rfl
theorem mw_514 : Cond.instanceMethod ⟨"java/lang/IllegalArgumentException", "<init>", "(Ljava/lang/String;)V"⟩ ∈ TB := TB_tab (i := 514) (by decide +kernel) rfl
theorem mw_515 : Cond.code ⟨"java/lang/IllegalArgumentException", "<init>", "(Ljava/lang/String;)V"⟩ prog_16_method_2_code 2 none ∈ TB := TB_tab (i := 515) (by decide +kernel) rfl
theorem mw_516 : Cond.methodLink "java/lang/IllegalArgumentException" 7 ⟨"java/lang/RuntimeException", "<init>", "(Ljava/lang/String;)V"⟩ ∈ TB := TB_tab (i := 516) (by decide +kernel) rfl
theorem mw_517 : Cond.instanceMethod ⟨"java/lang/RuntimeException", "<init>", "(Ljava/lang/String;)V"⟩ ∈ TB := TB_tab (i := 517) (by decide +kernel) rfl
theorem mw_518 : Cond.code ⟨"java/lang/RuntimeException", "<init>", "(Ljava/lang/String;)V"⟩ prog_19_method_2_code 2 none ∈ TB := TB_tab (i := 518) (by decide +kernel) rfl
theorem mw_519 : Cond.methodLink "java/lang/RuntimeException" 7 ⟨"java/lang/Exception", "<init>", "(Ljava/lang/String;)V"⟩ ∈ TB := TB_tab (i := 519) (by decide +kernel) rfl
theorem mw_520 : Cond.instanceMethod ⟨"java/lang/Exception", "<init>", "(Ljava/lang/String;)V"⟩ ∈ TB := TB_tab (i := 520) (by decide +kernel) rfl
theorem mw_521 : Cond.code ⟨"java/lang/Exception", "<init>", "(Ljava/lang/String;)V"⟩ prog_15_method_2_code 2 none ∈ TB := TB_tab (i := 521) (by decide +kernel) rfl
theorem mw_522 : Cond.methodLink "java/lang/Exception" 7 ⟨"java/lang/Throwable", "<init>", "(Ljava/lang/String;)V"⟩ ∈ TB := TB_tab (i := 522) (by decide +kernel) rfl
theorem mw_523 : Cond.instanceMethod ⟨"java/lang/Throwable", "<init>", "(Ljava/lang/String;)V"⟩ ∈ TB := TB_tab (i := 523) (by decide +kernel) rfl
theorem mw_524 : Cond.code ⟨"java/lang/Throwable", "<init>", "(Ljava/lang/String;)V"⟩ prog_22_method_2_code 2 none ∈ TB := TB_tab (i := 524) (by decide +kernel) rfl
theorem mw_526 : Cond.fieldLink "java/lang/Throwable" 31 "java/lang/Throwable" "detailMessage" "Ljava/lang/String;" ∈ TB := TB_tab (i := 526) (by decide +kernel) rfl
theorem mw_527 : Cond.fieldLink "java/lang/Throwable" 7 "java/lang/Throwable" "cause" "Ljava/lang/Throwable;" ∈ TB := TB_tab (i := 527) (by decide +kernel) rfl
theorem mw_528 : Cond.fieldLink "java/lang/Throwable" 17 "java/lang/Throwable" "stackTrace" "[Ljava/lang/StackTraceElement;" ∈ TB := TB_tab (i := 528) (by decide +kernel) rfl
theorem mw_529 : Cond.fieldLink "java/lang/Throwable" 24 "java/lang/Throwable" "suppressedExceptions" "Ljava/util/List;" ∈ TB := TB_tab (i := 529) (by decide +kernel) rfl
theorem mw_538 : Cond.arrayClass .byte ∈ TB := TB_tab (i := 538) (by decide +kernel) rfl
theorem mw_539 : Cond.methodLink "StepMachines" 79 ⟨"StepMachines$Program", "layOut", "(I)V"⟩ ∈ TB := TB_tab (i := 539) (by decide +kernel) rfl
theorem mw_540 : Cond.instanceMethod ⟨"StepMachines$Program", "layOut", "(I)V"⟩ ∈ TB := TB_tab (i := 540) (by decide +kernel) rfl
theorem mw_541 : Cond.selects "StepMachines$Program" ⟨"StepMachines$Program", "layOut", "(I)V"⟩ ⟨"StepMachines$Program", "layOut", "(I)V"⟩ ∈ TB := TB_tab (i := 541) (by decide +kernel) rfl
theorem mw_542 : Cond.code ⟨"StepMachines$Program", "layOut", "(I)V"⟩ prog_6_method_3_code 3 none ∈ TB := TB_tab (i := 542) (by decide +kernel) rfl
theorem mw_543 : Cond.methodLink "StepMachines$Program" 32 ⟨"java/lang/Math", "min", "(II)I"⟩ ∈ TB := TB_tab (i := 543) (by decide +kernel) rfl
theorem mw_544 : Cond.static ⟨"java/lang/Math", "min", "(II)I"⟩ ∈ TB := TB_tab (i := 544) (by decide +kernel) rfl
theorem mw_545 : Cond.code ⟨"java/lang/Math", "min", "(II)I"⟩ prog_18_method_69_code 2 (some .int) ∈ TB := TB_tab (i := 545) (by decide +kernel) rfl
theorem mw_546 : Cond.methodLink "StepMachines$Program" 38 ⟨"java/lang/Math", "max", "(II)I"⟩ ∈ TB := TB_tab (i := 546) (by decide +kernel) rfl
theorem mw_547 : Cond.methodLink "StepMachines$Program" 41 ⟨"StepMachines$Program", "change", "(IIIII)V"⟩ ∈ TB := TB_tab (i := 547) (by decide +kernel) rfl
theorem mw_548 : Cond.instanceMethod ⟨"StepMachines$Program", "change", "(IIIII)V"⟩ ∈ TB := TB_tab (i := 548) (by decide +kernel) rfl
theorem mw_549 : Cond.selects "StepMachines$Program" ⟨"StepMachines$Program", "change", "(IIIII)V"⟩ ⟨"StepMachines$Program", "change", "(IIIII)V"⟩ ∈ TB := TB_tab (i := 549) (by decide +kernel) rfl
theorem mw_550 : Cond.code ⟨"StepMachines$Program", "change", "(IIIII)V"⟩ prog_6_method_4_code 6 none ∈ TB := TB_tab (i := 550) (by decide +kernel) rfl
theorem mw_551 : Cond.methodLink "StepMachines" 83 ⟨"StepMachines", "forgetWhatWasMade", "()V"⟩ ∈ TB := TB_tab (i := 551) (by decide +kernel) rfl
theorem mw_553 : Cond.instanceMethod ⟨"StepMachines", "forgetWhatWasMade", "()V"⟩ ∈ TB := TB_tab (i := 553) (by decide +kernel) rfl
theorem mw_554 : Cond.code ⟨"StepMachines", "forgetWhatWasMade", "()V"⟩ prog_1_method_15_code 1 none ∈ TB := TB_tab (i := 554) (by decide +kernel) rfl
theorem mw_555 : Cond.methodLink "StepMachines" 169 ⟨"StepMachines$Table", "forget", "()V"⟩ ∈ TB := TB_tab (i := 555) (by decide +kernel) rfl
theorem mw_556 : Cond.instanceMethod ⟨"StepMachines$Table", "forget", "()V"⟩ ∈ TB := TB_tab (i := 556) (by decide +kernel) rfl
theorem mw_557 : Cond.selects "StepMachines$Table" ⟨"StepMachines$Table", "forget", "()V"⟩ ⟨"StepMachines$Table", "forget", "()V"⟩ ∈ TB := TB_tab (i := 557) (by decide +kernel) rfl
theorem mw_558 : Cond.code ⟨"StepMachines$Table", "forget", "()V"⟩ prog_10_method_2_code 1 none ∈ TB := TB_tab (i := 558) (by decide +kernel) rfl
theorem mw_559 : Cond.methodLink "StepMachines" 172 ⟨"StepMachines$States", "forget", "()V"⟩ ∈ TB := TB_tab (i := 559) (by decide +kernel) rfl
theorem mw_560 : Cond.instanceMethod ⟨"StepMachines$States", "forget", "()V"⟩ ∈ TB := TB_tab (i := 560) (by decide +kernel) rfl
theorem mw_561 : Cond.selects "StepMachines$States" ⟨"StepMachines$States", "forget", "()V"⟩ ⟨"StepMachines$States", "forget", "()V"⟩ ∈ TB := TB_tab (i := 561) (by decide +kernel) rfl
theorem mw_562 : Cond.code ⟨"StepMachines$States", "forget", "()V"⟩ prog_8_method_3_code 1 none ∈ TB := TB_tab (i := 562) (by decide +kernel) rfl
theorem mw_563 : Cond.methodLink "StepMachines$States" 56 ⟨"StepMachines$Kept", "forget", "()V"⟩ ∈ TB := TB_tab (i := 563) (by decide +kernel) rfl
theorem mw_564 : Cond.instanceMethod ⟨"StepMachines$Kept", "forget", "()V"⟩ ∈ TB := TB_tab (i := 564) (by decide +kernel) rfl
theorem mw_565 : Cond.selects "StepMachines$Kept" ⟨"StepMachines$Kept", "forget", "()V"⟩ ⟨"StepMachines$Kept", "forget", "()V"⟩ ∈ TB := TB_tab (i := 565) (by decide +kernel) rfl
theorem mw_566 : Cond.code ⟨"StepMachines$Kept", "forget", "()V"⟩ prog_3_method_3_code 1 none ∈ TB := TB_tab (i := 566) (by decide +kernel) rfl
theorem mw_567 : Cond.methodLink "StepMachinesLaw" 49 ⟨"StepMachinesLaw", "step", "(LStepMachines;IIIII)I"⟩ ∈ TB := TB_tab (i := 567) (by decide +kernel) rfl
theorem mw_568 : Cond.static ⟨"StepMachinesLaw", "step", "(LStepMachines;IIIII)I"⟩ ∈ TB := TB_tab (i := 568) (by decide +kernel) rfl
theorem mw_570 : Cond.classLink "StepMachinesLaw" 19 "java/lang/IndexOutOfBoundsException" ∈ TB := TB_tab (i := 570) (by decide +kernel) rfl
theorem mw_571 : Cond.methodLink "StepMachinesLaw" 15 ⟨"StepMachines", "step", "(IIIII)V"⟩ ∈ TB := TB_tab (i := 571) (by decide +kernel) rfl
theorem mw_572 : Cond.instanceMethod ⟨"StepMachines", "step", "(IIIII)V"⟩ ∈ TB := TB_tab (i := 572) (by decide +kernel) rfl
theorem mw_573 : Cond.selects "StepMachines" ⟨"StepMachines", "step", "(IIIII)V"⟩ ⟨"StepMachines", "step", "(IIIII)V"⟩ ∈ TB := TB_tab (i := 573) (by decide +kernel) rfl
theorem mw_574 : Cond.code ⟨"StepMachines", "step", "(IIIII)V"⟩ prog_1_method_3_code 6 none ∈ TB := TB_tab (i := 574) (by decide +kernel) rfl
theorem mw_575 : Cond.methodLink "StepMachines" 86 ⟨"StepMachines$Program", "has", "(I)Z"⟩ ∈ TB := TB_tab (i := 575) (by decide +kernel) rfl
theorem mw_576 : Cond.classLink "StepMachines" 90 "java/lang/IndexOutOfBoundsException" ∈ TB := TB_tab (i := 576) (by decide +kernel) rfl
theorem mw_577 : Cond.instantiable "java/lang/IndexOutOfBoundsException" 6 ∈ TB := TB_tab (i := 577) (by decide +kernel) rfl
theorem mw_579 : Cond.selects "java/lang/IndexOutOfBoundsException" ⟨"java/lang/Throwable", "fillInStackTrace", "(I)Ljava/lang/Throwable;"⟩ ⟨"java/lang/Throwable", "fillInStackTrace", "(I)Ljava/lang/Throwable;"⟩ ∈ TB := TB_tab (i := 579) (by decide +kernel) rfl
theorem mw_586 : Cond.methodLink "StepMachines" 94 ⟨"java/lang/IndexOutOfBoundsException", "<init>", "(Ljava/lang/String;)V"⟩ ∈ TB := TB_tab (i := 586) (by decide +kernel) rfl
theorem mw_587 : Cond.instanceMethod ⟨"java/lang/IndexOutOfBoundsException", "<init>", "(Ljava/lang/String;)V"⟩ ∈ TB := TB_tab (i := 587) (by decide +kernel) rfl
theorem mw_588 : Cond.code ⟨"java/lang/IndexOutOfBoundsException", "<init>", "(Ljava/lang/String;)V"⟩ prog_17_method_2_code 2 none ∈ TB := TB_tab (i := 588) (by decide +kernel) rfl
theorem mw_589 : Cond.methodLink "java/lang/IndexOutOfBoundsException" 7 ⟨"java/lang/RuntimeException", "<init>", "(Ljava/lang/String;)V"⟩ ∈ TB := TB_tab (i := 589) (by decide +kernel) rfl
theorem mw_595 : Cond.methodLink "StepMachines" 101 ⟨"StepMachines$Program", "isValue", "(II)Z"⟩ ∈ TB := TB_tab (i := 595) (by decide +kernel) rfl
theorem mw_596 : Cond.static ⟨"StepMachines$Program", "isValue", "(II)Z"⟩ ∈ TB := TB_tab (i := 596) (by decide +kernel) rfl
theorem mw_597 : Cond.code ⟨"StepMachines$Program", "isValue", "(II)Z"⟩ prog_6_method_2_code 2 (some .boolean) ∈ TB := TB_tab (i := 597) (by decide +kernel) rfl
theorem mw_598 : Cond.constant "StepMachines$Program" 31 (65536 : Int32) ∈ TB := TB_tab (i := 598) (by decide +kernel) rfl
theorem mw_600 : Cond.methodLink "StepMachines" 107 ⟨"StepMachines$Program", "change", "(IIIII)V"⟩ ∈ TB := TB_tab (i := 600) (by decide +kernel) rfl
theorem mw_601 : Cond.methodLink "StepMachinesLaw" 53 ⟨"StepMachinesLaw", "begin", "(LStepMachines;I)I"⟩ ∈ TB := TB_tab (i := 601) (by decide +kernel) rfl
theorem mw_602 : Cond.static ⟨"StepMachinesLaw", "begin", "(LStepMachines;I)I"⟩ ∈ TB := TB_tab (i := 602) (by decide +kernel) rfl
theorem mw_604 : Cond.methodLink "StepMachinesLaw" 21 ⟨"StepMachines", "begin", "(I)V"⟩ ∈ TB := TB_tab (i := 604) (by decide +kernel) rfl
theorem mw_605 : Cond.instanceMethod ⟨"StepMachines", "begin", "(I)V"⟩ ∈ TB := TB_tab (i := 605) (by decide +kernel) rfl
theorem mw_606 : Cond.selects "StepMachines" ⟨"StepMachines", "begin", "(I)V"⟩ ⟨"StepMachines", "begin", "(I)V"⟩ ∈ TB := TB_tab (i := 606) (by decide +kernel) rfl
theorem mw_607 : Cond.code ⟨"StepMachines", "begin", "(I)V"⟩ prog_1_method_4_code 2 none ∈ TB := TB_tab (i := 607) (by decide +kernel) rfl
theorem mw_609 : Cond.methodLink "StepMachines" 113 ⟨"StepMachines$Program", "beginWith", "(I)V"⟩ ∈ TB := TB_tab (i := 609) (by decide +kernel) rfl
theorem mw_610 : Cond.instanceMethod ⟨"StepMachines$Program", "beginWith", "(I)V"⟩ ∈ TB := TB_tab (i := 610) (by decide +kernel) rfl
theorem mw_611 : Cond.selects "StepMachines$Program" ⟨"StepMachines$Program", "beginWith", "(I)V"⟩ ⟨"StepMachines$Program", "beginWith", "(I)V"⟩ ∈ TB := TB_tab (i := 611) (by decide +kernel) rfl
theorem mw_612 : Cond.code ⟨"StepMachines$Program", "beginWith", "(I)V"⟩ prog_6_method_5_code 2 none ∈ TB := TB_tab (i := 612) (by decide +kernel) rfl
theorem mw_613 : Cond.methodLink "StepMachinesLaw" 67 ⟨"StepMachinesLaw", "match", "(LStepMachines;IZII[J)I"⟩ ∈ TB := TB_tab (i := 613) (by decide +kernel) rfl
theorem mw_614 : Cond.static ⟨"StepMachinesLaw", "match", "(LStepMachines;IZII[J)I"⟩ ∈ TB := TB_tab (i := 614) (by decide +kernel) rfl
theorem mw_616 : Cond.methodLink "StepMachinesLaw" 24 ⟨"StepMachines", "match", "(IZII)I"⟩ ∈ TB := TB_tab (i := 616) (by decide +kernel) rfl
theorem mw_617 : Cond.instanceMethod ⟨"StepMachines", "match", "(IZII)I"⟩ ∈ TB := TB_tab (i := 617) (by decide +kernel) rfl
theorem mw_618 : Cond.selects "StepMachines" ⟨"StepMachines", "match", "(IZII)I"⟩ ⟨"StepMachines", "match", "(IZII)I"⟩ ∈ TB := TB_tab (i := 618) (by decide +kernel) rfl
theorem mw_619 : Cond.code ⟨"StepMachines", "match", "(IZII)I"⟩ prog_1_method_7_code 5 (some .int) ∈ TB := TB_tab (i := 619) (by decide +kernel) rfl
theorem mw_621 : Cond.methodLink "StepMachines" 128 ⟨"StepMachines", "isQuestion", "(II)Z"⟩ ∈ TB := TB_tab (i := 621) (by decide +kernel) rfl
theorem mw_623 : Cond.instanceMethod ⟨"StepMachines", "isQuestion", "(II)Z"⟩ ∈ TB := TB_tab (i := 623) (by decide +kernel) rfl
theorem mw_624 : Cond.code ⟨"StepMachines", "isQuestion", "(II)Z"⟩ prog_1_method_13_code 3 (some .boolean) ∈ TB := TB_tab (i := 624) (by decide +kernel) rfl
theorem mw_626 : Cond.methodLink "StepMachines" 133 ⟨"StepMachines$Tally", "open", "()V"⟩ ∈ TB := TB_tab (i := 626) (by decide +kernel) rfl
theorem mw_627 : Cond.instanceMethod ⟨"StepMachines$Tally", "open", "()V"⟩ ∈ TB := TB_tab (i := 627) (by decide +kernel) rfl
theorem mw_628 : Cond.selects "StepMachines$Tally" ⟨"StepMachines$Tally", "open", "()V"⟩ ⟨"StepMachines$Tally", "open", "()V"⟩ ∈ TB := TB_tab (i := 628) (by decide +kernel) rfl
theorem mw_629 : Cond.code ⟨"StepMachines$Tally", "open", "()V"⟩ prog_11_method_2_code 1 none ∈ TB := TB_tab (i := 629) (by decide +kernel) rfl
theorem mw_630 : Cond.methodLink "StepMachines" 136 ⟨"StepMachines$Marks", "run", "(IZI)V"⟩ ∈ TB := TB_tab (i := 630) (by decide +kernel) rfl
theorem mw_631 : Cond.instanceMethod ⟨"StepMachines$Marks", "run", "(IZI)V"⟩ ∈ TB := TB_tab (i := 631) (by decide +kernel) rfl
theorem mw_632 : Cond.selects "StepMachines$Marks" ⟨"StepMachines$Marks", "run", "(IZI)V"⟩ ⟨"StepMachines$Marks", "run", "(IZI)V"⟩ ∈ TB := TB_tab (i := 632) (by decide +kernel) rfl
theorem mw_633 : Cond.code ⟨"StepMachines$Marks", "run", "(IZI)V"⟩ prog_4_method_2_code 6 none ∈ TB := TB_tab (i := 633) (by decide +kernel) rfl
theorem mw_634 : Cond.methodLink "StepMachines$Marks" 43 ⟨"StepMachines$Marks", "wipe", "()V"⟩ ∈ TB := TB_tab (i := 634) (by decide +kernel) rfl
theorem mw_636 : Cond.instanceMethod ⟨"StepMachines$Marks", "wipe", "()V"⟩ ∈ TB := TB_tab (i := 636) (by decide +kernel) rfl
theorem mw_637 : Cond.code ⟨"StepMachines$Marks", "wipe", "()V"⟩ prog_4_method_3_code 3 none ∈ TB := TB_tab (i := 637) (by decide +kernel) rfl
theorem mw_638 : Cond.methodLink "StepMachines$Marks" 62 ⟨"StepMachines$Program", "size", "()I"⟩ ∈ TB := TB_tab (i := 638) (by decide +kernel) rfl
theorem mw_639 : Cond.instanceMethod ⟨"StepMachines$Program", "size", "()I"⟩ ∈ TB := TB_tab (i := 639) (by decide +kernel) rfl
theorem mw_640 : Cond.selects "StepMachines$Program" ⟨"StepMachines$Program", "size", "()I"⟩ ⟨"StepMachines$Program", "size", "()I"⟩ ∈ TB := TB_tab (i := 640) (by decide +kernel) rfl
theorem mw_641 : Cond.code ⟨"StepMachines$Program", "size", "()I"⟩ prog_6_method_7_code 1 (some .int) ∈ TB := TB_tab (i := 641) (by decide +kernel) rfl
theorem mw_642 : Cond.methodLink "StepMachines$Marks" 46 ⟨"StepMachines$Subject", "length", "()I"⟩ ∈ TB := TB_tab (i := 642) (by decide +kernel) rfl
theorem mw_643 : Cond.methodLink "StepMachines$Marks" 52 ⟨"java/lang/Math", "min", "(II)I"⟩ ∈ TB := TB_tab (i := 643) (by decide +kernel) rfl
theorem mw_644 : Cond.methodLink "StepMachines$Marks" 58 ⟨"StepMachines$Marks", "tryFrom", "(IIZ)V"⟩ ∈ TB := TB_tab (i := 644) (by decide +kernel) rfl
theorem mw_646 : Cond.instanceMethod ⟨"StepMachines$Marks", "tryFrom", "(IIZ)V"⟩ ∈ TB := TB_tab (i := 646) (by decide +kernel) rfl
theorem mw_647 : Cond.code ⟨"StepMachines$Marks", "tryFrom", "(IIZ)V"⟩ prog_4_method_4_code 6 none ∈ TB := TB_tab (i := 647) (by decide +kernel) rfl
theorem mw_648 : Cond.methodLink "StepMachines$Marks" 67 ⟨"java/util/Arrays", "fill", "([II)V"⟩ ∈ TB := TB_tab (i := 648) (by decide +kernel) rfl
theorem mw_649 : Cond.methodLink "StepMachines$Marks" 73 ⟨"StepMachines$Jobs", "drop", "()V"⟩ ∈ TB := TB_tab (i := 649) (by decide +kernel) rfl
theorem mw_650 : Cond.methodLink "StepMachines$Marks" 76 ⟨"StepMachines$Program", "beginning", "()I"⟩ ∈ TB := TB_tab (i := 650) (by decide +kernel) rfl
theorem mw_651 : Cond.methodLink "StepMachines$Marks" 79 ⟨"StepMachines$Jobs", "stepAt", "(II)I"⟩ ∈ TB := TB_tab (i := 651) (by decide +kernel) rfl
theorem mw_652 : Cond.static ⟨"StepMachines$Jobs", "stepAt", "(II)I"⟩ ∈ TB := TB_tab (i := 652) (by decide +kernel) rfl
theorem mw_653 : Cond.code ⟨"StepMachines$Jobs", "stepAt", "(II)I"⟩ prog_2_method_2_code 2 (some .int) ∈ TB := TB_tab (i := 653) (by decide +kernel) rfl
theorem mw_654 : Cond.methodLink "StepMachines$Marks" 82 ⟨"StepMachines$Jobs", "add", "(I)V"⟩ ∈ TB := TB_tab (i := 654) (by decide +kernel) rfl
theorem mw_655 : Cond.constant "StepMachines$Marks" 85 (1000000 : Int32) ∈ TB := TB_tab (i := 655) (by decide +kernel) rfl
theorem mw_656 : Cond.methodLink "StepMachines$Marks" 86 ⟨"StepMachines$Jobs", "isEmpty", "()Z"⟩ ∈ TB := TB_tab (i := 656) (by decide +kernel) rfl
theorem mw_657 : Cond.methodLink "StepMachines$Marks" 90 ⟨"StepMachines$Jobs", "take", "()I"⟩ ∈ TB := TB_tab (i := 657) (by decide +kernel) rfl
theorem mw_658 : Cond.methodLink "StepMachines$Marks" 93 ⟨"StepMachines$Jobs", "isPutBack", "(I)Z"⟩ ∈ TB := TB_tab (i := 658) (by decide +kernel) rfl
theorem mw_659 : Cond.static ⟨"StepMachines$Jobs", "isPutBack", "(I)Z"⟩ ∈ TB := TB_tab (i := 659) (by decide +kernel) rfl
theorem mw_660 : Cond.code ⟨"StepMachines$Jobs", "isPutBack", "(I)Z"⟩ prog_2_method_6_code 1 (some .boolean) ∈ TB := TB_tab (i := 660) (by decide +kernel) rfl
theorem mw_661 : Cond.constant "StepMachines$Jobs" 19 (51456 : Int32) ∈ TB := TB_tab (i := 661) (by decide +kernel) rfl
theorem mw_662 : Cond.methodLink "StepMachines$Marks" 97 ⟨"StepMachines$Jobs", "putBack", "(I[I)V"⟩ ∈ TB := TB_tab (i := 662) (by decide +kernel) rfl
theorem mw_663 : Cond.static ⟨"StepMachines$Jobs", "putBack", "(I[I)V"⟩ ∈ TB := TB_tab (i := 663) (by decide +kernel) rfl
theorem mw_664 : Cond.code ⟨"StepMachines$Jobs", "putBack", "(I[I)V"⟩ prog_2_method_7_code 3 none ∈ TB := TB_tab (i := 664) (by decide +kernel) rfl
theorem mw_665 : Cond.methodLink "StepMachines$Marks" 101 ⟨"StepMachines$Jobs", "stepOf", "(I)I"⟩ ∈ TB := TB_tab (i := 665) (by decide +kernel) rfl
theorem mw_666 : Cond.static ⟨"StepMachines$Jobs", "stepOf", "(I)I"⟩ ∈ TB := TB_tab (i := 666) (by decide +kernel) rfl
theorem mw_667 : Cond.code ⟨"StepMachines$Jobs", "stepOf", "(I)I"⟩ prog_2_method_3_code 1 (some .int) ∈ TB := TB_tab (i := 667) (by decide +kernel) rfl
theorem mw_668 : Cond.methodLink "StepMachines$Marks" 105 ⟨"StepMachines$Jobs", "placeOf", "(I)I"⟩ ∈ TB := TB_tab (i := 668) (by decide +kernel) rfl
theorem mw_669 : Cond.static ⟨"StepMachines$Jobs", "placeOf", "(I)I"⟩ ∈ TB := TB_tab (i := 669) (by decide +kernel) rfl
theorem mw_670 : Cond.code ⟨"StepMachines$Jobs", "placeOf", "(I)I"⟩ prog_2_method_4_code 1 (some .int) ∈ TB := TB_tab (i := 670) (by decide +kernel) rfl
theorem mw_671 : Cond.methodLink "StepMachines$Marks" 108 ⟨"StepMachines$Marks", "visit", "(III)V"⟩ ∈ TB := TB_tab (i := 671) (by decide +kernel) rfl
theorem mw_673 : Cond.instanceMethod ⟨"StepMachines$Marks", "visit", "(III)V"⟩ ∈ TB := TB_tab (i := 673) (by decide +kernel) rfl
theorem mw_674 : Cond.code ⟨"StepMachines$Marks", "visit", "(III)V"⟩ prog_4_method_6_code 5 none ∈ TB := TB_tab (i := 674) (by decide +kernel) rfl
theorem mw_675 : Cond.methodLink "StepMachines$Marks" 112 ⟨"StepMachines$Tally", "count", "()V"⟩ ∈ TB := TB_tab (i := 675) (by decide +kernel) rfl
theorem mw_676 : Cond.methodLink "StepMachines$Marks" 117 ⟨"StepMachines$Marks", "isNew", "(II)Z"⟩ ∈ TB := TB_tab (i := 676) (by decide +kernel) rfl
theorem mw_678 : Cond.instanceMethod ⟨"StepMachines$Marks", "isNew", "(II)Z"⟩ ∈ TB := TB_tab (i := 678) (by decide +kernel) rfl
theorem mw_679 : Cond.code ⟨"StepMachines$Marks", "isNew", "(II)Z"⟩ prog_4_method_5_code 6 (some .boolean) ∈ TB := TB_tab (i := 679) (by decide +kernel) rfl
theorem mw_680 : Cond.methodLink "StepMachines$Marks" 121 ⟨"StepMachines$Program", "valueOf", "(I)I"⟩ ∈ TB := TB_tab (i := 680) (by decide +kernel) rfl
theorem mw_681 : Cond.methodLink "StepMachines$Marks" 124 ⟨"StepMachines$Program", "kindOf", "(I)I"⟩ ∈ TB := TB_tab (i := 681) (by decide +kernel) rfl
theorem mw_682 : Cond.methodLink "StepMachines$Marks" 127 ⟨"StepMachines$Marks", "end", "(II)V"⟩ ∈ TB := TB_tab (i := 682) (by decide +kernel) rfl
theorem mw_684 : Cond.instanceMethod ⟨"StepMachines$Marks", "end", "(II)V"⟩ ∈ TB := TB_tab (i := 684) (by decide +kernel) rfl
theorem mw_685 : Cond.code ⟨"StepMachines$Marks", "end", "(II)V"⟩ prog_4_method_7_code 3 none ∈ TB := TB_tab (i := 685) (by decide +kernel) rfl
theorem mw_686 : Cond.methodLink "StepMachines$Marks" 150 ⟨"StepMachines$Subject", "mayEnd", "(II)Z"⟩ ∈ TB := TB_tab (i := 686) (by decide +kernel) rfl
theorem mw_687 : Cond.instanceMethod ⟨"StepMachines$Subject", "mayEnd", "(II)Z"⟩ ∈ TB := TB_tab (i := 687) (by decide +kernel) rfl
theorem mw_688 : Cond.selects "StepMachines$Subject" ⟨"StepMachines$Subject", "mayEnd", "(II)Z"⟩ ⟨"StepMachines$Subject", "mayEnd", "(II)Z"⟩ ∈ TB := TB_tab (i := 688) (by decide +kernel) rfl
theorem mw_689 : Cond.code ⟨"StepMachines$Subject", "mayEnd", "(II)Z"⟩ prog_9_method_9_code 3 (some .boolean) ∈ TB := TB_tab (i := 689) (by decide +kernel) rfl
theorem mw_690 : Cond.methodLink "StepMachines$Marks" 153 ⟨"java/lang/System", "arraycopy", "(Ljava/lang/Object;ILjava/lang/Object;II)V"⟩ ∈ TB := TB_tab (i := 690) (by decide +kernel) rfl
theorem mw_691 : Cond.static ⟨"java/lang/System", "arraycopy", "(Ljava/lang/Object;ILjava/lang/Object;II)V"⟩ ∈ TB := TB_tab (i := 691) (by decide +kernel) rfl
theorem mw_692 : Cond.native ⟨"java/lang/System", "arraycopy", "(Ljava/lang/Object;ILjava/lang/Object;II)V"⟩ ∈ TB := TB_tab (i := 692) (by decide +kernel) rfl
theorem mw_693 : Cond.methodLink "StepMachines$Marks" 131 ⟨"StepMachines$Subject", "byteBehind", "(I)I"⟩ ∈ TB := TB_tab (i := 693) (by decide +kernel) rfl
theorem mw_694 : Cond.instanceMethod ⟨"StepMachines$Subject", "byteBehind", "(I)I"⟩ ∈ TB := TB_tab (i := 694) (by decide +kernel) rfl
theorem mw_695 : Cond.selects "StepMachines$Subject" ⟨"StepMachines$Subject", "byteBehind", "(I)I"⟩ ⟨"StepMachines$Subject", "byteBehind", "(I)I"⟩ ∈ TB := TB_tab (i := 695) (by decide +kernel) rfl
theorem mw_696 : Cond.code ⟨"StepMachines$Subject", "byteBehind", "(I)I"⟩ prog_9_method_7_code 2 (some .int) ∈ TB := TB_tab (i := 696) (by decide +kernel) rfl
theorem mw_697 : Cond.methodLink "StepMachines$Marks" 134 ⟨"StepMachines$Program", "takes", "(II)Z"⟩ ∈ TB := TB_tab (i := 697) (by decide +kernel) rfl
theorem mw_698 : Cond.instanceMethod ⟨"StepMachines$Program", "takes", "(II)Z"⟩ ∈ TB := TB_tab (i := 698) (by decide +kernel) rfl
theorem mw_699 : Cond.selects "StepMachines$Program" ⟨"StepMachines$Program", "takes", "(II)Z"⟩ ⟨"StepMachines$Program", "takes", "(II)Z"⟩ ∈ TB := TB_tab (i := 699) (by decide +kernel) rfl
theorem mw_700 : Cond.code ⟨"StepMachines$Program", "takes", "(II)Z"⟩ prog_6_method_13_code 3 (some .boolean) ∈ TB := TB_tab (i := 700) (by decide +kernel) rfl
theorem mw_701 : Cond.methodLink "StepMachines$Marks" 137 ⟨"StepMachines$Program", "firstOf", "(I)I"⟩ ∈ TB := TB_tab (i := 701) (by decide +kernel) rfl
theorem mw_702 : Cond.methodLink "StepMachines$Marks" 140 ⟨"StepMachines$Program", "secondOf", "(I)I"⟩ ∈ TB := TB_tab (i := 702) (by decide +kernel) rfl
theorem mw_703 : Cond.methodLink "StepMachines$Marks" 143 ⟨"StepMachines$Jobs", "save", "(II[I)V"⟩ ∈ TB := TB_tab (i := 703) (by decide +kernel) rfl
theorem mw_704 : Cond.instanceMethod ⟨"StepMachines$Jobs", "save", "(II[I)V"⟩ ∈ TB := TB_tab (i := 704) (by decide +kernel) rfl
theorem mw_705 : Cond.selects "StepMachines$Jobs" ⟨"StepMachines$Jobs", "save", "(II[I)V"⟩ ⟨"StepMachines$Jobs", "save", "(II[I)V"⟩ ∈ TB := TB_tab (i := 705) (by decide +kernel) rfl
theorem mw_706 : Cond.code ⟨"StepMachines$Jobs", "save", "(II[I)V"⟩ prog_2_method_8_code 4 none ∈ TB := TB_tab (i := 706) (by decide +kernel) rfl
theorem mw_707 : Cond.methodLink "StepMachines$Jobs" 20 ⟨"StepMachines$Jobs", "putBackOf", "(II)I"⟩ ∈ TB := TB_tab (i := 707) (by decide +kernel) rfl
theorem mw_708 : Cond.static ⟨"StepMachines$Jobs", "putBackOf", "(II)I"⟩ ∈ TB := TB_tab (i := 708) (by decide +kernel) rfl
theorem mw_709 : Cond.code ⟨"StepMachines$Jobs", "putBackOf", "(II)I"⟩ prog_2_method_5_code 2 (some .int) ∈ TB := TB_tab (i := 709) (by decide +kernel) rfl
theorem mw_710 : Cond.methodLink "StepMachines$Jobs" 24 ⟨"StepMachines$Jobs", "add", "(I)V"⟩ ∈ TB := TB_tab (i := 710) (by decide +kernel) rfl
theorem mw_711 : Cond.methodLink "StepMachines$Marks" 147 ⟨"StepMachines$Subject", "whatIsSoAt", "(I)I"⟩ ∈ TB := TB_tab (i := 711) (by decide +kernel) rfl
theorem mw_712 : Cond.instanceMethod ⟨"StepMachines$Subject", "whatIsSoAt", "(I)I"⟩ ∈ TB := TB_tab (i := 712) (by decide +kernel) rfl
theorem mw_713 : Cond.selects "StepMachines$Subject" ⟨"StepMachines$Subject", "whatIsSoAt", "(I)I"⟩ ⟨"StepMachines$Subject", "whatIsSoAt", "(I)I"⟩ ∈ TB := TB_tab (i := 713) (by decide +kernel) rfl
theorem mw_714 : Cond.code ⟨"StepMachines$Subject", "whatIsSoAt", "(I)I"⟩ prog_9_method_8_code 2 (some .int) ∈ TB := TB_tab (i := 714) (by decide +kernel) rfl
theorem mw_715 : Cond.methodLink "StepMachines$Subject" 23 ⟨"StepMachines$Subject", "byteBehind", "(I)I"⟩ ∈ TB := TB_tab (i := 715) (by decide +kernel) rfl
theorem mw_716 : Cond.methodLink "StepMachines$Subject" 27 ⟨"StepMachines$Subject", "whatIsSo", "(II)I"⟩ ∈ TB := TB_tab (i := 716) (by decide +kernel) rfl
theorem mw_717 : Cond.static ⟨"StepMachines$Subject", "whatIsSo", "(II)I"⟩ ∈ TB := TB_tab (i := 717) (by decide +kernel) rfl
theorem mw_718 : Cond.code ⟨"StepMachines$Subject", "whatIsSo", "(II)I"⟩ prog_9_method_2_code 3 (some .int) ∈ TB := TB_tab (i := 718) (by decide +kernel) rfl
theorem mw_719 : Cond.methodLink "StepMachines$Subject" 19 ⟨"StepMachines$Subject", "isWord", "(I)Z"⟩ ∈ TB := TB_tab (i := 719) (by decide +kernel) rfl
theorem mw_720 : Cond.static ⟨"StepMachines$Subject", "isWord", "(I)Z"⟩ ∈ TB := TB_tab (i := 720) (by decide +kernel) rfl
theorem mw_721 : Cond.code ⟨"StepMachines$Subject", "isWord", "(I)Z"⟩ prog_9_method_3_code 1 (some .boolean) ∈ TB := TB_tab (i := 721) (by decide +kernel) rfl
theorem mw_722 : Cond.methodLink "StepMachines" 144 ⟨"StepMachines$Table", "run", "(IZI)V"⟩ ∈ TB := TB_tab (i := 722) (by decide +kernel) rfl
theorem mw_723 : Cond.instanceMethod ⟨"StepMachines$Table", "run", "(IZI)V"⟩ ∈ TB := TB_tab (i := 723) (by decide +kernel) rfl
theorem mw_724 : Cond.selects "StepMachines$Table" ⟨"StepMachines$Table", "run", "(IZI)V"⟩ ⟨"StepMachines$Table", "run", "(IZI)V"⟩ ∈ TB := TB_tab (i := 724) (by decide +kernel) rfl
theorem mw_725 : Cond.code ⟨"StepMachines$Table", "run", "(IZI)V"⟩ prog_10_method_10_code 10 none ∈ TB := TB_tab (i := 725) (by decide +kernel) rfl
theorem mw_726 : Cond.methodLink "StepMachines$Table" 152 ⟨"StepMachines$Subject", "length", "()I"⟩ ∈ TB := TB_tab (i := 726) (by decide +kernel) rfl
theorem mw_727 : Cond.methodLink "StepMachines$Table" 157 ⟨"StepMachines$Table", "endHere", "(III)Z"⟩ ∈ TB := TB_tab (i := 727) (by decide +kernel) rfl
theorem mw_729 : Cond.instanceMethod ⟨"StepMachines$Table", "endHere", "(III)Z"⟩ ∈ TB := TB_tab (i := 729) (by decide +kernel) rfl
theorem mw_730 : Cond.code ⟨"StepMachines$Table", "endHere", "(III)Z"⟩ prog_10_method_11_code 5 (some .boolean) ∈ TB := TB_tab (i := 730) (by decide +kernel) rfl
theorem mw_731 : Cond.methodLink "StepMachines$Table" 171 ⟨"StepMachines$Subject", "mayEnd", "(II)Z"⟩ ∈ TB := TB_tab (i := 731) (by decide +kernel) rfl
theorem mw_732 : Cond.methodLink "StepMachines$Table" 163 ⟨"StepMachines$Table", "allHold", "(II)Z"⟩ ∈ TB := TB_tab (i := 732) (by decide +kernel) rfl
theorem mw_734 : Cond.instanceMethod ⟨"StepMachines$Table", "allHold", "(II)Z"⟩ ∈ TB := TB_tab (i := 734) (by decide +kernel) rfl
theorem mw_735 : Cond.code ⟨"StepMachines$Table", "allHold", "(II)Z"⟩ prog_10_method_12_code 4 (some .boolean) ∈ TB := TB_tab (i := 735) (by decide +kernel) rfl
theorem mw_736 : Cond.methodLink "StepMachines$Table" 180 ⟨"StepMachines$Subject", "whatIsSoAt", "(I)I"⟩ ∈ TB := TB_tab (i := 736) (by decide +kernel) rfl
theorem mw_737 : Cond.methodLink "StepMachines$Table" 174 ⟨"java/lang/System", "arraycopy", "(Ljava/lang/Object;ILjava/lang/Object;II)V"⟩ ∈ TB := TB_tab (i := 737) (by decide +kernel) rfl
theorem mw_738 : Cond.methodLink "StepMachines$Table" 167 ⟨"StepMachines$Table", "save", "(II[I)V"⟩ ∈ TB := TB_tab (i := 738) (by decide +kernel) rfl
theorem mw_739 : Cond.static ⟨"StepMachines$Table", "save", "(II[I)V"⟩ ∈ TB := TB_tab (i := 739) (by decide +kernel) rfl
theorem mw_740 : Cond.code ⟨"StepMachines$Table", "save", "(II[I)V"⟩ prog_10_method_13_code 4 none ∈ TB := TB_tab (i := 740) (by decide +kernel) rfl
theorem mw_741 : Cond.methodLink "StepMachines$Table" 160 ⟨"StepMachines$Subject", "byteBehind", "(I)I"⟩ ∈ TB := TB_tab (i := 741) (by decide +kernel) rfl
theorem mw_742 : Cond.methodLink "StepMachines" 145 ⟨"StepMachines$Threads", "run", "(IZI)V"⟩ ∈ TB := TB_tab (i := 742) (by decide +kernel) rfl
theorem mw_743 : Cond.instanceMethod ⟨"StepMachines$Threads", "run", "(IZI)V"⟩ ∈ TB := TB_tab (i := 743) (by decide +kernel) rfl
theorem mw_744 : Cond.selects "StepMachines$Threads" ⟨"StepMachines$Threads", "run", "(IZI)V"⟩ ⟨"StepMachines$Threads", "run", "(IZI)V"⟩ ∈ TB := TB_tab (i := 744) (by decide +kernel) rfl
theorem mw_745 : Cond.code ⟨"StepMachines$Threads", "run", "(IZI)V"⟩ prog_12_method_2_code 5 none ∈ TB := TB_tab (i := 745) (by decide +kernel) rfl
theorem mw_746 : Cond.methodLink "StepMachines$Threads" 59 ⟨"StepMachines$Row", "empty", "()V"⟩ ∈ TB := TB_tab (i := 746) (by decide +kernel) rfl
theorem mw_747 : Cond.methodLink "StepMachines$Threads" 62 ⟨"StepMachines$Subject", "length", "()I"⟩ ∈ TB := TB_tab (i := 747) (by decide +kernel) rfl
theorem mw_748 : Cond.methodLink "StepMachines$Threads" 68 ⟨"StepMachines$Threads", "beginThread", "(I)V"⟩ ∈ TB := TB_tab (i := 748) (by decide +kernel) rfl
theorem mw_750 : Cond.instanceMethod ⟨"StepMachines$Threads", "beginThread", "(I)V"⟩ ∈ TB := TB_tab (i := 750) (by decide +kernel) rfl
theorem mw_751 : Cond.code ⟨"StepMachines$Threads", "beginThread", "(I)V"⟩ prog_12_method_3_code 2 none ∈ TB := TB_tab (i := 751) (by decide +kernel) rfl
theorem mw_752 : Cond.methodLink "StepMachines$Threads" 78 ⟨"java/util/Arrays", "fill", "([II)V"⟩ ∈ TB := TB_tab (i := 752) (by decide +kernel) rfl
theorem mw_753 : Cond.methodLink "StepMachines$Threads" 84 ⟨"StepMachines$Subject", "whatIsSoAt", "(I)I"⟩ ∈ TB := TB_tab (i := 753) (by decide +kernel) rfl
theorem mw_754 : Cond.methodLink "StepMachines$Threads" 88 ⟨"StepMachines$Program", "beginning", "()I"⟩ ∈ TB := TB_tab (i := 754) (by decide +kernel) rfl
theorem mw_755 : Cond.methodLink "StepMachines$Threads" 93 ⟨"StepMachines$Threads", "comeTo", "(IILStepMachines$Row;[I)V"⟩ ∈ TB := TB_tab (i := 755) (by decide +kernel) rfl
theorem mw_757 : Cond.instanceMethod ⟨"StepMachines$Threads", "comeTo", "(IILStepMachines$Row;[I)V"⟩ ∈ TB := TB_tab (i := 757) (by decide +kernel) rfl
theorem mw_758 : Cond.code ⟨"StepMachines$Threads", "comeTo", "(IILStepMachines$Row;[I)V"⟩ prog_12_method_9_code 7 none ∈ TB := TB_tab (i := 758) (by decide +kernel) rfl
theorem mw_759 : Cond.methodLink "StepMachines$Threads" 133 ⟨"StepMachines$Jobs", "drop", "()V"⟩ ∈ TB := TB_tab (i := 759) (by decide +kernel) rfl
theorem mw_760 : Cond.methodLink "StepMachines$Threads" 136 ⟨"StepMachines$Jobs", "add", "(I)V"⟩ ∈ TB := TB_tab (i := 760) (by decide +kernel) rfl
theorem mw_761 : Cond.constant "StepMachines$Threads" 139 (1000000 : Int32) ∈ TB := TB_tab (i := 761) (by decide +kernel) rfl
theorem mw_762 : Cond.methodLink "StepMachines$Threads" 140 ⟨"StepMachines$Jobs", "isEmpty", "()Z"⟩ ∈ TB := TB_tab (i := 762) (by decide +kernel) rfl
theorem mw_763 : Cond.methodLink "StepMachines$Threads" 144 ⟨"StepMachines$Jobs", "take", "()I"⟩ ∈ TB := TB_tab (i := 763) (by decide +kernel) rfl
theorem mw_764 : Cond.methodLink "StepMachines$Threads" 147 ⟨"StepMachines$Jobs", "isPutBack", "(I)Z"⟩ ∈ TB := TB_tab (i := 764) (by decide +kernel) rfl
theorem mw_765 : Cond.methodLink "StepMachines$Threads" 150 ⟨"StepMachines$Jobs", "putBack", "(I[I)V"⟩ ∈ TB := TB_tab (i := 765) (by decide +kernel) rfl
theorem mw_766 : Cond.methodLink "StepMachines$Threads" 153 ⟨"StepMachines$Threads", "visit", "(IILStepMachines$Row;[I)V"⟩ ∈ TB := TB_tab (i := 766) (by decide +kernel) rfl
theorem mw_768 : Cond.instanceMethod ⟨"StepMachines$Threads", "visit", "(IILStepMachines$Row;[I)V"⟩ ∈ TB := TB_tab (i := 768) (by decide +kernel) rfl
theorem mw_769 : Cond.code ⟨"StepMachines$Threads", "visit", "(IILStepMachines$Row;[I)V"⟩ prog_12_method_10_code 6 none ∈ TB := TB_tab (i := 769) (by decide +kernel) rfl
theorem mw_770 : Cond.methodLink "StepMachines$Threads" 156 ⟨"StepMachines$Tally", "count", "()V"⟩ ∈ TB := TB_tab (i := 770) (by decide +kernel) rfl
theorem mw_771 : Cond.methodLink "StepMachines$Threads" 160 ⟨"StepMachines$Row", "meets", "(I)Z"⟩ ∈ TB := TB_tab (i := 771) (by decide +kernel) rfl
theorem mw_772 : Cond.methodLink "StepMachines$Threads" 163 ⟨"StepMachines$Program", "valueOf", "(I)I"⟩ ∈ TB := TB_tab (i := 772) (by decide +kernel) rfl
theorem mw_773 : Cond.methodLink "StepMachines$Threads" 166 ⟨"StepMachines$Program", "kindOf", "(I)I"⟩ ∈ TB := TB_tab (i := 773) (by decide +kernel) rfl
theorem mw_774 : Cond.methodLink "StepMachines$Threads" 169 ⟨"StepMachines$Row", "add", "(I)V"⟩ ∈ TB := TB_tab (i := 774) (by decide +kernel) rfl
theorem mw_775 : Cond.instanceMethod ⟨"StepMachines$Row", "add", "(I)V"⟩ ∈ TB := TB_tab (i := 775) (by decide +kernel) rfl
theorem mw_776 : Cond.selects "StepMachines$Row" ⟨"StepMachines$Row", "add", "(I)V"⟩ ⟨"StepMachines$Row", "add", "(I)V"⟩ ∈ TB := TB_tab (i := 776) (by decide +kernel) rfl
theorem mw_777 : Cond.code ⟨"StepMachines$Row", "add", "(I)V"⟩ prog_7_method_4_code 2 none ∈ TB := TB_tab (i := 777) (by decide +kernel) rfl
theorem mw_778 : Cond.methodLink "StepMachines$Threads" 170 ⟨"StepMachines$Threads", "writeSaved", "(I[I)V"⟩ ∈ TB := TB_tab (i := 778) (by decide +kernel) rfl
theorem mw_780 : Cond.instanceMethod ⟨"StepMachines$Threads", "writeSaved", "(I[I)V"⟩ ∈ TB := TB_tab (i := 780) (by decide +kernel) rfl
theorem mw_781 : Cond.code ⟨"StepMachines$Threads", "writeSaved", "(I[I)V"⟩ prog_12_method_7_code 3 none ∈ TB := TB_tab (i := 781) (by decide +kernel) rfl
theorem mw_782 : Cond.methodLink "StepMachines$Threads" 123 ⟨"StepMachines$Program", "has", "(I)Z"⟩ ∈ TB := TB_tab (i := 782) (by decide +kernel) rfl
theorem mw_783 : Cond.methodLink "StepMachines$Threads" 127 ⟨"java/lang/System", "arraycopy", "(Ljava/lang/Object;ILjava/lang/Object;II)V"⟩ ∈ TB := TB_tab (i := 783) (by decide +kernel) rfl
theorem mw_784 : Cond.methodLink "StepMachines$Threads" 173 ⟨"StepMachines$Program", "secondOf", "(I)I"⟩ ∈ TB := TB_tab (i := 784) (by decide +kernel) rfl
theorem mw_785 : Cond.methodLink "StepMachines$Threads" 120 ⟨"StepMachines$Program", "firstOf", "(I)I"⟩ ∈ TB := TB_tab (i := 785) (by decide +kernel) rfl
theorem mw_786 : Cond.methodLink "StepMachines$Threads" 176 ⟨"StepMachines$Jobs", "save", "(II[I)V"⟩ ∈ TB := TB_tab (i := 786) (by decide +kernel) rfl
theorem mw_787 : Cond.methodLink "StepMachines$Threads" 71 ⟨"StepMachines$Threads", "goOverByte", "(IZI)V"⟩ ∈ TB := TB_tab (i := 787) (by decide +kernel) rfl
theorem mw_789 : Cond.instanceMethod ⟨"StepMachines$Threads", "goOverByte", "(IZI)V"⟩ ∈ TB := TB_tab (i := 789) (by decide +kernel) rfl
theorem mw_790 : Cond.code ⟨"StepMachines$Threads", "goOverByte", "(IZI)V"⟩ prog_12_method_4_code 7 none ∈ TB := TB_tab (i := 790) (by decide +kernel) rfl
theorem mw_791 : Cond.methodLink "StepMachines$Threads" 97 ⟨"StepMachines$Subject", "byteBehind", "(I)I"⟩ ∈ TB := TB_tab (i := 791) (by decide +kernel) rfl
theorem mw_792 : Cond.methodLink "StepMachines$Threads" 100 ⟨"StepMachines$Row", "count", "()I"⟩ ∈ TB := TB_tab (i := 792) (by decide +kernel) rfl
theorem mw_793 : Cond.instanceMethod ⟨"StepMachines$Row", "count", "()I"⟩ ∈ TB := TB_tab (i := 793) (by decide +kernel) rfl
theorem mw_794 : Cond.selects "StepMachines$Row" ⟨"StepMachines$Row", "count", "()I"⟩ ⟨"StepMachines$Row", "count", "()I"⟩ ∈ TB := TB_tab (i := 794) (by decide +kernel) rfl
theorem mw_795 : Cond.code ⟨"StepMachines$Row", "count", "()I"⟩ prog_7_method_5_code 1 (some .int) ∈ TB := TB_tab (i := 795) (by decide +kernel) rfl
theorem mw_796 : Cond.methodLink "StepMachines$Threads" 103 ⟨"StepMachines$Row", "get", "(I)I"⟩ ∈ TB := TB_tab (i := 796) (by decide +kernel) rfl
theorem mw_797 : Cond.instanceMethod ⟨"StepMachines$Row", "get", "(I)I"⟩ ∈ TB := TB_tab (i := 797) (by decide +kernel) rfl
theorem mw_798 : Cond.selects "StepMachines$Row" ⟨"StepMachines$Row", "get", "(I)I"⟩ ⟨"StepMachines$Row", "get", "(I)I"⟩ ∈ TB := TB_tab (i := 798) (by decide +kernel) rfl
theorem mw_799 : Cond.code ⟨"StepMachines$Row", "get", "(I)I"⟩ prog_7_method_6_code 2 (some .int) ∈ TB := TB_tab (i := 799) (by decide +kernel) rfl
theorem mw_800 : Cond.methodLink "StepMachines$Threads" 106 ⟨"StepMachines$Threads", "beginningOf", "(I)I"⟩ ∈ TB := TB_tab (i := 800) (by decide +kernel) rfl
theorem mw_802 : Cond.instanceMethod ⟨"StepMachines$Threads", "beginningOf", "(I)I"⟩ ∈ TB := TB_tab (i := 802) (by decide +kernel) rfl
theorem mw_803 : Cond.code ⟨"StepMachines$Threads", "beginningOf", "(I)I"⟩ prog_12_method_5_code 2 (some .int) ∈ TB := TB_tab (i := 803) (by decide +kernel) rfl
theorem mw_804 : Cond.methodLink "StepMachines$Threads" 109 ⟨"StepMachines$Subject", "mayEnd", "(II)Z"⟩ ∈ TB := TB_tab (i := 804) (by decide +kernel) rfl
theorem mw_805 : Cond.methodLink "StepMachines$Threads" 113 ⟨"StepMachines$Threads", "readSaved", "(I[I)V"⟩ ∈ TB := TB_tab (i := 805) (by decide +kernel) rfl
theorem mw_807 : Cond.instanceMethod ⟨"StepMachines$Threads", "readSaved", "(I[I)V"⟩ ∈ TB := TB_tab (i := 807) (by decide +kernel) rfl
theorem mw_808 : Cond.code ⟨"StepMachines$Threads", "readSaved", "(I[I)V"⟩ prog_12_method_6_code 3 none ∈ TB := TB_tab (i := 808) (by decide +kernel) rfl
theorem mw_809 : Cond.methodLink "StepMachines$Threads" 117 ⟨"StepMachines$Program", "takes", "(II)Z"⟩ ∈ TB := TB_tab (i := 809) (by decide +kernel) rfl
theorem mw_810 : Cond.methodLink "StepMachines$Threads" 75 ⟨"StepMachines$Threads", "swapRows", "()V"⟩ ∈ TB := TB_tab (i := 810) (by decide +kernel) rfl
theorem mw_812 : Cond.instanceMethod ⟨"StepMachines$Threads", "swapRows", "()V"⟩ ∈ TB := TB_tab (i := 812) (by decide +kernel) rfl
theorem mw_813 : Cond.code ⟨"StepMachines$Threads", "swapRows", "()V"⟩ prog_12_method_8_code 3 none ∈ TB := TB_tab (i := 813) (by decide +kernel) rfl
theorem mw_814 : Cond.methodLink "StepMachines" 146 ⟨"StepMachines", "mostTaken", "()I"⟩ ∈ TB := TB_tab (i := 814) (by decide +kernel) rfl
theorem mw_816 : Cond.instanceMethod ⟨"StepMachines", "mostTaken", "()I"⟩ ∈ TB := TB_tab (i := 816) (by decide +kernel) rfl
theorem mw_817 : Cond.code ⟨"StepMachines", "mostTaken", "()I"⟩ prog_1_method_14_code 1 (some .int) ∈ TB := TB_tab (i := 817) (by decide +kernel) rfl
theorem mw_818 : Cond.methodLink "StepMachines" 166 ⟨"StepMachines$Program", "size", "()I"⟩ ∈ TB := TB_tab (i := 818) (by decide +kernel) rfl
theorem mw_819 : Cond.methodLink "StepMachines" 149 ⟨"StepMachines$Tally", "close", "(I)V"⟩ ∈ TB := TB_tab (i := 819) (by decide +kernel) rfl
theorem mw_820 : Cond.instanceMethod ⟨"StepMachines$Tally", "close", "(I)V"⟩ ∈ TB := TB_tab (i := 820) (by decide +kernel) rfl
theorem mw_821 : Cond.selects "StepMachines$Tally" ⟨"StepMachines$Tally", "close", "(I)V"⟩ ⟨"StepMachines$Tally", "close", "(I)V"⟩ ∈ TB := TB_tab (i := 821) (by decide +kernel) rfl
theorem mw_822 : Cond.code ⟨"StepMachines$Tally", "close", "(I)V"⟩ prog_11_method_4_code 2 none ∈ TB := TB_tab (i := 822) (by decide +kernel) rfl
theorem mw_823 : Cond.methodLink "StepMachinesLaw" 76 ⟨"StepMachinesLaw", "ends", "(LStepMachines;IZI[J)I"⟩ ∈ TB := TB_tab (i := 823) (by decide +kernel) rfl
theorem mw_824 : Cond.static ⟨"StepMachinesLaw", "ends", "(LStepMachines;IZI[J)I"⟩ ∈ TB := TB_tab (i := 824) (by decide +kernel) rfl
theorem mw_826 : Cond.methodLink "StepMachinesLaw" 28 ⟨"StepMachines", "ends", "(IZI)I"⟩ ∈ TB := TB_tab (i := 826) (by decide +kernel) rfl
theorem mw_827 : Cond.instanceMethod ⟨"StepMachines", "ends", "(IZI)I"⟩ ∈ TB := TB_tab (i := 827) (by decide +kernel) rfl
theorem mw_828 : Cond.selects "StepMachines" ⟨"StepMachines", "ends", "(IZI)I"⟩ ⟨"StepMachines", "ends", "(IZI)I"⟩ ∈ TB := TB_tab (i := 828) (by decide +kernel) rfl
theorem mw_829 : Cond.code ⟨"StepMachines", "ends", "(IZI)I"⟩ prog_1_method_9_code 5 (some .int) ∈ TB := TB_tab (i := 829) (by decide +kernel) rfl
theorem mw_831 : Cond.methodLink "StepMachines" 154 ⟨"StepMachines$States", "run", "(IZI)I"⟩ ∈ TB := TB_tab (i := 831) (by decide +kernel) rfl
theorem mw_832 : Cond.instanceMethod ⟨"StepMachines$States", "run", "(IZI)I"⟩ ∈ TB := TB_tab (i := 832) (by decide +kernel) rfl
theorem mw_833 : Cond.selects "StepMachines$States" ⟨"StepMachines$States", "run", "(IZI)I"⟩ ⟨"StepMachines$States", "run", "(IZI)I"⟩ ∈ TB := TB_tab (i := 833) (by decide +kernel) rfl
theorem mw_834 : Cond.code ⟨"StepMachines$States", "run", "(IZI)I"⟩ prog_8_method_4_code 9 (some .int) ∈ TB := TB_tab (i := 834) (by decide +kernel) rfl
theorem mw_835 : Cond.methodLink "StepMachines$States" 59 ⟨"StepMachines$States", "goalOf", "(IZ)I"⟩ ∈ TB := TB_tab (i := 835) (by decide +kernel) rfl
theorem mw_836 : Cond.static ⟨"StepMachines$States", "goalOf", "(IZ)I"⟩ ∈ TB := TB_tab (i := 836) (by decide +kernel) rfl
theorem mw_837 : Cond.code ⟨"StepMachines$States", "goalOf", "(IZ)I"⟩ prog_8_method_5_code 2 (some .int) ∈ TB := TB_tab (i := 837) (by decide +kernel) rfl
theorem mw_838 : Cond.methodLink "StepMachines$States" 63 ⟨"StepMachines$Subject", "byteBehind", "(I)I"⟩ ∈ TB := TB_tab (i := 838) (by decide +kernel) rfl
theorem mw_839 : Cond.methodLink "StepMachines$States" 69 ⟨"StepMachines$States", "firstState", "(II)I"⟩ ∈ TB := TB_tab (i := 839) (by decide +kernel) rfl
theorem mw_841 : Cond.instanceMethod ⟨"StepMachines$States", "firstState", "(II)I"⟩ ∈ TB := TB_tab (i := 841) (by decide +kernel) rfl
theorem mw_842 : Cond.code ⟨"StepMachines$States", "firstState", "(II)I"⟩ prog_8_method_7_code 3 (some .int) ∈ TB := TB_tab (i := 842) (by decide +kernel) rfl
theorem mw_843 : Cond.methodLink "StepMachines$States" 88 ⟨"StepMachines$Row", "empty", "()V"⟩ ∈ TB := TB_tab (i := 843) (by decide +kernel) rfl
theorem mw_844 : Cond.methodLink "StepMachines$States" 91 ⟨"StepMachines$Program", "beginning", "()I"⟩ ∈ TB := TB_tab (i := 844) (by decide +kernel) rfl
theorem mw_845 : Cond.methodLink "StepMachines$States" 96 ⟨"StepMachines$Row", "add", "(I)V"⟩ ∈ TB := TB_tab (i := 845) (by decide +kernel) rfl
theorem mw_846 : Cond.methodLink "StepMachines$States" 99 ⟨"StepMachines$States", "labelOf", "(II)I"⟩ ∈ TB := TB_tab (i := 846) (by decide +kernel) rfl
theorem mw_847 : Cond.static ⟨"StepMachines$States", "labelOf", "(II)I"⟩ ∈ TB := TB_tab (i := 847) (by decide +kernel) rfl
theorem mw_848 : Cond.code ⟨"StepMachines$States", "labelOf", "(II)I"⟩ prog_8_method_6_code 3 (some .int) ∈ TB := TB_tab (i := 848) (by decide +kernel) rfl
theorem mw_849 : Cond.methodLink "StepMachines$States" 80 ⟨"StepMachines$Subject", "isWord", "(I)Z"⟩ ∈ TB := TB_tab (i := 849) (by decide +kernel) rfl
theorem mw_850 : Cond.fieldLink "StepMachines$States" 84 "StepMachines$States" "BEFORE" "[I" ∈ TB := TB_tab (i := 850) (by decide +kernel) rfl
theorem mw_852 : Cond.methodLink "StepMachines$States" 102 ⟨"StepMachines$Kept", "numberOf", "(LStepMachines$Row;I)I"⟩ ∈ TB := TB_tab (i := 852) (by decide +kernel) rfl
theorem mw_853 : Cond.instanceMethod ⟨"StepMachines$Kept", "numberOf", "(LStepMachines$Row;I)I"⟩ ∈ TB := TB_tab (i := 853) (by decide +kernel) rfl
theorem mw_854 : Cond.selects "StepMachines$Kept" ⟨"StepMachines$Kept", "numberOf", "(LStepMachines$Row;I)I"⟩ ⟨"StepMachines$Kept", "numberOf", "(LStepMachines$Row;I)I"⟩ ∈ TB := TB_tab (i := 854) (by decide +kernel) rfl
theorem mw_855 : Cond.code ⟨"StepMachines$Kept", "numberOf", "(LStepMachines$Row;I)I"⟩ prog_3_method_11_code 5 (some .int) ∈ TB := TB_tab (i := 855) (by decide +kernel) rfl
theorem mw_856 : Cond.methodLink "StepMachines$Kept" 64 ⟨"StepMachines$Kept", "sumOf", "(LStepMachines$Row;I)I"⟩ ∈ TB := TB_tab (i := 856) (by decide +kernel) rfl
theorem mw_857 : Cond.static ⟨"StepMachines$Kept", "sumOf", "(LStepMachines$Row;I)I"⟩ ∈ TB := TB_tab (i := 857) (by decide +kernel) rfl
theorem mw_858 : Cond.code ⟨"StepMachines$Kept", "sumOf", "(LStepMachines$Row;I)I"⟩ prog_3_method_12_code 4 (some .int) ∈ TB := TB_tab (i := 858) (by decide +kernel) rfl
theorem mw_859 : Cond.methodLink "StepMachines$Kept" 76 ⟨"StepMachines$Row", "count", "()I"⟩ ∈ TB := TB_tab (i := 859) (by decide +kernel) rfl
theorem mw_860 : Cond.methodLink "StepMachines$Kept" 82 ⟨"StepMachines$Row", "get", "(I)I"⟩ ∈ TB := TB_tab (i := 860) (by decide +kernel) rfl
theorem mw_861 : Cond.methodLink "StepMachines$Kept" 68 ⟨"StepMachines$Kept", "isSame", "(ILStepMachines$Row;I)Z"⟩ ∈ TB := TB_tab (i := 861) (by decide +kernel) rfl
theorem mw_863 : Cond.instanceMethod ⟨"StepMachines$Kept", "isSame", "(ILStepMachines$Row;I)Z"⟩ ∈ TB := TB_tab (i := 863) (by decide +kernel) rfl
theorem mw_864 : Cond.code ⟨"StepMachines$Kept", "isSame", "(ILStepMachines$Row;I)Z"⟩ prog_3_method_13_code 5 (some .boolean) ∈ TB := TB_tab (i := 864) (by decide +kernel) rfl
theorem mw_865 : Cond.methodLink "StepMachines$Kept" 83 ⟨"StepMachines$Kept", "stepOf", "(II)I"⟩ ∈ TB := TB_tab (i := 865) (by decide +kernel) rfl
theorem mw_866 : Cond.instanceMethod ⟨"StepMachines$Kept", "stepOf", "(II)I"⟩ ∈ TB := TB_tab (i := 866) (by decide +kernel) rfl
theorem mw_867 : Cond.selects "StepMachines$Kept" ⟨"StepMachines$Kept", "stepOf", "(II)I"⟩ ⟨"StepMachines$Kept", "stepOf", "(II)I"⟩ ∈ TB := TB_tab (i := 867) (by decide +kernel) rfl
theorem mw_868 : Cond.code ⟨"StepMachines$Kept", "stepOf", "(II)I"⟩ prog_3_method_8_code 3 (some .int) ∈ TB := TB_tab (i := 868) (by decide +kernel) rfl
theorem mw_869 : Cond.methodLink "StepMachines$Kept" 56 ⟨"StepMachines$Packed", "get", "(I)I"⟩ ∈ TB := TB_tab (i := 869) (by decide +kernel) rfl
theorem mw_870 : Cond.instanceMethod ⟨"StepMachines$Packed", "get", "(I)I"⟩ ∈ TB := TB_tab (i := 870) (by decide +kernel) rfl
theorem mw_871 : Cond.selects "StepMachines$Packed" ⟨"StepMachines$Packed", "get", "(I)I"⟩ ⟨"StepMachines$Packed", "get", "(I)I"⟩ ∈ TB := TB_tab (i := 871) (by decide +kernel) rfl
theorem mw_872 : Cond.code ⟨"StepMachines$Packed", "get", "(I)I"⟩ prog_5_method_2_code 3 (some .int) ∈ TB := TB_tab (i := 872) (by decide +kernel) rfl
theorem mw_873 : Cond.constantLong "StepMachines$Packed" 13 (255 : Int64) ∈ TB := TB_tab (i := 873) (by decide +kernel) rfl
theorem mw_874 : Cond.methodLink "StepMachines$Kept" 40 ⟨"StepMachines$Kept", "forget", "()V"⟩ ∈ TB := TB_tab (i := 874) (by decide +kernel) rfl
theorem mw_875 : Cond.methodLink "StepMachines$Kept" 72 ⟨"StepMachines$Kept", "add", "(LStepMachines$Row;II)V"⟩ ∈ TB := TB_tab (i := 875) (by decide +kernel) rfl
theorem mw_877 : Cond.instanceMethod ⟨"StepMachines$Kept", "add", "(LStepMachines$Row;II)V"⟩ ∈ TB := TB_tab (i := 877) (by decide +kernel) rfl
theorem mw_878 : Cond.code ⟨"StepMachines$Kept", "add", "(LStepMachines$Row;II)V"⟩ prog_3_method_14_code 5 none ∈ TB := TB_tab (i := 878) (by decide +kernel) rfl
theorem mw_879 : Cond.methodLink "StepMachines$Kept" 60 ⟨"StepMachines$Packed", "set", "(II)V"⟩ ∈ TB := TB_tab (i := 879) (by decide +kernel) rfl
theorem mw_880 : Cond.instanceMethod ⟨"StepMachines$Packed", "set", "(II)V"⟩ ∈ TB := TB_tab (i := 880) (by decide +kernel) rfl
theorem mw_881 : Cond.selects "StepMachines$Packed" ⟨"StepMachines$Packed", "set", "(II)V"⟩ ⟨"StepMachines$Packed", "set", "(II)V"⟩ ∈ TB := TB_tab (i := 881) (by decide +kernel) rfl
theorem mw_882 : Cond.code ⟨"StepMachines$Packed", "set", "(II)V"⟩ prog_5_method_3_code 5 none ∈ TB := TB_tab (i := 882) (by decide +kernel) rfl
theorem mw_883 : Cond.constantLong "StepMachines$Packed" 15 (-1 : Int64) ∈ TB := TB_tab (i := 883) (by decide +kernel) rfl
theorem mw_884 : Cond.methodLink "StepMachines$Kept" 86 ⟨"StepMachines$Packed", "wipe", "(II)V"⟩ ∈ TB := TB_tab (i := 884) (by decide +kernel) rfl
theorem mw_885 : Cond.instanceMethod ⟨"StepMachines$Packed", "wipe", "(II)V"⟩ ∈ TB := TB_tab (i := 885) (by decide +kernel) rfl
theorem mw_886 : Cond.selects "StepMachines$Packed" ⟨"StepMachines$Packed", "wipe", "(II)V"⟩ ⟨"StepMachines$Packed", "wipe", "(II)V"⟩ ∈ TB := TB_tab (i := 886) (by decide +kernel) rfl
theorem mw_887 : Cond.code ⟨"StepMachines$Packed", "wipe", "(II)V"⟩ prog_5_method_4_code 5 none ∈ TB := TB_tab (i := 887) (by decide +kernel) rfl
theorem mw_888 : Cond.methodLink "StepMachines$States" 73 ⟨"StepMachines$Subject", "length", "()I"⟩ ∈ TB := TB_tab (i := 888) (by decide +kernel) rfl
theorem mw_889 : Cond.methodLink "StepMachines$States" 77 ⟨"StepMachines$States", "moveFrom", "(II)I"⟩ ∈ TB := TB_tab (i := 889) (by decide +kernel) rfl
theorem mw_891 : Cond.instanceMethod ⟨"StepMachines$States", "moveFrom", "(II)I"⟩ ∈ TB := TB_tab (i := 891) (by decide +kernel) rfl
theorem mw_892 : Cond.code ⟨"StepMachines$States", "moveFrom", "(II)I"⟩ prog_8_method_8_code 10 (some .int) ∈ TB := TB_tab (i := 892) (by decide +kernel) rfl
theorem mw_893 : Cond.methodLink "StepMachines$States" 106 ⟨"StepMachines$Tally", "count", "()V"⟩ ∈ TB := TB_tab (i := 893) (by decide +kernel) rfl
theorem mw_894 : Cond.methodLink "StepMachines$States" 111 ⟨"StepMachines$Kept", "moveOf", "(II)I"⟩ ∈ TB := TB_tab (i := 894) (by decide +kernel) rfl
theorem mw_895 : Cond.instanceMethod ⟨"StepMachines$Kept", "moveOf", "(II)I"⟩ ∈ TB := TB_tab (i := 895) (by decide +kernel) rfl
theorem mw_896 : Cond.selects "StepMachines$Kept" ⟨"StepMachines$Kept", "moveOf", "(II)I"⟩ ⟨"StepMachines$Kept", "moveOf", "(II)I"⟩ ∈ TB := TB_tab (i := 896) (by decide +kernel) rfl
theorem mw_897 : Cond.code ⟨"StepMachines$Kept", "moveOf", "(II)I"⟩ prog_3_method_9_code 3 (some .int) ∈ TB := TB_tab (i := 897) (by decide +kernel) rfl
theorem mw_898 : Cond.methodLink "StepMachines$States" 114 ⟨"StepMachines$Kept", "labelOf", "(I)I"⟩ ∈ TB := TB_tab (i := 898) (by decide +kernel) rfl
theorem mw_899 : Cond.instanceMethod ⟨"StepMachines$Kept", "labelOf", "(I)I"⟩ ∈ TB := TB_tab (i := 899) (by decide +kernel) rfl
theorem mw_900 : Cond.selects "StepMachines$Kept" ⟨"StepMachines$Kept", "labelOf", "(I)I"⟩ ⟨"StepMachines$Kept", "labelOf", "(I)I"⟩ ∈ TB := TB_tab (i := 900) (by decide +kernel) rfl
theorem mw_901 : Cond.code ⟨"StepMachines$Kept", "labelOf", "(I)I"⟩ prog_3_method_6_code 2 (some .int) ∈ TB := TB_tab (i := 901) (by decide +kernel) rfl
theorem mw_902 : Cond.methodLink "StepMachines$Kept" 52 ⟨"StepMachines$Kept", "has", "(I)Z"⟩ ∈ TB := TB_tab (i := 902) (by decide +kernel) rfl
theorem mw_903 : Cond.instanceMethod ⟨"StepMachines$Kept", "has", "(I)Z"⟩ ∈ TB := TB_tab (i := 903) (by decide +kernel) rfl
theorem mw_904 : Cond.selects "StepMachines$Kept" ⟨"StepMachines$Kept", "has", "(I)Z"⟩ ⟨"StepMachines$Kept", "has", "(I)Z"⟩ ∈ TB := TB_tab (i := 904) (by decide +kernel) rfl
theorem mw_905 : Cond.code ⟨"StepMachines$Kept", "has", "(I)Z"⟩ prog_3_method_5_code 2 (some .boolean) ∈ TB := TB_tab (i := 905) (by decide +kernel) rfl
theorem mw_906 : Cond.methodLink "StepMachines$States" 116 ⟨"StepMachines$States", "goOver", "(III)Z"⟩ ∈ TB := TB_tab (i := 906) (by decide +kernel) rfl
theorem mw_908 : Cond.instanceMethod ⟨"StepMachines$States", "goOver", "(III)Z"⟩ ∈ TB := TB_tab (i := 908) (by decide +kernel) rfl
theorem mw_909 : Cond.code ⟨"StepMachines$States", "goOver", "(III)Z"⟩ prog_8_method_9_code 8 (some .boolean) ∈ TB := TB_tab (i := 909) (by decide +kernel) rfl
theorem mw_910 : Cond.methodLink "StepMachines$States" 127 ⟨"java/lang/Math", "floorMod", "(II)I"⟩ ∈ TB := TB_tab (i := 910) (by decide +kernel) rfl
theorem mw_911 : Cond.static ⟨"java/lang/Math", "floorMod", "(II)I"⟩ ∈ TB := TB_tab (i := 911) (by decide +kernel) rfl
theorem mw_912 : Cond.code ⟨"java/lang/Math", "floorMod", "(II)I"⟩ prog_18_method_50_code 3 (some .int) ∈ TB := TB_tab (i := 912) (by decide +kernel) rfl
theorem mw_913 : Cond.methodLink "StepMachines$States" 132 ⟨"StepMachines$Subject", "whatIsSo", "(II)I"⟩ ∈ TB := TB_tab (i := 913) (by decide +kernel) rfl
theorem mw_914 : Cond.methodLink "StepMachines$States" 135 ⟨"StepMachines$Kept", "countOf", "(I)I"⟩ ∈ TB := TB_tab (i := 914) (by decide +kernel) rfl
theorem mw_915 : Cond.instanceMethod ⟨"StepMachines$Kept", "countOf", "(I)I"⟩ ∈ TB := TB_tab (i := 915) (by decide +kernel) rfl
theorem mw_916 : Cond.selects "StepMachines$Kept" ⟨"StepMachines$Kept", "countOf", "(I)I"⟩ ⟨"StepMachines$Kept", "countOf", "(I)I"⟩ ∈ TB := TB_tab (i := 916) (by decide +kernel) rfl
theorem mw_917 : Cond.code ⟨"StepMachines$Kept", "countOf", "(I)I"⟩ prog_3_method_7_code 2 (some .int) ∈ TB := TB_tab (i := 917) (by decide +kernel) rfl
theorem mw_918 : Cond.methodLink "StepMachines$States" 138 ⟨"StepMachines$Kept", "stepOf", "(II)I"⟩ ∈ TB := TB_tab (i := 918) (by decide +kernel) rfl
theorem mw_919 : Cond.methodLink "StepMachines$States" 141 ⟨"StepMachines$States", "follow", "(III)Z"⟩ ∈ TB := TB_tab (i := 919) (by decide +kernel) rfl
theorem mw_921 : Cond.instanceMethod ⟨"StepMachines$States", "follow", "(III)Z"⟩ ∈ TB := TB_tab (i := 921) (by decide +kernel) rfl
theorem mw_922 : Cond.code ⟨"StepMachines$States", "follow", "(III)Z"⟩ prog_8_method_10_code 7 (some .boolean) ∈ TB := TB_tab (i := 922) (by decide +kernel) rfl
theorem mw_923 : Cond.methodLink "StepMachines$States" 144 ⟨"StepMachines$Jobs", "drop", "()V"⟩ ∈ TB := TB_tab (i := 923) (by decide +kernel) rfl
theorem mw_924 : Cond.methodLink "StepMachines$States" 147 ⟨"StepMachines$Jobs", "add", "(I)V"⟩ ∈ TB := TB_tab (i := 924) (by decide +kernel) rfl
theorem mw_925 : Cond.constant "StepMachines$States" 148 (1000000 : Int32) ∈ TB := TB_tab (i := 925) (by decide +kernel) rfl
theorem mw_926 : Cond.methodLink "StepMachines$States" 149 ⟨"StepMachines$Jobs", "isEmpty", "()Z"⟩ ∈ TB := TB_tab (i := 926) (by decide +kernel) rfl
theorem mw_927 : Cond.methodLink "StepMachines$States" 153 ⟨"StepMachines$Jobs", "take", "()I"⟩ ∈ TB := TB_tab (i := 927) (by decide +kernel) rfl
theorem mw_928 : Cond.methodLink "StepMachines$States" 156 ⟨"StepMachines$Row", "meets", "(I)Z"⟩ ∈ TB := TB_tab (i := 928) (by decide +kernel) rfl
theorem mw_929 : Cond.methodLink "StepMachines$States" 159 ⟨"StepMachines$States", "visit", "(II)V"⟩ ∈ TB := TB_tab (i := 929) (by decide +kernel) rfl
theorem mw_931 : Cond.instanceMethod ⟨"StepMachines$States", "visit", "(II)V"⟩ ∈ TB := TB_tab (i := 931) (by decide +kernel) rfl
theorem mw_932 : Cond.code ⟨"StepMachines$States", "visit", "(II)V"⟩ prog_8_method_11_code 3 none ∈ TB := TB_tab (i := 932) (by decide +kernel) rfl
theorem mw_933 : Cond.methodLink "StepMachines$States" 163 ⟨"StepMachines$Program", "kindOf", "(I)I"⟩ ∈ TB := TB_tab (i := 933) (by decide +kernel) rfl
theorem mw_934 : Cond.methodLink "StepMachines$States" 166 ⟨"StepMachines$Program", "takes", "(II)Z"⟩ ∈ TB := TB_tab (i := 934) (by decide +kernel) rfl
theorem mw_935 : Cond.methodLink "StepMachines$States" 170 ⟨"StepMachines$Program", "firstOf", "(I)I"⟩ ∈ TB := TB_tab (i := 935) (by decide +kernel) rfl
theorem mw_936 : Cond.methodLink "StepMachines$States" 173 ⟨"StepMachines$Program", "secondOf", "(I)I"⟩ ∈ TB := TB_tab (i := 936) (by decide +kernel) rfl
theorem mw_937 : Cond.methodLink "StepMachines$States" 176 ⟨"StepMachines$Program", "valueOf", "(I)I"⟩ ∈ TB := TB_tab (i := 937) (by decide +kernel) rfl
theorem mw_938 : Cond.methodLink "StepMachines$States" 120 ⟨"StepMachines$Kept", "count", "()I"⟩ ∈ TB := TB_tab (i := 938) (by decide +kernel) rfl
theorem mw_939 : Cond.instanceMethod ⟨"StepMachines$Kept", "count", "()I"⟩ ∈ TB := TB_tab (i := 939) (by decide +kernel) rfl
theorem mw_940 : Cond.selects "StepMachines$Kept" ⟨"StepMachines$Kept", "count", "()I"⟩ ⟨"StepMachines$Kept", "count", "()I"⟩ ∈ TB := TB_tab (i := 940) (by decide +kernel) rfl
theorem mw_941 : Cond.code ⟨"StepMachines$Kept", "count", "()I"⟩ prog_3_method_4_code 1 (some .int) ∈ TB := TB_tab (i := 941) (by decide +kernel) rfl
theorem mw_942 : Cond.methodLink "StepMachines$States" 122 ⟨"StepMachines$Row", "count", "()I"⟩ ∈ TB := TB_tab (i := 942) (by decide +kernel) rfl
theorem mw_943 : Cond.methodLink "StepMachines$States" 123 ⟨"StepMachines$Kept", "know", "(III)V"⟩ ∈ TB := TB_tab (i := 943) (by decide +kernel) rfl
theorem mw_944 : Cond.instanceMethod ⟨"StepMachines$Kept", "know", "(III)V"⟩ ∈ TB := TB_tab (i := 944) (by decide +kernel) rfl
theorem mw_945 : Cond.selects "StepMachines$Kept" ⟨"StepMachines$Kept", "know", "(III)V"⟩ ⟨"StepMachines$Kept", "know", "(III)V"⟩ ∈ TB := TB_tab (i := 945) (by decide +kernel) rfl
theorem mw_946 : Cond.code ⟨"StepMachines$Kept", "know", "(III)V"⟩ prog_3_method_10_code 4 none ∈ TB := TB_tab (i := 946) (by decide +kernel) rfl
theorem mw_947 : Cond.methodLink "StepMachinesLaw" 80 ⟨"StepMachinesLaw", "keep", "(LStepMachines;I)I"⟩ ∈ TB := TB_tab (i := 947) (by decide +kernel) rfl
theorem mw_948 : Cond.static ⟨"StepMachinesLaw", "keep", "(LStepMachines;I)I"⟩ ∈ TB := TB_tab (i := 948) (by decide +kernel) rfl
theorem mw_950 : Cond.methodLink "StepMachinesLaw" 32 ⟨"StepMachines", "keep", "(I)V"⟩ ∈ TB := TB_tab (i := 950) (by decide +kernel) rfl
theorem mw_951 : Cond.instanceMethod ⟨"StepMachines", "keep", "(I)V"⟩ ∈ TB := TB_tab (i := 951) (by decide +kernel) rfl
theorem mw_952 : Cond.selects "StepMachines" ⟨"StepMachines", "keep", "(I)V"⟩ ⟨"StepMachines", "keep", "(I)V"⟩ ∈ TB := TB_tab (i := 952) (by decide +kernel) rfl
theorem mw_953 : Cond.code ⟨"StepMachines", "keep", "(I)V"⟩ prog_1_method_10_code 2 none ∈ TB := TB_tab (i := 953) (by decide +kernel) rfl
theorem mw_955 : Cond.methodLink "StepMachines" 159 ⟨"StepMachines$States", "allow", "(I)V"⟩ ∈ TB := TB_tab (i := 955) (by decide +kernel) rfl
theorem mw_956 : Cond.instanceMethod ⟨"StepMachines$States", "allow", "(I)V"⟩ ∈ TB := TB_tab (i := 956) (by decide +kernel) rfl
theorem mw_957 : Cond.selects "StepMachines$States" ⟨"StepMachines$States", "allow", "(I)V"⟩ ⟨"StepMachines$States", "allow", "(I)V"⟩ ∈ TB := TB_tab (i := 957) (by decide +kernel) rfl
theorem mw_958 : Cond.code ⟨"StepMachines$States", "allow", "(I)V"⟩ prog_8_method_2_code 2 none ∈ TB := TB_tab (i := 958) (by decide +kernel) rfl
theorem mw_959 : Cond.methodLink "StepMachines$States" 53 ⟨"StepMachines$Kept", "allow", "(I)V"⟩ ∈ TB := TB_tab (i := 959) (by decide +kernel) rfl
theorem mw_960 : Cond.instanceMethod ⟨"StepMachines$Kept", "allow", "(I)V"⟩ ∈ TB := TB_tab (i := 960) (by decide +kernel) rfl
theorem mw_961 : Cond.selects "StepMachines$Kept" ⟨"StepMachines$Kept", "allow", "(I)V"⟩ ⟨"StepMachines$Kept", "allow", "(I)V"⟩ ∈ TB := TB_tab (i := 961) (by decide +kernel) rfl
theorem mw_962 : Cond.code ⟨"StepMachines$Kept", "allow", "(I)V"⟩ prog_3_method_2_code 2 none ∈ TB := TB_tab (i := 962) (by decide +kernel) rfl
theorem mw_963 : Cond.methodLink "StepMachines$Kept" 43 ⟨"java/lang/Math", "min", "(II)I"⟩ ∈ TB := TB_tab (i := 963) (by decide +kernel) rfl
theorem mw_964 : Cond.methodLink "StepMachines$Kept" 49 ⟨"java/lang/Math", "max", "(II)I"⟩ ∈ TB := TB_tab (i := 964) (by decide +kernel) rfl
theorem mw_965 : Cond.classLink "StepMachinesLaw" 36 "StepMachinesModel" ∈ TB := TB_tab (i := 965) (by decide +kernel) rfl
theorem mw_966 : Cond.instantiable "StepMachinesModel" 25 ∈ TB := TB_tab (i := 966) (by decide +kernel) rfl
theorem mw_967 : Cond.methodLink "StepMachinesLaw" 38 ⟨"StepMachinesModel", "<init>", "()V"⟩ ∈ TB := TB_tab (i := 967) (by decide +kernel) rfl
theorem mw_968 : Cond.instanceMethod ⟨"StepMachinesModel", "<init>", "()V"⟩ ∈ TB := TB_tab (i := 968) (by decide +kernel) rfl
theorem mw_969 : Cond.code ⟨"StepMachinesModel", "<init>", "()V"⟩ prog_14_method_1_code 2 none ∈ TB := TB_tab (i := 969) (by decide +kernel) rfl
theorem mw_970 : Cond.methodLink "StepMachinesModel" 1 ⟨"java/lang/Object", "<init>", "()V"⟩ ∈ TB := TB_tab (i := 970) (by decide +kernel) rfl
theorem mw_971 : Cond.constant "StepMachinesModel" 29 (40200 : Int32) ∈ TB := TB_tab (i := 971) (by decide +kernel) rfl
theorem mw_972 : Cond.fieldLink "StepMachinesModel" 70 "StepMachinesModel" "thrown" "I" ∈ TB := TB_tab (i := 972) (by decide +kernel) rfl
theorem mw_973 : Cond.fieldLink "StepMachinesModel" 7 "StepMachinesModel" "steps" "I" ∈ TB := TB_tab (i := 973) (by decide +kernel) rfl
theorem mw_974 : Cond.fieldLink "StepMachinesModel" 73 "StepMachinesModel" "begin" "I" ∈ TB := TB_tab (i := 974) (by decide +kernel) rfl
theorem mw_975 : Cond.fieldLink "StepMachinesModel" 13 "StepMachinesModel" "kinds" "[I" ∈ TB := TB_tab (i := 975) (by decide +kernel) rfl
theorem mw_976 : Cond.fieldLink "StepMachinesModel" 17 "StepMachinesModel" "values" "[I" ∈ TB := TB_tab (i := 976) (by decide +kernel) rfl
theorem mw_977 : Cond.fieldLink "StepMachinesModel" 20 "StepMachinesModel" "first" "[I" ∈ TB := TB_tab (i := 977) (by decide +kernel) rfl
theorem mw_978 : Cond.fieldLink "StepMachinesModel" 23 "StepMachinesModel" "second" "[I" ∈ TB := TB_tab (i := 978) (by decide +kernel) rfl
theorem mw_979 : Cond.fieldLink "StepMachinesModel" 26 "StepMachinesModel" "subject" "[I" ∈ TB := TB_tab (i := 979) (by decide +kernel) rfl
theorem mw_980 : Cond.fieldLink "StepMachinesModel" 81 "StepMachinesModel" "length" "I" ∈ TB := TB_tab (i := 980) (by decide +kernel) rfl
theorem mw_981 : Cond.fieldLink "StepMachinesModel" 30 "StepMachinesModel" "can" "[Z" ∈ TB := TB_tab (i := 981) (by decide +kernel) rfl
theorem mw_982 : Cond.fieldLink "StepMachinesModel" 34 "StepMachinesModel" "come" "[Z" ∈ TB := TB_tab (i := 982) (by decide +kernel) rfl
theorem mw_983 : Cond.fieldLink "StepMachinesModel" 37 "StepMachinesModel" "saves" "[I" ∈ TB := TB_tab (i := 983) (by decide +kernel) rfl
theorem mw_984 : Cond.fieldLink "StepMachinesModel" 40 "StepMachinesModel" "kept" "[I" ∈ TB := TB_tab (i := 984) (by decide +kernel) rfl
theorem mw_985 : Cond.fieldLink "StepMachinesModel" 43 "StepMachinesModel" "pile" "[I" ∈ TB := TB_tab (i := 985) (by decide +kernel) rfl
theorem mw_986 : Cond.fieldLink "StepMachinesModel" 46 "StepMachinesModel" "pileTrail" "[I" ∈ TB := TB_tab (i := 986) (by decide +kernel) rfl
theorem mw_987 : Cond.fieldLink "StepMachinesModel" 49 "StepMachinesModel" "trailPlace" "[I" ∈ TB := TB_tab (i := 987) (by decide +kernel) rfl
theorem mw_988 : Cond.fieldLink "StepMachinesModel" 52 "StepMachinesModel" "trailOld" "[I" ∈ TB := TB_tab (i := 988) (by decide +kernel) rfl
theorem mw_989 : Cond.fieldLink "StepMachinesModel" 55 "StepMachinesModel" "seen" "[Z" ∈ TB := TB_tab (i := 989) (by decide +kernel) rfl
theorem mw_990 : Cond.fieldLink "StepMachinesModel" 102 "StepMachinesModel" "trail" "I" ∈ TB := TB_tab (i := 990) (by decide +kernel) rfl
theorem mw_991 : Cond.fieldLink "StepMachinesModel" 99 "StepMachinesModel" "high" "I" ∈ TB := TB_tab (i := 991) (by decide +kernel) rfl
theorem mw_992 : Cond.fieldLink "StepMachinesModel" 58 "StepMachinesModel" "starts" "[I" ∈ TB := TB_tab (i := 992) (by decide +kernel) rfl
theorem mw_993 : Cond.fieldLink "StepMachinesModel" 61 "StepMachinesModel" "bySaves" "[I" ∈ TB := TB_tab (i := 993) (by decide +kernel) rfl
theorem mw_994 : Cond.fieldLink "StepMachinesModel" 64 "StepMachinesModel" "byAsserts" "[I" ∈ TB := TB_tab (i := 994) (by decide +kernel) rfl
theorem mw_995 : Cond.fieldLink "StepMachinesModel" 67 "StepMachinesModel" "byTime" "[I" ∈ TB := TB_tab (i := 995) (by decide +kernel) rfl
theorem mw_996 : Cond.fieldLink "StepMachinesModel" 131 "StepMachinesModel" "many" "I" ∈ TB := TB_tab (i := 996) (by decide +kernel) rfl
theorem mw_1048 : Cond.arrayClass .boolean ∈ TB := TB_tab (i := 1048) (by decide +kernel) rfl
theorem mw_1049 : Cond.methodLink "StepMachinesLaw" 45 ⟨"StepMachinesModel", "thrown", "()I"⟩ ∈ TB := TB_tab (i := 1049) (by decide +kernel) rfl
theorem mw_1050 : Cond.instanceMethod ⟨"StepMachinesModel", "thrown", "()I"⟩ ∈ TB := TB_tab (i := 1050) (by decide +kernel) rfl
theorem mw_1051 : Cond.selects "StepMachinesModel" ⟨"StepMachinesModel", "thrown", "()I"⟩ ⟨"StepMachinesModel", "thrown", "()I"⟩ ∈ TB := TB_tab (i := 1051) (by decide +kernel) rfl
theorem mw_1052 : Cond.code ⟨"StepMachinesModel", "thrown", "()I"⟩ prog_14_method_2_code 1 (some .int) ∈ TB := TB_tab (i := 1052) (by decide +kernel) rfl
theorem mw_1053 : Cond.methodLink "StepMachinesLaw" 44 ⟨"StepMachinesModel", "lay", "(I)V"⟩ ∈ TB := TB_tab (i := 1053) (by decide +kernel) rfl
theorem mw_1054 : Cond.instanceMethod ⟨"StepMachinesModel", "lay", "(I)V"⟩ ∈ TB := TB_tab (i := 1054) (by decide +kernel) rfl
theorem mw_1055 : Cond.selects "StepMachinesModel" ⟨"StepMachinesModel", "lay", "(I)V"⟩ ⟨"StepMachinesModel", "lay", "(I)V"⟩ ∈ TB := TB_tab (i := 1055) (by decide +kernel) rfl
theorem mw_1056 : Cond.code ⟨"StepMachinesModel", "lay", "(I)V"⟩ prog_14_method_4_code 3 none ∈ TB := TB_tab (i := 1056) (by decide +kernel) rfl
theorem mw_1057 : Cond.methodLink "StepMachinesLaw" 52 ⟨"StepMachinesModel", "step", "(IIIII)V"⟩ ∈ TB := TB_tab (i := 1057) (by decide +kernel) rfl
theorem mw_1058 : Cond.instanceMethod ⟨"StepMachinesModel", "step", "(IIIII)V"⟩ ∈ TB := TB_tab (i := 1058) (by decide +kernel) rfl
theorem mw_1059 : Cond.selects "StepMachinesModel" ⟨"StepMachinesModel", "step", "(IIIII)V"⟩ ⟨"StepMachinesModel", "step", "(IIIII)V"⟩ ∈ TB := TB_tab (i := 1059) (by decide +kernel) rfl
theorem mw_1060 : Cond.code ⟨"StepMachinesModel", "step", "(IIIII)V"⟩ prog_14_method_5_code 7 none ∈ TB := TB_tab (i := 1060) (by decide +kernel) rfl
theorem mw_1061 : Cond.methodLink "StepMachinesModel" 76 ⟨"StepMachinesModel", "isStep", "(I)Z"⟩ ∈ TB := TB_tab (i := 1061) (by decide +kernel) rfl
theorem mw_1063 : Cond.instanceMethod ⟨"StepMachinesModel", "isStep", "(I)Z"⟩ ∈ TB := TB_tab (i := 1063) (by decide +kernel) rfl
theorem mw_1064 : Cond.code ⟨"StepMachinesModel", "isStep", "(I)Z"⟩ prog_14_method_3_code 2 (some .boolean) ∈ TB := TB_tab (i := 1064) (by decide +kernel) rfl
theorem mw_1065 : Cond.constant "StepMachinesModel" 80 (65536 : Int32) ∈ TB := TB_tab (i := 1065) (by decide +kernel) rfl
theorem mw_1066 : Cond.methodLink "StepMachinesLaw" 55 ⟨"StepMachinesModel", "begin", "(I)V"⟩ ∈ TB := TB_tab (i := 1066) (by decide +kernel) rfl
theorem mw_1067 : Cond.instanceMethod ⟨"StepMachinesModel", "begin", "(I)V"⟩ ∈ TB := TB_tab (i := 1067) (by decide +kernel) rfl
theorem mw_1068 : Cond.selects "StepMachinesModel" ⟨"StepMachinesModel", "begin", "(I)V"⟩ ⟨"StepMachinesModel", "begin", "(I)V"⟩ ∈ TB := TB_tab (i := 1068) (by decide +kernel) rfl
theorem mw_1069 : Cond.code ⟨"StepMachinesModel", "begin", "(I)V"⟩ prog_14_method_6_code 2 none ∈ TB := TB_tab (i := 1069) (by decide +kernel) rfl
theorem mw_1070 : Cond.methodLink "StepMachinesLaw" 62 ⟨"StepMachinesModel", "put", "(JI)Z"⟩ ∈ TB := TB_tab (i := 1070) (by decide +kernel) rfl
theorem mw_1071 : Cond.instanceMethod ⟨"StepMachinesModel", "put", "(JI)Z"⟩ ∈ TB := TB_tab (i := 1071) (by decide +kernel) rfl
theorem mw_1072 : Cond.selects "StepMachinesModel" ⟨"StepMachinesModel", "put", "(JI)Z"⟩ ⟨"StepMachinesModel", "put", "(JI)Z"⟩ ∈ TB := TB_tab (i := 1072) (by decide +kernel) rfl
theorem mw_1073 : Cond.code ⟨"StepMachinesModel", "put", "(JI)Z"⟩ prog_14_method_7_code 5 (some .boolean) ∈ TB := TB_tab (i := 1073) (by decide +kernel) rfl
theorem mw_1074 : Cond.constantLong "StepMachinesModel" 84 (255 : Int64) ∈ TB := TB_tab (i := 1074) (by decide +kernel) rfl
theorem mw_1075 : Cond.methodLink "StepMachinesLaw" 66 ⟨"StepMachinesModel", "clear", "()V"⟩ ∈ TB := TB_tab (i := 1075) (by decide +kernel) rfl
theorem mw_1076 : Cond.instanceMethod ⟨"StepMachinesModel", "clear", "()V"⟩ ∈ TB := TB_tab (i := 1076) (by decide +kernel) rfl
theorem mw_1077 : Cond.selects "StepMachinesModel" ⟨"StepMachinesModel", "clear", "()V"⟩ ⟨"StepMachinesModel", "clear", "()V"⟩ ∈ TB := TB_tab (i := 1077) (by decide +kernel) rfl
theorem mw_1078 : Cond.code ⟨"StepMachinesModel", "clear", "()V"⟩ prog_14_method_8_code 1 none ∈ TB := TB_tab (i := 1078) (by decide +kernel) rfl
theorem mw_1079 : Cond.methodLink "StepMachinesLaw" 70 ⟨"StepMachinesModel", "match", "(IZII)I"⟩ ∈ TB := TB_tab (i := 1079) (by decide +kernel) rfl
theorem mw_1080 : Cond.instanceMethod ⟨"StepMachinesModel", "match", "(IZII)I"⟩ ∈ TB := TB_tab (i := 1080) (by decide +kernel) rfl
theorem mw_1081 : Cond.selects "StepMachinesModel" ⟨"StepMachinesModel", "match", "(IZII)I"⟩ ⟨"StepMachinesModel", "match", "(IZII)I"⟩ ∈ TB := TB_tab (i := 1081) (by decide +kernel) rfl
theorem mw_1082 : Cond.code ⟨"StepMachinesModel", "match", "(IZII)I"⟩ prog_14_method_20_code 7 (some .int) ∈ TB := TB_tab (i := 1082) (by decide +kernel) rfl
theorem mw_1083 : Cond.methodLink "StepMachinesModel" 124 ⟨"StepMachinesModel", "isGood", "(II)Z"⟩ ∈ TB := TB_tab (i := 1083) (by decide +kernel) rfl
theorem mw_1085 : Cond.instanceMethod ⟨"StepMachinesModel", "isGood", "(II)Z"⟩ ∈ TB := TB_tab (i := 1085) (by decide +kernel) rfl
theorem mw_1086 : Cond.code ⟨"StepMachinesModel", "isGood", "(II)Z"⟩ prog_14_method_19_code 3 (some .boolean) ∈ TB := TB_tab (i := 1086) (by decide +kernel) rfl
theorem mw_1087 : Cond.methodLink "StepMachinesModel" 127 ⟨"StepMachinesModel", "find", "(IZI)I"⟩ ∈ TB := TB_tab (i := 1087) (by decide +kernel) rfl
theorem mw_1089 : Cond.instanceMethod ⟨"StepMachinesModel", "find", "(IZI)I"⟩ ∈ TB := TB_tab (i := 1089) (by decide +kernel) rfl
theorem mw_1090 : Cond.code ⟨"StepMachinesModel", "find", "(IZI)I"⟩ prog_14_method_18_code 7 (some .int) ∈ TB := TB_tab (i := 1090) (by decide +kernel) rfl
theorem mw_1091 : Cond.methodLink "StepMachinesModel" 112 ⟨"StepMachinesModel", "note", "(IIZ)V"⟩ ∈ TB := TB_tab (i := 1091) (by decide +kernel) rfl
theorem mw_1093 : Cond.instanceMethod ⟨"StepMachinesModel", "note", "(IIZ)V"⟩ ∈ TB := TB_tab (i := 1093) (by decide +kernel) rfl
theorem mw_1094 : Cond.code ⟨"StepMachinesModel", "note", "(IIZ)V"⟩ prog_14_method_13_code 8 none ∈ TB := TB_tab (i := 1094) (by decide +kernel) rfl
theorem mw_1095 : Cond.methodLink "StepMachinesModel" 93 ⟨"StepMachinesModel", "takes", "(II)Z"⟩ ∈ TB := TB_tab (i := 1095) (by decide +kernel) rfl
theorem mw_1097 : Cond.instanceMethod ⟨"StepMachinesModel", "takes", "(II)Z"⟩ ∈ TB := TB_tab (i := 1097) (by decide +kernel) rfl
theorem mw_1098 : Cond.code ⟨"StepMachinesModel", "takes", "(II)Z"⟩ prog_14_method_11_code 3 (some .boolean) ∈ TB := TB_tab (i := 1098) (by decide +kernel) rfl
theorem mw_1099 : Cond.methodLink "StepMachinesModel" 96 ⟨"StepMachinesModel", "passes", "(II)Z"⟩ ∈ TB := TB_tab (i := 1099) (by decide +kernel) rfl
theorem mw_1101 : Cond.instanceMethod ⟨"StepMachinesModel", "passes", "(II)Z"⟩ ∈ TB := TB_tab (i := 1101) (by decide +kernel) rfl
theorem mw_1102 : Cond.code ⟨"StepMachinesModel", "passes", "(II)Z"⟩ prog_14_method_12_code 3 (some .boolean) ∈ TB := TB_tab (i := 1102) (by decide +kernel) rfl
theorem mw_1103 : Cond.methodLink "StepMachinesModel" 89 ⟨"StepMachinesModel", "isSo", "(II)Z"⟩ ∈ TB := TB_tab (i := 1103) (by decide +kernel) rfl
theorem mw_1105 : Cond.instanceMethod ⟨"StepMachinesModel", "isSo", "(II)Z"⟩ ∈ TB := TB_tab (i := 1105) (by decide +kernel) rfl
theorem mw_1106 : Cond.code ⟨"StepMachinesModel", "isSo", "(II)Z"⟩ prog_14_method_10_code 3 (some .boolean) ∈ TB := TB_tab (i := 1106) (by decide +kernel) rfl
theorem mw_1107 : Cond.methodLink "StepMachinesModel" 86 ⟨"StepMachinesModel", "wordAt", "(I)Z"⟩ ∈ TB := TB_tab (i := 1107) (by decide +kernel) rfl
theorem mw_1109 : Cond.instanceMethod ⟨"StepMachinesModel", "wordAt", "(I)Z"⟩ ∈ TB := TB_tab (i := 1109) (by decide +kernel) rfl
theorem mw_1110 : Cond.code ⟨"StepMachinesModel", "wordAt", "(I)Z"⟩ prog_14_method_9_code 3 (some .boolean) ∈ TB := TB_tab (i := 1110) (by decide +kernel) rfl
theorem mw_1111 : Cond.methodLink "StepMachinesModel" 116 ⟨"StepMachinesModel", "lastEnd", "(I)I"⟩ ∈ TB := TB_tab (i := 1111) (by decide +kernel) rfl
theorem mw_1113 : Cond.instanceMethod ⟨"StepMachinesModel", "lastEnd", "(I)I"⟩ ∈ TB := TB_tab (i := 1113) (by decide +kernel) rfl
theorem mw_1114 : Cond.code ⟨"StepMachinesModel", "lastEnd", "(I)I"⟩ prog_14_method_14_code 7 (some .int) ∈ TB := TB_tab (i := 1114) (by decide +kernel) rfl
theorem mw_1115 : Cond.methodLink "StepMachinesModel" 120 ⟨"StepMachinesModel", "walk", "(II)I"⟩ ∈ TB := TB_tab (i := 1115) (by decide +kernel) rfl
theorem mw_1117 : Cond.instanceMethod ⟨"StepMachinesModel", "walk", "(II)I"⟩ ∈ TB := TB_tab (i := 1117) (by decide +kernel) rfl
theorem mw_1118 : Cond.code ⟨"StepMachinesModel", "walk", "(II)I"⟩ prog_14_method_17_code 7 (some .int) ∈ TB := TB_tab (i := 1118) (by decide +kernel) rfl
theorem mw_1119 : Cond.methodLink "StepMachinesModel" 105 ⟨"StepMachinesModel", "heap", "(I)V"⟩ ∈ TB := TB_tab (i := 1119) (by decide +kernel) rfl
theorem mw_1121 : Cond.instanceMethod ⟨"StepMachinesModel", "heap", "(I)V"⟩ ∈ TB := TB_tab (i := 1121) (by decide +kernel) rfl
theorem mw_1122 : Cond.code ⟨"StepMachinesModel", "heap", "(I)V"⟩ prog_14_method_15_code 2 none ∈ TB := TB_tab (i := 1122) (by decide +kernel) rfl
theorem mw_1123 : Cond.methodLink "StepMachinesModel" 109 ⟨"StepMachinesModel", "undo", "(I)V"⟩ ∈ TB := TB_tab (i := 1123) (by decide +kernel) rfl
theorem mw_1125 : Cond.instanceMethod ⟨"StepMachinesModel", "undo", "(I)V"⟩ ∈ TB := TB_tab (i := 1125) (by decide +kernel) rfl
theorem mw_1126 : Cond.code ⟨"StepMachinesModel", "undo", "(I)V"⟩ prog_14_method_16_code 2 none ∈ TB := TB_tab (i := 1126) (by decide +kernel) rfl
theorem mw_1127 : Cond.methodLink "StepMachinesLaw" 75 ⟨"StepMachinesModel", "saved", "(I)I"⟩ ∈ TB := TB_tab (i := 1127) (by decide +kernel) rfl
theorem mw_1128 : Cond.instanceMethod ⟨"StepMachinesModel", "saved", "(I)I"⟩ ∈ TB := TB_tab (i := 1128) (by decide +kernel) rfl
theorem mw_1129 : Cond.selects "StepMachinesModel" ⟨"StepMachinesModel", "saved", "(I)I"⟩ ⟨"StepMachinesModel", "saved", "(I)I"⟩ ∈ TB := TB_tab (i := 1129) (by decide +kernel) rfl
theorem mw_1130 : Cond.code ⟨"StepMachinesModel", "saved", "(I)I"⟩ prog_14_method_21_code 2 (some .int) ∈ TB := TB_tab (i := 1130) (by decide +kernel) rfl
theorem mw_1131 : Cond.methodLink "StepMachinesLaw" 79 ⟨"StepMachinesModel", "ends", "(IZI)I"⟩ ∈ TB := TB_tab (i := 1131) (by decide +kernel) rfl
theorem mw_1132 : Cond.instanceMethod ⟨"StepMachinesModel", "ends", "(IZI)I"⟩ ∈ TB := TB_tab (i := 1132) (by decide +kernel) rfl
theorem mw_1133 : Cond.selects "StepMachinesModel" ⟨"StepMachinesModel", "ends", "(IZI)I"⟩ ⟨"StepMachinesModel", "ends", "(IZI)I"⟩ ∈ TB := TB_tab (i := 1133) (by decide +kernel) rfl
theorem mw_1134 : Cond.code ⟨"StepMachinesModel", "ends", "(IZI)I"⟩ prog_14_method_22_code 4 (some .int) ∈ TB := TB_tab (i := 1134) (by decide +kernel) rfl
theorem mw_1135 : Cond.methodLink "StepMachinesLaw" 82 ⟨"StepMachinesModel", "keep", "(I)V"⟩ ∈ TB := TB_tab (i := 1135) (by decide +kernel) rfl
theorem mw_1136 : Cond.instanceMethod ⟨"StepMachinesModel", "keep", "(I)V"⟩ ∈ TB := TB_tab (i := 1136) (by decide +kernel) rfl
theorem mw_1137 : Cond.selects "StepMachinesModel" ⟨"StepMachinesModel", "keep", "(I)V"⟩ ⟨"StepMachinesModel", "keep", "(I)V"⟩ ∈ TB := TB_tab (i := 1137) (by decide +kernel) rfl
theorem mw_1138 : Cond.code ⟨"StepMachinesModel", "keep", "(I)V"⟩ prog_14_method_23_code 2 none ∈ TB := TB_tab (i := 1138) (by decide +kernel) rfl
theorem mw_1139 : Cond.methodLink "StepMachinesLaw" 87 ⟨"StepMachinesModel", "isOneWay", "()Z"⟩ ∈ TB := TB_tab (i := 1139) (by decide +kernel) rfl
theorem mw_1140 : Cond.instanceMethod ⟨"StepMachinesModel", "isOneWay", "()Z"⟩ ∈ TB := TB_tab (i := 1140) (by decide +kernel) rfl
theorem mw_1141 : Cond.selects "StepMachinesModel" ⟨"StepMachinesModel", "isOneWay", "()Z"⟩ ⟨"StepMachinesModel", "isOneWay", "()Z"⟩ ∈ TB := TB_tab (i := 1141) (by decide +kernel) rfl
theorem mw_1142 : Cond.code ⟨"StepMachinesModel", "isOneWay", "()Z"⟩ prog_14_method_30_code 5 (some .boolean) ∈ TB := TB_tab (i := 1142) (by decide +kernel) rfl
theorem mw_1143 : Cond.methodLink "StepMachinesModel" 141 ⟨"StepMachinesModel", "start", "(I)V"⟩ ∈ TB := TB_tab (i := 1143) (by decide +kernel) rfl
theorem mw_1145 : Cond.instanceMethod ⟨"StepMachinesModel", "start", "(I)V"⟩ ∈ TB := TB_tab (i := 1145) (by decide +kernel) rfl
theorem mw_1146 : Cond.code ⟨"StepMachinesModel", "start", "(I)V"⟩ prog_14_method_24_code 3 none ∈ TB := TB_tab (i := 1146) (by decide +kernel) rfl
theorem mw_1147 : Cond.methodLink "StepMachinesModel" 144 ⟨"StepMachinesModel", "spreads", "(I)Z"⟩ ∈ TB := TB_tab (i := 1147) (by decide +kernel) rfl
theorem mw_1149 : Cond.instanceMethod ⟨"StepMachinesModel", "spreads", "(I)Z"⟩ ∈ TB := TB_tab (i := 1149) (by decide +kernel) rfl
theorem mw_1150 : Cond.code ⟨"StepMachinesModel", "spreads", "(I)Z"⟩ prog_14_method_25_code 7 (some .boolean) ∈ TB := TB_tab (i := 1150) (by decide +kernel) rfl
theorem mw_1151 : Cond.methodLink "StepMachinesModel" 134 ⟨"StepMachinesModel", "isWaiting", "(I)Z"⟩ ∈ TB := TB_tab (i := 1151) (by decide +kernel) rfl
theorem mw_1153 : Cond.instanceMethod ⟨"StepMachinesModel", "isWaiting", "(I)Z"⟩ ∈ TB := TB_tab (i := 1153) (by decide +kernel) rfl
theorem mw_1154 : Cond.code ⟨"StepMachinesModel", "isWaiting", "(I)Z"⟩ prog_14_method_26_code 4 (some .boolean) ∈ TB := TB_tab (i := 1154) (by decide +kernel) rfl
theorem mw_1155 : Cond.methodLink "StepMachinesModel" 137 ⟨"StepMachinesModel", "hold", "(III)V"⟩ ∈ TB := TB_tab (i := 1155) (by decide +kernel) rfl
theorem mw_1157 : Cond.instanceMethod ⟨"StepMachinesModel", "hold", "(III)V"⟩ ∈ TB := TB_tab (i := 1157) (by decide +kernel) rfl
theorem mw_1158 : Cond.code ⟨"StepMachinesModel", "hold", "(III)V"⟩ prog_14_method_27_code 4 none ∈ TB := TB_tab (i := 1158) (by decide +kernel) rfl
theorem mw_1159 : Cond.methodLink "StepMachinesModel" 147 ⟨"StepMachinesModel", "meet", "(II)Z"⟩ ∈ TB := TB_tab (i := 1159) (by decide +kernel) rfl
theorem mw_1160 : Cond.static ⟨"StepMachinesModel", "meet", "(II)Z"⟩ ∈ TB := TB_tab (i := 1160) (by decide +kernel) rfl
theorem mw_1161 : Cond.code ⟨"StepMachinesModel", "meet", "(II)Z"⟩ prog_14_method_28_code 2 (some .boolean) ∈ TB := TB_tab (i := 1161) (by decide +kernel) rfl
theorem mw_1162 : Cond.methodLink "StepMachinesModel" 150 ⟨"StepMachinesModel", "areAlike", "(II)Z"⟩ ∈ TB := TB_tab (i := 1162) (by decide +kernel) rfl
theorem mw_1164 : Cond.instanceMethod ⟨"StepMachinesModel", "areAlike", "(II)Z"⟩ ∈ TB := TB_tab (i := 1164) (by decide +kernel) rfl
theorem mw_1165 : Cond.code ⟨"StepMachinesModel", "areAlike", "(II)Z"⟩ prog_14_method_29_code 4 (some .boolean) ∈ TB := TB_tab (i := 1165) (by decide +kernel) rfl
theorem mw_1166 : Cond.methodLink "StepMachinesLaw" 91 ⟨"StepMachinesModel", "over", "()I"⟩ ∈ TB := TB_tab (i := 1166) (by decide +kernel) rfl
theorem mw_1167 : Cond.instanceMethod ⟨"StepMachinesModel", "over", "()I"⟩ ∈ TB := TB_tab (i := 1167) (by decide +kernel) rfl
theorem mw_1168 : Cond.selects "StepMachinesModel" ⟨"StepMachinesModel", "over", "()I"⟩ ⟨"StepMachinesModel", "over", "()I"⟩ ∈ TB := TB_tab (i := 1168) (by decide +kernel) rfl
theorem mw_1169 : Cond.code ⟨"StepMachinesModel", "over", "()I"⟩ prog_14_method_31_code 1 (some .int) ∈ TB := TB_tab (i := 1169) (by decide +kernel) rfl
theorem mw_1170 : Cond.constantLong "StepMachinesLaw" 56 (4294967295 : Int64) ∈ TB := TB_tab (i := 1170) (by decide +kernel) rfl
theorem ms_0 : Cond.selects "StepMachines$Table" ⟨"StepMachines$Table", "make", "()V"⟩ ⟨"StepMachines$Table", "make", "()V"⟩ ∈ TB := TB_sel (i := 0) (by decide +kernel) rfl
theorem ms_1 : Cond.selects "StepMachines$Table" ⟨"StepMachines$Table", "rowFor", "(I)I"⟩ ⟨"StepMachines$Table", "rowFor", "(I)I"⟩ ∈ TB := TB_sel (i := 1) (by decide +kernel) rfl
theorem ms_2 : Cond.selects "StepMachines$Table" ⟨"StepMachines$Table", "makeRow", "(I)Z"⟩ ⟨"StepMachines$Table", "makeRow", "(I)Z"⟩ ∈ TB := TB_sel (i := 2) (by decide +kernel) rfl
theorem ms_3 : Cond.selects "StepMachines$Table" ⟨"StepMachines$Table", "later", "(II)V"⟩ ⟨"StepMachines$Table", "later", "(II)V"⟩ ∈ TB := TB_sel (i := 3) (by decide +kernel) rfl
theorem ms_4 : Cond.selects "StepMachines$Table" ⟨"StepMachines$Table", "walk", "(III)Z"⟩ ⟨"StepMachines$Table", "walk", "(III)Z"⟩ ∈ TB := TB_sel (i := 4) (by decide +kernel) rfl
theorem ms_5 : Cond.selects "StepMachines$Table" ⟨"StepMachines$Table", "takeBytes", "(III)Z"⟩ ⟨"StepMachines$Table", "takeBytes", "(III)Z"⟩ ∈ TB := TB_sel (i := 5) (by decide +kernel) rfl
theorem ms_6 : Cond.selects "java/lang/Throwable" ⟨"java/lang/Throwable", "fillInStackTrace", "(I)Ljava/lang/Throwable;"⟩ ⟨"java/lang/Throwable", "fillInStackTrace", "(I)Ljava/lang/Throwable;"⟩ ∈ TB := TB_sel (i := 6) (by decide +kernel) rfl
theorem ms_7 : Cond.selects "StepMachines" ⟨"StepMachines", "forgetWhatWasMade", "()V"⟩ ⟨"StepMachines", "forgetWhatWasMade", "()V"⟩ ∈ TB := TB_sel (i := 7) (by decide +kernel) rfl
theorem ms_8 : Cond.selects "StepMachines" ⟨"StepMachines", "isQuestion", "(II)Z"⟩ ⟨"StepMachines", "isQuestion", "(II)Z"⟩ ∈ TB := TB_sel (i := 8) (by decide +kernel) rfl
theorem ms_9 : Cond.selects "StepMachines$Marks" ⟨"StepMachines$Marks", "wipe", "()V"⟩ ⟨"StepMachines$Marks", "wipe", "()V"⟩ ∈ TB := TB_sel (i := 9) (by decide +kernel) rfl
theorem ms_10 : Cond.selects "StepMachines$Marks" ⟨"StepMachines$Marks", "tryFrom", "(IIZ)V"⟩ ⟨"StepMachines$Marks", "tryFrom", "(IIZ)V"⟩ ∈ TB := TB_sel (i := 10) (by decide +kernel) rfl
theorem ms_11 : Cond.selects "StepMachines$Marks" ⟨"StepMachines$Marks", "visit", "(III)V"⟩ ⟨"StepMachines$Marks", "visit", "(III)V"⟩ ∈ TB := TB_sel (i := 11) (by decide +kernel) rfl
theorem ms_12 : Cond.selects "StepMachines$Marks" ⟨"StepMachines$Marks", "isNew", "(II)Z"⟩ ⟨"StepMachines$Marks", "isNew", "(II)Z"⟩ ∈ TB := TB_sel (i := 12) (by decide +kernel) rfl
theorem ms_13 : Cond.selects "StepMachines$Marks" ⟨"StepMachines$Marks", "end", "(II)V"⟩ ⟨"StepMachines$Marks", "end", "(II)V"⟩ ∈ TB := TB_sel (i := 13) (by decide +kernel) rfl
theorem ms_14 : Cond.selects "StepMachines$Table" ⟨"StepMachines$Table", "endHere", "(III)Z"⟩ ⟨"StepMachines$Table", "endHere", "(III)Z"⟩ ∈ TB := TB_sel (i := 14) (by decide +kernel) rfl
theorem ms_15 : Cond.selects "StepMachines$Table" ⟨"StepMachines$Table", "allHold", "(II)Z"⟩ ⟨"StepMachines$Table", "allHold", "(II)Z"⟩ ∈ TB := TB_sel (i := 15) (by decide +kernel) rfl
theorem ms_16 : Cond.selects "StepMachines$Threads" ⟨"StepMachines$Threads", "beginThread", "(I)V"⟩ ⟨"StepMachines$Threads", "beginThread", "(I)V"⟩ ∈ TB := TB_sel (i := 16) (by decide +kernel) rfl
theorem ms_17 : Cond.selects "StepMachines$Threads" ⟨"StepMachines$Threads", "comeTo", "(IILStepMachines$Row;[I)V"⟩ ⟨"StepMachines$Threads", "comeTo", "(IILStepMachines$Row;[I)V"⟩ ∈ TB := TB_sel (i := 17) (by decide +kernel) rfl
theorem ms_18 : Cond.selects "StepMachines$Threads" ⟨"StepMachines$Threads", "visit", "(IILStepMachines$Row;[I)V"⟩ ⟨"StepMachines$Threads", "visit", "(IILStepMachines$Row;[I)V"⟩ ∈ TB := TB_sel (i := 18) (by decide +kernel) rfl
theorem ms_19 : Cond.selects "StepMachines$Threads" ⟨"StepMachines$Threads", "writeSaved", "(I[I)V"⟩ ⟨"StepMachines$Threads", "writeSaved", "(I[I)V"⟩ ∈ TB := TB_sel (i := 19) (by decide +kernel) rfl
theorem ms_20 : Cond.selects "StepMachines$Threads" ⟨"StepMachines$Threads", "goOverByte", "(IZI)V"⟩ ⟨"StepMachines$Threads", "goOverByte", "(IZI)V"⟩ ∈ TB := TB_sel (i := 20) (by decide +kernel) rfl
theorem ms_21 : Cond.selects "StepMachines$Threads" ⟨"StepMachines$Threads", "beginningOf", "(I)I"⟩ ⟨"StepMachines$Threads", "beginningOf", "(I)I"⟩ ∈ TB := TB_sel (i := 21) (by decide +kernel) rfl
theorem ms_22 : Cond.selects "StepMachines$Threads" ⟨"StepMachines$Threads", "readSaved", "(I[I)V"⟩ ⟨"StepMachines$Threads", "readSaved", "(I[I)V"⟩ ∈ TB := TB_sel (i := 22) (by decide +kernel) rfl
theorem ms_23 : Cond.selects "StepMachines$Threads" ⟨"StepMachines$Threads", "swapRows", "()V"⟩ ⟨"StepMachines$Threads", "swapRows", "()V"⟩ ∈ TB := TB_sel (i := 23) (by decide +kernel) rfl
theorem ms_24 : Cond.selects "StepMachines" ⟨"StepMachines", "mostTaken", "()I"⟩ ⟨"StepMachines", "mostTaken", "()I"⟩ ∈ TB := TB_sel (i := 24) (by decide +kernel) rfl
theorem ms_25 : Cond.selects "StepMachines$States" ⟨"StepMachines$States", "firstState", "(II)I"⟩ ⟨"StepMachines$States", "firstState", "(II)I"⟩ ∈ TB := TB_sel (i := 25) (by decide +kernel) rfl
theorem ms_26 : Cond.selects "StepMachines$Kept" ⟨"StepMachines$Kept", "isSame", "(ILStepMachines$Row;I)Z"⟩ ⟨"StepMachines$Kept", "isSame", "(ILStepMachines$Row;I)Z"⟩ ∈ TB := TB_sel (i := 26) (by decide +kernel) rfl
theorem ms_27 : Cond.selects "StepMachines$Kept" ⟨"StepMachines$Kept", "add", "(LStepMachines$Row;II)V"⟩ ⟨"StepMachines$Kept", "add", "(LStepMachines$Row;II)V"⟩ ∈ TB := TB_sel (i := 27) (by decide +kernel) rfl
theorem ms_28 : Cond.selects "StepMachines$States" ⟨"StepMachines$States", "moveFrom", "(II)I"⟩ ⟨"StepMachines$States", "moveFrom", "(II)I"⟩ ∈ TB := TB_sel (i := 28) (by decide +kernel) rfl
theorem ms_29 : Cond.selects "StepMachines$States" ⟨"StepMachines$States", "goOver", "(III)Z"⟩ ⟨"StepMachines$States", "goOver", "(III)Z"⟩ ∈ TB := TB_sel (i := 29) (by decide +kernel) rfl
theorem ms_30 : Cond.selects "StepMachines$States" ⟨"StepMachines$States", "follow", "(III)Z"⟩ ⟨"StepMachines$States", "follow", "(III)Z"⟩ ∈ TB := TB_sel (i := 30) (by decide +kernel) rfl
theorem ms_31 : Cond.selects "StepMachines$States" ⟨"StepMachines$States", "visit", "(II)V"⟩ ⟨"StepMachines$States", "visit", "(II)V"⟩ ∈ TB := TB_sel (i := 31) (by decide +kernel) rfl
theorem ms_32 : Cond.selects "StepMachinesModel" ⟨"StepMachinesModel", "isStep", "(I)Z"⟩ ⟨"StepMachinesModel", "isStep", "(I)Z"⟩ ∈ TB := TB_sel (i := 32) (by decide +kernel) rfl
theorem ms_33 : Cond.selects "StepMachinesModel" ⟨"StepMachinesModel", "isGood", "(II)Z"⟩ ⟨"StepMachinesModel", "isGood", "(II)Z"⟩ ∈ TB := TB_sel (i := 33) (by decide +kernel) rfl
theorem ms_34 : Cond.selects "StepMachinesModel" ⟨"StepMachinesModel", "find", "(IZI)I"⟩ ⟨"StepMachinesModel", "find", "(IZI)I"⟩ ∈ TB := TB_sel (i := 34) (by decide +kernel) rfl
theorem ms_35 : Cond.selects "StepMachinesModel" ⟨"StepMachinesModel", "note", "(IIZ)V"⟩ ⟨"StepMachinesModel", "note", "(IIZ)V"⟩ ∈ TB := TB_sel (i := 35) (by decide +kernel) rfl
theorem ms_36 : Cond.selects "StepMachinesModel" ⟨"StepMachinesModel", "takes", "(II)Z"⟩ ⟨"StepMachinesModel", "takes", "(II)Z"⟩ ∈ TB := TB_sel (i := 36) (by decide +kernel) rfl
theorem ms_37 : Cond.selects "StepMachinesModel" ⟨"StepMachinesModel", "passes", "(II)Z"⟩ ⟨"StepMachinesModel", "passes", "(II)Z"⟩ ∈ TB := TB_sel (i := 37) (by decide +kernel) rfl
theorem ms_38 : Cond.selects "StepMachinesModel" ⟨"StepMachinesModel", "isSo", "(II)Z"⟩ ⟨"StepMachinesModel", "isSo", "(II)Z"⟩ ∈ TB := TB_sel (i := 38) (by decide +kernel) rfl
theorem ms_39 : Cond.selects "StepMachinesModel" ⟨"StepMachinesModel", "wordAt", "(I)Z"⟩ ⟨"StepMachinesModel", "wordAt", "(I)Z"⟩ ∈ TB := TB_sel (i := 39) (by decide +kernel) rfl
theorem ms_40 : Cond.selects "StepMachinesModel" ⟨"StepMachinesModel", "lastEnd", "(I)I"⟩ ⟨"StepMachinesModel", "lastEnd", "(I)I"⟩ ∈ TB := TB_sel (i := 40) (by decide +kernel) rfl
theorem ms_41 : Cond.selects "StepMachinesModel" ⟨"StepMachinesModel", "walk", "(II)I"⟩ ⟨"StepMachinesModel", "walk", "(II)I"⟩ ∈ TB := TB_sel (i := 41) (by decide +kernel) rfl
theorem ms_42 : Cond.selects "StepMachinesModel" ⟨"StepMachinesModel", "heap", "(I)V"⟩ ⟨"StepMachinesModel", "heap", "(I)V"⟩ ∈ TB := TB_sel (i := 42) (by decide +kernel) rfl
theorem ms_43 : Cond.selects "StepMachinesModel" ⟨"StepMachinesModel", "undo", "(I)V"⟩ ⟨"StepMachinesModel", "undo", "(I)V"⟩ ∈ TB := TB_sel (i := 43) (by decide +kernel) rfl
theorem ms_44 : Cond.selects "StepMachinesModel" ⟨"StepMachinesModel", "start", "(I)V"⟩ ⟨"StepMachinesModel", "start", "(I)V"⟩ ∈ TB := TB_sel (i := 44) (by decide +kernel) rfl
theorem ms_45 : Cond.selects "StepMachinesModel" ⟨"StepMachinesModel", "spreads", "(I)Z"⟩ ⟨"StepMachinesModel", "spreads", "(I)Z"⟩ ∈ TB := TB_sel (i := 45) (by decide +kernel) rfl
theorem ms_46 : Cond.selects "StepMachinesModel" ⟨"StepMachinesModel", "isWaiting", "(I)Z"⟩ ⟨"StepMachinesModel", "isWaiting", "(I)Z"⟩ ∈ TB := TB_sel (i := 46) (by decide +kernel) rfl
theorem ms_47 : Cond.selects "StepMachinesModel" ⟨"StepMachinesModel", "hold", "(III)V"⟩ ⟨"StepMachinesModel", "hold", "(III)V"⟩ ∈ TB := TB_sel (i := 47) (by decide +kernel) rfl
theorem ms_48 : Cond.selects "StepMachinesModel" ⟨"StepMachinesModel", "areAlike", "(II)Z"⟩ ⟨"StepMachinesModel", "areAlike", "(II)Z"⟩ ∈ TB := TB_sel (i := 48) (by decide +kernel) rfl
