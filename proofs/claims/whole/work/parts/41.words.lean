/-! the words, each by its place -/
theorem hm_0 : Cond.initialized RL ∈ hwG := hwG_of (List.mem_append_left _ (List.mem_of_getElem? (i := 0) rfl)) rfl
theorem hm_1 : Cond.initialized RX3 ∈ hwG := hwG_of (List.mem_append_left _ (List.mem_of_getElem? (i := 1) rfl)) rfl
theorem hm_2 : Cond.initialized RX1 ∈ hwG := hwG_of (List.mem_append_left _ (List.mem_of_getElem? (i := 2) rfl)) rfl
theorem hm_3 : Cond.initialized RX2 ∈ hwG := hwG_of (List.mem_append_left _ (List.mem_of_getElem? (i := 3) rfl)) rfl
theorem hm_4 : Cond.initialized RJ7 ∈ hwG := hwG_of (List.mem_append_left _ (List.mem_of_getElem? (i := 4) rfl)) rfl
theorem hm_5 : Cond.initialized RX0 ∈ hwG := hwG_of (List.mem_append_left _ (List.mem_of_getElem? (i := 5) rfl)) rfl
theorem hm_6 : Cond.initialized RX4 ∈ hwG := hwG_of (List.mem_append_left _ (List.mem_of_getElem? (i := 6) rfl)) rfl
theorem hm_7 : Cond.initialized "java/lang/Throwable" ∈ hwG := hwG_of (List.mem_append_left _ (List.mem_of_getElem? (i := 7) rfl)) rfl
theorem hm_8 : Cond.initialized "java/lang/Exception" ∈ hwG := hwG_of (List.mem_append_left _ (List.mem_of_getElem? (i := 8) rfl)) rfl
theorem hm_9 : Cond.initialized "java/lang/RuntimeException" ∈ hwG := hwG_of (List.mem_append_left _ (List.mem_of_getElem? (i := 9) rfl)) rfl
theorem hm_10 : Cond.initialized "java/lang/IndexOutOfBoundsException" ∈ hwG := hwG_of (List.mem_append_left _ (List.mem_of_getElem? (i := 10) rfl)) rfl
theorem hm_11 : Cond.initialized "java/lang/IllegalStateException" ∈ hwG := hwG_of (List.mem_append_left _ (List.mem_of_getElem? (i := 11) rfl)) rfl
theorem hm_12 : Cond.initialized "java/lang/Math" ∈ hwG := hwG_of (List.mem_append_left _ (List.mem_of_getElem? (i := 12) rfl)) rfl
theorem hm_13 : Cond.initialized "java/lang/IllegalArgumentException" ∈ hwG := hwG_of (List.mem_append_left _ (List.mem_of_getElem? (i := 13) rfl)) rfl
theorem hm_14 : Cond.initialized "java/lang/UnsupportedOperationException" ∈ hwG := hwG_of (List.mem_append_left _ (List.mem_of_getElem? (i := 14) rfl)) rfl
theorem hm_15 : Cond.initialized RJ6 ∈ hwG := hwG_of (List.mem_append_left _ (List.mem_of_getElem? (i := 15) rfl)) rfl
theorem hm_16 : Cond.classLink RL 8 RX3 ∈ hwG := hwG_of (List.mem_append_left _ (List.mem_of_getElem? (i := 16) rfl)) rfl
theorem hm_17 : Cond.instantiable RX3 4 ∈ hwG := hwG_of (List.mem_append_left _ (List.mem_of_getElem? (i := 17) rfl)) rfl
theorem hm_18 : Cond.methodLink RL 69 yX3_init ∈ hwG := hwG_of (List.mem_append_left _ (List.mem_of_getElem? (i := 18) rfl)) rfl
theorem hm_19 : Cond.instanceMethod yX3_init ∈ hwG := hwG_of (List.mem_append_left _ (List.mem_of_getElem? (i := 19) rfl)) rfl
theorem hm_20 : Cond.code yX3_init cX3_init 1 none ∈ hwG := hwG_of (List.mem_append_left _ (List.mem_of_getElem? (i := 20) rfl)) rfl
theorem hm_21 : Cond.methodLink RX3 1 ⟨"java/lang/Object", "<init>", "()V"⟩ ∈ hwG := hwG_of (List.mem_append_left _ (List.mem_of_getElem? (i := 21) rfl)) rfl
theorem hm_22 : Cond.instanceMethod ⟨"java/lang/Object", "<init>", "()V"⟩ ∈ hwG := hwG_of (List.mem_append_left _ (List.mem_of_getElem? (i := 22) rfl)) rfl
theorem hm_23 : Cond.code ⟨"java/lang/Object", "<init>", "()V"⟩ object_method_1_code 1 none ∈ hwG := hwG_of (List.mem_append_left _ (List.mem_of_getElem? (i := 23) rfl)) rfl
theorem hm_24 : Cond.classLink RX3 7 RX1 ∈ hwG := hwG_of (List.mem_append_left _ (List.mem_of_getElem? (i := 24) rfl)) rfl
theorem hm_25 : Cond.instantiable RX1 7 ∈ hwG := hwG_of (List.mem_append_left _ (List.mem_of_getElem? (i := 25) rfl)) rfl
theorem hn_26 : Cond.methodLinkNest RX3 9 yX1_init "HeapClaims" ∈ hzN := hz_nest (List.mem_append_left _ (List.mem_of_getElem? (i := 26) rfl)) rfl
theorem hm_27 : Cond.instanceMethod yX1_init ∈ hwG := hwG_of (List.mem_append_left _ (List.mem_of_getElem? (i := 27) rfl)) rfl
theorem hm_28 : Cond.code yX1_init cX1_init 1 none ∈ hwG := hwG_of (List.mem_append_left _ (List.mem_of_getElem? (i := 28) rfl)) rfl
theorem hm_29 : Cond.methodLink RX1 3 ⟨"java/lang/Object", "<init>", "()V"⟩ ∈ hwG := hwG_of (List.mem_append_left _ (List.mem_of_getElem? (i := 29) rfl)) rfl
theorem hm_30 : Cond.fieldLink RX1 9 "HeapClaims$Claim" "same" "[I" ∈ hwG := hwG_of (List.mem_append_left _ (List.mem_of_getElem? (i := 30) rfl)) rfl
theorem hm_31 : Cond.fieldLink RX1 15 "HeapClaims$Claim" "other" "[I" ∈ hwG := hwG_of (List.mem_append_left _ (List.mem_of_getElem? (i := 31) rfl)) rfl
theorem hm_32 : Cond.fieldLink RX1 18 "HeapClaims$Claim" "from" "[I" ∈ hwG := hwG_of (List.mem_append_left _ (List.mem_of_getElem? (i := 32) rfl)) rfl
theorem hn_33 : Cond.fieldLinkNest RX0 56 "HeapClaims$Claim" "from" "[I" "HeapClaims" ∈ hzN := hz_nest (List.mem_append_left _ (List.mem_of_getElem? (i := 33) rfl)) rfl
theorem hn_34 : Cond.fieldLinkNest RX2 51 "HeapClaims$Claim" "from" "[I" "HeapClaims" ∈ hzN := hz_nest (List.mem_append_left _ (List.mem_of_getElem? (i := 34) rfl)) rfl
theorem hm_35 : Cond.fieldLink RX1 21 "HeapClaims$Claim" "to" "[I" ∈ hwG := hwG_of (List.mem_append_left _ (List.mem_of_getElem? (i := 35) rfl)) rfl
theorem hn_36 : Cond.fieldLinkNest RX0 59 "HeapClaims$Claim" "to" "[I" "HeapClaims" ∈ hzN := hz_nest (List.mem_append_left _ (List.mem_of_getElem? (i := 36) rfl)) rfl
theorem hn_37 : Cond.fieldLinkNest RX2 54 "HeapClaims$Claim" "to" "[I" "HeapClaims" ∈ hzN := hz_nest (List.mem_append_left _ (List.mem_of_getElem? (i := 37) rfl)) rfl
theorem hm_38 : Cond.fieldLink RX1 24 "HeapClaims$Claim" "list" "[Z" ∈ hwG := hwG_of (List.mem_append_left _ (List.mem_of_getElem? (i := 38) rfl)) rfl
theorem hn_39 : Cond.fieldLinkNest RX0 62 "HeapClaims$Claim" "list" "[Z" "HeapClaims" ∈ hzN := hz_nest (List.mem_append_left _ (List.mem_of_getElem? (i := 39) rfl)) rfl
theorem hn_40 : Cond.fieldLinkNest RX2 57 "HeapClaims$Claim" "list" "[Z" "HeapClaims" ∈ hzN := hz_nest (List.mem_append_left _ (List.mem_of_getElem? (i := 40) rfl)) rfl
theorem hm_41 : Cond.fieldLink RX1 32 "HeapClaims$Claim" "size" "I" ∈ hwG := hwG_of (List.mem_append_left _ (List.mem_of_getElem? (i := 41) rfl)) rfl
theorem hn_42 : Cond.fieldLinkNest RX3 46 "HeapClaims$Claim" "size" "I" "HeapClaims" ∈ hzN := hz_nest (List.mem_append_left _ (List.mem_of_getElem? (i := 42) rfl)) rfl
theorem hn_43 : Cond.fieldLinkNest RX0 53 "HeapClaims$Claim" "size" "I" "HeapClaims" ∈ hzN := hz_nest (List.mem_append_left _ (List.mem_of_getElem? (i := 43) rfl)) rfl
theorem hn_44 : Cond.fieldLinkNest RX2 48 "HeapClaims$Claim" "size" "I" "HeapClaims" ∈ hzN := hz_nest (List.mem_append_left _ (List.mem_of_getElem? (i := 44) rfl)) rfl
theorem hm_45 : Cond.fieldLink RX1 28 "HeapClaims$Claim" "named" "I" ∈ hwG := hwG_of (List.mem_append_left _ (List.mem_of_getElem? (i := 45) rfl)) rfl
theorem hn_46 : Cond.fieldLinkNest RX3 63 "HeapClaims$Claim" "named" "I" "HeapClaims" ∈ hzN := hz_nest (List.mem_append_left _ (List.mem_of_getElem? (i := 46) rfl)) rfl
theorem hm_62 : Cond.arrayClass .int ∈ hwG := hwG_of (List.mem_append_left _ (List.mem_of_getElem? (i := 62) rfl)) rfl
theorem hm_63 : Cond.arrayClass .boolean ∈ hwG := hwG_of (List.mem_append_left _ (List.mem_of_getElem? (i := 63) rfl)) rfl
theorem hm_64 : Cond.classLink RX3 19 RX2 ∈ hwG := hwG_of (List.mem_append_left _ (List.mem_of_getElem? (i := 64) rfl)) rfl
theorem hm_65 : Cond.instantiable RX2 6 ∈ hwG := hwG_of (List.mem_append_left _ (List.mem_of_getElem? (i := 65) rfl)) rfl
theorem hm_66 : Cond.methodLink RX3 21 yX2_init ∈ hwG := hwG_of (List.mem_append_left _ (List.mem_of_getElem? (i := 66) rfl)) rfl
theorem hm_67 : Cond.instanceMethod yX2_init ∈ hwG := hwG_of (List.mem_append_left _ (List.mem_of_getElem? (i := 67) rfl)) rfl
theorem hm_68 : Cond.code yX2_init cX2_init 2 none ∈ hwG := hwG_of (List.mem_append_left _ (List.mem_of_getElem? (i := 68) rfl)) rfl
theorem hm_69 : Cond.methodLink RX2 3 ⟨"java/lang/Object", "<init>", "()V"⟩ ∈ hwG := hwG_of (List.mem_append_left _ (List.mem_of_getElem? (i := 69) rfl)) rfl
theorem hm_70 : Cond.methodLink RX2 29 yJ7_fill ∈ hwG := hwG_of (List.mem_append_left _ (List.mem_of_getElem? (i := 70) rfl)) rfl
theorem hm_71 : Cond.static yJ7_fill ∈ hwG := hwG_of (List.mem_append_left _ (List.mem_of_getElem? (i := 71) rfl)) rfl
theorem hm_72 : Cond.code yJ7_fill cJ7_fill 4 none ∈ hwG := hwG_of (List.mem_append_left _ (List.mem_of_getElem? (i := 72) rfl)) rfl
theorem hm_73 : Cond.fieldLink RX2 9 "HeapClaims$Heap" "values" "[I" ∈ hwG := hwG_of (List.mem_append_left _ (List.mem_of_getElem? (i := 73) rfl)) rfl
theorem hn_74 : Cond.fieldLinkNest RX0 24 "HeapClaims$Heap" "values" "[I" "HeapClaims" ∈ hzN := hz_nest (List.mem_append_left _ (List.mem_of_getElem? (i := 74) rfl)) rfl
theorem hn_75 : Cond.fieldLinkNest RX3 96 "HeapClaims$Heap" "values" "[I" "HeapClaims" ∈ hzN := hz_nest (List.mem_append_left _ (List.mem_of_getElem? (i := 75) rfl)) rfl
theorem hm_76 : Cond.fieldLink RX2 15 "HeapClaims$Heap" "greatest" "I" ∈ hwG := hwG_of (List.mem_append_left _ (List.mem_of_getElem? (i := 76) rfl)) rfl
theorem hm_77 : Cond.fieldLink RX2 19 "HeapClaims$Heap" "ends" "[I" ∈ hwG := hwG_of (List.mem_append_left _ (List.mem_of_getElem? (i := 77) rfl)) rfl
theorem hn_78 : Cond.fieldLinkNest RX3 116 "HeapClaims$Heap" "ends" "[I" "HeapClaims" ∈ hzN := hz_nest (List.mem_append_left _ (List.mem_of_getElem? (i := 78) rfl)) rfl
theorem hm_79 : Cond.fieldLink RX2 22 "HeapClaims$Heap" "isLong" "[Z" ∈ hwG := hwG_of (List.mem_append_left _ (List.mem_of_getElem? (i := 79) rfl)) rfl
theorem hm_80 : Cond.fieldLink RX2 26 "HeapClaims$Heap" "bits" "[I" ∈ hwG := hwG_of (List.mem_append_left _ (List.mem_of_getElem? (i := 80) rfl)) rfl
theorem hm_81 : Cond.fieldLink RX2 39 "HeapClaims$Heap" "filled" "I" ∈ hwG := hwG_of (List.mem_append_left _ (List.mem_of_getElem? (i := 81) rfl)) rfl
theorem hn_82 : Cond.fieldLinkNest RX3 110 "HeapClaims$Heap" "filled" "I" "HeapClaims" ∈ hzN := hz_nest (List.mem_append_left _ (List.mem_of_getElem? (i := 82) rfl)) rfl
theorem hm_96 : Cond.classLink RX3 28 RX0 ∈ hwG := hwG_of (List.mem_append_left _ (List.mem_of_getElem? (i := 96) rfl)) rfl
theorem hm_97 : Cond.instantiable RX0 2 ∈ hwG := hwG_of (List.mem_append_left _ (List.mem_of_getElem? (i := 97) rfl)) rfl
theorem hn_98 : Cond.methodLinkNest RX3 30 yX0_init "HeapClaims" ∈ hzN := hz_nest (List.mem_append_left _ (List.mem_of_getElem? (i := 98) rfl)) rfl
theorem hm_99 : Cond.instanceMethod yX0_init ∈ hwG := hwG_of (List.mem_append_left _ (List.mem_of_getElem? (i := 99) rfl)) rfl
theorem hm_100 : Cond.code yX0_init cX0_init 1 none ∈ hwG := hwG_of (List.mem_append_left _ (List.mem_of_getElem? (i := 100) rfl)) rfl
theorem hm_101 : Cond.methodLink RX0 3 ⟨"java/lang/Object", "<init>", "()V"⟩ ∈ hwG := hwG_of (List.mem_append_left _ (List.mem_of_getElem? (i := 101) rfl)) rfl
theorem hm_102 : Cond.classLink RX0 9 RX2 ∈ hwG := hwG_of (List.mem_append_left _ (List.mem_of_getElem? (i := 102) rfl)) rfl
theorem hm_103 : Cond.methodLink RX0 11 yX2_init ∈ hwG := hwG_of (List.mem_append_left _ (List.mem_of_getElem? (i := 103) rfl)) rfl
theorem hm_104 : Cond.fieldLink RX0 14 "HeapClaims$Cases" "heap" "LHeapClaims$Heap;" ∈ hwG := hwG_of (List.mem_append_left _ (List.mem_of_getElem? (i := 104) rfl)) rfl
theorem hn_105 : Cond.fieldLinkNest RX3 153 "HeapClaims$Cases" "heap" "LHeapClaims$Heap;" "HeapClaims" ∈ hzN := hz_nest (List.mem_append_left _ (List.mem_of_getElem? (i := 105) rfl)) rfl
theorem hm_106 : Cond.fieldLink RX0 20 "HeapClaims$Cases" "named" "I" ∈ hwG := hwG_of (List.mem_append_left _ (List.mem_of_getElem? (i := 106) rfl)) rfl
theorem hm_112 : Cond.fieldLink RX3 10 "HeapClaims" "left" "LHeapClaims$Claim;" ∈ hwG := hwG_of (List.mem_append_left _ (List.mem_of_getElem? (i := 112) rfl)) rfl
theorem hm_113 : Cond.fieldLink RX3 16 "HeapClaims" "right" "LHeapClaims$Claim;" ∈ hwG := hwG_of (List.mem_append_left _ (List.mem_of_getElem? (i := 113) rfl)) rfl
theorem hm_114 : Cond.fieldLink RX3 24 "HeapClaims" "state" "LHeapClaims$Heap;" ∈ hwG := hwG_of (List.mem_append_left _ (List.mem_of_getElem? (i := 114) rfl)) rfl
theorem hm_115 : Cond.fieldLink RX3 31 "HeapClaims" "cases" "LHeapClaims$Cases;" ∈ hwG := hwG_of (List.mem_append_left _ (List.mem_of_getElem? (i := 115) rfl)) rfl
theorem hm_125 : Cond.methodLink RL 91 yX3_swap ∈ hwG := hwG_of (List.mem_append_left _ (List.mem_of_getElem? (i := 125) rfl)) rfl
theorem hm_126 : Cond.instanceMethod yX3_swap ∈ hwG := hwG_of (List.mem_append_left _ (List.mem_of_getElem? (i := 126) rfl)) rfl
theorem hm_127 : Cond.selects RX3 yX3_swap yX3_swap ∈ hwG := hwG_of (List.mem_append_left _ (List.mem_of_getElem? (i := 127) rfl)) rfl
theorem hm_128 : Cond.code yX3_swap cX3_swap 2 none ∈ hwG := hwG_of (List.mem_append_left _ (List.mem_of_getElem? (i := 128) rfl)) rfl
theorem hm_129 : Cond.methodLink RL 102 yX3_implies ∈ hwG := hwG_of (List.mem_append_left _ (List.mem_of_getElem? (i := 129) rfl)) rfl
theorem hm_130 : Cond.instanceMethod yX3_implies ∈ hwG := hwG_of (List.mem_append_left _ (List.mem_of_getElem? (i := 130) rfl)) rfl
theorem hm_131 : Cond.selects RX3 yX3_implies yX3_implies ∈ hwG := hwG_of (List.mem_append_left _ (List.mem_of_getElem? (i := 131) rfl)) rfl
theorem hm_132 : Cond.code yX3_implies cX3_implies 1 (some .boolean) ∈ hwG := hwG_of (List.mem_append_left _ (List.mem_of_getElem? (i := 132) rfl)) rfl
theorem hm_133 : Cond.methodLink RX3 77 yX3_leastFrame ∈ hwG := hwG_of (List.mem_append_left _ (List.mem_of_getElem? (i := 133) rfl)) rfl
theorem hm_135 : Cond.instanceMethod yX3_leastFrame ∈ hwG := hwG_of (List.mem_append_left _ (List.mem_of_getElem? (i := 135) rfl)) rfl
theorem hm_136 : Cond.code yX3_leastFrame cX3_leastFrame 6 (some .int) ∈ hwG := hwG_of (List.mem_append_left _ (List.mem_of_getElem? (i := 136) rfl)) rfl
theorem hm_137 : Cond.methodLink RX3 66 yX0_begin ∈ hwG := hwG_of (List.mem_append_left _ (List.mem_of_getElem? (i := 137) rfl)) rfl
theorem hm_138 : Cond.instanceMethod yX0_begin ∈ hwG := hwG_of (List.mem_append_left _ (List.mem_of_getElem? (i := 138) rfl)) rfl
theorem hm_139 : Cond.selects RX0 yX0_begin yX0_begin ∈ hwG := hwG_of (List.mem_append_left _ (List.mem_of_getElem? (i := 139) rfl)) rfl
theorem hm_140 : Cond.code yX0_begin cX0_begin 2 none ∈ hwG := hwG_of (List.mem_append_left _ (List.mem_of_getElem? (i := 140) rfl)) rfl
theorem hm_141 : Cond.methodLink RX0 28 yJ7_fill ∈ hwG := hwG_of (List.mem_append_left _ (List.mem_of_getElem? (i := 141) rfl)) rfl
theorem hm_142 : Cond.methodLink RX3 69 yX0_draw ∈ hwG := hwG_of (List.mem_append_left _ (List.mem_of_getElem? (i := 142) rfl)) rfl
theorem hm_143 : Cond.instanceMethod yX0_draw ∈ hwG := hwG_of (List.mem_append_left _ (List.mem_of_getElem? (i := 143) rfl)) rfl
theorem hm_144 : Cond.selects RX0 yX0_draw yX0_draw ∈ hwG := hwG_of (List.mem_append_left _ (List.mem_of_getElem? (i := 144) rfl)) rfl
theorem hm_145 : Cond.code yX0_draw cX0_draw 6 (some .boolean) ∈ hwG := hwG_of (List.mem_append_left _ (List.mem_of_getElem? (i := 145) rfl)) rfl
theorem hm_146 : Cond.methodLink RX0 44 yX1_pairsFit ∈ hwG := hwG_of (List.mem_append_left _ (List.mem_of_getElem? (i := 146) rfl)) rfl
theorem hm_147 : Cond.instanceMethod yX1_pairsFit ∈ hwG := hwG_of (List.mem_append_left _ (List.mem_of_getElem? (i := 147) rfl)) rfl
theorem hm_148 : Cond.selects RX1 yX1_pairsFit yX1_pairsFit ∈ hwG := hwG_of (List.mem_append_left _ (List.mem_of_getElem? (i := 148) rfl)) rfl
theorem hm_149 : Cond.code yX1_pairsFit cX1_pairsFit 4 (some .boolean) ∈ hwG := hwG_of (List.mem_append_left _ (List.mem_of_getElem? (i := 149) rfl)) rfl
theorem hm_150 : Cond.methodLink RX1 41 yX1_termsEqualTo ∈ hwG := hwG_of (List.mem_append_left _ (List.mem_of_getElem? (i := 150) rfl)) rfl
theorem hm_151 : Cond.static yX1_termsEqualTo ∈ hwG := hwG_of (List.mem_append_left _ (List.mem_of_getElem? (i := 151) rfl)) rfl
theorem hm_152 : Cond.code yX1_termsEqualTo cX1_termsEqualTo 4 (some .int) ∈ hwG := hwG_of (List.mem_append_left _ (List.mem_of_getElem? (i := 152) rfl)) rfl
theorem hm_153 : Cond.methodLink RX0 50 yX2_removeAll ∈ hwG := hwG_of (List.mem_append_left _ (List.mem_of_getElem? (i := 153) rfl)) rfl
theorem hm_154 : Cond.instanceMethod yX2_removeAll ∈ hwG := hwG_of (List.mem_append_left _ (List.mem_of_getElem? (i := 154) rfl)) rfl
theorem hm_155 : Cond.selects RX2 yX2_removeAll yX2_removeAll ∈ hwG := hwG_of (List.mem_append_left _ (List.mem_of_getElem? (i := 155) rfl)) rfl
theorem hm_156 : Cond.code yX2_removeAll cX2_removeAll 1 none ∈ hwG := hwG_of (List.mem_append_left _ (List.mem_of_getElem? (i := 156) rfl)) rfl
theorem hm_157 : Cond.methodLink RX0 66 yX2_hasCell ∈ hwG := hwG_of (List.mem_append_left _ (List.mem_of_getElem? (i := 157) rfl)) rfl
theorem hm_158 : Cond.instanceMethod yX2_hasCell ∈ hwG := hwG_of (List.mem_append_left _ (List.mem_of_getElem? (i := 158) rfl)) rfl
theorem hm_159 : Cond.selects RX2 yX2_hasCell yX2_hasCell ∈ hwG := hwG_of (List.mem_append_left _ (List.mem_of_getElem? (i := 159) rfl)) rfl
theorem hm_160 : Cond.code yX2_hasCell cX2_hasCell 2 (some .boolean) ∈ hwG := hwG_of (List.mem_append_left _ (List.mem_of_getElem? (i := 160) rfl)) rfl
theorem hm_161 : Cond.methodLink RX0 70 yX2_setStretch ∈ hwG := hwG_of (List.mem_append_left _ (List.mem_of_getElem? (i := 161) rfl)) rfl
theorem hm_162 : Cond.instanceMethod yX2_setStretch ∈ hwG := hwG_of (List.mem_append_left _ (List.mem_of_getElem? (i := 162) rfl)) rfl
theorem hm_163 : Cond.selects RX2 yX2_setStretch yX2_setStretch ∈ hwG := hwG_of (List.mem_append_left _ (List.mem_of_getElem? (i := 163) rfl)) rfl
theorem hm_164 : Cond.code yX2_setStretch cX2_setStretch 5 none ∈ hwG := hwG_of (List.mem_append_left _ (List.mem_of_getElem? (i := 164) rfl)) rfl
theorem hm_165 : Cond.methodLink RX3 106 yX2_takenBy ∈ hwG := hwG_of (List.mem_append_left _ (List.mem_of_getElem? (i := 165) rfl)) rfl
theorem hm_166 : Cond.instanceMethod yX2_takenBy ∈ hwG := hwG_of (List.mem_append_left _ (List.mem_of_getElem? (i := 166) rfl)) rfl
theorem hm_167 : Cond.selects RX2 yX2_takenBy yX2_takenBy ∈ hwG := hwG_of (List.mem_append_left _ (List.mem_of_getElem? (i := 167) rfl)) rfl
theorem hm_168 : Cond.code yX2_takenBy cX2_takenBy 7 (some .int) ∈ hwG := hwG_of (List.mem_append_left _ (List.mem_of_getElem? (i := 168) rfl)) rfl
theorem hm_169 : Cond.methodLink RX2 42 yX1_pairsFit ∈ hwG := hwG_of (List.mem_append_left _ (List.mem_of_getElem? (i := 169) rfl)) rfl
theorem hm_170 : Cond.methodLink RX2 60 yX2_takenByList ∈ hwG := hwG_of (List.mem_append_left _ (List.mem_of_getElem? (i := 170) rfl)) rfl
theorem hm_172 : Cond.instanceMethod yX2_takenByList ∈ hwG := hwG_of (List.mem_append_left _ (List.mem_of_getElem? (i := 172) rfl)) rfl
theorem hm_173 : Cond.code yX2_takenByList cX2_takenByList 7 (some .int) ∈ hwG := hwG_of (List.mem_append_left _ (List.mem_of_getElem? (i := 173) rfl)) rfl
theorem hm_174 : Cond.methodLink RX2 67 yX2_hasCell ∈ hwG := hwG_of (List.mem_append_left _ (List.mem_of_getElem? (i := 174) rfl)) rfl
theorem hm_175 : Cond.methodLink RX2 64 yX2_takenByCell ∈ hwG := hwG_of (List.mem_append_left _ (List.mem_of_getElem? (i := 175) rfl)) rfl
theorem hm_177 : Cond.instanceMethod yX2_takenByCell ∈ hwG := hwG_of (List.mem_append_left _ (List.mem_of_getElem? (i := 177) rfl)) rfl
theorem hm_178 : Cond.code yX2_takenByCell cX2_takenByCell 3 (some .int) ∈ hwG := hwG_of (List.mem_append_left _ (List.mem_of_getElem? (i := 178) rfl)) rfl
theorem hm_179 : Cond.methodLink RX3 73 yX0_advance ∈ hwG := hwG_of (List.mem_append_left _ (List.mem_of_getElem? (i := 179) rfl)) rfl
theorem hm_180 : Cond.instanceMethod yX0_advance ∈ hwG := hwG_of (List.mem_append_left _ (List.mem_of_getElem? (i := 180) rfl)) rfl
theorem hm_181 : Cond.selects RX0 yX0_advance yX0_advance ∈ hwG := hwG_of (List.mem_append_left _ (List.mem_of_getElem? (i := 181) rfl)) rfl
theorem hm_182 : Cond.code yX0_advance cX0_advance 3 (some .boolean) ∈ hwG := hwG_of (List.mem_append_left _ (List.mem_of_getElem? (i := 182) rfl)) rfl
theorem hm_183 : Cond.methodLink RX0 34 yX0_greatestBefore ∈ hwG := hwG_of (List.mem_append_left _ (List.mem_of_getElem? (i := 183) rfl)) rfl
theorem hm_185 : Cond.instanceMethod yX0_greatestBefore ∈ hwG := hwG_of (List.mem_append_left _ (List.mem_of_getElem? (i := 185) rfl)) rfl
theorem hm_186 : Cond.code yX0_greatestBefore cX0_greatestBefore 4 (some .int) ∈ hwG := hwG_of (List.mem_append_left _ (List.mem_of_getElem? (i := 186) rfl)) rfl
theorem hm_187 : Cond.methodLink RX0 38 ⟨"java/lang/Math", "max", "(II)I"⟩ ∈ hwG := hwG_of (List.mem_append_left _ (List.mem_of_getElem? (i := 187) rfl)) rfl
theorem hm_188 : Cond.static ⟨"java/lang/Math", "max", "(II)I"⟩ ∈ hwG := hwG_of (List.mem_append_left _ (List.mem_of_getElem? (i := 188) rfl)) rfl
theorem hm_189 : Cond.code ⟨"java/lang/Math", "max", "(II)I"⟩ prog_12_method_65_code 2 (some .int) ∈ hwG := hwG_of (List.mem_append_left _ (List.mem_of_getElem? (i := 189) rfl)) rfl
theorem hm_190 : Cond.methodLink RL 111 yX3_frame ∈ hwG := hwG_of (List.mem_append_left _ (List.mem_of_getElem? (i := 190) rfl)) rfl
theorem hm_191 : Cond.instanceMethod yX3_frame ∈ hwG := hwG_of (List.mem_append_left _ (List.mem_of_getElem? (i := 191) rfl)) rfl
theorem hm_192 : Cond.selects RX3 yX3_frame yX3_frame ∈ hwG := hwG_of (List.mem_append_left _ (List.mem_of_getElem? (i := 192) rfl)) rfl
theorem hm_193 : Cond.code yX3_frame cX3_frame 1 (some .int) ∈ hwG := hwG_of (List.mem_append_left _ (List.mem_of_getElem? (i := 193) rfl)) rfl
theorem hm_194 : Cond.methodLink RL 143 yX3_next ∈ hwG := hwG_of (List.mem_append_left _ (List.mem_of_getElem? (i := 194) rfl)) rfl
theorem hm_195 : Cond.instanceMethod yX3_next ∈ hwG := hwG_of (List.mem_append_left _ (List.mem_of_getElem? (i := 195) rfl)) rfl
theorem hm_196 : Cond.selects RX3 yX3_next yX3_next ∈ hwG := hwG_of (List.mem_append_left _ (List.mem_of_getElem? (i := 196) rfl)) rfl
theorem hm_197 : Cond.code yX3_next cX3_next 2 (some .int) ∈ hwG := hwG_of (List.mem_append_left _ (List.mem_of_getElem? (i := 197) rfl)) rfl
theorem hm_198 : Cond.methodLink RX3 130 yX2_hasCell ∈ hwG := hwG_of (List.mem_append_left _ (List.mem_of_getElem? (i := 198) rfl)) rfl
theorem hm_199 : Cond.methodLink RL 147 yX3_count ∈ hwG := hwG_of (List.mem_append_left _ (List.mem_of_getElem? (i := 199) rfl)) rfl
theorem hm_200 : Cond.instanceMethod yX3_count ∈ hwG := hwG_of (List.mem_append_left _ (List.mem_of_getElem? (i := 200) rfl)) rfl
theorem hm_201 : Cond.selects RX3 yX3_count yX3_count ∈ hwG := hwG_of (List.mem_append_left _ (List.mem_of_getElem? (i := 201) rfl)) rfl
theorem hm_202 : Cond.code yX3_count cX3_count 1 (some .int) ∈ hwG := hwG_of (List.mem_append_left _ (List.mem_of_getElem? (i := 202) rfl)) rfl
theorem hm_203 : Cond.methodLink RX3 134 yJ6_bitCount ∈ hwG := hwG_of (List.mem_append_left _ (List.mem_of_getElem? (i := 203) rfl)) rfl
theorem hm_204 : Cond.static yJ6_bitCount ∈ hwG := hwG_of (List.mem_append_left _ (List.mem_of_getElem? (i := 204) rfl)) rfl
theorem hm_205 : Cond.code yJ6_bitCount cJ6_bitCount 1 (some .int) ∈ hwG := hwG_of (List.mem_append_left _ (List.mem_of_getElem? (i := 205) rfl)) rfl
theorem hm_206 : Cond.constant RJ6 265 1431655765 ∈ hwG := hwG_of (List.mem_append_left _ (List.mem_of_getElem? (i := 206) rfl)) rfl
theorem hm_207 : Cond.constant RJ6 266 858993459 ∈ hwG := hwG_of (List.mem_append_left _ (List.mem_of_getElem? (i := 207) rfl)) rfl
theorem hm_208 : Cond.constant RJ6 267 252645135 ∈ hwG := hwG_of (List.mem_append_left _ (List.mem_of_getElem? (i := 208) rfl)) rfl
theorem hm_209 : Cond.methodLink RL 73 yL_pair ∈ hwG := hwG_of (List.mem_append_left _ (List.mem_of_getElem? (i := 209) rfl)) rfl
theorem hm_210 : Cond.static yL_pair ∈ hwG := hwG_of (List.mem_append_left _ (List.mem_of_getElem? (i := 210) rfl)) rfl
theorem hm_211 : Cond.codeWith yL_pair cL_pair 6 (some .int) [(0, 9, 12, 13)] ∈ hwG := hwG_of (List.mem_append_left _ (List.mem_of_getElem? (i := 211) rfl)) rfl
theorem hm_212 : Cond.classLink RL 13 "java/lang/IndexOutOfBoundsException" ∈ hwG := hwG_of (List.mem_append_left _ (List.mem_of_getElem? (i := 212) rfl)) rfl
theorem hm_213 : Cond.methodLink RL 7 yX3_pair ∈ hwG := hwG_of (List.mem_append_left _ (List.mem_of_getElem? (i := 213) rfl)) rfl
theorem hm_214 : Cond.instanceMethod yX3_pair ∈ hwG := hwG_of (List.mem_append_left _ (List.mem_of_getElem? (i := 214) rfl)) rfl
theorem hm_215 : Cond.selects RX3 yX3_pair yX3_pair ∈ hwG := hwG_of (List.mem_append_left _ (List.mem_of_getElem? (i := 215) rfl)) rfl
theorem hm_216 : Cond.code yX3_pair cX3_pair 6 none ∈ hwG := hwG_of (List.mem_append_left _ (List.mem_of_getElem? (i := 216) rfl)) rfl
theorem hm_217 : Cond.methodLink RX3 35 yX3_claimAt ∈ hwG := hwG_of (List.mem_append_left _ (List.mem_of_getElem? (i := 217) rfl)) rfl
theorem hm_219 : Cond.instanceMethod yX3_claimAt ∈ hwG := hwG_of (List.mem_append_left _ (List.mem_of_getElem? (i := 219) rfl)) rfl
theorem hm_220 : Cond.code yX3_claimAt cX3_claimAt 2 (some (.object "HeapClaims$Claim")) ∈ hwG := hwG_of (List.mem_append_left _ (List.mem_of_getElem? (i := 220) rfl)) rfl
theorem hm_221 : Cond.classLink RX3 140 "java/lang/IndexOutOfBoundsException" ∈ hwG := hwG_of (List.mem_append_left _ (List.mem_of_getElem? (i := 221) rfl)) rfl
theorem hm_222 : Cond.instantiable "java/lang/IndexOutOfBoundsException" 6 ∈ hwG := hwG_of (List.mem_append_left _ (List.mem_of_getElem? (i := 222) rfl)) rfl
theorem hm_230 : Cond.selects "java/lang/IndexOutOfBoundsException" ⟨"java/lang/Throwable", "fillInStackTrace", "(I)Ljava/lang/Throwable;"⟩ ⟨"java/lang/Throwable", "fillInStackTrace", "(I)Ljava/lang/Throwable;"⟩ ∈ hwG := hwG_of (List.mem_append_left _ (List.mem_of_getElem? (i := 230) rfl)) rfl
theorem hm_231 : Cond.selects "java/lang/IndexOutOfBoundsException" ⟨"java/lang/Throwable", "fillInStackTrace", "()Ljava/lang/Throwable;"⟩ ⟨"java/lang/Throwable", "fillInStackTrace", "()Ljava/lang/Throwable;"⟩ ∈ hwG := hwG_of (List.mem_append_left _ (List.mem_of_getElem? (i := 231) rfl)) rfl
theorem hm_242 : Cond.fieldLink "java/lang/Throwable" 198 "java/lang/Throwable" "backtrace" "Ljava/lang/Object;" ∈ hwG := hwG_of (List.mem_append_right _ (List.mem_append_left _ (List.mem_of_getElem? (i := 2) rfl))) rfl
theorem hm_244 : Cond.instanceMethod ⟨"java/lang/Throwable", "<init>", "()V"⟩ ∈ hwG := hwG_of (List.mem_append_right _ (List.mem_append_left _ (List.mem_of_getElem? (i := 4) rfl))) rfl
theorem hm_245 : Cond.code ⟨"java/lang/Throwable", "<init>", "()V"⟩ prog_15_method_1_code 1 none ∈ hwG := hwG_of (List.mem_append_right _ (List.mem_append_left _ (List.mem_of_getElem? (i := 5) rfl))) rfl
theorem hm_246 : Cond.methodLink "java/lang/Throwable" 1 ⟨"java/lang/Object", "<init>", "()V"⟩ ∈ hwG := hwG_of (List.mem_append_right _ (List.mem_append_left _ (List.mem_of_getElem? (i := 6) rfl))) rfl
theorem hm_247 : Cond.fieldLink "java/lang/Throwable" 13 "java/lang/Throwable" "UNASSIGNED_STACK" "[Ljava/lang/StackTraceElement;" ∈ hwG := hwG_of (List.mem_append_right _ (List.mem_append_left _ (List.mem_of_getElem? (i := 7) rfl))) rfl
theorem hm_249 : Cond.fieldLink "java/lang/Throwable" 20 "java/lang/Throwable" "SUPPRESSED_SENTINEL" "Ljava/util/List;" ∈ hwG := hwG_of (List.mem_append_right _ (List.mem_append_left _ (List.mem_of_getElem? (i := 9) rfl))) rfl
theorem hm_251 : Cond.methodLink "java/lang/Throwable" 27 ⟨"java/lang/Throwable", "fillInStackTrace", "()Ljava/lang/Throwable;"⟩ ∈ hwG := hwG_of (List.mem_append_right _ (List.mem_append_left _ (List.mem_of_getElem? (i := 11) rfl))) rfl
theorem hm_252 : Cond.instanceMethod ⟨"java/lang/Throwable", "fillInStackTrace", "()Ljava/lang/Throwable;"⟩ ∈ hwG := hwG_of (List.mem_append_right _ (List.mem_append_left _ (List.mem_of_getElem? (i := 12) rfl))) rfl
theorem hm_254 : Cond.selects "java/lang/IllegalArgumentException" ⟨"java/lang/Throwable", "fillInStackTrace", "()Ljava/lang/Throwable;"⟩ ⟨"java/lang/Throwable", "fillInStackTrace", "()Ljava/lang/Throwable;"⟩ ∈ hwG := hwG_of (List.mem_append_right _ (List.mem_append_left _ (List.mem_of_getElem? (i := 14) rfl))) rfl
theorem hm_255 : Cond.selects "java/lang/IllegalStateException" ⟨"java/lang/Throwable", "fillInStackTrace", "()Ljava/lang/Throwable;"⟩ ⟨"java/lang/Throwable", "fillInStackTrace", "()Ljava/lang/Throwable;"⟩ ∈ hwG := hwG_of (List.mem_append_right _ (List.mem_append_left _ (List.mem_of_getElem? (i := 15) rfl))) rfl
theorem hm_256 : Cond.selects "java/lang/UnsupportedOperationException" ⟨"java/lang/Throwable", "fillInStackTrace", "()Ljava/lang/Throwable;"⟩ ⟨"java/lang/Throwable", "fillInStackTrace", "()Ljava/lang/Throwable;"⟩ ∈ hwG := hwG_of (List.mem_append_right _ (List.mem_append_left _ (List.mem_of_getElem? (i := 16) rfl))) rfl
theorem hm_258 : Cond.methodLink "java/lang/Throwable" 202 ⟨"java/lang/Throwable", "fillInStackTrace", "(I)Ljava/lang/Throwable;"⟩ ∈ hwG := hwG_of (List.mem_append_right _ (List.mem_append_left _ (List.mem_of_getElem? (i := 18) rfl))) rfl
theorem hm_260 : Cond.instanceMethod ⟨"java/lang/Throwable", "fillInStackTrace", "(I)Ljava/lang/Throwable;"⟩ ∈ hwG := hwG_of (List.mem_append_right _ (List.mem_append_left _ (List.mem_of_getElem? (i := 20) rfl))) rfl
theorem hm_261 : Cond.instantiable "java/lang/Throwable" 6 ∈ hwG := hwG_of (List.mem_append_right _ (List.mem_append_left _ (List.mem_of_getElem? (i := 21) rfl))) rfl
theorem hm_264 : Cond.methodLink RX3 144 ⟨"java/lang/IndexOutOfBoundsException", "<init>", "(Ljava/lang/String;)V"⟩ ∈ hwG := hwG_of (List.mem_append_right _ (List.mem_append_left _ (List.mem_of_getElem? (i := 24) rfl))) rfl
theorem hm_265 : Cond.instanceMethod ⟨"java/lang/IndexOutOfBoundsException", "<init>", "(Ljava/lang/String;)V"⟩ ∈ hwG := hwG_of (List.mem_append_right _ (List.mem_append_left _ (List.mem_of_getElem? (i := 25) rfl))) rfl
theorem hm_266 : Cond.code ⟨"java/lang/IndexOutOfBoundsException", "<init>", "(Ljava/lang/String;)V"⟩ prog_10_method_2_code 2 none ∈ hwG := hwG_of (List.mem_append_right _ (List.mem_append_left _ (List.mem_of_getElem? (i := 26) rfl))) rfl
theorem hm_267 : Cond.methodLink "java/lang/IndexOutOfBoundsException" 7 ⟨"java/lang/RuntimeException", "<init>", "(Ljava/lang/String;)V"⟩ ∈ hwG := hwG_of (List.mem_append_right _ (List.mem_append_left _ (List.mem_of_getElem? (i := 27) rfl))) rfl
theorem hm_268 : Cond.instanceMethod ⟨"java/lang/RuntimeException", "<init>", "(Ljava/lang/String;)V"⟩ ∈ hwG := hwG_of (List.mem_append_right _ (List.mem_append_left _ (List.mem_of_getElem? (i := 28) rfl))) rfl
theorem hm_269 : Cond.code ⟨"java/lang/RuntimeException", "<init>", "(Ljava/lang/String;)V"⟩ prog_13_method_2_code 2 none ∈ hwG := hwG_of (List.mem_append_right _ (List.mem_append_left _ (List.mem_of_getElem? (i := 29) rfl))) rfl
theorem hm_270 : Cond.methodLink "java/lang/RuntimeException" 7 ⟨"java/lang/Exception", "<init>", "(Ljava/lang/String;)V"⟩ ∈ hwG := hwG_of (List.mem_append_right _ (List.mem_append_left _ (List.mem_of_getElem? (i := 30) rfl))) rfl
theorem hm_271 : Cond.instanceMethod ⟨"java/lang/Exception", "<init>", "(Ljava/lang/String;)V"⟩ ∈ hwG := hwG_of (List.mem_append_right _ (List.mem_append_left _ (List.mem_of_getElem? (i := 31) rfl))) rfl
theorem hm_272 : Cond.code ⟨"java/lang/Exception", "<init>", "(Ljava/lang/String;)V"⟩ prog_7_method_2_code 2 none ∈ hwG := hwG_of (List.mem_append_right _ (List.mem_append_left _ (List.mem_of_getElem? (i := 32) rfl))) rfl
theorem hm_273 : Cond.methodLink "java/lang/Exception" 7 ⟨"java/lang/Throwable", "<init>", "(Ljava/lang/String;)V"⟩ ∈ hwG := hwG_of (List.mem_append_right _ (List.mem_append_left _ (List.mem_of_getElem? (i := 33) rfl))) rfl
theorem hm_274 : Cond.instanceMethod ⟨"java/lang/Throwable", "<init>", "(Ljava/lang/String;)V"⟩ ∈ hwG := hwG_of (List.mem_append_right _ (List.mem_append_left _ (List.mem_of_getElem? (i := 34) rfl))) rfl
theorem hm_275 : Cond.code ⟨"java/lang/Throwable", "<init>", "(Ljava/lang/String;)V"⟩ prog_15_method_2_code 2 none ∈ hwG := hwG_of (List.mem_append_right _ (List.mem_append_left _ (List.mem_of_getElem? (i := 35) rfl))) rfl
theorem hm_277 : Cond.fieldLink "java/lang/Throwable" 31 "java/lang/Throwable" "detailMessage" "Ljava/lang/String;" ∈ hwG := hwG_of (List.mem_append_right _ (List.mem_append_left _ (List.mem_of_getElem? (i := 37) rfl))) rfl
theorem hm_278 : Cond.fieldLink "java/lang/Throwable" 7 "java/lang/Throwable" "cause" "Ljava/lang/Throwable;" ∈ hwG := hwG_of (List.mem_append_right _ (List.mem_append_left _ (List.mem_of_getElem? (i := 38) rfl))) rfl
theorem hm_279 : Cond.fieldLink "java/lang/Throwable" 17 "java/lang/Throwable" "stackTrace" "[Ljava/lang/StackTraceElement;" ∈ hwG := hwG_of (List.mem_append_right _ (List.mem_append_left _ (List.mem_of_getElem? (i := 39) rfl))) rfl
theorem hm_280 : Cond.fieldLink "java/lang/Throwable" 24 "java/lang/Throwable" "suppressedExceptions" "Ljava/util/List;" ∈ hwG := hwG_of (List.mem_append_right _ (List.mem_append_left _ (List.mem_of_getElem? (i := 40) rfl))) rfl
theorem hm_289 : Cond.arrayClass .byte ∈ hwG := hwG_of (List.mem_append_right _ (List.mem_append_left _ (List.mem_of_getElem? (i := 49) rfl))) rfl
theorem hm_290 : Cond.methodLink RX3 39 yX3_checkTerm ∈ hwG := hwG_of (List.mem_append_right _ (List.mem_append_left _ (List.mem_of_getElem? (i := 50) rfl))) rfl
theorem hm_292 : Cond.instanceMethod yX3_checkTerm ∈ hwG := hwG_of (List.mem_append_right _ (List.mem_append_left _ (List.mem_of_getElem? (i := 52) rfl))) rfl
theorem hm_293 : Cond.code yX3_checkTerm cX3_checkTerm 2 none ∈ hwG := hwG_of (List.mem_append_right _ (List.mem_append_left _ (List.mem_of_getElem? (i := 53) rfl))) rfl
theorem hm_295 : Cond.methodLink RX3 42 yX1_addPair ∈ hwG := hwG_of (List.mem_append_right _ (List.mem_append_left _ (List.mem_of_getElem? (i := 55) rfl))) rfl
theorem hm_296 : Cond.instanceMethod yX1_addPair ∈ hwG := hwG_of (List.mem_append_right _ (List.mem_append_left _ (List.mem_of_getElem? (i := 56) rfl))) rfl
theorem hm_297 : Cond.selects RX1 yX1_addPair yX1_addPair ∈ hwG := hwG_of (List.mem_append_right _ (List.mem_append_left _ (List.mem_of_getElem? (i := 57) rfl))) rfl
theorem hm_298 : Cond.code yX1_addPair cX1_addPair 4 none ∈ hwG := hwG_of (List.mem_append_right _ (List.mem_append_left _ (List.mem_of_getElem? (i := 58) rfl))) rfl
theorem hm_299 : Cond.methodLink RL 83 yL_piece ∈ hwG := hwG_of (List.mem_append_right _ (List.mem_append_left _ (List.mem_of_getElem? (i := 59) rfl))) rfl
theorem hm_300 : Cond.static yL_piece ∈ hwG := hwG_of (List.mem_append_right _ (List.mem_append_left _ (List.mem_of_getElem? (i := 60) rfl))) rfl
theorem hm_301 : Cond.codeWith yL_piece cL_piece 7 (some .int) [(0, 14, 17, 13), (0, 14, 21, 19)] ∈ hwG := hwG_of (List.mem_append_right _ (List.mem_append_left _ (List.mem_of_getElem? (i := 61) rfl))) rfl
theorem hm_302 : Cond.classLink RL 19 "java/lang/IllegalStateException" ∈ hwG := hwG_of (List.mem_append_right _ (List.mem_append_left _ (List.mem_of_getElem? (i := 62) rfl))) rfl
theorem hm_303 : Cond.methodLink RL 15 yX3_piece ∈ hwG := hwG_of (List.mem_append_right _ (List.mem_append_left _ (List.mem_of_getElem? (i := 63) rfl))) rfl
theorem hm_304 : Cond.instanceMethod yX3_piece ∈ hwG := hwG_of (List.mem_append_right _ (List.mem_append_left _ (List.mem_of_getElem? (i := 64) rfl))) rfl
theorem hm_305 : Cond.selects RX3 yX3_piece yX3_piece ∈ hwG := hwG_of (List.mem_append_right _ (List.mem_append_left _ (List.mem_of_getElem? (i := 65) rfl))) rfl
theorem hm_306 : Cond.code yX3_piece cX3_piece 6 (some .int) ∈ hwG := hwG_of (List.mem_append_right _ (List.mem_append_left _ (List.mem_of_getElem? (i := 66) rfl))) rfl
theorem hm_307 : Cond.classLink RX3 50 "java/lang/IllegalStateException" ∈ hwG := hwG_of (List.mem_append_right _ (List.mem_append_left _ (List.mem_of_getElem? (i := 67) rfl))) rfl
theorem hm_308 : Cond.instantiable "java/lang/IllegalStateException" 6 ∈ hwG := hwG_of (List.mem_append_right _ (List.mem_append_left _ (List.mem_of_getElem? (i := 68) rfl))) rfl
theorem hm_310 : Cond.selects "java/lang/IllegalStateException" ⟨"java/lang/Throwable", "fillInStackTrace", "(I)Ljava/lang/Throwable;"⟩ ⟨"java/lang/Throwable", "fillInStackTrace", "(I)Ljava/lang/Throwable;"⟩ ∈ hwG := hwG_of (List.mem_append_right _ (List.mem_append_left _ (List.mem_of_getElem? (i := 70) rfl))) rfl
theorem hm_317 : Cond.methodLink RX3 54 ⟨"java/lang/IllegalStateException", "<init>", "(Ljava/lang/String;)V"⟩ ∈ hwG := hwG_of (List.mem_append_right _ (List.mem_append_left _ (List.mem_of_getElem? (i := 77) rfl))) rfl
theorem hm_318 : Cond.instanceMethod ⟨"java/lang/IllegalStateException", "<init>", "(Ljava/lang/String;)V"⟩ ∈ hwG := hwG_of (List.mem_append_right _ (List.mem_append_left _ (List.mem_of_getElem? (i := 78) rfl))) rfl
theorem hm_319 : Cond.code ⟨"java/lang/IllegalStateException", "<init>", "(Ljava/lang/String;)V"⟩ prog_9_method_2_code 2 none ∈ hwG := hwG_of (List.mem_append_right _ (List.mem_append_left _ (List.mem_of_getElem? (i := 79) rfl))) rfl
theorem hm_320 : Cond.methodLink "java/lang/IllegalStateException" 7 ⟨"java/lang/RuntimeException", "<init>", "(Ljava/lang/String;)V"⟩ ∈ hwG := hwG_of (List.mem_append_right _ (List.mem_append_left _ (List.mem_of_getElem? (i := 80) rfl))) rfl
theorem hm_323 : Cond.methodLink RX3 57 yX1_addPiece ∈ hwG := hwG_of (List.mem_append_right _ (List.mem_append_left _ (List.mem_of_getElem? (i := 83) rfl))) rfl
theorem hm_324 : Cond.instanceMethod yX1_addPiece ∈ hwG := hwG_of (List.mem_append_right _ (List.mem_append_left _ (List.mem_of_getElem? (i := 84) rfl))) rfl
theorem hm_325 : Cond.selects RX1 yX1_addPiece yX1_addPiece ∈ hwG := hwG_of (List.mem_append_right _ (List.mem_append_left _ (List.mem_of_getElem? (i := 85) rfl))) rfl
theorem hm_326 : Cond.code yX1_addPiece cX1_addPiece 4 none ∈ hwG := hwG_of (List.mem_append_right _ (List.mem_append_left _ (List.mem_of_getElem? (i := 86) rfl))) rfl
theorem hm_327 : Cond.methodLink RL 87 yL_clear ∈ hwG := hwG_of (List.mem_append_right _ (List.mem_append_left _ (List.mem_of_getElem? (i := 87) rfl))) rfl
theorem hm_328 : Cond.static yL_clear ∈ hwG := hwG_of (List.mem_append_right _ (List.mem_append_left _ (List.mem_of_getElem? (i := 88) rfl))) rfl
theorem hm_329 : Cond.codeWith yL_clear cL_clear 3 (some .int) [(0, 5, 8, 13)] ∈ hwG := hwG_of (List.mem_append_right _ (List.mem_append_left _ (List.mem_of_getElem? (i := 89) rfl))) rfl
theorem hm_330 : Cond.methodLink RL 21 yX3_clear ∈ hwG := hwG_of (List.mem_append_right _ (List.mem_append_left _ (List.mem_of_getElem? (i := 90) rfl))) rfl
theorem hm_331 : Cond.instanceMethod yX3_clear ∈ hwG := hwG_of (List.mem_append_right _ (List.mem_append_left _ (List.mem_of_getElem? (i := 91) rfl))) rfl
theorem hm_332 : Cond.selects RX3 yX3_clear yX3_clear ∈ hwG := hwG_of (List.mem_append_right _ (List.mem_append_left _ (List.mem_of_getElem? (i := 92) rfl))) rfl
theorem hm_333 : Cond.code yX3_clear cX3_clear 2 none ∈ hwG := hwG_of (List.mem_append_right _ (List.mem_append_left _ (List.mem_of_getElem? (i := 93) rfl))) rfl
theorem hm_334 : Cond.methodLink RX3 60 yX1_forgetAll ∈ hwG := hwG_of (List.mem_append_right _ (List.mem_append_left _ (List.mem_of_getElem? (i := 94) rfl))) rfl
theorem hm_335 : Cond.instanceMethod yX1_forgetAll ∈ hwG := hwG_of (List.mem_append_right _ (List.mem_append_left _ (List.mem_of_getElem? (i := 95) rfl))) rfl
theorem hm_336 : Cond.selects RX1 yX1_forgetAll yX1_forgetAll ∈ hwG := hwG_of (List.mem_append_right _ (List.mem_append_left _ (List.mem_of_getElem? (i := 96) rfl))) rfl
theorem hm_337 : Cond.code yX1_forgetAll cX1_forgetAll 1 none ∈ hwG := hwG_of (List.mem_append_right _ (List.mem_append_left _ (List.mem_of_getElem? (i := 97) rfl))) rfl
theorem hm_338 : Cond.methodLink RX1 35 yJ7_fill ∈ hwG := hwG_of (List.mem_append_right _ (List.mem_append_left _ (List.mem_of_getElem? (i := 98) rfl))) rfl
theorem hm_339 : Cond.methodLink RL 95 yL_pieces ∈ hwG := hwG_of (List.mem_append_right _ (List.mem_append_left _ (List.mem_of_getElem? (i := 99) rfl))) rfl
theorem hm_340 : Cond.static yL_pieces ∈ hwG := hwG_of (List.mem_append_right _ (List.mem_append_left _ (List.mem_of_getElem? (i := 100) rfl))) rfl
theorem hm_341 : Cond.codeWith yL_pieces cL_pieces 4 (some .int) [(0, 9, 12, 13)] ∈ hwG := hwG_of (List.mem_append_right _ (List.mem_append_left _ (List.mem_of_getElem? (i := 101) rfl))) rfl
theorem hm_342 : Cond.methodLink RL 25 yX3_pieces ∈ hwG := hwG_of (List.mem_append_right _ (List.mem_append_left _ (List.mem_of_getElem? (i := 102) rfl))) rfl
theorem hm_343 : Cond.instanceMethod yX3_pieces ∈ hwG := hwG_of (List.mem_append_right _ (List.mem_append_left _ (List.mem_of_getElem? (i := 103) rfl))) rfl
theorem hm_344 : Cond.selects RX3 yX3_pieces yX3_pieces ∈ hwG := hwG_of (List.mem_append_right _ (List.mem_append_left _ (List.mem_of_getElem? (i := 104) rfl))) rfl
theorem hm_345 : Cond.code yX3_pieces cX3_pieces 2 (some .int) ∈ hwG := hwG_of (List.mem_append_right _ (List.mem_append_left _ (List.mem_of_getElem? (i := 105) rfl))) rfl
theorem hm_346 : Cond.methodLink RL 99 yL_possible ∈ hwG := hwG_of (List.mem_append_right _ (List.mem_append_left _ (List.mem_of_getElem? (i := 106) rfl))) rfl
theorem hm_347 : Cond.static yL_possible ∈ hwG := hwG_of (List.mem_append_right _ (List.mem_append_left _ (List.mem_of_getElem? (i := 107) rfl))) rfl
theorem hm_348 : Cond.codeWith yL_possible cL_possible 4 (some .int) [(0, 16, 19, 13)] ∈ hwG := hwG_of (List.mem_append_right _ (List.mem_append_left _ (List.mem_of_getElem? (i := 108) rfl))) rfl
theorem hm_349 : Cond.methodLink RL 29 yX3_possible ∈ hwG := hwG_of (List.mem_append_right _ (List.mem_append_left _ (List.mem_of_getElem? (i := 109) rfl))) rfl
theorem hm_350 : Cond.instanceMethod yX3_possible ∈ hwG := hwG_of (List.mem_append_right _ (List.mem_append_left _ (List.mem_of_getElem? (i := 110) rfl))) rfl
theorem hm_351 : Cond.selects RX3 yX3_possible yX3_possible ∈ hwG := hwG_of (List.mem_append_right _ (List.mem_append_left _ (List.mem_of_getElem? (i := 111) rfl))) rfl
theorem hm_352 : Cond.code yX3_possible cX3_possible 5 (some .boolean) ∈ hwG := hwG_of (List.mem_append_right _ (List.mem_append_left _ (List.mem_of_getElem? (i := 112) rfl))) rfl
theorem hm_353 : Cond.methodLink RL 107 yL_sure ∈ hwG := hwG_of (List.mem_append_right _ (List.mem_append_left _ (List.mem_of_getElem? (i := 113) rfl))) rfl
theorem hm_354 : Cond.static yL_sure ∈ hwG := hwG_of (List.mem_append_right _ (List.mem_append_left _ (List.mem_of_getElem? (i := 114) rfl))) rfl
theorem hm_355 : Cond.codeWith yL_sure cL_sure 6 (some .int) [(0, 19, 22, 13), (0, 19, 26, 37)] ∈ hwG := hwG_of (List.mem_append_right _ (List.mem_append_left _ (List.mem_of_getElem? (i := 115) rfl))) rfl
theorem hm_356 : Cond.classLink RL 37 "java/lang/IllegalArgumentException" ∈ hwG := hwG_of (List.mem_append_right _ (List.mem_append_left _ (List.mem_of_getElem? (i := 116) rfl))) rfl
theorem hm_357 : Cond.methodLink RL 33 yX3_sure ∈ hwG := hwG_of (List.mem_append_right _ (List.mem_append_left _ (List.mem_of_getElem? (i := 117) rfl))) rfl
theorem hm_358 : Cond.instanceMethod yX3_sure ∈ hwG := hwG_of (List.mem_append_right _ (List.mem_append_left _ (List.mem_of_getElem? (i := 118) rfl))) rfl
theorem hm_359 : Cond.selects RX3 yX3_sure yX3_sure ∈ hwG := hwG_of (List.mem_append_right _ (List.mem_append_left _ (List.mem_of_getElem? (i := 119) rfl))) rfl
theorem hm_360 : Cond.code yX3_sure cX3_sure 6 (some .boolean) ∈ hwG := hwG_of (List.mem_append_right _ (List.mem_append_left _ (List.mem_of_getElem? (i := 120) rfl))) rfl
theorem hm_361 : Cond.classLink RX3 81 "java/lang/IllegalArgumentException" ∈ hwG := hwG_of (List.mem_append_right _ (List.mem_append_left _ (List.mem_of_getElem? (i := 121) rfl))) rfl
theorem hm_362 : Cond.instantiable "java/lang/IllegalArgumentException" 6 ∈ hwG := hwG_of (List.mem_append_right _ (List.mem_append_left _ (List.mem_of_getElem? (i := 122) rfl))) rfl
theorem hm_364 : Cond.selects "java/lang/IllegalArgumentException" ⟨"java/lang/Throwable", "fillInStackTrace", "(I)Ljava/lang/Throwable;"⟩ ⟨"java/lang/Throwable", "fillInStackTrace", "(I)Ljava/lang/Throwable;"⟩ ∈ hwG := hwG_of (List.mem_append_right _ (List.mem_append_left _ (List.mem_of_getElem? (i := 124) rfl))) rfl
theorem hm_371 : Cond.methodLink RX3 85 ⟨"java/lang/IllegalArgumentException", "<init>", "(Ljava/lang/String;)V"⟩ ∈ hwG := hwG_of (List.mem_append_right _ (List.mem_append_left _ (List.mem_of_getElem? (i := 131) rfl))) rfl
theorem hm_372 : Cond.instanceMethod ⟨"java/lang/IllegalArgumentException", "<init>", "(Ljava/lang/String;)V"⟩ ∈ hwG := hwG_of (List.mem_append_right _ (List.mem_append_left _ (List.mem_of_getElem? (i := 132) rfl))) rfl
theorem hm_373 : Cond.code ⟨"java/lang/IllegalArgumentException", "<init>", "(Ljava/lang/String;)V"⟩ prog_8_method_2_code 2 none ∈ hwG := hwG_of (List.mem_append_right _ (List.mem_append_left _ (List.mem_of_getElem? (i := 133) rfl))) rfl
theorem hm_374 : Cond.methodLink "java/lang/IllegalArgumentException" 7 ⟨"java/lang/RuntimeException", "<init>", "(Ljava/lang/String;)V"⟩ ∈ hwG := hwG_of (List.mem_append_right _ (List.mem_append_left _ (List.mem_of_getElem? (i := 134) rfl))) rfl
theorem hm_377 : Cond.methodLink RX3 86 yX3_isSo ∈ hwG := hwG_of (List.mem_append_right _ (List.mem_append_left _ (List.mem_of_getElem? (i := 137) rfl))) rfl
theorem hm_379 : Cond.instanceMethod yX3_isSo ∈ hwG := hwG_of (List.mem_append_right _ (List.mem_append_left _ (List.mem_of_getElem? (i := 139) rfl))) rfl
theorem hm_380 : Cond.code yX3_isSo cX3_isSo 5 (some .boolean) ∈ hwG := hwG_of (List.mem_append_right _ (List.mem_append_left _ (List.mem_of_getElem? (i := 140) rfl))) rfl
theorem hm_381 : Cond.methodLink RL 115 yL_give ∈ hwG := hwG_of (List.mem_append_right _ (List.mem_append_left _ (List.mem_of_getElem? (i := 141) rfl))) rfl
theorem hm_382 : Cond.static yL_give ∈ hwG := hwG_of (List.mem_append_right _ (List.mem_append_left _ (List.mem_of_getElem? (i := 142) rfl))) rfl
theorem hm_383 : Cond.codeWith yL_give cL_give 4 (some .int) [(0, 6, 9, 13), (0, 6, 12, 37)] ∈ hwG := hwG_of (List.mem_append_right _ (List.mem_append_left _ (List.mem_of_getElem? (i := 143) rfl))) rfl
theorem hm_384 : Cond.methodLink RL 39 yX3_give ∈ hwG := hwG_of (List.mem_append_right _ (List.mem_append_left _ (List.mem_of_getElem? (i := 144) rfl))) rfl
theorem hm_385 : Cond.instanceMethod yX3_give ∈ hwG := hwG_of (List.mem_append_right _ (List.mem_append_left _ (List.mem_of_getElem? (i := 145) rfl))) rfl
theorem hm_386 : Cond.selects RX3 yX3_give yX3_give ∈ hwG := hwG_of (List.mem_append_right _ (List.mem_append_left _ (List.mem_of_getElem? (i := 146) rfl))) rfl
theorem hm_387 : Cond.code yX3_give cX3_give 3 none ∈ hwG := hwG_of (List.mem_append_right _ (List.mem_append_left _ (List.mem_of_getElem? (i := 147) rfl))) rfl
theorem hm_388 : Cond.methodLink RX3 90 yX3_checkVariable ∈ hwG := hwG_of (List.mem_append_right _ (List.mem_append_left _ (List.mem_of_getElem? (i := 148) rfl))) rfl
theorem hm_390 : Cond.instanceMethod yX3_checkVariable ∈ hwG := hwG_of (List.mem_append_right _ (List.mem_append_left _ (List.mem_of_getElem? (i := 150) rfl))) rfl
theorem hm_391 : Cond.code yX3_checkVariable cX3_checkVariable 2 none ∈ hwG := hwG_of (List.mem_append_right _ (List.mem_append_left _ (List.mem_of_getElem? (i := 151) rfl))) rfl
theorem hm_393 : Cond.methodLink RX3 93 yX3_checkValue ∈ hwG := hwG_of (List.mem_append_right _ (List.mem_append_left _ (List.mem_of_getElem? (i := 153) rfl))) rfl
theorem hm_395 : Cond.instanceMethod yX3_checkValue ∈ hwG := hwG_of (List.mem_append_right _ (List.mem_append_left _ (List.mem_of_getElem? (i := 155) rfl))) rfl
theorem hm_396 : Cond.code yX3_checkValue cX3_checkValue 2 none ∈ hwG := hwG_of (List.mem_append_right _ (List.mem_append_left _ (List.mem_of_getElem? (i := 156) rfl))) rfl
theorem hm_398 : Cond.methodLink RL 119 yL_put ∈ hwG := hwG_of (List.mem_append_right _ (List.mem_append_left _ (List.mem_of_getElem? (i := 158) rfl))) rfl
theorem hm_399 : Cond.static yL_put ∈ hwG := hwG_of (List.mem_append_right _ (List.mem_append_left _ (List.mem_of_getElem? (i := 159) rfl))) rfl
theorem hm_400 : Cond.codeWith yL_put cL_put 4 (some .int) [(0, 6, 9, 37)] ∈ hwG := hwG_of (List.mem_append_right _ (List.mem_append_left _ (List.mem_of_getElem? (i := 160) rfl))) rfl
theorem hm_401 : Cond.methodLink RL 43 yX3_put ∈ hwG := hwG_of (List.mem_append_right _ (List.mem_append_left _ (List.mem_of_getElem? (i := 161) rfl))) rfl
theorem hm_402 : Cond.instanceMethod yX3_put ∈ hwG := hwG_of (List.mem_append_right _ (List.mem_append_left _ (List.mem_of_getElem? (i := 162) rfl))) rfl
theorem hm_403 : Cond.selects RX3 yX3_put yX3_put ∈ hwG := hwG_of (List.mem_append_right _ (List.mem_append_left _ (List.mem_of_getElem? (i := 163) rfl))) rfl
theorem hm_404 : Cond.code yX3_put cX3_put 3 none ∈ hwG := hwG_of (List.mem_append_right _ (List.mem_append_left _ (List.mem_of_getElem? (i := 164) rfl))) rfl
theorem hm_406 : Cond.methodLink RX3 102 yX2_setCell ∈ hwG := hwG_of (List.mem_append_right _ (List.mem_append_left _ (List.mem_of_getElem? (i := 166) rfl))) rfl
theorem hm_407 : Cond.instanceMethod yX2_setCell ∈ hwG := hwG_of (List.mem_append_right _ (List.mem_append_left _ (List.mem_of_getElem? (i := 167) rfl))) rfl
theorem hm_408 : Cond.selects RX2 yX2_setCell yX2_setCell ∈ hwG := hwG_of (List.mem_append_right _ (List.mem_append_left _ (List.mem_of_getElem? (i := 168) rfl))) rfl
theorem hm_409 : Cond.code yX2_setCell cX2_setCell 3 none ∈ hwG := hwG_of (List.mem_append_right _ (List.mem_append_left _ (List.mem_of_getElem? (i := 169) rfl))) rfl
theorem hm_410 : Cond.methodLink RX2 35 yX2_setStretch ∈ hwG := hwG_of (List.mem_append_right _ (List.mem_append_left _ (List.mem_of_getElem? (i := 170) rfl))) rfl
theorem hm_411 : Cond.methodLink RL 122 yL_holds ∈ hwG := hwG_of (List.mem_append_right _ (List.mem_append_left _ (List.mem_of_getElem? (i := 171) rfl))) rfl
theorem hm_412 : Cond.static yL_holds ∈ hwG := hwG_of (List.mem_append_right _ (List.mem_append_left _ (List.mem_of_getElem? (i := 172) rfl))) rfl
theorem hm_413 : Cond.codeWith yL_holds cL_holds 4 (some .int) [(0, 16, 19, 13)] ∈ hwG := hwG_of (List.mem_append_right _ (List.mem_append_left _ (List.mem_of_getElem? (i := 173) rfl))) rfl
theorem hm_414 : Cond.methodLink RL 46 yX3_holds ∈ hwG := hwG_of (List.mem_append_right _ (List.mem_append_left _ (List.mem_of_getElem? (i := 174) rfl))) rfl
theorem hm_415 : Cond.instanceMethod yX3_holds ∈ hwG := hwG_of (List.mem_append_right _ (List.mem_append_left _ (List.mem_of_getElem? (i := 175) rfl))) rfl
theorem hm_416 : Cond.selects RX3 yX3_holds yX3_holds ∈ hwG := hwG_of (List.mem_append_right _ (List.mem_append_left _ (List.mem_of_getElem? (i := 176) rfl))) rfl
theorem hm_417 : Cond.code yX3_holds cX3_holds 2 (some .boolean) ∈ hwG := hwG_of (List.mem_append_right _ (List.mem_append_left _ (List.mem_of_getElem? (i := 177) rfl))) rfl
theorem hm_418 : Cond.methodLink RL 125 yL_copy ∈ hwG := hwG_of (List.mem_append_right _ (List.mem_append_left _ (List.mem_of_getElem? (i := 178) rfl))) rfl
theorem hm_419 : Cond.static yL_copy ∈ hwG := hwG_of (List.mem_append_right _ (List.mem_append_left _ (List.mem_of_getElem? (i := 179) rfl))) rfl
theorem hm_420 : Cond.codeWith yL_copy cL_copy 4 (some .int) [(0, 6, 9, 13)] ∈ hwG := hwG_of (List.mem_append_right _ (List.mem_append_left _ (List.mem_of_getElem? (i := 180) rfl))) rfl
theorem hm_421 : Cond.methodLink RL 49 yX3_copy ∈ hwG := hwG_of (List.mem_append_right _ (List.mem_append_left _ (List.mem_of_getElem? (i := 181) rfl))) rfl
theorem hm_422 : Cond.instanceMethod yX3_copy ∈ hwG := hwG_of (List.mem_append_right _ (List.mem_append_left _ (List.mem_of_getElem? (i := 182) rfl))) rfl
theorem hm_423 : Cond.selects RX3 yX3_copy yX3_copy ∈ hwG := hwG_of (List.mem_append_right _ (List.mem_append_left _ (List.mem_of_getElem? (i := 183) rfl))) rfl
theorem hm_424 : Cond.code yX3_copy cX3_copy 3 none ∈ hwG := hwG_of (List.mem_append_right _ (List.mem_append_left _ (List.mem_of_getElem? (i := 184) rfl))) rfl
theorem hm_425 : Cond.methodLink RL 128 yL_load ∈ hwG := hwG_of (List.mem_append_right _ (List.mem_append_left _ (List.mem_of_getElem? (i := 185) rfl))) rfl
theorem hm_426 : Cond.static yL_load ∈ hwG := hwG_of (List.mem_append_right _ (List.mem_append_left _ (List.mem_of_getElem? (i := 186) rfl))) rfl
theorem hm_427 : Cond.codeWith yL_load cL_load 4 (some .int) [(0, 6, 9, 13), (0, 6, 12, 19)] ∈ hwG := hwG_of (List.mem_append_right _ (List.mem_append_left _ (List.mem_of_getElem? (i := 187) rfl))) rfl
theorem hm_428 : Cond.methodLink RL 52 yX3_load ∈ hwG := hwG_of (List.mem_append_right _ (List.mem_append_left _ (List.mem_of_getElem? (i := 188) rfl))) rfl
theorem hm_429 : Cond.instanceMethod yX3_load ∈ hwG := hwG_of (List.mem_append_right _ (List.mem_append_left _ (List.mem_of_getElem? (i := 189) rfl))) rfl
theorem hm_430 : Cond.selects RX3 yX3_load yX3_load ∈ hwG := hwG_of (List.mem_append_right _ (List.mem_append_left _ (List.mem_of_getElem? (i := 190) rfl))) rfl
theorem hm_431 : Cond.code yX3_load cX3_load 3 none ∈ hwG := hwG_of (List.mem_append_right _ (List.mem_append_left _ (List.mem_of_getElem? (i := 191) rfl))) rfl
theorem hm_432 : Cond.methodLink RX3 113 yX3_checkCell ∈ hwG := hwG_of (List.mem_append_right _ (List.mem_append_left _ (List.mem_of_getElem? (i := 192) rfl))) rfl
theorem hm_434 : Cond.instanceMethod yX3_checkCell ∈ hwG := hwG_of (List.mem_append_right _ (List.mem_append_left _ (List.mem_of_getElem? (i := 194) rfl))) rfl
theorem hm_435 : Cond.code yX3_checkCell cX3_checkCell 2 none ∈ hwG := hwG_of (List.mem_append_right _ (List.mem_append_left _ (List.mem_of_getElem? (i := 195) rfl))) rfl
theorem hm_437 : Cond.methodLink RL 131 yL_store ∈ hwG := hwG_of (List.mem_append_right _ (List.mem_append_left _ (List.mem_of_getElem? (i := 197) rfl))) rfl
theorem hm_438 : Cond.static yL_store ∈ hwG := hwG_of (List.mem_append_right _ (List.mem_append_left _ (List.mem_of_getElem? (i := 198) rfl))) rfl
theorem hm_439 : Cond.codeWith yL_store cL_store 4 (some .int) [(0, 6, 9, 13), (0, 6, 12, 19)] ∈ hwG := hwG_of (List.mem_append_right _ (List.mem_append_left _ (List.mem_of_getElem? (i := 199) rfl))) rfl
theorem hm_440 : Cond.methodLink RL 55 yX3_store ∈ hwG := hwG_of (List.mem_append_right _ (List.mem_append_left _ (List.mem_of_getElem? (i := 200) rfl))) rfl
theorem hm_441 : Cond.instanceMethod yX3_store ∈ hwG := hwG_of (List.mem_append_right _ (List.mem_append_left _ (List.mem_of_getElem? (i := 201) rfl))) rfl
theorem hm_442 : Cond.selects RX3 yX3_store yX3_store ∈ hwG := hwG_of (List.mem_append_right _ (List.mem_append_left _ (List.mem_of_getElem? (i := 202) rfl))) rfl
theorem hm_443 : Cond.code yX3_store cX3_store 3 none ∈ hwG := hwG_of (List.mem_append_right _ (List.mem_append_left _ (List.mem_of_getElem? (i := 203) rfl))) rfl
theorem hm_444 : Cond.methodLink RL 134 yL_make ∈ hwG := hwG_of (List.mem_append_right _ (List.mem_append_left _ (List.mem_of_getElem? (i := 204) rfl))) rfl
theorem hm_445 : Cond.static yL_make ∈ hwG := hwG_of (List.mem_append_right _ (List.mem_append_left _ (List.mem_of_getElem? (i := 205) rfl))) rfl
theorem hm_446 : Cond.codeWith yL_make cL_make 3 (some .int) [(0, 5, 8, 13), (0, 5, 11, 61)] ∈ hwG := hwG_of (List.mem_append_right _ (List.mem_append_left _ (List.mem_of_getElem? (i := 206) rfl))) rfl
theorem hm_447 : Cond.classLink RL 61 "java/lang/UnsupportedOperationException" ∈ hwG := hwG_of (List.mem_append_right _ (List.mem_append_left _ (List.mem_of_getElem? (i := 207) rfl))) rfl
theorem hm_448 : Cond.methodLink RL 58 yX3_make ∈ hwG := hwG_of (List.mem_append_right _ (List.mem_append_left _ (List.mem_of_getElem? (i := 208) rfl))) rfl
theorem hm_449 : Cond.instanceMethod yX3_make ∈ hwG := hwG_of (List.mem_append_right _ (List.mem_append_left _ (List.mem_of_getElem? (i := 209) rfl))) rfl
theorem hm_450 : Cond.selects RX3 yX3_make yX3_make ∈ hwG := hwG_of (List.mem_append_right _ (List.mem_append_left _ (List.mem_of_getElem? (i := 210) rfl))) rfl
theorem hm_451 : Cond.code yX3_make cX3_make 3 none ∈ hwG := hwG_of (List.mem_append_right _ (List.mem_append_left _ (List.mem_of_getElem? (i := 211) rfl))) rfl
theorem hm_452 : Cond.methodLink RX3 119 yX2_leastFreeAddress ∈ hwG := hwG_of (List.mem_append_right _ (List.mem_append_left _ (List.mem_of_getElem? (i := 212) rfl))) rfl
theorem hm_453 : Cond.instanceMethod yX2_leastFreeAddress ∈ hwG := hwG_of (List.mem_append_right _ (List.mem_append_left _ (List.mem_of_getElem? (i := 213) rfl))) rfl
theorem hm_454 : Cond.selects RX2 yX2_leastFreeAddress yX2_leastFreeAddress ∈ hwG := hwG_of (List.mem_append_right _ (List.mem_append_left _ (List.mem_of_getElem? (i := 214) rfl))) rfl
theorem hm_455 : Cond.code yX2_leastFreeAddress cX2_leastFreeAddress 2 (some .int) ∈ hwG := hwG_of (List.mem_append_right _ (List.mem_append_left _ (List.mem_of_getElem? (i := 215) rfl))) rfl
theorem hm_456 : Cond.classLink RX3 122 "java/lang/UnsupportedOperationException" ∈ hwG := hwG_of (List.mem_append_right _ (List.mem_append_left _ (List.mem_of_getElem? (i := 216) rfl))) rfl
theorem hm_457 : Cond.instantiable "java/lang/UnsupportedOperationException" 6 ∈ hwG := hwG_of (List.mem_append_right _ (List.mem_append_left _ (List.mem_of_getElem? (i := 217) rfl))) rfl
theorem hm_459 : Cond.selects "java/lang/UnsupportedOperationException" ⟨"java/lang/Throwable", "fillInStackTrace", "(I)Ljava/lang/Throwable;"⟩ ⟨"java/lang/Throwable", "fillInStackTrace", "(I)Ljava/lang/Throwable;"⟩ ∈ hwG := hwG_of (List.mem_append_right _ (List.mem_append_left _ (List.mem_of_getElem? (i := 219) rfl))) rfl
theorem hm_466 : Cond.methodLink RX3 126 ⟨"java/lang/UnsupportedOperationException", "<init>", "(Ljava/lang/String;)V"⟩ ∈ hwG := hwG_of (List.mem_append_right _ (List.mem_append_left _ (List.mem_of_getElem? (i := 226) rfl))) rfl
theorem hm_467 : Cond.instanceMethod ⟨"java/lang/UnsupportedOperationException", "<init>", "(Ljava/lang/String;)V"⟩ ∈ hwG := hwG_of (List.mem_append_right _ (List.mem_append_left _ (List.mem_of_getElem? (i := 227) rfl))) rfl
theorem hm_468 : Cond.code ⟨"java/lang/UnsupportedOperationException", "<init>", "(Ljava/lang/String;)V"⟩ prog_16_method_2_code 2 none ∈ hwG := hwG_of (List.mem_append_right _ (List.mem_append_left _ (List.mem_of_getElem? (i := 228) rfl))) rfl
theorem hm_469 : Cond.methodLink "java/lang/UnsupportedOperationException" 7 ⟨"java/lang/RuntimeException", "<init>", "(Ljava/lang/String;)V"⟩ ∈ hwG := hwG_of (List.mem_append_right _ (List.mem_append_left _ (List.mem_of_getElem? (i := 229) rfl))) rfl
theorem hm_472 : Cond.methodLink RL 137 yL_drop ∈ hwG := hwG_of (List.mem_append_right _ (List.mem_append_left _ (List.mem_of_getElem? (i := 232) rfl))) rfl
theorem hm_473 : Cond.static yL_drop ∈ hwG := hwG_of (List.mem_append_right _ (List.mem_append_left _ (List.mem_of_getElem? (i := 233) rfl))) rfl
theorem hm_474 : Cond.codeWith yL_drop cL_drop 3 (some .int) [(0, 5, 8, 13), (0, 5, 11, 19)] ∈ hwG := hwG_of (List.mem_append_right _ (List.mem_append_left _ (List.mem_of_getElem? (i := 234) rfl))) rfl
theorem hm_475 : Cond.methodLink RL 63 yX3_drop ∈ hwG := hwG_of (List.mem_append_right _ (List.mem_append_left _ (List.mem_of_getElem? (i := 235) rfl))) rfl
theorem hm_476 : Cond.instanceMethod yX3_drop ∈ hwG := hwG_of (List.mem_append_right _ (List.mem_append_left _ (List.mem_of_getElem? (i := 236) rfl))) rfl
theorem hm_477 : Cond.selects RX3 yX3_drop yX3_drop ∈ hwG := hwG_of (List.mem_append_right _ (List.mem_append_left _ (List.mem_of_getElem? (i := 237) rfl))) rfl
theorem hm_478 : Cond.code yX3_drop cX3_drop 2 none ∈ hwG := hwG_of (List.mem_append_right _ (List.mem_append_left _ (List.mem_of_getElem? (i := 238) rfl))) rfl
theorem hm_479 : Cond.methodLink RX3 127 yX2_removeCell ∈ hwG := hwG_of (List.mem_append_right _ (List.mem_append_left _ (List.mem_of_getElem? (i := 239) rfl))) rfl
theorem hm_480 : Cond.instanceMethod yX2_removeCell ∈ hwG := hwG_of (List.mem_append_right _ (List.mem_append_right _ (List.mem_of_getElem? (i := 0) rfl))) rfl
theorem hm_481 : Cond.selects RX2 yX2_removeCell yX2_removeCell ∈ hwG := hwG_of (List.mem_append_right _ (List.mem_append_right _ (List.mem_of_getElem? (i := 1) rfl))) rfl
theorem hm_482 : Cond.code yX2_removeCell cX2_removeCell 2 none ∈ hwG := hwG_of (List.mem_append_right _ (List.mem_append_right _ (List.mem_of_getElem? (i := 2) rfl))) rfl
theorem hm_483 : Cond.methodLink RL 140 yL_value ∈ hwG := hwG_of (List.mem_append_right _ (List.mem_append_right _ (List.mem_of_getElem? (i := 3) rfl))) rfl
theorem hm_484 : Cond.static yL_value ∈ hwG := hwG_of (List.mem_append_right _ (List.mem_append_right _ (List.mem_of_getElem? (i := 4) rfl))) rfl
theorem hm_485 : Cond.codeWith yL_value cL_value 4 (some .int) [(0, 9, 12, 13)] ∈ hwG := hwG_of (List.mem_append_right _ (List.mem_append_right _ (List.mem_of_getElem? (i := 5) rfl))) rfl
theorem hm_486 : Cond.methodLink RL 66 yX3_value ∈ hwG := hwG_of (List.mem_append_right _ (List.mem_append_right _ (List.mem_of_getElem? (i := 6) rfl))) rfl
theorem hm_487 : Cond.instanceMethod yX3_value ∈ hwG := hwG_of (List.mem_append_right _ (List.mem_append_right _ (List.mem_of_getElem? (i := 7) rfl))) rfl
theorem hm_488 : Cond.selects RX3 yX3_value yX3_value ∈ hwG := hwG_of (List.mem_append_right _ (List.mem_append_right _ (List.mem_of_getElem? (i := 8) rfl))) rfl
theorem hm_489 : Cond.code yX3_value cX3_value 2 (some .int) ∈ hwG := hwG_of (List.mem_append_right _ (List.mem_append_right _ (List.mem_of_getElem? (i := 9) rfl))) rfl
theorem hm_490 : Cond.classLink RL 70 RX4 ∈ hwG := hwG_of (List.mem_append_right _ (List.mem_append_right _ (List.mem_of_getElem? (i := 10) rfl))) rfl
theorem hm_491 : Cond.instantiable RX4 22 ∈ hwG := hwG_of (List.mem_append_right _ (List.mem_append_right _ (List.mem_of_getElem? (i := 11) rfl))) rfl
theorem hm_492 : Cond.methodLink RL 72 yX4_init ∈ hwG := hwG_of (List.mem_append_right _ (List.mem_append_right _ (List.mem_of_getElem? (i := 12) rfl))) rfl
theorem hm_493 : Cond.instanceMethod yX4_init ∈ hwG := hwG_of (List.mem_append_right _ (List.mem_append_right _ (List.mem_of_getElem? (i := 13) rfl))) rfl
theorem hm_494 : Cond.code yX4_init cX4_init 2 none ∈ hwG := hwG_of (List.mem_append_right _ (List.mem_append_right _ (List.mem_of_getElem? (i := 14) rfl))) rfl
theorem hm_495 : Cond.methodLink RX4 1 ⟨"java/lang/Object", "<init>", "()V"⟩ ∈ hwG := hwG_of (List.mem_append_right _ (List.mem_append_right _ (List.mem_of_getElem? (i := 15) rfl))) rfl
theorem hm_496 : Cond.fieldLink RX4 62 "HeapClaimsModel" "code" "I" ∈ hwG := hwG_of (List.mem_append_right _ (List.mem_append_right _ (List.mem_of_getElem? (i := 16) rfl))) rfl
theorem hm_497 : Cond.fieldLink RX4 7 "HeapClaimsModel" "same" "[Z" ∈ hwG := hwG_of (List.mem_append_right _ (List.mem_append_right _ (List.mem_of_getElem? (i := 17) rfl))) rfl
theorem hm_498 : Cond.fieldLink RX4 13 "HeapClaimsModel" "other" "[Z" ∈ hwG := hwG_of (List.mem_append_right _ (List.mem_append_right _ (List.mem_of_getElem? (i := 18) rfl))) rfl
theorem hm_499 : Cond.fieldLink RX4 16 "HeapClaimsModel" "many" "[I" ∈ hwG := hwG_of (List.mem_append_right _ (List.mem_append_right _ (List.mem_of_getElem? (i := 19) rfl))) rfl
theorem hm_500 : Cond.fieldLink RX4 20 "HeapClaimsModel" "from" "[I" ∈ hwG := hwG_of (List.mem_append_right _ (List.mem_append_right _ (List.mem_of_getElem? (i := 20) rfl))) rfl
theorem hm_501 : Cond.fieldLink RX4 23 "HeapClaimsModel" "to" "[I" ∈ hwG := hwG_of (List.mem_append_right _ (List.mem_append_right _ (List.mem_of_getElem? (i := 21) rfl))) rfl
theorem hm_502 : Cond.fieldLink RX4 26 "HeapClaimsModel" "list" "[Z" ∈ hwG := hwG_of (List.mem_append_right _ (List.mem_append_right _ (List.mem_of_getElem? (i := 22) rfl))) rfl
theorem hm_503 : Cond.fieldLink RX4 29 "HeapClaimsModel" "group" "[I" ∈ hwG := hwG_of (List.mem_append_right _ (List.mem_append_right _ (List.mem_of_getElem? (i := 23) rfl))) rfl
theorem hm_504 : Cond.fieldLink RX4 32 "HeapClaimsModel" "cell" "[Z" ∈ hwG := hwG_of (List.mem_append_right _ (List.mem_append_right _ (List.mem_of_getElem? (i := 24) rfl))) rfl
theorem hm_505 : Cond.fieldLink RX4 35 "HeapClaimsModel" "next" "[I" ∈ hwG := hwG_of (List.mem_append_right _ (List.mem_append_right _ (List.mem_of_getElem? (i := 25) rfl))) rfl
theorem hm_506 : Cond.fieldLink RX4 38 "HeapClaimsModel" "far" "[Z" ∈ hwG := hwG_of (List.mem_append_right _ (List.mem_append_right _ (List.mem_of_getElem? (i := 26) rfl))) rfl
theorem hm_507 : Cond.fieldLink RX4 41 "HeapClaimsModel" "taken" "[Z" ∈ hwG := hwG_of (List.mem_append_right _ (List.mem_append_right _ (List.mem_of_getElem? (i := 27) rfl))) rfl
theorem hm_508 : Cond.fieldLink RX4 44 "HeapClaimsModel" "chosen" "[I" ∈ hwG := hwG_of (List.mem_append_right _ (List.mem_append_right _ (List.mem_of_getElem? (i := 28) rfl))) rfl
theorem hm_509 : Cond.fieldLink RX4 47 "HeapClaimsModel" "ofPiece" "[I" ∈ hwG := hwG_of (List.mem_append_right _ (List.mem_append_right _ (List.mem_of_getElem? (i := 29) rfl))) rfl
theorem hm_510 : Cond.fieldLink RX4 50 "HeapClaimsModel" "at" "[I" ∈ hwG := hwG_of (List.mem_append_right _ (List.mem_append_right _ (List.mem_of_getElem? (i := 30) rfl))) rfl
theorem hm_511 : Cond.fieldLink RX4 109 "HeapClaimsModel" "mode" "I" ∈ hwG := hwG_of (List.mem_append_right _ (List.mem_append_right _ (List.mem_of_getElem? (i := 31) rfl))) rfl
theorem hm_512 : Cond.fieldLink RX4 115 "HeapClaimsModel" "one" "I" ∈ hwG := hwG_of (List.mem_append_right _ (List.mem_append_right _ (List.mem_of_getElem? (i := 32) rfl))) rfl
theorem hm_513 : Cond.fieldLink RX4 118 "HeapClaimsModel" "two" "I" ∈ hwG := hwG_of (List.mem_append_right _ (List.mem_append_right _ (List.mem_of_getElem? (i := 33) rfl))) rfl
theorem hm_514 : Cond.fieldLink RX4 106 "HeapClaimsModel" "more" "I" ∈ hwG := hwG_of (List.mem_append_right _ (List.mem_append_right _ (List.mem_of_getElem? (i := 34) rfl))) rfl
theorem hm_515 : Cond.fieldLink RX4 53 "HeapClaimsModel" "values" "[I" ∈ hwG := hwG_of (List.mem_append_right _ (List.mem_append_right _ (List.mem_of_getElem? (i := 35) rfl))) rfl
theorem hm_516 : Cond.fieldLink RX4 56 "HeapClaimsModel" "heap" "[I" ∈ hwG := hwG_of (List.mem_append_right _ (List.mem_append_right _ (List.mem_of_getElem? (i := 36) rfl))) rfl
theorem hm_517 : Cond.fieldLink RX4 59 "HeapClaimsModel" "used" "[Z" ∈ hwG := hwG_of (List.mem_append_right _ (List.mem_append_right _ (List.mem_of_getElem? (i := 37) rfl))) rfl
theorem hm_563 : Cond.methodLink RL 79 yX4_thrown ∈ hwG := hwG_of (List.mem_append_right _ (List.mem_append_right _ (List.mem_of_getElem? (i := 83) rfl))) rfl
theorem hm_564 : Cond.instanceMethod yX4_thrown ∈ hwG := hwG_of (List.mem_append_right _ (List.mem_append_right _ (List.mem_of_getElem? (i := 84) rfl))) rfl
theorem hm_565 : Cond.selects RX4 yX4_thrown yX4_thrown ∈ hwG := hwG_of (List.mem_append_right _ (List.mem_append_right _ (List.mem_of_getElem? (i := 85) rfl))) rfl
theorem hm_566 : Cond.code yX4_thrown cX4_thrown 1 (some .int) ∈ hwG := hwG_of (List.mem_append_right _ (List.mem_append_right _ (List.mem_of_getElem? (i := 86) rfl))) rfl
theorem hm_567 : Cond.methodLink RL 78 yX4_pair ∈ hwG := hwG_of (List.mem_append_right _ (List.mem_append_right _ (List.mem_of_getElem? (i := 87) rfl))) rfl
theorem hm_568 : Cond.instanceMethod yX4_pair ∈ hwG := hwG_of (List.mem_append_right _ (List.mem_append_right _ (List.mem_of_getElem? (i := 88) rfl))) rfl
theorem hm_569 : Cond.selects RX4 yX4_pair yX4_pair ∈ hwG := hwG_of (List.mem_append_right _ (List.mem_append_right _ (List.mem_of_getElem? (i := 89) rfl))) rfl
theorem hm_570 : Cond.code yX4_pair cX4_pair 6 none ∈ hwG := hwG_of (List.mem_append_right _ (List.mem_append_right _ (List.mem_of_getElem? (i := 90) rfl))) rfl
theorem hm_571 : Cond.methodLink RX4 66 yX4_noClaim ∈ hwG := hwG_of (List.mem_append_right _ (List.mem_append_right _ (List.mem_of_getElem? (i := 91) rfl))) rfl
theorem hm_572 : Cond.static yX4_noClaim ∈ hwG := hwG_of (List.mem_append_right _ (List.mem_append_right _ (List.mem_of_getElem? (i := 92) rfl))) rfl
theorem hm_573 : Cond.code yX4_noClaim cX4_noClaim 1 (some .boolean) ∈ hwG := hwG_of (List.mem_append_right _ (List.mem_append_right _ (List.mem_of_getElem? (i := 93) rfl))) rfl
theorem hm_574 : Cond.methodLink RX4 70 yX4_noTerm ∈ hwG := hwG_of (List.mem_append_right _ (List.mem_append_right _ (List.mem_of_getElem? (i := 94) rfl))) rfl
theorem hm_575 : Cond.static yX4_noTerm ∈ hwG := hwG_of (List.mem_append_right _ (List.mem_append_right _ (List.mem_of_getElem? (i := 95) rfl))) rfl
theorem hm_576 : Cond.code yX4_noTerm cX4_noTerm 1 (some .boolean) ∈ hwG := hwG_of (List.mem_append_right _ (List.mem_append_right _ (List.mem_of_getElem? (i := 96) rfl))) rfl
theorem hm_577 : Cond.methodLink RL 86 yX4_piece ∈ hwG := hwG_of (List.mem_append_right _ (List.mem_append_right _ (List.mem_of_getElem? (i := 97) rfl))) rfl
theorem hm_578 : Cond.instanceMethod yX4_piece ∈ hwG := hwG_of (List.mem_append_right _ (List.mem_append_right _ (List.mem_of_getElem? (i := 98) rfl))) rfl
theorem hm_579 : Cond.selects RX4 yX4_piece yX4_piece ∈ hwG := hwG_of (List.mem_append_right _ (List.mem_append_right _ (List.mem_of_getElem? (i := 99) rfl))) rfl
theorem hm_580 : Cond.code yX4_piece cX4_piece 6 (some .int) ∈ hwG := hwG_of (List.mem_append_right _ (List.mem_append_right _ (List.mem_of_getElem? (i := 100) rfl))) rfl
theorem hm_581 : Cond.methodLink RL 90 yX4_clear ∈ hwG := hwG_of (List.mem_append_right _ (List.mem_append_right _ (List.mem_of_getElem? (i := 101) rfl))) rfl
theorem hm_582 : Cond.instanceMethod yX4_clear ∈ hwG := hwG_of (List.mem_append_right _ (List.mem_append_right _ (List.mem_of_getElem? (i := 102) rfl))) rfl
theorem hm_583 : Cond.selects RX4 yX4_clear yX4_clear ∈ hwG := hwG_of (List.mem_append_right _ (List.mem_append_right _ (List.mem_of_getElem? (i := 103) rfl))) rfl
theorem hm_584 : Cond.code yX4_clear cX4_clear 3 none ∈ hwG := hwG_of (List.mem_append_right _ (List.mem_append_right _ (List.mem_of_getElem? (i := 104) rfl))) rfl
theorem hm_585 : Cond.methodLink RL 94 yX4_swap ∈ hwG := hwG_of (List.mem_append_right _ (List.mem_append_right _ (List.mem_of_getElem? (i := 105) rfl))) rfl
theorem hm_586 : Cond.instanceMethod yX4_swap ∈ hwG := hwG_of (List.mem_append_right _ (List.mem_append_right _ (List.mem_of_getElem? (i := 106) rfl))) rfl
theorem hm_587 : Cond.selects RX4 yX4_swap yX4_swap ∈ hwG := hwG_of (List.mem_append_right _ (List.mem_append_right _ (List.mem_of_getElem? (i := 107) rfl))) rfl
theorem hm_588 : Cond.code yX4_swap cX4_swap 5 none ∈ hwG := hwG_of (List.mem_append_right _ (List.mem_append_right _ (List.mem_of_getElem? (i := 108) rfl))) rfl
theorem hm_589 : Cond.methodLink RL 98 yX4_pieces ∈ hwG := hwG_of (List.mem_append_right _ (List.mem_append_right _ (List.mem_of_getElem? (i := 109) rfl))) rfl
theorem hm_590 : Cond.instanceMethod yX4_pieces ∈ hwG := hwG_of (List.mem_append_right _ (List.mem_append_right _ (List.mem_of_getElem? (i := 110) rfl))) rfl
theorem hm_591 : Cond.selects RX4 yX4_pieces yX4_pieces ∈ hwG := hwG_of (List.mem_append_right _ (List.mem_append_right _ (List.mem_of_getElem? (i := 111) rfl))) rfl
theorem hm_592 : Cond.code yX4_pieces cX4_pieces 2 (some .int) ∈ hwG := hwG_of (List.mem_append_right _ (List.mem_append_right _ (List.mem_of_getElem? (i := 112) rfl))) rfl
theorem hm_593 : Cond.methodLink RL 101 yX4_possible ∈ hwG := hwG_of (List.mem_append_right _ (List.mem_append_right _ (List.mem_of_getElem? (i := 113) rfl))) rfl
theorem hm_594 : Cond.instanceMethod yX4_possible ∈ hwG := hwG_of (List.mem_append_right _ (List.mem_append_right _ (List.mem_of_getElem? (i := 114) rfl))) rfl
theorem hm_595 : Cond.selects RX4 yX4_possible yX4_possible ∈ hwG := hwG_of (List.mem_append_right _ (List.mem_append_right _ (List.mem_of_getElem? (i := 115) rfl))) rfl
theorem hm_596 : Cond.code yX4_possible cX4_possible 2 (some .boolean) ∈ hwG := hwG_of (List.mem_append_right _ (List.mem_append_right _ (List.mem_of_getElem? (i := 116) rfl))) rfl
theorem hm_597 : Cond.methodLink RX4 121 yX4_some ∈ hwG := hwG_of (List.mem_append_right _ (List.mem_append_right _ (List.mem_of_getElem? (i := 117) rfl))) rfl
theorem hm_599 : Cond.instanceMethod yX4_some ∈ hwG := hwG_of (List.mem_append_right _ (List.mem_append_right _ (List.mem_of_getElem? (i := 119) rfl))) rfl
theorem hm_600 : Cond.code yX4_some cX4_some 3 (some .boolean) ∈ hwG := hwG_of (List.mem_append_right _ (List.mem_append_right _ (List.mem_of_getElem? (i := 120) rfl))) rfl
theorem hm_601 : Cond.methodLink RX4 91 yX4_pairsTrue ∈ hwG := hwG_of (List.mem_append_right _ (List.mem_append_right _ (List.mem_of_getElem? (i := 121) rfl))) rfl
theorem hm_603 : Cond.instanceMethod yX4_pairsTrue ∈ hwG := hwG_of (List.mem_append_right _ (List.mem_append_right _ (List.mem_of_getElem? (i := 123) rfl))) rfl
theorem hm_604 : Cond.code yX4_pairsTrue cX4_pairsTrue 5 (some .boolean) ∈ hwG := hwG_of (List.mem_append_right _ (List.mem_append_right _ (List.mem_of_getElem? (i := 124) rfl))) rfl
theorem hm_605 : Cond.methodLink RX4 94 yX4_begun ∈ hwG := hwG_of (List.mem_append_right _ (List.mem_append_right _ (List.mem_of_getElem? (i := 125) rfl))) rfl
theorem hm_607 : Cond.instanceMethod yX4_begun ∈ hwG := hwG_of (List.mem_append_right _ (List.mem_append_right _ (List.mem_of_getElem? (i := 127) rfl))) rfl
theorem hm_608 : Cond.code yX4_begun cX4_begun 4 (some .boolean) ∈ hwG := hwG_of (List.mem_append_right _ (List.mem_append_right _ (List.mem_of_getElem? (i := 128) rfl))) rfl
theorem hm_609 : Cond.methodLink RX4 73 yX4_isEmpty ∈ hwG := hwG_of (List.mem_append_right _ (List.mem_append_right _ (List.mem_of_getElem? (i := 129) rfl))) rfl
theorem hm_611 : Cond.instanceMethod yX4_isEmpty ∈ hwG := hwG_of (List.mem_append_right _ (List.mem_append_right _ (List.mem_of_getElem? (i := 131) rfl))) rfl
theorem hm_612 : Cond.code yX4_isEmpty cX4_isEmpty 2 (some .boolean) ∈ hwG := hwG_of (List.mem_append_right _ (List.mem_append_right _ (List.mem_of_getElem? (i := 132) rfl))) rfl
theorem hm_613 : Cond.methodLink RX4 97 yX4_someWay ∈ hwG := hwG_of (List.mem_append_right _ (List.mem_append_right _ (List.mem_of_getElem? (i := 133) rfl))) rfl
theorem hm_615 : Cond.instanceMethod yX4_someWay ∈ hwG := hwG_of (List.mem_append_right _ (List.mem_append_right _ (List.mem_of_getElem? (i := 135) rfl))) rfl
theorem hm_616 : Cond.code yX4_someWay cX4_someWay 9 (some .boolean) ∈ hwG := hwG_of (List.mem_append_right _ (List.mem_append_right _ (List.mem_of_getElem? (i := 136) rfl))) rfl
theorem hm_617 : Cond.methodLink RX4 76 yX4_nextList ∈ hwG := hwG_of (List.mem_append_right _ (List.mem_append_right _ (List.mem_of_getElem? (i := 137) rfl))) rfl
theorem hm_619 : Cond.instanceMethod yX4_nextList ∈ hwG := hwG_of (List.mem_append_right _ (List.mem_append_right _ (List.mem_of_getElem? (i := 139) rfl))) rfl
theorem hm_620 : Cond.code yX4_nextList cX4_nextList 4 (some .int) ∈ hwG := hwG_of (List.mem_append_right _ (List.mem_append_right _ (List.mem_of_getElem? (i := 140) rfl))) rfl
theorem hm_621 : Cond.methodLink RX4 80 yX4_isLookedFor ∈ hwG := hwG_of (List.mem_append_right _ (List.mem_append_right _ (List.mem_of_getElem? (i := 141) rfl))) rfl
theorem hm_623 : Cond.instanceMethod yX4_isLookedFor ∈ hwG := hwG_of (List.mem_append_right _ (List.mem_append_right _ (List.mem_of_getElem? (i := 143) rfl))) rfl
theorem hm_624 : Cond.code yX4_isLookedFor cX4_isLookedFor 1 (some .boolean) ∈ hwG := hwG_of (List.mem_append_right _ (List.mem_append_right _ (List.mem_of_getElem? (i := 144) rfl))) rfl
theorem hm_625 : Cond.methodLink RX4 112 yX4_rightTrue ∈ hwG := hwG_of (List.mem_append_right _ (List.mem_append_right _ (List.mem_of_getElem? (i := 145) rfl))) rfl
theorem hm_627 : Cond.instanceMethod yX4_rightTrue ∈ hwG := hwG_of (List.mem_append_right _ (List.mem_append_right _ (List.mem_of_getElem? (i := 147) rfl))) rfl
theorem hm_628 : Cond.code yX4_rightTrue cX4_rightTrue 2 (some .boolean) ∈ hwG := hwG_of (List.mem_append_right _ (List.mem_append_right _ (List.mem_of_getElem? (i := 148) rfl))) rfl
theorem hm_629 : Cond.methodLink RX4 103 yX4_takes ∈ hwG := hwG_of (List.mem_append_right _ (List.mem_append_right _ (List.mem_of_getElem? (i := 149) rfl))) rfl
theorem hm_631 : Cond.instanceMethod yX4_takes ∈ hwG := hwG_of (List.mem_append_right _ (List.mem_append_right _ (List.mem_of_getElem? (i := 151) rfl))) rfl
theorem hm_632 : Cond.code yX4_takes cX4_takes 4 (some .boolean) ∈ hwG := hwG_of (List.mem_append_right _ (List.mem_append_right _ (List.mem_of_getElem? (i := 152) rfl))) rfl
theorem hm_633 : Cond.methodLink RX4 84 yX4_isFree ∈ hwG := hwG_of (List.mem_append_right _ (List.mem_append_right _ (List.mem_of_getElem? (i := 153) rfl))) rfl
theorem hm_635 : Cond.instanceMethod yX4_isFree ∈ hwG := hwG_of (List.mem_append_right _ (List.mem_append_right _ (List.mem_of_getElem? (i := 155) rfl))) rfl
theorem hm_636 : Cond.code yX4_isFree cX4_isFree 3 (some .boolean) ∈ hwG := hwG_of (List.mem_append_right _ (List.mem_append_right _ (List.mem_of_getElem? (i := 156) rfl))) rfl
theorem hm_637 : Cond.methodLink RX4 88 yX4_isGroup ∈ hwG := hwG_of (List.mem_append_right _ (List.mem_append_right _ (List.mem_of_getElem? (i := 157) rfl))) rfl
theorem hm_639 : Cond.instanceMethod yX4_isGroup ∈ hwG := hwG_of (List.mem_append_right _ (List.mem_append_right _ (List.mem_of_getElem? (i := 159) rfl))) rfl
theorem hm_640 : Cond.code yX4_isGroup cX4_isGroup 4 (some .boolean) ∈ hwG := hwG_of (List.mem_append_right _ (List.mem_append_right _ (List.mem_of_getElem? (i := 160) rfl))) rfl
theorem hm_641 : Cond.methodLink RX4 100 yX4_nextGroups ∈ hwG := hwG_of (List.mem_append_right _ (List.mem_append_right _ (List.mem_of_getElem? (i := 161) rfl))) rfl
theorem hm_643 : Cond.instanceMethod yX4_nextGroups ∈ hwG := hwG_of (List.mem_append_right _ (List.mem_append_right _ (List.mem_of_getElem? (i := 163) rfl))) rfl
theorem hm_644 : Cond.code yX4_nextGroups cX4_nextGroups 4 (some .boolean) ∈ hwG := hwG_of (List.mem_append_right _ (List.mem_append_right _ (List.mem_of_getElem? (i := 164) rfl))) rfl
theorem hm_645 : Cond.methodLink RL 106 yX4_implies ∈ hwG := hwG_of (List.mem_append_right _ (List.mem_append_right _ (List.mem_of_getElem? (i := 165) rfl))) rfl
theorem hm_646 : Cond.instanceMethod yX4_implies ∈ hwG := hwG_of (List.mem_append_right _ (List.mem_append_right _ (List.mem_of_getElem? (i := 166) rfl))) rfl
theorem hm_647 : Cond.selects RX4 yX4_implies yX4_implies ∈ hwG := hwG_of (List.mem_append_right _ (List.mem_append_right _ (List.mem_of_getElem? (i := 167) rfl))) rfl
theorem hm_648 : Cond.code yX4_implies cX4_implies 1 (some .boolean) ∈ hwG := hwG_of (List.mem_append_right _ (List.mem_append_right _ (List.mem_of_getElem? (i := 168) rfl))) rfl
theorem hm_649 : Cond.methodLink RL 110 yX4_sure ∈ hwG := hwG_of (List.mem_append_right _ (List.mem_append_right _ (List.mem_of_getElem? (i := 169) rfl))) rfl
theorem hm_650 : Cond.instanceMethod yX4_sure ∈ hwG := hwG_of (List.mem_append_right _ (List.mem_append_right _ (List.mem_of_getElem? (i := 170) rfl))) rfl
theorem hm_651 : Cond.selects RX4 yX4_sure yX4_sure ∈ hwG := hwG_of (List.mem_append_right _ (List.mem_append_right _ (List.mem_of_getElem? (i := 171) rfl))) rfl
theorem hm_652 : Cond.code yX4_sure cX4_sure 4 (some .boolean) ∈ hwG := hwG_of (List.mem_append_right _ (List.mem_append_right _ (List.mem_of_getElem? (i := 172) rfl))) rfl
theorem hm_653 : Cond.methodLink RL 114 yX4_frame ∈ hwG := hwG_of (List.mem_append_right _ (List.mem_append_right _ (List.mem_of_getElem? (i := 173) rfl))) rfl
theorem hm_654 : Cond.instanceMethod yX4_frame ∈ hwG := hwG_of (List.mem_append_right _ (List.mem_append_right _ (List.mem_of_getElem? (i := 174) rfl))) rfl
theorem hm_655 : Cond.selects RX4 yX4_frame yX4_frame ∈ hwG := hwG_of (List.mem_append_right _ (List.mem_append_right _ (List.mem_of_getElem? (i := 175) rfl))) rfl
theorem hm_656 : Cond.code yX4_frame cX4_frame 2 (some .int) ∈ hwG := hwG_of (List.mem_append_right _ (List.mem_append_right _ (List.mem_of_getElem? (i := 176) rfl))) rfl
theorem hm_657 : Cond.methodLink RL 118 yX4_give ∈ hwG := hwG_of (List.mem_append_right _ (List.mem_append_right _ (List.mem_of_getElem? (i := 177) rfl))) rfl
theorem hm_658 : Cond.instanceMethod yX4_give ∈ hwG := hwG_of (List.mem_append_right _ (List.mem_append_right _ (List.mem_of_getElem? (i := 178) rfl))) rfl
theorem hm_659 : Cond.selects RX4 yX4_give yX4_give ∈ hwG := hwG_of (List.mem_append_right _ (List.mem_append_right _ (List.mem_of_getElem? (i := 179) rfl))) rfl
theorem hm_660 : Cond.code yX4_give cX4_give 3 none ∈ hwG := hwG_of (List.mem_append_right _ (List.mem_append_right _ (List.mem_of_getElem? (i := 180) rfl))) rfl
theorem hm_661 : Cond.methodLink RX4 124 yX4_noVariable ∈ hwG := hwG_of (List.mem_append_right _ (List.mem_append_right _ (List.mem_of_getElem? (i := 181) rfl))) rfl
theorem hm_662 : Cond.static yX4_noVariable ∈ hwG := hwG_of (List.mem_append_right _ (List.mem_append_right _ (List.mem_of_getElem? (i := 182) rfl))) rfl
theorem hm_663 : Cond.code yX4_noVariable cX4_noVariable 1 (some .boolean) ∈ hwG := hwG_of (List.mem_append_right _ (List.mem_append_right _ (List.mem_of_getElem? (i := 183) rfl))) rfl
theorem hm_664 : Cond.methodLink RL 121 yX4_put ∈ hwG := hwG_of (List.mem_append_right _ (List.mem_append_right _ (List.mem_of_getElem? (i := 184) rfl))) rfl
theorem hm_665 : Cond.instanceMethod yX4_put ∈ hwG := hwG_of (List.mem_append_right _ (List.mem_append_right _ (List.mem_of_getElem? (i := 185) rfl))) rfl
theorem hm_666 : Cond.selects RX4 yX4_put yX4_put ∈ hwG := hwG_of (List.mem_append_right _ (List.mem_append_right _ (List.mem_of_getElem? (i := 186) rfl))) rfl
theorem hm_667 : Cond.code yX4_put cX4_put 3 none ∈ hwG := hwG_of (List.mem_append_right _ (List.mem_append_right _ (List.mem_of_getElem? (i := 187) rfl))) rfl
theorem hm_668 : Cond.methodLink RL 124 yX4_holds ∈ hwG := hwG_of (List.mem_append_right _ (List.mem_append_right _ (List.mem_of_getElem? (i := 188) rfl))) rfl
theorem hm_669 : Cond.instanceMethod yX4_holds ∈ hwG := hwG_of (List.mem_append_right _ (List.mem_append_right _ (List.mem_of_getElem? (i := 189) rfl))) rfl
theorem hm_670 : Cond.selects RX4 yX4_holds yX4_holds ∈ hwG := hwG_of (List.mem_append_right _ (List.mem_append_right _ (List.mem_of_getElem? (i := 190) rfl))) rfl
theorem hm_671 : Cond.code yX4_holds cX4_holds 6 (some .boolean) ∈ hwG := hwG_of (List.mem_append_right _ (List.mem_append_right _ (List.mem_of_getElem? (i := 191) rfl))) rfl
theorem hm_672 : Cond.methodLink RX4 127 yX4_valueOf ∈ hwG := hwG_of (List.mem_append_right _ (List.mem_append_right _ (List.mem_of_getElem? (i := 192) rfl))) rfl
theorem hm_674 : Cond.instanceMethod yX4_valueOf ∈ hwG := hwG_of (List.mem_append_right _ (List.mem_append_right _ (List.mem_of_getElem? (i := 194) rfl))) rfl
theorem hm_675 : Cond.code yX4_valueOf cX4_valueOf 2 (some .int) ∈ hwG := hwG_of (List.mem_append_right _ (List.mem_append_right _ (List.mem_of_getElem? (i := 195) rfl))) rfl
theorem hm_676 : Cond.methodLink RX4 131 yX4_takesAtHand ∈ hwG := hwG_of (List.mem_append_right _ (List.mem_append_right _ (List.mem_of_getElem? (i := 196) rfl))) rfl
theorem hm_678 : Cond.instanceMethod yX4_takesAtHand ∈ hwG := hwG_of (List.mem_append_right _ (List.mem_append_right _ (List.mem_of_getElem? (i := 198) rfl))) rfl
theorem hm_679 : Cond.code yX4_takesAtHand cX4_takesAtHand 5 (some .boolean) ∈ hwG := hwG_of (List.mem_append_right _ (List.mem_append_right _ (List.mem_of_getElem? (i := 199) rfl))) rfl
theorem hm_680 : Cond.methodLink RL 127 yX4_copy ∈ hwG := hwG_of (List.mem_append_right _ (List.mem_append_right _ (List.mem_of_getElem? (i := 200) rfl))) rfl
theorem hm_681 : Cond.instanceMethod yX4_copy ∈ hwG := hwG_of (List.mem_append_right _ (List.mem_append_right _ (List.mem_of_getElem? (i := 201) rfl))) rfl
theorem hm_682 : Cond.selects RX4 yX4_copy yX4_copy ∈ hwG := hwG_of (List.mem_append_right _ (List.mem_append_right _ (List.mem_of_getElem? (i := 202) rfl))) rfl
theorem hm_683 : Cond.code yX4_copy cX4_copy 3 none ∈ hwG := hwG_of (List.mem_append_right _ (List.mem_append_right _ (List.mem_of_getElem? (i := 203) rfl))) rfl
theorem hm_684 : Cond.methodLink RL 130 yX4_load ∈ hwG := hwG_of (List.mem_append_right _ (List.mem_append_right _ (List.mem_of_getElem? (i := 204) rfl))) rfl
theorem hm_685 : Cond.instanceMethod yX4_load ∈ hwG := hwG_of (List.mem_append_right _ (List.mem_append_right _ (List.mem_of_getElem? (i := 205) rfl))) rfl
theorem hm_686 : Cond.selects RX4 yX4_load yX4_load ∈ hwG := hwG_of (List.mem_append_right _ (List.mem_append_right _ (List.mem_of_getElem? (i := 206) rfl))) rfl
theorem hm_687 : Cond.code yX4_load cX4_load 3 none ∈ hwG := hwG_of (List.mem_append_right _ (List.mem_append_right _ (List.mem_of_getElem? (i := 207) rfl))) rfl
theorem hm_688 : Cond.methodLink RL 133 yX4_store ∈ hwG := hwG_of (List.mem_append_right _ (List.mem_append_right _ (List.mem_of_getElem? (i := 208) rfl))) rfl
theorem hm_689 : Cond.instanceMethod yX4_store ∈ hwG := hwG_of (List.mem_append_right _ (List.mem_append_right _ (List.mem_of_getElem? (i := 209) rfl))) rfl
theorem hm_690 : Cond.selects RX4 yX4_store yX4_store ∈ hwG := hwG_of (List.mem_append_right _ (List.mem_append_right _ (List.mem_of_getElem? (i := 210) rfl))) rfl
theorem hm_691 : Cond.code yX4_store cX4_store 3 none ∈ hwG := hwG_of (List.mem_append_right _ (List.mem_append_right _ (List.mem_of_getElem? (i := 211) rfl))) rfl
theorem hm_692 : Cond.methodLink RL 136 yX4_make ∈ hwG := hwG_of (List.mem_append_right _ (List.mem_append_right _ (List.mem_of_getElem? (i := 212) rfl))) rfl
theorem hm_693 : Cond.instanceMethod yX4_make ∈ hwG := hwG_of (List.mem_append_right _ (List.mem_append_right _ (List.mem_of_getElem? (i := 213) rfl))) rfl
theorem hm_694 : Cond.selects RX4 yX4_make yX4_make ∈ hwG := hwG_of (List.mem_append_right _ (List.mem_append_right _ (List.mem_of_getElem? (i := 214) rfl))) rfl
theorem hm_695 : Cond.code yX4_make cX4_make 3 none ∈ hwG := hwG_of (List.mem_append_right _ (List.mem_append_right _ (List.mem_of_getElem? (i := 215) rfl))) rfl
theorem hm_696 : Cond.methodLink RL 139 yX4_drop ∈ hwG := hwG_of (List.mem_append_right _ (List.mem_append_right _ (List.mem_of_getElem? (i := 216) rfl))) rfl
theorem hm_697 : Cond.instanceMethod yX4_drop ∈ hwG := hwG_of (List.mem_append_right _ (List.mem_append_right _ (List.mem_of_getElem? (i := 217) rfl))) rfl
theorem hm_698 : Cond.selects RX4 yX4_drop yX4_drop ∈ hwG := hwG_of (List.mem_append_right _ (List.mem_append_right _ (List.mem_of_getElem? (i := 218) rfl))) rfl
theorem hm_699 : Cond.code yX4_drop cX4_drop 2 none ∈ hwG := hwG_of (List.mem_append_right _ (List.mem_append_right _ (List.mem_of_getElem? (i := 219) rfl))) rfl
theorem hm_700 : Cond.methodLink RL 142 yX4_value ∈ hwG := hwG_of (List.mem_append_right _ (List.mem_append_right _ (List.mem_of_getElem? (i := 220) rfl))) rfl
theorem hm_701 : Cond.instanceMethod yX4_value ∈ hwG := hwG_of (List.mem_append_right _ (List.mem_append_right _ (List.mem_of_getElem? (i := 221) rfl))) rfl
theorem hm_702 : Cond.selects RX4 yX4_value yX4_value ∈ hwG := hwG_of (List.mem_append_right _ (List.mem_append_right _ (List.mem_of_getElem? (i := 222) rfl))) rfl
theorem hm_703 : Cond.code yX4_value cX4_value 2 (some .int) ∈ hwG := hwG_of (List.mem_append_right _ (List.mem_append_right _ (List.mem_of_getElem? (i := 223) rfl))) rfl
theorem hm_704 : Cond.methodLink RL 146 yX4_next ∈ hwG := hwG_of (List.mem_append_right _ (List.mem_append_right _ (List.mem_of_getElem? (i := 224) rfl))) rfl
theorem hm_705 : Cond.instanceMethod yX4_next ∈ hwG := hwG_of (List.mem_append_right _ (List.mem_append_right _ (List.mem_of_getElem? (i := 225) rfl))) rfl
theorem hm_706 : Cond.selects RX4 yX4_next yX4_next ∈ hwG := hwG_of (List.mem_append_right _ (List.mem_append_right _ (List.mem_of_getElem? (i := 226) rfl))) rfl
theorem hm_707 : Cond.code yX4_next cX4_next 2 (some .int) ∈ hwG := hwG_of (List.mem_append_right _ (List.mem_append_right _ (List.mem_of_getElem? (i := 227) rfl))) rfl
theorem hm_708 : Cond.methodLink RL 150 yX4_count ∈ hwG := hwG_of (List.mem_append_right _ (List.mem_append_right _ (List.mem_of_getElem? (i := 228) rfl))) rfl
theorem hm_709 : Cond.instanceMethod yX4_count ∈ hwG := hwG_of (List.mem_append_right _ (List.mem_append_right _ (List.mem_of_getElem? (i := 229) rfl))) rfl
theorem hm_710 : Cond.selects RX4 yX4_count yX4_count ∈ hwG := hwG_of (List.mem_append_right _ (List.mem_append_right _ (List.mem_of_getElem? (i := 230) rfl))) rfl
theorem hm_711 : Cond.code yX4_count cX4_count 3 (some .int) ∈ hwG := hwG_of (List.mem_append_right _ (List.mem_append_right _ (List.mem_of_getElem? (i := 231) rfl))) rfl
theorem hm_712 : Cond.arrayClass .long ∈ hwG := hwG_of (List.mem_append_right _ (List.mem_append_right _ (List.mem_of_getElem? (i := 232) rfl))) rfl
theorem hs_yX3_leastFrame : Cond.selects RX3 yX3_leastFrame yX3_leastFrame ∈ hwG := hwG_sel (q := (yX3_leastFrame, 4)) (List.mem_append_left _ (List.mem_of_getElem? (i := 0) rfl)) rfl
theorem hs_yX2_takenByList : Cond.selects RX2 yX2_takenByList yX2_takenByList ∈ hwG := hwG_sel (q := (yX2_takenByList, 6)) (List.mem_append_left _ (List.mem_of_getElem? (i := 1) rfl)) rfl
theorem hs_yX2_takenByCell : Cond.selects RX2 yX2_takenByCell yX2_takenByCell ∈ hwG := hwG_sel (q := (yX2_takenByCell, 6)) (List.mem_append_left _ (List.mem_of_getElem? (i := 2) rfl)) rfl
theorem hs_yX0_greatestBefore : Cond.selects RX0 yX0_greatestBefore yX0_greatestBefore ∈ hwG := hwG_sel (q := (yX0_greatestBefore, 2)) (List.mem_append_left _ (List.mem_of_getElem? (i := 3) rfl)) rfl
theorem hs_yX3_claimAt : Cond.selects RX3 yX3_claimAt yX3_claimAt ∈ hwG := hwG_sel (q := (yX3_claimAt, 4)) (List.mem_append_left _ (List.mem_of_getElem? (i := 4) rfl)) rfl
theorem hs_yX3_checkTerm : Cond.selects RX3 yX3_checkTerm yX3_checkTerm ∈ hwG := hwG_sel (q := (yX3_checkTerm, 4)) (List.mem_append_left _ (List.mem_of_getElem? (i := 6) rfl)) rfl
theorem hs_yX3_isSo : Cond.selects RX3 yX3_isSo yX3_isSo ∈ hwG := hwG_sel (q := (yX3_isSo, 4)) (List.mem_append_left _ (List.mem_of_getElem? (i := 7) rfl)) rfl
theorem hs_yX3_checkVariable : Cond.selects RX3 yX3_checkVariable yX3_checkVariable ∈ hwG := hwG_sel (q := (yX3_checkVariable, 4)) (List.mem_append_left _ (List.mem_of_getElem? (i := 8) rfl)) rfl
theorem hs_yX3_checkValue : Cond.selects RX3 yX3_checkValue yX3_checkValue ∈ hwG := hwG_sel (q := (yX3_checkValue, 4)) (List.mem_append_left _ (List.mem_of_getElem? (i := 9) rfl)) rfl
theorem hs_yX3_checkCell : Cond.selects RX3 yX3_checkCell yX3_checkCell ∈ hwG := hwG_sel (q := (yX3_checkCell, 4)) (List.mem_append_left _ (List.mem_of_getElem? (i := 10) rfl)) rfl
theorem hs_yX4_some : Cond.selects RX4 yX4_some yX4_some ∈ hwG := hwG_sel (q := (yX4_some, 22)) (List.mem_append_left _ (List.mem_of_getElem? (i := 11) rfl)) rfl
theorem hs_yX4_pairsTrue : Cond.selects RX4 yX4_pairsTrue yX4_pairsTrue ∈ hwG := hwG_sel (q := (yX4_pairsTrue, 22)) (List.mem_append_left _ (List.mem_of_getElem? (i := 12) rfl)) rfl
theorem hs_yX4_begun : Cond.selects RX4 yX4_begun yX4_begun ∈ hwG := hwG_sel (q := (yX4_begun, 22)) (List.mem_append_left _ (List.mem_of_getElem? (i := 13) rfl)) rfl
theorem hs_yX4_isEmpty : Cond.selects RX4 yX4_isEmpty yX4_isEmpty ∈ hwG := hwG_sel (q := (yX4_isEmpty, 22)) (List.mem_append_left _ (List.mem_of_getElem? (i := 14) rfl)) rfl
theorem hs_yX4_someWay : Cond.selects RX4 yX4_someWay yX4_someWay ∈ hwG := hwG_sel (q := (yX4_someWay, 22)) (List.mem_append_left _ (List.mem_of_getElem? (i := 15) rfl)) rfl
theorem hs_yX4_nextList : Cond.selects RX4 yX4_nextList yX4_nextList ∈ hwG := hwG_sel (q := (yX4_nextList, 22)) (List.mem_append_right _ (List.mem_of_getElem? (i := 0) rfl)) rfl
theorem hs_yX4_isLookedFor : Cond.selects RX4 yX4_isLookedFor yX4_isLookedFor ∈ hwG := hwG_sel (q := (yX4_isLookedFor, 22)) (List.mem_append_right _ (List.mem_of_getElem? (i := 1) rfl)) rfl
theorem hs_yX4_rightTrue : Cond.selects RX4 yX4_rightTrue yX4_rightTrue ∈ hwG := hwG_sel (q := (yX4_rightTrue, 22)) (List.mem_append_right _ (List.mem_of_getElem? (i := 2) rfl)) rfl
theorem hs_yX4_takes : Cond.selects RX4 yX4_takes yX4_takes ∈ hwG := hwG_sel (q := (yX4_takes, 22)) (List.mem_append_right _ (List.mem_of_getElem? (i := 3) rfl)) rfl
theorem hs_yX4_isFree : Cond.selects RX4 yX4_isFree yX4_isFree ∈ hwG := hwG_sel (q := (yX4_isFree, 22)) (List.mem_append_right _ (List.mem_of_getElem? (i := 4) rfl)) rfl
theorem hs_yX4_isGroup : Cond.selects RX4 yX4_isGroup yX4_isGroup ∈ hwG := hwG_sel (q := (yX4_isGroup, 22)) (List.mem_append_right _ (List.mem_of_getElem? (i := 5) rfl)) rfl
theorem hs_yX4_nextGroups : Cond.selects RX4 yX4_nextGroups yX4_nextGroups ∈ hwG := hwG_sel (q := (yX4_nextGroups, 22)) (List.mem_append_right _ (List.mem_of_getElem? (i := 6) rfl)) rfl
theorem hs_yX4_valueOf : Cond.selects RX4 yX4_valueOf yX4_valueOf ∈ hwG := hwG_sel (q := (yX4_valueOf, 22)) (List.mem_append_right _ (List.mem_of_getElem? (i := 7) rfl)) rfl
theorem hs_yX4_takesAtHand : Cond.selects RX4 yX4_takesAtHand yX4_takesAtHand ∈ hwG := hwG_sel (q := (yX4_takesAtHand, 22)) (List.mem_append_right _ (List.mem_of_getElem? (i := 8) rfl)) rfl
theorem hi_X0 : ∀ w ∈ u_ws RX0 TX0 2, w ∈ hwG := fun w h => List.mem_filter.mpr ⟨List.mem_append_right _ ((by decide +kernel : ∀ w ∈ u_ws RX0 TX0 2, w ∈ tables_1) w h), (by decide +kernel : ∀ w ∈ u_ws RX0 TX0 2, goodWord w = true) w h⟩
theorem hi_X1 : ∀ w ∈ u_ws RX1 TX1 7, w ∈ hwG := fun w h => List.mem_filter.mpr ⟨List.mem_append_right _ ((by decide +kernel : ∀ w ∈ u_ws RX1 TX1 7, w ∈ tables_1) w h), (by decide +kernel : ∀ w ∈ u_ws RX1 TX1 7, goodWord w = true) w h⟩
theorem hi_X2 : ∀ w ∈ u_ws RX2 TX2 6, w ∈ hwG := fun w h => List.mem_filter.mpr ⟨List.mem_append_right _ ((by decide +kernel : ∀ w ∈ u_ws RX2 TX2 6, w ∈ tables_1) w h), (by decide +kernel : ∀ w ∈ u_ws RX2 TX2 6, goodWord w = true) w h⟩
theorem hi_X3 : ∀ w ∈ u_ws RX3 TX3 4, w ∈ hwG := fun w h => List.mem_filter.mpr ⟨List.mem_append_right _ ((by decide +kernel : ∀ w ∈ u_ws RX3 TX3 4, w ∈ tables_1) w h), (by decide +kernel : ∀ w ∈ u_ws RX3 TX3 4, goodWord w = true) w h⟩
theorem hi_X4 : ∀ w ∈ u_ws RX4 TX4 22, w ∈ hwG := fun w h => List.mem_filter.mpr ⟨List.mem_append_right _ ((by decide +kernel : ∀ w ∈ u_ws RX4 TX4 22, w ∈ tables_1) w h), (by decide +kernel : ∀ w ∈ u_ws RX4 TX4 22, goodWord w = true) w h⟩
