/-! the words one by one -/
set_option maxRecDepth 20000 in
theorem zq_0 : (Cond.initialized "ThriftyStoresLaw") ∈ zs_tb := zs_i1 0 rfl rfl
set_option maxRecDepth 20000 in
theorem zq_1 : (Cond.initialized "ThriftyStores") ∈ zs_tb := zs_i1 1 rfl rfl
set_option maxRecDepth 20000 in
theorem zq_2 : (Cond.initialized "ThriftyStores$Program") ∈ zs_tb := zs_i1 2 rfl rfl
set_option maxRecDepth 20000 in
theorem zq_3 : (Cond.initialized "ThriftyStores$Addresses") ∈ zs_tb := zs_i1 3 rfl rfl
set_option maxRecDepth 20000 in
theorem zq_4 : (Cond.initialized "ThriftyStores$Knowledge") ∈ zs_tb := zs_i1 4 rfl rfl
set_option maxRecDepth 20000 in
theorem zq_5 : (Cond.initialized "ThriftyStores$Facts") ∈ zs_tb := zs_i1 5 rfl rfl
set_option maxRecDepth 20000 in
theorem zq_6 : (Cond.initialized "ThriftyStores$Freedom") ∈ zs_tb := zs_i1 6 rfl rfl
set_option maxRecDepth 20000 in
theorem zq_7 : (Cond.initialized "ThriftyStores$Machine") ∈ zs_tb := zs_i1 7 rfl rfl
set_option maxRecDepth 20000 in
theorem zq_8 : (Cond.initialized "ThriftyStoresModel") ∈ zs_tb := zs_i1 8 rfl rfl
set_option maxRecDepth 20000 in
theorem zq_9 : (Cond.initialized "java/lang/Throwable") ∈ zs_tb := zs_i1 9 rfl rfl
set_option maxRecDepth 20000 in
theorem zq_10 : (Cond.initialized "java/lang/Exception") ∈ zs_tb := zs_i1 10 rfl rfl
set_option maxRecDepth 20000 in
theorem zq_11 : (Cond.initialized "java/lang/RuntimeException") ∈ zs_tb := zs_i1 11 rfl rfl
set_option maxRecDepth 20000 in
theorem zq_12 : (Cond.initialized "java/lang/IllegalArgumentException") ∈ zs_tb := zs_i1 12 rfl rfl
set_option maxRecDepth 20000 in
theorem zq_13 : (Cond.initialized "java/lang/IllegalStateException") ∈ zs_tb := zs_i1 13 rfl rfl
set_option maxRecDepth 20000 in
theorem zq_14 : (Cond.initialized "java/lang/System") ∈ zs_tb := zs_i1 14 rfl rfl
set_option maxRecDepth 20000 in
theorem zq_15 : (Cond.initialized "java/util/Arrays") ∈ zs_tb := zs_i1 15 rfl rfl
set_option maxRecDepth 20000 in
theorem zq_16 : (Cond.initialized "java/lang/Math") ∈ zs_tb := zs_i1 16 rfl rfl
set_option maxRecDepth 20000 in
theorem zq_17 : (Cond.initialized "java/lang/Integer") ∈ zs_tb := zs_i1 17 rfl rfl
set_option maxRecDepth 20000 in
theorem zq_18 : (Cond.initialized "java/lang/IndexOutOfBoundsException") ∈ zs_tb := zs_i1 18 rfl rfl
set_option maxRecDepth 20000 in
theorem zq_19 : (Cond.classLink "ThriftyStoresLaw" 8 "ThriftyStores") ∈ zs_tb := zs_i1 19 rfl rfl
set_option maxRecDepth 20000 in
theorem zq_20 : (Cond.instantiable "ThriftyStores" 9) ∈ zs_tb := zs_i1 20 rfl rfl
set_option maxRecDepth 20000 in
theorem zq_21 : (Cond.methodLink "ThriftyStoresLaw" 59 yTS_init) ∈ zs_tb := zs_i1 21 rfl rfl
set_option maxRecDepth 20000 in
theorem zq_22 : (Cond.instanceMethod yTS_init) ∈ zs_tb := zs_i1 22 rfl rfl
set_option maxRecDepth 20000 in
theorem zq_23 : (Cond.code yTS_init cTS_init 1 none) ∈ zs_tb := zs_i1 23 rfl rfl
set_option maxRecDepth 20000 in
theorem zq_24 : (Cond.methodLink "ThriftyStores" 3 ⟨"java/lang/Object", "<init>", "()V"⟩) ∈ zs_tb := zs_i1 24 rfl rfl
set_option maxRecDepth 20000 in
theorem zq_25 : (Cond.instanceMethod ⟨"java/lang/Object", "<init>", "()V"⟩) ∈ zs_tb := zs_i1 25 rfl rfl
set_option maxRecDepth 20000 in
theorem zq_26 : (Cond.code ⟨"java/lang/Object", "<init>", "()V"⟩ object_method_1_code 1 none) ∈ zs_tb := zs_i1 26 rfl rfl
set_option maxRecDepth 20000 in
theorem zq_27 : (Cond.classLink "ThriftyStores" 9 "ThriftyStores$Program") ∈ zs_tb := zs_i1 27 rfl rfl
set_option maxRecDepth 20000 in
theorem zq_28 : (Cond.instantiable "ThriftyStores$Program" 5) ∈ zs_tb := zs_i1 28 rfl rfl
set_option maxRecDepth 20000 in
theorem zq_30 : (Cond.instanceMethod yPR_init) ∈ zs_tb := zs_i1 30 rfl rfl
set_option maxRecDepth 20000 in
theorem zq_31 : (Cond.code yPR_init cPR_init 1 none) ∈ zs_tb := zs_i1 31 rfl rfl
set_option maxRecDepth 20000 in
theorem zq_32 : (Cond.methodLink "ThriftyStores$Program" 3 ⟨"java/lang/Object", "<init>", "()V"⟩) ∈ zs_tb := zs_i1 32 rfl rfl
set_option maxRecDepth 20000 in
theorem zq_33 : (Cond.fieldLink "ThriftyStores$Program" 9 "ThriftyStores$Program" "kinds" "[I") ∈ zs_tb := zs_i1 33 rfl rfl
set_option maxRecDepth 20000 in
theorem zq_34 : (Cond.fieldLink "ThriftyStores$Freedom" 34 "ThriftyStores$Program" "kinds" "[I") ∈ zs_tb := zs_i1 34 rfl rfl
set_option maxRecDepth 20000 in
theorem zq_35 : (Cond.fieldLink "ThriftyStores$Addresses" 62 "ThriftyStores$Program" "kinds" "[I") ∈ zs_tb := zs_i1 35 rfl rfl
set_option maxRecDepth 20000 in
theorem zq_36 : (Cond.fieldLink "ThriftyStores$Facts" 37 "ThriftyStores$Program" "kinds" "[I") ∈ zs_tb := zs_i1 36 rfl rfl
set_option maxRecDepth 20000 in
theorem zq_37 : (Cond.fieldLink "ThriftyStores$Machine" 74 "ThriftyStores$Program" "kinds" "[I") ∈ zs_tb := zs_i1 37 rfl rfl
set_option maxRecDepth 20000 in
theorem zq_38 : (Cond.fieldLink "ThriftyStores" 189 "ThriftyStores$Program" "kinds" "[I") ∈ zs_tb := zs_i1 38 rfl rfl
set_option maxRecDepth 20000 in
theorem zq_39 : (Cond.fieldLink "ThriftyStores$Program" 15 "ThriftyStores$Program" "firsts" "[I") ∈ zs_tb := zs_i1 39 rfl rfl
set_option maxRecDepth 20000 in
theorem zq_40 : (Cond.fieldLink "ThriftyStores$Facts" 29 "ThriftyStores$Program" "firsts" "[I") ∈ zs_tb := zs_i1 40 rfl rfl
set_option maxRecDepth 20000 in
theorem zq_41 : (Cond.fieldLink "ThriftyStores$Freedom" 51 "ThriftyStores$Program" "firsts" "[I") ∈ zs_tb := zs_i1 41 rfl rfl
set_option maxRecDepth 20000 in
theorem zq_42 : (Cond.fieldLink "ThriftyStores$Addresses" 65 "ThriftyStores$Program" "firsts" "[I") ∈ zs_tb := zs_i1 42 rfl rfl
set_option maxRecDepth 20000 in
theorem zq_43 : (Cond.fieldLink "ThriftyStores$Machine" 77 "ThriftyStores$Program" "firsts" "[I") ∈ zs_tb := zs_i1 43 rfl rfl
set_option maxRecDepth 20000 in
theorem zq_44 : (Cond.fieldLink "ThriftyStores" 192 "ThriftyStores$Program" "firsts" "[I") ∈ zs_tb := zs_i1 44 rfl rfl
set_option maxRecDepth 20000 in
theorem zq_45 : (Cond.fieldLink "ThriftyStores$Program" 18 "ThriftyStores$Program" "seconds" "[I") ∈ zs_tb := zs_i1 45 rfl rfl
set_option maxRecDepth 20000 in
theorem zq_46 : (Cond.fieldLink "ThriftyStores$Facts" 34 "ThriftyStores$Program" "seconds" "[I") ∈ zs_tb := zs_i1 46 rfl rfl
set_option maxRecDepth 20000 in
theorem zq_47 : (Cond.fieldLink "ThriftyStores$Freedom" 54 "ThriftyStores$Program" "seconds" "[I") ∈ zs_tb := zs_i1 47 rfl rfl
set_option maxRecDepth 20000 in
theorem zq_48 : (Cond.fieldLink "ThriftyStores$Addresses" 68 "ThriftyStores$Program" "seconds" "[I") ∈ zs_tb := zs_i1 48 rfl rfl
set_option maxRecDepth 20000 in
theorem zq_49 : (Cond.fieldLink "ThriftyStores$Machine" 80 "ThriftyStores$Program" "seconds" "[I") ∈ zs_tb := zs_i1 49 rfl rfl
set_option maxRecDepth 20000 in
theorem zq_50 : (Cond.fieldLink "ThriftyStores" 195 "ThriftyStores$Program" "seconds" "[I") ∈ zs_tb := zs_i1 50 rfl rfl
set_option maxRecDepth 20000 in
theorem zq_51 : (Cond.fieldLink "ThriftyStores$Program" 21 "ThriftyStores$Program" "thirds" "[I") ∈ zs_tb := zs_i1 51 rfl rfl
set_option maxRecDepth 20000 in
theorem zq_52 : (Cond.fieldLink "ThriftyStores$Machine" 83 "ThriftyStores$Program" "thirds" "[I") ∈ zs_tb := zs_i1 52 rfl rfl
set_option maxRecDepth 20000 in
theorem zq_53 : (Cond.fieldLink "ThriftyStores$Addresses" 89 "ThriftyStores$Program" "thirds" "[I") ∈ zs_tb := zs_i1 53 rfl rfl
set_option maxRecDepth 20000 in
theorem zq_54 : (Cond.fieldLink "ThriftyStores$Program" 24 "ThriftyStores$Program" "length" "I") ∈ zs_tb := zs_i1 54 rfl rfl
set_option maxRecDepth 20000 in
theorem zq_55 : (Cond.fieldLink "ThriftyStores$Freedom" 21 "ThriftyStores$Program" "length" "I") ∈ zs_tb := zs_i1 55 rfl rfl
set_option maxRecDepth 20000 in
theorem zq_56 : (Cond.fieldLink "ThriftyStores$Knowledge" 33 "ThriftyStores$Program" "length" "I") ∈ zs_tb := zs_i1 56 rfl rfl
set_option maxRecDepth 20000 in
theorem zq_57 : (Cond.fieldLink "ThriftyStores" 70 "ThriftyStores$Program" "length" "I") ∈ zs_tb := zs_i1 57 rfl rfl
set_option maxRecDepth 20000 in
theorem zq_58 : (Cond.fieldLink "ThriftyStores$Addresses" 43 "ThriftyStores$Program" "length" "I") ∈ zs_tb := zs_i1 58 rfl rfl
set_option maxRecDepth 20000 in
theorem zq_59 : (Cond.fieldLink "ThriftyStores$Machine" 53 "ThriftyStores$Program" "length" "I") ∈ zs_tb := zs_i1 59 rfl rfl
set_option maxRecDepth 20000 in
theorem zq_71 : (Cond.arrayClass .int) ∈ zs_tb := zs_i1 71 rfl rfl
set_option maxRecDepth 20000 in
theorem zq_72 : (Cond.classLink "ThriftyStores" 23 "ThriftyStores$Addresses") ∈ zs_tb := zs_i1 72 rfl rfl
set_option maxRecDepth 20000 in
theorem zq_73 : (Cond.instantiable "ThriftyStores$Addresses" 6) ∈ zs_tb := zs_i1 73 rfl rfl
set_option maxRecDepth 20000 in
theorem zq_75 : (Cond.instanceMethod yAD_init) ∈ zs_tb := zs_i1 75 rfl rfl
set_option maxRecDepth 20000 in
theorem zq_76 : (Cond.code yAD_init cAD_init 1 none) ∈ zs_tb := zs_i1 76 rfl rfl
set_option maxRecDepth 20000 in
theorem zq_77 : (Cond.methodLink "ThriftyStores$Addresses" 3 ⟨"java/lang/Object", "<init>", "()V"⟩) ∈ zs_tb := zs_i1 77 rfl rfl
set_option maxRecDepth 20000 in
theorem zq_78 : (Cond.fieldLink "ThriftyStores$Addresses" 11 "ThriftyStores$Addresses" "ofRegisters" "[J") ∈ zs_tb := zs_i1 78 rfl rfl
set_option maxRecDepth 20000 in
theorem zq_79 : (Cond.fieldLink "ThriftyStores$Addresses" 15 "ThriftyStores$Addresses" "ofCells" "[J") ∈ zs_tb := zs_i1 79 rfl rfl
set_option maxRecDepth 20000 in
theorem zq_80 : (Cond.fieldLink "ThriftyStores$Addresses" 18 "ThriftyStores$Addresses" "sites" "[I") ∈ zs_tb := zs_i1 80 rfl rfl
set_option maxRecDepth 20000 in
theorem zq_81 : (Cond.fieldLink "ThriftyStores$Addresses" 22 "ThriftyStores$Addresses" "siteCount" "I") ∈ zs_tb := zs_i1 81 rfl rfl
set_option maxRecDepth 20000 in
theorem zq_82 : (Cond.fieldLink "ThriftyStores$Addresses" 26 "ThriftyStores$Addresses" "meeting" "[I") ∈ zs_tb := zs_i1 82 rfl rfl
set_option maxRecDepth 20000 in
theorem zq_83 : (Cond.fieldLink "ThriftyStores$Knowledge" 43 "ThriftyStores$Addresses" "meeting" "[I") ∈ zs_tb := zs_i1 83 rfl rfl
set_option maxRecDepth 20000 in
theorem zq_84 : (Cond.fieldLink "ThriftyStores$Freedom" 61 "ThriftyStores$Addresses" "meeting" "[I") ∈ zs_tb := zs_i1 84 rfl rfl
set_option maxRecDepth 20000 in
theorem zq_85 : (Cond.fieldLink "ThriftyStores$Addresses" 29 "ThriftyStores$Addresses" "unkept" "I") ∈ zs_tb := zs_i1 85 rfl rfl
set_option maxRecDepth 20000 in
theorem zq_86 : (Cond.fieldLink "ThriftyStores$Freedom" 15 "ThriftyStores$Addresses" "unkept" "I") ∈ zs_tb := zs_i1 86 rfl rfl
set_option maxRecDepth 20000 in
theorem zq_100 : (Cond.arrayClass .long) ∈ zs_tb := zs_i1 100 rfl rfl
set_option maxRecDepth 20000 in
theorem zq_101 : (Cond.classLink "ThriftyStores" 30 "ThriftyStores$Knowledge") ∈ zs_tb := zs_i1 101 rfl rfl
set_option maxRecDepth 20000 in
theorem zq_102 : (Cond.instantiable "ThriftyStores$Knowledge" 4) ∈ zs_tb := zs_i1 102 rfl rfl
set_option maxRecDepth 20000 in
theorem zq_103 : (Cond.methodLink "ThriftyStores" 32 yKN_init) ∈ zs_tb := zs_i1 103 rfl rfl
set_option maxRecDepth 20000 in
theorem zq_104 : (Cond.instanceMethod yKN_init) ∈ zs_tb := zs_i1 104 rfl rfl
set_option maxRecDepth 20000 in
theorem zq_105 : (Cond.code yKN_init cKN_init 2 none) ∈ zs_tb := zs_i1 105 rfl rfl
set_option maxRecDepth 20000 in
theorem zq_106 : (Cond.methodLink "ThriftyStores$Knowledge" 3 ⟨"java/lang/Object", "<init>", "()V"⟩) ∈ zs_tb := zs_i1 106 rfl rfl
set_option maxRecDepth 20000 in
theorem zq_107 : (Cond.classLink "ThriftyStores$Knowledge" 9 "ThriftyStores$Facts") ∈ zs_tb := zs_i1 107 rfl rfl
set_option maxRecDepth 20000 in
theorem zq_109 : (Cond.instantiable "ThriftyStores$Facts" 3) ∈ zs_tb := zs_i1 109 rfl rfl
set_option maxRecDepth 20000 in
theorem zq_111 : (Cond.instanceMethod yFA_init) ∈ zs_tb := zs_i1 111 rfl rfl
set_option maxRecDepth 20000 in
theorem zq_112 : (Cond.code yFA_init cFA_init 1 none) ∈ zs_tb := zs_i1 112 rfl rfl
set_option maxRecDepth 20000 in
theorem zq_113 : (Cond.methodLink "ThriftyStores$Facts" 3 ⟨"java/lang/Object", "<init>", "()V"⟩) ∈ zs_tb := zs_i1 113 rfl rfl
set_option maxRecDepth 20000 in
theorem zq_114 : (Cond.fieldLink "ThriftyStores$Facts" 9 "ThriftyStores$Facts" "equal" "[I") ∈ zs_tb := zs_i1 114 rfl rfl
set_option maxRecDepth 20000 in
theorem zq_115 : (Cond.fieldLink "ThriftyStores$Knowledge" 69 "ThriftyStores$Facts" "equal" "[I") ∈ zs_tb := zs_i1 115 rfl rfl
set_option maxRecDepth 20000 in
theorem zq_116 : (Cond.fieldLink "ThriftyStores$Freedom" 68 "ThriftyStores$Facts" "equal" "[I") ∈ zs_tb := zs_i1 116 rfl rfl
set_option maxRecDepth 20000 in
theorem zq_117 : (Cond.fieldLink "ThriftyStores$Facts" 15 "ThriftyStores$Facts" "holds" "[I") ∈ zs_tb := zs_i1 117 rfl rfl
set_option maxRecDepth 20000 in
theorem zq_118 : (Cond.fieldLink "ThriftyStores$Knowledge" 72 "ThriftyStores$Facts" "holds" "[I") ∈ zs_tb := zs_i1 118 rfl rfl
set_option maxRecDepth 20000 in
theorem zq_119 : (Cond.fieldLink "ThriftyStores" 202 "ThriftyStores$Facts" "holds" "[I") ∈ zs_tb := zs_i1 119 rfl rfl
set_option maxRecDepth 20000 in
theorem zq_120 : (Cond.fieldLink "ThriftyStores$Facts" 18 "ThriftyStores$Facts" "sure" "I") ∈ zs_tb := zs_i1 120 rfl rfl
set_option maxRecDepth 20000 in
theorem zq_121 : (Cond.fieldLink "ThriftyStores$Knowledge" 75 "ThriftyStores$Facts" "sure" "I") ∈ zs_tb := zs_i1 121 rfl rfl
set_option maxRecDepth 20000 in
theorem zq_122 : (Cond.fieldLink "ThriftyStores" 217 "ThriftyStores$Facts" "sure" "I") ∈ zs_tb := zs_i1 122 rfl rfl
set_option maxRecDepth 20000 in
theorem zq_130 : (Cond.arrayClass .boolean) ∈ zs_tb := zs_i1 130 rfl rfl
set_option maxRecDepth 20000 in
theorem zq_131 : (Cond.fieldLink "ThriftyStores$Knowledge" 11 "ThriftyStores$Knowledge" "before" "[LThriftyStores$Facts;") ∈ zs_tb := zs_i1 131 rfl rfl
set_option maxRecDepth 20000 in
theorem zq_132 : (Cond.fieldLink "ThriftyStores$Freedom" 64 "ThriftyStores$Knowledge" "before" "[LThriftyStores$Facts;") ∈ zs_tb := zs_i1 132 rfl rfl
set_option maxRecDepth 20000 in
theorem zq_133 : (Cond.fieldLink "ThriftyStores" 198 "ThriftyStores$Knowledge" "before" "[LThriftyStores$Facts;") ∈ zs_tb := zs_i1 133 rfl rfl
set_option maxRecDepth 20000 in
theorem zq_134 : (Cond.fieldLink "ThriftyStores$Knowledge" 17 "ThriftyStores$Knowledge" "reached" "[Z") ∈ zs_tb := zs_i1 134 rfl rfl
set_option maxRecDepth 20000 in
theorem zq_135 : (Cond.fieldLink "ThriftyStores$Freedom" 26 "ThriftyStores$Knowledge" "reached" "[Z") ∈ zs_tb := zs_i1 135 rfl rfl
set_option maxRecDepth 20000 in
theorem zq_136 : (Cond.fieldLink "ThriftyStores" 185 "ThriftyStores$Knowledge" "reached" "[Z") ∈ zs_tb := zs_i1 136 rfl rfl
set_option maxRecDepth 20000 in
theorem zq_137 : (Cond.fieldLink "ThriftyStores$Knowledge" 21 "ThriftyStores$Knowledge" "waiting" "[Z") ∈ zs_tb := zs_i1 137 rfl rfl
set_option maxRecDepth 20000 in
theorem zq_138 : (Cond.fieldLink "ThriftyStores$Knowledge" 25 "ThriftyStores$Knowledge" "passed" "LThriftyStores$Facts;") ∈ zs_tb := zs_i1 138 rfl rfl
set_option maxRecDepth 20000 in
theorem zq_148 : (Cond.classLink "ThriftyStores" 37 "ThriftyStores$Freedom") ∈ zs_tb := zs_i1 148 rfl rfl
set_option maxRecDepth 20000 in
theorem zq_149 : (Cond.instantiable "ThriftyStores$Freedom" 1) ∈ zs_tb := zs_i1 149 rfl rfl
set_option maxRecDepth 20000 in
theorem zq_151 : (Cond.instanceMethod yFR_init) ∈ zs_tb := zs_i1 151 rfl rfl
set_option maxRecDepth 20000 in
theorem zq_152 : (Cond.code yFR_init cFR_init 1 none) ∈ zs_tb := zs_i1 152 rfl rfl
set_option maxRecDepth 20000 in
theorem zq_153 : (Cond.methodLink "ThriftyStores$Freedom" 3 ⟨"java/lang/Object", "<init>", "()V"⟩) ∈ zs_tb := zs_i1 153 rfl rfl
set_option maxRecDepth 20000 in
theorem zq_154 : (Cond.fieldLink "ThriftyStores$Freedom" 9 "ThriftyStores$Freedom" "behind" "[I") ∈ zs_tb := zs_i1 154 rfl rfl
set_option maxRecDepth 20000 in
theorem zq_158 : (Cond.classLink "ThriftyStores" 44 "ThriftyStores$Machine") ∈ zs_tb := zs_i1 158 rfl rfl
set_option maxRecDepth 20000 in
theorem zq_159 : (Cond.instantiable "ThriftyStores$Machine" 11) ∈ zs_tb := zs_i1 159 rfl rfl
set_option maxRecDepth 20000 in
theorem zq_161 : (Cond.instanceMethod yMA_init) ∈ zs_tb := zs_i1 161 rfl rfl
set_option maxRecDepth 20000 in
theorem zq_162 : (Cond.code yMA_init cMA_init 1 none) ∈ zs_tb := zs_i1 162 rfl rfl
set_option maxRecDepth 20000 in
theorem zq_163 : (Cond.methodLink "ThriftyStores$Machine" 3 ⟨"java/lang/Object", "<init>", "()V"⟩) ∈ zs_tb := zs_i1 163 rfl rfl
set_option maxRecDepth 20000 in
theorem zq_164 : (Cond.fieldLink "ThriftyStores$Machine" 9 "ThriftyStores$Machine" "registers" "[J") ∈ zs_tb := zs_i1 164 rfl rfl
set_option maxRecDepth 20000 in
theorem zq_165 : (Cond.fieldLink "ThriftyStores$Machine" 15 "ThriftyStores$Machine" "cells" "[J") ∈ zs_tb := zs_i1 165 rfl rfl
set_option maxRecDepth 20000 in
theorem zq_166 : (Cond.fieldLink "ThriftyStores$Machine" 18 "ThriftyStores$Machine" "sizes" "[I") ∈ zs_tb := zs_i1 166 rfl rfl
set_option maxRecDepth 20000 in
theorem zq_167 : (Cond.fieldLink "ThriftyStores$Machine" 22 "ThriftyStores$Machine" "keptObjects" "[I") ∈ zs_tb := zs_i1 167 rfl rfl
set_option maxRecDepth 20000 in
theorem zq_168 : (Cond.fieldLink "ThriftyStores$Machine" 25 "ThriftyStores$Machine" "objectsMade" "I") ∈ zs_tb := zs_i1 168 rfl rfl
set_option maxRecDepth 20000 in
theorem zq_169 : (Cond.fieldLink "ThriftyStores$Machine" 29 "ThriftyStores$Machine" "keptMade" "I") ∈ zs_tb := zs_i1 169 rfl rfl
set_option maxRecDepth 20000 in
theorem zq_170 : (Cond.fieldLink "ThriftyStores$Machine" 32 "ThriftyStores$Machine" "ending" "I") ∈ zs_tb := zs_i1 170 rfl rfl
set_option maxRecDepth 20000 in
theorem zq_171 : (Cond.fieldLink "ThriftyStores$Machine" 35 "ThriftyStores$Machine" "at" "I") ∈ zs_tb := zs_i1 171 rfl rfl
set_option maxRecDepth 20000 in
theorem zq_172 : (Cond.fieldLink "ThriftyStores$Machine" 38 "ThriftyStores$Machine" "numbers" "[I") ∈ zs_tb := zs_i1 172 rfl rfl
set_option maxRecDepth 20000 in
theorem zq_173 : (Cond.fieldLink "ThriftyStores" 148 "ThriftyStores$Machine" "numbers" "[I") ∈ zs_tb := zs_i1 173 rfl rfl
set_option maxRecDepth 20000 in
theorem zq_174 : (Cond.fieldLink "ThriftyStores$Machine" 41 "ThriftyStores$Machine" "numbersPrinted" "I") ∈ zs_tb := zs_i1 174 rfl rfl
set_option maxRecDepth 20000 in
theorem zq_175 : (Cond.fieldLink "ThriftyStores" 145 "ThriftyStores$Machine" "numbersPrinted" "I") ∈ zs_tb := zs_i1 175 rfl rfl
set_option maxRecDepth 20000 in
theorem zq_176 : (Cond.fieldLink "ThriftyStores$Machine" 44 "ThriftyStores$Machine" "stepsMade" "I") ∈ zs_tb := zs_i1 176 rfl rfl
set_option maxRecDepth 20000 in
theorem zq_177 : (Cond.fieldLink "ThriftyStores" 142 "ThriftyStores$Machine" "stepsMade" "I") ∈ zs_tb := zs_i1 177 rfl rfl
set_option maxRecDepth 20000 in
theorem zq_201 : (Cond.fieldLink "ThriftyStores" 12 "ThriftyStores" "writtenProgram" "LThriftyStores$Program;") ∈ zs_tb := zs_i1 201 rfl rfl
set_option maxRecDepth 20000 in
theorem zq_202 : (Cond.fieldLink "ThriftyStores" 16 "ThriftyStores" "thriftyProgram" "LThriftyStores$Program;") ∈ zs_tb := zs_i1 202 rfl rfl
set_option maxRecDepth 20000 in
theorem zq_203 : (Cond.fieldLink "ThriftyStores" 19 "ThriftyStores" "fates" "[I") ∈ zs_tb := zs_i1 203 rfl rfl
set_option maxRecDepth 20000 in
theorem zq_204 : (Cond.fieldLink "ThriftyStores" 26 "ThriftyStores" "addresses" "LThriftyStores$Addresses;") ∈ zs_tb := zs_i1 204 rfl rfl
set_option maxRecDepth 20000 in
theorem zq_205 : (Cond.fieldLink "ThriftyStores" 33 "ThriftyStores" "knowledge" "LThriftyStores$Knowledge;") ∈ zs_tb := zs_i1 205 rfl rfl
set_option maxRecDepth 20000 in
theorem zq_206 : (Cond.fieldLink "ThriftyStores" 40 "ThriftyStores" "freedom" "LThriftyStores$Freedom;") ∈ zs_tb := zs_i1 206 rfl rfl
set_option maxRecDepth 20000 in
theorem zq_207 : (Cond.fieldLink "ThriftyStores" 47 "ThriftyStores" "machine" "LThriftyStores$Machine;") ∈ zs_tb := zs_i1 207 rfl rfl
set_option maxRecDepth 20000 in
theorem zq_208 : (Cond.fieldLink "ThriftyStores" 51 "ThriftyStores" "madeThrifty" "Z") ∈ zs_tb := zs_i1 208 rfl rfl
set_option maxRecDepth 20000 in
theorem zq_209 : (Cond.fieldLink "ThriftyStores" 55 "ThriftyStores" "roundsMade" "I") ∈ zs_tb := zs_i1 209 rfl rfl
set_option maxRecDepth 20000 in
theorem zq_229 : (Cond.methodLink "ThriftyStoresLaw" 72 yTS_clear) ∈ zs_tb := zs_i1 229 rfl rfl
set_option maxRecDepth 20000 in
theorem zq_230 : (Cond.instanceMethod yTS_clear) ∈ zs_tb := zs_i1 230 rfl rfl
set_option maxRecDepth 20000 in
theorem zq_231 : (Cond.selects "ThriftyStores" yTS_clear yTS_clear) ∈ zs_tb := zs_i1 231 rfl rfl
set_option maxRecDepth 20000 in
theorem zq_232 : (Cond.code yTS_clear cTS_clear 2 (some .int)) ∈ zs_tb := zs_i1 232 rfl rfl
set_option maxRecDepth 20000 in
theorem zq_233 : (Cond.methodLink "ThriftyStoresLaw" 80 yTS_size) ∈ zs_tb := zs_i1 233 rfl rfl
set_option maxRecDepth 20000 in
theorem zq_234 : (Cond.instanceMethod yTS_size) ∈ zs_tb := zs_i1 234 rfl rfl
set_option maxRecDepth 20000 in
theorem zq_235 : (Cond.selects "ThriftyStores" yTS_size yTS_size) ∈ zs_tb := zs_i1 235 rfl rfl
set_option maxRecDepth 20000 in
theorem zq_236 : (Cond.code yTS_size cTS_size 1 (some .int)) ∈ zs_tb := zs_i1 236 rfl rfl
set_option maxRecDepth 20000 in
theorem zq_237 : (Cond.methodLink "ThriftyStoresLaw" 112 yTS_steps) ∈ zs_tb := zs_i1 237 rfl rfl
set_option maxRecDepth 20000 in
theorem zq_238 : (Cond.instanceMethod yTS_steps) ∈ zs_tb := zs_i1 238 rfl rfl
set_option maxRecDepth 20000 in
theorem zq_239 : (Cond.selects "ThriftyStores" yTS_steps yTS_steps) ∈ zs_tb := zs_i1 239 rfl rfl
set_option maxRecDepth 20000 in
theorem zq_240 : (Cond.code yTS_steps cTS_steps 1 (some .int)) ∈ zs_tb := zs_i2 0 rfl rfl
set_option maxRecDepth 20000 in
theorem zq_241 : (Cond.methodLink "ThriftyStoresLaw" 116 yTS_printed) ∈ zs_tb := zs_i2 1 rfl rfl
set_option maxRecDepth 20000 in
theorem zq_242 : (Cond.instanceMethod yTS_printed) ∈ zs_tb := zs_i2 2 rfl rfl
set_option maxRecDepth 20000 in
theorem zq_243 : (Cond.selects "ThriftyStores" yTS_printed yTS_printed) ∈ zs_tb := zs_i2 3 rfl rfl
set_option maxRecDepth 20000 in
theorem zq_244 : (Cond.code yTS_printed cTS_printed 1 (some .int)) ∈ zs_tb := zs_i2 4 rfl rfl
set_option maxRecDepth 20000 in
theorem zq_245 : (Cond.methodLink "ThriftyStoresLaw" 123 yTS_kept) ∈ zs_tb := zs_i2 5 rfl rfl
set_option maxRecDepth 20000 in
theorem zq_246 : (Cond.instanceMethod yTS_kept) ∈ zs_tb := zs_i2 6 rfl rfl
set_option maxRecDepth 20000 in
theorem zq_247 : (Cond.selects "ThriftyStores" yTS_kept yTS_kept) ∈ zs_tb := zs_i2 7 rfl rfl
set_option maxRecDepth 20000 in
theorem zq_248 : (Cond.code yTS_kept cTS_kept 1 (some .int)) ∈ zs_tb := zs_i2 8 rfl rfl
set_option maxRecDepth 20000 in
theorem zq_249 : (Cond.methodLink "ThriftyStores" 151 yMA_objectsKept) ∈ zs_tb := zs_i2 9 rfl rfl
set_option maxRecDepth 20000 in
theorem zq_250 : (Cond.instanceMethod yMA_objectsKept) ∈ zs_tb := zs_i2 10 rfl rfl
set_option maxRecDepth 20000 in
theorem zq_251 : (Cond.selects "ThriftyStores$Machine" yMA_objectsKept yMA_objectsKept) ∈ zs_tb := zs_i2 11 rfl rfl
set_option maxRecDepth 20000 in
theorem zq_252 : (Cond.code yMA_objectsKept cMA_objectsKept 1 (some .int)) ∈ zs_tb := zs_i2 12 rfl rfl
set_option maxRecDepth 20000 in
theorem zq_253 : (Cond.methodLink "ThriftyStoresLaw" 63 yLA_add) ∈ zs_tb := zs_i2 13 rfl rfl
set_option maxRecDepth 20000 in
theorem zq_254 : (Cond.static yLA_add) ∈ zs_tb := zs_i2 14 rfl rfl
set_option maxRecDepth 20000 in
theorem zq_255 : (Cond.codeWith yLA_add cLA_add 7 (some .int) [(0, 14, 17, 13), (0, 14, 21, 15)]) ∈ zs_tb := zs_i2 15 rfl rfl
set_option maxRecDepth 20000 in
theorem zq_256 : (Cond.classLink "ThriftyStoresLaw" 13 "java/lang/IllegalArgumentException") ∈ zs_tb := zs_i2 16 rfl rfl
set_option maxRecDepth 20000 in
theorem zq_257 : (Cond.classLink "ThriftyStoresLaw" 15 "java/lang/IllegalStateException") ∈ zs_tb := zs_i2 17 rfl rfl
set_option maxRecDepth 20000 in
theorem zq_258 : (Cond.methodLink "ThriftyStoresLaw" 7 yTS_add) ∈ zs_tb := zs_i2 18 rfl rfl
set_option maxRecDepth 20000 in
theorem zq_259 : (Cond.instanceMethod yTS_add) ∈ zs_tb := zs_i2 19 rfl rfl
set_option maxRecDepth 20000 in
theorem zq_260 : (Cond.selects "ThriftyStores" yTS_add yTS_add) ∈ zs_tb := zs_i2 20 rfl rfl
set_option maxRecDepth 20000 in
theorem zq_261 : (Cond.code yTS_add cTS_add 5 (some .int)) ∈ zs_tb := zs_i2 21 rfl rfl
set_option maxRecDepth 20000 in
theorem zq_262 : (Cond.methodLink "ThriftyStores" 59 yPR_mayStand) ∈ zs_tb := zs_i2 22 rfl rfl
set_option maxRecDepth 20000 in
theorem zq_263 : (Cond.static yPR_mayStand) ∈ zs_tb := zs_i2 23 rfl rfl
set_option maxRecDepth 20000 in
theorem zq_264 : (Cond.code yPR_mayStand cPR_mayStand 4 (some .boolean)) ∈ zs_tb := zs_i2 24 rfl rfl
set_option maxRecDepth 20000 in
theorem zq_266 : (Cond.static yTS_isRegister) ∈ zs_tb := zs_i2 26 rfl rfl
set_option maxRecDepth 20000 in
theorem zq_267 : (Cond.code yTS_isRegister cTS_isRegister 1 (some .boolean)) ∈ zs_tb := zs_i2 27 rfl rfl
set_option maxRecDepth 20000 in
theorem zq_268 : (Cond.methodLink "ThriftyStores$Program" 32 yPR_isTarget) ∈ zs_tb := zs_i2 28 rfl rfl
set_option maxRecDepth 20000 in
theorem zq_269 : (Cond.static yPR_isTarget) ∈ zs_tb := zs_i2 29 rfl rfl
set_option maxRecDepth 20000 in
theorem zq_270 : (Cond.code yPR_isTarget cPR_isTarget 1 (some .boolean)) ∈ zs_tb := zs_i2 30 rfl rfl
set_option maxRecDepth 20000 in
theorem zq_271 : (Cond.classLink "ThriftyStores" 63 "java/lang/IllegalArgumentException") ∈ zs_tb := zs_i2 31 rfl rfl
set_option maxRecDepth 20000 in
theorem zq_272 : (Cond.instantiable "java/lang/IllegalArgumentException" 6) ∈ zs_tb := zs_i2 32 rfl rfl
set_option maxRecDepth 20000 in
theorem zq_280 : (Cond.selects "java/lang/IllegalArgumentException" ⟨"java/lang/Throwable", "fillInStackTrace", "(I)Ljava/lang/Throwable;"⟩ ⟨"java/lang/Throwable", "fillInStackTrace", "(I)Ljava/lang/Throwable;"⟩) ∈ zs_tb := zs_i2 40 rfl rfl
set_option maxRecDepth 20000 in
theorem zq_281 : (Cond.selects "java/lang/IllegalArgumentException" ⟨"java/lang/Throwable", "fillInStackTrace", "()Ljava/lang/Throwable;"⟩ ⟨"java/lang/Throwable", "fillInStackTrace", "()Ljava/lang/Throwable;"⟩) ∈ zs_tb := zs_i2 41 rfl rfl
set_option maxRecDepth 20000 in
theorem zq_292 : (Cond.fieldLink "java/lang/Throwable" 198 "java/lang/Throwable" "backtrace" "Ljava/lang/Object;") ∈ zs_tb := zs_i2 52 rfl rfl
set_option maxRecDepth 20000 in
theorem zq_294 : (Cond.instanceMethod ⟨"java/lang/Throwable", "<init>", "()V"⟩) ∈ zs_tb := zs_i2 54 rfl rfl
set_option maxRecDepth 20000 in
theorem zq_295 : (Cond.code ⟨"java/lang/Throwable", "<init>", "()V"⟩ prog_19_method_1_code 1 none) ∈ zs_tb := zs_i2 55 rfl rfl
set_option maxRecDepth 20000 in
theorem zq_296 : (Cond.methodLink "java/lang/Throwable" 1 ⟨"java/lang/Object", "<init>", "()V"⟩) ∈ zs_tb := zs_i2 56 rfl rfl
set_option maxRecDepth 20000 in
theorem zq_297 : (Cond.fieldLink "java/lang/Throwable" 13 "java/lang/Throwable" "UNASSIGNED_STACK" "[Ljava/lang/StackTraceElement;") ∈ zs_tb := zs_i2 57 rfl rfl
set_option maxRecDepth 20000 in
theorem zq_299 : (Cond.fieldLink "java/lang/Throwable" 20 "java/lang/Throwable" "SUPPRESSED_SENTINEL" "Ljava/util/List;") ∈ zs_tb := zs_i2 59 rfl rfl
set_option maxRecDepth 20000 in
theorem zq_301 : (Cond.methodLink "java/lang/Throwable" 27 ⟨"java/lang/Throwable", "fillInStackTrace", "()Ljava/lang/Throwable;"⟩) ∈ zs_tb := zs_i2 61 rfl rfl
set_option maxRecDepth 20000 in
theorem zq_302 : (Cond.instanceMethod ⟨"java/lang/Throwable", "fillInStackTrace", "()Ljava/lang/Throwable;"⟩) ∈ zs_tb := zs_i2 62 rfl rfl
set_option maxRecDepth 20000 in
theorem zq_304 : (Cond.selects "java/lang/IllegalStateException" ⟨"java/lang/Throwable", "fillInStackTrace", "()Ljava/lang/Throwable;"⟩ ⟨"java/lang/Throwable", "fillInStackTrace", "()Ljava/lang/Throwable;"⟩) ∈ zs_tb := zs_i2 64 rfl rfl
set_option maxRecDepth 20000 in
theorem zq_305 : (Cond.selects "java/lang/IndexOutOfBoundsException" ⟨"java/lang/Throwable", "fillInStackTrace", "()Ljava/lang/Throwable;"⟩ ⟨"java/lang/Throwable", "fillInStackTrace", "()Ljava/lang/Throwable;"⟩) ∈ zs_tb := zs_i2 65 rfl rfl
set_option maxRecDepth 20000 in
theorem zq_307 : (Cond.methodLink "java/lang/Throwable" 202 ⟨"java/lang/Throwable", "fillInStackTrace", "(I)Ljava/lang/Throwable;"⟩) ∈ zs_tb := zs_i2 67 rfl rfl
set_option maxRecDepth 20000 in
theorem zq_309 : (Cond.instanceMethod ⟨"java/lang/Throwable", "fillInStackTrace", "(I)Ljava/lang/Throwable;"⟩) ∈ zs_tb := zs_i2 69 rfl rfl
set_option maxRecDepth 20000 in
theorem zq_310 : (Cond.instantiable "java/lang/Throwable" 6) ∈ zs_tb := zs_i2 70 rfl rfl
set_option maxRecDepth 20000 in
theorem zq_311 : (Cond.native ⟨"java/lang/Throwable", "fillInStackTrace", "(I)Ljava/lang/Throwable;"⟩) ∈ zs_tb := zs_i2 71 rfl rfl
set_option maxRecDepth 20000 in
theorem zq_313 : (Cond.methodLink "ThriftyStores" 67 ⟨"java/lang/IllegalArgumentException", "<init>", "(Ljava/lang/String;)V"⟩) ∈ zs_tb := zs_i2 73 rfl rfl
set_option maxRecDepth 20000 in
theorem zq_314 : (Cond.instanceMethod ⟨"java/lang/IllegalArgumentException", "<init>", "(Ljava/lang/String;)V"⟩) ∈ zs_tb := zs_i2 74 rfl rfl
set_option maxRecDepth 20000 in
theorem zq_315 : (Cond.code ⟨"java/lang/IllegalArgumentException", "<init>", "(Ljava/lang/String;)V"⟩ prog_11_method_2_code 2 none) ∈ zs_tb := zs_i2 75 rfl rfl
set_option maxRecDepth 20000 in
theorem zq_316 : (Cond.methodLink "java/lang/IllegalArgumentException" 7 ⟨"java/lang/RuntimeException", "<init>", "(Ljava/lang/String;)V"⟩) ∈ zs_tb := zs_i2 76 rfl rfl
set_option maxRecDepth 20000 in
theorem zq_317 : (Cond.instanceMethod ⟨"java/lang/RuntimeException", "<init>", "(Ljava/lang/String;)V"⟩) ∈ zs_tb := zs_i2 77 rfl rfl
set_option maxRecDepth 20000 in
theorem zq_318 : (Cond.code ⟨"java/lang/RuntimeException", "<init>", "(Ljava/lang/String;)V"⟩ prog_16_method_2_code 2 none) ∈ zs_tb := zs_i2 78 rfl rfl
set_option maxRecDepth 20000 in
theorem zq_319 : (Cond.methodLink "java/lang/RuntimeException" 7 ⟨"java/lang/Exception", "<init>", "(Ljava/lang/String;)V"⟩) ∈ zs_tb := zs_i2 79 rfl rfl
set_option maxRecDepth 20000 in
theorem zq_320 : (Cond.instanceMethod ⟨"java/lang/Exception", "<init>", "(Ljava/lang/String;)V"⟩) ∈ zs_tb := zs_i2 80 rfl rfl
set_option maxRecDepth 20000 in
theorem zq_321 : (Cond.code ⟨"java/lang/Exception", "<init>", "(Ljava/lang/String;)V"⟩ prog_10_method_2_code 2 none) ∈ zs_tb := zs_i2 81 rfl rfl
set_option maxRecDepth 20000 in
theorem zq_322 : (Cond.methodLink "java/lang/Exception" 7 ⟨"java/lang/Throwable", "<init>", "(Ljava/lang/String;)V"⟩) ∈ zs_tb := zs_i2 82 rfl rfl
set_option maxRecDepth 20000 in
theorem zq_323 : (Cond.instanceMethod ⟨"java/lang/Throwable", "<init>", "(Ljava/lang/String;)V"⟩) ∈ zs_tb := zs_i2 83 rfl rfl
set_option maxRecDepth 20000 in
theorem zq_324 : (Cond.code ⟨"java/lang/Throwable", "<init>", "(Ljava/lang/String;)V"⟩ prog_19_method_2_code 2 none) ∈ zs_tb := zs_i2 84 rfl rfl
set_option maxRecDepth 20000 in
theorem zq_326 : (Cond.fieldLink "java/lang/Throwable" 31 "java/lang/Throwable" "detailMessage" "Ljava/lang/String;") ∈ zs_tb := zs_i2 86 rfl rfl
set_option maxRecDepth 20000 in
theorem zq_327 : (Cond.fieldLink "java/lang/Throwable" 7 "java/lang/Throwable" "cause" "Ljava/lang/Throwable;") ∈ zs_tb := zs_i2 87 rfl rfl
set_option maxRecDepth 20000 in
theorem zq_328 : (Cond.fieldLink "java/lang/Throwable" 17 "java/lang/Throwable" "stackTrace" "[Ljava/lang/StackTraceElement;") ∈ zs_tb := zs_i2 88 rfl rfl
set_option maxRecDepth 20000 in
theorem zq_329 : (Cond.fieldLink "java/lang/Throwable" 24 "java/lang/Throwable" "suppressedExceptions" "Ljava/util/List;") ∈ zs_tb := zs_i2 89 rfl rfl
set_option maxRecDepth 20000 in
theorem zq_338 : (Cond.arrayClass .byte) ∈ zs_tb := zs_i2 98 rfl rfl
set_option maxRecDepth 20000 in
theorem zq_339 : (Cond.classLink "ThriftyStores" 73 "java/lang/IllegalStateException") ∈ zs_tb := zs_i2 99 rfl rfl
set_option maxRecDepth 20000 in
theorem zq_340 : (Cond.instantiable "java/lang/IllegalStateException" 6) ∈ zs_tb := zs_i2 100 rfl rfl
set_option maxRecDepth 20000 in
theorem zq_342 : (Cond.selects "java/lang/IllegalStateException" ⟨"java/lang/Throwable", "fillInStackTrace", "(I)Ljava/lang/Throwable;"⟩ ⟨"java/lang/Throwable", "fillInStackTrace", "(I)Ljava/lang/Throwable;"⟩) ∈ zs_tb := zs_i2 102 rfl rfl
set_option maxRecDepth 20000 in
theorem zq_349 : (Cond.methodLink "ThriftyStores" 77 ⟨"java/lang/IllegalStateException", "<init>", "(Ljava/lang/String;)V"⟩) ∈ zs_tb := zs_i2 109 rfl rfl
set_option maxRecDepth 20000 in
theorem zq_350 : (Cond.instanceMethod ⟨"java/lang/IllegalStateException", "<init>", "(Ljava/lang/String;)V"⟩) ∈ zs_tb := zs_i2 110 rfl rfl
set_option maxRecDepth 20000 in
theorem zq_351 : (Cond.code ⟨"java/lang/IllegalStateException", "<init>", "(Ljava/lang/String;)V"⟩ prog_12_method_2_code 2 none) ∈ zs_tb := zs_i2 111 rfl rfl
set_option maxRecDepth 20000 in
theorem zq_352 : (Cond.methodLink "java/lang/IllegalStateException" 7 ⟨"java/lang/RuntimeException", "<init>", "(Ljava/lang/String;)V"⟩) ∈ zs_tb := zs_i2 112 rfl rfl
set_option maxRecDepth 20000 in
theorem zq_355 : (Cond.methodLink "ThriftyStores" 78 yPR_append) ∈ zs_tb := zs_i2 115 rfl rfl
set_option maxRecDepth 20000 in
theorem zq_356 : (Cond.instanceMethod yPR_append) ∈ zs_tb := zs_i2 116 rfl rfl
set_option maxRecDepth 20000 in
theorem zq_357 : (Cond.selects "ThriftyStores$Program" yPR_append yPR_append) ∈ zs_tb := zs_i2 117 rfl rfl
set_option maxRecDepth 20000 in
theorem zq_358 : (Cond.code yPR_append cPR_append 6 (some .int)) ∈ zs_tb := zs_i2 118 rfl rfl
set_option maxRecDepth 20000 in
theorem zq_359 : (Cond.methodLink "ThriftyStoresLaw" 76 yLA_thrift) ∈ zs_tb := zs_i2 119 rfl rfl
set_option maxRecDepth 20000 in
theorem zq_360 : (Cond.static yLA_thrift) ∈ zs_tb := zs_i2 120 rfl rfl
set_option maxRecDepth 20000 in
theorem zq_361 : (Cond.codeWith yLA_thrift cLA_thrift 3 (some .int) [(0, 8, 11, 15)]) ∈ zs_tb := zs_i2 121 rfl rfl
set_option maxRecDepth 20000 in
theorem zq_362 : (Cond.methodLink "ThriftyStoresLaw" 17 yTS_thrift) ∈ zs_tb := zs_i2 122 rfl rfl
set_option maxRecDepth 20000 in
theorem zq_363 : (Cond.instanceMethod yTS_thrift) ∈ zs_tb := zs_i2 123 rfl rfl
set_option maxRecDepth 20000 in
theorem zq_364 : (Cond.selects "ThriftyStores" yTS_thrift yTS_thrift) ∈ zs_tb := zs_i2 124 rfl rfl
set_option maxRecDepth 20000 in
theorem zq_365 : (Cond.code yTS_thrift cTS_thrift 3 (some .int)) ∈ zs_tb := zs_i2 125 rfl rfl
set_option maxRecDepth 20000 in
theorem zq_367 : (Cond.methodLink "ThriftyStores" 84 yPR_copy) ∈ zs_tb := zs_i2 127 rfl rfl
set_option maxRecDepth 20000 in
theorem zq_368 : (Cond.instanceMethod yPR_copy) ∈ zs_tb := zs_i2 128 rfl rfl
set_option maxRecDepth 20000 in
theorem zq_369 : (Cond.selects "ThriftyStores$Program" yPR_copy yPR_copy) ∈ zs_tb := zs_i2 129 rfl rfl
set_option maxRecDepth 20000 in
theorem zq_370 : (Cond.code yPR_copy cPR_copy 2 none) ∈ zs_tb := zs_i2 130 rfl rfl
set_option maxRecDepth 20000 in
theorem zq_371 : (Cond.methodLink "ThriftyStores$Program" 35 ⟨"java/lang/System", "arraycopy", "(Ljava/lang/Object;ILjava/lang/Object;II)V"⟩) ∈ zs_tb := zs_i2 131 rfl rfl
set_option maxRecDepth 20000 in
theorem zq_372 : (Cond.static ⟨"java/lang/System", "arraycopy", "(Ljava/lang/Object;ILjava/lang/Object;II)V"⟩) ∈ zs_tb := zs_i2 132 rfl rfl
set_option maxRecDepth 20000 in
theorem zq_373 : (Cond.native ⟨"java/lang/System", "arraycopy", "(Ljava/lang/Object;ILjava/lang/Object;II)V"⟩) ∈ zs_tb := zs_i2 133 rfl rfl
set_option maxRecDepth 20000 in
theorem zq_374 : (Cond.methodLink "ThriftyStores" 88 yAR_fill_AIIV) ∈ zs_tb := zs_i2 134 rfl rfl
set_option maxRecDepth 20000 in
theorem zq_375 : (Cond.static yAR_fill_AIIV) ∈ zs_tb := zs_i2 135 rfl rfl
set_option maxRecDepth 20000 in
theorem zq_376 : (Cond.code yAR_fill_AIIV cAR_fill_AIIV 4 none) ∈ zs_tb := zs_i2 136 rfl rfl
set_option maxRecDepth 20000 in
theorem zq_377 : (Cond.methodLink "ThriftyStores" 94 yTS_makeRound) ∈ zs_tb := zs_i2 137 rfl rfl
set_option maxRecDepth 20000 in
theorem zq_379 : (Cond.instanceMethod yTS_makeRound) ∈ zs_tb := zs_i2 139 rfl rfl
set_option maxRecDepth 20000 in
theorem zq_380 : (Cond.code yTS_makeRound cTS_makeRound 2 (some .int)) ∈ zs_tb := zs_i2 140 rfl rfl
set_option maxRecDepth 20000 in
theorem zq_381 : (Cond.methodLink "ThriftyStores" 98 yTS_lookThrough) ∈ zs_tb := zs_i2 141 rfl rfl
set_option maxRecDepth 20000 in
theorem zq_383 : (Cond.instanceMethod yTS_lookThrough) ∈ zs_tb := zs_i2 143 rfl rfl
set_option maxRecDepth 20000 in
theorem zq_384 : (Cond.code yTS_lookThrough cTS_lookThrough 2 none) ∈ zs_tb := zs_i2 144 rfl rfl
set_option maxRecDepth 20000 in
theorem zq_385 : (Cond.methodLink "ThriftyStores" 170 yAD_find) ∈ zs_tb := zs_i2 145 rfl rfl
set_option maxRecDepth 20000 in
theorem zq_386 : (Cond.instanceMethod yAD_find) ∈ zs_tb := zs_i2 146 rfl rfl
set_option maxRecDepth 20000 in
theorem zq_387 : (Cond.selects "ThriftyStores$Addresses" yAD_find yAD_find) ∈ zs_tb := zs_i2 147 rfl rfl
set_option maxRecDepth 20000 in
theorem zq_388 : (Cond.code yAD_find cAD_find 5 none) ∈ zs_tb := zs_i2 148 rfl rfl
set_option maxRecDepth 20000 in
theorem zq_389 : (Cond.methodLink "ThriftyStores$Addresses" 32 yAR_fill_AJJV) ∈ zs_tb := zs_i2 149 rfl rfl
set_option maxRecDepth 20000 in
theorem zq_390 : (Cond.static yAR_fill_AJJV) ∈ zs_tb := zs_i2 150 rfl rfl
set_option maxRecDepth 20000 in
theorem zq_391 : (Cond.code yAR_fill_AJJV cAR_fill_AJJV 5 none) ∈ zs_tb := zs_i2 151 rfl rfl
set_option maxRecDepth 20000 in
theorem zq_392 : (Cond.methodLink "ThriftyStores$Addresses" 38 yAD_listSites) ∈ zs_tb := zs_i2 152 rfl rfl
set_option maxRecDepth 20000 in
theorem zq_394 : (Cond.instanceMethod yAD_listSites) ∈ zs_tb := zs_i2 154 rfl rfl
set_option maxRecDepth 20000 in
theorem zq_395 : (Cond.code yAD_listSites cAD_listSites 3 none) ∈ zs_tb := zs_i2 155 rfl rfl
set_option maxRecDepth 20000 in
theorem zq_396 : (Cond.constant "ThriftyStores$Addresses" 42 1000000) ∈ zs_tb := zs_i2 156 rfl rfl
set_option maxRecDepth 20000 in
theorem zq_397 : (Cond.methodLink "ThriftyStores$Addresses" 48 yAD_follow) ∈ zs_tb := zs_i2 157 rfl rfl
set_option maxRecDepth 20000 in
theorem zq_399 : (Cond.instanceMethod yAD_follow) ∈ zs_tb := zs_i2 159 rfl rfl
set_option maxRecDepth 20000 in
theorem zq_400 : (Cond.code yAD_follow cAD_follow 5 (some .boolean)) ∈ zs_tb := zs_i2 160 rfl rfl
set_option maxRecDepth 20000 in
theorem zq_401 : (Cond.methodLink "ThriftyStores$Addresses" 71 yAD_enter) ∈ zs_tb := zs_i2 161 rfl rfl
set_option maxRecDepth 20000 in
theorem zq_403 : (Cond.instanceMethod yAD_enter) ∈ zs_tb := zs_i2 163 rfl rfl
set_option maxRecDepth 20000 in
theorem zq_404 : (Cond.code yAD_enter cAD_enter 3 (some .boolean)) ∈ zs_tb := zs_i2 164 rfl rfl
set_option maxRecDepth 20000 in
theorem zq_405 : (Cond.methodLink "ThriftyStores$Addresses" 58 yAD_has) ∈ zs_tb := zs_i2 165 rfl rfl
set_option maxRecDepth 20000 in
theorem zq_406 : (Cond.static yAD_has) ∈ zs_tb := zs_i2 166 rfl rfl
set_option maxRecDepth 20000 in
theorem zq_407 : (Cond.code yAD_has cAD_has 3 (some .boolean)) ∈ zs_tb := zs_i2 167 rfl rfl
set_option maxRecDepth 20000 in
theorem zq_408 : (Cond.methodLink "ThriftyStores$Addresses" 75 yAD_join) ∈ zs_tb := zs_i2 168 rfl rfl
set_option maxRecDepth 20000 in
theorem zq_409 : (Cond.static yAD_join) ∈ zs_tb := zs_i2 169 rfl rfl
set_option maxRecDepth 20000 in
theorem zq_410 : (Cond.code yAD_join cAD_join 10 (some .boolean)) ∈ zs_tb := zs_i2 170 rfl rfl
set_option maxRecDepth 20000 in
theorem zq_411 : (Cond.methodLink "ThriftyStores$Addresses" 79 yAD_followLoad) ∈ zs_tb := zs_i2 171 rfl rfl
set_option maxRecDepth 20000 in
theorem zq_413 : (Cond.instanceMethod yAD_followLoad) ∈ zs_tb := zs_i2 173 rfl rfl
set_option maxRecDepth 20000 in
theorem zq_414 : (Cond.code yAD_followLoad cAD_followLoad 5 (some .boolean)) ∈ zs_tb := zs_i2 174 rfl rfl
set_option maxRecDepth 20000 in
theorem zq_415 : (Cond.methodLink "ThriftyStores$Addresses" 82 yAD_followStore) ∈ zs_tb := zs_i2 175 rfl rfl
set_option maxRecDepth 20000 in
theorem zq_417 : (Cond.instanceMethod yAD_followStore) ∈ zs_tb := zs_i2 177 rfl rfl
set_option maxRecDepth 20000 in
theorem zq_418 : (Cond.code yAD_followStore cAD_followStore 5 (some .boolean)) ∈ zs_tb := zs_i2 178 rfl rfl
set_option maxRecDepth 20000 in
theorem zq_419 : (Cond.methodLink "ThriftyStores$Addresses" 52 yAD_findMeeting) ∈ zs_tb := zs_i2 179 rfl rfl
set_option maxRecDepth 20000 in
theorem zq_421 : (Cond.instanceMethod yAD_findMeeting) ∈ zs_tb := zs_i2 181 rfl rfl
set_option maxRecDepth 20000 in
theorem zq_422 : (Cond.code yAD_findMeeting cAD_findMeeting 3 none) ∈ zs_tb := zs_i2 182 rfl rfl
set_option maxRecDepth 20000 in
theorem zq_423 : (Cond.methodLink "ThriftyStores$Addresses" 85 yAD_haveCommonSite) ∈ zs_tb := zs_i2 183 rfl rfl
set_option maxRecDepth 20000 in
theorem zq_425 : (Cond.instanceMethod yAD_haveCommonSite) ∈ zs_tb := zs_i2 185 rfl rfl
set_option maxRecDepth 20000 in
theorem zq_426 : (Cond.code yAD_haveCommonSite cAD_haveCommonSite 5 (some .boolean)) ∈ zs_tb := zs_i2 186 rfl rfl
set_option maxRecDepth 20000 in
theorem zq_427 : (Cond.methodLink "ThriftyStores$Addresses" 55 yAD_findUnkept) ∈ zs_tb := zs_i2 187 rfl rfl
set_option maxRecDepth 20000 in
theorem zq_429 : (Cond.instanceMethod yAD_findUnkept) ∈ zs_tb := zs_i2 189 rfl rfl
set_option maxRecDepth 20000 in
theorem zq_430 : (Cond.code yAD_findUnkept cAD_findUnkept 3 none) ∈ zs_tb := zs_i2 190 rfl rfl
set_option maxRecDepth 20000 in
theorem zq_431 : (Cond.constant "ThriftyStores$Addresses" 88 65535) ∈ zs_tb := zs_i2 191 rfl rfl
set_option maxRecDepth 20000 in
theorem zq_432 : (Cond.methodLink "ThriftyStores$Addresses" 92 yAD_takeHolders) ∈ zs_tb := zs_i2 192 rfl rfl
set_option maxRecDepth 20000 in
theorem zq_434 : (Cond.instanceMethod yAD_takeHolders) ∈ zs_tb := zs_i2 194 rfl rfl
set_option maxRecDepth 20000 in
theorem zq_435 : (Cond.code yAD_takeHolders cAD_takeHolders 3 none) ∈ zs_tb := zs_i2 195 rfl rfl
set_option maxRecDepth 20000 in
theorem zq_436 : (Cond.methodLink "ThriftyStores" 173 yKN_find) ∈ zs_tb := zs_i2 196 rfl rfl
set_option maxRecDepth 20000 in
theorem zq_437 : (Cond.instanceMethod yKN_find) ∈ zs_tb := zs_i2 197 rfl rfl
set_option maxRecDepth 20000 in
theorem zq_438 : (Cond.selects "ThriftyStores$Knowledge" yKN_find yKN_find) ∈ zs_tb := zs_i2 198 rfl rfl
set_option maxRecDepth 20000 in
theorem zq_439 : (Cond.code yKN_find cKN_find 6 none) ∈ zs_tb := zs_i2 199 rfl rfl
set_option maxRecDepth 20000 in
theorem zq_440 : (Cond.methodLink "ThriftyStores$Knowledge" 29 yKN_begin) ∈ zs_tb := zs_i2 200 rfl rfl
set_option maxRecDepth 20000 in
theorem zq_442 : (Cond.instanceMethod yKN_begin) ∈ zs_tb := zs_i2 202 rfl rfl
set_option maxRecDepth 20000 in
theorem zq_443 : (Cond.code yKN_begin cKN_begin 2 none) ∈ zs_tb := zs_i2 203 rfl rfl
set_option maxRecDepth 20000 in
theorem zq_444 : (Cond.methodLink "ThriftyStores$Knowledge" 64 yFA_begin) ∈ zs_tb := zs_i2 204 rfl rfl
set_option maxRecDepth 20000 in
theorem zq_445 : (Cond.instanceMethod yFA_begin) ∈ zs_tb := zs_i2 205 rfl rfl
set_option maxRecDepth 20000 in
theorem zq_446 : (Cond.selects "ThriftyStores$Facts" yFA_begin yFA_begin) ∈ zs_tb := zs_i2 206 rfl rfl
set_option maxRecDepth 20000 in
theorem zq_447 : (Cond.code yFA_begin cFA_begin 2 none) ∈ zs_tb := zs_i2 207 rfl rfl
set_option maxRecDepth 20000 in
theorem zq_448 : (Cond.constant "ThriftyStores$Facts" 22 65535) ∈ zs_tb := zs_i2 208 rfl rfl
set_option maxRecDepth 20000 in
theorem zq_449 : (Cond.constant "ThriftyStores$Knowledge" 32 1000000) ∈ zs_tb := zs_i2 209 rfl rfl
set_option maxRecDepth 20000 in
theorem zq_450 : (Cond.methodLink "ThriftyStores$Knowledge" 39 yFA_copy) ∈ zs_tb := zs_i2 210 rfl rfl
set_option maxRecDepth 20000 in
theorem zq_451 : (Cond.instanceMethod yFA_copy) ∈ zs_tb := zs_i2 211 rfl rfl
set_option maxRecDepth 20000 in
theorem zq_452 : (Cond.selects "ThriftyStores$Facts" yFA_copy yFA_copy) ∈ zs_tb := zs_i2 212 rfl rfl
set_option maxRecDepth 20000 in
theorem zq_453 : (Cond.code yFA_copy cFA_copy 2 none) ∈ zs_tb := zs_i2 213 rfl rfl
set_option maxRecDepth 20000 in
theorem zq_454 : (Cond.methodLink "ThriftyStores$Facts" 23 ⟨"java/lang/System", "arraycopy", "(Ljava/lang/Object;ILjava/lang/Object;II)V"⟩) ∈ zs_tb := zs_i2 214 rfl rfl
set_option maxRecDepth 20000 in
theorem zq_455 : (Cond.methodLink "ThriftyStores$Knowledge" 49 yFA_pass) ∈ zs_tb := zs_i2 215 rfl rfl
set_option maxRecDepth 20000 in
theorem zq_456 : (Cond.instanceMethod yFA_pass) ∈ zs_tb := zs_i2 216 rfl rfl
set_option maxRecDepth 20000 in
theorem zq_457 : (Cond.selects "ThriftyStores$Facts" yFA_pass yFA_pass) ∈ zs_tb := zs_i2 217 rfl rfl
set_option maxRecDepth 20000 in
theorem zq_458 : (Cond.code yFA_pass cFA_pass 6 none) ∈ zs_tb := zs_i2 218 rfl rfl
set_option maxRecDepth 20000 in
theorem zq_459 : (Cond.methodLink "ThriftyStores$Facts" 40 yFA_passMove) ∈ zs_tb := zs_i2 219 rfl rfl
set_option maxRecDepth 20000 in
theorem zq_461 : (Cond.instanceMethod yFA_passMove) ∈ zs_tb := zs_i2 221 rfl rfl
set_option maxRecDepth 20000 in
theorem zq_462 : (Cond.code yFA_passMove cFA_passMove 4 none) ∈ zs_tb := zs_i2 222 rfl rfl
set_option maxRecDepth 20000 in
theorem zq_463 : (Cond.methodLink "ThriftyStores$Facts" 44 yFA_forget) ∈ zs_tb := zs_i2 223 rfl rfl
set_option maxRecDepth 20000 in
theorem zq_465 : (Cond.instanceMethod yFA_forget) ∈ zs_tb := zs_i2 225 rfl rfl
set_option maxRecDepth 20000 in
theorem zq_466 : (Cond.code yFA_forget cFA_forget 4 none) ∈ zs_tb := zs_i2 226 rfl rfl
set_option maxRecDepth 20000 in
theorem zq_467 : (Cond.methodLink "ThriftyStores$Facts" 48 yFA_passLoad) ∈ zs_tb := zs_i2 227 rfl rfl
set_option maxRecDepth 20000 in
theorem zq_469 : (Cond.instanceMethod yFA_passLoad) ∈ zs_tb := zs_i2 229 rfl rfl
set_option maxRecDepth 20000 in
theorem zq_470 : (Cond.code yFA_passLoad cFA_passLoad 6 none) ∈ zs_tb := zs_i2 230 rfl rfl
set_option maxRecDepth 20000 in
theorem zq_471 : (Cond.methodLink "ThriftyStores$Facts" 51 yFA_passStore) ∈ zs_tb := zs_i2 231 rfl rfl
set_option maxRecDepth 20000 in
theorem zq_473 : (Cond.instanceMethod yFA_passStore) ∈ zs_tb := zs_i2 233 rfl rfl
set_option maxRecDepth 20000 in
theorem zq_474 : (Cond.code yFA_passStore cFA_passStore 7 none) ∈ zs_tb := zs_i2 234 rfl rfl
set_option maxRecDepth 20000 in
theorem zq_475 : (Cond.methodLink "ThriftyStores$Facts" 55 yPR_setsFirst) ∈ zs_tb := zs_i2 235 rfl rfl
set_option maxRecDepth 20000 in
theorem zq_476 : (Cond.instanceMethod yPR_setsFirst) ∈ zs_tb := zs_i2 236 rfl rfl
set_option maxRecDepth 20000 in
theorem zq_477 : (Cond.selects "ThriftyStores$Program" yPR_setsFirst yPR_setsFirst) ∈ zs_tb := zs_i2 237 rfl rfl
set_option maxRecDepth 20000 in
theorem zq_478 : (Cond.code yPR_setsFirst cPR_setsFirst 2 (some .boolean)) ∈ zs_tb := zs_i2 238 rfl rfl
set_option maxRecDepth 20000 in
theorem zq_479 : (Cond.methodLink "ThriftyStores$Knowledge" 53 yPR_follower) ∈ zs_tb := zs_i2 239 rfl rfl
set_option maxRecDepth 20000 in
theorem zq_480 : (Cond.instanceMethod yPR_follower) ∈ zs_tb := zs_i3 0 rfl rfl
set_option maxRecDepth 20000 in
theorem zq_481 : (Cond.selects "ThriftyStores$Program" yPR_follower yPR_follower) ∈ zs_tb := zs_i3 1 rfl rfl
set_option maxRecDepth 20000 in
theorem zq_482 : (Cond.code yPR_follower cPR_follower 2 (some .int)) ∈ zs_tb := zs_i3 2 rfl rfl
set_option maxRecDepth 20000 in
theorem zq_483 : (Cond.methodLink "ThriftyStores$Knowledge" 57 yKN_flowTo) ∈ zs_tb := zs_i3 3 rfl rfl
set_option maxRecDepth 20000 in
theorem zq_485 : (Cond.instanceMethod yKN_flowTo) ∈ zs_tb := zs_i3 5 rfl rfl
set_option maxRecDepth 20000 in
theorem zq_486 : (Cond.code yKN_flowTo cKN_flowTo 2 none) ∈ zs_tb := zs_i3 6 rfl rfl
set_option maxRecDepth 20000 in
theorem zq_487 : (Cond.methodLink "ThriftyStores$Knowledge" 65 yFA_keepCommon) ∈ zs_tb := zs_i3 7 rfl rfl
set_option maxRecDepth 20000 in
theorem zq_488 : (Cond.instanceMethod yFA_keepCommon) ∈ zs_tb := zs_i3 8 rfl rfl
set_option maxRecDepth 20000 in
theorem zq_489 : (Cond.selects "ThriftyStores$Facts" yFA_keepCommon yFA_keepCommon) ∈ zs_tb := zs_i3 9 rfl rfl
set_option maxRecDepth 20000 in
theorem zq_490 : (Cond.code yFA_keepCommon cFA_keepCommon 4 (some .boolean)) ∈ zs_tb := zs_i3 10 rfl rfl
set_option maxRecDepth 20000 in
theorem zq_491 : (Cond.methodLink "ThriftyStores$Knowledge" 61 yPR_target) ∈ zs_tb := zs_i3 11 rfl rfl
set_option maxRecDepth 20000 in
theorem zq_492 : (Cond.instanceMethod yPR_target) ∈ zs_tb := zs_i3 12 rfl rfl
set_option maxRecDepth 20000 in
theorem zq_493 : (Cond.selects "ThriftyStores$Program" yPR_target yPR_target) ∈ zs_tb := zs_i3 13 rfl rfl
set_option maxRecDepth 20000 in
theorem zq_494 : (Cond.code yPR_target cPR_target 2 (some .int)) ∈ zs_tb := zs_i3 14 rfl rfl
set_option maxRecDepth 20000 in
theorem zq_495 : (Cond.methodLink "ThriftyStores$Program" 41 yMT_min_III) ∈ zs_tb := zs_i3 15 rfl rfl
set_option maxRecDepth 20000 in
theorem zq_496 : (Cond.static yMT_min_III) ∈ zs_tb := zs_i3 16 rfl rfl
set_option maxRecDepth 20000 in
theorem zq_497 : (Cond.code yMT_min_III cMT_min_III 2 (some .int)) ∈ zs_tb := zs_i3 17 rfl rfl
set_option maxRecDepth 20000 in
theorem zq_498 : (Cond.methodLink "ThriftyStores" 176 yFR_find) ∈ zs_tb := zs_i3 18 rfl rfl
set_option maxRecDepth 20000 in
theorem zq_499 : (Cond.instanceMethod yFR_find) ∈ zs_tb := zs_i3 19 rfl rfl
set_option maxRecDepth 20000 in
theorem zq_500 : (Cond.selects "ThriftyStores$Freedom" yFR_find yFR_find) ∈ zs_tb := zs_i3 20 rfl rfl
set_option maxRecDepth 20000 in
theorem zq_501 : (Cond.code yFR_find cFR_find 9 none) ∈ zs_tb := zs_i3 21 rfl rfl
set_option maxRecDepth 20000 in
theorem zq_502 : (Cond.constant "ThriftyStores$Freedom" 32 65535) ∈ zs_tb := zs_i3 22 rfl rfl
set_option maxRecDepth 20000 in
theorem zq_503 : (Cond.constant "ThriftyStores$Freedom" 33 1000000) ∈ zs_tb := zs_i3 23 rfl rfl
set_option maxRecDepth 20000 in
theorem zq_504 : (Cond.methodLink "ThriftyStores$Freedom" 37 yFR_freeBeforeNext) ∈ zs_tb := zs_i3 24 rfl rfl
set_option maxRecDepth 20000 in
theorem zq_506 : (Cond.instanceMethod yFR_freeBeforeNext) ∈ zs_tb := zs_i3 26 rfl rfl
set_option maxRecDepth 20000 in
theorem zq_507 : (Cond.code yFR_freeBeforeNext cFR_freeBeforeNext 8 (some .int)) ∈ zs_tb := zs_i3 27 rfl rfl
set_option maxRecDepth 20000 in
theorem zq_508 : (Cond.methodLink "ThriftyStores$Freedom" 41 yPR_follower) ∈ zs_tb := zs_i3 28 rfl rfl
set_option maxRecDepth 20000 in
theorem zq_509 : (Cond.methodLink "ThriftyStores$Freedom" 45 yFR_freeBefore) ∈ zs_tb := zs_i3 29 rfl rfl
set_option maxRecDepth 20000 in
theorem zq_511 : (Cond.instanceMethod yFR_freeBefore) ∈ zs_tb := zs_i3 31 rfl rfl
set_option maxRecDepth 20000 in
theorem zq_512 : (Cond.code yFR_freeBefore cFR_freeBefore 9 (some .int)) ∈ zs_tb := zs_i3 32 rfl rfl
set_option maxRecDepth 20000 in
theorem zq_513 : (Cond.methodLink "ThriftyStores$Freedom" 57 yPR_setsFirst) ∈ zs_tb := zs_i3 33 rfl rfl
set_option maxRecDepth 20000 in
theorem zq_514 : (Cond.methodLink "ThriftyStores$Freedom" 48 yPR_target) ∈ zs_tb := zs_i3 34 rfl rfl
set_option maxRecDepth 20000 in
theorem zq_515 : (Cond.methodLink "ThriftyStores" 179 yTS_dropWhatIsKnown) ∈ zs_tb := zs_i3 35 rfl rfl
set_option maxRecDepth 20000 in
theorem zq_517 : (Cond.instanceMethod yTS_dropWhatIsKnown) ∈ zs_tb := zs_i3 37 rfl rfl
set_option maxRecDepth 20000 in
theorem zq_518 : (Cond.code yTS_dropWhatIsKnown cTS_dropWhatIsKnown 7 (some .int)) ∈ zs_tb := zs_i3 38 rfl rfl
set_option maxRecDepth 20000 in
theorem zq_519 : (Cond.methodLink "ThriftyStores" 207 yIN_numberOfTrailingZeros_II) ∈ zs_tb := zs_i3 39 rfl rfl
set_option maxRecDepth 20000 in
theorem zq_520 : (Cond.static yIN_numberOfTrailingZeros_II) ∈ zs_tb := zs_i3 40 rfl rfl
set_option maxRecDepth 20000 in
theorem zq_521 : (Cond.code yIN_numberOfTrailingZeros_II cIN_numberOfTrailingZeros_II 2 (some .int)) ∈ zs_tb := zs_i3 41 rfl rfl
set_option maxRecDepth 20000 in
theorem zq_522 : (Cond.constant "java/lang/Integer" 264 65536) ∈ zs_tb := zs_i3 42 rfl rfl
set_option maxRecDepth 20000 in
theorem zq_523 : (Cond.methodLink "ThriftyStores" 213 yPR_replace) ∈ zs_tb := zs_i3 43 rfl rfl
set_option maxRecDepth 20000 in
theorem zq_524 : (Cond.instanceMethod yPR_replace) ∈ zs_tb := zs_i3 44 rfl rfl
set_option maxRecDepth 20000 in
theorem zq_525 : (Cond.selects "ThriftyStores$Program" yPR_replace yPR_replace) ∈ zs_tb := zs_i3 45 rfl rfl
set_option maxRecDepth 20000 in
theorem zq_526 : (Cond.code yPR_replace cPR_replace 5 none) ∈ zs_tb := zs_i3 46 rfl rfl
set_option maxRecDepth 20000 in
theorem zq_527 : (Cond.methodLink "ThriftyStores" 182 yTS_dropWhatIsDead) ∈ zs_tb := zs_i3 47 rfl rfl
set_option maxRecDepth 20000 in
theorem zq_529 : (Cond.instanceMethod yTS_dropWhatIsDead) ∈ zs_tb := zs_i3 49 rfl rfl
set_option maxRecDepth 20000 in
theorem zq_530 : (Cond.code yTS_dropWhatIsDead cTS_dropWhatIsDead 5 (some .int)) ∈ zs_tb := zs_i3 50 rfl rfl
set_option maxRecDepth 20000 in
theorem zq_531 : (Cond.methodLink "ThriftyStores" 135 yFR_isFreeBehind) ∈ zs_tb := zs_i3 51 rfl rfl
set_option maxRecDepth 20000 in
theorem zq_532 : (Cond.instanceMethod yFR_isFreeBehind) ∈ zs_tb := zs_i3 52 rfl rfl
set_option maxRecDepth 20000 in
theorem zq_533 : (Cond.selects "ThriftyStores$Freedom" yFR_isFreeBehind yFR_isFreeBehind) ∈ zs_tb := zs_i3 53 rfl rfl
set_option maxRecDepth 20000 in
theorem zq_534 : (Cond.code yFR_isFreeBehind cFR_isFreeBehind 3 (some .boolean)) ∈ zs_tb := zs_i3 54 rfl rfl
set_option maxRecDepth 20000 in
theorem zq_535 : (Cond.methodLink "ThriftyStoresLaw" 84 yLA_instruction) ∈ zs_tb := zs_i3 55 rfl rfl
set_option maxRecDepth 20000 in
theorem zq_536 : (Cond.static yLA_instruction) ∈ zs_tb := zs_i3 56 rfl rfl
set_option maxRecDepth 20000 in
theorem zq_537 : (Cond.codeWith yLA_instruction cLA_instruction 6 (some .int) [(0, 12, 15, 25), (0, 12, 19, 13), (0, 12, 23, 15)]) ∈ zs_tb := zs_i3 57 rfl rfl
set_option maxRecDepth 20000 in
theorem zq_538 : (Cond.classLink "ThriftyStoresLaw" 25 "java/lang/IndexOutOfBoundsException") ∈ zs_tb := zs_i3 58 rfl rfl
set_option maxRecDepth 20000 in
theorem zq_539 : (Cond.methodLink "ThriftyStoresLaw" 21 yTS_instruction) ∈ zs_tb := zs_i3 59 rfl rfl
set_option maxRecDepth 20000 in
theorem zq_540 : (Cond.instanceMethod yTS_instruction) ∈ zs_tb := zs_i3 60 rfl rfl
set_option maxRecDepth 20000 in
theorem zq_541 : (Cond.selects "ThriftyStores" yTS_instruction yTS_instruction) ∈ zs_tb := zs_i3 61 rfl rfl
set_option maxRecDepth 20000 in
theorem zq_542 : (Cond.code yTS_instruction cTS_instruction 5 (some .int)) ∈ zs_tb := zs_i3 62 rfl rfl
set_option maxRecDepth 20000 in
theorem zq_543 : (Cond.methodLink "ThriftyStores" 101 yTS_isInstruction) ∈ zs_tb := zs_i3 63 rfl rfl
set_option maxRecDepth 20000 in
theorem zq_545 : (Cond.instanceMethod yTS_isInstruction) ∈ zs_tb := zs_i3 65 rfl rfl
set_option maxRecDepth 20000 in
theorem zq_546 : (Cond.code yTS_isInstruction cTS_isInstruction 2 (some .boolean)) ∈ zs_tb := zs_i3 66 rfl rfl
set_option maxRecDepth 20000 in
theorem zq_547 : (Cond.methodLink "ThriftyStores" 105 yTS_needPresent) ∈ zs_tb := zs_i3 67 rfl rfl
set_option maxRecDepth 20000 in
theorem zq_548 : (Cond.static yTS_needPresent) ∈ zs_tb := zs_i3 68 rfl rfl
set_option maxRecDepth 20000 in
theorem zq_549 : (Cond.code yTS_needPresent cTS_needPresent 1 none) ∈ zs_tb := zs_i3 69 rfl rfl
set_option maxRecDepth 20000 in
theorem zq_550 : (Cond.classLink "ThriftyStores" 161 "java/lang/IndexOutOfBoundsException") ∈ zs_tb := zs_i3 70 rfl rfl
set_option maxRecDepth 20000 in
theorem zq_551 : (Cond.instantiable "java/lang/IndexOutOfBoundsException" 6) ∈ zs_tb := zs_i3 71 rfl rfl
set_option maxRecDepth 20000 in
theorem zq_553 : (Cond.selects "java/lang/IndexOutOfBoundsException" ⟨"java/lang/Throwable", "fillInStackTrace", "(I)Ljava/lang/Throwable;"⟩ ⟨"java/lang/Throwable", "fillInStackTrace", "(I)Ljava/lang/Throwable;"⟩) ∈ zs_tb := zs_i3 73 rfl rfl
set_option maxRecDepth 20000 in
theorem zq_560 : (Cond.methodLink "ThriftyStores" 165 ⟨"java/lang/IndexOutOfBoundsException", "<init>", "(Ljava/lang/String;)V"⟩) ∈ zs_tb := zs_i3 80 rfl rfl
set_option maxRecDepth 20000 in
theorem zq_561 : (Cond.instanceMethod ⟨"java/lang/IndexOutOfBoundsException", "<init>", "(Ljava/lang/String;)V"⟩) ∈ zs_tb := zs_i3 81 rfl rfl
set_option maxRecDepth 20000 in
theorem zq_562 : (Cond.code ⟨"java/lang/IndexOutOfBoundsException", "<init>", "(Ljava/lang/String;)V"⟩ prog_13_method_2_code 2 none) ∈ zs_tb := zs_i3 82 rfl rfl
set_option maxRecDepth 20000 in
theorem zq_563 : (Cond.methodLink "java/lang/IndexOutOfBoundsException" 7 ⟨"java/lang/RuntimeException", "<init>", "(Ljava/lang/String;)V"⟩) ∈ zs_tb := zs_i3 83 rfl rfl
set_option maxRecDepth 20000 in
theorem zq_566 : (Cond.methodLink "ThriftyStores" 109 yTS_needSensible) ∈ zs_tb := zs_i3 86 rfl rfl
set_option maxRecDepth 20000 in
theorem zq_567 : (Cond.static yTS_needSensible) ∈ zs_tb := zs_i3 87 rfl rfl
set_option maxRecDepth 20000 in
theorem zq_568 : (Cond.code yTS_needSensible cTS_needSensible 1 none) ∈ zs_tb := zs_i3 88 rfl rfl
set_option maxRecDepth 20000 in
theorem zq_570 : (Cond.methodLink "ThriftyStores" 112 yTS_needThrifty) ∈ zs_tb := zs_i3 90 rfl rfl
set_option maxRecDepth 20000 in
theorem zq_572 : (Cond.instanceMethod yTS_needThrifty) ∈ zs_tb := zs_i3 92 rfl rfl
set_option maxRecDepth 20000 in
theorem zq_573 : (Cond.code yTS_needThrifty cTS_needThrifty 2 none) ∈ zs_tb := zs_i3 93 rfl rfl
set_option maxRecDepth 20000 in
theorem zq_575 : (Cond.methodLink "ThriftyStores" 115 yPR_part) ∈ zs_tb := zs_i3 95 rfl rfl
set_option maxRecDepth 20000 in
theorem zq_576 : (Cond.instanceMethod yPR_part) ∈ zs_tb := zs_i3 96 rfl rfl
set_option maxRecDepth 20000 in
theorem zq_577 : (Cond.selects "ThriftyStores$Program" yPR_part yPR_part) ∈ zs_tb := zs_i3 97 rfl rfl
set_option maxRecDepth 20000 in
theorem zq_578 : (Cond.code yPR_part cPR_part 3 (some .int)) ∈ zs_tb := zs_i3 98 rfl rfl
set_option maxRecDepth 20000 in
theorem zq_579 : (Cond.methodLink "ThriftyStoresLaw" 88 yLA_fate) ∈ zs_tb := zs_i3 99 rfl rfl
set_option maxRecDepth 20000 in
theorem zq_580 : (Cond.static yLA_fate) ∈ zs_tb := zs_i3 100 rfl rfl
set_option maxRecDepth 20000 in
theorem zq_581 : (Cond.codeWith yLA_fate cLA_fate 4 (some .int) [(0, 9, 12, 25), (0, 9, 15, 15)]) ∈ zs_tb := zs_i3 101 rfl rfl
set_option maxRecDepth 20000 in
theorem zq_582 : (Cond.methodLink "ThriftyStoresLaw" 27 yTS_fate) ∈ zs_tb := zs_i3 102 rfl rfl
set_option maxRecDepth 20000 in
theorem zq_583 : (Cond.instanceMethod yTS_fate) ∈ zs_tb := zs_i3 103 rfl rfl
set_option maxRecDepth 20000 in
theorem zq_584 : (Cond.selects "ThriftyStores" yTS_fate yTS_fate) ∈ zs_tb := zs_i3 104 rfl rfl
set_option maxRecDepth 20000 in
theorem zq_585 : (Cond.code yTS_fate cTS_fate 2 (some .int)) ∈ zs_tb := zs_i3 105 rfl rfl
set_option maxRecDepth 20000 in
theorem zq_586 : (Cond.methodLink "ThriftyStoresLaw" 92 yLA_rounds) ∈ zs_tb := zs_i3 106 rfl rfl
set_option maxRecDepth 20000 in
theorem zq_587 : (Cond.static yLA_rounds) ∈ zs_tb := zs_i3 107 rfl rfl
set_option maxRecDepth 20000 in
theorem zq_588 : (Cond.codeWith yLA_rounds cLA_rounds 3 (some .int) [(0, 8, 11, 15)]) ∈ zs_tb := zs_i3 108 rfl rfl
set_option maxRecDepth 20000 in
theorem zq_589 : (Cond.methodLink "ThriftyStoresLaw" 31 yTS_rounds) ∈ zs_tb := zs_i3 109 rfl rfl
set_option maxRecDepth 20000 in
theorem zq_590 : (Cond.instanceMethod yTS_rounds) ∈ zs_tb := zs_i3 110 rfl rfl
set_option maxRecDepth 20000 in
theorem zq_591 : (Cond.selects "ThriftyStores" yTS_rounds yTS_rounds) ∈ zs_tb := zs_i3 111 rfl rfl
set_option maxRecDepth 20000 in
theorem zq_592 : (Cond.code yTS_rounds cTS_rounds 1 (some .int)) ∈ zs_tb := zs_i3 112 rfl rfl
set_option maxRecDepth 20000 in
theorem zq_593 : (Cond.methodLink "ThriftyStoresLaw" 95 yLA_may) ∈ zs_tb := zs_i3 113 rfl rfl
set_option maxRecDepth 20000 in
theorem zq_594 : (Cond.static yLA_may) ∈ zs_tb := zs_i3 114 rfl rfl
set_option maxRecDepth 20000 in
theorem zq_595 : (Cond.codeWith yLA_may cLA_may 5 (some .int) [(0, 17, 20, 25), (0, 17, 24, 15)]) ∈ zs_tb := zs_i3 115 rfl rfl
set_option maxRecDepth 20000 in
theorem zq_596 : (Cond.methodLink "ThriftyStoresLaw" 34 yTS_may) ∈ zs_tb := zs_i3 116 rfl rfl
set_option maxRecDepth 20000 in
theorem zq_597 : (Cond.instanceMethod yTS_may) ∈ zs_tb := zs_i3 117 rfl rfl
set_option maxRecDepth 20000 in
theorem zq_598 : (Cond.selects "ThriftyStores" yTS_may yTS_may) ∈ zs_tb := zs_i3 118 rfl rfl
set_option maxRecDepth 20000 in
theorem zq_599 : (Cond.code yTS_may cTS_may 3 (some .boolean)) ∈ zs_tb := zs_i3 119 rfl rfl
set_option maxRecDepth 20000 in
theorem zq_600 : (Cond.methodLink "ThriftyStores" 119 yTS_isRegister) ∈ zs_tb := zs_i3 120 rfl rfl
set_option maxRecDepth 20000 in
theorem zq_601 : (Cond.methodLink "ThriftyStores" 122 yAD_mayBe) ∈ zs_tb := zs_i3 121 rfl rfl
set_option maxRecDepth 20000 in
theorem zq_602 : (Cond.instanceMethod yAD_mayBe) ∈ zs_tb := zs_i3 122 rfl rfl
set_option maxRecDepth 20000 in
theorem zq_603 : (Cond.selects "ThriftyStores$Addresses" yAD_mayBe yAD_mayBe) ∈ zs_tb := zs_i3 123 rfl rfl
set_option maxRecDepth 20000 in
theorem zq_604 : (Cond.code yAD_mayBe cAD_mayBe 3 (some .boolean)) ∈ zs_tb := zs_i3 124 rfl rfl
set_option maxRecDepth 20000 in
theorem zq_605 : (Cond.methodLink "ThriftyStoresLaw" 99 yLA_inside) ∈ zs_tb := zs_i3 125 rfl rfl
set_option maxRecDepth 20000 in
theorem zq_606 : (Cond.static yLA_inside) ∈ zs_tb := zs_i3 126 rfl rfl
set_option maxRecDepth 20000 in
theorem zq_607 : (Cond.codeWith yLA_inside cLA_inside 5 (some .int) [(0, 17, 20, 25), (0, 17, 24, 15)]) ∈ zs_tb := zs_i3 127 rfl rfl
set_option maxRecDepth 20000 in
theorem zq_608 : (Cond.methodLink "ThriftyStoresLaw" 38 yTS_inside) ∈ zs_tb := zs_i3 128 rfl rfl
set_option maxRecDepth 20000 in
theorem zq_609 : (Cond.instanceMethod yTS_inside) ∈ zs_tb := zs_i3 129 rfl rfl
set_option maxRecDepth 20000 in
theorem zq_610 : (Cond.selects "ThriftyStores" yTS_inside yTS_inside) ∈ zs_tb := zs_i3 130 rfl rfl
set_option maxRecDepth 20000 in
theorem zq_611 : (Cond.code yTS_inside cTS_inside 3 (some .boolean)) ∈ zs_tb := zs_i3 131 rfl rfl
set_option maxRecDepth 20000 in
theorem zq_612 : (Cond.methodLink "ThriftyStores" 126 yAD_mayHold) ∈ zs_tb := zs_i3 132 rfl rfl
set_option maxRecDepth 20000 in
theorem zq_613 : (Cond.instanceMethod yAD_mayHold) ∈ zs_tb := zs_i3 133 rfl rfl
set_option maxRecDepth 20000 in
theorem zq_614 : (Cond.selects "ThriftyStores$Addresses" yAD_mayHold yAD_mayHold) ∈ zs_tb := zs_i3 134 rfl rfl
set_option maxRecDepth 20000 in
theorem zq_615 : (Cond.code yAD_mayHold cAD_mayHold 3 (some .boolean)) ∈ zs_tb := zs_i3 135 rfl rfl
set_option maxRecDepth 20000 in
theorem zq_616 : (Cond.methodLink "ThriftyStoresLaw" 102 yLA_fact) ∈ zs_tb := zs_i3 136 rfl rfl
set_option maxRecDepth 20000 in
theorem zq_617 : (Cond.static yLA_fact) ∈ zs_tb := zs_i3 137 rfl rfl
set_option maxRecDepth 20000 in
theorem zq_618 : (Cond.codeWith yLA_fact cLA_fact 7 (some .int) [(0, 21, 24, 25), (0, 21, 28, 13), (0, 21, 32, 15)]) ∈ zs_tb := zs_i3 138 rfl rfl
set_option maxRecDepth 20000 in
theorem zq_619 : (Cond.methodLink "ThriftyStoresLaw" 41 yTS_fact) ∈ zs_tb := zs_i3 139 rfl rfl
set_option maxRecDepth 20000 in
theorem zq_620 : (Cond.instanceMethod yTS_fact) ∈ zs_tb := zs_i3 140 rfl rfl
set_option maxRecDepth 20000 in
theorem zq_621 : (Cond.selects "ThriftyStores" yTS_fact yTS_fact) ∈ zs_tb := zs_i3 141 rfl rfl
set_option maxRecDepth 20000 in
theorem zq_622 : (Cond.code yTS_fact cTS_fact 5 (some .boolean)) ∈ zs_tb := zs_i3 142 rfl rfl
set_option maxRecDepth 20000 in
theorem zq_623 : (Cond.methodLink "ThriftyStores" 129 yTS_isPoint) ∈ zs_tb := zs_i3 143 rfl rfl
set_option maxRecDepth 20000 in
theorem zq_625 : (Cond.instanceMethod yTS_isPoint) ∈ zs_tb := zs_i3 145 rfl rfl
set_option maxRecDepth 20000 in
theorem zq_626 : (Cond.code yTS_isPoint cTS_isPoint 2 (some .boolean)) ∈ zs_tb := zs_i3 146 rfl rfl
set_option maxRecDepth 20000 in
theorem zq_627 : (Cond.methodLink "ThriftyStores" 132 yKN_tells) ∈ zs_tb := zs_i3 147 rfl rfl
set_option maxRecDepth 20000 in
theorem zq_628 : (Cond.instanceMethod yKN_tells) ∈ zs_tb := zs_i3 148 rfl rfl
set_option maxRecDepth 20000 in
theorem zq_629 : (Cond.selects "ThriftyStores$Knowledge" yKN_tells yKN_tells) ∈ zs_tb := zs_i3 149 rfl rfl
set_option maxRecDepth 20000 in
theorem zq_630 : (Cond.code yKN_tells cKN_tells 5 (some .boolean)) ∈ zs_tb := zs_i3 150 rfl rfl
set_option maxRecDepth 20000 in
theorem zq_631 : (Cond.methodLink "ThriftyStoresLaw" 105 yLA_free) ∈ zs_tb := zs_i3 151 rfl rfl
set_option maxRecDepth 20000 in
theorem zq_632 : (Cond.static yLA_free) ∈ zs_tb := zs_i3 152 rfl rfl
set_option maxRecDepth 20000 in
theorem zq_633 : (Cond.codeWith yLA_free cLA_free 5 (some .int) [(0, 17, 20, 25), (0, 17, 24, 15)]) ∈ zs_tb := zs_i3 153 rfl rfl
set_option maxRecDepth 20000 in
theorem zq_634 : (Cond.methodLink "ThriftyStoresLaw" 45 yTS_free) ∈ zs_tb := zs_i3 154 rfl rfl
set_option maxRecDepth 20000 in
theorem zq_635 : (Cond.instanceMethod yTS_free) ∈ zs_tb := zs_i3 155 rfl rfl
set_option maxRecDepth 20000 in
theorem zq_636 : (Cond.selects "ThriftyStores" yTS_free yTS_free) ∈ zs_tb := zs_i3 156 rfl rfl
set_option maxRecDepth 20000 in
theorem zq_637 : (Cond.code yTS_free cTS_free 3 (some .boolean)) ∈ zs_tb := zs_i3 157 rfl rfl
set_option maxRecDepth 20000 in
theorem zq_638 : (Cond.methodLink "ThriftyStoresLaw" 108 yLA_run) ∈ zs_tb := zs_i3 158 rfl rfl
set_option maxRecDepth 20000 in
theorem zq_639 : (Cond.static yLA_run) ∈ zs_tb := zs_i3 159 rfl rfl
set_option maxRecDepth 20000 in
theorem zq_640 : (Cond.codeWith yLA_run cLA_run 5 (some .int) [(0, 10, 13, 13), (0, 10, 17, 15)]) ∈ zs_tb := zs_i3 160 rfl rfl
set_option maxRecDepth 20000 in
theorem zq_641 : (Cond.methodLink "ThriftyStoresLaw" 48 yTS_run) ∈ zs_tb := zs_i3 161 rfl rfl
set_option maxRecDepth 20000 in
theorem zq_642 : (Cond.instanceMethod yTS_run) ∈ zs_tb := zs_i3 162 rfl rfl
set_option maxRecDepth 20000 in
theorem zq_643 : (Cond.selects "ThriftyStores" yTS_run yTS_run) ∈ zs_tb := zs_i3 163 rfl rfl
set_option maxRecDepth 20000 in
theorem zq_644 : (Cond.code yTS_run cTS_run 3 (some .int)) ∈ zs_tb := zs_i3 164 rfl rfl
set_option maxRecDepth 20000 in
theorem zq_645 : (Cond.methodLink "ThriftyStores" 138 yMA_perform) ∈ zs_tb := zs_i3 165 rfl rfl
set_option maxRecDepth 20000 in
theorem zq_646 : (Cond.instanceMethod yMA_perform) ∈ zs_tb := zs_i3 166 rfl rfl
set_option maxRecDepth 20000 in
theorem zq_647 : (Cond.selects "ThriftyStores$Machine" yMA_perform yMA_perform) ∈ zs_tb := zs_i3 167 rfl rfl
set_option maxRecDepth 20000 in
theorem zq_648 : (Cond.code yMA_perform cMA_perform 3 (some .int)) ∈ zs_tb := zs_i3 168 rfl rfl
set_option maxRecDepth 20000 in
theorem zq_649 : (Cond.methodLink "ThriftyStores$Machine" 47 yAR_fill_AJJV) ∈ zs_tb := zs_i3 169 rfl rfl
set_option maxRecDepth 20000 in
theorem zq_650 : (Cond.methodLink "ThriftyStores$Machine" 58 yMA_step) ∈ zs_tb := zs_i3 170 rfl rfl
set_option maxRecDepth 20000 in
theorem zq_652 : (Cond.instanceMethod yMA_step) ∈ zs_tb := zs_i3 172 rfl rfl
set_option maxRecDepth 20000 in
theorem zq_653 : (Cond.code yMA_step cMA_step 7 (some .int)) ∈ zs_tb := zs_i3 173 rfl rfl
set_option maxRecDepth 20000 in
theorem zq_654 : (Cond.methodLink "ThriftyStores$Machine" 86 yMA_number) ∈ zs_tb := zs_i3 174 rfl rfl
set_option maxRecDepth 20000 in
theorem zq_655 : (Cond.static yMA_number) ∈ zs_tb := zs_i3 175 rfl rfl
set_option maxRecDepth 20000 in
theorem zq_656 : (Cond.code yMA_number cMA_number 1 (some .long)) ∈ zs_tb := zs_i3 176 rfl rfl
set_option maxRecDepth 20000 in
theorem zq_657 : (Cond.constantLong "ThriftyStores$Machine" 126 4294967295) ∈ zs_tb := zs_i3 177 rfl rfl
set_option maxRecDepth 20000 in
theorem zq_658 : (Cond.methodLink "ThriftyStores$Machine" 90 yMA_become) ∈ zs_tb := zs_i3 178 rfl rfl
set_option maxRecDepth 20000 in
theorem zq_660 : (Cond.instanceMethod yMA_become) ∈ zs_tb := zs_i3 180 rfl rfl
set_option maxRecDepth 20000 in
theorem zq_661 : (Cond.code yMA_become cMA_become 4 (some .int)) ∈ zs_tb := zs_i3 181 rfl rfl
set_option maxRecDepth 20000 in
theorem zq_662 : (Cond.methodLink "ThriftyStores$Machine" 94 yMA_reckon) ∈ zs_tb := zs_i3 182 rfl rfl
set_option maxRecDepth 20000 in
theorem zq_664 : (Cond.instanceMethod yMA_reckon) ∈ zs_tb := zs_i3 184 rfl rfl
set_option maxRecDepth 20000 in
theorem zq_665 : (Cond.code yMA_reckon cMA_reckon 7 (some .int)) ∈ zs_tb := zs_i3 185 rfl rfl
set_option maxRecDepth 20000 in
theorem zq_666 : (Cond.methodLink "ThriftyStores$Machine" 66 yMA_isAddress) ∈ zs_tb := zs_i3 186 rfl rfl
set_option maxRecDepth 20000 in
theorem zq_667 : (Cond.static yMA_isAddress) ∈ zs_tb := zs_i3 187 rfl rfl
set_option maxRecDepth 20000 in
theorem zq_668 : (Cond.code yMA_isAddress cMA_isAddress 2 (some .boolean)) ∈ zs_tb := zs_i3 188 rfl rfl
set_option maxRecDepth 20000 in
theorem zq_669 : (Cond.methodLink "ThriftyStores$Machine" 98 yMA_shift) ∈ zs_tb := zs_i3 189 rfl rfl
set_option maxRecDepth 20000 in
theorem zq_671 : (Cond.instanceMethod yMA_shift) ∈ zs_tb := zs_i3 191 rfl rfl
set_option maxRecDepth 20000 in
theorem zq_672 : (Cond.code yMA_shift cMA_shift 8 (some .int)) ∈ zs_tb := zs_i3 192 rfl rfl
set_option maxRecDepth 20000 in
theorem zq_673 : (Cond.methodLink "ThriftyStores$Machine" 70 yMA_objectOf) ∈ zs_tb := zs_i3 193 rfl rfl
set_option maxRecDepth 20000 in
theorem zq_674 : (Cond.static yMA_objectOf) ∈ zs_tb := zs_i3 194 rfl rfl
set_option maxRecDepth 20000 in
theorem zq_675 : (Cond.code yMA_objectOf cMA_objectOf 2 (some .int)) ∈ zs_tb := zs_i3 195 rfl rfl
set_option maxRecDepth 20000 in
theorem zq_676 : (Cond.methodLink "ThriftyStores$Machine" 122 yMA_address) ∈ zs_tb := zs_i3 196 rfl rfl
set_option maxRecDepth 20000 in
theorem zq_677 : (Cond.static yMA_address) ∈ zs_tb := zs_i3 197 rfl rfl
set_option maxRecDepth 20000 in
theorem zq_678 : (Cond.code yMA_address cMA_address 2 (some .long)) ∈ zs_tb := zs_i3 198 rfl rfl
set_option maxRecDepth 20000 in
theorem zq_679 : (Cond.methodLink "ThriftyStores$Machine" 102 yMA_make) ∈ zs_tb := zs_i3 199 rfl rfl
set_option maxRecDepth 20000 in
theorem zq_681 : (Cond.instanceMethod yMA_make) ∈ zs_tb := zs_i3 201 rfl rfl
set_option maxRecDepth 20000 in
theorem zq_682 : (Cond.code yMA_make cMA_make 6 (some .int)) ∈ zs_tb := zs_i3 202 rfl rfl
set_option maxRecDepth 20000 in
theorem zq_683 : (Cond.methodLink "ThriftyStores$Machine" 105 yMA_cellOf) ∈ zs_tb := zs_i3 203 rfl rfl
set_option maxRecDepth 20000 in
theorem zq_684 : (Cond.static yMA_cellOf) ∈ zs_tb := zs_i3 204 rfl rfl
set_option maxRecDepth 20000 in
theorem zq_685 : (Cond.code yMA_cellOf cMA_cellOf 2 (some .int)) ∈ zs_tb := zs_i3 205 rfl rfl
set_option maxRecDepth 20000 in
theorem zq_686 : (Cond.methodLink "ThriftyStores$Machine" 108 yMA_store) ∈ zs_tb := zs_i3 206 rfl rfl
set_option maxRecDepth 20000 in
theorem zq_688 : (Cond.instanceMethod yMA_store) ∈ zs_tb := zs_i3 208 rfl rfl
set_option maxRecDepth 20000 in
theorem zq_689 : (Cond.code yMA_store cMA_store 3 (some .int)) ∈ zs_tb := zs_i3 209 rfl rfl
set_option maxRecDepth 20000 in
theorem zq_690 : (Cond.methodLink "ThriftyStores$Machine" 112 yMA_tell) ∈ zs_tb := zs_i3 210 rfl rfl
set_option maxRecDepth 20000 in
theorem zq_692 : (Cond.instanceMethod yMA_tell) ∈ zs_tb := zs_i3 212 rfl rfl
set_option maxRecDepth 20000 in
theorem zq_693 : (Cond.code yMA_tell cMA_tell 2 (some .int)) ∈ zs_tb := zs_i3 213 rfl rfl
set_option maxRecDepth 20000 in
theorem zq_694 : (Cond.methodLink "ThriftyStores$Machine" 116 yMA_goTo) ∈ zs_tb := zs_i3 214 rfl rfl
set_option maxRecDepth 20000 in
theorem zq_696 : (Cond.instanceMethod yMA_goTo) ∈ zs_tb := zs_i3 216 rfl rfl
set_option maxRecDepth 20000 in
theorem zq_697 : (Cond.code yMA_goTo cMA_goTo 2 (some .int)) ∈ zs_tb := zs_i3 217 rfl rfl
set_option maxRecDepth 20000 in
theorem zq_698 : (Cond.methodLink "ThriftyStores$Machine" 119 yMA_decide) ∈ zs_tb := zs_i3 218 rfl rfl
set_option maxRecDepth 20000 in
theorem zq_700 : (Cond.instanceMethod yMA_decide) ∈ zs_tb := zs_i3 220 rfl rfl
set_option maxRecDepth 20000 in
theorem zq_701 : (Cond.code yMA_decide cMA_decide 3 (some .int)) ∈ zs_tb := zs_i3 221 rfl rfl
set_option maxRecDepth 20000 in
theorem zq_702 : (Cond.methodLink "ThriftyStoresLaw" 120 yLA_print) ∈ zs_tb := zs_i3 222 rfl rfl
set_option maxRecDepth 20000 in
theorem zq_703 : (Cond.static yLA_print) ∈ zs_tb := zs_i3 223 rfl rfl
set_option maxRecDepth 20000 in
theorem zq_704 : (Cond.codeWith yLA_print cLA_print 4 (some .int) [(0, 9, 12, 25)]) ∈ zs_tb := zs_i3 224 rfl rfl
set_option maxRecDepth 20000 in
theorem zq_705 : (Cond.methodLink "ThriftyStoresLaw" 52 yTS_print) ∈ zs_tb := zs_i3 225 rfl rfl
set_option maxRecDepth 20000 in
theorem zq_706 : (Cond.instanceMethod yTS_print) ∈ zs_tb := zs_i3 226 rfl rfl
set_option maxRecDepth 20000 in
theorem zq_707 : (Cond.selects "ThriftyStores" yTS_print yTS_print) ∈ zs_tb := zs_i3 227 rfl rfl
set_option maxRecDepth 20000 in
theorem zq_708 : (Cond.code yTS_print cTS_print 2 (some .int)) ∈ zs_tb := zs_i3 228 rfl rfl
set_option maxRecDepth 20000 in
theorem zq_709 : (Cond.methodLink "ThriftyStoresLaw" 127 yLA_cell) ∈ zs_tb := zs_i3 229 rfl rfl
set_option maxRecDepth 20000 in
theorem zq_710 : (Cond.static yLA_cell) ∈ zs_tb := zs_i3 230 rfl rfl
set_option maxRecDepth 20000 in
theorem zq_711 : (Cond.codeWith yLA_cell cLA_cell 6 (some .int) [(0, 12, 15, 25), (0, 12, 19, 13)]) ∈ zs_tb := zs_i3 231 rfl rfl
set_option maxRecDepth 20000 in
theorem zq_712 : (Cond.methodLink "ThriftyStoresLaw" 55 yTS_cell) ∈ zs_tb := zs_i3 232 rfl rfl
set_option maxRecDepth 20000 in
theorem zq_713 : (Cond.instanceMethod yTS_cell) ∈ zs_tb := zs_i3 233 rfl rfl
set_option maxRecDepth 20000 in
theorem zq_714 : (Cond.selects "ThriftyStores" yTS_cell yTS_cell) ∈ zs_tb := zs_i3 234 rfl rfl
set_option maxRecDepth 20000 in
theorem zq_715 : (Cond.code yTS_cell cTS_cell 4 (some .int)) ∈ zs_tb := zs_i3 235 rfl rfl
set_option maxRecDepth 20000 in
theorem zq_716 : (Cond.methodLink "ThriftyStores" 154 yMA_hasKeptCell) ∈ zs_tb := zs_i3 236 rfl rfl
set_option maxRecDepth 20000 in
theorem zq_717 : (Cond.instanceMethod yMA_hasKeptCell) ∈ zs_tb := zs_i3 237 rfl rfl
set_option maxRecDepth 20000 in
theorem zq_718 : (Cond.selects "ThriftyStores$Machine" yMA_hasKeptCell yMA_hasKeptCell) ∈ zs_tb := zs_i3 238 rfl rfl
set_option maxRecDepth 20000 in
theorem zq_719 : (Cond.code yMA_hasKeptCell cMA_hasKeptCell 3 (some .boolean)) ∈ zs_tb := zs_i3 239 rfl rfl
set_option maxRecDepth 20000 in
theorem zq_720 : (Cond.methodLink "ThriftyStores$Machine" 62 yMA_objectsKept) ∈ zs_tb := zs_i4 0 rfl rfl
set_option maxRecDepth 20000 in
theorem zq_721 : (Cond.methodLink "ThriftyStores" 157 yMA_partOfCell) ∈ zs_tb := zs_i4 1 rfl rfl
set_option maxRecDepth 20000 in
theorem zq_722 : (Cond.instanceMethod yMA_partOfCell) ∈ zs_tb := zs_i4 2 rfl rfl
set_option maxRecDepth 20000 in
theorem zq_723 : (Cond.selects "ThriftyStores$Machine" yMA_partOfCell yMA_partOfCell) ∈ zs_tb := zs_i4 3 rfl rfl
set_option maxRecDepth 20000 in
theorem zq_724 : (Cond.code yMA_partOfCell cMA_partOfCell 7 (some .int)) ∈ zs_tb := zs_i4 4 rfl rfl
set_option maxRecDepth 20000 in
theorem zq_725 : (Cond.classLink "ThriftyStoresLaw" 60 "ThriftyStoresModel") ∈ zs_tb := zs_i4 5 rfl rfl
set_option maxRecDepth 20000 in
theorem zq_726 : (Cond.instantiable "ThriftyStoresModel" 31) ∈ zs_tb := zs_i4 6 rfl rfl
set_option maxRecDepth 20000 in
theorem zq_727 : (Cond.methodLink "ThriftyStoresLaw" 62 yMO_init) ∈ zs_tb := zs_i4 7 rfl rfl
set_option maxRecDepth 20000 in
theorem zq_728 : (Cond.instanceMethod yMO_init) ∈ zs_tb := zs_i4 8 rfl rfl
set_option maxRecDepth 20000 in
theorem zq_729 : (Cond.code yMO_init cMO_init 1 none) ∈ zs_tb := zs_i4 9 rfl rfl
set_option maxRecDepth 20000 in
theorem zq_730 : (Cond.methodLink "ThriftyStoresModel" 1 ⟨"java/lang/Object", "<init>", "()V"⟩) ∈ zs_tb := zs_i4 10 rfl rfl
set_option maxRecDepth 20000 in
theorem zq_731 : (Cond.constant "ThriftyStoresModel" 29 40000) ∈ zs_tb := zs_i4 11 rfl rfl
set_option maxRecDepth 20000 in
theorem zq_732 : (Cond.constant "ThriftyStoresModel" 36 51456) ∈ zs_tb := zs_i4 12 rfl rfl
set_option maxRecDepth 20000 in
theorem zq_733 : (Cond.fieldLink "ThriftyStoresModel" 83 "ThriftyStoresModel" "code" "I") ∈ zs_tb := zs_i4 13 rfl rfl
set_option maxRecDepth 20000 in
theorem zq_734 : (Cond.fieldLink "ThriftyStoresModel" 7 "ThriftyStoresModel" "kind" "[I") ∈ zs_tb := zs_i4 14 rfl rfl
set_option maxRecDepth 20000 in
theorem zq_735 : (Cond.fieldLink "ThriftyStoresModel" 13 "ThriftyStoresModel" "a" "[I") ∈ zs_tb := zs_i4 15 rfl rfl
set_option maxRecDepth 20000 in
theorem zq_736 : (Cond.fieldLink "ThriftyStoresModel" 16 "ThriftyStoresModel" "b" "[I") ∈ zs_tb := zs_i4 16 rfl rfl
set_option maxRecDepth 20000 in
theorem zq_737 : (Cond.fieldLink "ThriftyStoresModel" 19 "ThriftyStoresModel" "c" "[I") ∈ zs_tb := zs_i4 17 rfl rfl
set_option maxRecDepth 20000 in
theorem zq_738 : (Cond.fieldLink "ThriftyStoresModel" 94 "ThriftyStoresModel" "size" "I") ∈ zs_tb := zs_i4 18 rfl rfl
set_option maxRecDepth 20000 in
theorem zq_739 : (Cond.fieldLink "ThriftyStoresModel" 97 "ThriftyStoresModel" "made" "Z") ∈ zs_tb := zs_i4 19 rfl rfl
set_option maxRecDepth 20000 in
theorem zq_740 : (Cond.fieldLink "ThriftyStoresModel" 174 "ThriftyStoresModel" "rounds" "I") ∈ zs_tb := zs_i4 20 rfl rfl
set_option maxRecDepth 20000 in
theorem zq_741 : (Cond.fieldLink "ThriftyStoresModel" 22 "ThriftyStoresModel" "fate" "[I") ∈ zs_tb := zs_i4 21 rfl rfl
set_option maxRecDepth 20000 in
theorem zq_742 : (Cond.fieldLink "ThriftyStoresModel" 101 "ThriftyStoresModel" "base" "I") ∈ zs_tb := zs_i4 22 rfl rfl
set_option maxRecDepth 20000 in
theorem zq_743 : (Cond.fieldLink "ThriftyStoresModel" 25 "ThriftyStoresModel" "may" "[Z") ∈ zs_tb := zs_i4 23 rfl rfl
set_option maxRecDepth 20000 in
theorem zq_744 : (Cond.fieldLink "ThriftyStoresModel" 30 "ThriftyStoresModel" "cells" "[Z") ∈ zs_tb := zs_i4 24 rfl rfl
set_option maxRecDepth 20000 in
theorem zq_745 : (Cond.fieldLink "ThriftyStoresModel" 33 "ThriftyStoresModel" "reached" "[Z") ∈ zs_tb := zs_i4 25 rfl rfl
set_option maxRecDepth 20000 in
theorem zq_746 : (Cond.fieldLink "ThriftyStoresModel" 37 "ThriftyStoresModel" "equal" "[Z") ∈ zs_tb := zs_i4 26 rfl rfl
set_option maxRecDepth 20000 in
theorem zq_747 : (Cond.fieldLink "ThriftyStoresModel" 40 "ThriftyStoresModel" "holds" "[Z") ∈ zs_tb := zs_i4 27 rfl rfl
set_option maxRecDepth 20000 in
theorem zq_748 : (Cond.fieldLink "ThriftyStoresModel" 43 "ThriftyStoresModel" "sure" "[Z") ∈ zs_tb := zs_i4 28 rfl rfl
set_option maxRecDepth 20000 in
theorem zq_749 : (Cond.fieldLink "ThriftyStoresModel" 46 "ThriftyStoresModel" "free" "[Z") ∈ zs_tb := zs_i4 29 rfl rfl
set_option maxRecDepth 20000 in
theorem zq_750 : (Cond.fieldLink "ThriftyStoresModel" 49 "ThriftyStoresModel" "outEqual" "[Z") ∈ zs_tb := zs_i4 30 rfl rfl
set_option maxRecDepth 20000 in
theorem zq_751 : (Cond.fieldLink "ThriftyStoresModel" 52 "ThriftyStoresModel" "outHolds" "[Z") ∈ zs_tb := zs_i4 31 rfl rfl
set_option maxRecDepth 20000 in
theorem zq_752 : (Cond.fieldLink "ThriftyStoresModel" 55 "ThriftyStoresModel" "outSure" "[Z") ∈ zs_tb := zs_i4 32 rfl rfl
set_option maxRecDepth 20000 in
theorem zq_753 : (Cond.fieldLink "ThriftyStoresModel" 58 "ThriftyStoresModel" "object" "[I") ∈ zs_tb := zs_i4 33 rfl rfl
set_option maxRecDepth 20000 in
theorem zq_754 : (Cond.fieldLink "ThriftyStoresModel" 61 "ThriftyStoresModel" "number" "[I") ∈ zs_tb := zs_i4 34 rfl rfl
set_option maxRecDepth 20000 in
theorem zq_755 : (Cond.fieldLink "ThriftyStoresModel" 64 "ThriftyStoresModel" "cellObject" "[I") ∈ zs_tb := zs_i4 35 rfl rfl
set_option maxRecDepth 20000 in
theorem zq_756 : (Cond.fieldLink "ThriftyStoresModel" 67 "ThriftyStoresModel" "cellNumber" "[I") ∈ zs_tb := zs_i4 36 rfl rfl
set_option maxRecDepth 20000 in
theorem zq_757 : (Cond.fieldLink "ThriftyStoresModel" 70 "ThriftyStoresModel" "sizes" "[I") ∈ zs_tb := zs_i4 37 rfl rfl
set_option maxRecDepth 20000 in
theorem zq_758 : (Cond.fieldLink "ThriftyStoresModel" 73 "ThriftyStoresModel" "keeps" "[Z") ∈ zs_tb := zs_i4 38 rfl rfl
set_option maxRecDepth 20000 in
theorem zq_759 : (Cond.fieldLink "ThriftyStoresModel" 197 "ThriftyStoresModel" "objects" "I") ∈ zs_tb := zs_i4 39 rfl rfl
set_option maxRecDepth 20000 in
theorem zq_760 : (Cond.fieldLink "ThriftyStoresModel" 76 "ThriftyStoresModel" "prints" "[I") ∈ zs_tb := zs_i4 40 rfl rfl
set_option maxRecDepth 20000 in
theorem zq_761 : (Cond.fieldLink "ThriftyStoresModel" 200 "ThriftyStoresModel" "printed" "I") ∈ zs_tb := zs_i4 41 rfl rfl
set_option maxRecDepth 20000 in
theorem zq_762 : (Cond.fieldLink "ThriftyStoresModel" 203 "ThriftyStoresModel" "steps" "I") ∈ zs_tb := zs_i4 42 rfl rfl
set_option maxRecDepth 20000 in
theorem zq_763 : (Cond.fieldLink "ThriftyStoresModel" 79 "ThriftyStoresModel" "ended" "I") ∈ zs_tb := zs_i4 43 rfl rfl
set_option maxRecDepth 20000 in
theorem zq_827 : (Cond.methodLink "ThriftyStoresLaw" 69 yMO_thrown) ∈ zs_tb := zs_i4 107 rfl rfl
set_option maxRecDepth 20000 in
theorem zq_828 : (Cond.instanceMethod yMO_thrown) ∈ zs_tb := zs_i4 108 rfl rfl
set_option maxRecDepth 20000 in
theorem zq_829 : (Cond.selects "ThriftyStoresModel" yMO_thrown yMO_thrown) ∈ zs_tb := zs_i4 109 rfl rfl
set_option maxRecDepth 20000 in
theorem zq_830 : (Cond.code yMO_thrown cMO_thrown 1 (some .int)) ∈ zs_tb := zs_i4 110 rfl rfl
set_option maxRecDepth 20000 in
theorem zq_831 : (Cond.methodLink "ThriftyStoresLaw" 68 yMO_add) ∈ zs_tb := zs_i4 111 rfl rfl
set_option maxRecDepth 20000 in
theorem zq_832 : (Cond.instanceMethod yMO_add) ∈ zs_tb := zs_i4 112 rfl rfl
set_option maxRecDepth 20000 in
theorem zq_833 : (Cond.selects "ThriftyStoresModel" yMO_add yMO_add) ∈ zs_tb := zs_i4 113 rfl rfl
set_option maxRecDepth 20000 in
theorem zq_834 : (Cond.code yMO_add cMO_add 5 (some .int)) ∈ zs_tb := zs_i4 114 rfl rfl
set_option maxRecDepth 20000 in
theorem zq_835 : (Cond.methodLink "ThriftyStoresModel" 90 yMO_good) ∈ zs_tb := zs_i4 115 rfl rfl
set_option maxRecDepth 20000 in
theorem zq_836 : (Cond.static yMO_good) ∈ zs_tb := zs_i4 116 rfl rfl
set_option maxRecDepth 20000 in
theorem zq_837 : (Cond.code yMO_good cMO_good 5 (some .boolean)) ∈ zs_tb := zs_i4 117 rfl rfl
set_option maxRecDepth 20000 in
theorem zq_838 : (Cond.methodLink "ThriftyStoresModel" 86 yMO_register) ∈ zs_tb := zs_i4 118 rfl rfl
set_option maxRecDepth 20000 in
theorem zq_839 : (Cond.static yMO_register) ∈ zs_tb := zs_i4 119 rfl rfl
set_option maxRecDepth 20000 in
theorem zq_840 : (Cond.code yMO_register cMO_register 1 (some .boolean)) ∈ zs_tb := zs_i4 120 rfl rfl
set_option maxRecDepth 20000 in
theorem zq_841 : (Cond.methodLink "ThriftyStoresLaw" 75 yMO_clear) ∈ zs_tb := zs_i4 121 rfl rfl
set_option maxRecDepth 20000 in
theorem zq_842 : (Cond.instanceMethod yMO_clear) ∈ zs_tb := zs_i4 122 rfl rfl
set_option maxRecDepth 20000 in
theorem zq_843 : (Cond.selects "ThriftyStoresModel" yMO_clear yMO_clear) ∈ zs_tb := zs_i4 123 rfl rfl
set_option maxRecDepth 20000 in
theorem zq_844 : (Cond.code yMO_clear cMO_clear 2 (some .int)) ∈ zs_tb := zs_i4 124 rfl rfl
set_option maxRecDepth 20000 in
theorem zq_845 : (Cond.methodLink "ThriftyStoresLaw" 79 yMO_thrift) ∈ zs_tb := zs_i4 125 rfl rfl
set_option maxRecDepth 20000 in
theorem zq_846 : (Cond.instanceMethod yMO_thrift) ∈ zs_tb := zs_i4 126 rfl rfl
set_option maxRecDepth 20000 in
theorem zq_847 : (Cond.selects "ThriftyStoresModel" yMO_thrift yMO_thrift) ∈ zs_tb := zs_i4 127 rfl rfl
set_option maxRecDepth 20000 in
theorem zq_848 : (Cond.code yMO_thrift cMO_thrift 3 (some .int)) ∈ zs_tb := zs_i4 128 rfl rfl
set_option maxRecDepth 20000 in
theorem zq_849 : (Cond.methodLink "ThriftyStoresModel" 177 yMO_forward) ∈ zs_tb := zs_i4 129 rfl rfl
set_option maxRecDepth 20000 in
theorem zq_851 : (Cond.instanceMethod yMO_forward) ∈ zs_tb := zs_i4 131 rfl rfl
set_option maxRecDepth 20000 in
theorem zq_852 : (Cond.code yMO_forward cMO_forward 6 (some .int)) ∈ zs_tb := zs_i4 132 rfl rfl
set_option maxRecDepth 20000 in
theorem zq_853 : (Cond.methodLink "ThriftyStoresModel" 167 yMO_find) ∈ zs_tb := zs_i4 133 rfl rfl
set_option maxRecDepth 20000 in
theorem zq_855 : (Cond.instanceMethod yMO_find) ∈ zs_tb := zs_i4 135 rfl rfl
set_option maxRecDepth 20000 in
theorem zq_856 : (Cond.code yMO_find cMO_find 2 none) ∈ zs_tb := zs_i4 136 rfl rfl
set_option maxRecDepth 20000 in
theorem zq_857 : (Cond.methodLink "ThriftyStoresModel" 155 yMO_findSets) ∈ zs_tb := zs_i4 137 rfl rfl
set_option maxRecDepth 20000 in
theorem zq_859 : (Cond.instanceMethod yMO_findSets) ∈ zs_tb := zs_i4 139 rfl rfl
set_option maxRecDepth 20000 in
theorem zq_860 : (Cond.code yMO_findSets cMO_findSets 7 none) ∈ zs_tb := zs_i4 140 rfl rfl
set_option maxRecDepth 20000 in
theorem zq_861 : (Cond.methodLink "ThriftyStoresModel" 104 yMO_moreMay) ∈ zs_tb := zs_i4 141 rfl rfl
set_option maxRecDepth 20000 in
theorem zq_863 : (Cond.instanceMethod yMO_moreMay) ∈ zs_tb := zs_i4 143 rfl rfl
set_option maxRecDepth 20000 in
theorem zq_864 : (Cond.code yMO_moreMay cMO_moreMay 5 (some .boolean)) ∈ zs_tb := zs_i4 144 rfl rfl
set_option maxRecDepth 20000 in
theorem zq_865 : (Cond.methodLink "ThriftyStoresModel" 108 yMO_moreFromCells) ∈ zs_tb := zs_i4 145 rfl rfl
set_option maxRecDepth 20000 in
theorem zq_867 : (Cond.instanceMethod yMO_moreFromCells) ∈ zs_tb := zs_i4 147 rfl rfl
set_option maxRecDepth 20000 in
theorem zq_868 : (Cond.code yMO_moreFromCells cMO_moreFromCells 5 (some .boolean)) ∈ zs_tb := zs_i4 148 rfl rfl
set_option maxRecDepth 20000 in
theorem zq_869 : (Cond.methodLink "ThriftyStoresModel" 111 yMO_moreToCells) ∈ zs_tb := zs_i4 149 rfl rfl
set_option maxRecDepth 20000 in
theorem zq_871 : (Cond.instanceMethod yMO_moreToCells) ∈ zs_tb := zs_i4 151 rfl rfl
set_option maxRecDepth 20000 in
theorem zq_872 : (Cond.code yMO_moreToCells cMO_moreToCells 5 (some .boolean)) ∈ zs_tb := zs_i4 152 rfl rfl
set_option maxRecDepth 20000 in
theorem zq_873 : (Cond.methodLink "ThriftyStoresModel" 158 yMO_findReached) ∈ zs_tb := zs_i4 153 rfl rfl
set_option maxRecDepth 20000 in
theorem zq_875 : (Cond.instanceMethod yMO_findReached) ∈ zs_tb := zs_i4 155 rfl rfl
set_option maxRecDepth 20000 in
theorem zq_876 : (Cond.code yMO_findReached cMO_findReached 5 none) ∈ zs_tb := zs_i4 156 rfl rfl
set_option maxRecDepth 20000 in
theorem zq_877 : (Cond.methodLink "ThriftyStoresModel" 114 yMO_next) ∈ zs_tb := zs_i4 157 rfl rfl
set_option maxRecDepth 20000 in
theorem zq_879 : (Cond.instanceMethod yMO_next) ∈ zs_tb := zs_i4 159 rfl rfl
set_option maxRecDepth 20000 in
theorem zq_880 : (Cond.code yMO_next cMO_next 4 (some .int)) ∈ zs_tb := zs_i4 160 rfl rfl
set_option maxRecDepth 20000 in
theorem zq_881 : (Cond.methodLink "ThriftyStoresModel" 161 yMO_findFacts) ∈ zs_tb := zs_i4 161 rfl rfl
set_option maxRecDepth 20000 in
theorem zq_883 : (Cond.instanceMethod yMO_findFacts) ∈ zs_tb := zs_i4 163 rfl rfl
set_option maxRecDepth 20000 in
theorem zq_884 : (Cond.code yMO_findFacts cMO_findFacts 4 none) ∈ zs_tb := zs_i4 164 rfl rfl
set_option maxRecDepth 20000 in
theorem zq_885 : (Cond.methodLink "ThriftyStoresModel" 145 yMO_pass) ∈ zs_tb := zs_i4 165 rfl rfl
set_option maxRecDepth 20000 in
theorem zq_887 : (Cond.instanceMethod yMO_pass) ∈ zs_tb := zs_i4 167 rfl rfl
set_option maxRecDepth 20000 in
theorem zq_888 : (Cond.code yMO_pass cMO_pass 9 none) ∈ zs_tb := zs_i4 168 rfl rfl
set_option maxRecDepth 20000 in
theorem zq_889 : (Cond.methodLink "ThriftyStoresModel" 118 yMO_sets) ∈ zs_tb := zs_i4 169 rfl rfl
set_option maxRecDepth 20000 in
theorem zq_891 : (Cond.instanceMethod yMO_sets) ∈ zs_tb := zs_i4 171 rfl rfl
set_option maxRecDepth 20000 in
theorem zq_892 : (Cond.code yMO_sets cMO_sets 2 (some .boolean)) ∈ zs_tb := zs_i4 172 rfl rfl
set_option maxRecDepth 20000 in
theorem zq_893 : (Cond.methodLink "ThriftyStoresModel" 121 yMO_held) ∈ zs_tb := zs_i4 173 rfl rfl
set_option maxRecDepth 20000 in
theorem zq_895 : (Cond.instanceMethod yMO_held) ∈ zs_tb := zs_i4 175 rfl rfl
set_option maxRecDepth 20000 in
theorem zq_896 : (Cond.code yMO_held cMO_held 4 (some .boolean)) ∈ zs_tb := zs_i4 176 rfl rfl
set_option maxRecDepth 20000 in
theorem zq_897 : (Cond.methodLink "ThriftyStoresModel" 125 yMO_meet) ∈ zs_tb := zs_i4 177 rfl rfl
set_option maxRecDepth 20000 in
theorem zq_899 : (Cond.instanceMethod yMO_meet) ∈ zs_tb := zs_i4 179 rfl rfl
set_option maxRecDepth 20000 in
theorem zq_900 : (Cond.code yMO_meet cMO_meet 5 (some .boolean)) ∈ zs_tb := zs_i4 180 rfl rfl
set_option maxRecDepth 20000 in
theorem zq_901 : (Cond.methodLink "ThriftyStoresModel" 128 yMO_one) ∈ zs_tb := zs_i4 181 rfl rfl
set_option maxRecDepth 20000 in
theorem zq_903 : (Cond.instanceMethod yMO_one) ∈ zs_tb := zs_i4 183 rfl rfl
set_option maxRecDepth 20000 in
theorem zq_904 : (Cond.code yMO_one cMO_one 4 (some .boolean)) ∈ zs_tb := zs_i4 184 rfl rfl
set_option maxRecDepth 20000 in
theorem zq_905 : (Cond.methodLink "ThriftyStoresModel" 131 yMO_passMove) ∈ zs_tb := zs_i4 185 rfl rfl
set_option maxRecDepth 20000 in
theorem zq_907 : (Cond.instanceMethod yMO_passMove) ∈ zs_tb := zs_i4 187 rfl rfl
set_option maxRecDepth 20000 in
theorem zq_908 : (Cond.code yMO_passMove cMO_passMove 5 none) ∈ zs_tb := zs_i4 188 rfl rfl
set_option maxRecDepth 20000 in
theorem zq_909 : (Cond.methodLink "ThriftyStoresModel" 141 yMO_tie) ∈ zs_tb := zs_i4 189 rfl rfl
set_option maxRecDepth 20000 in
theorem zq_911 : (Cond.instanceMethod yMO_tie) ∈ zs_tb := zs_i4 191 rfl rfl
set_option maxRecDepth 20000 in
theorem zq_912 : (Cond.code yMO_tie cMO_tie 3 none) ∈ zs_tb := zs_i4 192 rfl rfl
set_option maxRecDepth 20000 in
theorem zq_913 : (Cond.methodLink "ThriftyStoresModel" 135 yMO_passLoad) ∈ zs_tb := zs_i4 193 rfl rfl
set_option maxRecDepth 20000 in
theorem zq_915 : (Cond.instanceMethod yMO_passLoad) ∈ zs_tb := zs_i4 195 rfl rfl
set_option maxRecDepth 20000 in
theorem zq_916 : (Cond.code yMO_passLoad cMO_passLoad 5 none) ∈ zs_tb := zs_i4 196 rfl rfl
set_option maxRecDepth 20000 in
theorem zq_917 : (Cond.methodLink "ThriftyStoresModel" 138 yMO_passStore) ∈ zs_tb := zs_i4 197 rfl rfl
set_option maxRecDepth 20000 in
theorem zq_919 : (Cond.instanceMethod yMO_passStore) ∈ zs_tb := zs_i4 199 rfl rfl
set_option maxRecDepth 20000 in
theorem zq_920 : (Cond.code yMO_passStore cMO_passStore 6 none) ∈ zs_tb := zs_i4 200 rfl rfl
set_option maxRecDepth 20000 in
theorem zq_921 : (Cond.methodLink "ThriftyStoresModel" 149 yMO_meets) ∈ zs_tb := zs_i4 201 rfl rfl
set_option maxRecDepth 20000 in
theorem zq_923 : (Cond.instanceMethod yMO_meets) ∈ zs_tb := zs_i4 203 rfl rfl
set_option maxRecDepth 20000 in
theorem zq_924 : (Cond.code yMO_meets cMO_meets 4 (some .boolean)) ∈ zs_tb := zs_i4 204 rfl rfl
set_option maxRecDepth 20000 in
theorem zq_925 : (Cond.methodLink "ThriftyStoresModel" 164 yMO_findFree) ∈ zs_tb := zs_i4 205 rfl rfl
set_option maxRecDepth 20000 in
theorem zq_927 : (Cond.instanceMethod yMO_findFree) ∈ zs_tb := zs_i4 207 rfl rfl
set_option maxRecDepth 20000 in
theorem zq_928 : (Cond.code yMO_findFree cMO_findFree 6 none) ∈ zs_tb := zs_i4 208 rfl rfl
set_option maxRecDepth 20000 in
theorem zq_929 : (Cond.methodLink "ThriftyStoresModel" 152 yMO_freeBefore) ∈ zs_tb := zs_i4 209 rfl rfl
set_option maxRecDepth 20000 in
theorem zq_931 : (Cond.instanceMethod yMO_freeBefore) ∈ zs_tb := zs_i4 211 rfl rfl
set_option maxRecDepth 20000 in
theorem zq_932 : (Cond.code yMO_freeBefore cMO_freeBefore 5 (some .boolean)) ∈ zs_tb := zs_i4 212 rfl rfl
set_option maxRecDepth 20000 in
theorem zq_933 : (Cond.methodLink "ThriftyStoresModel" 170 yMO_change) ∈ zs_tb := zs_i4 213 rfl rfl
set_option maxRecDepth 20000 in
theorem zq_935 : (Cond.instanceMethod yMO_change) ∈ zs_tb := zs_i4 215 rfl rfl
set_option maxRecDepth 20000 in
theorem zq_936 : (Cond.code yMO_change cMO_change 6 (some .int)) ∈ zs_tb := zs_i4 216 rfl rfl
set_option maxRecDepth 20000 in
theorem zq_937 : (Cond.methodLink "ThriftyStoresModel" 181 yMO_dead) ∈ zs_tb := zs_i4 217 rfl rfl
set_option maxRecDepth 20000 in
theorem zq_939 : (Cond.instanceMethod yMO_dead) ∈ zs_tb := zs_i4 219 rfl rfl
set_option maxRecDepth 20000 in
theorem zq_940 : (Cond.code yMO_dead cMO_dead 4 (some .int)) ∈ zs_tb := zs_i4 220 rfl rfl
set_option maxRecDepth 20000 in
theorem zq_941 : (Cond.methodLink "ThriftyStoresLaw" 83 yMO_size) ∈ zs_tb := zs_i4 221 rfl rfl
set_option maxRecDepth 20000 in
theorem zq_942 : (Cond.instanceMethod yMO_size) ∈ zs_tb := zs_i4 222 rfl rfl
set_option maxRecDepth 20000 in
theorem zq_943 : (Cond.selects "ThriftyStoresModel" yMO_size yMO_size) ∈ zs_tb := zs_i4 223 rfl rfl
set_option maxRecDepth 20000 in
theorem zq_944 : (Cond.code yMO_size cMO_size 1 (some .int)) ∈ zs_tb := zs_i4 224 rfl rfl
set_option maxRecDepth 20000 in
theorem zq_945 : (Cond.methodLink "ThriftyStoresLaw" 87 yMO_instruction) ∈ zs_tb := zs_i4 225 rfl rfl
set_option maxRecDepth 20000 in
theorem zq_946 : (Cond.instanceMethod yMO_instruction) ∈ zs_tb := zs_i4 226 rfl rfl
set_option maxRecDepth 20000 in
theorem zq_947 : (Cond.selects "ThriftyStoresModel" yMO_instruction yMO_instruction) ∈ zs_tb := zs_i4 227 rfl rfl
set_option maxRecDepth 20000 in
theorem zq_948 : (Cond.code yMO_instruction cMO_instruction 5 (some .int)) ∈ zs_tb := zs_i4 228 rfl rfl
set_option maxRecDepth 20000 in
theorem zq_949 : (Cond.methodLink "ThriftyStoresModel" 184 yMO_no) ∈ zs_tb := zs_i4 229 rfl rfl
set_option maxRecDepth 20000 in
theorem zq_951 : (Cond.instanceMethod yMO_no) ∈ zs_tb := zs_i4 231 rfl rfl
set_option maxRecDepth 20000 in
theorem zq_952 : (Cond.code yMO_no cMO_no 2 (some .boolean)) ∈ zs_tb := zs_i4 232 rfl rfl
set_option maxRecDepth 20000 in
theorem zq_953 : (Cond.methodLink "ThriftyStoresLaw" 91 yMO_fate) ∈ zs_tb := zs_i4 233 rfl rfl
set_option maxRecDepth 20000 in
theorem zq_954 : (Cond.instanceMethod yMO_fate) ∈ zs_tb := zs_i4 234 rfl rfl
set_option maxRecDepth 20000 in
theorem zq_955 : (Cond.selects "ThriftyStoresModel" yMO_fate yMO_fate) ∈ zs_tb := zs_i4 235 rfl rfl
set_option maxRecDepth 20000 in
theorem zq_956 : (Cond.code yMO_fate cMO_fate 2 (some .int)) ∈ zs_tb := zs_i4 236 rfl rfl
set_option maxRecDepth 20000 in
theorem zq_957 : (Cond.methodLink "ThriftyStoresLaw" 94 yMO_rounds) ∈ zs_tb := zs_i4 237 rfl rfl
set_option maxRecDepth 20000 in
theorem zq_958 : (Cond.instanceMethod yMO_rounds) ∈ zs_tb := zs_i4 238 rfl rfl
set_option maxRecDepth 20000 in
theorem zq_959 : (Cond.selects "ThriftyStoresModel" yMO_rounds yMO_rounds) ∈ zs_tb := zs_i4 239 rfl rfl
set_option maxRecDepth 20000 in
theorem zq_960 : (Cond.code yMO_rounds cMO_rounds 1 (some .int)) ∈ zs_tb := zs_i5 0 rfl rfl
set_option maxRecDepth 20000 in
theorem zq_961 : (Cond.methodLink "ThriftyStoresLaw" 98 yMO_may) ∈ zs_tb := zs_i5 1 rfl rfl
set_option maxRecDepth 20000 in
theorem zq_962 : (Cond.instanceMethod yMO_may) ∈ zs_tb := zs_i5 2 rfl rfl
set_option maxRecDepth 20000 in
theorem zq_963 : (Cond.selects "ThriftyStoresModel" yMO_may yMO_may) ∈ zs_tb := zs_i5 3 rfl rfl
set_option maxRecDepth 20000 in
theorem zq_964 : (Cond.code yMO_may cMO_may 3 (some .boolean)) ∈ zs_tb := zs_i5 4 rfl rfl
set_option maxRecDepth 20000 in
theorem zq_965 : (Cond.methodLink "ThriftyStoresLaw" 101 yMO_inside) ∈ zs_tb := zs_i5 5 rfl rfl
set_option maxRecDepth 20000 in
theorem zq_966 : (Cond.instanceMethod yMO_inside) ∈ zs_tb := zs_i5 6 rfl rfl
set_option maxRecDepth 20000 in
theorem zq_967 : (Cond.selects "ThriftyStoresModel" yMO_inside yMO_inside) ∈ zs_tb := zs_i5 7 rfl rfl
set_option maxRecDepth 20000 in
theorem zq_968 : (Cond.code yMO_inside cMO_inside 3 (some .boolean)) ∈ zs_tb := zs_i5 8 rfl rfl
set_option maxRecDepth 20000 in
theorem zq_969 : (Cond.methodLink "ThriftyStoresLaw" 104 yMO_fact) ∈ zs_tb := zs_i5 9 rfl rfl
set_option maxRecDepth 20000 in
theorem zq_970 : (Cond.instanceMethod yMO_fact) ∈ zs_tb := zs_i5 10 rfl rfl
set_option maxRecDepth 20000 in
theorem zq_971 : (Cond.selects "ThriftyStoresModel" yMO_fact yMO_fact) ∈ zs_tb := zs_i5 11 rfl rfl
set_option maxRecDepth 20000 in
theorem zq_972 : (Cond.code yMO_fact cMO_fact 6 (some .boolean)) ∈ zs_tb := zs_i5 12 rfl rfl
set_option maxRecDepth 20000 in
theorem zq_973 : (Cond.methodLink "ThriftyStoresLaw" 107 yMO_free) ∈ zs_tb := zs_i5 13 rfl rfl
set_option maxRecDepth 20000 in
theorem zq_974 : (Cond.instanceMethod yMO_free) ∈ zs_tb := zs_i5 14 rfl rfl
set_option maxRecDepth 20000 in
theorem zq_975 : (Cond.selects "ThriftyStoresModel" yMO_free yMO_free) ∈ zs_tb := zs_i5 15 rfl rfl
set_option maxRecDepth 20000 in
theorem zq_976 : (Cond.code yMO_free cMO_free 3 (some .boolean)) ∈ zs_tb := zs_i5 16 rfl rfl
set_option maxRecDepth 20000 in
theorem zq_977 : (Cond.methodLink "ThriftyStoresLaw" 111 yMO_run) ∈ zs_tb := zs_i5 17 rfl rfl
set_option maxRecDepth 20000 in
theorem zq_978 : (Cond.instanceMethod yMO_run) ∈ zs_tb := zs_i5 18 rfl rfl
set_option maxRecDepth 20000 in
theorem zq_979 : (Cond.selects "ThriftyStoresModel" yMO_run yMO_run) ∈ zs_tb := zs_i5 19 rfl rfl
set_option maxRecDepth 20000 in
theorem zq_980 : (Cond.code yMO_run cMO_run 4 (some .int)) ∈ zs_tb := zs_i5 20 rfl rfl
set_option maxRecDepth 20000 in
theorem zq_981 : (Cond.methodLink "ThriftyStoresModel" 187 yMO_put) ∈ zs_tb := zs_i5 21 rfl rfl
set_option maxRecDepth 20000 in
theorem zq_983 : (Cond.instanceMethod yMO_put) ∈ zs_tb := zs_i5 23 rfl rfl
set_option maxRecDepth 20000 in
theorem zq_984 : (Cond.code yMO_put cMO_put 4 none) ∈ zs_tb := zs_i5 24 rfl rfl
set_option maxRecDepth 20000 in
theorem zq_985 : (Cond.methodLink "ThriftyStoresModel" 206 yMO_step) ∈ zs_tb := zs_i5 25 rfl rfl
set_option maxRecDepth 20000 in
theorem zq_987 : (Cond.instanceMethod yMO_step) ∈ zs_tb := zs_i5 27 rfl rfl
set_option maxRecDepth 20000 in
theorem zq_988 : (Cond.code yMO_step cMO_step 8 (some .int)) ∈ zs_tb := zs_i5 28 rfl rfl
set_option maxRecDepth 20000 in
theorem zq_989 : (Cond.methodLink "ThriftyStoresModel" 190 yMO_make) ∈ zs_tb := zs_i5 29 rfl rfl
set_option maxRecDepth 20000 in
theorem zq_991 : (Cond.instanceMethod yMO_make) ∈ zs_tb := zs_i5 31 rfl rfl
set_option maxRecDepth 20000 in
theorem zq_992 : (Cond.code yMO_make cMO_make 5 none) ∈ zs_tb := zs_i5 32 rfl rfl
set_option maxRecDepth 20000 in
theorem zq_993 : (Cond.methodLink "ThriftyStoresModel" 193 yMO_printNumber) ∈ zs_tb := zs_i5 33 rfl rfl
set_option maxRecDepth 20000 in
theorem zq_995 : (Cond.instanceMethod yMO_printNumber) ∈ zs_tb := zs_i5 35 rfl rfl
set_option maxRecDepth 20000 in
theorem zq_996 : (Cond.code yMO_printNumber cMO_printNumber 3 none) ∈ zs_tb := zs_i5 36 rfl rfl
set_option maxRecDepth 20000 in
theorem zq_997 : (Cond.methodLink "ThriftyStoresLaw" 115 yMO_steps) ∈ zs_tb := zs_i5 37 rfl rfl
set_option maxRecDepth 20000 in
theorem zq_998 : (Cond.instanceMethod yMO_steps) ∈ zs_tb := zs_i5 38 rfl rfl
set_option maxRecDepth 20000 in
theorem zq_999 : (Cond.selects "ThriftyStoresModel" yMO_steps yMO_steps) ∈ zs_tb := zs_i5 39 rfl rfl
set_option maxRecDepth 20000 in
theorem zq_1000 : (Cond.code yMO_steps cMO_steps 1 (some .int)) ∈ zs_tb := zs_i5 40 rfl rfl
set_option maxRecDepth 20000 in
theorem zq_1001 : (Cond.methodLink "ThriftyStoresLaw" 119 yMO_printed) ∈ zs_tb := zs_i5 41 rfl rfl
set_option maxRecDepth 20000 in
theorem zq_1002 : (Cond.instanceMethod yMO_printed) ∈ zs_tb := zs_i5 42 rfl rfl
set_option maxRecDepth 20000 in
theorem zq_1003 : (Cond.selects "ThriftyStoresModel" yMO_printed yMO_printed) ∈ zs_tb := zs_i5 43 rfl rfl
set_option maxRecDepth 20000 in
theorem zq_1004 : (Cond.code yMO_printed cMO_printed 1 (some .int)) ∈ zs_tb := zs_i5 44 rfl rfl
set_option maxRecDepth 20000 in
theorem zq_1005 : (Cond.methodLink "ThriftyStoresLaw" 122 yMO_print) ∈ zs_tb := zs_i5 45 rfl rfl
set_option maxRecDepth 20000 in
theorem zq_1006 : (Cond.instanceMethod yMO_print) ∈ zs_tb := zs_i5 46 rfl rfl
set_option maxRecDepth 20000 in
theorem zq_1007 : (Cond.selects "ThriftyStoresModel" yMO_print yMO_print) ∈ zs_tb := zs_i5 47 rfl rfl
set_option maxRecDepth 20000 in
theorem zq_1008 : (Cond.code yMO_print cMO_print 2 (some .int)) ∈ zs_tb := zs_i5 48 rfl rfl
set_option maxRecDepth 20000 in
theorem zq_1009 : (Cond.methodLink "ThriftyStoresLaw" 126 yMO_kept) ∈ zs_tb := zs_i5 49 rfl rfl
set_option maxRecDepth 20000 in
theorem zq_1010 : (Cond.instanceMethod yMO_kept) ∈ zs_tb := zs_i5 50 rfl rfl
set_option maxRecDepth 20000 in
theorem zq_1011 : (Cond.selects "ThriftyStoresModel" yMO_kept yMO_kept) ∈ zs_tb := zs_i5 51 rfl rfl
set_option maxRecDepth 20000 in
theorem zq_1012 : (Cond.code yMO_kept cMO_kept 3 (some .int)) ∈ zs_tb := zs_i5 52 rfl rfl
set_option maxRecDepth 20000 in
theorem zq_1013 : (Cond.methodLink "ThriftyStoresLaw" 130 yMO_cell) ∈ zs_tb := zs_i5 53 rfl rfl
set_option maxRecDepth 20000 in
theorem zq_1014 : (Cond.instanceMethod yMO_cell) ∈ zs_tb := zs_i5 54 rfl rfl
set_option maxRecDepth 20000 in
theorem zq_1015 : (Cond.selects "ThriftyStoresModel" yMO_cell yMO_cell) ∈ zs_tb := zs_i5 55 rfl rfl
set_option maxRecDepth 20000 in
theorem zq_1016 : (Cond.code yMO_cell cMO_cell 8 (some .int)) ∈ zs_tb := zs_i5 56 rfl rfl
set_option maxRecDepth 20000 in
theorem zp_0 : (Cond.selects "java/lang/Throwable" ⟨"java/lang/Throwable", "fillInStackTrace", "(I)Ljava/lang/Throwable;"⟩ ⟨"java/lang/Throwable", "fillInStackTrace", "(I)Ljava/lang/Throwable;"⟩) ∈ zs_tb := zs_ip 0 rfl rfl
set_option maxRecDepth 20000 in
theorem zp_1 : (Cond.selects "ThriftyStores" yTS_makeRound yTS_makeRound) ∈ zs_tb := zs_ip 1 rfl rfl
set_option maxRecDepth 20000 in
theorem zp_2 : (Cond.selects "ThriftyStores" yTS_lookThrough yTS_lookThrough) ∈ zs_tb := zs_ip 2 rfl rfl
set_option maxRecDepth 20000 in
theorem zp_3 : (Cond.selects "ThriftyStores$Addresses" yAD_listSites yAD_listSites) ∈ zs_tb := zs_ip 3 rfl rfl
set_option maxRecDepth 20000 in
theorem zp_4 : (Cond.selects "ThriftyStores$Addresses" yAD_follow yAD_follow) ∈ zs_tb := zs_ip 4 rfl rfl
set_option maxRecDepth 20000 in
theorem zp_5 : (Cond.selects "ThriftyStores$Addresses" yAD_enter yAD_enter) ∈ zs_tb := zs_ip 5 rfl rfl
set_option maxRecDepth 20000 in
theorem zp_6 : (Cond.selects "ThriftyStores$Addresses" yAD_followLoad yAD_followLoad) ∈ zs_tb := zs_ip 6 rfl rfl
set_option maxRecDepth 20000 in
theorem zp_7 : (Cond.selects "ThriftyStores$Addresses" yAD_followStore yAD_followStore) ∈ zs_tb := zs_ip 7 rfl rfl
set_option maxRecDepth 20000 in
theorem zp_8 : (Cond.selects "ThriftyStores$Addresses" yAD_findMeeting yAD_findMeeting) ∈ zs_tb := zs_ip 8 rfl rfl
set_option maxRecDepth 20000 in
theorem zp_9 : (Cond.selects "ThriftyStores$Addresses" yAD_haveCommonSite yAD_haveCommonSite) ∈ zs_tb := zs_ip 9 rfl rfl
set_option maxRecDepth 20000 in
theorem zp_10 : (Cond.selects "ThriftyStores$Addresses" yAD_findUnkept yAD_findUnkept) ∈ zs_tb := zs_ip 10 rfl rfl
set_option maxRecDepth 20000 in
theorem zp_11 : (Cond.selects "ThriftyStores$Addresses" yAD_takeHolders yAD_takeHolders) ∈ zs_tb := zs_ip 11 rfl rfl
set_option maxRecDepth 20000 in
theorem zp_12 : (Cond.selects "ThriftyStores$Knowledge" yKN_begin yKN_begin) ∈ zs_tb := zs_ip 12 rfl rfl
set_option maxRecDepth 20000 in
theorem zp_13 : (Cond.selects "ThriftyStores$Facts" yFA_passMove yFA_passMove) ∈ zs_tb := zs_ip 13 rfl rfl
set_option maxRecDepth 20000 in
theorem zp_14 : (Cond.selects "ThriftyStores$Facts" yFA_forget yFA_forget) ∈ zs_tb := zs_ip 14 rfl rfl
set_option maxRecDepth 20000 in
theorem zp_15 : (Cond.selects "ThriftyStores$Facts" yFA_passLoad yFA_passLoad) ∈ zs_tb := zs_ip 15 rfl rfl
set_option maxRecDepth 20000 in
theorem zp_16 : (Cond.selects "ThriftyStores$Facts" yFA_passStore yFA_passStore) ∈ zs_tb := zs_ip 16 rfl rfl
set_option maxRecDepth 20000 in
theorem zp_17 : (Cond.selects "ThriftyStores$Knowledge" yKN_flowTo yKN_flowTo) ∈ zs_tb := zs_ip 17 rfl rfl
set_option maxRecDepth 20000 in
theorem zp_18 : (Cond.selects "ThriftyStores$Freedom" yFR_freeBeforeNext yFR_freeBeforeNext) ∈ zs_tb := zs_ip 18 rfl rfl
set_option maxRecDepth 20000 in
theorem zp_19 : (Cond.selects "ThriftyStores$Freedom" yFR_freeBefore yFR_freeBefore) ∈ zs_tb := zs_ip 19 rfl rfl
set_option maxRecDepth 20000 in
theorem zp_20 : (Cond.selects "ThriftyStores" yTS_dropWhatIsKnown yTS_dropWhatIsKnown) ∈ zs_tb := zs_ip 20 rfl rfl
set_option maxRecDepth 20000 in
theorem zp_21 : (Cond.selects "ThriftyStores" yTS_dropWhatIsDead yTS_dropWhatIsDead) ∈ zs_tb := zs_ip 21 rfl rfl
set_option maxRecDepth 20000 in
theorem zp_22 : (Cond.selects "ThriftyStores" yTS_isInstruction yTS_isInstruction) ∈ zs_tb := zs_ip 22 rfl rfl
set_option maxRecDepth 20000 in
theorem zp_23 : (Cond.selects "ThriftyStores" yTS_needThrifty yTS_needThrifty) ∈ zs_tb := zs_ip 23 rfl rfl
set_option maxRecDepth 20000 in
theorem zp_24 : (Cond.selects "ThriftyStores" yTS_isPoint yTS_isPoint) ∈ zs_tb := zs_ip 24 rfl rfl
set_option maxRecDepth 20000 in
theorem zp_25 : (Cond.selects "ThriftyStores$Machine" yMA_step yMA_step) ∈ zs_tb := zs_ip 25 rfl rfl
set_option maxRecDepth 20000 in
theorem zp_26 : (Cond.selects "ThriftyStores$Machine" yMA_become yMA_become) ∈ zs_tb := zs_ip 26 rfl rfl
set_option maxRecDepth 20000 in
theorem zp_27 : (Cond.selects "ThriftyStores$Machine" yMA_reckon yMA_reckon) ∈ zs_tb := zs_ip 27 rfl rfl
set_option maxRecDepth 20000 in
theorem zp_28 : (Cond.selects "ThriftyStores$Machine" yMA_shift yMA_shift) ∈ zs_tb := zs_ip 28 rfl rfl
set_option maxRecDepth 20000 in
theorem zp_29 : (Cond.selects "ThriftyStores$Machine" yMA_make yMA_make) ∈ zs_tb := zs_ip 29 rfl rfl
set_option maxRecDepth 20000 in
theorem zp_30 : (Cond.selects "ThriftyStores$Machine" yMA_store yMA_store) ∈ zs_tb := zs_ip 30 rfl rfl
set_option maxRecDepth 20000 in
theorem zp_31 : (Cond.selects "ThriftyStores$Machine" yMA_tell yMA_tell) ∈ zs_tb := zs_ip 31 rfl rfl
set_option maxRecDepth 20000 in
theorem zp_32 : (Cond.selects "ThriftyStores$Machine" yMA_goTo yMA_goTo) ∈ zs_tb := zs_ip 32 rfl rfl
set_option maxRecDepth 20000 in
theorem zp_33 : (Cond.selects "ThriftyStores$Machine" yMA_decide yMA_decide) ∈ zs_tb := zs_ip 33 rfl rfl
set_option maxRecDepth 20000 in
theorem zp_34 : (Cond.selects "ThriftyStoresModel" yMO_forward yMO_forward) ∈ zs_tb := zs_ip 34 rfl rfl
set_option maxRecDepth 20000 in
theorem zp_35 : (Cond.selects "ThriftyStoresModel" yMO_find yMO_find) ∈ zs_tb := zs_ip 35 rfl rfl
set_option maxRecDepth 20000 in
theorem zp_36 : (Cond.selects "ThriftyStoresModel" yMO_findSets yMO_findSets) ∈ zs_tb := zs_ip 36 rfl rfl
set_option maxRecDepth 20000 in
theorem zp_37 : (Cond.selects "ThriftyStoresModel" yMO_moreMay yMO_moreMay) ∈ zs_tb := zs_ip 37 rfl rfl
set_option maxRecDepth 20000 in
theorem zp_38 : (Cond.selects "ThriftyStoresModel" yMO_moreFromCells yMO_moreFromCells) ∈ zs_tb := zs_ip 38 rfl rfl
set_option maxRecDepth 20000 in
theorem zp_39 : (Cond.selects "ThriftyStoresModel" yMO_moreToCells yMO_moreToCells) ∈ zs_tb := zs_ip 39 rfl rfl
set_option maxRecDepth 20000 in
theorem zp_40 : (Cond.selects "ThriftyStoresModel" yMO_findReached yMO_findReached) ∈ zs_tb := zs_ip 40 rfl rfl
set_option maxRecDepth 20000 in
theorem zp_41 : (Cond.selects "ThriftyStoresModel" yMO_next yMO_next) ∈ zs_tb := zs_ip 41 rfl rfl
set_option maxRecDepth 20000 in
theorem zp_42 : (Cond.selects "ThriftyStoresModel" yMO_findFacts yMO_findFacts) ∈ zs_tb := zs_ip 42 rfl rfl
set_option maxRecDepth 20000 in
theorem zp_43 : (Cond.selects "ThriftyStoresModel" yMO_pass yMO_pass) ∈ zs_tb := zs_ip 43 rfl rfl
set_option maxRecDepth 20000 in
theorem zp_44 : (Cond.selects "ThriftyStoresModel" yMO_sets yMO_sets) ∈ zs_tb := zs_ip 44 rfl rfl
set_option maxRecDepth 20000 in
theorem zp_45 : (Cond.selects "ThriftyStoresModel" yMO_held yMO_held) ∈ zs_tb := zs_ip 45 rfl rfl
set_option maxRecDepth 20000 in
theorem zp_46 : (Cond.selects "ThriftyStoresModel" yMO_meet yMO_meet) ∈ zs_tb := zs_ip 46 rfl rfl
set_option maxRecDepth 20000 in
theorem zp_47 : (Cond.selects "ThriftyStoresModel" yMO_one yMO_one) ∈ zs_tb := zs_ip 47 rfl rfl
set_option maxRecDepth 20000 in
theorem zp_48 : (Cond.selects "ThriftyStoresModel" yMO_passMove yMO_passMove) ∈ zs_tb := zs_ip 48 rfl rfl
set_option maxRecDepth 20000 in
theorem zp_49 : (Cond.selects "ThriftyStoresModel" yMO_tie yMO_tie) ∈ zs_tb := zs_ip 49 rfl rfl
set_option maxRecDepth 20000 in
theorem zp_50 : (Cond.selects "ThriftyStoresModel" yMO_passLoad yMO_passLoad) ∈ zs_tb := zs_ip 50 rfl rfl
set_option maxRecDepth 20000 in
theorem zp_51 : (Cond.selects "ThriftyStoresModel" yMO_passStore yMO_passStore) ∈ zs_tb := zs_ip 51 rfl rfl
set_option maxRecDepth 20000 in
theorem zp_52 : (Cond.selects "ThriftyStoresModel" yMO_meets yMO_meets) ∈ zs_tb := zs_ip 52 rfl rfl
set_option maxRecDepth 20000 in
theorem zp_53 : (Cond.selects "ThriftyStoresModel" yMO_findFree yMO_findFree) ∈ zs_tb := zs_ip 53 rfl rfl
set_option maxRecDepth 20000 in
theorem zp_54 : (Cond.selects "ThriftyStoresModel" yMO_freeBefore yMO_freeBefore) ∈ zs_tb := zs_ip 54 rfl rfl
set_option maxRecDepth 20000 in
theorem zp_55 : (Cond.selects "ThriftyStoresModel" yMO_change yMO_change) ∈ zs_tb := zs_ip 55 rfl rfl
set_option maxRecDepth 20000 in
theorem zp_56 : (Cond.selects "ThriftyStoresModel" yMO_dead yMO_dead) ∈ zs_tb := zs_ip 56 rfl rfl
set_option maxRecDepth 20000 in
theorem zp_57 : (Cond.selects "ThriftyStoresModel" yMO_no yMO_no) ∈ zs_tb := zs_ip 57 rfl rfl
set_option maxRecDepth 20000 in
theorem zp_58 : (Cond.selects "ThriftyStoresModel" yMO_put yMO_put) ∈ zs_tb := zs_ip 58 rfl rfl
set_option maxRecDepth 20000 in
theorem zp_59 : (Cond.selects "ThriftyStoresModel" yMO_step yMO_step) ∈ zs_tb := zs_ip 59 rfl rfl
set_option maxRecDepth 20000 in
theorem zp_60 : (Cond.selects "ThriftyStoresModel" yMO_make yMO_make) ∈ zs_tb := zs_ip 60 rfl rfl
set_option maxRecDepth 20000 in
theorem zp_61 : (Cond.selects "ThriftyStoresModel" yMO_printNumber yMO_printNumber) ∈ zs_tb := zs_ip 61 rfl rfl
theorem zi_TS : ∀ w ∈ u_ws "ThriftyStores" TTS 9, w ∈ zs_tb := by decide +kernel
theorem zi_PR : ∀ w ∈ u_ws "ThriftyStores$Program" TPR 5, w ∈ zs_tb := by decide +kernel
theorem zi_AD : ∀ w ∈ u_ws "ThriftyStores$Addresses" TAD 6, w ∈ zs_tb := by decide +kernel
theorem zi_FA : ∀ w ∈ u_ws "ThriftyStores$Facts" TFA 3, w ∈ zs_tb := by decide +kernel
theorem zi_KN : ∀ w ∈ u_ws "ThriftyStores$Knowledge" TKN 4, w ∈ zs_tb := by decide +kernel
theorem zi_FR : ∀ w ∈ u_ws "ThriftyStores$Freedom" TFR 1, w ∈ zs_tb := by decide +kernel
theorem zi_MA : ∀ w ∈ u_ws "ThriftyStores$Machine" TMA 11, w ∈ zs_tb := by decide +kernel
theorem zi_MO : ∀ w ∈ u_ws "ThriftyStoresModel" TMO 31, w ∈ zs_tb := by decide +kernel
