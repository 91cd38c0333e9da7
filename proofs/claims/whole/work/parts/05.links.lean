/-! THE WORDS BY THEIR PLACES; CLASSES, FIELDS, METHODS (by program) -/
theorem w_0 : Cond.initialized RL ∈ lwG := lwG_of (lwT_1 (List.mem_of_getElem? (i := 0) (by decide +kernel))) rfl
theorem w_1 : Cond.initialized RX8 ∈ lwG := lwG_of (lwT_1 (List.mem_of_getElem? (i := 1) (by decide +kernel))) rfl
theorem w_2 : Cond.initialized RX3 ∈ lwG := lwG_of (lwT_1 (List.mem_of_getElem? (i := 2) (by decide +kernel))) rfl
theorem w_3 : Cond.initialized RX4 ∈ lwG := lwG_of (lwT_1 (List.mem_of_getElem? (i := 3) (by decide +kernel))) rfl
theorem w_4 : Cond.initialized RX6 ∈ lwG := lwG_of (lwT_1 (List.mem_of_getElem? (i := 4) (by decide +kernel))) rfl
theorem w_5 : Cond.initialized RX7 ∈ lwG := lwG_of (lwT_1 (List.mem_of_getElem? (i := 5) (by decide +kernel))) rfl
theorem w_6 : Cond.initialized RX2 ∈ lwG := lwG_of (lwT_1 (List.mem_of_getElem? (i := 6) (by decide +kernel))) rfl
theorem w_7 : Cond.initialized RX0 ∈ lwG := lwG_of (lwT_1 (List.mem_of_getElem? (i := 7) (by decide +kernel))) rfl
theorem w_8 : Cond.initialized RX1 ∈ lwG := lwG_of (lwT_1 (List.mem_of_getElem? (i := 8) (by decide +kernel))) rfl
theorem w_9 : Cond.initialized RX5 ∈ lwG := lwG_of (lwT_1 (List.mem_of_getElem? (i := 9) (by decide +kernel))) rfl
theorem w_10 : Cond.initialized RX9 ∈ lwG := lwG_of (lwT_1 (List.mem_of_getElem? (i := 10) (by decide +kernel))) rfl
theorem w_11 : Cond.initialized RJ9 ∈ lwG := lwG_of (lwT_1 (List.mem_of_getElem? (i := 11) (by decide +kernel))) rfl
theorem w_12 : Cond.initialized RJ10 ∈ lwG := lwG_of (lwT_1 (List.mem_of_getElem? (i := 12) (by decide +kernel))) rfl
theorem w_13 : Cond.initialized RJ6 ∈ lwG := lwG_of (lwT_1 (List.mem_of_getElem? (i := 13) (by decide +kernel))) rfl
theorem w_14 : Cond.classLink RL 7 RX8 ∈ lwG := lwG_of (lwT_1 (List.mem_of_getElem? (i := 14) (by decide +kernel))) rfl
theorem w_15 : Cond.instantiable RX8 7 ∈ lwG := lwG_of (lwT_1 (List.mem_of_getElem? (i := 15) (by decide +kernel))) rfl
theorem w_16 : Cond.methodLink RL 9 yX8_init ∈ lwG := lwG_of (lwT_1 (List.mem_of_getElem? (i := 16) (by decide +kernel))) rfl
theorem w_17 : Cond.instanceMethod yX8_init ∈ lwG := lwG_of (lwT_1 (List.mem_of_getElem? (i := 17) (by decide +kernel))) rfl
theorem w_18 : Cond.code yX8_init cX8_init 1 (none) ∈ lwG := lwG_of (lwT_1 (List.mem_of_getElem? (i := 18) (by decide +kernel))) rfl
theorem w_19 : Cond.methodLink RX8 1 Lib.objectInit ∈ lwG := lwG_of (lwT_1 (List.mem_of_getElem? (i := 19) (by decide +kernel))) rfl
theorem w_20 : Cond.instanceMethod Lib.objectInit ∈ lwG := lwG_of (lwT_1 (List.mem_of_getElem? (i := 20) (by decide +kernel))) rfl
theorem w_21 : Cond.code Lib.objectInit ⟨#[0xb1]⟩ 1 none ∈ lwG := lwG_of (lwT_1 (List.mem_of_getElem? (i := 21) (by decide +kernel))) rfl
theorem w_22 : Cond.classLink RX8 7 RX3 ∈ lwG := lwG_of (lwT_1 (List.mem_of_getElem? (i := 22) (by decide +kernel))) rfl
theorem w_23 : Cond.instantiable RX3 16 ∈ lwG := lwG_of (lwT_1 (List.mem_of_getElem? (i := 23) (by decide +kernel))) rfl
theorem w_24 : Cond.methodLink RX8 9 yX3_init ∈ lwG := lwG_of (lwT_1 (List.mem_of_getElem? (i := 24) (by decide +kernel))) rfl
theorem w_25 : Cond.instanceMethod yX3_init ∈ lwG := lwG_of (lwT_1 (List.mem_of_getElem? (i := 25) (by decide +kernel))) rfl
theorem w_26 : Cond.code yX3_init cX3_init 2 (none) ∈ lwG := lwG_of (lwT_1 (List.mem_of_getElem? (i := 26) (by decide +kernel))) rfl
theorem w_27 : Cond.methodLink RX3 3 Lib.objectInit ∈ lwG := lwG_of (lwT_1 (List.mem_of_getElem? (i := 27) (by decide +kernel))) rfl
theorem w_28 : Cond.classLink RX3 9 RX4 ∈ lwG := lwG_of (lwT_1 (List.mem_of_getElem? (i := 28) (by decide +kernel))) rfl
theorem w_30 : Cond.classLink RX3 17 RX7 ∈ lwG := lwG_of (lwT_1 (List.mem_of_getElem? (i := 30) (by decide +kernel))) rfl
theorem w_32 : Cond.classLink RX3 23 RX2 ∈ lwG := lwG_of (lwT_1 (List.mem_of_getElem? (i := 32) (by decide +kernel))) rfl
theorem w_34 : Cond.classLink RX3 29 RX0 ∈ lwG := lwG_of (lwT_1 (List.mem_of_getElem? (i := 34) (by decide +kernel))) rfl
theorem w_36 : Cond.instantiable RX4 3 ∈ lwG := lwG_of (lwT_1 (List.mem_of_getElem? (i := 36) (by decide +kernel))) rfl
theorem w_37 : Cond.methodLink RX3 45 yX4_init ∈ lwG := lwG_of (lwT_1 (List.mem_of_getElem? (i := 37) (by decide +kernel))) rfl
theorem w_38 : Cond.instanceMethod yX4_init ∈ lwG := lwG_of (lwT_1 (List.mem_of_getElem? (i := 38) (by decide +kernel))) rfl
theorem w_39 : Cond.code yX4_init cX4_init 2 (none) ∈ lwG := lwG_of (lwT_1 (List.mem_of_getElem? (i := 39) (by decide +kernel))) rfl
theorem w_40 : Cond.methodLink RX4 3 Lib.objectInit ∈ lwG := lwG_of (lwT_1 (List.mem_of_getElem? (i := 40) (by decide +kernel))) rfl
theorem w_41 : Cond.classLink RX4 9 RX6 ∈ lwG := lwG_of (lwT_1 (List.mem_of_getElem? (i := 41) (by decide +kernel))) rfl
theorem w_43 : Cond.instantiable RX6 4 ∈ lwG := lwG_of (lwT_1 (List.mem_of_getElem? (i := 43) (by decide +kernel))) rfl
theorem w_45 : Cond.instanceMethod yX6_init ∈ lwG := lwG_of (lwT_1 (List.mem_of_getElem? (i := 45) (by decide +kernel))) rfl
theorem w_46 : Cond.code yX6_init cX6_init 1 (none) ∈ lwG := lwG_of (lwT_1 (List.mem_of_getElem? (i := 46) (by decide +kernel))) rfl
theorem w_47 : Cond.methodLink RX6 1 Lib.objectInit ∈ lwG := lwG_of (lwT_1 (List.mem_of_getElem? (i := 47) (by decide +kernel))) rfl
theorem w_48 : Cond.fieldLink RX6 7 "BatchCellars$Stage" "kind" "I" ∈ lwG := lwG_of (lwT_1 (List.mem_of_getElem? (i := 48) (by decide +kernel))) rfl
theorem w_49 : Cond.fieldLink RX3 128 "BatchCellars$Stage" "kind" "I" ∈ lwG := lwG_of (lwT_1 (List.mem_of_getElem? (i := 49) (by decide +kernel))) rfl
theorem w_50 : Cond.fieldLink RX6 13 "BatchCellars$Stage" "work" "I" ∈ lwG := lwG_of (lwT_1 (List.mem_of_getElem? (i := 50) (by decide +kernel))) rfl
theorem w_51 : Cond.fieldLink RX0 50 "BatchCellars$Stage" "work" "I" ∈ lwG := lwG_of (lwT_1 (List.mem_of_getElem? (i := 51) (by decide +kernel))) rfl
theorem w_52 : Cond.fieldLink RX3 133 "BatchCellars$Stage" "work" "I" ∈ lwG := lwG_of (lwT_1 (List.mem_of_getElem? (i := 52) (by decide +kernel))) rfl
theorem w_53 : Cond.fieldLink RX6 16 "BatchCellars$Stage" "least" "I" ∈ lwG := lwG_of (lwT_1 (List.mem_of_getElem? (i := 53) (by decide +kernel))) rfl
theorem w_54 : Cond.fieldLink RX0 55 "BatchCellars$Stage" "least" "I" ∈ lwG := lwG_of (lwT_1 (List.mem_of_getElem? (i := 54) (by decide +kernel))) rfl
theorem w_55 : Cond.fieldLink RX3 136 "BatchCellars$Stage" "least" "I" ∈ lwG := lwG_of (lwT_1 (List.mem_of_getElem? (i := 55) (by decide +kernel))) rfl
theorem w_56 : Cond.fieldLink RX6 19 "BatchCellars$Stage" "most" "I" ∈ lwG := lwG_of (lwT_1 (List.mem_of_getElem? (i := 56) (by decide +kernel))) rfl
theorem w_57 : Cond.fieldLink RX0 58 "BatchCellars$Stage" "most" "I" ∈ lwG := lwG_of (lwT_1 (List.mem_of_getElem? (i := 57) (by decide +kernel))) rfl
theorem w_58 : Cond.fieldLink RX3 139 "BatchCellars$Stage" "most" "I" ∈ lwG := lwG_of (lwT_1 (List.mem_of_getElem? (i := 58) (by decide +kernel))) rfl
theorem w_68 : Cond.arrayClass .int ∈ lwG := lwG_of (lwT_1 (List.mem_of_getElem? (i := 68) (by decide +kernel))) rfl
theorem w_69 : Cond.fieldLink RX4 18 "BatchCellars$Recipe" "product" "I" ∈ lwG := lwG_of (lwT_1 (List.mem_of_getElem? (i := 69) (by decide +kernel))) rfl
theorem w_70 : Cond.fieldLink RX8 73 "BatchCellars$Recipe" "product" "I" ∈ lwG := lwG_of (lwT_1 (List.mem_of_getElem? (i := 70) (by decide +kernel))) rfl
theorem w_71 : Cond.fieldLink RX3 114 "BatchCellars$Recipe" "product" "I" ∈ lwG := lwG_of (lwT_1 (List.mem_of_getElem? (i := 71) (by decide +kernel))) rfl
theorem w_72 : Cond.fieldLink RX4 22 "BatchCellars$Recipe" "stageCount" "I" ∈ lwG := lwG_of (lwT_1 (List.mem_of_getElem? (i := 72) (by decide +kernel))) rfl
theorem w_73 : Cond.fieldLink RX3 117 "BatchCellars$Recipe" "stageCount" "I" ∈ lwG := lwG_of (lwT_1 (List.mem_of_getElem? (i := 73) (by decide +kernel))) rfl
theorem w_74 : Cond.fieldLink RX4 11 "BatchCellars$Recipe" "stages" "[LBatchCellars$Stage;" ∈ lwG := lwG_of (lwT_1 (List.mem_of_getElem? (i := 74) (by decide +kernel))) rfl
theorem w_82 : Cond.instantiable RX7 5 ∈ lwG := lwG_of (lwT_1 (List.mem_of_getElem? (i := 82) (by decide +kernel))) rfl
theorem w_84 : Cond.instanceMethod yX7_init ∈ lwG := lwG_of (lwT_1 (List.mem_of_getElem? (i := 84) (by decide +kernel))) rfl
theorem w_85 : Cond.code yX7_init cX7_init 1 (none) ∈ lwG := lwG_of (lwT_1 (List.mem_of_getElem? (i := 85) (by decide +kernel))) rfl
theorem w_86 : Cond.methodLink RX7 3 Lib.objectInit ∈ lwG := lwG_of (lwT_1 (List.mem_of_getElem? (i := 86) (by decide +kernel))) rfl
theorem w_87 : Cond.fieldLink RX7 18 "BatchCellars$Vessel" "kind" "I" ∈ lwG := lwG_of (lwT_1 (List.mem_of_getElem? (i := 87) (by decide +kernel))) rfl
theorem w_88 : Cond.fieldLink RX3 149 "BatchCellars$Vessel" "kind" "I" ∈ lwG := lwG_of (lwT_1 (List.mem_of_getElem? (i := 88) (by decide +kernel))) rfl
theorem w_89 : Cond.fieldLink RX7 21 "BatchCellars$Vessel" "size" "I" ∈ lwG := lwG_of (lwT_1 (List.mem_of_getElem? (i := 89) (by decide +kernel))) rfl
theorem w_90 : Cond.fieldLink RX3 150 "BatchCellars$Vessel" "size" "I" ∈ lwG := lwG_of (lwT_1 (List.mem_of_getElem? (i := 90) (by decide +kernel))) rfl
theorem w_91 : Cond.fieldLink RX7 9 "BatchCellars$Vessel" "batch" "I" ∈ lwG := lwG_of (lwT_1 (List.mem_of_getElem? (i := 91) (by decide +kernel))) rfl
theorem w_92 : Cond.fieldLink RX3 199 "BatchCellars$Vessel" "batch" "I" ∈ lwG := lwG_of (lwT_1 (List.mem_of_getElem? (i := 92) (by decide +kernel))) rfl
theorem w_93 : Cond.fieldLink RX7 15 "BatchCellars$Vessel" "lastProduct" "I" ∈ lwG := lwG_of (lwT_1 (List.mem_of_getElem? (i := 93) (by decide +kernel))) rfl
theorem w_94 : Cond.fieldLink RX3 202 "BatchCellars$Vessel" "lastProduct" "I" ∈ lwG := lwG_of (lwT_1 (List.mem_of_getElem? (i := 94) (by decide +kernel))) rfl
theorem w_95 : Cond.fieldLink RX7 24 "BatchCellars$Vessel" "cleaned" "I" ∈ lwG := lwG_of (lwT_1 (List.mem_of_getElem? (i := 95) (by decide +kernel))) rfl
theorem w_96 : Cond.fieldLink RX3 196 "BatchCellars$Vessel" "cleaned" "I" ∈ lwG := lwG_of (lwT_1 (List.mem_of_getElem? (i := 96) (by decide +kernel))) rfl
theorem w_108 : Cond.instantiable RX2 4 ∈ lwG := lwG_of (lwT_1 (List.mem_of_getElem? (i := 108) (by decide +kernel))) rfl
theorem w_110 : Cond.instanceMethod yX2_init ∈ lwG := lwG_of (lwT_1 (List.mem_of_getElem? (i := 110) (by decide +kernel))) rfl
theorem w_111 : Cond.code yX2_init cX2_init 1 (none) ∈ lwG := lwG_of (lwT_1 (List.mem_of_getElem? (i := 111) (by decide +kernel))) rfl
theorem w_112 : Cond.methodLink RX2 1 Lib.objectInit ∈ lwG := lwG_of (lwT_1 (List.mem_of_getElem? (i := 112) (by decide +kernel))) rfl
theorem w_113 : Cond.fieldLink RX2 7 "BatchCellars$Line" "vessels" "I" ∈ lwG := lwG_of (lwT_1 (List.mem_of_getElem? (i := 113) (by decide +kernel))) rfl
theorem w_114 : Cond.fieldLink RX3 163 "BatchCellars$Line" "vessels" "I" ∈ lwG := lwG_of (lwT_1 (List.mem_of_getElem? (i := 114) (by decide +kernel))) rfl
theorem w_115 : Cond.fieldLink RX2 13 "BatchCellars$Line" "speed" "I" ∈ lwG := lwG_of (lwT_1 (List.mem_of_getElem? (i := 115) (by decide +kernel))) rfl
theorem w_116 : Cond.fieldLink RX3 165 "BatchCellars$Line" "speed" "I" ∈ lwG := lwG_of (lwT_1 (List.mem_of_getElem? (i := 116) (by decide +kernel))) rfl
theorem w_117 : Cond.fieldLink RX2 16 "BatchCellars$Line" "busyUntil" "I" ∈ lwG := lwG_of (lwT_1 (List.mem_of_getElem? (i := 117) (by decide +kernel))) rfl
theorem w_118 : Cond.fieldLink RX3 227 "BatchCellars$Line" "busyUntil" "I" ∈ lwG := lwG_of (lwT_1 (List.mem_of_getElem? (i := 118) (by decide +kernel))) rfl
theorem w_119 : Cond.fieldLink RX2 19 "BatchCellars$Line" "carried" "I" ∈ lwG := lwG_of (lwT_1 (List.mem_of_getElem? (i := 119) (by decide +kernel))) rfl
theorem w_120 : Cond.fieldLink RX3 230 "BatchCellars$Line" "carried" "I" ∈ lwG := lwG_of (lwT_1 (List.mem_of_getElem? (i := 120) (by decide +kernel))) rfl
theorem w_130 : Cond.instantiable RX0 13 ∈ lwG := lwG_of (lwT_1 (List.mem_of_getElem? (i := 130) (by decide +kernel))) rfl
theorem w_132 : Cond.instanceMethod yX0_init ∈ lwG := lwG_of (lwT_1 (List.mem_of_getElem? (i := 132) (by decide +kernel))) rfl
theorem w_133 : Cond.code yX0_init cX0_init 1 (none) ∈ lwG := lwG_of (lwT_1 (List.mem_of_getElem? (i := 133) (by decide +kernel))) rfl
theorem w_134 : Cond.methodLink RX0 1 Lib.objectInit ∈ lwG := lwG_of (lwT_1 (List.mem_of_getElem? (i := 134) (by decide +kernel))) rfl
theorem w_135 : Cond.fieldLink RX0 7 "BatchCellars$Batch" "there" "Z" ∈ lwG := lwG_of (lwT_1 (List.mem_of_getElem? (i := 135) (by decide +kernel))) rfl
theorem w_136 : Cond.fieldLink RX3 102 "BatchCellars$Batch" "there" "Z" ∈ lwG := lwG_of (lwT_1 (List.mem_of_getElem? (i := 136) (by decide +kernel))) rfl
theorem w_137 : Cond.fieldLink RX0 13 "BatchCellars$Batch" "recipe" "I" ∈ lwG := lwG_of (lwT_1 (List.mem_of_getElem? (i := 137) (by decide +kernel))) rfl
theorem w_138 : Cond.fieldLink RX3 142 "BatchCellars$Batch" "recipe" "I" ∈ lwG := lwG_of (lwT_1 (List.mem_of_getElem? (i := 138) (by decide +kernel))) rfl
theorem w_139 : Cond.fieldLink RX0 17 "BatchCellars$Batch" "product" "I" ∈ lwG := lwG_of (lwT_1 (List.mem_of_getElem? (i := 139) (by decide +kernel))) rfl
theorem w_140 : Cond.fieldLink RX3 220 "BatchCellars$Batch" "product" "I" ∈ lwG := lwG_of (lwT_1 (List.mem_of_getElem? (i := 140) (by decide +kernel))) rfl
theorem w_141 : Cond.fieldLink RX0 20 "BatchCellars$Batch" "firstMass" "I" ∈ lwG := lwG_of (lwT_1 (List.mem_of_getElem? (i := 141) (by decide +kernel))) rfl
theorem w_142 : Cond.fieldLink RX3 261 "BatchCellars$Batch" "firstMass" "I" ∈ lwG := lwG_of (lwT_1 (List.mem_of_getElem? (i := 142) (by decide +kernel))) rfl
theorem w_143 : Cond.fieldLink RX0 23 "BatchCellars$Batch" "mass" "I" ∈ lwG := lwG_of (lwT_1 (List.mem_of_getElem? (i := 143) (by decide +kernel))) rfl
theorem w_144 : Cond.fieldLink RX3 221 "BatchCellars$Batch" "mass" "I" ∈ lwG := lwG_of (lwT_1 (List.mem_of_getElem? (i := 144) (by decide +kernel))) rfl
theorem w_145 : Cond.fieldLink RX0 26 "BatchCellars$Batch" "blended" "I" ∈ lwG := lwG_of (lwT_1 (List.mem_of_getElem? (i := 145) (by decide +kernel))) rfl
theorem w_146 : Cond.fieldLink RX3 264 "BatchCellars$Batch" "blended" "I" ∈ lwG := lwG_of (lwT_1 (List.mem_of_getElem? (i := 146) (by decide +kernel))) rfl
theorem w_147 : Cond.fieldLink RX0 29 "BatchCellars$Batch" "spoiled" "Z" ∈ lwG := lwG_of (lwT_1 (List.mem_of_getElem? (i := 147) (by decide +kernel))) rfl
theorem w_148 : Cond.fieldLink RX3 251 "BatchCellars$Batch" "spoiled" "Z" ∈ lwG := lwG_of (lwT_1 (List.mem_of_getElem? (i := 148) (by decide +kernel))) rfl
theorem w_149 : Cond.fieldLink RX0 32 "BatchCellars$Batch" "stage" "I" ∈ lwG := lwG_of (lwT_1 (List.mem_of_getElem? (i := 149) (by decide +kernel))) rfl
theorem w_150 : Cond.fieldLink RX3 236 "BatchCellars$Batch" "stage" "I" ∈ lwG := lwG_of (lwT_1 (List.mem_of_getElem? (i := 150) (by decide +kernel))) rfl
theorem w_151 : Cond.fieldLink RX0 35 "BatchCellars$Batch" "vessel" "I" ∈ lwG := lwG_of (lwT_1 (List.mem_of_getElem? (i := 151) (by decide +kernel))) rfl
theorem w_152 : Cond.fieldLink RX3 245 "BatchCellars$Batch" "vessel" "I" ∈ lwG := lwG_of (lwT_1 (List.mem_of_getElem? (i := 152) (by decide +kernel))) rfl
theorem w_153 : Cond.fieldLink RX0 38 "BatchCellars$Batch" "workBegins" "I" ∈ lwG := lwG_of (lwT_1 (List.mem_of_getElem? (i := 153) (by decide +kernel))) rfl
theorem w_154 : Cond.fieldLink RX0 41 "BatchCellars$Batch" "workEnds" "I" ∈ lwG := lwG_of (lwT_1 (List.mem_of_getElem? (i := 154) (by decide +kernel))) rfl
theorem w_155 : Cond.fieldLink RX0 44 "BatchCellars$Batch" "ripeFrom" "I" ∈ lwG := lwG_of (lwT_1 (List.mem_of_getElem? (i := 155) (by decide +kernel))) rfl
theorem w_156 : Cond.fieldLink RX3 279 "BatchCellars$Batch" "ripeFrom" "I" ∈ lwG := lwG_of (lwT_1 (List.mem_of_getElem? (i := 156) (by decide +kernel))) rfl
theorem w_157 : Cond.fieldLink RX0 47 "BatchCellars$Batch" "goodUntil" "I" ∈ lwG := lwG_of (lwT_1 (List.mem_of_getElem? (i := 157) (by decide +kernel))) rfl
theorem w_158 : Cond.fieldLink RX3 267 "BatchCellars$Batch" "goodUntil" "I" ∈ lwG := lwG_of (lwT_1 (List.mem_of_getElem? (i := 158) (by decide +kernel))) rfl
theorem w_187 : Cond.static yX8_putEntry ∈ lwG := lwG_of (lwT_1 (List.mem_of_getElem? (i := 187) (by decide +kernel))) rfl
theorem w_188 : Cond.code yX8_putEntry cX8_putEntry 3 (none) ∈ lwG := lwG_of (lwT_1 (List.mem_of_getElem? (i := 188) (by decide +kernel))) rfl
theorem w_189 : Cond.fieldLink RX3 11 "BatchCellars$Plant" "recipes" "[LBatchCellars$Recipe;" ∈ lwG := lwG_of (lwT_1 (List.mem_of_getElem? (i := 189) (by decide +kernel))) rfl
theorem w_190 : Cond.fieldLink RX3 61 "BatchCellars$Plant" "recipeCount" "I" ∈ lwG := lwG_of (lwT_1 (List.mem_of_getElem? (i := 190) (by decide +kernel))) rfl
theorem w_191 : Cond.fieldLink RX3 19 "BatchCellars$Plant" "vessels" "[LBatchCellars$Vessel;" ∈ lwG := lwG_of (lwT_1 (List.mem_of_getElem? (i := 191) (by decide +kernel))) rfl
theorem w_192 : Cond.fieldLink RX3 65 "BatchCellars$Plant" "vesselCount" "I" ∈ lwG := lwG_of (lwT_1 (List.mem_of_getElem? (i := 192) (by decide +kernel))) rfl
theorem w_193 : Cond.fieldLink RX3 25 "BatchCellars$Plant" "lines" "[LBatchCellars$Line;" ∈ lwG := lwG_of (lwT_1 (List.mem_of_getElem? (i := 193) (by decide +kernel))) rfl
theorem w_194 : Cond.fieldLink RX3 68 "BatchCellars$Plant" "lineCount" "I" ∈ lwG := lwG_of (lwT_1 (List.mem_of_getElem? (i := 194) (by decide +kernel))) rfl
theorem w_195 : Cond.fieldLink RX3 31 "BatchCellars$Plant" "batches" "[LBatchCellars$Batch;" ∈ lwG := lwG_of (lwT_1 (List.mem_of_getElem? (i := 195) (by decide +kernel))) rfl
theorem w_196 : Cond.fieldLink RX3 35 "BatchCellars$Plant" "cleaningTable" "[I" ∈ lwG := lwG_of (lwT_1 (List.mem_of_getElem? (i := 196) (by decide +kernel))) rfl
theorem w_197 : Cond.fieldLink RX3 39 "BatchCellars$Plant" "settings" "[I" ∈ lwG := lwG_of (lwT_1 (List.mem_of_getElem? (i := 197) (by decide +kernel))) rfl
theorem w_198 : Cond.fieldLink RX8 134 "BatchCellars$Plant" "settings" "[I" ∈ lwG := lwG_of (lwT_1 (List.mem_of_getElem? (i := 198) (by decide +kernel))) rfl
theorem w_199 : Cond.fieldLink RX3 42 "BatchCellars$Plant" "offGrade" "[I" ∈ lwG := lwG_of (lwT_1 (List.mem_of_getElem? (i := 199) (by decide +kernel))) rfl
theorem w_200 : Cond.fieldLink RX8 142 "BatchCellars$Plant" "offGrade" "[I" ∈ lwG := lwG_of (lwT_1 (List.mem_of_getElem? (i := 200) (by decide +kernel))) rfl
theorem w_201 : Cond.fieldLink RX3 71 "BatchCellars$Plant" "time" "I" ∈ lwG := lwG_of (lwT_1 (List.mem_of_getElem? (i := 201) (by decide +kernel))) rfl
theorem w_202 : Cond.fieldLink RX8 107 "BatchCellars$Plant" "time" "I" ∈ lwG := lwG_of (lwT_1 (List.mem_of_getElem? (i := 202) (by decide +kernel))) rfl
theorem w_203 : Cond.fieldLink RX3 74 "BatchCellars$Plant" "begunMass" "I" ∈ lwG := lwG_of (lwT_1 (List.mem_of_getElem? (i := 203) (by decide +kernel))) rfl
theorem w_204 : Cond.fieldLink RX3 77 "BatchCellars$Plant" "madeMass" "I" ∈ lwG := lwG_of (lwT_1 (List.mem_of_getElem? (i := 204) (by decide +kernel))) rfl
theorem w_205 : Cond.fieldLink RX3 80 "BatchCellars$Plant" "lostMass" "I" ∈ lwG := lwG_of (lwT_1 (List.mem_of_getElem? (i := 205) (by decide +kernel))) rfl
theorem w_206 : Cond.fieldLink RX3 83 "BatchCellars$Plant" "madeBatches" "I" ∈ lwG := lwG_of (lwT_1 (List.mem_of_getElem? (i := 206) (by decide +kernel))) rfl
theorem w_207 : Cond.fieldLink RX3 86 "BatchCellars$Plant" "spoiledBatches" "I" ∈ lwG := lwG_of (lwT_1 (List.mem_of_getElem? (i := 207) (by decide +kernel))) rfl
theorem w_241 : Cond.classLink RX8 19 RX1 ∈ lwG := lwG_of (lwT_2 (List.mem_of_getElem? (i := 1) (by decide +kernel))) rfl
theorem w_242 : Cond.instantiable RX1 3 ∈ lwG := lwG_of (lwT_2 (List.mem_of_getElem? (i := 2) (by decide +kernel))) rfl
theorem w_243 : Cond.methodLink RX8 21 yX1_init ∈ lwG := lwG_of (lwT_2 (List.mem_of_getElem? (i := 3) (by decide +kernel))) rfl
theorem w_244 : Cond.instanceMethod yX1_init ∈ lwG := lwG_of (lwT_2 (List.mem_of_getElem? (i := 4) (by decide +kernel))) rfl
theorem w_245 : Cond.code yX1_init cX1_init 2 (none) ∈ lwG := lwG_of (lwT_2 (List.mem_of_getElem? (i := 5) (by decide +kernel))) rfl
theorem w_246 : Cond.methodLink RX1 3 Lib.objectInit ∈ lwG := lwG_of (lwT_2 (List.mem_of_getElem? (i := 6) (by decide +kernel))) rfl
theorem w_247 : Cond.classLink RX1 9 RX3 ∈ lwG := lwG_of (lwT_2 (List.mem_of_getElem? (i := 7) (by decide +kernel))) rfl
theorem w_249 : Cond.methodLink RX1 17 yX3_init ∈ lwG := lwG_of (lwT_2 (List.mem_of_getElem? (i := 9) (by decide +kernel))) rfl
theorem w_250 : Cond.fieldLink RX1 11 "BatchCellars$History" "rows" "[LBatchCellars$Plant;" ∈ lwG := lwG_of (lwT_2 (List.mem_of_getElem? (i := 10) (by decide +kernel))) rfl
theorem w_251 : Cond.fieldLink RX1 18 "BatchCellars$History" "open" "I" ∈ lwG := lwG_of (lwT_2 (List.mem_of_getElem? (i := 11) (by decide +kernel))) rfl
theorem w_252 : Cond.fieldLink RX1 26 "BatchCellars$History" "states" "I" ∈ lwG := lwG_of (lwT_2 (List.mem_of_getElem? (i := 12) (by decide +kernel))) rfl
theorem w_253 : Cond.fieldLink RX8 128 "BatchCellars$History" "states" "I" ∈ lwG := lwG_of (lwT_2 (List.mem_of_getElem? (i := 13) (by decide +kernel))) rfl
theorem w_261 : Cond.classLink RX8 26 RX5 ∈ lwG := lwG_of (lwT_2 (List.mem_of_getElem? (i := 21) (by decide +kernel))) rfl
theorem w_262 : Cond.instantiable RX5 5 ∈ lwG := lwG_of (lwT_2 (List.mem_of_getElem? (i := 22) (by decide +kernel))) rfl
theorem w_264 : Cond.instanceMethod yX5_init ∈ lwG := lwG_of (lwT_2 (List.mem_of_getElem? (i := 24) (by decide +kernel))) rfl
theorem w_265 : Cond.code yX5_init cX5_init 1 (none) ∈ lwG := lwG_of (lwT_2 (List.mem_of_getElem? (i := 25) (by decide +kernel))) rfl
theorem w_266 : Cond.methodLink RX5 3 Lib.objectInit ∈ lwG := lwG_of (lwT_2 (List.mem_of_getElem? (i := 26) (by decide +kernel))) rfl
theorem w_267 : Cond.fieldLink RX5 9 "BatchCellars$Script" "signs" "[C" ∈ lwG := lwG_of (lwT_2 (List.mem_of_getElem? (i := 27) (by decide +kernel))) rfl
theorem w_268 : Cond.fieldLink RX5 23 "BatchCellars$Script" "length" "I" ∈ lwG := lwG_of (lwT_2 (List.mem_of_getElem? (i := 28) (by decide +kernel))) rfl
theorem w_269 : Cond.fieldLink RX8 131 "BatchCellars$Script" "length" "I" ∈ lwG := lwG_of (lwT_2 (List.mem_of_getElem? (i := 29) (by decide +kernel))) rfl
theorem w_270 : Cond.fieldLink RX5 31 "BatchCellars$Script" "letter" "C" ∈ lwG := lwG_of (lwT_2 (List.mem_of_getElem? (i := 30) (by decide +kernel))) rfl
theorem w_271 : Cond.fieldLink RX8 204 "BatchCellars$Script" "letter" "C" ∈ lwG := lwG_of (lwT_2 (List.mem_of_getElem? (i := 31) (by decide +kernel))) rfl
theorem w_272 : Cond.fieldLink RX5 15 "BatchCellars$Script" "numbers" "[I" ∈ lwG := lwG_of (lwT_2 (List.mem_of_getElem? (i := 32) (by decide +kernel))) rfl
theorem w_273 : Cond.fieldLink RX8 201 "BatchCellars$Script" "numbers" "[I" ∈ lwG := lwG_of (lwT_2 (List.mem_of_getElem? (i := 33) (by decide +kernel))) rfl
theorem w_274 : Cond.fieldLink RX5 39 "BatchCellars$Script" "behind" "I" ∈ lwG := lwG_of (lwT_2 (List.mem_of_getElem? (i := 34) (by decide +kernel))) rfl
theorem w_275 : Cond.fieldLink RX8 198 "BatchCellars$Script" "behind" "I" ∈ lwG := lwG_of (lwT_2 (List.mem_of_getElem? (i := 35) (by decide +kernel))) rfl
theorem w_287 : Cond.arrayClass .char ∈ lwG := lwG_of (lwT_2 (List.mem_of_getElem? (i := 47) (by decide +kernel))) rfl
theorem w_288 : Cond.fieldLink RX8 10 "BatchCellars" "plant" "LBatchCellars$Plant;" ∈ lwG := lwG_of (lwT_2 (List.mem_of_getElem? (i := 48) (by decide +kernel))) rfl
theorem w_289 : Cond.fieldLink RX8 16 "BatchCellars" "rehearsal" "LBatchCellars$Plant;" ∈ lwG := lwG_of (lwT_2 (List.mem_of_getElem? (i := 49) (by decide +kernel))) rfl
theorem w_290 : Cond.fieldLink RX8 22 "BatchCellars" "history" "LBatchCellars$History;" ∈ lwG := lwG_of (lwT_2 (List.mem_of_getElem? (i := 50) (by decide +kernel))) rfl
theorem w_291 : Cond.fieldLink RX8 29 "BatchCellars" "script" "LBatchCellars$Script;" ∈ lwG := lwG_of (lwT_2 (List.mem_of_getElem? (i := 51) (by decide +kernel))) rfl
theorem w_292 : Cond.fieldLink RX8 175 "BatchCellars" "faultReason" "I" ∈ lwG := lwG_of (lwT_2 (List.mem_of_getElem? (i := 52) (by decide +kernel))) rfl
theorem w_293 : Cond.fieldLink RX8 178 "BatchCellars" "faultPlace" "I" ∈ lwG := lwG_of (lwT_2 (List.mem_of_getElem? (i := 53) (by decide +kernel))) rfl
theorem w_294 : Cond.fieldLink RX8 184 "BatchCellars" "commandsDone" "I" ∈ lwG := lwG_of (lwT_2 (List.mem_of_getElem? (i := 54) (by decide +kernel))) rfl
theorem w_310 : Cond.methodLink RL 13 yX8_recipe ∈ lwG := lwG_of (lwT_2 (List.mem_of_getElem? (i := 70) (by decide +kernel))) rfl
theorem w_311 : Cond.instanceMethod yX8_recipe ∈ lwG := lwG_of (lwT_2 (List.mem_of_getElem? (i := 71) (by decide +kernel))) rfl
theorem w_312 : Cond.selects RX8 yX8_recipe yX8_recipe ∈ lwG := lwG_of (lwT_2 (List.mem_of_getElem? (i := 72) (by decide +kernel))) rfl
theorem w_313 : Cond.code yX8_recipe cX8_recipe 2 (some .int) ∈ lwG := lwG_of (lwT_2 (List.mem_of_getElem? (i := 73) (by decide +kernel))) rfl
theorem w_314 : Cond.methodLink RX8 33 yX1_prepare ∈ lwG := lwG_of (lwT_2 (List.mem_of_getElem? (i := 74) (by decide +kernel))) rfl
theorem w_315 : Cond.instanceMethod yX1_prepare ∈ lwG := lwG_of (lwT_2 (List.mem_of_getElem? (i := 75) (by decide +kernel))) rfl
theorem w_316 : Cond.selects RX1 yX1_prepare yX1_prepare ∈ lwG := lwG_of (lwT_2 (List.mem_of_getElem? (i := 76) (by decide +kernel))) rfl
theorem w_317 : Cond.code yX1_prepare cX1_prepare 2 (none) ∈ lwG := lwG_of (lwT_2 (List.mem_of_getElem? (i := 77) (by decide +kernel))) rfl
theorem w_318 : Cond.methodLink RX1 22 yX3_copyFrom ∈ lwG := lwG_of (lwT_2 (List.mem_of_getElem? (i := 78) (by decide +kernel))) rfl
theorem w_319 : Cond.instanceMethod yX3_copyFrom ∈ lwG := lwG_of (lwT_2 (List.mem_of_getElem? (i := 79) (by decide +kernel))) rfl
theorem w_320 : Cond.selects RX3 yX3_copyFrom yX3_copyFrom ∈ lwG := lwG_of (lwT_2 (List.mem_of_getElem? (i := 80) (by decide +kernel))) rfl
theorem w_321 : Cond.code yX3_copyFrom cX3_copyFrom 2 (none) ∈ lwG := lwG_of (lwT_2 (List.mem_of_getElem? (i := 81) (by decide +kernel))) rfl
theorem w_322 : Cond.methodLink RX3 53 yX3_copyParts ∈ lwG := lwG_of (lwT_2 (List.mem_of_getElem? (i := 82) (by decide +kernel))) rfl
theorem w_323 : Cond.instanceMethod yX3_copyParts ∈ lwG := lwG_of (lwT_2 (List.mem_of_getElem? (i := 83) (by decide +kernel))) rfl
theorem w_324 : Cond.selects RX3 yX3_copyParts yX3_copyParts ∈ lwG := lwG_of (lwT_2 (List.mem_of_getElem? (i := 84) (by decide +kernel))) rfl
theorem w_325 : Cond.code yX3_copyParts cX3_copyParts 3 (none) ∈ lwG := lwG_of (lwT_2 (List.mem_of_getElem? (i := 85) (by decide +kernel))) rfl
theorem w_326 : Cond.methodLink RX3 89 yX4_copyFrom ∈ lwG := lwG_of (lwT_2 (List.mem_of_getElem? (i := 86) (by decide +kernel))) rfl
theorem w_327 : Cond.instanceMethod yX4_copyFrom ∈ lwG := lwG_of (lwT_2 (List.mem_of_getElem? (i := 87) (by decide +kernel))) rfl
theorem w_328 : Cond.selects RX4 yX4_copyFrom yX4_copyFrom ∈ lwG := lwG_of (lwT_2 (List.mem_of_getElem? (i := 88) (by decide +kernel))) rfl
theorem w_329 : Cond.code yX4_copyFrom cX4_copyFrom 3 (none) ∈ lwG := lwG_of (lwT_2 (List.mem_of_getElem? (i := 89) (by decide +kernel))) rfl
theorem w_330 : Cond.methodLink RX4 25 yX6_copyFrom ∈ lwG := lwG_of (lwT_2 (List.mem_of_getElem? (i := 90) (by decide +kernel))) rfl
theorem w_331 : Cond.instanceMethod yX6_copyFrom ∈ lwG := lwG_of (lwT_2 (List.mem_of_getElem? (i := 91) (by decide +kernel))) rfl
theorem w_332 : Cond.selects RX6 yX6_copyFrom yX6_copyFrom ∈ lwG := lwG_of (lwT_2 (List.mem_of_getElem? (i := 92) (by decide +kernel))) rfl
theorem w_333 : Cond.code yX6_copyFrom cX6_copyFrom 2 (none) ∈ lwG := lwG_of (lwT_2 (List.mem_of_getElem? (i := 93) (by decide +kernel))) rfl
theorem w_334 : Cond.methodLink RX3 93 yX7_copyFrom ∈ lwG := lwG_of (lwT_2 (List.mem_of_getElem? (i := 94) (by decide +kernel))) rfl
theorem w_335 : Cond.instanceMethod yX7_copyFrom ∈ lwG := lwG_of (lwT_2 (List.mem_of_getElem? (i := 95) (by decide +kernel))) rfl
theorem w_336 : Cond.selects RX7 yX7_copyFrom yX7_copyFrom ∈ lwG := lwG_of (lwT_2 (List.mem_of_getElem? (i := 96) (by decide +kernel))) rfl
theorem w_337 : Cond.code yX7_copyFrom cX7_copyFrom 2 (none) ∈ lwG := lwG_of (lwT_2 (List.mem_of_getElem? (i := 97) (by decide +kernel))) rfl
theorem w_338 : Cond.methodLink RX3 96 yX2_copyFrom ∈ lwG := lwG_of (lwT_2 (List.mem_of_getElem? (i := 98) (by decide +kernel))) rfl
theorem w_339 : Cond.instanceMethod yX2_copyFrom ∈ lwG := lwG_of (lwT_2 (List.mem_of_getElem? (i := 99) (by decide +kernel))) rfl
theorem w_340 : Cond.selects RX2 yX2_copyFrom yX2_copyFrom ∈ lwG := lwG_of (lwT_2 (List.mem_of_getElem? (i := 100) (by decide +kernel))) rfl
theorem w_341 : Cond.code yX2_copyFrom cX2_copyFrom 2 (none) ∈ lwG := lwG_of (lwT_2 (List.mem_of_getElem? (i := 101) (by decide +kernel))) rfl
theorem w_342 : Cond.methodLink RX3 99 yX0_copyFrom ∈ lwG := lwG_of (lwT_2 (List.mem_of_getElem? (i := 102) (by decide +kernel))) rfl
theorem w_343 : Cond.instanceMethod yX0_copyFrom ∈ lwG := lwG_of (lwT_2 (List.mem_of_getElem? (i := 103) (by decide +kernel))) rfl
theorem w_344 : Cond.selects RX0 yX0_copyFrom yX0_copyFrom ∈ lwG := lwG_of (lwT_2 (List.mem_of_getElem? (i := 104) (by decide +kernel))) rfl
theorem w_345 : Cond.code yX0_copyFrom cX0_copyFrom 2 (none) ∈ lwG := lwG_of (lwT_2 (List.mem_of_getElem? (i := 105) (by decide +kernel))) rfl
theorem w_347 : Cond.static yX8_copyEntries ∈ lwG := lwG_of (lwT_2 (List.mem_of_getElem? (i := 107) (by decide +kernel))) rfl
theorem w_348 : Cond.code yX8_copyEntries cX8_copyEntries 2 (none) ∈ lwG := lwG_of (lwT_2 (List.mem_of_getElem? (i := 108) (by decide +kernel))) rfl
theorem w_349 : Cond.methodLink RX8 208 yJ9_min_7cf53 ∈ lwG := lwG_of (lwT_2 (List.mem_of_getElem? (i := 109) (by decide +kernel))) rfl
theorem w_350 : Cond.static yJ9_min_7cf53 ∈ lwG := lwG_of (lwT_2 (List.mem_of_getElem? (i := 110) (by decide +kernel))) rfl
theorem w_351 : Cond.code yJ9_min_7cf53 cJ9_min_7cf53 2 (some .int) ∈ lwG := lwG_of (lwT_2 (List.mem_of_getElem? (i := 111) (by decide +kernel))) rfl
theorem w_352 : Cond.methodLink RX8 213 arraycopyName ∈ lwG := lwG_of (lwT_2 (List.mem_of_getElem? (i := 112) (by decide +kernel))) rfl
theorem w_353 : Cond.static arraycopyName ∈ lwG := lwG_of (lwT_2 (List.mem_of_getElem? (i := 113) (by decide +kernel))) rfl
theorem w_354 : Cond.native arraycopyName ∈ lwG := lwG_of (lwT_2 (List.mem_of_getElem? (i := 114) (by decide +kernel))) rfl
theorem w_355 : Cond.methodLink RX8 37 yX3_addRecipe ∈ lwG := lwG_of (lwT_2 (List.mem_of_getElem? (i := 115) (by decide +kernel))) rfl
theorem w_356 : Cond.instanceMethod yX3_addRecipe ∈ lwG := lwG_of (lwT_2 (List.mem_of_getElem? (i := 116) (by decide +kernel))) rfl
theorem w_357 : Cond.selects RX3 yX3_addRecipe yX3_addRecipe ∈ lwG := lwG_of (lwT_2 (List.mem_of_getElem? (i := 117) (by decide +kernel))) rfl
theorem w_358 : Cond.code yX3_addRecipe cX3_addRecipe 3 (some .int) ∈ lwG := lwG_of (lwT_2 (List.mem_of_getElem? (i := 118) (by decide +kernel))) rfl
theorem w_360 : Cond.static yX8_isWithin ∈ lwG := lwG_of (lwT_2 (List.mem_of_getElem? (i := 120) (by decide +kernel))) rfl
theorem w_361 : Cond.code yX8_isWithin cX8_isWithin 3 (some .boolean) ∈ lwG := lwG_of (lwT_2 (List.mem_of_getElem? (i := 121) (by decide +kernel))) rfl
theorem w_362 : Cond.methodLink RX3 110 yX3_recipeAt ∈ lwG := lwG_of (lwT_2 (List.mem_of_getElem? (i := 122) (by decide +kernel))) rfl
theorem w_363 : Cond.instanceMethod yX3_recipeAt ∈ lwG := lwG_of (lwT_2 (List.mem_of_getElem? (i := 123) (by decide +kernel))) rfl
theorem w_364 : Cond.selects RX3 yX3_recipeAt yX3_recipeAt ∈ lwG := lwG_of (lwT_2 (List.mem_of_getElem? (i := 124) (by decide +kernel))) rfl
theorem w_365 : Cond.code yX3_recipeAt cX3_recipeAt 3 (some (.object "BatchCellars$Recipe")) ∈ lwG := lwG_of (lwT_2 (List.mem_of_getElem? (i := 125) (by decide +kernel))) rfl
theorem w_366 : Cond.methodLink RX8 41 yX1_settle ∈ lwG := lwG_of (lwT_2 (List.mem_of_getElem? (i := 126) (by decide +kernel))) rfl
theorem w_367 : Cond.instanceMethod yX1_settle ∈ lwG := lwG_of (lwT_2 (List.mem_of_getElem? (i := 127) (by decide +kernel))) rfl
theorem w_368 : Cond.selects RX1 yX1_settle yX1_settle ∈ lwG := lwG_of (lwT_2 (List.mem_of_getElem? (i := 128) (by decide +kernel))) rfl
theorem w_369 : Cond.code yX1_settle cX1_settle 2 (some .int) ∈ lwG := lwG_of (lwT_2 (List.mem_of_getElem? (i := 129) (by decide +kernel))) rfl
theorem w_370 : Cond.methodLink RX1 29 yJ9_min_7cf53 ∈ lwG := lwG_of (lwT_2 (List.mem_of_getElem? (i := 130) (by decide +kernel))) rfl
theorem w_371 : Cond.methodLink RL 18 yX8_stage ∈ lwG := lwG_of (lwT_2 (List.mem_of_getElem? (i := 131) (by decide +kernel))) rfl
theorem w_372 : Cond.instanceMethod yX8_stage ∈ lwG := lwG_of (lwT_2 (List.mem_of_getElem? (i := 132) (by decide +kernel))) rfl
theorem w_373 : Cond.selects RX8 yX8_stage yX8_stage ∈ lwG := lwG_of (lwT_2 (List.mem_of_getElem? (i := 133) (by decide +kernel))) rfl
theorem w_374 : Cond.code yX8_stage cX8_stage 6 (some .int) ∈ lwG := lwG_of (lwT_2 (List.mem_of_getElem? (i := 134) (by decide +kernel))) rfl
theorem w_375 : Cond.methodLink RX8 44 yX3_addStage ∈ lwG := lwG_of (lwT_2 (List.mem_of_getElem? (i := 135) (by decide +kernel))) rfl
theorem w_376 : Cond.instanceMethod yX3_addStage ∈ lwG := lwG_of (lwT_2 (List.mem_of_getElem? (i := 136) (by decide +kernel))) rfl
theorem w_377 : Cond.selects RX3 yX3_addStage yX3_addStage ∈ lwG := lwG_of (lwT_2 (List.mem_of_getElem? (i := 137) (by decide +kernel))) rfl
theorem w_378 : Cond.code yX3_addStage cX3_addStage 8 (some .int) ∈ lwG := lwG_of (lwT_2 (List.mem_of_getElem? (i := 138) (by decide +kernel))) rfl
theorem w_379 : Cond.methodLink RX3 120 yX3_hasBatchOf ∈ lwG := lwG_of (lwT_2 (List.mem_of_getElem? (i := 139) (by decide +kernel))) rfl
theorem w_380 : Cond.instanceMethod yX3_hasBatchOf ∈ lwG := lwG_of (lwT_2 (List.mem_of_getElem? (i := 140) (by decide +kernel))) rfl
theorem w_381 : Cond.selects RX3 yX3_hasBatchOf yX3_hasBatchOf ∈ lwG := lwG_of (lwT_2 (List.mem_of_getElem? (i := 141) (by decide +kernel))) rfl
theorem w_382 : Cond.code yX3_hasBatchOf cX3_hasBatchOf 3 (some .boolean) ∈ lwG := lwG_of (lwT_2 (List.mem_of_getElem? (i := 142) (by decide +kernel))) rfl
theorem w_383 : Cond.methodLink RX3 124 yX4_stageAt ∈ lwG := lwG_of (lwT_2 (List.mem_of_getElem? (i := 143) (by decide +kernel))) rfl
theorem w_384 : Cond.instanceMethod yX4_stageAt ∈ lwG := lwG_of (lwT_2 (List.mem_of_getElem? (i := 144) (by decide +kernel))) rfl
theorem w_385 : Cond.selects RX4 yX4_stageAt yX4_stageAt ∈ lwG := lwG_of (lwT_2 (List.mem_of_getElem? (i := 145) (by decide +kernel))) rfl
theorem w_386 : Cond.code yX4_stageAt cX4_stageAt 3 (some (.object "BatchCellars$Stage")) ∈ lwG := lwG_of (lwT_2 (List.mem_of_getElem? (i := 146) (by decide +kernel))) rfl
theorem w_387 : Cond.methodLink RL 23 yX8_vessel ∈ lwG := lwG_of (lwT_2 (List.mem_of_getElem? (i := 147) (by decide +kernel))) rfl
theorem w_388 : Cond.instanceMethod yX8_vessel ∈ lwG := lwG_of (lwT_2 (List.mem_of_getElem? (i := 148) (by decide +kernel))) rfl
theorem w_389 : Cond.selects RX8 yX8_vessel yX8_vessel ∈ lwG := lwG_of (lwT_2 (List.mem_of_getElem? (i := 149) (by decide +kernel))) rfl
theorem w_390 : Cond.code yX8_vessel cX8_vessel 3 (some .int) ∈ lwG := lwG_of (lwT_2 (List.mem_of_getElem? (i := 150) (by decide +kernel))) rfl
theorem w_391 : Cond.methodLink RX8 48 yX3_addVessel ∈ lwG := lwG_of (lwT_2 (List.mem_of_getElem? (i := 151) (by decide +kernel))) rfl
theorem w_392 : Cond.instanceMethod yX3_addVessel ∈ lwG := lwG_of (lwT_2 (List.mem_of_getElem? (i := 152) (by decide +kernel))) rfl
theorem w_393 : Cond.selects RX3 yX3_addVessel yX3_addVessel ∈ lwG := lwG_of (lwT_2 (List.mem_of_getElem? (i := 153) (by decide +kernel))) rfl
theorem w_394 : Cond.code yX3_addVessel cX3_addVessel 4 (some .int) ∈ lwG := lwG_of (lwT_2 (List.mem_of_getElem? (i := 154) (by decide +kernel))) rfl
theorem w_395 : Cond.methodLink RX3 145 yX3_vesselAt ∈ lwG := lwG_of (lwT_2 (List.mem_of_getElem? (i := 155) (by decide +kernel))) rfl
theorem w_396 : Cond.instanceMethod yX3_vesselAt ∈ lwG := lwG_of (lwT_2 (List.mem_of_getElem? (i := 156) (by decide +kernel))) rfl
theorem w_397 : Cond.selects RX3 yX3_vesselAt yX3_vesselAt ∈ lwG := lwG_of (lwT_2 (List.mem_of_getElem? (i := 157) (by decide +kernel))) rfl
theorem w_398 : Cond.code yX3_vesselAt cX3_vesselAt 3 (some (.object "BatchCellars$Vessel")) ∈ lwG := lwG_of (lwT_2 (List.mem_of_getElem? (i := 158) (by decide +kernel))) rfl
theorem w_399 : Cond.methodLink RL 28 yX8_line ∈ lwG := lwG_of (lwT_2 (List.mem_of_getElem? (i := 159) (by decide +kernel))) rfl
theorem w_400 : Cond.instanceMethod yX8_line ∈ lwG := lwG_of (lwT_2 (List.mem_of_getElem? (i := 160) (by decide +kernel))) rfl
theorem w_401 : Cond.selects RX8 yX8_line yX8_line ∈ lwG := lwG_of (lwT_2 (List.mem_of_getElem? (i := 161) (by decide +kernel))) rfl
theorem w_402 : Cond.code yX8_line cX8_line 3 (some .int) ∈ lwG := lwG_of (lwT_2 (List.mem_of_getElem? (i := 162) (by decide +kernel))) rfl
theorem w_403 : Cond.methodLink RX8 52 yX3_addLine ∈ lwG := lwG_of (lwT_2 (List.mem_of_getElem? (i := 163) (by decide +kernel))) rfl
theorem w_404 : Cond.instanceMethod yX3_addLine ∈ lwG := lwG_of (lwT_2 (List.mem_of_getElem? (i := 164) (by decide +kernel))) rfl
theorem w_405 : Cond.selects RX3 yX3_addLine yX3_addLine ∈ lwG := lwG_of (lwT_2 (List.mem_of_getElem? (i := 165) (by decide +kernel))) rfl
theorem w_406 : Cond.code yX3_addLine cX3_addLine 5 (some .int) ∈ lwG := lwG_of (lwT_2 (List.mem_of_getElem? (i := 166) (by decide +kernel))) rfl
theorem w_407 : Cond.methodLink RX3 153 yJ6_bitCount_0f7a4 ∈ lwG := lwG_of (lwT_2 (List.mem_of_getElem? (i := 167) (by decide +kernel))) rfl
theorem w_408 : Cond.static yJ6_bitCount_0f7a4 ∈ lwG := lwG_of (lwT_2 (List.mem_of_getElem? (i := 168) (by decide +kernel))) rfl
theorem w_409 : Cond.code yJ6_bitCount_0f7a4 cJ6_bitCount_0f7a4 1 (some .int) ∈ lwG := lwG_of (lwT_2 (List.mem_of_getElem? (i := 169) (by decide +kernel))) rfl
theorem w_410 : Cond.constant RJ6 265 1431655765 ∈ lwG := lwG_of (lwT_2 (List.mem_of_getElem? (i := 170) (by decide +kernel))) rfl
theorem w_411 : Cond.constant RJ6 266 858993459 ∈ lwG := lwG_of (lwT_2 (List.mem_of_getElem? (i := 171) (by decide +kernel))) rfl
theorem w_412 : Cond.constant RJ6 267 252645135 ∈ lwG := lwG_of (lwT_2 (List.mem_of_getElem? (i := 172) (by decide +kernel))) rfl
theorem w_413 : Cond.methodLink RX3 159 yX3_lineAt ∈ lwG := lwG_of (lwT_2 (List.mem_of_getElem? (i := 173) (by decide +kernel))) rfl
theorem w_414 : Cond.instanceMethod yX3_lineAt ∈ lwG := lwG_of (lwT_2 (List.mem_of_getElem? (i := 174) (by decide +kernel))) rfl
theorem w_415 : Cond.selects RX3 yX3_lineAt yX3_lineAt ∈ lwG := lwG_of (lwT_2 (List.mem_of_getElem? (i := 175) (by decide +kernel))) rfl
theorem w_416 : Cond.code yX3_lineAt cX3_lineAt 3 (some (.object "BatchCellars$Line")) ∈ lwG := lwG_of (lwT_2 (List.mem_of_getElem? (i := 176) (by decide +kernel))) rfl
theorem w_417 : Cond.methodLink RL 32 yX8_cleaning ∈ lwG := lwG_of (lwT_2 (List.mem_of_getElem? (i := 177) (by decide +kernel))) rfl
theorem w_418 : Cond.instanceMethod yX8_cleaning ∈ lwG := lwG_of (lwT_2 (List.mem_of_getElem? (i := 178) (by decide +kernel))) rfl
theorem w_419 : Cond.selects RX8 yX8_cleaning yX8_cleaning ∈ lwG := lwG_of (lwT_2 (List.mem_of_getElem? (i := 179) (by decide +kernel))) rfl
theorem w_420 : Cond.code yX8_cleaning cX8_cleaning 4 (some .int) ∈ lwG := lwG_of (lwT_2 (List.mem_of_getElem? (i := 180) (by decide +kernel))) rfl
theorem w_421 : Cond.methodLink RX8 55 yX3_changeCleaning ∈ lwG := lwG_of (lwT_2 (List.mem_of_getElem? (i := 181) (by decide +kernel))) rfl
theorem w_422 : Cond.instanceMethod yX3_changeCleaning ∈ lwG := lwG_of (lwT_2 (List.mem_of_getElem? (i := 182) (by decide +kernel))) rfl
theorem w_423 : Cond.selects RX3 yX3_changeCleaning yX3_changeCleaning ∈ lwG := lwG_of (lwT_2 (List.mem_of_getElem? (i := 183) (by decide +kernel))) rfl
theorem w_424 : Cond.code yX3_changeCleaning cX3_changeCleaning 5 (some .int) ∈ lwG := lwG_of (lwT_2 (List.mem_of_getElem? (i := 184) (by decide +kernel))) rfl
theorem w_426 : Cond.static yX8_entryAt ∈ lwG := lwG_of (lwT_2 (List.mem_of_getElem? (i := 186) (by decide +kernel))) rfl
theorem w_427 : Cond.code yX8_entryAt cX8_entryAt 2 (some .int) ∈ lwG := lwG_of (lwT_2 (List.mem_of_getElem? (i := 187) (by decide +kernel))) rfl
theorem w_428 : Cond.methodLink RL 37 yX8_stageOf ∈ lwG := lwG_of (lwT_2 (List.mem_of_getElem? (i := 188) (by decide +kernel))) rfl
theorem w_429 : Cond.instanceMethod yX8_stageOf ∈ lwG := lwG_of (lwT_2 (List.mem_of_getElem? (i := 189) (by decide +kernel))) rfl
theorem w_430 : Cond.selects RX8 yX8_stageOf yX8_stageOf ∈ lwG := lwG_of (lwT_2 (List.mem_of_getElem? (i := 190) (by decide +kernel))) rfl
theorem w_431 : Cond.code yX8_stageOf cX8_stageOf 6 (some .int) ∈ lwG := lwG_of (lwT_2 (List.mem_of_getElem? (i := 191) (by decide +kernel))) rfl
theorem w_432 : Cond.methodLink RX8 59 yX3_recipeAt ∈ lwG := lwG_of (lwT_2 (List.mem_of_getElem? (i := 192) (by decide +kernel))) rfl
theorem w_433 : Cond.methodLink RX8 63 yX8_isWithin ∈ lwG := lwG_of (lwT_2 (List.mem_of_getElem? (i := 193) (by decide +kernel))) rfl
theorem w_434 : Cond.methodLink RX8 67 yX4_stageAt ∈ lwG := lwG_of (lwT_2 (List.mem_of_getElem? (i := 194) (by decide +kernel))) rfl
theorem w_435 : Cond.methodLink RX8 77 yX6_detail ∈ lwG := lwG_of (lwT_2 (List.mem_of_getElem? (i := 195) (by decide +kernel))) rfl
theorem w_436 : Cond.instanceMethod yX6_detail ∈ lwG := lwG_of (lwT_2 (List.mem_of_getElem? (i := 196) (by decide +kernel))) rfl
theorem w_437 : Cond.selects RX6 yX6_detail yX6_detail ∈ lwG := lwG_of (lwT_2 (List.mem_of_getElem? (i := 197) (by decide +kernel))) rfl
theorem w_438 : Cond.code yX6_detail cX6_detail 2 (some .int) ∈ lwG := lwG_of (lwT_2 (List.mem_of_getElem? (i := 198) (by decide +kernel))) rfl
theorem w_439 : Cond.methodLink RL 41 yX8_begin ∈ lwG := lwG_of (lwT_2 (List.mem_of_getElem? (i := 199) (by decide +kernel))) rfl
theorem w_440 : Cond.instanceMethod yX8_begin ∈ lwG := lwG_of (lwT_2 (List.mem_of_getElem? (i := 200) (by decide +kernel))) rfl
theorem w_441 : Cond.selects RX8 yX8_begin yX8_begin ∈ lwG := lwG_of (lwT_2 (List.mem_of_getElem? (i := 201) (by decide +kernel))) rfl
theorem w_442 : Cond.code yX8_begin cX8_begin 4 (some .int) ∈ lwG := lwG_of (lwT_2 (List.mem_of_getElem? (i := 202) (by decide +kernel))) rfl
theorem w_443 : Cond.methodLink RX8 82 yX3_beginBatch ∈ lwG := lwG_of (lwT_2 (List.mem_of_getElem? (i := 203) (by decide +kernel))) rfl
theorem w_444 : Cond.instanceMethod yX3_beginBatch ∈ lwG := lwG_of (lwT_2 (List.mem_of_getElem? (i := 204) (by decide +kernel))) rfl
theorem w_445 : Cond.selects RX3 yX3_beginBatch yX3_beginBatch ∈ lwG := lwG_of (lwT_2 (List.mem_of_getElem? (i := 205) (by decide +kernel))) rfl
theorem w_446 : Cond.code yX3_beginBatch cX3_beginBatch 9 (some .int) ∈ lwG := lwG_of (lwT_2 (List.mem_of_getElem? (i := 206) (by decide +kernel))) rfl
theorem w_447 : Cond.methodLink RX3 172 yX3_lowestFreeNumber ∈ lwG := lwG_of (lwT_2 (List.mem_of_getElem? (i := 207) (by decide +kernel))) rfl
theorem w_448 : Cond.instanceMethod yX3_lowestFreeNumber ∈ lwG := lwG_of (lwT_2 (List.mem_of_getElem? (i := 208) (by decide +kernel))) rfl
theorem w_449 : Cond.selects RX3 yX3_lowestFreeNumber yX3_lowestFreeNumber ∈ lwG := lwG_of (lwT_2 (List.mem_of_getElem? (i := 209) (by decide +kernel))) rfl
theorem w_450 : Cond.code yX3_lowestFreeNumber cX3_lowestFreeNumber 2 (some .int) ∈ lwG := lwG_of (lwT_2 (List.mem_of_getElem? (i := 210) (by decide +kernel))) rfl
theorem w_451 : Cond.methodLink RX3 176 yX7_canTake ∈ lwG := lwG_of (lwT_2 (List.mem_of_getElem? (i := 211) (by decide +kernel))) rfl
theorem w_452 : Cond.instanceMethod yX7_canTake ∈ lwG := lwG_of (lwT_2 (List.mem_of_getElem? (i := 212) (by decide +kernel))) rfl
theorem w_453 : Cond.selects RX7 yX7_canTake yX7_canTake ∈ lwG := lwG_of (lwT_2 (List.mem_of_getElem? (i := 213) (by decide +kernel))) rfl
theorem w_454 : Cond.code yX7_canTake cX7_canTake 3 (some .boolean) ∈ lwG := lwG_of (lwT_2 (List.mem_of_getElem? (i := 214) (by decide +kernel))) rfl
theorem w_455 : Cond.methodLink RX7 27 yX7_suits ∈ lwG := lwG_of (lwT_2 (List.mem_of_getElem? (i := 215) (by decide +kernel))) rfl
theorem w_456 : Cond.instanceMethod yX7_suits ∈ lwG := lwG_of (lwT_2 (List.mem_of_getElem? (i := 216) (by decide +kernel))) rfl
theorem w_457 : Cond.selects RX7 yX7_suits yX7_suits ∈ lwG := lwG_of (lwT_2 (List.mem_of_getElem? (i := 217) (by decide +kernel))) rfl
theorem w_458 : Cond.code yX7_suits cX7_suits 3 (some .boolean) ∈ lwG := lwG_of (lwT_2 (List.mem_of_getElem? (i := 218) (by decide +kernel))) rfl
theorem w_459 : Cond.methodLink RX3 180 yX3_occupy ∈ lwG := lwG_of (lwT_2 (List.mem_of_getElem? (i := 219) (by decide +kernel))) rfl
theorem w_460 : Cond.instanceMethod yX3_occupy ∈ lwG := lwG_of (lwT_2 (List.mem_of_getElem? (i := 220) (by decide +kernel))) rfl
theorem w_461 : Cond.selects RX3 yX3_occupy yX3_occupy ∈ lwG := lwG_of (lwT_2 (List.mem_of_getElem? (i := 221) (by decide +kernel))) rfl
theorem w_462 : Cond.code yX3_occupy cX3_occupy 5 (some .int) ∈ lwG := lwG_of (lwT_2 (List.mem_of_getElem? (i := 222) (by decide +kernel))) rfl
theorem w_463 : Cond.methodLink RX3 192 yX3_cleaningMinutes ∈ lwG := lwG_of (lwT_2 (List.mem_of_getElem? (i := 223) (by decide +kernel))) rfl
theorem w_464 : Cond.instanceMethod yX3_cleaningMinutes ∈ lwG := lwG_of (lwT_2 (List.mem_of_getElem? (i := 224) (by decide +kernel))) rfl
theorem w_465 : Cond.selects RX3 yX3_cleaningMinutes yX3_cleaningMinutes ∈ lwG := lwG_of (lwT_2 (List.mem_of_getElem? (i := 225) (by decide +kernel))) rfl
theorem w_466 : Cond.code yX3_cleaningMinutes cX3_cleaningMinutes 3 (some .int) ∈ lwG := lwG_of (lwT_2 (List.mem_of_getElem? (i := 226) (by decide +kernel))) rfl
theorem w_467 : Cond.methodLink RX3 184 yX0_start ∈ lwG := lwG_of (lwT_2 (List.mem_of_getElem? (i := 227) (by decide +kernel))) rfl
theorem w_468 : Cond.instanceMethod yX0_start ∈ lwG := lwG_of (lwT_2 (List.mem_of_getElem? (i := 228) (by decide +kernel))) rfl
theorem w_469 : Cond.selects RX0 yX0_start yX0_start ∈ lwG := lwG_of (lwT_2 (List.mem_of_getElem? (i := 229) (by decide +kernel))) rfl
theorem w_470 : Cond.code yX0_start cX0_start 4 (none) ∈ lwG := lwG_of (lwT_2 (List.mem_of_getElem? (i := 230) (by decide +kernel))) rfl
theorem w_471 : Cond.methodLink RX3 188 yX0_enter ∈ lwG := lwG_of (lwT_2 (List.mem_of_getElem? (i := 231) (by decide +kernel))) rfl
theorem w_472 : Cond.instanceMethod yX0_enter ∈ lwG := lwG_of (lwT_2 (List.mem_of_getElem? (i := 232) (by decide +kernel))) rfl
theorem w_473 : Cond.selects RX0 yX0_enter yX0_enter ∈ lwG := lwG_of (lwT_2 (List.mem_of_getElem? (i := 233) (by decide +kernel))) rfl
theorem w_474 : Cond.code yX0_enter cX0_enter 5 (none) ∈ lwG := lwG_of (lwT_2 (List.mem_of_getElem? (i := 234) (by decide +kernel))) rfl
theorem w_475 : Cond.methodLink RL 45 yX8_move ∈ lwG := lwG_of (lwT_2 (List.mem_of_getElem? (i := 235) (by decide +kernel))) rfl
theorem w_476 : Cond.instanceMethod yX8_move ∈ lwG := lwG_of (lwT_2 (List.mem_of_getElem? (i := 236) (by decide +kernel))) rfl
theorem w_477 : Cond.selects RX8 yX8_move yX8_move ∈ lwG := lwG_of (lwT_2 (List.mem_of_getElem? (i := 237) (by decide +kernel))) rfl
theorem w_478 : Cond.code yX8_move cX8_move 3 (some .int) ∈ lwG := lwG_of (lwT_2 (List.mem_of_getElem? (i := 238) (by decide +kernel))) rfl
theorem w_479 : Cond.methodLink RX8 85 yX3_moveBatch ∈ lwG := lwG_of (lwT_2 (List.mem_of_getElem? (i := 239) (by decide +kernel))) rfl
theorem w_480 : Cond.instanceMethod yX3_moveBatch ∈ lwG := lwG_of (lwT_3 (List.mem_of_getElem? (i := 0) (by decide +kernel))) rfl
theorem w_481 : Cond.selects RX3 yX3_moveBatch yX3_moveBatch ∈ lwG := lwG_of (lwT_3 (List.mem_of_getElem? (i := 1) (by decide +kernel))) rfl
theorem w_482 : Cond.code yX3_moveBatch cX3_moveBatch 10 (some .int) ∈ lwG := lwG_of (lwT_3 (List.mem_of_getElem? (i := 2) (by decide +kernel))) rfl
theorem w_483 : Cond.methodLink RX3 205 yX3_batchAt ∈ lwG := lwG_of (lwT_3 (List.mem_of_getElem? (i := 3) (by decide +kernel))) rfl
theorem w_484 : Cond.instanceMethod yX3_batchAt ∈ lwG := lwG_of (lwT_3 (List.mem_of_getElem? (i := 4) (by decide +kernel))) rfl
theorem w_485 : Cond.selects RX3 yX3_batchAt yX3_batchAt ∈ lwG := lwG_of (lwT_3 (List.mem_of_getElem? (i := 5) (by decide +kernel))) rfl
theorem w_486 : Cond.code yX3_batchAt cX3_batchAt 3 (some (.object "BatchCellars$Batch")) ∈ lwG := lwG_of (lwT_3 (List.mem_of_getElem? (i := 6) (by decide +kernel))) rfl
theorem w_487 : Cond.methodLink RX3 209 yX3_lineTo ∈ lwG := lwG_of (lwT_3 (List.mem_of_getElem? (i := 7) (by decide +kernel))) rfl
theorem w_488 : Cond.instanceMethod yX3_lineTo ∈ lwG := lwG_of (lwT_3 (List.mem_of_getElem? (i := 8) (by decide +kernel))) rfl
theorem w_489 : Cond.selects RX3 yX3_lineTo yX3_lineTo ∈ lwG := lwG_of (lwT_3 (List.mem_of_getElem? (i := 9) (by decide +kernel))) rfl
theorem w_490 : Cond.code yX3_lineTo cX3_lineTo 6 (some .int) ∈ lwG := lwG_of (lwT_3 (List.mem_of_getElem? (i := 10) (by decide +kernel))) rfl
theorem w_491 : Cond.methodLink RX3 213 yX3_nextStage ∈ lwG := lwG_of (lwT_3 (List.mem_of_getElem? (i := 11) (by decide +kernel))) rfl
theorem w_492 : Cond.instanceMethod yX3_nextStage ∈ lwG := lwG_of (lwT_3 (List.mem_of_getElem? (i := 12) (by decide +kernel))) rfl
theorem w_493 : Cond.selects RX3 yX3_nextStage yX3_nextStage ∈ lwG := lwG_of (lwT_3 (List.mem_of_getElem? (i := 13) (by decide +kernel))) rfl
theorem w_494 : Cond.code yX3_nextStage cX3_nextStage 3 (some (.object "BatchCellars$Stage")) ∈ lwG := lwG_of (lwT_3 (List.mem_of_getElem? (i := 14) (by decide +kernel))) rfl
theorem w_495 : Cond.methodLink RX3 239 yX0_isRipe ∈ lwG := lwG_of (lwT_3 (List.mem_of_getElem? (i := 15) (by decide +kernel))) rfl
theorem w_496 : Cond.instanceMethod yX0_isRipe ∈ lwG := lwG_of (lwT_3 (List.mem_of_getElem? (i := 16) (by decide +kernel))) rfl
theorem w_497 : Cond.selects RX0 yX0_isRipe yX0_isRipe ∈ lwG := lwG_of (lwT_3 (List.mem_of_getElem? (i := 17) (by decide +kernel))) rfl
theorem w_498 : Cond.code yX0_isRipe cX0_isRipe 2 (some .boolean) ∈ lwG := lwG_of (lwT_3 (List.mem_of_getElem? (i := 18) (by decide +kernel))) rfl
theorem w_499 : Cond.methodLink RX3 242 yX2_isFree ∈ lwG := lwG_of (lwT_3 (List.mem_of_getElem? (i := 19) (by decide +kernel))) rfl
theorem w_500 : Cond.instanceMethod yX2_isFree ∈ lwG := lwG_of (lwT_3 (List.mem_of_getElem? (i := 20) (by decide +kernel))) rfl
theorem w_501 : Cond.selects RX2 yX2_isFree yX2_isFree ∈ lwG := lwG_of (lwT_3 (List.mem_of_getElem? (i := 21) (by decide +kernel))) rfl
theorem w_502 : Cond.code yX2_isFree cX2_isFree 2 (some .boolean) ∈ lwG := lwG_of (lwT_3 (List.mem_of_getElem? (i := 22) (by decide +kernel))) rfl
theorem w_503 : Cond.methodLink RX3 248 yX2_joins ∈ lwG := lwG_of (lwT_3 (List.mem_of_getElem? (i := 23) (by decide +kernel))) rfl
theorem w_504 : Cond.instanceMethod yX2_joins ∈ lwG := lwG_of (lwT_3 (List.mem_of_getElem? (i := 24) (by decide +kernel))) rfl
theorem w_505 : Cond.selects RX2 yX2_joins yX2_joins ∈ lwG := lwG_of (lwT_3 (List.mem_of_getElem? (i := 25) (by decide +kernel))) rfl
theorem w_506 : Cond.code yX2_joins cX2_joins 4 (some .boolean) ∈ lwG := lwG_of (lwT_3 (List.mem_of_getElem? (i := 26) (by decide +kernel))) rfl
theorem w_507 : Cond.methodLink RX3 217 yX3_leaveVessel ∈ lwG := lwG_of (lwT_3 (List.mem_of_getElem? (i := 27) (by decide +kernel))) rfl
theorem w_508 : Cond.instanceMethod yX3_leaveVessel ∈ lwG := lwG_of (lwT_3 (List.mem_of_getElem? (i := 28) (by decide +kernel))) rfl
theorem w_509 : Cond.selects RX3 yX3_leaveVessel yX3_leaveVessel ∈ lwG := lwG_of (lwT_3 (List.mem_of_getElem? (i := 29) (by decide +kernel))) rfl
theorem w_510 : Cond.code yX3_leaveVessel cX3_leaveVessel 3 (none) ∈ lwG := lwG_of (lwT_3 (List.mem_of_getElem? (i := 30) (by decide +kernel))) rfl
theorem w_511 : Cond.methodLink RX3 224 yX2_minutesFor ∈ lwG := lwG_of (lwT_3 (List.mem_of_getElem? (i := 31) (by decide +kernel))) rfl
theorem w_512 : Cond.instanceMethod yX2_minutesFor ∈ lwG := lwG_of (lwT_3 (List.mem_of_getElem? (i := 32) (by decide +kernel))) rfl
theorem w_513 : Cond.selects RX2 yX2_minutesFor yX2_minutesFor ∈ lwG := lwG_of (lwT_3 (List.mem_of_getElem? (i := 33) (by decide +kernel))) rfl
theorem w_514 : Cond.code yX2_minutesFor cX2_minutesFor 2 (some .int) ∈ lwG := lwG_of (lwT_3 (List.mem_of_getElem? (i := 34) (by decide +kernel))) rfl
theorem w_515 : Cond.methodLink RX3 233 yX3_transferLoss ∈ lwG := lwG_of (lwT_3 (List.mem_of_getElem? (i := 35) (by decide +kernel))) rfl
theorem w_516 : Cond.instanceMethod yX3_transferLoss ∈ lwG := lwG_of (lwT_3 (List.mem_of_getElem? (i := 36) (by decide +kernel))) rfl
theorem w_517 : Cond.selects RX3 yX3_transferLoss yX3_transferLoss ∈ lwG := lwG_of (lwT_3 (List.mem_of_getElem? (i := 37) (by decide +kernel))) rfl
theorem w_518 : Cond.code yX3_transferLoss cX3_transferLoss 2 (some .int) ∈ lwG := lwG_of (lwT_3 (List.mem_of_getElem? (i := 38) (by decide +kernel))) rfl
theorem w_519 : Cond.methodLink RL 49 yX8_end ∈ lwG := lwG_of (lwT_3 (List.mem_of_getElem? (i := 39) (by decide +kernel))) rfl
theorem w_520 : Cond.instanceMethod yX8_end ∈ lwG := lwG_of (lwT_3 (List.mem_of_getElem? (i := 40) (by decide +kernel))) rfl
theorem w_521 : Cond.selects RX8 yX8_end yX8_end ∈ lwG := lwG_of (lwT_3 (List.mem_of_getElem? (i := 41) (by decide +kernel))) rfl
theorem w_522 : Cond.code yX8_end cX8_end 2 (some .int) ∈ lwG := lwG_of (lwT_3 (List.mem_of_getElem? (i := 42) (by decide +kernel))) rfl
theorem w_523 : Cond.methodLink RX8 88 yX3_endBatch ∈ lwG := lwG_of (lwT_3 (List.mem_of_getElem? (i := 43) (by decide +kernel))) rfl
theorem w_524 : Cond.instanceMethod yX3_endBatch ∈ lwG := lwG_of (lwT_3 (List.mem_of_getElem? (i := 44) (by decide +kernel))) rfl
theorem w_525 : Cond.selects RX3 yX3_endBatch yX3_endBatch ∈ lwG := lwG_of (lwT_3 (List.mem_of_getElem? (i := 45) (by decide +kernel))) rfl
theorem w_526 : Cond.code yX3_endBatch cX3_endBatch 3 (some .int) ∈ lwG := lwG_of (lwT_3 (List.mem_of_getElem? (i := 46) (by decide +kernel))) rfl
theorem w_527 : Cond.methodLink RX3 254 yX3_addOffGrade ∈ lwG := lwG_of (lwT_3 (List.mem_of_getElem? (i := 47) (by decide +kernel))) rfl
theorem w_528 : Cond.instanceMethod yX3_addOffGrade ∈ lwG := lwG_of (lwT_3 (List.mem_of_getElem? (i := 48) (by decide +kernel))) rfl
theorem w_529 : Cond.selects RX3 yX3_addOffGrade yX3_addOffGrade ∈ lwG := lwG_of (lwT_3 (List.mem_of_getElem? (i := 49) (by decide +kernel))) rfl
theorem w_530 : Cond.code yX3_addOffGrade cX3_addOffGrade 3 (none) ∈ lwG := lwG_of (lwT_3 (List.mem_of_getElem? (i := 50) (by decide +kernel))) rfl
theorem w_531 : Cond.methodLink RX3 258 yX3_remove ∈ lwG := lwG_of (lwT_3 (List.mem_of_getElem? (i := 51) (by decide +kernel))) rfl
theorem w_532 : Cond.instanceMethod yX3_remove ∈ lwG := lwG_of (lwT_3 (List.mem_of_getElem? (i := 52) (by decide +kernel))) rfl
theorem w_533 : Cond.selects RX3 yX3_remove yX3_remove ∈ lwG := lwG_of (lwT_3 (List.mem_of_getElem? (i := 53) (by decide +kernel))) rfl
theorem w_534 : Cond.code yX3_remove cX3_remove 2 (none) ∈ lwG := lwG_of (lwT_3 (List.mem_of_getElem? (i := 54) (by decide +kernel))) rfl
theorem w_535 : Cond.methodLink RL 53 yX8_discard ∈ lwG := lwG_of (lwT_3 (List.mem_of_getElem? (i := 55) (by decide +kernel))) rfl
theorem w_536 : Cond.instanceMethod yX8_discard ∈ lwG := lwG_of (lwT_3 (List.mem_of_getElem? (i := 56) (by decide +kernel))) rfl
theorem w_537 : Cond.selects RX8 yX8_discard yX8_discard ∈ lwG := lwG_of (lwT_3 (List.mem_of_getElem? (i := 57) (by decide +kernel))) rfl
theorem w_538 : Cond.code yX8_discard cX8_discard 2 (some .int) ∈ lwG := lwG_of (lwT_3 (List.mem_of_getElem? (i := 58) (by decide +kernel))) rfl
theorem w_539 : Cond.methodLink RX8 91 yX3_throwAway ∈ lwG := lwG_of (lwT_3 (List.mem_of_getElem? (i := 59) (by decide +kernel))) rfl
theorem w_540 : Cond.instanceMethod yX3_throwAway ∈ lwG := lwG_of (lwT_3 (List.mem_of_getElem? (i := 60) (by decide +kernel))) rfl
theorem w_541 : Cond.selects RX3 yX3_throwAway yX3_throwAway ∈ lwG := lwG_of (lwT_3 (List.mem_of_getElem? (i := 61) (by decide +kernel))) rfl
theorem w_542 : Cond.code yX3_throwAway cX3_throwAway 3 (some .int) ∈ lwG := lwG_of (lwT_3 (List.mem_of_getElem? (i := 62) (by decide +kernel))) rfl
theorem w_543 : Cond.methodLink RL 57 yX8_blend ∈ lwG := lwG_of (lwT_3 (List.mem_of_getElem? (i := 63) (by decide +kernel))) rfl
theorem w_544 : Cond.instanceMethod yX8_blend ∈ lwG := lwG_of (lwT_3 (List.mem_of_getElem? (i := 64) (by decide +kernel))) rfl
theorem w_545 : Cond.selects RX8 yX8_blend yX8_blend ∈ lwG := lwG_of (lwT_3 (List.mem_of_getElem? (i := 65) (by decide +kernel))) rfl
theorem w_546 : Cond.code yX8_blend cX8_blend 3 (some .int) ∈ lwG := lwG_of (lwT_3 (List.mem_of_getElem? (i := 66) (by decide +kernel))) rfl
theorem w_547 : Cond.methodLink RX8 94 yX3_blendIn ∈ lwG := lwG_of (lwT_3 (List.mem_of_getElem? (i := 67) (by decide +kernel))) rfl
theorem w_548 : Cond.instanceMethod yX3_blendIn ∈ lwG := lwG_of (lwT_3 (List.mem_of_getElem? (i := 68) (by decide +kernel))) rfl
theorem w_549 : Cond.selects RX3 yX3_blendIn yX3_blendIn ∈ lwG := lwG_of (lwT_3 (List.mem_of_getElem? (i := 69) (by decide +kernel))) rfl
theorem w_550 : Cond.code yX3_blendIn cX3_blendIn 6 (some .int) ∈ lwG := lwG_of (lwT_3 (List.mem_of_getElem? (i := 70) (by decide +kernel))) rfl
theorem w_551 : Cond.methodLink RL 61 yX8_pass ∈ lwG := lwG_of (lwT_3 (List.mem_of_getElem? (i := 71) (by decide +kernel))) rfl
theorem w_552 : Cond.instanceMethod yX8_pass ∈ lwG := lwG_of (lwT_3 (List.mem_of_getElem? (i := 72) (by decide +kernel))) rfl
theorem w_553 : Cond.selects RX8 yX8_pass yX8_pass ∈ lwG := lwG_of (lwT_3 (List.mem_of_getElem? (i := 73) (by decide +kernel))) rfl
theorem w_554 : Cond.code yX8_pass cX8_pass 2 (some .int) ∈ lwG := lwG_of (lwT_3 (List.mem_of_getElem? (i := 74) (by decide +kernel))) rfl
theorem w_555 : Cond.methodLink RX8 97 yX3_letPass ∈ lwG := lwG_of (lwT_3 (List.mem_of_getElem? (i := 75) (by decide +kernel))) rfl
theorem w_556 : Cond.instanceMethod yX3_letPass ∈ lwG := lwG_of (lwT_3 (List.mem_of_getElem? (i := 76) (by decide +kernel))) rfl
theorem w_557 : Cond.selects RX3 yX3_letPass yX3_letPass ∈ lwG := lwG_of (lwT_3 (List.mem_of_getElem? (i := 77) (by decide +kernel))) rfl
theorem w_558 : Cond.code yX3_letPass cX3_letPass 5 (some .int) ∈ lwG := lwG_of (lwT_3 (List.mem_of_getElem? (i := 78) (by decide +kernel))) rfl
theorem w_559 : Cond.methodLink RL 65 yX8_set ∈ lwG := lwG_of (lwT_3 (List.mem_of_getElem? (i := 79) (by decide +kernel))) rfl
theorem w_560 : Cond.instanceMethod yX8_set ∈ lwG := lwG_of (lwT_3 (List.mem_of_getElem? (i := 80) (by decide +kernel))) rfl
theorem w_561 : Cond.selects RX8 yX8_set yX8_set ∈ lwG := lwG_of (lwT_3 (List.mem_of_getElem? (i := 81) (by decide +kernel))) rfl
theorem w_562 : Cond.code yX8_set cX8_set 3 (some .int) ∈ lwG := lwG_of (lwT_3 (List.mem_of_getElem? (i := 82) (by decide +kernel))) rfl
theorem w_563 : Cond.methodLink RX8 100 yX3_changeSetting ∈ lwG := lwG_of (lwT_3 (List.mem_of_getElem? (i := 83) (by decide +kernel))) rfl
theorem w_564 : Cond.instanceMethod yX3_changeSetting ∈ lwG := lwG_of (lwT_3 (List.mem_of_getElem? (i := 84) (by decide +kernel))) rfl
theorem w_565 : Cond.selects RX3 yX3_changeSetting yX3_changeSetting ∈ lwG := lwG_of (lwT_3 (List.mem_of_getElem? (i := 85) (by decide +kernel))) rfl
theorem w_566 : Cond.code yX3_changeSetting cX3_changeSetting 5 (some .int) ∈ lwG := lwG_of (lwT_3 (List.mem_of_getElem? (i := 86) (by decide +kernel))) rfl
theorem w_567 : Cond.methodLink RL 69 yX8_batchOf ∈ lwG := lwG_of (lwT_3 (List.mem_of_getElem? (i := 87) (by decide +kernel))) rfl
theorem w_568 : Cond.instanceMethod yX8_batchOf ∈ lwG := lwG_of (lwT_3 (List.mem_of_getElem? (i := 88) (by decide +kernel))) rfl
theorem w_569 : Cond.selects RX8 yX8_batchOf yX8_batchOf ∈ lwG := lwG_of (lwT_3 (List.mem_of_getElem? (i := 89) (by decide +kernel))) rfl
theorem w_570 : Cond.code yX8_batchOf cX8_batchOf 4 (some .int) ∈ lwG := lwG_of (lwT_3 (List.mem_of_getElem? (i := 90) (by decide +kernel))) rfl
theorem w_571 : Cond.methodLink RX8 103 yX3_batchAt ∈ lwG := lwG_of (lwT_3 (List.mem_of_getElem? (i := 91) (by decide +kernel))) rfl
theorem w_572 : Cond.methodLink RX8 110 yX0_detail ∈ lwG := lwG_of (lwT_3 (List.mem_of_getElem? (i := 92) (by decide +kernel))) rfl
theorem w_573 : Cond.instanceMethod yX0_detail ∈ lwG := lwG_of (lwT_3 (List.mem_of_getElem? (i := 93) (by decide +kernel))) rfl
theorem w_574 : Cond.selects RX0 yX0_detail yX0_detail ∈ lwG := lwG_of (lwT_3 (List.mem_of_getElem? (i := 94) (by decide +kernel))) rfl
theorem w_575 : Cond.code yX0_detail cX0_detail 3 (some .int) ∈ lwG := lwG_of (lwT_3 (List.mem_of_getElem? (i := 95) (by decide +kernel))) rfl
theorem w_576 : Cond.methodLink RX0 61 yJ9_max_7cf53 ∈ lwG := lwG_of (lwT_3 (List.mem_of_getElem? (i := 96) (by decide +kernel))) rfl
theorem w_577 : Cond.static yJ9_max_7cf53 ∈ lwG := lwG_of (lwT_3 (List.mem_of_getElem? (i := 97) (by decide +kernel))) rfl
theorem w_578 : Cond.code yJ9_max_7cf53 cJ9_max_7cf53 2 (some .int) ∈ lwG := lwG_of (lwT_3 (List.mem_of_getElem? (i := 98) (by decide +kernel))) rfl
theorem w_579 : Cond.methodLink RX0 67 yX0_isRipe ∈ lwG := lwG_of (lwT_3 (List.mem_of_getElem? (i := 99) (by decide +kernel))) rfl
theorem w_580 : Cond.methodLink RL 73 yX8_vesselOf ∈ lwG := lwG_of (lwT_3 (List.mem_of_getElem? (i := 100) (by decide +kernel))) rfl
theorem w_581 : Cond.instanceMethod yX8_vesselOf ∈ lwG := lwG_of (lwT_3 (List.mem_of_getElem? (i := 101) (by decide +kernel))) rfl
theorem w_582 : Cond.selects RX8 yX8_vesselOf yX8_vesselOf ∈ lwG := lwG_of (lwT_3 (List.mem_of_getElem? (i := 102) (by decide +kernel))) rfl
theorem w_583 : Cond.code yX8_vesselOf cX8_vesselOf 5 (some .int) ∈ lwG := lwG_of (lwT_3 (List.mem_of_getElem? (i := 103) (by decide +kernel))) rfl
theorem w_584 : Cond.methodLink RX8 114 yX3_vesselAt ∈ lwG := lwG_of (lwT_3 (List.mem_of_getElem? (i := 104) (by decide +kernel))) rfl
theorem w_585 : Cond.methodLink RX8 118 yX7_detail ∈ lwG := lwG_of (lwT_3 (List.mem_of_getElem? (i := 105) (by decide +kernel))) rfl
theorem w_586 : Cond.instanceMethod yX7_detail ∈ lwG := lwG_of (lwT_3 (List.mem_of_getElem? (i := 106) (by decide +kernel))) rfl
theorem w_587 : Cond.selects RX7 yX7_detail yX7_detail ∈ lwG := lwG_of (lwT_3 (List.mem_of_getElem? (i := 107) (by decide +kernel))) rfl
theorem w_588 : Cond.code yX7_detail cX7_detail 2 (some .int) ∈ lwG := lwG_of (lwT_3 (List.mem_of_getElem? (i := 108) (by decide +kernel))) rfl
theorem w_589 : Cond.methodLink RL 77 yX8_lineOf ∈ lwG := lwG_of (lwT_3 (List.mem_of_getElem? (i := 109) (by decide +kernel))) rfl
theorem w_590 : Cond.instanceMethod yX8_lineOf ∈ lwG := lwG_of (lwT_3 (List.mem_of_getElem? (i := 110) (by decide +kernel))) rfl
theorem w_591 : Cond.selects RX8 yX8_lineOf yX8_lineOf ∈ lwG := lwG_of (lwT_3 (List.mem_of_getElem? (i := 111) (by decide +kernel))) rfl
theorem w_592 : Cond.code yX8_lineOf cX8_lineOf 4 (some .int) ∈ lwG := lwG_of (lwT_3 (List.mem_of_getElem? (i := 112) (by decide +kernel))) rfl
theorem w_593 : Cond.methodLink RX8 121 yX3_lineAt ∈ lwG := lwG_of (lwT_3 (List.mem_of_getElem? (i := 113) (by decide +kernel))) rfl
theorem w_594 : Cond.methodLink RX8 125 yX2_detail ∈ lwG := lwG_of (lwT_3 (List.mem_of_getElem? (i := 114) (by decide +kernel))) rfl
theorem w_595 : Cond.instanceMethod yX2_detail ∈ lwG := lwG_of (lwT_3 (List.mem_of_getElem? (i := 115) (by decide +kernel))) rfl
theorem w_596 : Cond.selects RX2 yX2_detail yX2_detail ∈ lwG := lwG_of (lwT_3 (List.mem_of_getElem? (i := 116) (by decide +kernel))) rfl
theorem w_597 : Cond.code yX2_detail cX2_detail 3 (some .int) ∈ lwG := lwG_of (lwT_3 (List.mem_of_getElem? (i := 117) (by decide +kernel))) rfl
theorem w_598 : Cond.methodLink RX2 22 yJ9_max_7cf53 ∈ lwG := lwG_of (lwT_3 (List.mem_of_getElem? (i := 118) (by decide +kernel))) rfl
theorem w_599 : Cond.methodLink RL 81 yX8_count ∈ lwG := lwG_of (lwT_3 (List.mem_of_getElem? (i := 119) (by decide +kernel))) rfl
theorem w_600 : Cond.instanceMethod yX8_count ∈ lwG := lwG_of (lwT_3 (List.mem_of_getElem? (i := 120) (by decide +kernel))) rfl
theorem w_601 : Cond.selects RX8 yX8_count yX8_count ∈ lwG := lwG_of (lwT_3 (List.mem_of_getElem? (i := 121) (by decide +kernel))) rfl
theorem w_602 : Cond.code yX8_count cX8_count 2 (some .int) ∈ lwG := lwG_of (lwT_3 (List.mem_of_getElem? (i := 122) (by decide +kernel))) rfl
theorem w_603 : Cond.methodLink RX8 138 yX8_entryAt ∈ lwG := lwG_of (lwT_3 (List.mem_of_getElem? (i := 123) (by decide +kernel))) rfl
theorem w_604 : Cond.methodLink RX8 145 yX3_total ∈ lwG := lwG_of (lwT_3 (List.mem_of_getElem? (i := 124) (by decide +kernel))) rfl
theorem w_605 : Cond.instanceMethod yX3_total ∈ lwG := lwG_of (lwT_3 (List.mem_of_getElem? (i := 125) (by decide +kernel))) rfl
theorem w_606 : Cond.selects RX3 yX3_total yX3_total ∈ lwG := lwG_of (lwT_3 (List.mem_of_getElem? (i := 126) (by decide +kernel))) rfl
theorem w_607 : Cond.code yX3_total cX3_total 2 (some .int) ∈ lwG := lwG_of (lwT_3 (List.mem_of_getElem? (i := 127) (by decide +kernel))) rfl
theorem w_608 : Cond.methodLink RX3 270 yX3_batchTotal ∈ lwG := lwG_of (lwT_3 (List.mem_of_getElem? (i := 128) (by decide +kernel))) rfl
theorem w_609 : Cond.instanceMethod yX3_batchTotal ∈ lwG := lwG_of (lwT_3 (List.mem_of_getElem? (i := 129) (by decide +kernel))) rfl
theorem w_610 : Cond.selects RX3 yX3_batchTotal yX3_batchTotal ∈ lwG := lwG_of (lwT_3 (List.mem_of_getElem? (i := 130) (by decide +kernel))) rfl
theorem w_611 : Cond.code yX3_batchTotal cX3_batchTotal 3 (some .int) ∈ lwG := lwG_of (lwT_3 (List.mem_of_getElem? (i := 131) (by decide +kernel))) rfl
theorem w_612 : Cond.methodLink RX3 273 yX3_massTotal ∈ lwG := lwG_of (lwT_3 (List.mem_of_getElem? (i := 132) (by decide +kernel))) rfl
theorem w_613 : Cond.instanceMethod yX3_massTotal ∈ lwG := lwG_of (lwT_3 (List.mem_of_getElem? (i := 133) (by decide +kernel))) rfl
theorem w_614 : Cond.selects RX3 yX3_massTotal yX3_massTotal ∈ lwG := lwG_of (lwT_3 (List.mem_of_getElem? (i := 134) (by decide +kernel))) rfl
theorem w_615 : Cond.code yX3_massTotal cX3_massTotal 3 (some .int) ∈ lwG := lwG_of (lwT_3 (List.mem_of_getElem? (i := 135) (by decide +kernel))) rfl
theorem w_616 : Cond.methodLink RL 85 yX8_targets ∈ lwG := lwG_of (lwT_3 (List.mem_of_getElem? (i := 136) (by decide +kernel))) rfl
theorem w_617 : Cond.instanceMethod yX8_targets ∈ lwG := lwG_of (lwT_3 (List.mem_of_getElem? (i := 137) (by decide +kernel))) rfl
theorem w_618 : Cond.selects RX8 yX8_targets yX8_targets ∈ lwG := lwG_of (lwT_3 (List.mem_of_getElem? (i := 138) (by decide +kernel))) rfl
theorem w_619 : Cond.code yX8_targets cX8_targets 3 (some .int) ∈ lwG := lwG_of (lwT_3 (List.mem_of_getElem? (i := 139) (by decide +kernel))) rfl
theorem w_620 : Cond.methodLink RX8 148 yX3_openTargets ∈ lwG := lwG_of (lwT_3 (List.mem_of_getElem? (i := 140) (by decide +kernel))) rfl
theorem w_621 : Cond.instanceMethod yX3_openTargets ∈ lwG := lwG_of (lwT_3 (List.mem_of_getElem? (i := 141) (by decide +kernel))) rfl
theorem w_622 : Cond.selects RX3 yX3_openTargets yX3_openTargets ∈ lwG := lwG_of (lwT_3 (List.mem_of_getElem? (i := 142) (by decide +kernel))) rfl
theorem w_623 : Cond.code yX3_openTargets cX3_openTargets 4 (some .int) ∈ lwG := lwG_of (lwT_3 (List.mem_of_getElem? (i := 143) (by decide +kernel))) rfl
theorem w_624 : Cond.methodLink RL 89 yX8_quickest ∈ lwG := lwG_of (lwT_3 (List.mem_of_getElem? (i := 144) (by decide +kernel))) rfl
theorem w_625 : Cond.instanceMethod yX8_quickest ∈ lwG := lwG_of (lwT_3 (List.mem_of_getElem? (i := 145) (by decide +kernel))) rfl
theorem w_626 : Cond.selects RX8 yX8_quickest yX8_quickest ∈ lwG := lwG_of (lwT_3 (List.mem_of_getElem? (i := 146) (by decide +kernel))) rfl
theorem w_627 : Cond.code yX8_quickest cX8_quickest 5 (some .int) ∈ lwG := lwG_of (lwT_3 (List.mem_of_getElem? (i := 147) (by decide +kernel))) rfl
theorem w_628 : Cond.methodLink RX8 152 yX3_quickestTarget ∈ lwG := lwG_of (lwT_3 (List.mem_of_getElem? (i := 148) (by decide +kernel))) rfl
theorem w_629 : Cond.instanceMethod yX3_quickestTarget ∈ lwG := lwG_of (lwT_3 (List.mem_of_getElem? (i := 149) (by decide +kernel))) rfl
theorem w_630 : Cond.selects RX3 yX3_quickestTarget yX3_quickestTarget ∈ lwG := lwG_of (lwT_3 (List.mem_of_getElem? (i := 150) (by decide +kernel))) rfl
theorem w_631 : Cond.code yX3_quickestTarget cX3_quickestTarget 6 (some .int) ∈ lwG := lwG_of (lwT_3 (List.mem_of_getElem? (i := 151) (by decide +kernel))) rfl
theorem w_632 : Cond.methodLink RX3 276 yX3_minutesTo ∈ lwG := lwG_of (lwT_3 (List.mem_of_getElem? (i := 152) (by decide +kernel))) rfl
theorem w_633 : Cond.instanceMethod yX3_minutesTo ∈ lwG := lwG_of (lwT_3 (List.mem_of_getElem? (i := 153) (by decide +kernel))) rfl
theorem w_634 : Cond.selects RX3 yX3_minutesTo yX3_minutesTo ∈ lwG := lwG_of (lwT_3 (List.mem_of_getElem? (i := 154) (by decide +kernel))) rfl
theorem w_635 : Cond.code yX3_minutesTo cX3_minutesTo 5 (some .int) ∈ lwG := lwG_of (lwT_3 (List.mem_of_getElem? (i := 155) (by decide +kernel))) rfl
theorem w_636 : Cond.methodLink RX8 155 yX3_minutesTo ∈ lwG := lwG_of (lwT_3 (List.mem_of_getElem? (i := 156) (by decide +kernel))) rfl
theorem w_637 : Cond.methodLink RL 93 yX8_soonest ∈ lwG := lwG_of (lwT_3 (List.mem_of_getElem? (i := 157) (by decide +kernel))) rfl
theorem w_638 : Cond.instanceMethod yX8_soonest ∈ lwG := lwG_of (lwT_3 (List.mem_of_getElem? (i := 158) (by decide +kernel))) rfl
theorem w_639 : Cond.selects RX8 yX8_soonest yX8_soonest ∈ lwG := lwG_of (lwT_3 (List.mem_of_getElem? (i := 159) (by decide +kernel))) rfl
theorem w_640 : Cond.code yX8_soonest cX8_soonest 3 (some .int) ∈ lwG := lwG_of (lwT_3 (List.mem_of_getElem? (i := 160) (by decide +kernel))) rfl
theorem w_641 : Cond.methodLink RX8 159 yX3_earliestEnd ∈ lwG := lwG_of (lwT_3 (List.mem_of_getElem? (i := 161) (by decide +kernel))) rfl
theorem w_642 : Cond.instanceMethod yX3_earliestEnd ∈ lwG := lwG_of (lwT_3 (List.mem_of_getElem? (i := 162) (by decide +kernel))) rfl
theorem w_643 : Cond.selects RX3 yX3_earliestEnd yX3_earliestEnd ∈ lwG := lwG_of (lwT_3 (List.mem_of_getElem? (i := 163) (by decide +kernel))) rfl
theorem w_644 : Cond.code yX3_earliestEnd cX3_earliestEnd 7 (some .int) ∈ lwG := lwG_of (lwT_3 (List.mem_of_getElem? (i := 164) (by decide +kernel))) rfl
theorem w_645 : Cond.methodLink RX3 282 yJ9_max_7cf53 ∈ lwG := lwG_of (lwT_3 (List.mem_of_getElem? (i := 165) (by decide +kernel))) rfl
theorem w_646 : Cond.methodLink RX3 288 yX3_hasVesselFor ∈ lwG := lwG_of (lwT_3 (List.mem_of_getElem? (i := 166) (by decide +kernel))) rfl
theorem w_647 : Cond.instanceMethod yX3_hasVesselFor ∈ lwG := lwG_of (lwT_3 (List.mem_of_getElem? (i := 167) (by decide +kernel))) rfl
theorem w_648 : Cond.selects RX3 yX3_hasVesselFor yX3_hasVesselFor ∈ lwG := lwG_of (lwT_3 (List.mem_of_getElem? (i := 168) (by decide +kernel))) rfl
theorem w_649 : Cond.code yX3_hasVesselFor cX3_hasVesselFor 4 (some .boolean) ∈ lwG := lwG_of (lwT_3 (List.mem_of_getElem? (i := 169) (by decide +kernel))) rfl
theorem w_650 : Cond.methodLink RX3 291 yX7_suits ∈ lwG := lwG_of (lwT_3 (List.mem_of_getElem? (i := 170) (by decide +kernel))) rfl
theorem w_651 : Cond.methodLink RL 97 yX8_urgent ∈ lwG := lwG_of (lwT_3 (List.mem_of_getElem? (i := 171) (by decide +kernel))) rfl
theorem w_652 : Cond.instanceMethod yX8_urgent ∈ lwG := lwG_of (lwT_3 (List.mem_of_getElem? (i := 172) (by decide +kernel))) rfl
theorem w_653 : Cond.selects RX8 yX8_urgent yX8_urgent ∈ lwG := lwG_of (lwT_3 (List.mem_of_getElem? (i := 173) (by decide +kernel))) rfl
theorem w_654 : Cond.code yX8_urgent cX8_urgent 2 (some .int) ∈ lwG := lwG_of (lwT_3 (List.mem_of_getElem? (i := 174) (by decide +kernel))) rfl
theorem w_655 : Cond.methodLink RX8 162 yX3_batchInPlace ∈ lwG := lwG_of (lwT_3 (List.mem_of_getElem? (i := 175) (by decide +kernel))) rfl
theorem w_656 : Cond.instanceMethod yX3_batchInPlace ∈ lwG := lwG_of (lwT_3 (List.mem_of_getElem? (i := 176) (by decide +kernel))) rfl
theorem w_657 : Cond.selects RX3 yX3_batchInPlace yX3_batchInPlace ∈ lwG := lwG_of (lwT_3 (List.mem_of_getElem? (i := 177) (by decide +kernel))) rfl
theorem w_658 : Cond.code yX3_batchInPlace cX3_batchInPlace 3 (some .int) ∈ lwG := lwG_of (lwT_3 (List.mem_of_getElem? (i := 178) (by decide +kernel))) rfl
theorem w_659 : Cond.methodLink RX3 294 yX3_canSpoil ∈ lwG := lwG_of (lwT_3 (List.mem_of_getElem? (i := 179) (by decide +kernel))) rfl
theorem w_660 : Cond.instanceMethod yX3_canSpoil ∈ lwG := lwG_of (lwT_3 (List.mem_of_getElem? (i := 180) (by decide +kernel))) rfl
theorem w_661 : Cond.selects RX3 yX3_canSpoil yX3_canSpoil ∈ lwG := lwG_of (lwT_3 (List.mem_of_getElem? (i := 181) (by decide +kernel))) rfl
theorem w_662 : Cond.code yX3_canSpoil cX3_canSpoil 3 (some .boolean) ∈ lwG := lwG_of (lwT_3 (List.mem_of_getElem? (i := 182) (by decide +kernel))) rfl
theorem w_663 : Cond.methodLink RX3 297 yX3_moreUrgentThan ∈ lwG := lwG_of (lwT_3 (List.mem_of_getElem? (i := 183) (by decide +kernel))) rfl
theorem w_664 : Cond.instanceMethod yX3_moreUrgentThan ∈ lwG := lwG_of (lwT_3 (List.mem_of_getElem? (i := 184) (by decide +kernel))) rfl
theorem w_665 : Cond.selects RX3 yX3_moreUrgentThan yX3_moreUrgentThan ∈ lwG := lwG_of (lwT_3 (List.mem_of_getElem? (i := 185) (by decide +kernel))) rfl
theorem w_666 : Cond.code yX3_moreUrgentThan cX3_moreUrgentThan 8 (some .int) ∈ lwG := lwG_of (lwT_3 (List.mem_of_getElem? (i := 186) (by decide +kernel))) rfl
theorem w_667 : Cond.methodLink RL 101 yX8_undo ∈ lwG := lwG_of (lwT_3 (List.mem_of_getElem? (i := 187) (by decide +kernel))) rfl
theorem w_668 : Cond.instanceMethod yX8_undo ∈ lwG := lwG_of (lwT_3 (List.mem_of_getElem? (i := 188) (by decide +kernel))) rfl
theorem w_669 : Cond.selects RX8 yX8_undo yX8_undo ∈ lwG := lwG_of (lwT_3 (List.mem_of_getElem? (i := 189) (by decide +kernel))) rfl
theorem w_670 : Cond.code yX8_undo cX8_undo 1 (some .int) ∈ lwG := lwG_of (lwT_3 (List.mem_of_getElem? (i := 190) (by decide +kernel))) rfl
theorem w_671 : Cond.methodLink RX8 165 yX1_restore ∈ lwG := lwG_of (lwT_3 (List.mem_of_getElem? (i := 191) (by decide +kernel))) rfl
theorem w_672 : Cond.instanceMethod yX1_restore ∈ lwG := lwG_of (lwT_3 (List.mem_of_getElem? (i := 192) (by decide +kernel))) rfl
theorem w_673 : Cond.selects RX1 yX1_restore yX1_restore ∈ lwG := lwG_of (lwT_3 (List.mem_of_getElem? (i := 193) (by decide +kernel))) rfl
theorem w_674 : Cond.code yX1_restore cX1_restore 2 (some .int) ∈ lwG := lwG_of (lwT_3 (List.mem_of_getElem? (i := 194) (by decide +kernel))) rfl
theorem w_675 : Cond.methodLink RL 106 yX8_type ∈ lwG := lwG_of (lwT_3 (List.mem_of_getElem? (i := 195) (by decide +kernel))) rfl
theorem w_676 : Cond.instanceMethod yX8_type ∈ lwG := lwG_of (lwT_3 (List.mem_of_getElem? (i := 196) (by decide +kernel))) rfl
theorem w_677 : Cond.selects RX8 yX8_type yX8_type ∈ lwG := lwG_of (lwT_3 (List.mem_of_getElem? (i := 197) (by decide +kernel))) rfl
theorem w_678 : Cond.code yX8_type cX8_type 2 (some .int) ∈ lwG := lwG_of (lwT_3 (List.mem_of_getElem? (i := 198) (by decide +kernel))) rfl
theorem w_679 : Cond.methodLink RX8 169 yX5_append ∈ lwG := lwG_of (lwT_3 (List.mem_of_getElem? (i := 199) (by decide +kernel))) rfl
theorem w_680 : Cond.instanceMethod yX5_append ∈ lwG := lwG_of (lwT_3 (List.mem_of_getElem? (i := 200) (by decide +kernel))) rfl
theorem w_681 : Cond.selects RX5 yX5_append yX5_append ∈ lwG := lwG_of (lwT_3 (List.mem_of_getElem? (i := 201) (by decide +kernel))) rfl
theorem w_682 : Cond.code yX5_append cX5_append 2 (some .int) ∈ lwG := lwG_of (lwT_3 (List.mem_of_getElem? (i := 202) (by decide +kernel))) rfl
theorem w_684 : Cond.methodLink RL 110 yX8_clearText ∈ lwG := lwG_of (lwT_3 (List.mem_of_getElem? (i := 204) (by decide +kernel))) rfl
theorem w_685 : Cond.instanceMethod yX8_clearText ∈ lwG := lwG_of (lwT_3 (List.mem_of_getElem? (i := 205) (by decide +kernel))) rfl
theorem w_686 : Cond.selects RX8 yX8_clearText yX8_clearText ∈ lwG := lwG_of (lwT_3 (List.mem_of_getElem? (i := 206) (by decide +kernel))) rfl
theorem w_687 : Cond.code yX8_clearText cX8_clearText 2 (some .int) ∈ lwG := lwG_of (lwT_3 (List.mem_of_getElem? (i := 207) (by decide +kernel))) rfl
theorem w_688 : Cond.methodLink RL 114 yX8_fault ∈ lwG := lwG_of (lwT_3 (List.mem_of_getElem? (i := 208) (by decide +kernel))) rfl
theorem w_689 : Cond.instanceMethod yX8_fault ∈ lwG := lwG_of (lwT_3 (List.mem_of_getElem? (i := 209) (by decide +kernel))) rfl
theorem w_690 : Cond.selects RX8 yX8_fault yX8_fault ∈ lwG := lwG_of (lwT_3 (List.mem_of_getElem? (i := 210) (by decide +kernel))) rfl
theorem w_691 : Cond.code yX8_fault cX8_fault 2 (some .int) ∈ lwG := lwG_of (lwT_3 (List.mem_of_getElem? (i := 211) (by decide +kernel))) rfl
theorem w_692 : Cond.methodLink RX8 172 yX8_rehearse ∈ lwG := lwG_of (lwT_3 (List.mem_of_getElem? (i := 212) (by decide +kernel))) rfl
theorem w_694 : Cond.instanceMethod yX8_rehearse ∈ lwG := lwG_of (lwT_3 (List.mem_of_getElem? (i := 214) (by decide +kernel))) rfl
theorem w_695 : Cond.code yX8_rehearse cX8_rehearse 2 (none) ∈ lwG := lwG_of (lwT_3 (List.mem_of_getElem? (i := 215) (by decide +kernel))) rfl
theorem w_696 : Cond.methodLink RX8 181 yX3_copyFrom ∈ lwG := lwG_of (lwT_3 (List.mem_of_getElem? (i := 216) (by decide +kernel))) rfl
theorem w_697 : Cond.methodLink RX8 187 yX5_readCommand ∈ lwG := lwG_of (lwT_3 (List.mem_of_getElem? (i := 217) (by decide +kernel))) rfl
theorem w_698 : Cond.instanceMethod yX5_readCommand ∈ lwG := lwG_of (lwT_3 (List.mem_of_getElem? (i := 218) (by decide +kernel))) rfl
theorem w_699 : Cond.selects RX5 yX5_readCommand yX5_readCommand ∈ lwG := lwG_of (lwT_3 (List.mem_of_getElem? (i := 219) (by decide +kernel))) rfl
theorem w_700 : Cond.code yX5_readCommand cX5_readCommand 5 (some .boolean) ∈ lwG := lwG_of (lwT_3 (List.mem_of_getElem? (i := 220) (by decide +kernel))) rfl
theorem w_701 : Cond.methodLink RX5 27 yX5_signAt ∈ lwG := lwG_of (lwT_3 (List.mem_of_getElem? (i := 221) (by decide +kernel))) rfl
theorem w_702 : Cond.instanceMethod yX5_signAt ∈ lwG := lwG_of (lwT_3 (List.mem_of_getElem? (i := 222) (by decide +kernel))) rfl
theorem w_703 : Cond.selects RX5 yX5_signAt yX5_signAt ∈ lwG := lwG_of (lwT_3 (List.mem_of_getElem? (i := 223) (by decide +kernel))) rfl
theorem w_704 : Cond.code yX5_signAt cX5_signAt 3 (some .char) ∈ lwG := lwG_of (lwT_3 (List.mem_of_getElem? (i := 224) (by decide +kernel))) rfl
theorem w_705 : Cond.methodLink RX5 35 yX5_numbersOf ∈ lwG := lwG_of (lwT_3 (List.mem_of_getElem? (i := 225) (by decide +kernel))) rfl
theorem w_706 : Cond.static yX5_numbersOf ∈ lwG := lwG_of (lwT_3 (List.mem_of_getElem? (i := 226) (by decide +kernel))) rfl
theorem w_707 : Cond.code yX5_numbersOf cX5_numbersOf 1 (some .int) ∈ lwG := lwG_of (lwT_3 (List.mem_of_getElem? (i := 227) (by decide +kernel))) rfl
theorem w_708 : Cond.methodLink RX5 42 yX5_readNumber ∈ lwG := lwG_of (lwT_3 (List.mem_of_getElem? (i := 228) (by decide +kernel))) rfl
theorem w_709 : Cond.instanceMethod yX5_readNumber ∈ lwG := lwG_of (lwT_3 (List.mem_of_getElem? (i := 229) (by decide +kernel))) rfl
theorem w_710 : Cond.selects RX5 yX5_readNumber yX5_readNumber ∈ lwG := lwG_of (lwT_3 (List.mem_of_getElem? (i := 230) (by decide +kernel))) rfl
theorem w_711 : Cond.code yX5_readNumber cX5_readNumber 4 (some .boolean) ∈ lwG := lwG_of (lwT_3 (List.mem_of_getElem? (i := 231) (by decide +kernel))) rfl
theorem w_713 : Cond.methodLink RX8 191 yX8_perform ∈ lwG := lwG_of (lwT_3 (List.mem_of_getElem? (i := 233) (by decide +kernel))) rfl
theorem w_715 : Cond.instanceMethod yX8_perform ∈ lwG := lwG_of (lwT_3 (List.mem_of_getElem? (i := 235) (by decide +kernel))) rfl
theorem w_716 : Cond.code yX8_perform cX8_perform 3 (some .int) ∈ lwG := lwG_of (lwT_3 (List.mem_of_getElem? (i := 236) (by decide +kernel))) rfl
theorem w_717 : Cond.methodLink RX8 195 yX8_reasonOf ∈ lwG := lwG_of (lwT_3 (List.mem_of_getElem? (i := 237) (by decide +kernel))) rfl
theorem w_718 : Cond.static yX8_reasonOf ∈ lwG := lwG_of (lwT_3 (List.mem_of_getElem? (i := 238) (by decide +kernel))) rfl
theorem w_719 : Cond.code yX8_reasonOf cX8_reasonOf 1 (some .int) ∈ lwG := lwG_of (lwT_3 (List.mem_of_getElem? (i := 239) (by decide +kernel))) rfl
theorem w_720 : Cond.methodLink RL 118 yX8_play ∈ lwG := lwG_of (lwT_4 (List.mem_of_getElem? (i := 0) (by decide +kernel))) rfl
theorem w_721 : Cond.instanceMethod yX8_play ∈ lwG := lwG_of (lwT_4 (List.mem_of_getElem? (i := 1) (by decide +kernel))) rfl
theorem w_722 : Cond.selects RX8 yX8_play yX8_play ∈ lwG := lwG_of (lwT_4 (List.mem_of_getElem? (i := 2) (by decide +kernel))) rfl
theorem w_723 : Cond.code yX8_play cX8_play 1 (some .int) ∈ lwG := lwG_of (lwT_4 (List.mem_of_getElem? (i := 3) (by decide +kernel))) rfl
theorem w_724 : Cond.classLink RL 10 RX9 ∈ lwG := lwG_of (lwT_4 (List.mem_of_getElem? (i := 4) (by decide +kernel))) rfl
theorem w_725 : Cond.instantiable RX9 11 ∈ lwG := lwG_of (lwT_4 (List.mem_of_getElem? (i := 5) (by decide +kernel))) rfl
theorem w_726 : Cond.methodLink RL 12 yX9_init ∈ lwG := lwG_of (lwT_4 (List.mem_of_getElem? (i := 6) (by decide +kernel))) rfl
theorem w_727 : Cond.instanceMethod yX9_init ∈ lwG := lwG_of (lwT_4 (List.mem_of_getElem? (i := 7) (by decide +kernel))) rfl
theorem w_728 : Cond.code yX9_init cX9_init 2 (none) ∈ lwG := lwG_of (lwT_4 (List.mem_of_getElem? (i := 8) (by decide +kernel))) rfl
theorem w_729 : Cond.methodLink RX9 1 Lib.objectInit ∈ lwG := lwG_of (lwT_4 (List.mem_of_getElem? (i := 9) (by decide +kernel))) rfl
theorem w_730 : Cond.fieldLink RX9 7 "BatchCellarsModel" "s" "[I" ∈ lwG := lwG_of (lwT_4 (List.mem_of_getElem? (i := 10) (by decide +kernel))) rfl
theorem w_731 : Cond.fieldLink RX9 13 "BatchCellarsModel" "past" "[I" ∈ lwG := lwG_of (lwT_4 (List.mem_of_getElem? (i := 11) (by decide +kernel))) rfl
theorem w_732 : Cond.fieldLink RX9 16 "BatchCellarsModel" "held" "[I" ∈ lwG := lwG_of (lwT_4 (List.mem_of_getElem? (i := 12) (by decide +kernel))) rfl
theorem w_733 : Cond.fieldLink RX9 29 "BatchCellarsModel" "pasts" "I" ∈ lwG := lwG_of (lwT_4 (List.mem_of_getElem? (i := 13) (by decide +kernel))) rfl
theorem w_734 : Cond.fieldLink RX9 25 "BatchCellarsModel" "runs" "Z" ∈ lwG := lwG_of (lwT_4 (List.mem_of_getElem? (i := 14) (by decide +kernel))) rfl
theorem w_735 : Cond.fieldLink RX9 19 "BatchCellarsModel" "text" "[I" ∈ lwG := lwG_of (lwT_4 (List.mem_of_getElem? (i := 15) (by decide +kernel))) rfl
theorem w_736 : Cond.fieldLink RX9 121 "BatchCellarsModel" "typed" "I" ∈ lwG := lwG_of (lwT_4 (List.mem_of_getElem? (i := 16) (by decide +kernel))) rfl
theorem w_737 : Cond.fieldLink RX9 127 "BatchCellarsModel" "spot" "I" ∈ lwG := lwG_of (lwT_4 (List.mem_of_getElem? (i := 17) (by decide +kernel))) rfl
theorem w_738 : Cond.fieldLink RX9 154 "BatchCellarsModel" "cause" "I" ∈ lwG := lwG_of (lwT_4 (List.mem_of_getElem? (i := 18) (by decide +kernel))) rfl
theorem w_739 : Cond.fieldLink RX9 151 "BatchCellarsModel" "commands" "I" ∈ lwG := lwG_of (lwT_4 (List.mem_of_getElem? (i := 19) (by decide +kernel))) rfl
theorem w_740 : Cond.fieldLink RX9 22 "BatchCellarsModel" "told" "[I" ∈ lwG := lwG_of (lwT_4 (List.mem_of_getElem? (i := 20) (by decide +kernel))) rfl
theorem w_764 : Cond.methodLink RL 17 yX9_recipe ∈ lwG := lwG_of (lwT_4 (List.mem_of_getElem? (i := 44) (by decide +kernel))) rfl
theorem w_765 : Cond.instanceMethod yX9_recipe ∈ lwG := lwG_of (lwT_4 (List.mem_of_getElem? (i := 45) (by decide +kernel))) rfl
theorem w_766 : Cond.selects RX9 yX9_recipe yX9_recipe ∈ lwG := lwG_of (lwT_4 (List.mem_of_getElem? (i := 46) (by decide +kernel))) rfl
theorem w_767 : Cond.code yX9_recipe cX9_recipe 3 (some .int) ∈ lwG := lwG_of (lwT_4 (List.mem_of_getElem? (i := 47) (by decide +kernel))) rfl
theorem w_768 : Cond.methodLink RX9 33 yX9_in ∈ lwG := lwG_of (lwT_4 (List.mem_of_getElem? (i := 48) (by decide +kernel))) rfl
theorem w_769 : Cond.static yX9_in ∈ lwG := lwG_of (lwT_4 (List.mem_of_getElem? (i := 49) (by decide +kernel))) rfl
theorem w_770 : Cond.code yX9_in cX9_in 3 (some .boolean) ∈ lwG := lwG_of (lwT_4 (List.mem_of_getElem? (i := 50) (by decide +kernel))) rfl
theorem w_771 : Cond.methodLink RX9 41 yX9_changes ∈ lwG := lwG_of (lwT_4 (List.mem_of_getElem? (i := 51) (by decide +kernel))) rfl
theorem w_773 : Cond.instanceMethod yX9_changes ∈ lwG := lwG_of (lwT_4 (List.mem_of_getElem? (i := 53) (by decide +kernel))) rfl
theorem w_774 : Cond.code yX9_changes cX9_changes 2 (none) ∈ lwG := lwG_of (lwT_4 (List.mem_of_getElem? (i := 54) (by decide +kernel))) rfl
theorem w_775 : Cond.methodLink RL 22 yX9_stage ∈ lwG := lwG_of (lwT_4 (List.mem_of_getElem? (i := 55) (by decide +kernel))) rfl
theorem w_776 : Cond.instanceMethod yX9_stage ∈ lwG := lwG_of (lwT_4 (List.mem_of_getElem? (i := 56) (by decide +kernel))) rfl
theorem w_777 : Cond.selects RX9 yX9_stage yX9_stage ∈ lwG := lwG_of (lwT_4 (List.mem_of_getElem? (i := 57) (by decide +kernel))) rfl
theorem w_778 : Cond.code yX9_stage cX9_stage 8 (some .int) ∈ lwG := lwG_of (lwT_4 (List.mem_of_getElem? (i := 58) (by decide +kernel))) rfl
theorem w_779 : Cond.methodLink RX9 48 yX9_isRecipe ∈ lwG := lwG_of (lwT_4 (List.mem_of_getElem? (i := 59) (by decide +kernel))) rfl
theorem w_781 : Cond.instanceMethod yX9_isRecipe ∈ lwG := lwG_of (lwT_4 (List.mem_of_getElem? (i := 61) (by decide +kernel))) rfl
theorem w_782 : Cond.code yX9_isRecipe cX9_isRecipe 2 (some .boolean) ∈ lwG := lwG_of (lwT_4 (List.mem_of_getElem? (i := 62) (by decide +kernel))) rfl
theorem w_783 : Cond.methodLink RX9 51 yX9_isMade ∈ lwG := lwG_of (lwT_4 (List.mem_of_getElem? (i := 63) (by decide +kernel))) rfl
theorem w_785 : Cond.instanceMethod yX9_isMade ∈ lwG := lwG_of (lwT_4 (List.mem_of_getElem? (i := 65) (by decide +kernel))) rfl
theorem w_786 : Cond.code yX9_isMade cX9_isMade 4 (some .boolean) ∈ lwG := lwG_of (lwT_4 (List.mem_of_getElem? (i := 66) (by decide +kernel))) rfl
theorem w_787 : Cond.methodLink RX9 44 yX9_isBatch ∈ lwG := lwG_of (lwT_4 (List.mem_of_getElem? (i := 67) (by decide +kernel))) rfl
theorem w_789 : Cond.instanceMethod yX9_isBatch ∈ lwG := lwG_of (lwT_4 (List.mem_of_getElem? (i := 69) (by decide +kernel))) rfl
theorem w_790 : Cond.code yX9_isBatch cX9_isBatch 2 (some .boolean) ∈ lwG := lwG_of (lwT_4 (List.mem_of_getElem? (i := 70) (by decide +kernel))) rfl
theorem w_791 : Cond.methodLink RX9 37 yX9_of ∈ lwG := lwG_of (lwT_4 (List.mem_of_getElem? (i := 71) (by decide +kernel))) rfl
theorem w_793 : Cond.instanceMethod yX9_of ∈ lwG := lwG_of (lwT_4 (List.mem_of_getElem? (i := 73) (by decide +kernel))) rfl
theorem w_794 : Cond.code yX9_of cX9_of 3 (some .int) ∈ lwG := lwG_of (lwT_4 (List.mem_of_getElem? (i := 74) (by decide +kernel))) rfl
theorem w_795 : Cond.methodLink RX9 54 yX9_stages ∈ lwG := lwG_of (lwT_4 (List.mem_of_getElem? (i := 75) (by decide +kernel))) rfl
theorem w_797 : Cond.instanceMethod yX9_stages ∈ lwG := lwG_of (lwT_4 (List.mem_of_getElem? (i := 77) (by decide +kernel))) rfl
theorem w_798 : Cond.code yX9_stages cX9_stages 2 (some .int) ∈ lwG := lwG_of (lwT_4 (List.mem_of_getElem? (i := 78) (by decide +kernel))) rfl
theorem w_799 : Cond.methodLink RL 27 yX9_vessel ∈ lwG := lwG_of (lwT_4 (List.mem_of_getElem? (i := 79) (by decide +kernel))) rfl
theorem w_800 : Cond.instanceMethod yX9_vessel ∈ lwG := lwG_of (lwT_4 (List.mem_of_getElem? (i := 80) (by decide +kernel))) rfl
theorem w_801 : Cond.selects RX9 yX9_vessel yX9_vessel ∈ lwG := lwG_of (lwT_4 (List.mem_of_getElem? (i := 81) (by decide +kernel))) rfl
theorem w_802 : Cond.code yX9_vessel cX9_vessel 4 (some .int) ∈ lwG := lwG_of (lwT_4 (List.mem_of_getElem? (i := 82) (by decide +kernel))) rfl
theorem w_803 : Cond.methodLink RX9 58 yX9_putsVessel ∈ lwG := lwG_of (lwT_4 (List.mem_of_getElem? (i := 83) (by decide +kernel))) rfl
theorem w_805 : Cond.instanceMethod yX9_putsVessel ∈ lwG := lwG_of (lwT_4 (List.mem_of_getElem? (i := 85) (by decide +kernel))) rfl
theorem w_806 : Cond.code yX9_putsVessel cX9_putsVessel 4 (none) ∈ lwG := lwG_of (lwT_4 (List.mem_of_getElem? (i := 86) (by decide +kernel))) rfl
theorem w_807 : Cond.methodLink RL 31 yX9_line ∈ lwG := lwG_of (lwT_4 (List.mem_of_getElem? (i := 87) (by decide +kernel))) rfl
theorem w_808 : Cond.instanceMethod yX9_line ∈ lwG := lwG_of (lwT_4 (List.mem_of_getElem? (i := 88) (by decide +kernel))) rfl
theorem w_809 : Cond.selects RX9 yX9_line yX9_line ∈ lwG := lwG_of (lwT_4 (List.mem_of_getElem? (i := 89) (by decide +kernel))) rfl
theorem w_810 : Cond.code yX9_line cX9_line 4 (some .int) ∈ lwG := lwG_of (lwT_4 (List.mem_of_getElem? (i := 90) (by decide +kernel))) rfl
theorem w_811 : Cond.methodLink RX9 62 yX9_bits ∈ lwG := lwG_of (lwT_4 (List.mem_of_getElem? (i := 91) (by decide +kernel))) rfl
theorem w_812 : Cond.static yX9_bits ∈ lwG := lwG_of (lwT_4 (List.mem_of_getElem? (i := 92) (by decide +kernel))) rfl
theorem w_813 : Cond.code yX9_bits cX9_bits 3 (some .int) ∈ lwG := lwG_of (lwT_4 (List.mem_of_getElem? (i := 93) (by decide +kernel))) rfl
theorem w_814 : Cond.methodLink RL 36 yX9_cleaning ∈ lwG := lwG_of (lwT_4 (List.mem_of_getElem? (i := 94) (by decide +kernel))) rfl
theorem w_815 : Cond.instanceMethod yX9_cleaning ∈ lwG := lwG_of (lwT_4 (List.mem_of_getElem? (i := 95) (by decide +kernel))) rfl
theorem w_816 : Cond.selects RX9 yX9_cleaning yX9_cleaning ∈ lwG := lwG_of (lwT_4 (List.mem_of_getElem? (i := 96) (by decide +kernel))) rfl
theorem w_817 : Cond.code yX9_cleaning cX9_cleaning 5 (some .int) ∈ lwG := lwG_of (lwT_4 (List.mem_of_getElem? (i := 97) (by decide +kernel))) rfl
theorem w_818 : Cond.methodLink RL 40 yX9_stageOf ∈ lwG := lwG_of (lwT_4 (List.mem_of_getElem? (i := 98) (by decide +kernel))) rfl
theorem w_819 : Cond.instanceMethod yX9_stageOf ∈ lwG := lwG_of (lwT_4 (List.mem_of_getElem? (i := 99) (by decide +kernel))) rfl
theorem w_820 : Cond.selects RX9 yX9_stageOf yX9_stageOf ∈ lwG := lwG_of (lwT_4 (List.mem_of_getElem? (i := 100) (by decide +kernel))) rfl
theorem w_821 : Cond.code yX9_stageOf cX9_stageOf 4 (some .int) ∈ lwG := lwG_of (lwT_4 (List.mem_of_getElem? (i := 101) (by decide +kernel))) rfl
theorem w_822 : Cond.methodLink RX9 65 yX9_product ∈ lwG := lwG_of (lwT_4 (List.mem_of_getElem? (i := 102) (by decide +kernel))) rfl
theorem w_824 : Cond.instanceMethod yX9_product ∈ lwG := lwG_of (lwT_4 (List.mem_of_getElem? (i := 104) (by decide +kernel))) rfl
theorem w_825 : Cond.code yX9_product cX9_product 2 (some .int) ∈ lwG := lwG_of (lwT_4 (List.mem_of_getElem? (i := 105) (by decide +kernel))) rfl
theorem w_826 : Cond.methodLink RX9 68 yX9_ofStage ∈ lwG := lwG_of (lwT_4 (List.mem_of_getElem? (i := 106) (by decide +kernel))) rfl
theorem w_828 : Cond.instanceMethod yX9_ofStage ∈ lwG := lwG_of (lwT_4 (List.mem_of_getElem? (i := 108) (by decide +kernel))) rfl
theorem w_829 : Cond.code yX9_ofStage cX9_ofStage 4 (some .int) ∈ lwG := lwG_of (lwT_4 (List.mem_of_getElem? (i := 109) (by decide +kernel))) rfl
theorem w_830 : Cond.methodLink RL 44 yX9_begin ∈ lwG := lwG_of (lwT_4 (List.mem_of_getElem? (i := 110) (by decide +kernel))) rfl
theorem w_831 : Cond.instanceMethod yX9_begin ∈ lwG := lwG_of (lwT_4 (List.mem_of_getElem? (i := 111) (by decide +kernel))) rfl
theorem w_832 : Cond.selects RX9 yX9_begin yX9_begin ∈ lwG := lwG_of (lwT_4 (List.mem_of_getElem? (i := 112) (by decide +kernel))) rfl
theorem w_833 : Cond.code yX9_begin cX9_begin 5 (some .int) ∈ lwG := lwG_of (lwT_4 (List.mem_of_getElem? (i := 113) (by decide +kernel))) rfl
theorem w_834 : Cond.methodLink RX9 87 yX9_isVessel ∈ lwG := lwG_of (lwT_4 (List.mem_of_getElem? (i := 114) (by decide +kernel))) rfl
theorem w_836 : Cond.instanceMethod yX9_isVessel ∈ lwG := lwG_of (lwT_4 (List.mem_of_getElem? (i := 116) (by decide +kernel))) rfl
theorem w_837 : Cond.code yX9_isVessel cX9_isVessel 2 (some .boolean) ∈ lwG := lwG_of (lwT_4 (List.mem_of_getElem? (i := 117) (by decide +kernel))) rfl
theorem w_838 : Cond.methodLink RX9 90 yX9_takes ∈ lwG := lwG_of (lwT_4 (List.mem_of_getElem? (i := 118) (by decide +kernel))) rfl
theorem w_840 : Cond.instanceMethod yX9_takes ∈ lwG := lwG_of (lwT_4 (List.mem_of_getElem? (i := 120) (by decide +kernel))) rfl
theorem w_841 : Cond.code yX9_takes cX9_takes 4 (some .boolean) ∈ lwG := lwG_of (lwT_4 (List.mem_of_getElem? (i := 121) (by decide +kernel))) rfl
theorem w_842 : Cond.methodLink RX9 78 yX9_ofVessel ∈ lwG := lwG_of (lwT_4 (List.mem_of_getElem? (i := 122) (by decide +kernel))) rfl
theorem w_844 : Cond.instanceMethod yX9_ofVessel ∈ lwG := lwG_of (lwT_4 (List.mem_of_getElem? (i := 124) (by decide +kernel))) rfl
theorem w_845 : Cond.code yX9_ofVessel cX9_ofVessel 3 (some .int) ∈ lwG := lwG_of (lwT_4 (List.mem_of_getElem? (i := 125) (by decide +kernel))) rfl
theorem w_846 : Cond.methodLink RX9 84 yX9_puts ∈ lwG := lwG_of (lwT_4 (List.mem_of_getElem? (i := 126) (by decide +kernel))) rfl
theorem w_848 : Cond.instanceMethod yX9_puts ∈ lwG := lwG_of (lwT_4 (List.mem_of_getElem? (i := 128) (by decide +kernel))) rfl
theorem w_849 : Cond.code yX9_puts cX9_puts 4 (none) ∈ lwG := lwG_of (lwT_4 (List.mem_of_getElem? (i := 129) (by decide +kernel))) rfl
theorem w_850 : Cond.methodLink RX9 93 yX9_comes ∈ lwG := lwG_of (lwT_4 (List.mem_of_getElem? (i := 130) (by decide +kernel))) rfl
theorem w_852 : Cond.instanceMethod yX9_comes ∈ lwG := lwG_of (lwT_4 (List.mem_of_getElem? (i := 132) (by decide +kernel))) rfl
theorem w_853 : Cond.code yX9_comes cX9_comes 5 (some .int) ∈ lwG := lwG_of (lwT_4 (List.mem_of_getElem? (i := 133) (by decide +kernel))) rfl
theorem w_854 : Cond.methodLink RX9 81 yX9_cleans ∈ lwG := lwG_of (lwT_4 (List.mem_of_getElem? (i := 134) (by decide +kernel))) rfl
theorem w_856 : Cond.instanceMethod yX9_cleans ∈ lwG := lwG_of (lwT_4 (List.mem_of_getElem? (i := 136) (by decide +kernel))) rfl
theorem w_857 : Cond.code yX9_cleans cX9_cleans 3 (some .int) ∈ lwG := lwG_of (lwT_4 (List.mem_of_getElem? (i := 137) (by decide +kernel))) rfl
theorem w_858 : Cond.methodLink RL 48 yX9_move ∈ lwG := lwG_of (lwT_4 (List.mem_of_getElem? (i := 138) (by decide +kernel))) rfl
theorem w_859 : Cond.instanceMethod yX9_move ∈ lwG := lwG_of (lwT_4 (List.mem_of_getElem? (i := 139) (by decide +kernel))) rfl
theorem w_860 : Cond.selects RX9 yX9_move yX9_move ∈ lwG := lwG_of (lwT_4 (List.mem_of_getElem? (i := 140) (by decide +kernel))) rfl
theorem w_861 : Cond.code yX9_move cX9_move 6 (some .int) ∈ lwG := lwG_of (lwT_4 (List.mem_of_getElem? (i := 141) (by decide +kernel))) rfl
theorem w_862 : Cond.methodLink RX9 102 yX9_lineTo ∈ lwG := lwG_of (lwT_4 (List.mem_of_getElem? (i := 142) (by decide +kernel))) rfl
theorem w_864 : Cond.instanceMethod yX9_lineTo ∈ lwG := lwG_of (lwT_4 (List.mem_of_getElem? (i := 144) (by decide +kernel))) rfl
theorem w_865 : Cond.code yX9_lineTo cX9_lineTo 8 (some .int) ∈ lwG := lwG_of (lwT_4 (List.mem_of_getElem? (i := 145) (by decide +kernel))) rfl
theorem w_866 : Cond.methodLink RX9 96 yX9_isRipe ∈ lwG := lwG_of (lwT_4 (List.mem_of_getElem? (i := 146) (by decide +kernel))) rfl
theorem w_868 : Cond.instanceMethod yX9_isRipe ∈ lwG := lwG_of (lwT_4 (List.mem_of_getElem? (i := 148) (by decide +kernel))) rfl
theorem w_869 : Cond.code yX9_isRipe cX9_isRipe 2 (some .boolean) ∈ lwG := lwG_of (lwT_4 (List.mem_of_getElem? (i := 149) (by decide +kernel))) rfl
theorem w_870 : Cond.methodLink RX9 75 yX9_ripeAt ∈ lwG := lwG_of (lwT_4 (List.mem_of_getElem? (i := 150) (by decide +kernel))) rfl
theorem w_872 : Cond.instanceMethod yX9_ripeAt ∈ lwG := lwG_of (lwT_4 (List.mem_of_getElem? (i := 152) (by decide +kernel))) rfl
theorem w_873 : Cond.code yX9_ripeAt cX9_ripeAt 2 (some .int) ∈ lwG := lwG_of (lwT_4 (List.mem_of_getElem? (i := 153) (by decide +kernel))) rfl
theorem w_874 : Cond.methodLink RX9 72 yX9_over ∈ lwG := lwG_of (lwT_4 (List.mem_of_getElem? (i := 154) (by decide +kernel))) rfl
theorem w_876 : Cond.instanceMethod yX9_over ∈ lwG := lwG_of (lwT_4 (List.mem_of_getElem? (i := 156) (by decide +kernel))) rfl
theorem w_877 : Cond.code yX9_over cX9_over 2 (some .int) ∈ lwG := lwG_of (lwT_4 (List.mem_of_getElem? (i := 157) (by decide +kernel))) rfl
theorem w_878 : Cond.methodLink RX9 99 yX9_ofLine ∈ lwG := lwG_of (lwT_4 (List.mem_of_getElem? (i := 158) (by decide +kernel))) rfl
theorem w_880 : Cond.instanceMethod yX9_ofLine ∈ lwG := lwG_of (lwT_4 (List.mem_of_getElem? (i := 160) (by decide +kernel))) rfl
theorem w_881 : Cond.code yX9_ofLine cX9_ofLine 3 (some .int) ∈ lwG := lwG_of (lwT_4 (List.mem_of_getElem? (i := 161) (by decide +kernel))) rfl
theorem w_882 : Cond.methodLink RX9 105 yX9_minutesTo ∈ lwG := lwG_of (lwT_4 (List.mem_of_getElem? (i := 162) (by decide +kernel))) rfl
theorem w_884 : Cond.instanceMethod yX9_minutesTo ∈ lwG := lwG_of (lwT_4 (List.mem_of_getElem? (i := 164) (by decide +kernel))) rfl
theorem w_885 : Cond.code yX9_minutesTo cX9_minutesTo 5 (some .int) ∈ lwG := lwG_of (lwT_4 (List.mem_of_getElem? (i := 165) (by decide +kernel))) rfl
theorem w_886 : Cond.methodLink RL 52 yX9_end ∈ lwG := lwG_of (lwT_4 (List.mem_of_getElem? (i := 166) (by decide +kernel))) rfl
theorem w_887 : Cond.instanceMethod yX9_end ∈ lwG := lwG_of (lwT_4 (List.mem_of_getElem? (i := 167) (by decide +kernel))) rfl
theorem w_888 : Cond.selects RX9 yX9_end yX9_end ∈ lwG := lwG_of (lwT_4 (List.mem_of_getElem? (i := 168) (by decide +kernel))) rfl
theorem w_889 : Cond.code yX9_end cX9_end 3 (some .int) ∈ lwG := lwG_of (lwT_4 (List.mem_of_getElem? (i := 169) (by decide +kernel))) rfl
theorem w_890 : Cond.methodLink RX9 108 yX9_goes ∈ lwG := lwG_of (lwT_4 (List.mem_of_getElem? (i := 170) (by decide +kernel))) rfl
theorem w_892 : Cond.instanceMethod yX9_goes ∈ lwG := lwG_of (lwT_4 (List.mem_of_getElem? (i := 172) (by decide +kernel))) rfl
theorem w_893 : Cond.code yX9_goes cX9_goes 2 (some .int) ∈ lwG := lwG_of (lwT_4 (List.mem_of_getElem? (i := 173) (by decide +kernel))) rfl
theorem w_894 : Cond.methodLink RL 56 yX9_discard ∈ lwG := lwG_of (lwT_4 (List.mem_of_getElem? (i := 174) (by decide +kernel))) rfl
theorem w_895 : Cond.instanceMethod yX9_discard ∈ lwG := lwG_of (lwT_4 (List.mem_of_getElem? (i := 175) (by decide +kernel))) rfl
theorem w_896 : Cond.selects RX9 yX9_discard yX9_discard ∈ lwG := lwG_of (lwT_4 (List.mem_of_getElem? (i := 176) (by decide +kernel))) rfl
theorem w_897 : Cond.code yX9_discard cX9_discard 3 (some .int) ∈ lwG := lwG_of (lwT_4 (List.mem_of_getElem? (i := 177) (by decide +kernel))) rfl
theorem w_898 : Cond.methodLink RL 60 yX9_blend ∈ lwG := lwG_of (lwT_4 (List.mem_of_getElem? (i := 178) (by decide +kernel))) rfl
theorem w_899 : Cond.instanceMethod yX9_blend ∈ lwG := lwG_of (lwT_4 (List.mem_of_getElem? (i := 179) (by decide +kernel))) rfl
theorem w_900 : Cond.selects RX9 yX9_blend yX9_blend ∈ lwG := lwG_of (lwT_4 (List.mem_of_getElem? (i := 180) (by decide +kernel))) rfl
theorem w_901 : Cond.code yX9_blend cX9_blend 3 (some .int) ∈ lwG := lwG_of (lwT_4 (List.mem_of_getElem? (i := 181) (by decide +kernel))) rfl
theorem w_902 : Cond.methodLink RX9 111 yX9_canBlend ∈ lwG := lwG_of (lwT_4 (List.mem_of_getElem? (i := 182) (by decide +kernel))) rfl
theorem w_904 : Cond.instanceMethod yX9_canBlend ∈ lwG := lwG_of (lwT_4 (List.mem_of_getElem? (i := 184) (by decide +kernel))) rfl
theorem w_905 : Cond.code yX9_canBlend cX9_canBlend 4 (some .boolean) ∈ lwG := lwG_of (lwT_4 (List.mem_of_getElem? (i := 185) (by decide +kernel))) rfl
theorem w_906 : Cond.methodLink RL 64 yX9_pass ∈ lwG := lwG_of (lwT_4 (List.mem_of_getElem? (i := 186) (by decide +kernel))) rfl
theorem w_907 : Cond.instanceMethod yX9_pass ∈ lwG := lwG_of (lwT_4 (List.mem_of_getElem? (i := 187) (by decide +kernel))) rfl
theorem w_908 : Cond.selects RX9 yX9_pass yX9_pass ∈ lwG := lwG_of (lwT_4 (List.mem_of_getElem? (i := 188) (by decide +kernel))) rfl
theorem w_909 : Cond.code yX9_pass cX9_pass 4 (some .int) ∈ lwG := lwG_of (lwT_4 (List.mem_of_getElem? (i := 189) (by decide +kernel))) rfl
theorem w_910 : Cond.methodLink RX9 115 yX9_goodTill ∈ lwG := lwG_of (lwT_4 (List.mem_of_getElem? (i := 190) (by decide +kernel))) rfl
theorem w_912 : Cond.instanceMethod yX9_goodTill ∈ lwG := lwG_of (lwT_4 (List.mem_of_getElem? (i := 192) (by decide +kernel))) rfl
theorem w_913 : Cond.code yX9_goodTill cX9_goodTill 2 (some .int) ∈ lwG := lwG_of (lwT_4 (List.mem_of_getElem? (i := 193) (by decide +kernel))) rfl
theorem w_914 : Cond.methodLink RL 68 yX9_set ∈ lwG := lwG_of (lwT_4 (List.mem_of_getElem? (i := 194) (by decide +kernel))) rfl
theorem w_915 : Cond.instanceMethod yX9_set ∈ lwG := lwG_of (lwT_4 (List.mem_of_getElem? (i := 195) (by decide +kernel))) rfl
theorem w_916 : Cond.selects RX9 yX9_set yX9_set ∈ lwG := lwG_of (lwT_4 (List.mem_of_getElem? (i := 196) (by decide +kernel))) rfl
theorem w_917 : Cond.code yX9_set cX9_set 4 (some .int) ∈ lwG := lwG_of (lwT_4 (List.mem_of_getElem? (i := 197) (by decide +kernel))) rfl
theorem w_918 : Cond.methodLink RL 72 yX9_batchOf ∈ lwG := lwG_of (lwT_4 (List.mem_of_getElem? (i := 198) (by decide +kernel))) rfl
theorem w_919 : Cond.instanceMethod yX9_batchOf ∈ lwG := lwG_of (lwT_4 (List.mem_of_getElem? (i := 199) (by decide +kernel))) rfl
theorem w_920 : Cond.selects RX9 yX9_batchOf yX9_batchOf ∈ lwG := lwG_of (lwT_4 (List.mem_of_getElem? (i := 200) (by decide +kernel))) rfl
theorem w_921 : Cond.code yX9_batchOf cX9_batchOf 3 (some .int) ∈ lwG := lwG_of (lwT_4 (List.mem_of_getElem? (i := 201) (by decide +kernel))) rfl
theorem w_922 : Cond.methodLink RL 76 yX9_vesselOf ∈ lwG := lwG_of (lwT_4 (List.mem_of_getElem? (i := 202) (by decide +kernel))) rfl
theorem w_923 : Cond.instanceMethod yX9_vesselOf ∈ lwG := lwG_of (lwT_4 (List.mem_of_getElem? (i := 203) (by decide +kernel))) rfl
theorem w_924 : Cond.selects RX9 yX9_vesselOf yX9_vesselOf ∈ lwG := lwG_of (lwT_4 (List.mem_of_getElem? (i := 204) (by decide +kernel))) rfl
theorem w_925 : Cond.code yX9_vesselOf cX9_vesselOf 4 (some .int) ∈ lwG := lwG_of (lwT_4 (List.mem_of_getElem? (i := 205) (by decide +kernel))) rfl
theorem w_926 : Cond.methodLink RL 80 yX9_lineOf ∈ lwG := lwG_of (lwT_4 (List.mem_of_getElem? (i := 206) (by decide +kernel))) rfl
theorem w_927 : Cond.instanceMethod yX9_lineOf ∈ lwG := lwG_of (lwT_4 (List.mem_of_getElem? (i := 207) (by decide +kernel))) rfl
theorem w_928 : Cond.selects RX9 yX9_lineOf yX9_lineOf ∈ lwG := lwG_of (lwT_4 (List.mem_of_getElem? (i := 208) (by decide +kernel))) rfl
theorem w_929 : Cond.code yX9_lineOf cX9_lineOf 4 (some .int) ∈ lwG := lwG_of (lwT_4 (List.mem_of_getElem? (i := 209) (by decide +kernel))) rfl
theorem w_930 : Cond.methodLink RL 84 yX9_count ∈ lwG := lwG_of (lwT_4 (List.mem_of_getElem? (i := 210) (by decide +kernel))) rfl
theorem w_931 : Cond.instanceMethod yX9_count ∈ lwG := lwG_of (lwT_4 (List.mem_of_getElem? (i := 211) (by decide +kernel))) rfl
theorem w_932 : Cond.selects RX9 yX9_count yX9_count ∈ lwG := lwG_of (lwT_4 (List.mem_of_getElem? (i := 212) (by decide +kernel))) rfl
theorem w_933 : Cond.code yX9_count cX9_count 2 (some .int) ∈ lwG := lwG_of (lwT_4 (List.mem_of_getElem? (i := 213) (by decide +kernel))) rfl
theorem w_934 : Cond.methodLink RX9 118 yX9_ofBatches ∈ lwG := lwG_of (lwT_4 (List.mem_of_getElem? (i := 214) (by decide +kernel))) rfl
theorem w_936 : Cond.instanceMethod yX9_ofBatches ∈ lwG := lwG_of (lwT_4 (List.mem_of_getElem? (i := 216) (by decide +kernel))) rfl
theorem w_937 : Cond.code yX9_ofBatches cX9_ofBatches 4 (some .int) ∈ lwG := lwG_of (lwT_4 (List.mem_of_getElem? (i := 217) (by decide +kernel))) rfl
theorem w_938 : Cond.methodLink RL 88 yX9_targets ∈ lwG := lwG_of (lwT_4 (List.mem_of_getElem? (i := 218) (by decide +kernel))) rfl
theorem w_939 : Cond.instanceMethod yX9_targets ∈ lwG := lwG_of (lwT_4 (List.mem_of_getElem? (i := 219) (by decide +kernel))) rfl
theorem w_940 : Cond.selects RX9 yX9_targets yX9_targets ∈ lwG := lwG_of (lwT_4 (List.mem_of_getElem? (i := 220) (by decide +kernel))) rfl
theorem w_941 : Cond.code yX9_targets cX9_targets 4 (some .int) ∈ lwG := lwG_of (lwT_4 (List.mem_of_getElem? (i := 221) (by decide +kernel))) rfl
theorem w_942 : Cond.methodLink RL 92 yX9_quickest ∈ lwG := lwG_of (lwT_4 (List.mem_of_getElem? (i := 222) (by decide +kernel))) rfl
theorem w_943 : Cond.instanceMethod yX9_quickest ∈ lwG := lwG_of (lwT_4 (List.mem_of_getElem? (i := 223) (by decide +kernel))) rfl
theorem w_944 : Cond.selects RX9 yX9_quickest yX9_quickest ∈ lwG := lwG_of (lwT_4 (List.mem_of_getElem? (i := 224) (by decide +kernel))) rfl
theorem w_945 : Cond.code yX9_quickest cX9_quickest 9 (some .int) ∈ lwG := lwG_of (lwT_4 (List.mem_of_getElem? (i := 225) (by decide +kernel))) rfl
theorem w_946 : Cond.methodLink RL 96 yX9_soonest ∈ lwG := lwG_of (lwT_4 (List.mem_of_getElem? (i := 226) (by decide +kernel))) rfl
theorem w_947 : Cond.instanceMethod yX9_soonest ∈ lwG := lwG_of (lwT_4 (List.mem_of_getElem? (i := 227) (by decide +kernel))) rfl
theorem w_948 : Cond.selects RX9 yX9_soonest yX9_soonest ∈ lwG := lwG_of (lwT_4 (List.mem_of_getElem? (i := 228) (by decide +kernel))) rfl
theorem w_949 : Cond.code yX9_soonest cX9_soonest 6 (some .int) ∈ lwG := lwG_of (lwT_4 (List.mem_of_getElem? (i := 229) (by decide +kernel))) rfl
theorem w_950 : Cond.methodLink RX9 124 yX9_isRoom ∈ lwG := lwG_of (lwT_4 (List.mem_of_getElem? (i := 230) (by decide +kernel))) rfl
theorem w_952 : Cond.instanceMethod yX9_isRoom ∈ lwG := lwG_of (lwT_4 (List.mem_of_getElem? (i := 232) (by decide +kernel))) rfl
theorem w_953 : Cond.code yX9_isRoom cX9_isRoom 5 (some .boolean) ∈ lwG := lwG_of (lwT_4 (List.mem_of_getElem? (i := 233) (by decide +kernel))) rfl
theorem w_954 : Cond.methodLink RL 100 yX9_urgent ∈ lwG := lwG_of (lwT_4 (List.mem_of_getElem? (i := 234) (by decide +kernel))) rfl
theorem w_955 : Cond.instanceMethod yX9_urgent ∈ lwG := lwG_of (lwT_4 (List.mem_of_getElem? (i := 235) (by decide +kernel))) rfl
theorem w_956 : Cond.selects RX9 yX9_urgent yX9_urgent ∈ lwG := lwG_of (lwT_4 (List.mem_of_getElem? (i := 236) (by decide +kernel))) rfl
theorem w_957 : Cond.code yX9_urgent cX9_urgent 8 (some .int) ∈ lwG := lwG_of (lwT_4 (List.mem_of_getElem? (i := 237) (by decide +kernel))) rfl
theorem w_958 : Cond.methodLink RL 105 yX9_undo ∈ lwG := lwG_of (lwT_4 (List.mem_of_getElem? (i := 238) (by decide +kernel))) rfl
theorem w_959 : Cond.instanceMethod yX9_undo ∈ lwG := lwG_of (lwT_4 (List.mem_of_getElem? (i := 239) (by decide +kernel))) rfl
theorem w_960 : Cond.selects RX9 yX9_undo yX9_undo ∈ lwG := lwG_of (lwT_5 (List.mem_of_getElem? (i := 0) (by decide +kernel))) rfl
theorem w_961 : Cond.code yX9_undo cX9_undo 2 (some .int) ∈ lwG := lwG_of (lwT_5 (List.mem_of_getElem? (i := 1) (by decide +kernel))) rfl
theorem w_962 : Cond.methodLink RL 109 yX9_type ∈ lwG := lwG_of (lwT_5 (List.mem_of_getElem? (i := 2) (by decide +kernel))) rfl
theorem w_963 : Cond.instanceMethod yX9_type ∈ lwG := lwG_of (lwT_5 (List.mem_of_getElem? (i := 3) (by decide +kernel))) rfl
theorem w_964 : Cond.selects RX9 yX9_type yX9_type ∈ lwG := lwG_of (lwT_5 (List.mem_of_getElem? (i := 4) (by decide +kernel))) rfl
theorem w_965 : Cond.code yX9_type cX9_type 2 (some .int) ∈ lwG := lwG_of (lwT_5 (List.mem_of_getElem? (i := 5) (by decide +kernel))) rfl
theorem w_966 : Cond.methodLink RL 113 yX9_clearText ∈ lwG := lwG_of (lwT_5 (List.mem_of_getElem? (i := 6) (by decide +kernel))) rfl
theorem w_967 : Cond.instanceMethod yX9_clearText ∈ lwG := lwG_of (lwT_5 (List.mem_of_getElem? (i := 7) (by decide +kernel))) rfl
theorem w_968 : Cond.selects RX9 yX9_clearText yX9_clearText ∈ lwG := lwG_of (lwT_5 (List.mem_of_getElem? (i := 8) (by decide +kernel))) rfl
theorem w_969 : Cond.code yX9_clearText cX9_clearText 2 (some .int) ∈ lwG := lwG_of (lwT_5 (List.mem_of_getElem? (i := 9) (by decide +kernel))) rfl
theorem w_970 : Cond.methodLink RL 117 yX9_fault ∈ lwG := lwG_of (lwT_5 (List.mem_of_getElem? (i := 10) (by decide +kernel))) rfl
theorem w_971 : Cond.instanceMethod yX9_fault ∈ lwG := lwG_of (lwT_5 (List.mem_of_getElem? (i := 11) (by decide +kernel))) rfl
theorem w_972 : Cond.selects RX9 yX9_fault yX9_fault ∈ lwG := lwG_of (lwT_5 (List.mem_of_getElem? (i := 12) (by decide +kernel))) rfl
theorem w_973 : Cond.code yX9_fault cX9_fault 3 (some .int) ∈ lwG := lwG_of (lwT_5 (List.mem_of_getElem? (i := 13) (by decide +kernel))) rfl
theorem w_974 : Cond.methodLink RX9 166 yX9_copies ∈ lwG := lwG_of (lwT_5 (List.mem_of_getElem? (i := 14) (by decide +kernel))) rfl
theorem w_975 : Cond.static yX9_copies ∈ lwG := lwG_of (lwT_5 (List.mem_of_getElem? (i := 15) (by decide +kernel))) rfl
theorem w_976 : Cond.code yX9_copies cX9_copies 3 (none) ∈ lwG := lwG_of (lwT_5 (List.mem_of_getElem? (i := 16) (by decide +kernel))) rfl
theorem w_977 : Cond.methodLink RX9 170 yX9_plays ∈ lwG := lwG_of (lwT_5 (List.mem_of_getElem? (i := 17) (by decide +kernel))) rfl
theorem w_979 : Cond.instanceMethod yX9_plays ∈ lwG := lwG_of (lwT_5 (List.mem_of_getElem? (i := 19) (by decide +kernel))) rfl
theorem w_980 : Cond.code yX9_plays cX9_plays 6 (some .int) ∈ lwG := lwG_of (lwT_5 (List.mem_of_getElem? (i := 20) (by decide +kernel))) rfl
theorem w_981 : Cond.methodLink RX9 157 yX9_numbersOf ∈ lwG := lwG_of (lwT_5 (List.mem_of_getElem? (i := 21) (by decide +kernel))) rfl
theorem w_982 : Cond.static yX9_numbersOf ∈ lwG := lwG_of (lwT_5 (List.mem_of_getElem? (i := 22) (by decide +kernel))) rfl
theorem w_983 : Cond.code yX9_numbersOf cX9_numbersOf 1 (some .int) ∈ lwG := lwG_of (lwT_5 (List.mem_of_getElem? (i := 23) (by decide +kernel))) rfl
theorem w_984 : Cond.methodLink RX9 160 yX9_number ∈ lwG := lwG_of (lwT_5 (List.mem_of_getElem? (i := 24) (by decide +kernel))) rfl
theorem w_986 : Cond.instanceMethod yX9_number ∈ lwG := lwG_of (lwT_5 (List.mem_of_getElem? (i := 26) (by decide +kernel))) rfl
theorem w_987 : Cond.code yX9_number cX9_number 5 (some .boolean) ∈ lwG := lwG_of (lwT_5 (List.mem_of_getElem? (i := 27) (by decide +kernel))) rfl
theorem w_988 : Cond.methodLink RX9 130 yX9_isAt ∈ lwG := lwG_of (lwT_5 (List.mem_of_getElem? (i := 28) (by decide +kernel))) rfl
theorem w_990 : Cond.instanceMethod yX9_isAt ∈ lwG := lwG_of (lwT_5 (List.mem_of_getElem? (i := 30) (by decide +kernel))) rfl
theorem w_991 : Cond.code yX9_isAt cX9_isAt 3 (some .boolean) ∈ lwG := lwG_of (lwT_5 (List.mem_of_getElem? (i := 31) (by decide +kernel))) rfl
theorem w_992 : Cond.methodLink RX9 163 yX9_calls ∈ lwG := lwG_of (lwT_5 (List.mem_of_getElem? (i := 32) (by decide +kernel))) rfl
theorem w_994 : Cond.instanceMethod yX9_calls ∈ lwG := lwG_of (lwT_5 (List.mem_of_getElem? (i := 34) (by decide +kernel))) rfl
theorem w_995 : Cond.code yX9_calls cX9_calls 2 (some .int) ∈ lwG := lwG_of (lwT_5 (List.mem_of_getElem? (i := 35) (by decide +kernel))) rfl
theorem w_996 : Cond.methodLink RX9 133 yX9_begin ∈ lwG := lwG_of (lwT_5 (List.mem_of_getElem? (i := 36) (by decide +kernel))) rfl
theorem w_997 : Cond.methodLink RX9 136 yX9_move ∈ lwG := lwG_of (lwT_5 (List.mem_of_getElem? (i := 37) (by decide +kernel))) rfl
theorem w_998 : Cond.methodLink RX9 139 yX9_end ∈ lwG := lwG_of (lwT_5 (List.mem_of_getElem? (i := 38) (by decide +kernel))) rfl
theorem w_999 : Cond.methodLink RX9 142 yX9_discard ∈ lwG := lwG_of (lwT_5 (List.mem_of_getElem? (i := 39) (by decide +kernel))) rfl
theorem w_1000 : Cond.methodLink RX9 145 yX9_blend ∈ lwG := lwG_of (lwT_5 (List.mem_of_getElem? (i := 40) (by decide +kernel))) rfl
theorem w_1001 : Cond.methodLink RX9 148 yX9_pass ∈ lwG := lwG_of (lwT_5 (List.mem_of_getElem? (i := 41) (by decide +kernel))) rfl
theorem w_1002 : Cond.methodLink RL 121 yX9_play ∈ lwG := lwG_of (lwT_5 (List.mem_of_getElem? (i := 42) (by decide +kernel))) rfl
theorem w_1003 : Cond.instanceMethod yX9_play ∈ lwG := lwG_of (lwT_5 (List.mem_of_getElem? (i := 43) (by decide +kernel))) rfl
theorem w_1004 : Cond.selects RX9 yX9_play yX9_play ∈ lwG := lwG_of (lwT_5 (List.mem_of_getElem? (i := 44) (by decide +kernel))) rfl
theorem w_1005 : Cond.code yX9_play cX9_play 2 (some .int) ∈ lwG := lwG_of (lwT_5 (List.mem_of_getElem? (i := 45) (by decide +kernel))) rfl
theorem wp_0 : Cond.selects RX8 yX8_rehearse yX8_rehearse ∈ lwG := lwG_of (List.mem_append_left _ (List.mem_map.mpr ⟨(yX8_rehearse, 7), List.mem_of_getElem? (i := 0) (by decide +kernel), rfl⟩)) rfl
theorem wp_1 : Cond.selects RX8 yX8_perform yX8_perform ∈ lwG := lwG_of (List.mem_append_left _ (List.mem_map.mpr ⟨(yX8_perform, 7), List.mem_of_getElem? (i := 1) (by decide +kernel), rfl⟩)) rfl
theorem wp_2 : Cond.selects RX9 yX9_changes yX9_changes ∈ lwG := lwG_of (List.mem_append_left _ (List.mem_map.mpr ⟨(yX9_changes, 11), List.mem_of_getElem? (i := 2) (by decide +kernel), rfl⟩)) rfl
theorem wp_3 : Cond.selects RX9 yX9_isRecipe yX9_isRecipe ∈ lwG := lwG_of (List.mem_append_left _ (List.mem_map.mpr ⟨(yX9_isRecipe, 11), List.mem_of_getElem? (i := 3) (by decide +kernel), rfl⟩)) rfl
theorem wp_4 : Cond.selects RX9 yX9_isMade yX9_isMade ∈ lwG := lwG_of (List.mem_append_left _ (List.mem_map.mpr ⟨(yX9_isMade, 11), List.mem_of_getElem? (i := 4) (by decide +kernel), rfl⟩)) rfl
theorem wp_5 : Cond.selects RX9 yX9_isBatch yX9_isBatch ∈ lwG := lwG_of (List.mem_append_left _ (List.mem_map.mpr ⟨(yX9_isBatch, 11), List.mem_of_getElem? (i := 5) (by decide +kernel), rfl⟩)) rfl
theorem wp_6 : Cond.selects RX9 yX9_of yX9_of ∈ lwG := lwG_of (List.mem_append_left _ (List.mem_map.mpr ⟨(yX9_of, 11), List.mem_of_getElem? (i := 6) (by decide +kernel), rfl⟩)) rfl
theorem wp_7 : Cond.selects RX9 yX9_stages yX9_stages ∈ lwG := lwG_of (List.mem_append_left _ (List.mem_map.mpr ⟨(yX9_stages, 11), List.mem_of_getElem? (i := 7) (by decide +kernel), rfl⟩)) rfl
theorem wp_8 : Cond.selects RX9 yX9_putsVessel yX9_putsVessel ∈ lwG := lwG_of (List.mem_append_left _ (List.mem_map.mpr ⟨(yX9_putsVessel, 11), List.mem_of_getElem? (i := 8) (by decide +kernel), rfl⟩)) rfl
theorem wp_9 : Cond.selects RX9 yX9_product yX9_product ∈ lwG := lwG_of (List.mem_append_left _ (List.mem_map.mpr ⟨(yX9_product, 11), List.mem_of_getElem? (i := 9) (by decide +kernel), rfl⟩)) rfl
theorem wp_10 : Cond.selects RX9 yX9_ofStage yX9_ofStage ∈ lwG := lwG_of (List.mem_append_left _ (List.mem_map.mpr ⟨(yX9_ofStage, 11), List.mem_of_getElem? (i := 10) (by decide +kernel), rfl⟩)) rfl
theorem wp_11 : Cond.selects RX9 yX9_isVessel yX9_isVessel ∈ lwG := lwG_of (List.mem_append_left _ (List.mem_map.mpr ⟨(yX9_isVessel, 11), List.mem_of_getElem? (i := 11) (by decide +kernel), rfl⟩)) rfl
theorem wp_12 : Cond.selects RX9 yX9_takes yX9_takes ∈ lwG := lwG_of (List.mem_append_left _ (List.mem_map.mpr ⟨(yX9_takes, 11), List.mem_of_getElem? (i := 12) (by decide +kernel), rfl⟩)) rfl
theorem wp_13 : Cond.selects RX9 yX9_ofVessel yX9_ofVessel ∈ lwG := lwG_of (List.mem_append_left _ (List.mem_map.mpr ⟨(yX9_ofVessel, 11), List.mem_of_getElem? (i := 13) (by decide +kernel), rfl⟩)) rfl
theorem wp_14 : Cond.selects RX9 yX9_puts yX9_puts ∈ lwG := lwG_of (List.mem_append_left _ (List.mem_map.mpr ⟨(yX9_puts, 11), List.mem_of_getElem? (i := 14) (by decide +kernel), rfl⟩)) rfl
theorem wp_15 : Cond.selects RX9 yX9_comes yX9_comes ∈ lwG := lwG_of (List.mem_append_left _ (List.mem_map.mpr ⟨(yX9_comes, 11), List.mem_of_getElem? (i := 15) (by decide +kernel), rfl⟩)) rfl
theorem wp_16 : Cond.selects RX9 yX9_cleans yX9_cleans ∈ lwG := lwG_of (List.mem_append_left _ (List.mem_map.mpr ⟨(yX9_cleans, 11), List.mem_of_getElem? (i := 16) (by decide +kernel), rfl⟩)) rfl
theorem wp_17 : Cond.selects RX9 yX9_lineTo yX9_lineTo ∈ lwG := lwG_of (List.mem_append_left _ (List.mem_map.mpr ⟨(yX9_lineTo, 11), List.mem_of_getElem? (i := 17) (by decide +kernel), rfl⟩)) rfl
theorem wp_18 : Cond.selects RX9 yX9_isRipe yX9_isRipe ∈ lwG := lwG_of (List.mem_append_left _ (List.mem_map.mpr ⟨(yX9_isRipe, 11), List.mem_of_getElem? (i := 18) (by decide +kernel), rfl⟩)) rfl
theorem wp_19 : Cond.selects RX9 yX9_ripeAt yX9_ripeAt ∈ lwG := lwG_of (List.mem_append_left _ (List.mem_map.mpr ⟨(yX9_ripeAt, 11), List.mem_of_getElem? (i := 19) (by decide +kernel), rfl⟩)) rfl
theorem wp_20 : Cond.selects RX9 yX9_over yX9_over ∈ lwG := lwG_of (List.mem_append_left _ (List.mem_map.mpr ⟨(yX9_over, 11), List.mem_of_getElem? (i := 20) (by decide +kernel), rfl⟩)) rfl
theorem wp_21 : Cond.selects RX9 yX9_ofLine yX9_ofLine ∈ lwG := lwG_of (List.mem_append_left _ (List.mem_map.mpr ⟨(yX9_ofLine, 11), List.mem_of_getElem? (i := 21) (by decide +kernel), rfl⟩)) rfl
theorem wp_22 : Cond.selects RX9 yX9_minutesTo yX9_minutesTo ∈ lwG := lwG_of (List.mem_append_left _ (List.mem_map.mpr ⟨(yX9_minutesTo, 11), List.mem_of_getElem? (i := 22) (by decide +kernel), rfl⟩)) rfl
theorem wp_23 : Cond.selects RX9 yX9_goes yX9_goes ∈ lwG := lwG_of (List.mem_append_left _ (List.mem_map.mpr ⟨(yX9_goes, 11), List.mem_of_getElem? (i := 23) (by decide +kernel), rfl⟩)) rfl
theorem wp_24 : Cond.selects RX9 yX9_canBlend yX9_canBlend ∈ lwG := lwG_of (List.mem_append_left _ (List.mem_map.mpr ⟨(yX9_canBlend, 11), List.mem_of_getElem? (i := 24) (by decide +kernel), rfl⟩)) rfl
theorem wp_25 : Cond.selects RX9 yX9_goodTill yX9_goodTill ∈ lwG := lwG_of (List.mem_append_left _ (List.mem_map.mpr ⟨(yX9_goodTill, 11), List.mem_of_getElem? (i := 25) (by decide +kernel), rfl⟩)) rfl
theorem wp_26 : Cond.selects RX9 yX9_ofBatches yX9_ofBatches ∈ lwG := lwG_of (List.mem_append_left _ (List.mem_map.mpr ⟨(yX9_ofBatches, 11), List.mem_of_getElem? (i := 26) (by decide +kernel), rfl⟩)) rfl
theorem wp_27 : Cond.selects RX9 yX9_isRoom yX9_isRoom ∈ lwG := lwG_of (List.mem_append_left _ (List.mem_map.mpr ⟨(yX9_isRoom, 11), List.mem_of_getElem? (i := 27) (by decide +kernel), rfl⟩)) rfl
theorem wp_28 : Cond.selects RX9 yX9_plays yX9_plays ∈ lwG := lwG_of (List.mem_append_left _ (List.mem_map.mpr ⟨(yX9_plays, 11), List.mem_of_getElem? (i := 28) (by decide +kernel), rfl⟩)) rfl
theorem wp_29 : Cond.selects RX9 yX9_number yX9_number ∈ lwG := lwG_of (List.mem_append_left _ (List.mem_map.mpr ⟨(yX9_number, 11), List.mem_of_getElem? (i := 29) (by decide +kernel), rfl⟩)) rfl
theorem wp_30 : Cond.selects RX9 yX9_isAt yX9_isAt ∈ lwG := lwG_of (List.mem_append_left _ (List.mem_map.mpr ⟨(yX9_isAt, 11), List.mem_of_getElem? (i := 30) (by decide +kernel), rfl⟩)) rfl
theorem wp_31 : Cond.selects RX9 yX9_calls yX9_calls ∈ lwG := lwG_of (List.mem_append_left _ (List.mem_map.mpr ⟨(yX9_calls, 11), List.mem_of_getElem? (i := 31) (by decide +kernel), rfl⟩)) rfl
set_option maxRecDepth 20000 in
theorem inG0 : ∀ w ∈ u_ws RX0 TX0 13, w ∈ lwG := by decide +kernel
theorem okC0 : bc_C 0 RX0 TX0 13 tyX0 := ⟨rfl, inG0, rfl, by decide, tyX0_ok, nmX0, by decide +kernel⟩
set_option maxRecDepth 20000 in
theorem inG1 : ∀ w ∈ u_ws RX1 TX1 3, w ∈ lwG := by decide +kernel
theorem okC1 : bc_C 1 RX1 TX1 3 tyX1 := ⟨rfl, inG1, rfl, by decide, tyX1_ok, nmX1, by decide +kernel⟩
set_option maxRecDepth 20000 in
theorem inG2 : ∀ w ∈ u_ws RX2 TX2 4, w ∈ lwG := by decide +kernel
theorem okC2 : bc_C 2 RX2 TX2 4 tyX2 := ⟨rfl, inG2, rfl, by decide, tyX2_ok, nmX2, by decide +kernel⟩
set_option maxRecDepth 20000 in
theorem inG3 : ∀ w ∈ u_ws RX3 TX3 16, w ∈ lwG := by decide +kernel
theorem okC3 : bc_C 3 RX3 TX3 16 tyX3 := ⟨rfl, inG3, rfl, by decide, tyX3_ok, nmX3, by decide +kernel⟩
set_option maxRecDepth 20000 in
theorem inG4 : ∀ w ∈ u_ws RX4 TX4 3, w ∈ lwG := by decide +kernel
theorem okC4 : bc_C 4 RX4 TX4 3 tyX4 := ⟨rfl, inG4, rfl, by decide, tyX4_ok, nmX4, by decide +kernel⟩
set_option maxRecDepth 20000 in
theorem inG5 : ∀ w ∈ u_ws RX5 TX5 5, w ∈ lwG := by decide +kernel
theorem okC5 : bc_C 5 RX5 TX5 5 tyX5 := ⟨rfl, inG5, rfl, by decide, tyX5_ok, nmX5, by decide +kernel⟩
set_option maxRecDepth 20000 in
theorem inG6 : ∀ w ∈ u_ws RX6 TX6 4, w ∈ lwG := by decide +kernel
theorem okC6 : bc_C 6 RX6 TX6 4 tyX6 := ⟨rfl, inG6, rfl, by decide, tyX6_ok, nmX6, by decide +kernel⟩
set_option maxRecDepth 20000 in
theorem inG7 : ∀ w ∈ u_ws RX7 TX7 5, w ∈ lwG := by decide +kernel
theorem okC7 : bc_C 7 RX7 TX7 5 tyX7 := ⟨rfl, inG7, rfl, by decide, tyX7_ok, nmX7, by decide +kernel⟩
set_option maxRecDepth 20000 in
theorem inG8 : ∀ w ∈ u_ws RX8 TX8 7, w ∈ lwG := by decide +kernel
theorem okC8 : bc_C 8 RX8 TX8 7 tyX8 := ⟨rfl, inG8, rfl, by decide, tyX8_ok, nmX8, by decide +kernel⟩
set_option maxRecDepth 20000 in
theorem inG9 : ∀ w ∈ u_ws RX9 TX9 11, w ∈ lwG := by decide +kernel
theorem okC9 : bc_C 9 RX9 TX9 11 tyX9 := ⟨rfl, inG9, rfl, by decide, tyX9_ok, nmX9, by decide +kernel⟩
theorem f_X6_7 : bc_F RX6 7 6 0 (.int) false := ⟨RX6, TX6, 4, tyX6, okC6, by decide, w_48, rfl, rfl, rfl⟩
theorem f_X3_128 : bc_F RX3 128 6 0 (.int) false := ⟨RX6, TX6, 4, tyX6, okC6, by decide, w_49, rfl, rfl, rfl⟩
theorem f_X6_13 : bc_F RX6 13 6 1 (.int) false := ⟨RX6, TX6, 4, tyX6, okC6, by decide, w_50, rfl, rfl, rfl⟩
theorem f_X0_50 : bc_F RX0 50 6 1 (.int) false := ⟨RX6, TX6, 4, tyX6, okC6, by decide, w_51, rfl, rfl, rfl⟩
theorem f_X3_133 : bc_F RX3 133 6 1 (.int) false := ⟨RX6, TX6, 4, tyX6, okC6, by decide, w_52, rfl, rfl, rfl⟩
theorem f_X6_16 : bc_F RX6 16 6 2 (.int) false := ⟨RX6, TX6, 4, tyX6, okC6, by decide, w_53, rfl, rfl, rfl⟩
theorem f_X0_55 : bc_F RX0 55 6 2 (.int) false := ⟨RX6, TX6, 4, tyX6, okC6, by decide, w_54, rfl, rfl, rfl⟩
theorem f_X3_136 : bc_F RX3 136 6 2 (.int) false := ⟨RX6, TX6, 4, tyX6, okC6, by decide, w_55, rfl, rfl, rfl⟩
theorem f_X6_19 : bc_F RX6 19 6 3 (.int) false := ⟨RX6, TX6, 4, tyX6, okC6, by decide, w_56, rfl, rfl, rfl⟩
theorem f_X0_58 : bc_F RX0 58 6 3 (.int) false := ⟨RX6, TX6, 4, tyX6, okC6, by decide, w_57, rfl, rfl, rfl⟩
theorem f_X3_139 : bc_F RX3 139 6 3 (.int) false := ⟨RX6, TX6, 4, tyX6, okC6, by decide, w_58, rfl, rfl, rfl⟩
theorem f_X4_18 : bc_F RX4 18 4 0 (.int) false := ⟨RX4, TX4, 3, tyX4, okC4, by decide, w_69, rfl, rfl, rfl⟩
theorem f_X8_73 : bc_F RX8 73 4 0 (.int) false := ⟨RX4, TX4, 3, tyX4, okC4, by decide, w_70, rfl, rfl, rfl⟩
theorem f_X3_114 : bc_F RX3 114 4 0 (.int) false := ⟨RX4, TX4, 3, tyX4, okC4, by decide, w_71, rfl, rfl, rfl⟩
theorem f_X4_22 : bc_F RX4 22 4 1 (.int) false := ⟨RX4, TX4, 3, tyX4, okC4, by decide, w_72, rfl, rfl, rfl⟩
theorem f_X3_117 : bc_F RX3 117 4 1 (.int) false := ⟨RX4, TX4, 3, tyX4, okC4, by decide, w_73, rfl, rfl, rfl⟩
theorem f_X4_11 : bc_F RX4 11 4 2 (.array (.object "BatchCellars$Stage")) true := ⟨RX4, TX4, 3, tyX4, okC4, by decide, w_74, rfl, rfl, rfl⟩
theorem f_X7_18 : bc_F RX7 18 7 0 (.int) false := ⟨RX7, TX7, 5, tyX7, okC7, by decide, w_87, rfl, rfl, rfl⟩
theorem f_X3_149 : bc_F RX3 149 7 0 (.int) false := ⟨RX7, TX7, 5, tyX7, okC7, by decide, w_88, rfl, rfl, rfl⟩
theorem f_X7_21 : bc_F RX7 21 7 1 (.int) false := ⟨RX7, TX7, 5, tyX7, okC7, by decide, w_89, rfl, rfl, rfl⟩
theorem f_X3_150 : bc_F RX3 150 7 1 (.int) false := ⟨RX7, TX7, 5, tyX7, okC7, by decide, w_90, rfl, rfl, rfl⟩
theorem f_X7_9 : bc_F RX7 9 7 2 (.int) false := ⟨RX7, TX7, 5, tyX7, okC7, by decide, w_91, rfl, rfl, rfl⟩
theorem f_X3_199 : bc_F RX3 199 7 2 (.int) false := ⟨RX7, TX7, 5, tyX7, okC7, by decide, w_92, rfl, rfl, rfl⟩
theorem f_X7_15 : bc_F RX7 15 7 3 (.int) false := ⟨RX7, TX7, 5, tyX7, okC7, by decide, w_93, rfl, rfl, rfl⟩
theorem f_X3_202 : bc_F RX3 202 7 3 (.int) false := ⟨RX7, TX7, 5, tyX7, okC7, by decide, w_94, rfl, rfl, rfl⟩
theorem f_X7_24 : bc_F RX7 24 7 4 (.int) false := ⟨RX7, TX7, 5, tyX7, okC7, by decide, w_95, rfl, rfl, rfl⟩
theorem f_X3_196 : bc_F RX3 196 7 4 (.int) false := ⟨RX7, TX7, 5, tyX7, okC7, by decide, w_96, rfl, rfl, rfl⟩
theorem f_X2_7 : bc_F RX2 7 2 0 (.int) false := ⟨RX2, TX2, 4, tyX2, okC2, by decide, w_113, rfl, rfl, rfl⟩
theorem f_X3_163 : bc_F RX3 163 2 0 (.int) false := ⟨RX2, TX2, 4, tyX2, okC2, by decide, w_114, rfl, rfl, rfl⟩
theorem f_X2_13 : bc_F RX2 13 2 1 (.int) false := ⟨RX2, TX2, 4, tyX2, okC2, by decide, w_115, rfl, rfl, rfl⟩
theorem f_X3_165 : bc_F RX3 165 2 1 (.int) false := ⟨RX2, TX2, 4, tyX2, okC2, by decide, w_116, rfl, rfl, rfl⟩
theorem f_X2_16 : bc_F RX2 16 2 2 (.int) false := ⟨RX2, TX2, 4, tyX2, okC2, by decide, w_117, rfl, rfl, rfl⟩
theorem f_X3_227 : bc_F RX3 227 2 2 (.int) false := ⟨RX2, TX2, 4, tyX2, okC2, by decide, w_118, rfl, rfl, rfl⟩
theorem f_X2_19 : bc_F RX2 19 2 3 (.int) false := ⟨RX2, TX2, 4, tyX2, okC2, by decide, w_119, rfl, rfl, rfl⟩
theorem f_X3_230 : bc_F RX3 230 2 3 (.int) false := ⟨RX2, TX2, 4, tyX2, okC2, by decide, w_120, rfl, rfl, rfl⟩
theorem f_X0_7 : bc_F RX0 7 0 0 (.boolean) false := ⟨RX0, TX0, 13, tyX0, okC0, by decide, w_135, rfl, rfl, rfl⟩
theorem f_X3_102 : bc_F RX3 102 0 0 (.boolean) false := ⟨RX0, TX0, 13, tyX0, okC0, by decide, w_136, rfl, rfl, rfl⟩
theorem f_X0_13 : bc_F RX0 13 0 1 (.int) false := ⟨RX0, TX0, 13, tyX0, okC0, by decide, w_137, rfl, rfl, rfl⟩
theorem f_X3_142 : bc_F RX3 142 0 1 (.int) false := ⟨RX0, TX0, 13, tyX0, okC0, by decide, w_138, rfl, rfl, rfl⟩
theorem f_X0_17 : bc_F RX0 17 0 2 (.int) false := ⟨RX0, TX0, 13, tyX0, okC0, by decide, w_139, rfl, rfl, rfl⟩
theorem f_X3_220 : bc_F RX3 220 0 2 (.int) false := ⟨RX0, TX0, 13, tyX0, okC0, by decide, w_140, rfl, rfl, rfl⟩
theorem f_X0_20 : bc_F RX0 20 0 3 (.int) false := ⟨RX0, TX0, 13, tyX0, okC0, by decide, w_141, rfl, rfl, rfl⟩
theorem f_X3_261 : bc_F RX3 261 0 3 (.int) false := ⟨RX0, TX0, 13, tyX0, okC0, by decide, w_142, rfl, rfl, rfl⟩
theorem f_X0_23 : bc_F RX0 23 0 4 (.int) false := ⟨RX0, TX0, 13, tyX0, okC0, by decide, w_143, rfl, rfl, rfl⟩
theorem f_X3_221 : bc_F RX3 221 0 4 (.int) false := ⟨RX0, TX0, 13, tyX0, okC0, by decide, w_144, rfl, rfl, rfl⟩
theorem f_X0_26 : bc_F RX0 26 0 5 (.int) false := ⟨RX0, TX0, 13, tyX0, okC0, by decide, w_145, rfl, rfl, rfl⟩
theorem f_X3_264 : bc_F RX3 264 0 5 (.int) false := ⟨RX0, TX0, 13, tyX0, okC0, by decide, w_146, rfl, rfl, rfl⟩
theorem f_X0_29 : bc_F RX0 29 0 6 (.boolean) false := ⟨RX0, TX0, 13, tyX0, okC0, by decide, w_147, rfl, rfl, rfl⟩
theorem f_X3_251 : bc_F RX3 251 0 6 (.boolean) false := ⟨RX0, TX0, 13, tyX0, okC0, by decide, w_148, rfl, rfl, rfl⟩
theorem f_X0_32 : bc_F RX0 32 0 7 (.int) false := ⟨RX0, TX0, 13, tyX0, okC0, by decide, w_149, rfl, rfl, rfl⟩
theorem f_X3_236 : bc_F RX3 236 0 7 (.int) false := ⟨RX0, TX0, 13, tyX0, okC0, by decide, w_150, rfl, rfl, rfl⟩
theorem f_X0_35 : bc_F RX0 35 0 8 (.int) false := ⟨RX0, TX0, 13, tyX0, okC0, by decide, w_151, rfl, rfl, rfl⟩
theorem f_X3_245 : bc_F RX3 245 0 8 (.int) false := ⟨RX0, TX0, 13, tyX0, okC0, by decide, w_152, rfl, rfl, rfl⟩
theorem f_X0_38 : bc_F RX0 38 0 9 (.int) false := ⟨RX0, TX0, 13, tyX0, okC0, by decide, w_153, rfl, rfl, rfl⟩
theorem f_X0_41 : bc_F RX0 41 0 10 (.int) false := ⟨RX0, TX0, 13, tyX0, okC0, by decide, w_154, rfl, rfl, rfl⟩
theorem f_X0_44 : bc_F RX0 44 0 11 (.int) false := ⟨RX0, TX0, 13, tyX0, okC0, by decide, w_155, rfl, rfl, rfl⟩
theorem f_X3_279 : bc_F RX3 279 0 11 (.int) false := ⟨RX0, TX0, 13, tyX0, okC0, by decide, w_156, rfl, rfl, rfl⟩
theorem f_X0_47 : bc_F RX0 47 0 12 (.int) false := ⟨RX0, TX0, 13, tyX0, okC0, by decide, w_157, rfl, rfl, rfl⟩
theorem f_X3_267 : bc_F RX3 267 0 12 (.int) false := ⟨RX0, TX0, 13, tyX0, okC0, by decide, w_158, rfl, rfl, rfl⟩
theorem f_X3_11 : bc_F RX3 11 3 0 (.array (.object "BatchCellars$Recipe")) true := ⟨RX3, TX3, 16, tyX3, okC3, by decide, w_189, rfl, rfl, rfl⟩
theorem f_X3_61 : bc_F RX3 61 3 1 (.int) false := ⟨RX3, TX3, 16, tyX3, okC3, by decide, w_190, rfl, rfl, rfl⟩
theorem f_X3_19 : bc_F RX3 19 3 2 (.array (.object "BatchCellars$Vessel")) true := ⟨RX3, TX3, 16, tyX3, okC3, by decide, w_191, rfl, rfl, rfl⟩
theorem f_X3_65 : bc_F RX3 65 3 3 (.int) false := ⟨RX3, TX3, 16, tyX3, okC3, by decide, w_192, rfl, rfl, rfl⟩
theorem f_X3_25 : bc_F RX3 25 3 4 (.array (.object "BatchCellars$Line")) true := ⟨RX3, TX3, 16, tyX3, okC3, by decide, w_193, rfl, rfl, rfl⟩
theorem f_X3_68 : bc_F RX3 68 3 5 (.int) false := ⟨RX3, TX3, 16, tyX3, okC3, by decide, w_194, rfl, rfl, rfl⟩
theorem f_X3_31 : bc_F RX3 31 3 6 (.array (.object "BatchCellars$Batch")) true := ⟨RX3, TX3, 16, tyX3, okC3, by decide, w_195, rfl, rfl, rfl⟩
theorem f_X3_35 : bc_F RX3 35 3 7 (.array .int) true := ⟨RX3, TX3, 16, tyX3, okC3, by decide, w_196, rfl, rfl, rfl⟩
theorem f_X3_39 : bc_F RX3 39 3 8 (.array .int) true := ⟨RX3, TX3, 16, tyX3, okC3, by decide, w_197, rfl, rfl, rfl⟩
theorem f_X8_134 : bc_F RX8 134 3 8 (.array .int) true := ⟨RX3, TX3, 16, tyX3, okC3, by decide, w_198, rfl, rfl, rfl⟩
theorem f_X3_42 : bc_F RX3 42 3 9 (.array .int) true := ⟨RX3, TX3, 16, tyX3, okC3, by decide, w_199, rfl, rfl, rfl⟩
theorem f_X8_142 : bc_F RX8 142 3 9 (.array .int) true := ⟨RX3, TX3, 16, tyX3, okC3, by decide, w_200, rfl, rfl, rfl⟩
theorem f_X3_71 : bc_F RX3 71 3 10 (.int) false := ⟨RX3, TX3, 16, tyX3, okC3, by decide, w_201, rfl, rfl, rfl⟩
theorem f_X8_107 : bc_F RX8 107 3 10 (.int) false := ⟨RX3, TX3, 16, tyX3, okC3, by decide, w_202, rfl, rfl, rfl⟩
theorem f_X3_74 : bc_F RX3 74 3 11 (.int) false := ⟨RX3, TX3, 16, tyX3, okC3, by decide, w_203, rfl, rfl, rfl⟩
theorem f_X3_77 : bc_F RX3 77 3 12 (.int) false := ⟨RX3, TX3, 16, tyX3, okC3, by decide, w_204, rfl, rfl, rfl⟩
theorem f_X3_80 : bc_F RX3 80 3 13 (.int) false := ⟨RX3, TX3, 16, tyX3, okC3, by decide, w_205, rfl, rfl, rfl⟩
theorem f_X3_83 : bc_F RX3 83 3 14 (.int) false := ⟨RX3, TX3, 16, tyX3, okC3, by decide, w_206, rfl, rfl, rfl⟩
theorem f_X3_86 : bc_F RX3 86 3 15 (.int) false := ⟨RX3, TX3, 16, tyX3, okC3, by decide, w_207, rfl, rfl, rfl⟩
theorem f_X1_11 : bc_F RX1 11 1 0 (.array (.object "BatchCellars$Plant")) true := ⟨RX1, TX1, 3, tyX1, okC1, by decide, w_250, rfl, rfl, rfl⟩
theorem f_X1_18 : bc_F RX1 18 1 1 (.int) false := ⟨RX1, TX1, 3, tyX1, okC1, by decide, w_251, rfl, rfl, rfl⟩
theorem f_X1_26 : bc_F RX1 26 1 2 (.int) false := ⟨RX1, TX1, 3, tyX1, okC1, by decide, w_252, rfl, rfl, rfl⟩
theorem f_X8_128 : bc_F RX8 128 1 2 (.int) false := ⟨RX1, TX1, 3, tyX1, okC1, by decide, w_253, rfl, rfl, rfl⟩
theorem f_X5_9 : bc_F RX5 9 5 0 (.array .char) true := ⟨RX5, TX5, 5, tyX5, okC5, by decide, w_267, rfl, rfl, rfl⟩
theorem f_X5_23 : bc_F RX5 23 5 1 (.int) false := ⟨RX5, TX5, 5, tyX5, okC5, by decide, w_268, rfl, rfl, rfl⟩
theorem f_X8_131 : bc_F RX8 131 5 1 (.int) false := ⟨RX5, TX5, 5, tyX5, okC5, by decide, w_269, rfl, rfl, rfl⟩
theorem f_X5_31 : bc_F RX5 31 5 2 (.char) false := ⟨RX5, TX5, 5, tyX5, okC5, by decide, w_270, rfl, rfl, rfl⟩
theorem f_X8_204 : bc_F RX8 204 5 2 (.char) false := ⟨RX5, TX5, 5, tyX5, okC5, by decide, w_271, rfl, rfl, rfl⟩
theorem f_X5_15 : bc_F RX5 15 5 3 (.array .int) true := ⟨RX5, TX5, 5, tyX5, okC5, by decide, w_272, rfl, rfl, rfl⟩
theorem f_X8_201 : bc_F RX8 201 5 3 (.array .int) true := ⟨RX5, TX5, 5, tyX5, okC5, by decide, w_273, rfl, rfl, rfl⟩
theorem f_X5_39 : bc_F RX5 39 5 4 (.int) false := ⟨RX5, TX5, 5, tyX5, okC5, by decide, w_274, rfl, rfl, rfl⟩
theorem f_X8_198 : bc_F RX8 198 5 4 (.int) false := ⟨RX5, TX5, 5, tyX5, okC5, by decide, w_275, rfl, rfl, rfl⟩
theorem f_X8_10 : bc_F RX8 10 8 0 (.object "BatchCellars$Plant") true := ⟨RX8, TX8, 7, tyX8, okC8, by decide, w_288, rfl, rfl, rfl⟩
theorem f_X8_16 : bc_F RX8 16 8 1 (.object "BatchCellars$Plant") true := ⟨RX8, TX8, 7, tyX8, okC8, by decide, w_289, rfl, rfl, rfl⟩
theorem f_X8_22 : bc_F RX8 22 8 2 (.object "BatchCellars$History") true := ⟨RX8, TX8, 7, tyX8, okC8, by decide, w_290, rfl, rfl, rfl⟩
theorem f_X8_29 : bc_F RX8 29 8 3 (.object "BatchCellars$Script") true := ⟨RX8, TX8, 7, tyX8, okC8, by decide, w_291, rfl, rfl, rfl⟩
theorem f_X8_175 : bc_F RX8 175 8 4 (.int) false := ⟨RX8, TX8, 7, tyX8, okC8, by decide, w_292, rfl, rfl, rfl⟩
theorem f_X8_178 : bc_F RX8 178 8 5 (.int) false := ⟨RX8, TX8, 7, tyX8, okC8, by decide, w_293, rfl, rfl, rfl⟩
theorem f_X8_184 : bc_F RX8 184 8 6 (.int) false := ⟨RX8, TX8, 7, tyX8, okC8, by decide, w_294, rfl, rfl, rfl⟩
theorem f_X9_7 : bc_F RX9 7 9 0 (.array .int) true := ⟨RX9, TX9, 11, tyX9, okC9, by decide, w_730, rfl, rfl, rfl⟩
theorem f_X9_13 : bc_F RX9 13 9 1 (.array .int) true := ⟨RX9, TX9, 11, tyX9, okC9, by decide, w_731, rfl, rfl, rfl⟩
theorem f_X9_16 : bc_F RX9 16 9 2 (.array .int) true := ⟨RX9, TX9, 11, tyX9, okC9, by decide, w_732, rfl, rfl, rfl⟩
theorem f_X9_29 : bc_F RX9 29 9 3 (.int) false := ⟨RX9, TX9, 11, tyX9, okC9, by decide, w_733, rfl, rfl, rfl⟩
theorem f_X9_25 : bc_F RX9 25 9 4 (.boolean) false := ⟨RX9, TX9, 11, tyX9, okC9, by decide, w_734, rfl, rfl, rfl⟩
theorem f_X9_19 : bc_F RX9 19 9 5 (.array .int) true := ⟨RX9, TX9, 11, tyX9, okC9, by decide, w_735, rfl, rfl, rfl⟩
theorem f_X9_121 : bc_F RX9 121 9 6 (.int) false := ⟨RX9, TX9, 11, tyX9, okC9, by decide, w_736, rfl, rfl, rfl⟩
theorem f_X9_127 : bc_F RX9 127 9 7 (.int) false := ⟨RX9, TX9, 11, tyX9, okC9, by decide, w_737, rfl, rfl, rfl⟩
theorem f_X9_154 : bc_F RX9 154 9 8 (.int) false := ⟨RX9, TX9, 11, tyX9, okC9, by decide, w_738, rfl, rfl, rfl⟩
theorem f_X9_151 : bc_F RX9 151 9 9 (.int) false := ⟨RX9, TX9, 11, tyX9, okC9, by decide, w_739, rfl, rfl, rfl⟩
theorem f_X9_22 : bc_F RX9 22 9 10 (.array .int) true := ⟨RX9, TX9, 11, tyX9, okC9, by decide, w_740, rfl, rfl, rfl⟩
theorem x_X4_17 : (RX4, 17, yX6_init) ∈ bc_nx := by decide +kernel
theorem x_X3_46 : (RX3, 46, yX7_init) ∈ bc_nx := by decide +kernel
theorem x_X3_47 : (RX3, 47, yX2_init) ∈ bc_nx := by decide +kernel
theorem x_X3_48 : (RX3, 48, yX0_init) ∈ bc_nx := by decide +kernel
theorem x_X3_49 : (RX3, 49, yX8_putEntry) ∈ bc_nx := by decide +kernel
theorem x_X8_28 : (RX8, 28, yX5_init) ∈ bc_nx := by decide +kernel
theorem x_X3_57 : (RX3, 57, yX8_copyEntries) ∈ bc_nx := by decide +kernel
theorem x_X3_106 : (RX3, 106, yX8_isWithin) ∈ bc_nx := by decide +kernel
theorem x_X3_168 : (RX3, 168, yX8_entryAt) ∈ bc_nx := by decide +kernel
theorem x_X5_19 : (RX5, 19, yX8_isWithin) ∈ bc_nx := by decide +kernel
theorem x_X5_46 : (RX5, 46, yX8_putEntry) ∈ bc_nx := by decide +kernel
abbrev mX8_init : BcM := (yX8_init, cX8_init, 1, none, 5, 103, 334, 1979)
theorem okX8_init : OkI mX8_init 0 := ⟨⟨w_18, w_1, by decide, by decide, by decide +kernel⟩, w_17, rfl, rfl⟩
abbrev mX3_init : BcM := (yX3_init, cX3_init, 2, none, 3, 61, 46, 253)
theorem okX3_init : OkI mX3_init 0 := ⟨⟨w_26, w_2, by decide, by decide, by decide +kernel⟩, w_25, rfl, rfl⟩
abbrev mX4_init : BcM := (yX4_init, cX4_init, 2, none, 2, 40, 5, 20)
theorem okX4_init : OkI mX4_init 0 := ⟨⟨w_39, w_3, by decide, by decide, by decide +kernel⟩, w_38, rfl, rfl⟩
abbrev mX6_init : BcM := (yX6_init, cX6_init, 1, none, 1, 20, 0, 0)
theorem okX6_init : OkI mX6_init 0 := ⟨⟨w_46, w_4, by decide, by decide, by decide +kernel⟩, w_45, rfl, rfl⟩
abbrev mX7_init : BcM := (yX7_init, cX7_init, 1, none, 1, 20, 0, 0)
theorem okX7_init : OkI mX7_init 0 := ⟨⟨w_85, w_5, by decide, by decide, by decide +kernel⟩, w_84, rfl, rfl⟩
abbrev mX2_init : BcM := (yX2_init, cX2_init, 1, none, 1, 20, 0, 0)
theorem okX2_init : OkI mX2_init 0 := ⟨⟨w_111, w_6, by decide, by decide, by decide +kernel⟩, w_110, rfl, rfl⟩
abbrev mX0_init : BcM := (yX0_init, cX0_init, 1, none, 1, 20, 0, 0)
theorem okX0_init : OkI mX0_init 0 := ⟨⟨w_133, w_7, by decide, by decide, by decide +kernel⟩, w_132, rfl, rfl⟩
abbrev mX8_putEntry : BcM := (yX8_putEntry, cX8_putEntry, 3, none, 0, 0, 0, 0)
theorem okX8_putEntry : OkS mX8_putEntry 3 := ⟨⟨w_188, w_1, by decide, by decide, by decide +kernel⟩, w_187⟩
abbrev mX1_init : BcM := (yX1_init, cX1_init, 2, none, 4, 82, 236, 1350)
theorem okX1_init : OkI mX1_init 0 := ⟨⟨w_245, w_8, by decide, by decide, by decide +kernel⟩, w_244, rfl, rfl⟩
abbrev mX5_init : BcM := (yX5_init, cX5_init, 1, none, 1, 20, 2, 83)
theorem okX5_init : OkI mX5_init 0 := ⟨⟨w_265, w_9, by decide, by decide, by decide +kernel⟩, w_264, rfl, rfl⟩
abbrev mX8_recipe : BcM := (yX8_recipe, cX8_recipe, 2, some .int, 5, 111, 0, 0)
theorem okX8_recipe : OkV mX8_recipe 1 := ⟨⟨w_313, w_1, by decide, by decide, by decide +kernel⟩, w_311, w_312⟩
abbrev mX1_prepare : BcM := (yX1_prepare, cX1_prepare, 2, none, 4, 90, 0, 0)
theorem okX1_prepare : OkV mX1_prepare 1 := ⟨⟨w_317, w_8, by decide, by decide, by decide +kernel⟩, w_315, w_316⟩
abbrev mX3_copyFrom : BcM := (yX3_copyFrom, cX3_copyFrom, 2, none, 3, 69, 0, 0)
theorem okX3_copyFrom : OkV mX3_copyFrom 1 := ⟨⟨w_321, w_2, by decide, by decide, by decide +kernel⟩, w_319, w_320⟩
abbrev mX3_copyParts : BcM := (yX3_copyParts, cX3_copyParts, 3, none, 2, 43, 0, 0)
theorem okX3_copyParts : OkV mX3_copyParts 1 := ⟨⟨w_325, w_2, by decide, by decide, by decide +kernel⟩, w_323, w_324⟩
abbrev mX4_copyFrom : BcM := (yX4_copyFrom, cX4_copyFrom, 3, none, 1, 21, 0, 0)
theorem okX4_copyFrom : OkV mX4_copyFrom 1 := ⟨⟨w_329, w_3, by decide, by decide, by decide +kernel⟩, w_327, w_328⟩
abbrev mX6_copyFrom : BcM := (yX6_copyFrom, cX6_copyFrom, 2, none, 0, 0, 0, 0)
theorem okX6_copyFrom : OkV mX6_copyFrom 1 := ⟨⟨w_333, w_4, by decide, by decide, by decide +kernel⟩, w_331, w_332⟩
abbrev mX7_copyFrom : BcM := (yX7_copyFrom, cX7_copyFrom, 2, none, 0, 0, 0, 0)
theorem okX7_copyFrom : OkV mX7_copyFrom 1 := ⟨⟨w_337, w_5, by decide, by decide, by decide +kernel⟩, w_335, w_336⟩
abbrev mX2_copyFrom : BcM := (yX2_copyFrom, cX2_copyFrom, 2, none, 0, 0, 0, 0)
theorem okX2_copyFrom : OkV mX2_copyFrom 1 := ⟨⟨w_341, w_6, by decide, by decide, by decide +kernel⟩, w_339, w_340⟩
abbrev mX0_copyFrom : BcM := (yX0_copyFrom, cX0_copyFrom, 2, none, 0, 0, 0, 0)
theorem okX0_copyFrom : OkV mX0_copyFrom 1 := ⟨⟨w_345, w_7, by decide, by decide, by decide +kernel⟩, w_343, w_344⟩
abbrev mX8_copyEntries : BcM := (yX8_copyEntries, cX8_copyEntries, 2, none, 1, 48, 0, 0)
theorem okX8_copyEntries : OkS mX8_copyEntries 2 := ⟨⟨w_348, w_1, by decide, by decide, by decide +kernel⟩, w_347⟩
abbrev mJ9_min_7cf53 : BcM := (yJ9_min_7cf53, cJ9_min_7cf53, 2, some .int, 0, 0, 0, 0)
abbrev mX3_addRecipe : BcM := (yX3_addRecipe, cX3_addRecipe, 3, some .int, 1, 22, 0, 0)
theorem okX3_addRecipe : OkV mX3_addRecipe 1 := ⟨⟨w_358, w_2, by decide, by decide, by decide +kernel⟩, w_356, w_357⟩
abbrev mX8_isWithin : BcM := (yX8_isWithin, cX8_isWithin, 3, some .boolean, 0, 0, 0, 0)
theorem okX8_isWithin : OkS mX8_isWithin 3 := ⟨⟨w_361, w_1, by decide, by decide, by decide +kernel⟩, w_360⟩
abbrev mX3_recipeAt : BcM := (yX3_recipeAt, cX3_recipeAt, 3, some (.object "BatchCellars$Recipe"), 0, 0, 0, 0)
theorem okX3_recipeAt : OkV mX3_recipeAt 1 := ⟨⟨w_365, w_2, by decide, by decide, by decide +kernel⟩, w_363, w_364⟩
abbrev mX1_settle : BcM := (yX1_settle, cX1_settle, 2, some .int, 1, 21, 0, 0)
theorem okX1_settle : OkV mX1_settle 1 := ⟨⟨w_369, w_8, by decide, by decide, by decide +kernel⟩, w_367, w_368⟩
abbrev mX8_stage : BcM := (yX8_stage, cX8_stage, 6, some .int, 5, 111, 0, 0)
theorem okX8_stage : OkV mX8_stage 5 := ⟨⟨w_374, w_1, by decide, by decide, by decide +kernel⟩, w_372, w_373⟩
abbrev mX3_addStage : BcM := (yX3_addStage, cX3_addStage, 8, some .int, 1, 22, 0, 0)
theorem okX3_addStage : OkV mX3_addStage 5 := ⟨⟨w_378, w_2, by decide, by decide, by decide +kernel⟩, w_376, w_377⟩
abbrev mX3_hasBatchOf : BcM := (yX3_hasBatchOf, cX3_hasBatchOf, 3, some .boolean, 0, 0, 0, 0)
theorem okX3_hasBatchOf : OkV mX3_hasBatchOf 1 := ⟨⟨w_382, w_2, by decide, by decide, by decide +kernel⟩, w_380, w_381⟩
abbrev mX4_stageAt : BcM := (yX4_stageAt, cX4_stageAt, 3, some (.object "BatchCellars$Stage"), 0, 0, 0, 0)
theorem okX4_stageAt : OkV mX4_stageAt 1 := ⟨⟨w_386, w_3, by decide, by decide, by decide +kernel⟩, w_384, w_385⟩
abbrev mX8_vessel : BcM := (yX8_vessel, cX8_vessel, 3, some .int, 5, 111, 0, 0)
theorem okX8_vessel : OkV mX8_vessel 2 := ⟨⟨w_390, w_1, by decide, by decide, by decide +kernel⟩, w_388, w_389⟩
abbrev mX3_addVessel : BcM := (yX3_addVessel, cX3_addVessel, 4, some .int, 1, 22, 0, 0)
theorem okX3_addVessel : OkV mX3_addVessel 2 := ⟨⟨w_394, w_2, by decide, by decide, by decide +kernel⟩, w_392, w_393⟩
abbrev mX3_vesselAt : BcM := (yX3_vesselAt, cX3_vesselAt, 3, some (.object "BatchCellars$Vessel"), 0, 0, 0, 0)
theorem okX3_vesselAt : OkV mX3_vesselAt 1 := ⟨⟨w_398, w_2, by decide, by decide, by decide +kernel⟩, w_396, w_397⟩
abbrev mX8_line : BcM := (yX8_line, cX8_line, 3, some .int, 5, 111, 0, 0)
theorem okX8_line : OkV mX8_line 2 := ⟨⟨w_402, w_1, by decide, by decide, by decide +kernel⟩, w_400, w_401⟩
abbrev mX3_addLine : BcM := (yX3_addLine, cX3_addLine, 5, some .int, 1, 22, 0, 0)
theorem okX3_addLine : OkV mX3_addLine 2 := ⟨⟨w_406, w_2, by decide, by decide, by decide +kernel⟩, w_404, w_405⟩
abbrev mJ6_bitCount_0f7a4 : BcM := (yJ6_bitCount_0f7a4, cJ6_bitCount_0f7a4, 1, some .int, 0, 0, 0, 0)
theorem okJ6_bitCount_0f7a4 : OkS mJ6_bitCount_0f7a4 1 := ⟨⟨w_409, w_13, by decide, by decide, by decide +kernel⟩, w_408⟩
abbrev mX3_lineAt : BcM := (yX3_lineAt, cX3_lineAt, 3, some (.object "BatchCellars$Line"), 0, 0, 0, 0)
theorem okX3_lineAt : OkV mX3_lineAt 1 := ⟨⟨w_416, w_2, by decide, by decide, by decide +kernel⟩, w_414, w_415⟩
abbrev mX8_cleaning : BcM := (yX8_cleaning, cX8_cleaning, 4, some .int, 5, 111, 0, 0)
theorem okX8_cleaning : OkV mX8_cleaning 3 := ⟨⟨w_420, w_1, by decide, by decide, by decide +kernel⟩, w_418, w_419⟩
abbrev mX3_changeCleaning : BcM := (yX3_changeCleaning, cX3_changeCleaning, 5, some .int, 1, 22, 0, 0)
theorem okX3_changeCleaning : OkV mX3_changeCleaning 3 := ⟨⟨w_424, w_2, by decide, by decide, by decide +kernel⟩, w_422, w_423⟩
abbrev mX8_entryAt : BcM := (yX8_entryAt, cX8_entryAt, 2, some .int, 0, 0, 0, 0)
theorem okX8_entryAt : OkS mX8_entryAt 2 := ⟨⟨w_427, w_1, by decide, by decide, by decide +kernel⟩, w_426⟩
abbrev mX8_stageOf : BcM := (yX8_stageOf, cX8_stageOf, 6, some .int, 1, 22, 0, 0)
theorem okX8_stageOf : OkV mX8_stageOf 3 := ⟨⟨w_431, w_1, by decide, by decide, by decide +kernel⟩, w_429, w_430⟩
abbrev mX6_detail : BcM := (yX6_detail, cX6_detail, 2, some .int, 0, 0, 0, 0)
theorem okX6_detail : OkV mX6_detail 1 := ⟨⟨w_438, w_4, by decide, by decide, by decide +kernel⟩, w_436, w_437⟩
abbrev mX8_begin : BcM := (yX8_begin, cX8_begin, 4, some .int, 5, 111, 0, 0)
theorem okX8_begin : OkV mX8_begin 3 := ⟨⟨w_442, w_1, by decide, by decide, by decide +kernel⟩, w_440, w_441⟩
abbrev mX3_beginBatch : BcM := (yX3_beginBatch, cX3_beginBatch, 9, some .int, 3, 67, 0, 0)
theorem okX3_beginBatch : OkV mX3_beginBatch 3 := ⟨⟨w_446, w_2, by decide, by decide, by decide +kernel⟩, w_444, w_445⟩
abbrev mX3_lowestFreeNumber : BcM := (yX3_lowestFreeNumber, cX3_lowestFreeNumber, 2, some .int, 0, 0, 0, 0)
theorem okX3_lowestFreeNumber : OkV mX3_lowestFreeNumber 0 := ⟨⟨w_450, w_2, by decide, by decide, by decide +kernel⟩, w_448, w_449⟩
abbrev mX7_canTake : BcM := (yX7_canTake, cX7_canTake, 3, some .boolean, 1, 22, 0, 0)
theorem okX7_canTake : OkV mX7_canTake 2 := ⟨⟨w_454, w_5, by decide, by decide, by decide +kernel⟩, w_452, w_453⟩
abbrev mX7_suits : BcM := (yX7_suits, cX7_suits, 3, some .boolean, 0, 0, 0, 0)
theorem okX7_suits : OkV mX7_suits 2 := ⟨⟨w_458, w_5, by decide, by decide, by decide +kernel⟩, w_456, w_457⟩
abbrev mX3_occupy : BcM := (yX3_occupy, cX3_occupy, 5, some .int, 2, 43, 0, 0)
theorem okX3_occupy : OkV mX3_occupy 3 := ⟨⟨w_462, w_2, by decide, by decide, by decide +kernel⟩, w_460, w_461⟩
abbrev mX3_cleaningMinutes : BcM := (yX3_cleaningMinutes, cX3_cleaningMinutes, 3, some .int, 1, 21, 0, 0)
theorem okX3_cleaningMinutes : OkV mX3_cleaningMinutes 2 := ⟨⟨w_466, w_2, by decide, by decide, by decide +kernel⟩, w_464, w_465⟩
abbrev mX0_start : BcM := (yX0_start, cX0_start, 4, none, 0, 0, 0, 0)
theorem okX0_start : OkV mX0_start 3 := ⟨⟨w_470, w_7, by decide, by decide, by decide +kernel⟩, w_468, w_469⟩
abbrev mX0_enter : BcM := (yX0_enter, cX0_enter, 5, none, 0, 0, 0, 0)
theorem okX0_enter : OkV mX0_enter 4 := ⟨⟨w_474, w_7, by decide, by decide, by decide +kernel⟩, w_472, w_473⟩
abbrev mX8_move : BcM := (yX8_move, cX8_move, 3, some .int, 5, 111, 0, 0)
theorem okX8_move : OkV mX8_move 2 := ⟨⟨w_478, w_1, by decide, by decide, by decide +kernel⟩, w_476, w_477⟩
abbrev mX3_moveBatch : BcM := (yX3_moveBatch, cX3_moveBatch, 10, some .int, 3, 69, 0, 0)
theorem okX3_moveBatch : OkV mX3_moveBatch 2 := ⟨⟨w_482, w_2, by decide, by decide, by decide +kernel⟩, w_480, w_481⟩
abbrev mX3_batchAt : BcM := (yX3_batchAt, cX3_batchAt, 3, some (.object "BatchCellars$Batch"), 0, 0, 0, 0)
theorem okX3_batchAt : OkV mX3_batchAt 1 := ⟨⟨w_486, w_2, by decide, by decide, by decide +kernel⟩, w_484, w_485⟩
abbrev mX3_lineTo : BcM := (yX3_lineTo, cX3_lineTo, 6, some .int, 2, 44, 0, 0)
theorem okX3_lineTo : OkV mX3_lineTo 2 := ⟨⟨w_490, w_2, by decide, by decide, by decide +kernel⟩, w_488, w_489⟩
abbrev mX3_nextStage : BcM := (yX3_nextStage, cX3_nextStage, 3, some (.object "BatchCellars$Stage"), 1, 22, 0, 0)
theorem okX3_nextStage : OkV mX3_nextStage 1 := ⟨⟨w_494, w_2, by decide, by decide, by decide +kernel⟩, w_492, w_493⟩
abbrev mX0_isRipe : BcM := (yX0_isRipe, cX0_isRipe, 2, some .boolean, 0, 0, 0, 0)
theorem okX0_isRipe : OkV mX0_isRipe 1 := ⟨⟨w_498, w_7, by decide, by decide, by decide +kernel⟩, w_496, w_497⟩
abbrev mX2_isFree : BcM := (yX2_isFree, cX2_isFree, 2, some .boolean, 0, 0, 0, 0)
theorem okX2_isFree : OkV mX2_isFree 1 := ⟨⟨w_502, w_6, by decide, by decide, by decide +kernel⟩, w_500, w_501⟩
abbrev mX2_joins : BcM := (yX2_joins, cX2_joins, 4, some .boolean, 0, 0, 0, 0)
theorem okX2_joins : OkV mX2_joins 2 := ⟨⟨w_506, w_6, by decide, by decide, by decide +kernel⟩, w_504, w_505⟩
abbrev mX3_leaveVessel : BcM := (yX3_leaveVessel, cX3_leaveVessel, 3, none, 1, 22, 0, 0)
theorem okX3_leaveVessel : OkV mX3_leaveVessel 1 := ⟨⟨w_510, w_2, by decide, by decide, by decide +kernel⟩, w_508, w_509⟩
abbrev mX2_minutesFor : BcM := (yX2_minutesFor, cX2_minutesFor, 2, some .int, 0, 0, 0, 0)
theorem okX2_minutesFor : OkV mX2_minutesFor 1 := ⟨⟨w_514, w_6, by decide, by decide, by decide +kernel⟩, w_512, w_513⟩
abbrev mX3_transferLoss : BcM := (yX3_transferLoss, cX3_transferLoss, 2, some .int, 1, 21, 0, 0)
theorem okX3_transferLoss : OkV mX3_transferLoss 1 := ⟨⟨w_518, w_2, by decide, by decide, by decide +kernel⟩, w_516, w_517⟩
abbrev mX8_end : BcM := (yX8_end, cX8_end, 2, some .int, 5, 111, 0, 0)
theorem okX8_end : OkV mX8_end 1 := ⟨⟨w_522, w_1, by decide, by decide, by decide +kernel⟩, w_520, w_521⟩
abbrev mX3_endBatch : BcM := (yX3_endBatch, cX3_endBatch, 3, some .int, 3, 65, 0, 0)
theorem okX3_endBatch : OkV mX3_endBatch 1 := ⟨⟨w_526, w_2, by decide, by decide, by decide +kernel⟩, w_524, w_525⟩
abbrev mX3_addOffGrade : BcM := (yX3_addOffGrade, cX3_addOffGrade, 3, none, 1, 22, 0, 0)
theorem okX3_addOffGrade : OkV mX3_addOffGrade 2 := ⟨⟨w_530, w_2, by decide, by decide, by decide +kernel⟩, w_528, w_529⟩
abbrev mX3_remove : BcM := (yX3_remove, cX3_remove, 2, none, 2, 44, 0, 0)
theorem okX3_remove : OkV mX3_remove 1 := ⟨⟨w_534, w_2, by decide, by decide, by decide +kernel⟩, w_532, w_533⟩
abbrev mX8_discard : BcM := (yX8_discard, cX8_discard, 2, some .int, 5, 111, 0, 0)
theorem okX8_discard : OkV mX8_discard 1 := ⟨⟨w_538, w_1, by decide, by decide, by decide +kernel⟩, w_536, w_537⟩
abbrev mX3_throwAway : BcM := (yX3_throwAway, cX3_throwAway, 3, some .int, 3, 65, 0, 0)
theorem okX3_throwAway : OkV mX3_throwAway 1 := ⟨⟨w_542, w_2, by decide, by decide, by decide +kernel⟩, w_540, w_541⟩
abbrev mX8_blend : BcM := (yX8_blend, cX8_blend, 3, some .int, 5, 111, 0, 0)
theorem okX8_blend : OkV mX8_blend 2 := ⟨⟨w_546, w_1, by decide, by decide, by decide +kernel⟩, w_544, w_545⟩
abbrev mX3_blendIn : BcM := (yX3_blendIn, cX3_blendIn, 6, some .int, 2, 44, 0, 0)
theorem okX3_blendIn : OkV mX3_blendIn 2 := ⟨⟨w_550, w_2, by decide, by decide, by decide +kernel⟩, w_548, w_549⟩
abbrev mX8_pass : BcM := (yX8_pass, cX8_pass, 2, some .int, 5, 111, 0, 0)
theorem okX8_pass : OkV mX8_pass 1 := ⟨⟨w_554, w_1, by decide, by decide, by decide +kernel⟩, w_552, w_553⟩
abbrev mX3_letPass : BcM := (yX3_letPass, cX3_letPass, 5, some .int, 1, 22, 0, 0)
theorem okX3_letPass : OkV mX3_letPass 1 := ⟨⟨w_558, w_2, by decide, by decide, by decide +kernel⟩, w_556, w_557⟩
abbrev mX8_set : BcM := (yX8_set, cX8_set, 3, some .int, 5, 111, 0, 0)
theorem okX8_set : OkV mX8_set 2 := ⟨⟨w_562, w_1, by decide, by decide, by decide +kernel⟩, w_560, w_561⟩
abbrev mX3_changeSetting : BcM := (yX3_changeSetting, cX3_changeSetting, 5, some .int, 1, 22, 0, 0)
theorem okX3_changeSetting : OkV mX3_changeSetting 2 := ⟨⟨w_566, w_2, by decide, by decide, by decide +kernel⟩, w_564, w_565⟩
abbrev mX8_batchOf : BcM := (yX8_batchOf, cX8_batchOf, 4, some .int, 2, 43, 0, 0)
theorem okX8_batchOf : OkV mX8_batchOf 2 := ⟨⟨w_570, w_1, by decide, by decide, by decide +kernel⟩, w_568, w_569⟩
abbrev mX0_detail : BcM := (yX0_detail, cX0_detail, 3, some .int, 1, 21, 0, 0)
theorem okX0_detail : OkV mX0_detail 2 := ⟨⟨w_575, w_7, by decide, by decide, by decide +kernel⟩, w_573, w_574⟩
abbrev mJ9_max_7cf53 : BcM := (yJ9_max_7cf53, cJ9_max_7cf53, 2, some .int, 0, 0, 0, 0)
abbrev mX8_vesselOf : BcM := (yX8_vesselOf, cX8_vesselOf, 5, some .int, 1, 22, 0, 0)
theorem okX8_vesselOf : OkV mX8_vesselOf 2 := ⟨⟨w_583, w_1, by decide, by decide, by decide +kernel⟩, w_581, w_582⟩
abbrev mX7_detail : BcM := (yX7_detail, cX7_detail, 2, some .int, 0, 0, 0, 0)
theorem okX7_detail : OkV mX7_detail 1 := ⟨⟨w_588, w_5, by decide, by decide, by decide +kernel⟩, w_586, w_587⟩
abbrev mX8_lineOf : BcM := (yX8_lineOf, cX8_lineOf, 4, some .int, 2, 43, 0, 0)
theorem okX8_lineOf : OkV mX8_lineOf 2 := ⟨⟨w_592, w_1, by decide, by decide, by decide +kernel⟩, w_590, w_591⟩
abbrev mX2_detail : BcM := (yX2_detail, cX2_detail, 3, some .int, 1, 21, 0, 0)
theorem okX2_detail : OkV mX2_detail 2 := ⟨⟨w_597, w_6, by decide, by decide, by decide +kernel⟩, w_595, w_596⟩
abbrev mX8_count : BcM := (yX8_count, cX8_count, 2, some .int, 2, 43, 0, 0)
theorem okX8_count : OkV mX8_count 1 := ⟨⟨w_602, w_1, by decide, by decide, by decide +kernel⟩, w_600, w_601⟩
abbrev mX3_total : BcM := (yX3_total, cX3_total, 2, some .int, 1, 22, 0, 0)
theorem okX3_total : OkV mX3_total 1 := ⟨⟨w_607, w_2, by decide, by decide, by decide +kernel⟩, w_605, w_606⟩
abbrev mX3_batchTotal : BcM := (yX3_batchTotal, cX3_batchTotal, 3, some .int, 0, 0, 0, 0)
theorem okX3_batchTotal : OkV mX3_batchTotal 0 := ⟨⟨w_611, w_2, by decide, by decide, by decide +kernel⟩, w_609, w_610⟩
abbrev mX3_massTotal : BcM := (yX3_massTotal, cX3_massTotal, 3, some .int, 0, 0, 0, 0)
theorem okX3_massTotal : OkV mX3_massTotal 0 := ⟨⟨w_615, w_2, by decide, by decide, by decide +kernel⟩, w_613, w_614⟩
abbrev mX8_targets : BcM := (yX8_targets, cX8_targets, 3, some .int, 4, 92, 0, 0)
theorem okX8_targets : OkV mX8_targets 1 := ⟨⟨w_619, w_1, by decide, by decide, by decide +kernel⟩, w_617, w_618⟩
abbrev mX3_openTargets : BcM := (yX3_openTargets, cX3_openTargets, 4, some .int, 3, 69, 0, 0)
theorem okX3_openTargets : OkV mX3_openTargets 1 := ⟨⟨w_623, w_2, by decide, by decide, by decide +kernel⟩, w_621, w_622⟩
abbrev mX8_quickest : BcM := (yX8_quickest, cX8_quickest, 5, some .int, 5, 118, 0, 0)
theorem okX8_quickest : OkV mX8_quickest 2 := ⟨⟨w_627, w_1, by decide, by decide, by decide +kernel⟩, w_625, w_626⟩
abbrev mX3_quickestTarget : BcM := (yX3_quickestTarget, cX3_quickestTarget, 6, some .int, 4, 93, 0, 0)
theorem okX3_quickestTarget : OkV mX3_quickestTarget 1 := ⟨⟨w_631, w_2, by decide, by decide, by decide +kernel⟩, w_629, w_630⟩
abbrev mX3_minutesTo : BcM := (yX3_minutesTo, cX3_minutesTo, 5, some .int, 3, 69, 0, 0)
theorem okX3_minutesTo : OkV mX3_minutesTo 2 := ⟨⟨w_635, w_2, by decide, by decide, by decide +kernel⟩, w_633, w_634⟩
abbrev mX8_soonest : BcM := (yX8_soonest, cX8_soonest, 3, some .int, 3, 71, 0, 0)
theorem okX8_soonest : OkV mX8_soonest 1 := ⟨⟨w_640, w_1, by decide, by decide, by decide +kernel⟩, w_638, w_639⟩
abbrev mX3_earliestEnd : BcM := (yX3_earliestEnd, cX3_earliestEnd, 7, some .int, 2, 45, 0, 0)
theorem okX3_earliestEnd : OkV mX3_earliestEnd 1 := ⟨⟨w_644, w_2, by decide, by decide, by decide +kernel⟩, w_642, w_643⟩
abbrev mX3_hasVesselFor : BcM := (yX3_hasVesselFor, cX3_hasVesselFor, 4, some .boolean, 1, 22, 0, 0)
theorem okX3_hasVesselFor : OkV mX3_hasVesselFor 2 := ⟨⟨w_649, w_2, by decide, by decide, by decide +kernel⟩, w_647, w_648⟩
abbrev mX8_urgent : BcM := (yX8_urgent, cX8_urgent, 2, some .int, 4, 93, 0, 0)
theorem okX8_urgent : OkV mX8_urgent 1 := ⟨⟨w_654, w_1, by decide, by decide, by decide +kernel⟩, w_652, w_653⟩
abbrev mX3_batchInPlace : BcM := (yX3_batchInPlace, cX3_batchInPlace, 3, some .int, 3, 71, 0, 0)
theorem okX3_batchInPlace : OkV mX3_batchInPlace 1 := ⟨⟨w_658, w_2, by decide, by decide, by decide +kernel⟩, w_656, w_657⟩
abbrev mX3_canSpoil : BcM := (yX3_canSpoil, cX3_canSpoil, 3, some .boolean, 1, 22, 0, 0)
theorem okX3_canSpoil : OkV mX3_canSpoil 1 := ⟨⟨w_662, w_2, by decide, by decide, by decide +kernel⟩, w_660, w_661⟩
abbrev mX3_moreUrgentThan : BcM := (yX3_moreUrgentThan, cX3_moreUrgentThan, 8, some .int, 2, 44, 0, 0)
theorem okX3_moreUrgentThan : OkV mX3_moreUrgentThan 1 := ⟨⟨w_666, w_2, by decide, by decide, by decide +kernel⟩, w_664, w_665⟩
abbrev mX8_undo : BcM := (yX8_undo, cX8_undo, 1, some .int, 5, 111, 0, 0)
theorem okX8_undo : OkV mX8_undo 0 := ⟨⟨w_670, w_1, by decide, by decide, by decide +kernel⟩, w_668, w_669⟩
abbrev mX1_restore : BcM := (yX1_restore, cX1_restore, 2, some .int, 4, 90, 0, 0)
theorem okX1_restore : OkV mX1_restore 1 := ⟨⟨w_674, w_8, by decide, by decide, by decide +kernel⟩, w_672, w_673⟩
abbrev mX8_type : BcM := (yX8_type, cX8_type, 2, some .int, 2, 43, 0, 0)
theorem okX8_type : OkV mX8_type 1 := ⟨⟨w_678, w_1, by decide, by decide, by decide +kernel⟩, w_676, w_677⟩
abbrev mX5_append : BcM := (yX5_append, cX5_append, 2, some .int, 1, 22, 0, 0)
theorem okX5_append : OkV mX5_append 1 := ⟨⟨w_682, w_9, by decide, by decide, by decide +kernel⟩, w_680, w_681⟩
abbrev mX8_clearText : BcM := (yX8_clearText, cX8_clearText, 2, some .int, 0, 0, 0, 0)
theorem okX8_clearText : OkV mX8_clearText 0 := ⟨⟨w_687, w_1, by decide, by decide, by decide +kernel⟩, w_685, w_686⟩
abbrev mX8_fault : BcM := (yX8_fault, cX8_fault, 2, some .int, 6, 141, 0, 0)
theorem okX8_fault : OkV mX8_fault 1 := ⟨⟨w_691, w_1, by decide, by decide, by decide +kernel⟩, w_689, w_690⟩
abbrev mX8_rehearse : BcM := (yX8_rehearse, cX8_rehearse, 2, none, 5, 120, 0, 0)
theorem okX8_rehearse : OkV mX8_rehearse 0 := ⟨⟨w_695, w_1, by decide, by decide, by decide +kernel⟩, w_694, wp_0⟩
abbrev mX5_readCommand : BcM := (yX5_readCommand, cX5_readCommand, 5, some .boolean, 2, 45, 0, 0)
theorem okX5_readCommand : OkV mX5_readCommand 1 := ⟨⟨w_700, w_9, by decide, by decide, by decide +kernel⟩, w_698, w_699⟩
abbrev mX5_signAt : BcM := (yX5_signAt, cX5_signAt, 3, some .char, 0, 0, 0, 0)
theorem okX5_signAt : OkV mX5_signAt 1 := ⟨⟨w_704, w_9, by decide, by decide, by decide +kernel⟩, w_702, w_703⟩
abbrev mX5_numbersOf : BcM := (yX5_numbersOf, cX5_numbersOf, 1, some .int, 0, 0, 0, 0)
theorem okX5_numbersOf : OkS mX5_numbersOf 1 := ⟨⟨w_707, w_9, by decide, by decide, by decide +kernel⟩, w_706⟩
abbrev mX5_readNumber : BcM := (yX5_readNumber, cX5_readNumber, 4, some .boolean, 1, 22, 0, 0)
theorem okX5_readNumber : OkV mX5_readNumber 1 := ⟨⟨w_711, w_9, by decide, by decide, by decide +kernel⟩, w_709, w_710⟩
abbrev mX8_perform : BcM := (yX8_perform, cX8_perform, 3, some .int, 4, 98, 0, 0)
theorem okX8_perform : OkV mX8_perform 0 := ⟨⟨w_716, w_1, by decide, by decide, by decide +kernel⟩, w_715, wp_1⟩
abbrev mX8_reasonOf : BcM := (yX8_reasonOf, cX8_reasonOf, 1, some .int, 0, 0, 0, 0)
theorem okX8_reasonOf : OkS mX8_reasonOf 1 := ⟨⟨w_719, w_1, by decide, by decide, by decide +kernel⟩, w_718⟩
abbrev mX8_play : BcM := (yX8_play, cX8_play, 1, some .int, 6, 141, 0, 0)
theorem okX8_play : OkV mX8_play 0 := ⟨⟨w_723, w_1, by decide, by decide, by decide +kernel⟩, w_721, w_722⟩
abbrev mX9_init : BcM := (yX9_init, cX9_init, 2, none, 1, 20, 5, 1277)
theorem okX9_init : OkI mX9_init 0 := ⟨⟨w_728, w_10, by decide, by decide, by decide +kernel⟩, w_727, rfl, rfl⟩
abbrev mX9_recipe : BcM := (yX9_recipe, cX9_recipe, 3, some .int, 1, 22, 0, 0)
theorem okX9_recipe : OkV mX9_recipe 1 := ⟨⟨w_767, w_10, by decide, by decide, by decide +kernel⟩, w_765, w_766⟩
abbrev mX9_in : BcM := (yX9_in, cX9_in, 3, some .boolean, 0, 0, 0, 0)
theorem okX9_in : OkS mX9_in 3 := ⟨⟨w_770, w_10, by decide, by decide, by decide +kernel⟩, w_769⟩
abbrev mX9_changes : BcM := (yX9_changes, cX9_changes, 2, none, 0, 0, 0, 0)
theorem okX9_changes : OkV mX9_changes 0 := ⟨⟨w_774, w_10, by decide, by decide, by decide +kernel⟩, w_773, wp_2⟩
abbrev mX9_stage : BcM := (yX9_stage, cX9_stage, 8, some .int, 3, 66, 0, 0)
theorem okX9_stage : OkV mX9_stage 5 := ⟨⟨w_778, w_10, by decide, by decide, by decide +kernel⟩, w_776, w_777⟩
abbrev mX9_isRecipe : BcM := (yX9_isRecipe, cX9_isRecipe, 2, some .boolean, 0, 0, 0, 0)
theorem okX9_isRecipe : OkV mX9_isRecipe 1 := ⟨⟨w_782, w_10, by decide, by decide, by decide +kernel⟩, w_781, wp_3⟩
abbrev mX9_isMade : BcM := (yX9_isMade, cX9_isMade, 4, some .boolean, 2, 43, 0, 0)
theorem okX9_isMade : OkV mX9_isMade 1 := ⟨⟨w_786, w_10, by decide, by decide, by decide +kernel⟩, w_785, wp_4⟩
abbrev mX9_isBatch : BcM := (yX9_isBatch, cX9_isBatch, 2, some .boolean, 1, 22, 0, 0)
theorem okX9_isBatch : OkV mX9_isBatch 1 := ⟨⟨w_790, w_10, by decide, by decide, by decide +kernel⟩, w_789, wp_5⟩
abbrev mX9_of : BcM := (yX9_of, cX9_of, 3, some .int, 0, 0, 0, 0)
theorem okX9_of : OkV mX9_of 2 := ⟨⟨w_794, w_10, by decide, by decide, by decide +kernel⟩, w_793, wp_6⟩
abbrev mX9_stages : BcM := (yX9_stages, cX9_stages, 2, some .int, 0, 0, 0, 0)
theorem okX9_stages : OkV mX9_stages 1 := ⟨⟨w_798, w_10, by decide, by decide, by decide +kernel⟩, w_797, wp_7⟩
abbrev mX9_vessel : BcM := (yX9_vessel, cX9_vessel, 4, some .int, 1, 23, 0, 0)
theorem okX9_vessel : OkV mX9_vessel 2 := ⟨⟨w_802, w_10, by decide, by decide, by decide +kernel⟩, w_800, w_801⟩
abbrev mX9_putsVessel : BcM := (yX9_putsVessel, cX9_putsVessel, 4, none, 0, 0, 0, 0)
theorem okX9_putsVessel : OkV mX9_putsVessel 3 := ⟨⟨w_806, w_10, by decide, by decide, by decide +kernel⟩, w_805, wp_8⟩
abbrev mX9_line : BcM := (yX9_line, cX9_line, 4, some .int, 1, 22, 0, 0)
theorem okX9_line : OkV mX9_line 2 := ⟨⟨w_810, w_10, by decide, by decide, by decide +kernel⟩, w_808, w_809⟩
abbrev mX9_bits : BcM := (yX9_bits, cX9_bits, 3, some .int, 0, 0, 0, 0)
theorem okX9_bits : OkS mX9_bits 1 := ⟨⟨w_813, w_10, by decide, by decide, by decide +kernel⟩, w_812⟩
abbrev mX9_cleaning : BcM := (yX9_cleaning, cX9_cleaning, 5, some .int, 1, 22, 0, 0)
theorem okX9_cleaning : OkV mX9_cleaning 3 := ⟨⟨w_817, w_10, by decide, by decide, by decide +kernel⟩, w_815, w_816⟩
abbrev mX9_stageOf : BcM := (yX9_stageOf, cX9_stageOf, 4, some .int, 1, 23, 0, 0)
theorem okX9_stageOf : OkV mX9_stageOf 3 := ⟨⟨w_821, w_10, by decide, by decide, by decide +kernel⟩, w_819, w_820⟩
abbrev mX9_product : BcM := (yX9_product, cX9_product, 2, some .int, 0, 0, 0, 0)
theorem okX9_product : OkV mX9_product 1 := ⟨⟨w_825, w_10, by decide, by decide, by decide +kernel⟩, w_824, wp_9⟩
abbrev mX9_ofStage : BcM := (yX9_ofStage, cX9_ofStage, 4, some .int, 0, 0, 0, 0)
theorem okX9_ofStage : OkV mX9_ofStage 3 := ⟨⟨w_829, w_10, by decide, by decide, by decide +kernel⟩, w_828, wp_10⟩
abbrev mX9_begin : BcM := (yX9_begin, cX9_begin, 5, some .int, 3, 68, 0, 0)
theorem okX9_begin : OkV mX9_begin 3 := ⟨⟨w_833, w_10, by decide, by decide, by decide +kernel⟩, w_831, w_832⟩
abbrev mX9_isVessel : BcM := (yX9_isVessel, cX9_isVessel, 2, some .boolean, 0, 0, 0, 0)
theorem okX9_isVessel : OkV mX9_isVessel 1 := ⟨⟨w_837, w_10, by decide, by decide, by decide +kernel⟩, w_836, wp_11⟩
abbrev mX9_takes : BcM := (yX9_takes, cX9_takes, 4, some .boolean, 1, 22, 0, 0)
theorem okX9_takes : OkV mX9_takes 3 := ⟨⟨w_841, w_10, by decide, by decide, by decide +kernel⟩, w_840, wp_12⟩
abbrev mX9_ofVessel : BcM := (yX9_ofVessel, cX9_ofVessel, 3, some .int, 0, 0, 0, 0)
theorem okX9_ofVessel : OkV mX9_ofVessel 2 := ⟨⟨w_845, w_10, by decide, by decide, by decide +kernel⟩, w_844, wp_13⟩
abbrev mX9_puts : BcM := (yX9_puts, cX9_puts, 4, none, 0, 0, 0, 0)
theorem okX9_puts : OkV mX9_puts 3 := ⟨⟨w_849, w_10, by decide, by decide, by decide +kernel⟩, w_848, wp_14⟩
abbrev mX9_comes : BcM := (yX9_comes, cX9_comes, 5, some .int, 2, 44, 0, 0)
theorem okX9_comes : OkV mX9_comes 2 := ⟨⟨w_853, w_10, by decide, by decide, by decide +kernel⟩, w_852, wp_15⟩
abbrev mX9_cleans : BcM := (yX9_cleans, cX9_cleans, 3, some .int, 1, 22, 0, 0)
theorem okX9_cleans : OkV mX9_cleans 2 := ⟨⟨w_857, w_10, by decide, by decide, by decide +kernel⟩, w_856, wp_16⟩
abbrev mX9_move : BcM := (yX9_move, cX9_move, 6, some .int, 5, 113, 0, 0)
theorem okX9_move : OkV mX9_move 2 := ⟨⟨w_861, w_10, by decide, by decide, by decide +kernel⟩, w_859, w_860⟩
abbrev mX9_lineTo : BcM := (yX9_lineTo, cX9_lineTo, 8, some .int, 4, 86, 0, 0)
theorem okX9_lineTo : OkV mX9_lineTo 2 := ⟨⟨w_865, w_10, by decide, by decide, by decide +kernel⟩, w_864, wp_17⟩
abbrev mX9_isRipe : BcM := (yX9_isRipe, cX9_isRipe, 2, some .boolean, 3, 65, 0, 0)
theorem okX9_isRipe : OkV mX9_isRipe 1 := ⟨⟨w_869, w_10, by decide, by decide, by decide +kernel⟩, w_868, wp_18⟩
abbrev mX9_ripeAt : BcM := (yX9_ripeAt, cX9_ripeAt, 2, some .int, 2, 44, 0, 0)
theorem okX9_ripeAt : OkV mX9_ripeAt 1 := ⟨⟨w_873, w_10, by decide, by decide, by decide +kernel⟩, w_872, wp_19⟩
abbrev mX9_over : BcM := (yX9_over, cX9_over, 2, some .int, 1, 23, 0, 0)
theorem okX9_over : OkV mX9_over 1 := ⟨⟨w_877, w_10, by decide, by decide, by decide +kernel⟩, w_876, wp_20⟩
abbrev mX9_ofLine : BcM := (yX9_ofLine, cX9_ofLine, 3, some .int, 0, 0, 0, 0)
theorem okX9_ofLine : OkV mX9_ofLine 2 := ⟨⟨w_881, w_10, by decide, by decide, by decide +kernel⟩, w_880, wp_21⟩
abbrev mX9_minutesTo : BcM := (yX9_minutesTo, cX9_minutesTo, 5, some .int, 2, 44, 0, 0)
theorem okX9_minutesTo : OkV mX9_minutesTo 3 := ⟨⟨w_885, w_10, by decide, by decide, by decide +kernel⟩, w_884, wp_22⟩
abbrev mX9_end : BcM := (yX9_end, cX9_end, 3, some .int, 4, 86, 0, 0)
theorem okX9_end : OkV mX9_end 1 := ⟨⟨w_889, w_10, by decide, by decide, by decide +kernel⟩, w_887, w_888⟩
abbrev mX9_goes : BcM := (yX9_goes, cX9_goes, 2, some .int, 1, 23, 0, 0)
theorem okX9_goes : OkV mX9_goes 1 := ⟨⟨w_893, w_10, by decide, by decide, by decide +kernel⟩, w_892, wp_23⟩
abbrev mX9_discard : BcM := (yX9_discard, cX9_discard, 3, some .int, 2, 44, 0, 0)
theorem okX9_discard : OkV mX9_discard 1 := ⟨⟨w_897, w_10, by decide, by decide, by decide +kernel⟩, w_895, w_896⟩
abbrev mX9_blend : BcM := (yX9_blend, cX9_blend, 3, some .int, 2, 45, 0, 0)
theorem okX9_blend : OkV mX9_blend 2 := ⟨⟨w_901, w_10, by decide, by decide, by decide +kernel⟩, w_899, w_900⟩
abbrev mX9_canBlend : BcM := (yX9_canBlend, cX9_canBlend, 4, some .boolean, 1, 22, 0, 0)
theorem okX9_canBlend : OkV mX9_canBlend 2 := ⟨⟨w_905, w_10, by decide, by decide, by decide +kernel⟩, w_904, wp_24⟩
abbrev mX9_pass : BcM := (yX9_pass, cX9_pass, 4, some .int, 3, 65, 0, 0)
theorem okX9_pass : OkV mX9_pass 1 := ⟨⟨w_909, w_10, by decide, by decide, by decide +kernel⟩, w_907, w_908⟩
abbrev mX9_goodTill : BcM := (yX9_goodTill, cX9_goodTill, 2, some .int, 2, 44, 0, 0)
theorem okX9_goodTill : OkV mX9_goodTill 1 := ⟨⟨w_913, w_10, by decide, by decide, by decide +kernel⟩, w_912, wp_25⟩
abbrev mX9_set : BcM := (yX9_set, cX9_set, 4, some .int, 1, 22, 0, 0)
theorem okX9_set : OkV mX9_set 2 := ⟨⟨w_917, w_10, by decide, by decide, by decide +kernel⟩, w_915, w_916⟩
abbrev mX9_batchOf : BcM := (yX9_batchOf, cX9_batchOf, 3, some .int, 4, 86, 0, 0)
theorem okX9_batchOf : OkV mX9_batchOf 2 := ⟨⟨w_921, w_10, by decide, by decide, by decide +kernel⟩, w_919, w_920⟩
abbrev mX9_vesselOf : BcM := (yX9_vesselOf, cX9_vesselOf, 4, some .int, 1, 22, 0, 0)
theorem okX9_vesselOf : OkV mX9_vesselOf 2 := ⟨⟨w_925, w_10, by decide, by decide, by decide +kernel⟩, w_923, w_924⟩
abbrev mX9_lineOf : BcM := (yX9_lineOf, cX9_lineOf, 4, some .int, 1, 22, 0, 0)
theorem okX9_lineOf : OkV mX9_lineOf 2 := ⟨⟨w_929, w_10, by decide, by decide, by decide +kernel⟩, w_927, w_928⟩
abbrev mX9_count : BcM := (yX9_count, cX9_count, 2, some .int, 3, 66, 0, 0)
theorem okX9_count : OkV mX9_count 1 := ⟨⟨w_933, w_10, by decide, by decide, by decide +kernel⟩, w_931, w_932⟩
abbrev mX9_ofBatches : BcM := (yX9_ofBatches, cX9_ofBatches, 4, some .int, 2, 43, 0, 0)
theorem okX9_ofBatches : OkV mX9_ofBatches 1 := ⟨⟨w_937, w_10, by decide, by decide, by decide +kernel⟩, w_936, wp_26⟩
abbrev mX9_targets : BcM := (yX9_targets, cX9_targets, 4, some .int, 5, 113, 0, 0)
theorem okX9_targets : OkV mX9_targets 1 := ⟨⟨w_941, w_10, by decide, by decide, by decide +kernel⟩, w_939, w_940⟩
abbrev mX9_quickest : BcM := (yX9_quickest, cX9_quickest, 9, some .int, 5, 113, 0, 0)
theorem okX9_quickest : OkV mX9_quickest 2 := ⟨⟨w_945, w_10, by decide, by decide, by decide +kernel⟩, w_943, w_944⟩
abbrev mX9_soonest : BcM := (yX9_soonest, cX9_soonest, 6, some .int, 4, 86, 0, 0)
theorem okX9_soonest : OkV mX9_soonest 1 := ⟨⟨w_949, w_10, by decide, by decide, by decide +kernel⟩, w_947, w_948⟩
abbrev mX9_isRoom : BcM := (yX9_isRoom, cX9_isRoom, 5, some .boolean, 1, 22, 0, 0)
theorem okX9_isRoom : OkV mX9_isRoom 2 := ⟨⟨w_953, w_10, by decide, by decide, by decide +kernel⟩, w_952, wp_27⟩
abbrev mX9_urgent : BcM := (yX9_urgent, cX9_urgent, 8, some .int, 3, 65, 0, 0)
theorem okX9_urgent : OkV mX9_urgent 1 := ⟨⟨w_957, w_10, by decide, by decide, by decide +kernel⟩, w_955, w_956⟩
abbrev mX9_undo : BcM := (yX9_undo, cX9_undo, 2, some .int, 0, 0, 0, 0)
theorem okX9_undo : OkV mX9_undo 0 := ⟨⟨w_961, w_10, by decide, by decide, by decide +kernel⟩, w_959, w_960⟩
abbrev mX9_type : BcM := (yX9_type, cX9_type, 2, some .int, 1, 22, 0, 0)
theorem okX9_type : OkV mX9_type 1 := ⟨⟨w_965, w_10, by decide, by decide, by decide +kernel⟩, w_963, w_964⟩
abbrev mX9_clearText : BcM := (yX9_clearText, cX9_clearText, 2, some .int, 0, 0, 0, 0)
theorem okX9_clearText : OkV mX9_clearText 0 := ⟨⟨w_969, w_10, by decide, by decide, by decide +kernel⟩, w_967, w_968⟩
abbrev mX9_fault : BcM := (yX9_fault, cX9_fault, 3, some .int, 8, 184, 0, 0)
theorem okX9_fault : OkV mX9_fault 1 := ⟨⟨w_973, w_10, by decide, by decide, by decide +kernel⟩, w_971, w_972⟩
abbrev mX9_copies : BcM := (yX9_copies, cX9_copies, 3, none, 0, 0, 0, 0)
theorem okX9_copies : OkS mX9_copies 2 := ⟨⟨w_976, w_10, by decide, by decide, by decide +kernel⟩, w_975⟩
abbrev mX9_plays : BcM := (yX9_plays, cX9_plays, 6, some .int, 7, 159, 0, 0)
theorem okX9_plays : OkV mX9_plays 0 := ⟨⟨w_980, w_10, by decide, by decide, by decide +kernel⟩, w_979, wp_28⟩
abbrev mX9_numbersOf : BcM := (yX9_numbersOf, cX9_numbersOf, 1, some .int, 0, 0, 0, 0)
theorem okX9_numbersOf : OkS mX9_numbersOf 1 := ⟨⟨w_983, w_10, by decide, by decide, by decide +kernel⟩, w_982⟩
abbrev mX9_number : BcM := (yX9_number, cX9_number, 5, some .boolean, 2, 44, 0, 0)
theorem okX9_number : OkV mX9_number 2 := ⟨⟨w_987, w_10, by decide, by decide, by decide +kernel⟩, w_986, wp_29⟩
abbrev mX9_isAt : BcM := (yX9_isAt, cX9_isAt, 3, some .boolean, 1, 22, 0, 0)
theorem okX9_isAt : OkV mX9_isAt 2 := ⟨⟨w_991, w_10, by decide, by decide, by decide +kernel⟩, w_990, wp_30⟩
abbrev mX9_calls : BcM := (yX9_calls, cX9_calls, 2, some .int, 6, 138, 0, 0)
theorem okX9_calls : OkV mX9_calls 1 := ⟨⟨w_995, w_10, by decide, by decide, by decide +kernel⟩, w_994, wp_31⟩
abbrev mX9_play : BcM := (yX9_play, cX9_play, 2, some .int, 8, 184, 0, 0)
theorem okX9_play : OkV mX9_play 0 := ⟨⟨w_1005, w_10, by decide, by decide, by decide +kernel⟩, w_1003, w_1004⟩
