set_option maxRecDepth 100000 in
theorem zw_0 : (Cond.selects RX3 yX3_opensHunk yX3_opensHunk : Cond) ∈ zW := List.mem_filter.mpr ⟨List.mem_of_getElem? (i := 0) (by decide +kernel), by decide +kernel⟩
set_option maxRecDepth 100000 in
theorem zw_1 : (Cond.selects RX4 yX4_existingRow yX4_existingRow : Cond) ∈ zW := List.mem_filter.mpr ⟨List.mem_of_getElem? (i := 1) (by decide +kernel), by decide +kernel⟩
set_option maxRecDepth 100000 in
theorem zw_2 : (Cond.selects "java/lang/Throwable" ⟨"java/lang/Throwable", "fillInStackTrace", "(I)Ljava/lang/Throwable;"⟩ ⟨"java/lang/Throwable", "fillInStackTrace", "(I)Ljava/lang/Throwable;"⟩ : Cond) ∈ zW := List.mem_filter.mpr ⟨List.mem_of_getElem? (i := 2) (by decide +kernel), by decide +kernel⟩
set_option maxRecDepth 100000 in
theorem zw_3 : (Cond.selects RX0 yX0_findLeastCost yX0_findLeastCost : Cond) ∈ zW := List.mem_filter.mpr ⟨List.mem_of_getElem? (i := 3) (by decide +kernel), by decide +kernel⟩
set_option maxRecDepth 100000 in
theorem zw_4 : (Cond.selects RX0 yX0_moveCostsBackTo yX0_moveCostsBackTo : Cond) ∈ zW := List.mem_filter.mpr ⟨List.mem_of_getElem? (i := 4) (by decide +kernel), by decide +kernel⟩
set_option maxRecDepth 100000 in
theorem zw_5 : (Cond.selects RX0 yX0_markErase yX0_markErase : Cond) ∈ zW := List.mem_filter.mpr ⟨List.mem_of_getElem? (i := 5) (by decide +kernel), by decide +kernel⟩
set_option maxRecDepth 100000 in
theorem zw_6 : (Cond.selects RX0 yX0_writeScript yX0_writeScript : Cond) ∈ zW := List.mem_filter.mpr ⟨List.mem_of_getElem? (i := 6) (by decide +kernel), by decide +kernel⟩
set_option maxRecDepth 100000 in
theorem zw_7 : (Cond.selects RX0 yX0_isEraseMarked yX0_isEraseMarked : Cond) ∈ zW := List.mem_filter.mpr ⟨List.mem_of_getElem? (i := 7) (by decide +kernel), by decide +kernel⟩
set_option maxRecDepth 100000 in
theorem zw_8 : (Cond.selects RX1 yX1_appendCommon yX1_appendCommon : Cond) ∈ zW := List.mem_filter.mpr ⟨List.mem_of_getElem? (i := 8) (by decide +kernel), by decide +kernel⟩
set_option maxRecDepth 100000 in
theorem zw_9 : (Cond.selects RX1 yX1_append yX1_append : Cond) ∈ zW := List.mem_filter.mpr ⟨List.mem_of_getElem? (i := 9) (by decide +kernel), by decide +kernel⟩
set_option maxRecDepth 100000 in
theorem zw_10 : (Cond.selects RX1 yX1_appendInserts yX1_appendInserts : Cond) ∈ zW := List.mem_filter.mpr ⟨List.mem_of_getElem? (i := 10) (by decide +kernel), by decide +kernel⟩
set_option maxRecDepth 100000 in
theorem zw_11 : (Cond.selects RX1 yX1_isSeen yX1_isSeen : Cond) ∈ zW := List.mem_filter.mpr ⟨List.mem_of_getElem? (i := 11) (by decide +kernel), by decide +kernel⟩
set_option maxRecDepth 100000 in
theorem zw_12 : (Cond.selects RX5 yX5_measure yX5_measure : Cond) ∈ zW := List.mem_filter.mpr ⟨List.mem_of_getElem? (i := 12) (by decide +kernel), by decide +kernel⟩
set_option maxRecDepth 100000 in
theorem zw_13 : (Cond.selects RX5 yX5_same yX5_same : Cond) ∈ zW := List.mem_filter.mpr ⟨List.mem_of_getElem? (i := 13) (by decide +kernel), by decide +kernel⟩
set_option maxRecDepth 100000 in
theorem zw_14 : (Cond.selects RX5 yX5_raise yX5_raise : Cond) ∈ zW := List.mem_filter.mpr ⟨List.mem_of_getElem? (i := 14) (by decide +kernel), by decide +kernel⟩
set_option maxRecDepth 100000 in
theorem zw_15 : (Cond.selects RX5 yX5_due yX5_due : Cond) ∈ zW := List.mem_filter.mpr ⟨List.mem_of_getElem? (i := 15) (by decide +kernel), by decide +kernel⟩
set_option maxRecDepth 100000 in
theorem zw_16 : (Cond.selects RX5 yX5_opens yX5_opens : Cond) ∈ zW := List.mem_filter.mpr ⟨List.mem_of_getElem? (i := 16) (by decide +kernel), by decide +kernel⟩
set_option maxRecDepth 100000 in
theorem zw_17 : (Cond.selects RX5 yX5_store yX5_store : Cond) ∈ zW := List.mem_filter.mpr ⟨List.mem_of_getElem? (i := 17) (by decide +kernel), by decide +kernel⟩
set_option maxRecDepth 100000 in
theorem zw_18 : (Cond.selects RX5 yX5_side yX5_side : Cond) ∈ zW := List.mem_filter.mpr ⟨List.mem_of_getElem? (i := 18) (by decide +kernel), by decide +kernel⟩
set_option maxRecDepth 100000 in
theorem zw_19 : (Cond.selects RX5 yX5_putIn yX5_putIn : Cond) ∈ zW := List.mem_filter.mpr ⟨List.mem_of_getElem? (i := 19) (by decide +kernel), by decide +kernel⟩
set_option maxRecDepth 100000 in
theorem zw_20 : (Cond.selects RX5 yX5_enter yX5_enter : Cond) ∈ zW := List.mem_filter.mpr ⟨List.mem_of_getElem? (i := 20) (by decide +kernel), by decide +kernel⟩
set_option maxRecDepth 100000 in
theorem zw_21 : (Cond.initialized RL : Cond) ∈ zW := List.mem_filter.mpr ⟨List.mem_of_getElem? (i := 21) (by decide +kernel), by decide +kernel⟩
set_option maxRecDepth 100000 in
theorem zw_22 : (Cond.initialized RX4 : Cond) ∈ zW := List.mem_filter.mpr ⟨List.mem_of_getElem? (i := 22) (by decide +kernel), by decide +kernel⟩
set_option maxRecDepth 100000 in
theorem zw_23 : (Cond.initialized RX2 : Cond) ∈ zW := List.mem_filter.mpr ⟨List.mem_of_getElem? (i := 23) (by decide +kernel), by decide +kernel⟩
set_option maxRecDepth 100000 in
theorem zw_24 : (Cond.initialized RX0 : Cond) ∈ zW := List.mem_filter.mpr ⟨List.mem_of_getElem? (i := 24) (by decide +kernel), by decide +kernel⟩
set_option maxRecDepth 100000 in
theorem zw_25 : (Cond.initialized RX3 : Cond) ∈ zW := List.mem_filter.mpr ⟨List.mem_of_getElem? (i := 25) (by decide +kernel), by decide +kernel⟩
set_option maxRecDepth 100000 in
theorem zw_26 : (Cond.initialized RX1 : Cond) ∈ zW := List.mem_filter.mpr ⟨List.mem_of_getElem? (i := 26) (by decide +kernel), by decide +kernel⟩
set_option maxRecDepth 100000 in
theorem zw_27 : (Cond.initialized RX5 : Cond) ∈ zW := List.mem_filter.mpr ⟨List.mem_of_getElem? (i := 27) (by decide +kernel), by decide +kernel⟩
set_option maxRecDepth 100000 in
theorem zw_28 : (Cond.initialized "java/lang/Throwable" : Cond) ∈ zW := List.mem_filter.mpr ⟨List.mem_of_getElem? (i := 28) (by decide +kernel), by decide +kernel⟩
set_option maxRecDepth 100000 in
theorem zw_29 : (Cond.initialized "java/lang/Exception" : Cond) ∈ zW := List.mem_filter.mpr ⟨List.mem_of_getElem? (i := 29) (by decide +kernel), by decide +kernel⟩
set_option maxRecDepth 100000 in
theorem zw_30 : (Cond.initialized "java/lang/RuntimeException" : Cond) ∈ zW := List.mem_filter.mpr ⟨List.mem_of_getElem? (i := 30) (by decide +kernel), by decide +kernel⟩
set_option maxRecDepth 100000 in
theorem zw_31 : (Cond.initialized "java/lang/IndexOutOfBoundsException" : Cond) ∈ zW := List.mem_filter.mpr ⟨List.mem_of_getElem? (i := 31) (by decide +kernel), by decide +kernel⟩
set_option maxRecDepth 100000 in
theorem zw_32 : (Cond.initialized "java/lang/Math" : Cond) ∈ zW := List.mem_filter.mpr ⟨List.mem_of_getElem? (i := 32) (by decide +kernel), by decide +kernel⟩
set_option maxRecDepth 100000 in
theorem zw_33 : (Cond.initialized "java/lang/IllegalStateException" : Cond) ∈ zW := List.mem_filter.mpr ⟨List.mem_of_getElem? (i := 33) (by decide +kernel), by decide +kernel⟩
set_option maxRecDepth 100000 in
theorem zw_34 : (Cond.initialized "java/lang/IllegalArgumentException" : Cond) ∈ zW := List.mem_filter.mpr ⟨List.mem_of_getElem? (i := 34) (by decide +kernel), by decide +kernel⟩
set_option maxRecDepth 100000 in
theorem zw_35 : (Cond.classLink RL 8 RX4 : Cond) ∈ zW := List.mem_filter.mpr ⟨List.mem_of_getElem? (i := 35) (by decide +kernel), by decide +kernel⟩
set_option maxRecDepth 100000 in
theorem zw_36 : (Cond.instantiable RX4 6 : Cond) ∈ zW := List.mem_filter.mpr ⟨List.mem_of_getElem? (i := 36) (by decide +kernel), by decide +kernel⟩
set_option maxRecDepth 100000 in
theorem zw_37 : (Cond.methodLink RL 42 yX4_init : Cond) ∈ zW := List.mem_filter.mpr ⟨List.mem_of_getElem? (i := 37) (by decide +kernel), by decide +kernel⟩
set_option maxRecDepth 100000 in
theorem zw_38 : (Cond.instanceMethod yX4_init : Cond) ∈ zW := List.mem_filter.mpr ⟨List.mem_of_getElem? (i := 38) (by decide +kernel), by decide +kernel⟩
set_option maxRecDepth 100000 in
theorem zw_39 : (Cond.code yX4_init cX4_init 2 none : Cond) ∈ zW := List.mem_filter.mpr ⟨List.mem_of_getElem? (i := 39) (by decide +kernel), by decide +kernel⟩
set_option maxRecDepth 100000 in
theorem zw_40 : (Cond.methodLink RX4 3 objectInit : Cond) ∈ zW := List.mem_filter.mpr ⟨List.mem_of_getElem? (i := 40) (by decide +kernel), by decide +kernel⟩
set_option maxRecDepth 100000 in
theorem zw_41 : (Cond.instanceMethod objectInit : Cond) ∈ zW := List.mem_filter.mpr ⟨List.mem_of_getElem? (i := 41) (by decide +kernel), by decide +kernel⟩
set_option maxRecDepth 100000 in
theorem zw_42 : (Cond.code objectInit ⟨#[0xb1]⟩ 1 none : Cond) ∈ zW := List.mem_filter.mpr ⟨List.mem_of_getElem? (i := 42) (by decide +kernel), by decide +kernel⟩
set_option maxRecDepth 100000 in
theorem zw_43 : (Cond.classLink RX4 9 RX2 : Cond) ∈ zW := List.mem_filter.mpr ⟨List.mem_of_getElem? (i := 43) (by decide +kernel), by decide +kernel⟩
set_option maxRecDepth 100000 in
theorem zw_45 : (Cond.instantiable RX2 2 : Cond) ∈ zW := List.mem_filter.mpr ⟨List.mem_of_getElem? (i := 45) (by decide +kernel), by decide +kernel⟩
set_option maxRecDepth 100000 in
theorem zw_47 : (Cond.instanceMethod yX2_init : Cond) ∈ zW := List.mem_filter.mpr ⟨List.mem_of_getElem? (i := 47) (by decide +kernel), by decide +kernel⟩
set_option maxRecDepth 100000 in
theorem zw_48 : (Cond.code yX2_init cX2_init 1 none : Cond) ∈ zW := List.mem_filter.mpr ⟨List.mem_of_getElem? (i := 48) (by decide +kernel), by decide +kernel⟩
set_option maxRecDepth 100000 in
theorem zw_49 : (Cond.methodLink RX2 3 objectInit : Cond) ∈ zW := List.mem_filter.mpr ⟨List.mem_of_getElem? (i := 49) (by decide +kernel), by decide +kernel⟩
set_option maxRecDepth 100000 in
theorem zw_50 : (Cond.fieldLink RX2 9 "RowDiffer$Row" "numbers" "[I" : Cond) ∈ zW := List.mem_filter.mpr ⟨List.mem_of_getElem? (i := 50) (by decide +kernel), by decide +kernel⟩
set_option maxRecDepth 100000 in
theorem zw_55 : (Cond.fieldLink RX2 15 "RowDiffer$Row" "count" "I" : Cond) ∈ zW := List.mem_filter.mpr ⟨List.mem_of_getElem? (i := 55) (by decide +kernel), by decide +kernel⟩
set_option maxRecDepth 100000 in
theorem zw_65 : (Cond.arrayClass .int : Cond) ∈ zW := List.mem_filter.mpr ⟨List.mem_of_getElem? (i := 65) (by decide +kernel), by decide +kernel⟩
set_option maxRecDepth 100000 in
theorem zw_66 : (Cond.classLink RX4 16 RX0 : Cond) ∈ zW := List.mem_filter.mpr ⟨List.mem_of_getElem? (i := 66) (by decide +kernel), by decide +kernel⟩
set_option maxRecDepth 100000 in
theorem zw_67 : (Cond.instantiable RX0 2 : Cond) ∈ zW := List.mem_filter.mpr ⟨List.mem_of_getElem? (i := 67) (by decide +kernel), by decide +kernel⟩
set_option maxRecDepth 100000 in
theorem zw_69 : (Cond.instanceMethod yX0_init : Cond) ∈ zW := List.mem_filter.mpr ⟨List.mem_of_getElem? (i := 69) (by decide +kernel), by decide +kernel⟩
set_option maxRecDepth 100000 in
theorem zw_70 : (Cond.code yX0_init cX0_init 1 none : Cond) ∈ zW := List.mem_filter.mpr ⟨List.mem_of_getElem? (i := 70) (by decide +kernel), by decide +kernel⟩
set_option maxRecDepth 100000 in
theorem zw_71 : (Cond.methodLink RX0 5 objectInit : Cond) ∈ zW := List.mem_filter.mpr ⟨List.mem_of_getElem? (i := 71) (by decide +kernel), by decide +kernel⟩
set_option maxRecDepth 100000 in
theorem zw_72 : (Cond.fieldLink RX0 11 "RowDiffer$Comparison" "restCosts" "[I" : Cond) ∈ zW := List.mem_filter.mpr ⟨List.mem_of_getElem? (i := 72) (by decide +kernel), by decide +kernel⟩
set_option maxRecDepth 100000 in
theorem zw_73 : (Cond.fieldLink RX0 15 "RowDiffer$Comparison" "eraseBits" "[J" : Cond) ∈ zW := List.mem_filter.mpr ⟨List.mem_of_getElem? (i := 73) (by decide +kernel), by decide +kernel⟩
set_option maxRecDepth 100000 in
theorem zw_79 : (Cond.arrayClass .long : Cond) ∈ zW := List.mem_filter.mpr ⟨List.mem_of_getElem? (i := 79) (by decide +kernel), by decide +kernel⟩
set_option maxRecDepth 100000 in
theorem zw_80 : (Cond.classLink RX4 23 RX3 : Cond) ∈ zW := List.mem_filter.mpr ⟨List.mem_of_getElem? (i := 80) (by decide +kernel), by decide +kernel⟩
set_option maxRecDepth 100000 in
theorem zw_81 : (Cond.instantiable RX3 5 : Cond) ∈ zW := List.mem_filter.mpr ⟨List.mem_of_getElem? (i := 81) (by decide +kernel), by decide +kernel⟩
set_option maxRecDepth 100000 in
theorem zw_83 : (Cond.instanceMethod yX3_init : Cond) ∈ zW := List.mem_filter.mpr ⟨List.mem_of_getElem? (i := 83) (by decide +kernel), by decide +kernel⟩
set_option maxRecDepth 100000 in
theorem zw_84 : (Cond.code yX3_init cX3_init 1 none : Cond) ∈ zW := List.mem_filter.mpr ⟨List.mem_of_getElem? (i := 84) (by decide +kernel), by decide +kernel⟩
set_option maxRecDepth 100000 in
theorem zw_85 : (Cond.methodLink RX3 3 objectInit : Cond) ∈ zW := List.mem_filter.mpr ⟨List.mem_of_getElem? (i := 85) (by decide +kernel), by decide +kernel⟩
set_option maxRecDepth 100000 in
theorem zw_86 : (Cond.fieldLink RX3 9 "RowDiffer$Script" "kinds" "[I" : Cond) ∈ zW := List.mem_filter.mpr ⟨List.mem_of_getElem? (i := 86) (by decide +kernel), by decide +kernel⟩
set_option maxRecDepth 100000 in
theorem zw_88 : (Cond.fieldLink RX3 15 "RowDiffer$Script" "fromPlaces" "[I" : Cond) ∈ zW := List.mem_filter.mpr ⟨List.mem_of_getElem? (i := 88) (by decide +kernel), by decide +kernel⟩
set_option maxRecDepth 100000 in
theorem zw_90 : (Cond.fieldLink RX3 18 "RowDiffer$Script" "toPlaces" "[I" : Cond) ∈ zW := List.mem_filter.mpr ⟨List.mem_of_getElem? (i := 90) (by decide +kernel), by decide +kernel⟩
set_option maxRecDepth 100000 in
theorem zw_92 : (Cond.fieldLink RX3 21 "RowDiffer$Script" "numbers" "[I" : Cond) ∈ zW := List.mem_filter.mpr ⟨List.mem_of_getElem? (i := 92) (by decide +kernel), by decide +kernel⟩
set_option maxRecDepth 100000 in
theorem zw_95 : (Cond.fieldLink RX3 24 "RowDiffer$Script" "count" "I" : Cond) ∈ zW := List.mem_filter.mpr ⟨List.mem_of_getElem? (i := 95) (by decide +kernel), by decide +kernel⟩
set_option maxRecDepth 100000 in
theorem zw_108 : (Cond.classLink RX4 36 RX1 : Cond) ∈ zW := List.mem_filter.mpr ⟨List.mem_of_getElem? (i := 108) (by decide +kernel), by decide +kernel⟩
set_option maxRecDepth 100000 in
theorem zw_109 : (Cond.instantiable RX1 6 : Cond) ∈ zW := List.mem_filter.mpr ⟨List.mem_of_getElem? (i := 109) (by decide +kernel), by decide +kernel⟩
set_option maxRecDepth 100000 in
theorem zw_111 : (Cond.instanceMethod yX1_init : Cond) ∈ zW := List.mem_filter.mpr ⟨List.mem_of_getElem? (i := 111) (by decide +kernel), by decide +kernel⟩
set_option maxRecDepth 100000 in
theorem zw_112 : (Cond.code yX1_init cX1_init 1 none : Cond) ∈ zW := List.mem_filter.mpr ⟨List.mem_of_getElem? (i := 112) (by decide +kernel), by decide +kernel⟩
set_option maxRecDepth 100000 in
theorem zw_113 : (Cond.methodLink RX1 3 objectInit : Cond) ∈ zW := List.mem_filter.mpr ⟨List.mem_of_getElem? (i := 113) (by decide +kernel), by decide +kernel⟩
set_option maxRecDepth 100000 in
theorem zw_114 : (Cond.fieldLink RX1 9 "RowDiffer$Merge" "numbers" "[I" : Cond) ∈ zW := List.mem_filter.mpr ⟨List.mem_of_getElem? (i := 114) (by decide +kernel), by decide +kernel⟩
set_option maxRecDepth 100000 in
theorem zw_116 : (Cond.fieldLink RX1 15 "RowDiffer$Merge" "inserters" "[I" : Cond) ∈ zW := List.mem_filter.mpr ⟨List.mem_of_getElem? (i := 116) (by decide +kernel), by decide +kernel⟩
set_option maxRecDepth 100000 in
theorem zw_118 : (Cond.fieldLink RX1 18 "RowDiffer$Merge" "erasers" "[I" : Cond) ∈ zW := List.mem_filter.mpr ⟨List.mem_of_getElem? (i := 118) (by decide +kernel), by decide +kernel⟩
set_option maxRecDepth 100000 in
theorem zw_120 : (Cond.fieldLink RX1 21 "RowDiffer$Merge" "basePlaces" "[I" : Cond) ∈ zW := List.mem_filter.mpr ⟨List.mem_of_getElem? (i := 120) (by decide +kernel), by decide +kernel⟩
set_option maxRecDepth 100000 in
theorem zw_122 : (Cond.fieldLink RX1 24 "RowDiffer$Merge" "count" "I" : Cond) ∈ zW := List.mem_filter.mpr ⟨List.mem_of_getElem? (i := 122) (by decide +kernel), by decide +kernel⟩
set_option maxRecDepth 100000 in
theorem zw_124 : (Cond.fieldLink RX1 28 "RowDiffer$Merge" "conflictCount" "I" : Cond) ∈ zW := List.mem_filter.mpr ⟨List.mem_of_getElem? (i := 124) (by decide +kernel), by decide +kernel⟩
set_option maxRecDepth 100000 in
theorem zw_139 : (Cond.fieldLink RX4 11 "RowDiffer" "rows" "[LRowDiffer$Row;" : Cond) ∈ zW := List.mem_filter.mpr ⟨List.mem_of_getElem? (i := 139) (by decide +kernel), by decide +kernel⟩
set_option maxRecDepth 100000 in
theorem zw_140 : (Cond.fieldLink RX4 19 "RowDiffer" "comparison" "LRowDiffer$Comparison;" : Cond) ∈ zW := List.mem_filter.mpr ⟨List.mem_of_getElem? (i := 140) (by decide +kernel), by decide +kernel⟩
set_option maxRecDepth 100000 in
theorem zw_141 : (Cond.fieldLink RX4 26 "RowDiffer" "lastScript" "LRowDiffer$Script;" : Cond) ∈ zW := List.mem_filter.mpr ⟨List.mem_of_getElem? (i := 141) (by decide +kernel), by decide +kernel⟩
set_option maxRecDepth 100000 in
theorem zw_142 : (Cond.fieldLink RX4 30 "RowDiffer" "leftScript" "LRowDiffer$Script;" : Cond) ∈ zW := List.mem_filter.mpr ⟨List.mem_of_getElem? (i := 142) (by decide +kernel), by decide +kernel⟩
set_option maxRecDepth 100000 in
theorem zw_143 : (Cond.fieldLink RX4 33 "RowDiffer" "rightScript" "LRowDiffer$Script;" : Cond) ∈ zW := List.mem_filter.mpr ⟨List.mem_of_getElem? (i := 143) (by decide +kernel), by decide +kernel⟩
set_option maxRecDepth 100000 in
theorem zw_144 : (Cond.fieldLink RX4 39 "RowDiffer" "lastMerge" "LRowDiffer$Merge;" : Cond) ∈ zW := List.mem_filter.mpr ⟨List.mem_of_getElem? (i := 144) (by decide +kernel), by decide +kernel⟩
set_option maxRecDepth 100000 in
theorem zw_158 : (Cond.methodLink RL 46 yX4_add : Cond) ∈ zW := List.mem_filter.mpr ⟨List.mem_of_getElem? (i := 158) (by decide +kernel), by decide +kernel⟩
set_option maxRecDepth 100000 in
theorem zw_159 : (Cond.instanceMethod yX4_add : Cond) ∈ zW := List.mem_filter.mpr ⟨List.mem_of_getElem? (i := 159) (by decide +kernel), by decide +kernel⟩
set_option maxRecDepth 100000 in
theorem zw_160 : (Cond.selects RX4 yX4_add yX4_add : Cond) ∈ zW := List.mem_filter.mpr ⟨List.mem_of_getElem? (i := 160) (by decide +kernel), by decide +kernel⟩
set_option maxRecDepth 100000 in
theorem zw_161 : (Cond.code yX4_add cX4_add 3 (some .int) : Cond) ∈ zW := List.mem_filter.mpr ⟨List.mem_of_getElem? (i := 161) (by decide +kernel), by decide +kernel⟩
set_option maxRecDepth 100000 in
theorem zw_162 : (Cond.methodLink RX4 43 yX4_isRow : Cond) ∈ zW := List.mem_filter.mpr ⟨List.mem_of_getElem? (i := 162) (by decide +kernel), by decide +kernel⟩
set_option maxRecDepth 100000 in
theorem zw_163 : (Cond.static yX4_isRow : Cond) ∈ zW := List.mem_filter.mpr ⟨List.mem_of_getElem? (i := 163) (by decide +kernel), by decide +kernel⟩
set_option maxRecDepth 100000 in
theorem zw_164 : (Cond.code yX4_isRow cX4_isRow 1 (some .boolean) : Cond) ∈ zW := List.mem_filter.mpr ⟨List.mem_of_getElem? (i := 164) (by decide +kernel), by decide +kernel⟩
set_option maxRecDepth 100000 in
theorem zw_165 : (Cond.methodLink RX4 51 yX2_append : Cond) ∈ zW := List.mem_filter.mpr ⟨List.mem_of_getElem? (i := 165) (by decide +kernel), by decide +kernel⟩
set_option maxRecDepth 100000 in
theorem zw_166 : (Cond.instanceMethod yX2_append : Cond) ∈ zW := List.mem_filter.mpr ⟨List.mem_of_getElem? (i := 166) (by decide +kernel), by decide +kernel⟩
set_option maxRecDepth 100000 in
theorem zw_167 : (Cond.selects RX2 yX2_append yX2_append : Cond) ∈ zW := List.mem_filter.mpr ⟨List.mem_of_getElem? (i := 167) (by decide +kernel), by decide +kernel⟩
set_option maxRecDepth 100000 in
theorem zw_168 : (Cond.code yX2_append cX2_append 2 none : Cond) ∈ zW := List.mem_filter.mpr ⟨List.mem_of_getElem? (i := 168) (by decide +kernel), by decide +kernel⟩
set_option maxRecDepth 100000 in
theorem zw_169 : (Cond.methodLink RL 50 yX4_wipe : Cond) ∈ zW := List.mem_filter.mpr ⟨List.mem_of_getElem? (i := 169) (by decide +kernel), by decide +kernel⟩
set_option maxRecDepth 100000 in
theorem zw_170 : (Cond.instanceMethod yX4_wipe : Cond) ∈ zW := List.mem_filter.mpr ⟨List.mem_of_getElem? (i := 170) (by decide +kernel), by decide +kernel⟩
set_option maxRecDepth 100000 in
theorem zw_171 : (Cond.selects RX4 yX4_wipe yX4_wipe : Cond) ∈ zW := List.mem_filter.mpr ⟨List.mem_of_getElem? (i := 171) (by decide +kernel), by decide +kernel⟩
set_option maxRecDepth 100000 in
theorem zw_172 : (Cond.code yX4_wipe cX4_wipe 3 (some .int) : Cond) ∈ zW := List.mem_filter.mpr ⟨List.mem_of_getElem? (i := 172) (by decide +kernel), by decide +kernel⟩
set_option maxRecDepth 100000 in
theorem zw_173 : (Cond.methodLink RX4 55 yX2_empty : Cond) ∈ zW := List.mem_filter.mpr ⟨List.mem_of_getElem? (i := 173) (by decide +kernel), by decide +kernel⟩
set_option maxRecDepth 100000 in
theorem zw_174 : (Cond.instanceMethod yX2_empty : Cond) ∈ zW := List.mem_filter.mpr ⟨List.mem_of_getElem? (i := 174) (by decide +kernel), by decide +kernel⟩
set_option maxRecDepth 100000 in
theorem zw_175 : (Cond.selects RX2 yX2_empty yX2_empty : Cond) ∈ zW := List.mem_filter.mpr ⟨List.mem_of_getElem? (i := 175) (by decide +kernel), by decide +kernel⟩
set_option maxRecDepth 100000 in
theorem zw_176 : (Cond.code yX2_empty cX2_empty 1 none : Cond) ∈ zW := List.mem_filter.mpr ⟨List.mem_of_getElem? (i := 176) (by decide +kernel), by decide +kernel⟩
set_option maxRecDepth 100000 in
theorem zw_177 : (Cond.methodLink RL 55 yX4_length : Cond) ∈ zW := List.mem_filter.mpr ⟨List.mem_of_getElem? (i := 177) (by decide +kernel), by decide +kernel⟩
set_option maxRecDepth 100000 in
theorem zw_178 : (Cond.instanceMethod yX4_length : Cond) ∈ zW := List.mem_filter.mpr ⟨List.mem_of_getElem? (i := 178) (by decide +kernel), by decide +kernel⟩
set_option maxRecDepth 100000 in
theorem zw_179 : (Cond.selects RX4 yX4_length yX4_length : Cond) ∈ zW := List.mem_filter.mpr ⟨List.mem_of_getElem? (i := 179) (by decide +kernel), by decide +kernel⟩
set_option maxRecDepth 100000 in
theorem zw_180 : (Cond.code yX4_length cX4_length 2 (some .int) : Cond) ∈ zW := List.mem_filter.mpr ⟨List.mem_of_getElem? (i := 180) (by decide +kernel), by decide +kernel⟩
set_option maxRecDepth 100000 in
theorem zw_181 : (Cond.methodLink RL 72 yX4_steps : Cond) ∈ zW := List.mem_filter.mpr ⟨List.mem_of_getElem? (i := 181) (by decide +kernel), by decide +kernel⟩
set_option maxRecDepth 100000 in
theorem zw_182 : (Cond.instanceMethod yX4_steps : Cond) ∈ zW := List.mem_filter.mpr ⟨List.mem_of_getElem? (i := 182) (by decide +kernel), by decide +kernel⟩
set_option maxRecDepth 100000 in
theorem zw_183 : (Cond.selects RX4 yX4_steps yX4_steps : Cond) ∈ zW := List.mem_filter.mpr ⟨List.mem_of_getElem? (i := 183) (by decide +kernel), by decide +kernel⟩
set_option maxRecDepth 100000 in
theorem zw_184 : (Cond.code yX4_steps cX4_steps 1 (some .int) : Cond) ∈ zW := List.mem_filter.mpr ⟨List.mem_of_getElem? (i := 184) (by decide +kernel), by decide +kernel⟩
set_option maxRecDepth 100000 in
theorem zw_185 : (Cond.methodLink RL 79 yX4_hunks : Cond) ∈ zW := List.mem_filter.mpr ⟨List.mem_of_getElem? (i := 185) (by decide +kernel), by decide +kernel⟩
set_option maxRecDepth 100000 in
theorem zw_186 : (Cond.instanceMethod yX4_hunks : Cond) ∈ zW := List.mem_filter.mpr ⟨List.mem_of_getElem? (i := 186) (by decide +kernel), by decide +kernel⟩
set_option maxRecDepth 100000 in
theorem zw_187 : (Cond.selects RX4 yX4_hunks yX4_hunks : Cond) ∈ zW := List.mem_filter.mpr ⟨List.mem_of_getElem? (i := 187) (by decide +kernel), by decide +kernel⟩
set_option maxRecDepth 100000 in
theorem zw_188 : (Cond.code yX4_hunks cX4_hunks 1 (some .int) : Cond) ∈ zW := List.mem_filter.mpr ⟨List.mem_of_getElem? (i := 188) (by decide +kernel), by decide +kernel⟩
set_option maxRecDepth 100000 in
theorem zw_189 : (Cond.methodLink RX4 100 yX3_countHunks : Cond) ∈ zW := List.mem_filter.mpr ⟨List.mem_of_getElem? (i := 189) (by decide +kernel), by decide +kernel⟩
set_option maxRecDepth 100000 in
theorem zw_190 : (Cond.instanceMethod yX3_countHunks : Cond) ∈ zW := List.mem_filter.mpr ⟨List.mem_of_getElem? (i := 190) (by decide +kernel), by decide +kernel⟩
set_option maxRecDepth 100000 in
theorem zw_191 : (Cond.selects RX3 yX3_countHunks yX3_countHunks : Cond) ∈ zW := List.mem_filter.mpr ⟨List.mem_of_getElem? (i := 191) (by decide +kernel), by decide +kernel⟩
set_option maxRecDepth 100000 in
theorem zw_192 : (Cond.code yX3_countHunks cX3_countHunks 3 (some .int) : Cond) ∈ zW := List.mem_filter.mpr ⟨List.mem_of_getElem? (i := 192) (by decide +kernel), by decide +kernel⟩
set_option maxRecDepth 100000 in
theorem zw_193 : (Cond.methodLink RX3 28 yX3_opensHunk : Cond) ∈ zW := List.mem_filter.mpr ⟨List.mem_of_getElem? (i := 193) (by decide +kernel), by decide +kernel⟩
set_option maxRecDepth 100000 in
theorem zw_195 : (Cond.instanceMethod yX3_opensHunk : Cond) ∈ zW := List.mem_filter.mpr ⟨List.mem_of_getElem? (i := 195) (by decide +kernel), by decide +kernel⟩
set_option maxRecDepth 100000 in
theorem zw_196 : (Cond.code yX3_opensHunk cX3_opensHunk 2 (some .boolean) : Cond) ∈ zW := List.mem_filter.mpr ⟨List.mem_of_getElem? (i := 196) (by decide +kernel), by decide +kernel⟩
set_option maxRecDepth 100000 in
theorem zw_197 : (Cond.methodLink RL 97 yX4_conflicts : Cond) ∈ zW := List.mem_filter.mpr ⟨List.mem_of_getElem? (i := 197) (by decide +kernel), by decide +kernel⟩
set_option maxRecDepth 100000 in
theorem zw_198 : (Cond.instanceMethod yX4_conflicts : Cond) ∈ zW := List.mem_filter.mpr ⟨List.mem_of_getElem? (i := 198) (by decide +kernel), by decide +kernel⟩
set_option maxRecDepth 100000 in
theorem zw_199 : (Cond.selects RX4 yX4_conflicts yX4_conflicts : Cond) ∈ zW := List.mem_filter.mpr ⟨List.mem_of_getElem? (i := 199) (by decide +kernel), by decide +kernel⟩
set_option maxRecDepth 100000 in
theorem zw_200 : (Cond.code yX4_conflicts cX4_conflicts 1 (some .int) : Cond) ∈ zW := List.mem_filter.mpr ⟨List.mem_of_getElem? (i := 200) (by decide +kernel), by decide +kernel⟩
set_option maxRecDepth 100000 in
theorem zw_201 : (Cond.methodLink RL 59 yL_number : Cond) ∈ zW := List.mem_filter.mpr ⟨List.mem_of_getElem? (i := 201) (by decide +kernel), by decide +kernel⟩
set_option maxRecDepth 100000 in
theorem zw_202 : (Cond.static yL_number : Cond) ∈ zW := List.mem_filter.mpr ⟨List.mem_of_getElem? (i := 202) (by decide +kernel), by decide +kernel⟩
set_option maxRecDepth 100000 in
theorem zw_204 : (Cond.classLink RL 13 "java/lang/IndexOutOfBoundsException" : Cond) ∈ zW := List.mem_filter.mpr ⟨List.mem_of_getElem? (i := 204) (by decide +kernel), by decide +kernel⟩
set_option maxRecDepth 100000 in
theorem zw_205 : (Cond.methodLink RL 7 yX4_number : Cond) ∈ zW := List.mem_filter.mpr ⟨List.mem_of_getElem? (i := 205) (by decide +kernel), by decide +kernel⟩
set_option maxRecDepth 100000 in
theorem zw_206 : (Cond.instanceMethod yX4_number : Cond) ∈ zW := List.mem_filter.mpr ⟨List.mem_of_getElem? (i := 206) (by decide +kernel), by decide +kernel⟩
set_option maxRecDepth 100000 in
theorem zw_207 : (Cond.selects RX4 yX4_number yX4_number : Cond) ∈ zW := List.mem_filter.mpr ⟨List.mem_of_getElem? (i := 207) (by decide +kernel), by decide +kernel⟩
set_option maxRecDepth 100000 in
theorem zw_208 : (Cond.code yX4_number cX4_number 4 (some .int) : Cond) ∈ zW := List.mem_filter.mpr ⟨List.mem_of_getElem? (i := 208) (by decide +kernel), by decide +kernel⟩
set_option maxRecDepth 100000 in
theorem zw_209 : (Cond.methodLink RX4 58 yX4_existingRow : Cond) ∈ zW := List.mem_filter.mpr ⟨List.mem_of_getElem? (i := 209) (by decide +kernel), by decide +kernel⟩
set_option maxRecDepth 100000 in
theorem zw_211 : (Cond.instanceMethod yX4_existingRow : Cond) ∈ zW := List.mem_filter.mpr ⟨List.mem_of_getElem? (i := 211) (by decide +kernel), by decide +kernel⟩
set_option maxRecDepth 100000 in
theorem zw_212 : (Cond.code yX4_existingRow cX4_existingRow 2 (some (.object "RowDiffer$Row")) : Cond) ∈ zW := List.mem_filter.mpr ⟨List.mem_of_getElem? (i := 212) (by decide +kernel), by decide +kernel⟩
set_option maxRecDepth 100000 in
theorem zw_213 : (Cond.classLink RX4 62 "java/lang/IndexOutOfBoundsException" : Cond) ∈ zW := List.mem_filter.mpr ⟨List.mem_of_getElem? (i := 213) (by decide +kernel), by decide +kernel⟩
set_option maxRecDepth 100000 in
theorem zw_214 : (Cond.instantiable "java/lang/IndexOutOfBoundsException" 6 : Cond) ∈ zW := List.mem_filter.mpr ⟨List.mem_of_getElem? (i := 214) (by decide +kernel), by decide +kernel⟩
set_option maxRecDepth 100000 in
theorem zw_222 : (Cond.selects "java/lang/IndexOutOfBoundsException" ⟨"java/lang/Throwable", "fillInStackTrace", "(I)Ljava/lang/Throwable;"⟩ ⟨"java/lang/Throwable", "fillInStackTrace", "(I)Ljava/lang/Throwable;"⟩ : Cond) ∈ zW := List.mem_filter.mpr ⟨List.mem_of_getElem? (i := 222) (by decide +kernel), by decide +kernel⟩
set_option maxRecDepth 100000 in
theorem zw_223 : (Cond.selects "java/lang/IndexOutOfBoundsException" ⟨"java/lang/Throwable", "fillInStackTrace", "()Ljava/lang/Throwable;"⟩ ⟨"java/lang/Throwable", "fillInStackTrace", "()Ljava/lang/Throwable;"⟩ : Cond) ∈ zW := List.mem_filter.mpr ⟨List.mem_of_getElem? (i := 223) (by decide +kernel), by decide +kernel⟩
set_option maxRecDepth 100000 in
theorem zw_234 : (Cond.fieldLink "java/lang/Throwable" 198 "java/lang/Throwable" "backtrace" "Ljava/lang/Object;" : Cond) ∈ zW := List.mem_filter.mpr ⟨List.mem_of_getElem? (i := 234) (by decide +kernel), by decide +kernel⟩
set_option maxRecDepth 100000 in
theorem zw_236 : (Cond.instanceMethod ⟨"java/lang/Throwable", "<init>", "()V"⟩ : Cond) ∈ zW := List.mem_filter.mpr ⟨List.mem_of_getElem? (i := 236) (by decide +kernel), by decide +kernel⟩
set_option maxRecDepth 100000 in
theorem zw_238 : (Cond.methodLink "java/lang/Throwable" 1 objectInit : Cond) ∈ zW := List.mem_filter.mpr ⟨List.mem_of_getElem? (i := 238) (by decide +kernel), by decide +kernel⟩
set_option maxRecDepth 100000 in
theorem zw_239 : (Cond.fieldLink "java/lang/Throwable" 13 "java/lang/Throwable" "UNASSIGNED_STACK" "[Ljava/lang/StackTraceElement;" : Cond) ∈ zW := List.mem_filter.mpr ⟨List.mem_of_getElem? (i := 239) (by decide +kernel), by decide +kernel⟩
set_option maxRecDepth 100000 in
theorem zw_241 : (Cond.fieldLink "java/lang/Throwable" 20 "java/lang/Throwable" "SUPPRESSED_SENTINEL" "Ljava/util/List;" : Cond) ∈ zW := List.mem_filter.mpr ⟨List.mem_of_getElem? (i := 241) (by decide +kernel), by decide +kernel⟩
set_option maxRecDepth 100000 in
theorem zw_243 : (Cond.methodLink "java/lang/Throwable" 27 ⟨"java/lang/Throwable", "fillInStackTrace", "()Ljava/lang/Throwable;"⟩ : Cond) ∈ zW := List.mem_filter.mpr ⟨List.mem_of_getElem? (i := 243) (by decide +kernel), by decide +kernel⟩
set_option maxRecDepth 100000 in
theorem zw_244 : (Cond.instanceMethod ⟨"java/lang/Throwable", "fillInStackTrace", "()Ljava/lang/Throwable;"⟩ : Cond) ∈ zW := List.mem_filter.mpr ⟨List.mem_of_getElem? (i := 244) (by decide +kernel), by decide +kernel⟩
set_option maxRecDepth 100000 in
theorem zw_246 : (Cond.selects "java/lang/IllegalArgumentException" ⟨"java/lang/Throwable", "fillInStackTrace", "()Ljava/lang/Throwable;"⟩ ⟨"java/lang/Throwable", "fillInStackTrace", "()Ljava/lang/Throwable;"⟩ : Cond) ∈ zW := List.mem_filter.mpr ⟨List.mem_of_getElem? (i := 246) (by decide +kernel), by decide +kernel⟩
set_option maxRecDepth 100000 in
theorem zw_247 : (Cond.selects "java/lang/IllegalStateException" ⟨"java/lang/Throwable", "fillInStackTrace", "()Ljava/lang/Throwable;"⟩ ⟨"java/lang/Throwable", "fillInStackTrace", "()Ljava/lang/Throwable;"⟩ : Cond) ∈ zW := List.mem_filter.mpr ⟨List.mem_of_getElem? (i := 247) (by decide +kernel), by decide +kernel⟩
set_option maxRecDepth 100000 in
theorem zw_249 : (Cond.methodLink "java/lang/Throwable" 202 ⟨"java/lang/Throwable", "fillInStackTrace", "(I)Ljava/lang/Throwable;"⟩ : Cond) ∈ zW := List.mem_filter.mpr ⟨List.mem_of_getElem? (i := 249) (by decide +kernel), by decide +kernel⟩
set_option maxRecDepth 100000 in
theorem zw_251 : (Cond.instanceMethod ⟨"java/lang/Throwable", "fillInStackTrace", "(I)Ljava/lang/Throwable;"⟩ : Cond) ∈ zW := List.mem_filter.mpr ⟨List.mem_of_getElem? (i := 251) (by decide +kernel), by decide +kernel⟩
set_option maxRecDepth 100000 in
theorem zw_252 : (Cond.instantiable "java/lang/Throwable" 6 : Cond) ∈ zW := List.mem_filter.mpr ⟨List.mem_of_getElem? (i := 252) (by decide +kernel), by decide +kernel⟩
set_option maxRecDepth 100000 in
theorem zw_255 : (Cond.methodLink RX4 66 ⟨"java/lang/IndexOutOfBoundsException", "<init>", "(Ljava/lang/String;)V"⟩ : Cond) ∈ zW := List.mem_filter.mpr ⟨List.mem_of_getElem? (i := 255) (by decide +kernel), by decide +kernel⟩
set_option maxRecDepth 100000 in
theorem zw_256 : (Cond.instanceMethod ⟨"java/lang/IndexOutOfBoundsException", "<init>", "(Ljava/lang/String;)V"⟩ : Cond) ∈ zW := List.mem_filter.mpr ⟨List.mem_of_getElem? (i := 256) (by decide +kernel), by decide +kernel⟩
set_option maxRecDepth 100000 in
theorem zw_258 : (Cond.methodLink "java/lang/IndexOutOfBoundsException" 7 ⟨"java/lang/RuntimeException", "<init>", "(Ljava/lang/String;)V"⟩ : Cond) ∈ zW := List.mem_filter.mpr ⟨List.mem_of_getElem? (i := 258) (by decide +kernel), by decide +kernel⟩
set_option maxRecDepth 100000 in
theorem zw_259 : (Cond.instanceMethod ⟨"java/lang/RuntimeException", "<init>", "(Ljava/lang/String;)V"⟩ : Cond) ∈ zW := List.mem_filter.mpr ⟨List.mem_of_getElem? (i := 259) (by decide +kernel), by decide +kernel⟩
set_option maxRecDepth 100000 in
theorem zw_261 : (Cond.methodLink "java/lang/RuntimeException" 7 ⟨"java/lang/Exception", "<init>", "(Ljava/lang/String;)V"⟩ : Cond) ∈ zW := List.mem_filter.mpr ⟨List.mem_of_getElem? (i := 261) (by decide +kernel), by decide +kernel⟩
set_option maxRecDepth 100000 in
theorem zw_262 : (Cond.instanceMethod ⟨"java/lang/Exception", "<init>", "(Ljava/lang/String;)V"⟩ : Cond) ∈ zW := List.mem_filter.mpr ⟨List.mem_of_getElem? (i := 262) (by decide +kernel), by decide +kernel⟩
set_option maxRecDepth 100000 in
theorem zw_264 : (Cond.methodLink "java/lang/Exception" 7 ⟨"java/lang/Throwable", "<init>", "(Ljava/lang/String;)V"⟩ : Cond) ∈ zW := List.mem_filter.mpr ⟨List.mem_of_getElem? (i := 264) (by decide +kernel), by decide +kernel⟩
set_option maxRecDepth 100000 in
theorem zw_265 : (Cond.instanceMethod ⟨"java/lang/Throwable", "<init>", "(Ljava/lang/String;)V"⟩ : Cond) ∈ zW := List.mem_filter.mpr ⟨List.mem_of_getElem? (i := 265) (by decide +kernel), by decide +kernel⟩
set_option maxRecDepth 100000 in
theorem zw_268 : (Cond.fieldLink "java/lang/Throwable" 31 "java/lang/Throwable" "detailMessage" "Ljava/lang/String;" : Cond) ∈ zW := List.mem_filter.mpr ⟨List.mem_of_getElem? (i := 268) (by decide +kernel), by decide +kernel⟩
set_option maxRecDepth 100000 in
theorem zw_269 : (Cond.fieldLink "java/lang/Throwable" 7 "java/lang/Throwable" "cause" "Ljava/lang/Throwable;" : Cond) ∈ zW := List.mem_filter.mpr ⟨List.mem_of_getElem? (i := 269) (by decide +kernel), by decide +kernel⟩
set_option maxRecDepth 100000 in
theorem zw_270 : (Cond.fieldLink "java/lang/Throwable" 17 "java/lang/Throwable" "stackTrace" "[Ljava/lang/StackTraceElement;" : Cond) ∈ zW := List.mem_filter.mpr ⟨List.mem_of_getElem? (i := 270) (by decide +kernel), by decide +kernel⟩
set_option maxRecDepth 100000 in
theorem zw_271 : (Cond.fieldLink "java/lang/Throwable" 24 "java/lang/Throwable" "suppressedExceptions" "Ljava/util/List;" : Cond) ∈ zW := List.mem_filter.mpr ⟨List.mem_of_getElem? (i := 271) (by decide +kernel), by decide +kernel⟩
set_option maxRecDepth 100000 in
theorem zw_280 : (Cond.arrayClass .byte : Cond) ∈ zW := List.mem_filter.mpr ⟨List.mem_of_getElem? (i := 280) (by decide +kernel), by decide +kernel⟩
set_option maxRecDepth 100000 in
theorem zw_282 : (Cond.methodLink RL 69 yL_diff : Cond) ∈ zW := List.mem_filter.mpr ⟨List.mem_of_getElem? (i := 282) (by decide +kernel), by decide +kernel⟩
set_option maxRecDepth 100000 in
theorem zw_283 : (Cond.static yL_diff : Cond) ∈ zW := List.mem_filter.mpr ⟨List.mem_of_getElem? (i := 283) (by decide +kernel), by decide +kernel⟩
set_option maxRecDepth 100000 in
theorem zw_285 : (Cond.classLink RL 18 "java/lang/IllegalStateException" : Cond) ∈ zW := List.mem_filter.mpr ⟨List.mem_of_getElem? (i := 285) (by decide +kernel), by decide +kernel⟩
set_option maxRecDepth 100000 in
theorem zw_286 : (Cond.methodLink RL 15 yX4_diff : Cond) ∈ zW := List.mem_filter.mpr ⟨List.mem_of_getElem? (i := 286) (by decide +kernel), by decide +kernel⟩
set_option maxRecDepth 100000 in
theorem zw_287 : (Cond.instanceMethod yX4_diff : Cond) ∈ zW := List.mem_filter.mpr ⟨List.mem_of_getElem? (i := 287) (by decide +kernel), by decide +kernel⟩
set_option maxRecDepth 100000 in
theorem zw_288 : (Cond.selects RX4 yX4_diff yX4_diff : Cond) ∈ zW := List.mem_filter.mpr ⟨List.mem_of_getElem? (i := 288) (by decide +kernel), by decide +kernel⟩
set_option maxRecDepth 100000 in
theorem zw_289 : (Cond.code yX4_diff cX4_diff 6 (some .int) : Cond) ∈ zW := List.mem_filter.mpr ⟨List.mem_of_getElem? (i := 289) (by decide +kernel), by decide +kernel⟩
set_option maxRecDepth 100000 in
theorem zw_290 : (Cond.methodLink RX4 73 yX0_compare : Cond) ∈ zW := List.mem_filter.mpr ⟨List.mem_of_getElem? (i := 290) (by decide +kernel), by decide +kernel⟩
set_option maxRecDepth 100000 in
theorem zw_291 : (Cond.instanceMethod yX0_compare : Cond) ∈ zW := List.mem_filter.mpr ⟨List.mem_of_getElem? (i := 291) (by decide +kernel), by decide +kernel⟩
set_option maxRecDepth 100000 in
theorem zw_292 : (Cond.selects RX0 yX0_compare yX0_compare : Cond) ∈ zW := List.mem_filter.mpr ⟨List.mem_of_getElem? (i := 292) (by decide +kernel), by decide +kernel⟩
set_option maxRecDepth 100000 in
theorem zw_293 : (Cond.code yX0_compare cX0_compare 5 (some .int) : Cond) ∈ zW := List.mem_filter.mpr ⟨List.mem_of_getElem? (i := 293) (by decide +kernel), by decide +kernel⟩
set_option maxRecDepth 100000 in
theorem zw_294 : (Cond.methodLink RX0 19 yX0_findLeastCost : Cond) ∈ zW := List.mem_filter.mpr ⟨List.mem_of_getElem? (i := 294) (by decide +kernel), by decide +kernel⟩
set_option maxRecDepth 100000 in
theorem zw_296 : (Cond.instanceMethod yX0_findLeastCost : Cond) ∈ zW := List.mem_filter.mpr ⟨List.mem_of_getElem? (i := 296) (by decide +kernel), by decide +kernel⟩
set_option maxRecDepth 100000 in
theorem zw_297 : (Cond.code yX0_findLeastCost cX0_findLeastCost 4 (some .int) : Cond) ∈ zW := List.mem_filter.mpr ⟨List.mem_of_getElem? (i := 297) (by decide +kernel), by decide +kernel⟩
set_option maxRecDepth 100000 in
theorem zw_298 : (Cond.methodLink RX0 36 yX0_moveCostsBackTo : Cond) ∈ zW := List.mem_filter.mpr ⟨List.mem_of_getElem? (i := 298) (by decide +kernel), by decide +kernel⟩
set_option maxRecDepth 100000 in
theorem zw_300 : (Cond.instanceMethod yX0_moveCostsBackTo : Cond) ∈ zW := List.mem_filter.mpr ⟨List.mem_of_getElem? (i := 300) (by decide +kernel), by decide +kernel⟩
set_option maxRecDepth 100000 in
theorem zw_301 : (Cond.code yX0_moveCostsBackTo cX0_moveCostsBackTo 8 none : Cond) ∈ zW := List.mem_filter.mpr ⟨List.mem_of_getElem? (i := 301) (by decide +kernel), by decide +kernel⟩
set_option maxRecDepth 100000 in
theorem zw_302 : (Cond.methodLink RX0 40 yX0_markErase : Cond) ∈ zW := List.mem_filter.mpr ⟨List.mem_of_getElem? (i := 302) (by decide +kernel), by decide +kernel⟩
set_option maxRecDepth 100000 in
theorem zw_304 : (Cond.instanceMethod yX0_markErase : Cond) ∈ zW := List.mem_filter.mpr ⟨List.mem_of_getElem? (i := 304) (by decide +kernel), by decide +kernel⟩
set_option maxRecDepth 100000 in
theorem zw_305 : (Cond.code yX0_markErase cX0_markErase 7 none : Cond) ∈ zW := List.mem_filter.mpr ⟨List.mem_of_getElem? (i := 305) (by decide +kernel), by decide +kernel⟩
set_option maxRecDepth 100000 in
theorem zw_306 : (Cond.methodLink RX0 63 yX0_wordOf : Cond) ∈ zW := List.mem_filter.mpr ⟨List.mem_of_getElem? (i := 306) (by decide +kernel), by decide +kernel⟩
set_option maxRecDepth 100000 in
theorem zw_307 : (Cond.static yX0_wordOf : Cond) ∈ zW := List.mem_filter.mpr ⟨List.mem_of_getElem? (i := 307) (by decide +kernel), by decide +kernel⟩
set_option maxRecDepth 100000 in
theorem zw_308 : (Cond.code yX0_wordOf cX0_wordOf 2 (some .int) : Cond) ∈ zW := List.mem_filter.mpr ⟨List.mem_of_getElem? (i := 308) (by decide +kernel), by decide +kernel⟩
set_option maxRecDepth 100000 in
theorem zw_309 : (Cond.constantLong RX0 66 (-1) : Cond) ∈ zW := List.mem_filter.mpr ⟨List.mem_of_getElem? (i := 309) (by decide +kernel), by decide +kernel⟩
set_option maxRecDepth 100000 in
theorem zw_310 : (Cond.methodLink RX0 44 ⟨"java/lang/Math", "min", "(II)I"⟩ : Cond) ∈ zW := List.mem_filter.mpr ⟨List.mem_of_getElem? (i := 310) (by decide +kernel), by decide +kernel⟩
set_option maxRecDepth 100000 in
theorem zw_311 : (Cond.static ⟨"java/lang/Math", "min", "(II)I"⟩ : Cond) ∈ zW := List.mem_filter.mpr ⟨List.mem_of_getElem? (i := 311) (by decide +kernel), by decide +kernel⟩
set_option maxRecDepth 100000 in
theorem zw_312 : (Cond.code Lib.Math.min.name Lib.Math.min.code 2 (some .int) : Cond) ∈ zW := List.mem_filter.mpr ⟨List.mem_of_getElem? (i := 312) (by decide +kernel), by decide +kernel⟩
set_option maxRecDepth 100000 in
theorem zw_313 : (Cond.methodLink RX0 23 yX0_writeScript : Cond) ∈ zW := List.mem_filter.mpr ⟨List.mem_of_getElem? (i := 313) (by decide +kernel), by decide +kernel⟩
set_option maxRecDepth 100000 in
theorem zw_315 : (Cond.instanceMethod yX0_writeScript : Cond) ∈ zW := List.mem_filter.mpr ⟨List.mem_of_getElem? (i := 315) (by decide +kernel), by decide +kernel⟩
set_option maxRecDepth 100000 in
theorem zw_316 : (Cond.code yX0_writeScript cX0_writeScript 7 none : Cond) ∈ zW := List.mem_filter.mpr ⟨List.mem_of_getElem? (i := 316) (by decide +kernel), by decide +kernel⟩
set_option maxRecDepth 100000 in
theorem zw_317 : (Cond.methodLink RX0 50 yX3_begin : Cond) ∈ zW := List.mem_filter.mpr ⟨List.mem_of_getElem? (i := 317) (by decide +kernel), by decide +kernel⟩
set_option maxRecDepth 100000 in
theorem zw_318 : (Cond.instanceMethod yX3_begin : Cond) ∈ zW := List.mem_filter.mpr ⟨List.mem_of_getElem? (i := 318) (by decide +kernel), by decide +kernel⟩
set_option maxRecDepth 100000 in
theorem zw_319 : (Cond.selects RX3 yX3_begin yX3_begin : Cond) ∈ zW := List.mem_filter.mpr ⟨List.mem_of_getElem? (i := 319) (by decide +kernel), by decide +kernel⟩
set_option maxRecDepth 100000 in
theorem zw_320 : (Cond.code yX3_begin cX3_begin 1 none : Cond) ∈ zW := List.mem_filter.mpr ⟨List.mem_of_getElem? (i := 320) (by decide +kernel), by decide +kernel⟩
set_option maxRecDepth 100000 in
theorem zw_321 : (Cond.methodLink RX0 55 yX3_append : Cond) ∈ zW := List.mem_filter.mpr ⟨List.mem_of_getElem? (i := 321) (by decide +kernel), by decide +kernel⟩
set_option maxRecDepth 100000 in
theorem zw_322 : (Cond.instanceMethod yX3_append : Cond) ∈ zW := List.mem_filter.mpr ⟨List.mem_of_getElem? (i := 322) (by decide +kernel), by decide +kernel⟩
set_option maxRecDepth 100000 in
theorem zw_323 : (Cond.selects RX3 yX3_append yX3_append : Cond) ∈ zW := List.mem_filter.mpr ⟨List.mem_of_getElem? (i := 323) (by decide +kernel), by decide +kernel⟩
set_option maxRecDepth 100000 in
theorem zw_324 : (Cond.code yX3_append cX3_append 5 none : Cond) ∈ zW := List.mem_filter.mpr ⟨List.mem_of_getElem? (i := 324) (by decide +kernel), by decide +kernel⟩
set_option maxRecDepth 100000 in
theorem zw_325 : (Cond.methodLink RX0 59 yX0_isEraseMarked : Cond) ∈ zW := List.mem_filter.mpr ⟨List.mem_of_getElem? (i := 325) (by decide +kernel), by decide +kernel⟩
set_option maxRecDepth 100000 in
theorem zw_327 : (Cond.instanceMethod yX0_isEraseMarked : Cond) ∈ zW := List.mem_filter.mpr ⟨List.mem_of_getElem? (i := 327) (by decide +kernel), by decide +kernel⟩
set_option maxRecDepth 100000 in
theorem zw_328 : (Cond.code yX0_isEraseMarked cX0_isEraseMarked 3 (some .boolean) : Cond) ∈ zW := List.mem_filter.mpr ⟨List.mem_of_getElem? (i := 328) (by decide +kernel), by decide +kernel⟩
set_option maxRecDepth 100000 in
theorem zw_329 : (Cond.classLink RX4 77 "java/lang/IllegalStateException" : Cond) ∈ zW := List.mem_filter.mpr ⟨List.mem_of_getElem? (i := 329) (by decide +kernel), by decide +kernel⟩
set_option maxRecDepth 100000 in
theorem zw_330 : (Cond.instantiable "java/lang/IllegalStateException" 6 : Cond) ∈ zW := List.mem_filter.mpr ⟨List.mem_of_getElem? (i := 330) (by decide +kernel), by decide +kernel⟩
set_option maxRecDepth 100000 in
theorem zw_332 : (Cond.selects "java/lang/IllegalStateException" ⟨"java/lang/Throwable", "fillInStackTrace", "(I)Ljava/lang/Throwable;"⟩ ⟨"java/lang/Throwable", "fillInStackTrace", "(I)Ljava/lang/Throwable;"⟩ : Cond) ∈ zW := List.mem_filter.mpr ⟨List.mem_of_getElem? (i := 332) (by decide +kernel), by decide +kernel⟩
set_option maxRecDepth 100000 in
theorem zw_339 : (Cond.methodLink RX4 81 ⟨"java/lang/IllegalStateException", "<init>", "(Ljava/lang/String;)V"⟩ : Cond) ∈ zW := List.mem_filter.mpr ⟨List.mem_of_getElem? (i := 339) (by decide +kernel), by decide +kernel⟩
set_option maxRecDepth 100000 in
theorem zw_340 : (Cond.instanceMethod ⟨"java/lang/IllegalStateException", "<init>", "(Ljava/lang/String;)V"⟩ : Cond) ∈ zW := List.mem_filter.mpr ⟨List.mem_of_getElem? (i := 340) (by decide +kernel), by decide +kernel⟩
set_option maxRecDepth 100000 in
theorem zw_342 : (Cond.methodLink "java/lang/IllegalStateException" 7 ⟨"java/lang/RuntimeException", "<init>", "(Ljava/lang/String;)V"⟩ : Cond) ∈ zW := List.mem_filter.mpr ⟨List.mem_of_getElem? (i := 342) (by decide +kernel), by decide +kernel⟩
set_option maxRecDepth 100000 in
theorem zw_345 : (Cond.methodLink RL 76 yL_step : Cond) ∈ zW := List.mem_filter.mpr ⟨List.mem_of_getElem? (i := 345) (by decide +kernel), by decide +kernel⟩
set_option maxRecDepth 100000 in
theorem zw_346 : (Cond.static yL_step : Cond) ∈ zW := List.mem_filter.mpr ⟨List.mem_of_getElem? (i := 346) (by decide +kernel), by decide +kernel⟩
set_option maxRecDepth 100000 in
theorem zw_348 : (Cond.classLink RL 23 "java/lang/IllegalArgumentException" : Cond) ∈ zW := List.mem_filter.mpr ⟨List.mem_of_getElem? (i := 348) (by decide +kernel), by decide +kernel⟩
set_option maxRecDepth 100000 in
theorem zw_349 : (Cond.methodLink RL 20 yX4_step : Cond) ∈ zW := List.mem_filter.mpr ⟨List.mem_of_getElem? (i := 349) (by decide +kernel), by decide +kernel⟩
set_option maxRecDepth 100000 in
theorem zw_350 : (Cond.instanceMethod yX4_step : Cond) ∈ zW := List.mem_filter.mpr ⟨List.mem_of_getElem? (i := 350) (by decide +kernel), by decide +kernel⟩
set_option maxRecDepth 100000 in
theorem zw_351 : (Cond.selects RX4 yX4_step yX4_step : Cond) ∈ zW := List.mem_filter.mpr ⟨List.mem_of_getElem? (i := 351) (by decide +kernel), by decide +kernel⟩
set_option maxRecDepth 100000 in
theorem zw_352 : (Cond.code yX4_step cX4_step 3 (some .int) : Cond) ∈ zW := List.mem_filter.mpr ⟨List.mem_of_getElem? (i := 352) (by decide +kernel), by decide +kernel⟩
set_option maxRecDepth 100000 in
theorem zw_354 : (Cond.classLink RX4 95 "java/lang/IllegalArgumentException" : Cond) ∈ zW := List.mem_filter.mpr ⟨List.mem_of_getElem? (i := 354) (by decide +kernel), by decide +kernel⟩
set_option maxRecDepth 100000 in
theorem zw_355 : (Cond.instantiable "java/lang/IllegalArgumentException" 6 : Cond) ∈ zW := List.mem_filter.mpr ⟨List.mem_of_getElem? (i := 355) (by decide +kernel), by decide +kernel⟩
set_option maxRecDepth 100000 in
theorem zw_357 : (Cond.selects "java/lang/IllegalArgumentException" ⟨"java/lang/Throwable", "fillInStackTrace", "(I)Ljava/lang/Throwable;"⟩ ⟨"java/lang/Throwable", "fillInStackTrace", "(I)Ljava/lang/Throwable;"⟩ : Cond) ∈ zW := List.mem_filter.mpr ⟨List.mem_of_getElem? (i := 357) (by decide +kernel), by decide +kernel⟩
set_option maxRecDepth 100000 in
theorem zw_364 : (Cond.methodLink RX4 99 ⟨"java/lang/IllegalArgumentException", "<init>", "(Ljava/lang/String;)V"⟩ : Cond) ∈ zW := List.mem_filter.mpr ⟨List.mem_of_getElem? (i := 364) (by decide +kernel), by decide +kernel⟩
set_option maxRecDepth 100000 in
theorem zw_365 : (Cond.instanceMethod ⟨"java/lang/IllegalArgumentException", "<init>", "(Ljava/lang/String;)V"⟩ : Cond) ∈ zW := List.mem_filter.mpr ⟨List.mem_of_getElem? (i := 365) (by decide +kernel), by decide +kernel⟩
set_option maxRecDepth 100000 in
theorem zw_367 : (Cond.methodLink "java/lang/IllegalArgumentException" 7 ⟨"java/lang/RuntimeException", "<init>", "(Ljava/lang/String;)V"⟩ : Cond) ∈ zW := List.mem_filter.mpr ⟨List.mem_of_getElem? (i := 367) (by decide +kernel), by decide +kernel⟩
set_option maxRecDepth 100000 in
theorem zw_370 : (Cond.methodLink RL 83 yL_hunk : Cond) ∈ zW := List.mem_filter.mpr ⟨List.mem_of_getElem? (i := 370) (by decide +kernel), by decide +kernel⟩
set_option maxRecDepth 100000 in
theorem zw_371 : (Cond.static yL_hunk : Cond) ∈ zW := List.mem_filter.mpr ⟨List.mem_of_getElem? (i := 371) (by decide +kernel), by decide +kernel⟩
set_option maxRecDepth 100000 in
theorem zw_373 : (Cond.methodLink RL 25 yX4_hunk : Cond) ∈ zW := List.mem_filter.mpr ⟨List.mem_of_getElem? (i := 373) (by decide +kernel), by decide +kernel⟩
set_option maxRecDepth 100000 in
theorem zw_374 : (Cond.instanceMethod yX4_hunk : Cond) ∈ zW := List.mem_filter.mpr ⟨List.mem_of_getElem? (i := 374) (by decide +kernel), by decide +kernel⟩
set_option maxRecDepth 100000 in
theorem zw_375 : (Cond.selects RX4 yX4_hunk yX4_hunk : Cond) ∈ zW := List.mem_filter.mpr ⟨List.mem_of_getElem? (i := 375) (by decide +kernel), by decide +kernel⟩
set_option maxRecDepth 100000 in
theorem zw_376 : (Cond.code yX4_hunk cX4_hunk 4 (some .int) : Cond) ∈ zW := List.mem_filter.mpr ⟨List.mem_of_getElem? (i := 376) (by decide +kernel), by decide +kernel⟩
set_option maxRecDepth 100000 in
theorem zw_377 : (Cond.methodLink RX4 104 yX3_firstStepOfHunk : Cond) ∈ zW := List.mem_filter.mpr ⟨List.mem_of_getElem? (i := 377) (by decide +kernel), by decide +kernel⟩
set_option maxRecDepth 100000 in
theorem zw_378 : (Cond.instanceMethod yX3_firstStepOfHunk : Cond) ∈ zW := List.mem_filter.mpr ⟨List.mem_of_getElem? (i := 378) (by decide +kernel), by decide +kernel⟩
set_option maxRecDepth 100000 in
theorem zw_379 : (Cond.selects RX3 yX3_firstStepOfHunk yX3_firstStepOfHunk : Cond) ∈ zW := List.mem_filter.mpr ⟨List.mem_of_getElem? (i := 379) (by decide +kernel), by decide +kernel⟩
set_option maxRecDepth 100000 in
theorem zw_380 : (Cond.code yX3_firstStepOfHunk cX3_firstStepOfHunk 4 (some .int) : Cond) ∈ zW := List.mem_filter.mpr ⟨List.mem_of_getElem? (i := 380) (by decide +kernel), by decide +kernel⟩
set_option maxRecDepth 100000 in
theorem zw_382 : (Cond.methodLink RX4 110 yX3_countInHunk : Cond) ∈ zW := List.mem_filter.mpr ⟨List.mem_of_getElem? (i := 382) (by decide +kernel), by decide +kernel⟩
set_option maxRecDepth 100000 in
theorem zw_383 : (Cond.instanceMethod yX3_countInHunk : Cond) ∈ zW := List.mem_filter.mpr ⟨List.mem_of_getElem? (i := 383) (by decide +kernel), by decide +kernel⟩
set_option maxRecDepth 100000 in
theorem zw_384 : (Cond.selects RX3 yX3_countInHunk yX3_countInHunk : Cond) ∈ zW := List.mem_filter.mpr ⟨List.mem_of_getElem? (i := 384) (by decide +kernel), by decide +kernel⟩
set_option maxRecDepth 100000 in
theorem zw_385 : (Cond.code yX3_countInHunk cX3_countInHunk 5 (some .int) : Cond) ∈ zW := List.mem_filter.mpr ⟨List.mem_of_getElem? (i := 385) (by decide +kernel), by decide +kernel⟩
set_option maxRecDepth 100000 in
theorem zw_387 : (Cond.methodLink RL 86 yL_apply : Cond) ∈ zW := List.mem_filter.mpr ⟨List.mem_of_getElem? (i := 387) (by decide +kernel), by decide +kernel⟩
set_option maxRecDepth 100000 in
theorem zw_388 : (Cond.static yL_apply : Cond) ∈ zW := List.mem_filter.mpr ⟨List.mem_of_getElem? (i := 388) (by decide +kernel), by decide +kernel⟩
set_option maxRecDepth 100000 in
theorem zw_390 : (Cond.methodLink RL 28 yX4_apply : Cond) ∈ zW := List.mem_filter.mpr ⟨List.mem_of_getElem? (i := 390) (by decide +kernel), by decide +kernel⟩
set_option maxRecDepth 100000 in
theorem zw_391 : (Cond.instanceMethod yX4_apply : Cond) ∈ zW := List.mem_filter.mpr ⟨List.mem_of_getElem? (i := 391) (by decide +kernel), by decide +kernel⟩
set_option maxRecDepth 100000 in
theorem zw_392 : (Cond.selects RX4 yX4_apply yX4_apply : Cond) ∈ zW := List.mem_filter.mpr ⟨List.mem_of_getElem? (i := 392) (by decide +kernel), by decide +kernel⟩
set_option maxRecDepth 100000 in
theorem zw_393 : (Cond.code yX4_apply cX4_apply 8 (some .int) : Cond) ∈ zW := List.mem_filter.mpr ⟨List.mem_of_getElem? (i := 393) (by decide +kernel), by decide +kernel⟩
set_option maxRecDepth 100000 in
theorem zw_395 : (Cond.methodLink RX4 118 yX3_spells : Cond) ∈ zW := List.mem_filter.mpr ⟨List.mem_of_getElem? (i := 395) (by decide +kernel), by decide +kernel⟩
set_option maxRecDepth 100000 in
theorem zw_396 : (Cond.instanceMethod yX3_spells : Cond) ∈ zW := List.mem_filter.mpr ⟨List.mem_of_getElem? (i := 396) (by decide +kernel), by decide +kernel⟩
set_option maxRecDepth 100000 in
theorem zw_397 : (Cond.selects RX3 yX3_spells yX3_spells : Cond) ∈ zW := List.mem_filter.mpr ⟨List.mem_of_getElem? (i := 397) (by decide +kernel), by decide +kernel⟩
set_option maxRecDepth 100000 in
theorem zw_398 : (Cond.code yX3_spells cX3_spells 5 (some .boolean) : Cond) ∈ zW := List.mem_filter.mpr ⟨List.mem_of_getElem? (i := 398) (by decide +kernel), by decide +kernel⟩
set_option maxRecDepth 100000 in
theorem zw_400 : (Cond.methodLink RX4 124 yX3_spellInto : Cond) ∈ zW := List.mem_filter.mpr ⟨List.mem_of_getElem? (i := 400) (by decide +kernel), by decide +kernel⟩
set_option maxRecDepth 100000 in
theorem zw_401 : (Cond.instanceMethod yX3_spellInto : Cond) ∈ zW := List.mem_filter.mpr ⟨List.mem_of_getElem? (i := 401) (by decide +kernel), by decide +kernel⟩
set_option maxRecDepth 100000 in
theorem zw_402 : (Cond.selects RX3 yX3_spellInto yX3_spellInto : Cond) ∈ zW := List.mem_filter.mpr ⟨List.mem_of_getElem? (i := 402) (by decide +kernel), by decide +kernel⟩
set_option maxRecDepth 100000 in
theorem zw_403 : (Cond.code yX3_spellInto cX3_spellInto 4 none : Cond) ∈ zW := List.mem_filter.mpr ⟨List.mem_of_getElem? (i := 403) (by decide +kernel), by decide +kernel⟩
set_option maxRecDepth 100000 in
theorem zw_404 : (Cond.methodLink RX3 36 yX2_empty : Cond) ∈ zW := List.mem_filter.mpr ⟨List.mem_of_getElem? (i := 404) (by decide +kernel), by decide +kernel⟩
set_option maxRecDepth 100000 in
theorem zw_405 : (Cond.methodLink RX3 39 yX2_append : Cond) ∈ zW := List.mem_filter.mpr ⟨List.mem_of_getElem? (i := 405) (by decide +kernel), by decide +kernel⟩
set_option maxRecDepth 100000 in
theorem zw_406 : (Cond.methodLink RL 90 yL_merge : Cond) ∈ zW := List.mem_filter.mpr ⟨List.mem_of_getElem? (i := 406) (by decide +kernel), by decide +kernel⟩
set_option maxRecDepth 100000 in
theorem zw_407 : (Cond.static yL_merge : Cond) ∈ zW := List.mem_filter.mpr ⟨List.mem_of_getElem? (i := 407) (by decide +kernel), by decide +kernel⟩
set_option maxRecDepth 100000 in
theorem zw_409 : (Cond.methodLink RL 32 yX4_merge : Cond) ∈ zW := List.mem_filter.mpr ⟨List.mem_of_getElem? (i := 409) (by decide +kernel), by decide +kernel⟩
set_option maxRecDepth 100000 in
theorem zw_410 : (Cond.instanceMethod yX4_merge : Cond) ∈ zW := List.mem_filter.mpr ⟨List.mem_of_getElem? (i := 410) (by decide +kernel), by decide +kernel⟩
set_option maxRecDepth 100000 in
theorem zw_411 : (Cond.selects RX4 yX4_merge yX4_merge : Cond) ∈ zW := List.mem_filter.mpr ⟨List.mem_of_getElem? (i := 411) (by decide +kernel), by decide +kernel⟩
set_option maxRecDepth 100000 in
theorem zw_412 : (Cond.code yX4_merge cX4_merge 7 (some .int) : Cond) ∈ zW := List.mem_filter.mpr ⟨List.mem_of_getElem? (i := 412) (by decide +kernel), by decide +kernel⟩
set_option maxRecDepth 100000 in
theorem zw_414 : (Cond.methodLink RX4 130 yX1_make : Cond) ∈ zW := List.mem_filter.mpr ⟨List.mem_of_getElem? (i := 414) (by decide +kernel), by decide +kernel⟩
set_option maxRecDepth 100000 in
theorem zw_415 : (Cond.instanceMethod yX1_make : Cond) ∈ zW := List.mem_filter.mpr ⟨List.mem_of_getElem? (i := 415) (by decide +kernel), by decide +kernel⟩
set_option maxRecDepth 100000 in
theorem zw_416 : (Cond.selects RX1 yX1_make yX1_make : Cond) ∈ zW := List.mem_filter.mpr ⟨List.mem_of_getElem? (i := 416) (by decide +kernel), by decide +kernel⟩
set_option maxRecDepth 100000 in
theorem zw_417 : (Cond.code yX1_make cX1_make 12 none : Cond) ∈ zW := List.mem_filter.mpr ⟨List.mem_of_getElem? (i := 417) (by decide +kernel), by decide +kernel⟩
set_option maxRecDepth 100000 in
theorem zw_418 : (Cond.methodLink RX1 34 yX3_endOfInserts : Cond) ∈ zW := List.mem_filter.mpr ⟨List.mem_of_getElem? (i := 418) (by decide +kernel), by decide +kernel⟩
set_option maxRecDepth 100000 in
theorem zw_419 : (Cond.instanceMethod yX3_endOfInserts : Cond) ∈ zW := List.mem_filter.mpr ⟨List.mem_of_getElem? (i := 419) (by decide +kernel), by decide +kernel⟩
set_option maxRecDepth 100000 in
theorem zw_420 : (Cond.selects RX3 yX3_endOfInserts yX3_endOfInserts : Cond) ∈ zW := List.mem_filter.mpr ⟨List.mem_of_getElem? (i := 420) (by decide +kernel), by decide +kernel⟩
set_option maxRecDepth 100000 in
theorem zw_421 : (Cond.code yX3_endOfInserts cX3_endOfInserts 3 (some .int) : Cond) ∈ zW := List.mem_filter.mpr ⟨List.mem_of_getElem? (i := 421) (by decide +kernel), by decide +kernel⟩
set_option maxRecDepth 100000 in
theorem zw_422 : (Cond.methodLink RX1 40 yX1_appendCommon : Cond) ∈ zW := List.mem_filter.mpr ⟨List.mem_of_getElem? (i := 422) (by decide +kernel), by decide +kernel⟩
set_option maxRecDepth 100000 in
theorem zw_424 : (Cond.instanceMethod yX1_appendCommon : Cond) ∈ zW := List.mem_filter.mpr ⟨List.mem_of_getElem? (i := 424) (by decide +kernel), by decide +kernel⟩
set_option maxRecDepth 100000 in
theorem zw_425 : (Cond.code yX1_appendCommon cX1_appendCommon 9 (some .int) : Cond) ∈ zW := List.mem_filter.mpr ⟨List.mem_of_getElem? (i := 425) (by decide +kernel), by decide +kernel⟩
set_option maxRecDepth 100000 in
theorem zw_426 : (Cond.methodLink RX1 67 ⟨"java/lang/Math", "min", "(II)I"⟩ : Cond) ∈ zW := List.mem_filter.mpr ⟨List.mem_of_getElem? (i := 426) (by decide +kernel), by decide +kernel⟩
set_option maxRecDepth 100000 in
theorem zw_427 : (Cond.methodLink RX1 53 yX1_append : Cond) ∈ zW := List.mem_filter.mpr ⟨List.mem_of_getElem? (i := 427) (by decide +kernel), by decide +kernel⟩
set_option maxRecDepth 100000 in
theorem zw_429 : (Cond.instanceMethod yX1_append : Cond) ∈ zW := List.mem_filter.mpr ⟨List.mem_of_getElem? (i := 429) (by decide +kernel), by decide +kernel⟩
set_option maxRecDepth 100000 in
theorem zw_430 : (Cond.code yX1_append cX1_append 5 none : Cond) ∈ zW := List.mem_filter.mpr ⟨List.mem_of_getElem? (i := 430) (by decide +kernel), by decide +kernel⟩
set_option maxRecDepth 100000 in
theorem zw_431 : (Cond.methodLink RX1 44 yX1_appendInserts : Cond) ∈ zW := List.mem_filter.mpr ⟨List.mem_of_getElem? (i := 431) (by decide +kernel), by decide +kernel⟩
set_option maxRecDepth 100000 in
theorem zw_433 : (Cond.instanceMethod yX1_appendInserts : Cond) ∈ zW := List.mem_filter.mpr ⟨List.mem_of_getElem? (i := 433) (by decide +kernel), by decide +kernel⟩
set_option maxRecDepth 100000 in
theorem zw_434 : (Cond.code yX1_appendInserts cX1_appendInserts 6 none : Cond) ∈ zW := List.mem_filter.mpr ⟨List.mem_of_getElem? (i := 434) (by decide +kernel), by decide +kernel⟩
set_option maxRecDepth 100000 in
theorem zw_435 : (Cond.methodLink RX1 48 yX3_erasesAt : Cond) ∈ zW := List.mem_filter.mpr ⟨List.mem_of_getElem? (i := 435) (by decide +kernel), by decide +kernel⟩
set_option maxRecDepth 100000 in
theorem zw_436 : (Cond.instanceMethod yX3_erasesAt : Cond) ∈ zW := List.mem_filter.mpr ⟨List.mem_of_getElem? (i := 436) (by decide +kernel), by decide +kernel⟩
set_option maxRecDepth 100000 in
theorem zw_437 : (Cond.selects RX3 yX3_erasesAt yX3_erasesAt : Cond) ∈ zW := List.mem_filter.mpr ⟨List.mem_of_getElem? (i := 437) (by decide +kernel), by decide +kernel⟩
set_option maxRecDepth 100000 in
theorem zw_438 : (Cond.code yX3_erasesAt cX3_erasesAt 2 (some .boolean) : Cond) ∈ zW := List.mem_filter.mpr ⟨List.mem_of_getElem? (i := 438) (by decide +kernel), by decide +kernel⟩
set_option maxRecDepth 100000 in
theorem zw_439 : (Cond.methodLink RL 94 yL_entry : Cond) ∈ zW := List.mem_filter.mpr ⟨List.mem_of_getElem? (i := 439) (by decide +kernel), by decide +kernel⟩
set_option maxRecDepth 100000 in
theorem zw_440 : (Cond.static yL_entry : Cond) ∈ zW := List.mem_filter.mpr ⟨List.mem_of_getElem? (i := 440) (by decide +kernel), by decide +kernel⟩
set_option maxRecDepth 100000 in
theorem zw_442 : (Cond.methodLink RL 36 yX4_entry : Cond) ∈ zW := List.mem_filter.mpr ⟨List.mem_of_getElem? (i := 442) (by decide +kernel), by decide +kernel⟩
set_option maxRecDepth 100000 in
theorem zw_443 : (Cond.instanceMethod yX4_entry : Cond) ∈ zW := List.mem_filter.mpr ⟨List.mem_of_getElem? (i := 443) (by decide +kernel), by decide +kernel⟩
set_option maxRecDepth 100000 in
theorem zw_444 : (Cond.selects RX4 yX4_entry yX4_entry : Cond) ∈ zW := List.mem_filter.mpr ⟨List.mem_of_getElem? (i := 444) (by decide +kernel), by decide +kernel⟩
set_option maxRecDepth 100000 in
theorem zw_445 : (Cond.code yX4_entry cX4_entry 3 (some .int) : Cond) ∈ zW := List.mem_filter.mpr ⟨List.mem_of_getElem? (i := 445) (by decide +kernel), by decide +kernel⟩
set_option maxRecDepth 100000 in
theorem zw_448 : (Cond.methodLink RL 101 yL_see : Cond) ∈ zW := List.mem_filter.mpr ⟨List.mem_of_getElem? (i := 448) (by decide +kernel), by decide +kernel⟩
set_option maxRecDepth 100000 in
theorem zw_449 : (Cond.static yL_see : Cond) ∈ zW := List.mem_filter.mpr ⟨List.mem_of_getElem? (i := 449) (by decide +kernel), by decide +kernel⟩
set_option maxRecDepth 100000 in
theorem zw_451 : (Cond.methodLink RL 39 yX4_see : Cond) ∈ zW := List.mem_filter.mpr ⟨List.mem_of_getElem? (i := 451) (by decide +kernel), by decide +kernel⟩
set_option maxRecDepth 100000 in
theorem zw_452 : (Cond.instanceMethod yX4_see : Cond) ∈ zW := List.mem_filter.mpr ⟨List.mem_of_getElem? (i := 452) (by decide +kernel), by decide +kernel⟩
set_option maxRecDepth 100000 in
theorem zw_453 : (Cond.selects RX4 yX4_see yX4_see : Cond) ∈ zW := List.mem_filter.mpr ⟨List.mem_of_getElem? (i := 453) (by decide +kernel), by decide +kernel⟩
set_option maxRecDepth 100000 in
theorem zw_454 : (Cond.code yX4_see cX4_see 4 (some .int) : Cond) ∈ zW := List.mem_filter.mpr ⟨List.mem_of_getElem? (i := 454) (by decide +kernel), by decide +kernel⟩
set_option maxRecDepth 100000 in
theorem zw_457 : (Cond.methodLink RX4 156 yX1_countSeen : Cond) ∈ zW := List.mem_filter.mpr ⟨List.mem_of_getElem? (i := 457) (by decide +kernel), by decide +kernel⟩
set_option maxRecDepth 100000 in
theorem zw_458 : (Cond.instanceMethod yX1_countSeen : Cond) ∈ zW := List.mem_filter.mpr ⟨List.mem_of_getElem? (i := 458) (by decide +kernel), by decide +kernel⟩
set_option maxRecDepth 100000 in
theorem zw_459 : (Cond.selects RX1 yX1_countSeen yX1_countSeen : Cond) ∈ zW := List.mem_filter.mpr ⟨List.mem_of_getElem? (i := 459) (by decide +kernel), by decide +kernel⟩
set_option maxRecDepth 100000 in
theorem zw_460 : (Cond.code yX1_countSeen cX1_countSeen 4 (some .int) : Cond) ∈ zW := List.mem_filter.mpr ⟨List.mem_of_getElem? (i := 460) (by decide +kernel), by decide +kernel⟩
set_option maxRecDepth 100000 in
theorem zw_461 : (Cond.methodLink RX1 57 yX1_isSeen : Cond) ∈ zW := List.mem_filter.mpr ⟨List.mem_of_getElem? (i := 461) (by decide +kernel), by decide +kernel⟩
set_option maxRecDepth 100000 in
theorem zw_463 : (Cond.instanceMethod yX1_isSeen : Cond) ∈ zW := List.mem_filter.mpr ⟨List.mem_of_getElem? (i := 463) (by decide +kernel), by decide +kernel⟩
set_option maxRecDepth 100000 in
theorem zw_464 : (Cond.code yX1_isSeen cX1_isSeen 4 (some .boolean) : Cond) ∈ zW := List.mem_filter.mpr ⟨List.mem_of_getElem? (i := 464) (by decide +kernel), by decide +kernel⟩
set_option maxRecDepth 100000 in
theorem zw_466 : (Cond.methodLink RX4 161 yX1_showInto : Cond) ∈ zW := List.mem_filter.mpr ⟨List.mem_of_getElem? (i := 466) (by decide +kernel), by decide +kernel⟩
set_option maxRecDepth 100000 in
theorem zw_467 : (Cond.instanceMethod yX1_showInto : Cond) ∈ zW := List.mem_filter.mpr ⟨List.mem_of_getElem? (i := 467) (by decide +kernel), by decide +kernel⟩
set_option maxRecDepth 100000 in
theorem zw_468 : (Cond.selects RX1 yX1_showInto yX1_showInto : Cond) ∈ zW := List.mem_filter.mpr ⟨List.mem_of_getElem? (i := 468) (by decide +kernel), by decide +kernel⟩
set_option maxRecDepth 100000 in
theorem zw_469 : (Cond.code yX1_showInto cX1_showInto 4 none : Cond) ∈ zW := List.mem_filter.mpr ⟨List.mem_of_getElem? (i := 469) (by decide +kernel), by decide +kernel⟩
set_option maxRecDepth 100000 in
theorem zw_470 : (Cond.methodLink RX1 61 yX2_empty : Cond) ∈ zW := List.mem_filter.mpr ⟨List.mem_of_getElem? (i := 470) (by decide +kernel), by decide +kernel⟩
set_option maxRecDepth 100000 in
theorem zw_471 : (Cond.methodLink RX1 64 yX2_append : Cond) ∈ zW := List.mem_filter.mpr ⟨List.mem_of_getElem? (i := 471) (by decide +kernel), by decide +kernel⟩
set_option maxRecDepth 100000 in
theorem zw_472 : (Cond.classLink RL 43 RX5 : Cond) ∈ zW := List.mem_filter.mpr ⟨List.mem_of_getElem? (i := 472) (by decide +kernel), by decide +kernel⟩
set_option maxRecDepth 100000 in
theorem zw_473 : (Cond.instantiable RX5 19 : Cond) ∈ zW := List.mem_filter.mpr ⟨List.mem_of_getElem? (i := 473) (by decide +kernel), by decide +kernel⟩
set_option maxRecDepth 100000 in
theorem zw_474 : (Cond.methodLink RL 45 yX5_init : Cond) ∈ zW := List.mem_filter.mpr ⟨List.mem_of_getElem? (i := 474) (by decide +kernel), by decide +kernel⟩
set_option maxRecDepth 100000 in
theorem zw_475 : (Cond.instanceMethod yX5_init : Cond) ∈ zW := List.mem_filter.mpr ⟨List.mem_of_getElem? (i := 475) (by decide +kernel), by decide +kernel⟩
set_option maxRecDepth 100000 in
theorem zw_476 : (Cond.code yX5_init cX5_init 1 none : Cond) ∈ zW := List.mem_filter.mpr ⟨List.mem_of_getElem? (i := 476) (by decide +kernel), by decide +kernel⟩
set_option maxRecDepth 100000 in
theorem zw_477 : (Cond.methodLink RX5 1 objectInit : Cond) ∈ zW := List.mem_filter.mpr ⟨List.mem_of_getElem? (i := 477) (by decide +kernel), by decide +kernel⟩
set_option maxRecDepth 100000 in
theorem zw_478 : (Cond.fieldLink RX5 68 "RowDifferModel" "code" "I" : Cond) ∈ zW := List.mem_filter.mpr ⟨List.mem_of_getElem? (i := 478) (by decide +kernel), by decide +kernel⟩
set_option maxRecDepth 100000 in
theorem zw_479 : (Cond.fieldLink RX5 7 "RowDifferModel" "size" "[I" : Cond) ∈ zW := List.mem_filter.mpr ⟨List.mem_of_getElem? (i := 479) (by decide +kernel), by decide +kernel⟩
set_option maxRecDepth 100000 in
theorem zw_480 : (Cond.fieldLink RX5 13 "RowDifferModel" "rows" "[I" : Cond) ∈ zW := List.mem_filter.mpr ⟨List.mem_of_getElem? (i := 480) (by decide +kernel), by decide +kernel⟩
set_option maxRecDepth 100000 in
theorem zw_481 : (Cond.fieldLink RX5 16 "RowDifferModel" "cost" "[S" : Cond) ∈ zW := List.mem_filter.mpr ⟨List.mem_of_getElem? (i := 481) (by decide +kernel), by decide +kernel⟩
set_option maxRecDepth 100000 in
theorem zw_482 : (Cond.fieldLink RX5 20 "RowDifferModel" "steps" "I" : Cond) ∈ zW := List.mem_filter.mpr ⟨List.mem_of_getElem? (i := 482) (by decide +kernel), by decide +kernel⟩
set_option maxRecDepth 100000 in
theorem zw_483 : (Cond.fieldLink RX5 24 "RowDifferModel" "kind" "[B" : Cond) ∈ zW := List.mem_filter.mpr ⟨List.mem_of_getElem? (i := 483) (by decide +kernel), by decide +kernel⟩
set_option maxRecDepth 100000 in
theorem zw_484 : (Cond.fieldLink RX5 28 "RowDifferModel" "first" "[B" : Cond) ∈ zW := List.mem_filter.mpr ⟨List.mem_of_getElem? (i := 484) (by decide +kernel), by decide +kernel⟩
set_option maxRecDepth 100000 in
theorem zw_485 : (Cond.fieldLink RX5 31 "RowDifferModel" "second" "[B" : Cond) ∈ zW := List.mem_filter.mpr ⟨List.mem_of_getElem? (i := 485) (by decide +kernel), by decide +kernel⟩
set_option maxRecDepth 100000 in
theorem zw_486 : (Cond.fieldLink RX5 34 "RowDifferModel" "number" "[I" : Cond) ∈ zW := List.mem_filter.mpr ⟨List.mem_of_getElem? (i := 486) (by decide +kernel), by decide +kernel⟩
set_option maxRecDepth 100000 in
theorem zw_487 : (Cond.fieldLink RX5 37 "RowDifferModel" "begins" "[B" : Cond) ∈ zW := List.mem_filter.mpr ⟨List.mem_of_getElem? (i := 487) (by decide +kernel), by decide +kernel⟩
set_option maxRecDepth 100000 in
theorem zw_488 : (Cond.fieldLink RX5 40 "RowDifferModel" "many" "[B" : Cond) ∈ zW := List.mem_filter.mpr ⟨List.mem_of_getElem? (i := 488) (by decide +kernel), by decide +kernel⟩
set_option maxRecDepth 100000 in
theorem zw_489 : (Cond.fieldLink RX5 43 "RowDifferModel" "gone" "[Z" : Cond) ∈ zW := List.mem_filter.mpr ⟨List.mem_of_getElem? (i := 489) (by decide +kernel), by decide +kernel⟩
set_option maxRecDepth 100000 in
theorem zw_490 : (Cond.fieldLink RX5 47 "RowDifferModel" "entries" "I" : Cond) ∈ zW := List.mem_filter.mpr ⟨List.mem_of_getElem? (i := 490) (by decide +kernel), by decide +kernel⟩
set_option maxRecDepth 100000 in
theorem zw_491 : (Cond.fieldLink RX5 50 "RowDifferModel" "conflicts" "I" : Cond) ∈ zW := List.mem_filter.mpr ⟨List.mem_of_getElem? (i := 491) (by decide +kernel), by decide +kernel⟩
set_option maxRecDepth 100000 in
theorem zw_492 : (Cond.fieldLink RX5 53 "RowDifferModel" "value" "[I" : Cond) ∈ zW := List.mem_filter.mpr ⟨List.mem_of_getElem? (i := 492) (by decide +kernel), by decide +kernel⟩
set_option maxRecDepth 100000 in
theorem zw_493 : (Cond.fieldLink RX5 56 "RowDifferModel" "put" "[B" : Cond) ∈ zW := List.mem_filter.mpr ⟨List.mem_of_getElem? (i := 493) (by decide +kernel), by decide +kernel⟩
set_option maxRecDepth 100000 in
theorem zw_494 : (Cond.fieldLink RX5 59 "RowDifferModel" "taken" "[B" : Cond) ∈ zW := List.mem_filter.mpr ⟨List.mem_of_getElem? (i := 494) (by decide +kernel), by decide +kernel⟩
set_option maxRecDepth 100000 in
theorem zw_495 : (Cond.fieldLink RX5 62 "RowDifferModel" "place" "[B" : Cond) ∈ zW := List.mem_filter.mpr ⟨List.mem_of_getElem? (i := 495) (by decide +kernel), by decide +kernel⟩
set_option maxRecDepth 100000 in
theorem zw_496 : (Cond.fieldLink RX5 65 "RowDifferModel" "made" "[I" : Cond) ∈ zW := List.mem_filter.mpr ⟨List.mem_of_getElem? (i := 496) (by decide +kernel), by decide +kernel⟩
set_option maxRecDepth 100000 in
theorem zw_536 : (Cond.arrayClass .short : Cond) ∈ zW := List.mem_filter.mpr ⟨List.mem_of_getElem? (i := 536) (by decide +kernel), by decide +kernel⟩
set_option maxRecDepth 100000 in
theorem zw_537 : (Cond.arrayClass .boolean : Cond) ∈ zW := List.mem_filter.mpr ⟨List.mem_of_getElem? (i := 537) (by decide +kernel), by decide +kernel⟩
set_option maxRecDepth 100000 in
theorem zw_538 : (Cond.methodLink RL 65 yX5_thrown : Cond) ∈ zW := List.mem_filter.mpr ⟨List.mem_of_getElem? (i := 538) (by decide +kernel), by decide +kernel⟩
set_option maxRecDepth 100000 in
theorem zw_539 : (Cond.instanceMethod yX5_thrown : Cond) ∈ zW := List.mem_filter.mpr ⟨List.mem_of_getElem? (i := 539) (by decide +kernel), by decide +kernel⟩
set_option maxRecDepth 100000 in
theorem zw_540 : (Cond.selects RX5 yX5_thrown yX5_thrown : Cond) ∈ zW := List.mem_filter.mpr ⟨List.mem_of_getElem? (i := 540) (by decide +kernel), by decide +kernel⟩
set_option maxRecDepth 100000 in
theorem zw_541 : (Cond.code yX5_thrown cX5_thrown 1 (some .int) : Cond) ∈ zW := List.mem_filter.mpr ⟨List.mem_of_getElem? (i := 541) (by decide +kernel), by decide +kernel⟩
set_option maxRecDepth 100000 in
theorem zw_542 : (Cond.methodLink RL 49 yX5_add : Cond) ∈ zW := List.mem_filter.mpr ⟨List.mem_of_getElem? (i := 542) (by decide +kernel), by decide +kernel⟩
set_option maxRecDepth 100000 in
theorem zw_543 : (Cond.instanceMethod yX5_add : Cond) ∈ zW := List.mem_filter.mpr ⟨List.mem_of_getElem? (i := 543) (by decide +kernel), by decide +kernel⟩
set_option maxRecDepth 100000 in
theorem zw_544 : (Cond.selects RX5 yX5_add yX5_add : Cond) ∈ zW := List.mem_filter.mpr ⟨List.mem_of_getElem? (i := 544) (by decide +kernel), by decide +kernel⟩
set_option maxRecDepth 100000 in
theorem zw_545 : (Cond.code yX5_add cX5_add 3 (some .int) : Cond) ∈ zW := List.mem_filter.mpr ⟨List.mem_of_getElem? (i := 545) (by decide +kernel), by decide +kernel⟩
set_option maxRecDepth 100000 in
theorem zw_546 : (Cond.methodLink RX5 71 yX5_isRow : Cond) ∈ zW := List.mem_filter.mpr ⟨List.mem_of_getElem? (i := 546) (by decide +kernel), by decide +kernel⟩
set_option maxRecDepth 100000 in
theorem zw_547 : (Cond.static yX5_isRow : Cond) ∈ zW := List.mem_filter.mpr ⟨List.mem_of_getElem? (i := 547) (by decide +kernel), by decide +kernel⟩
set_option maxRecDepth 100000 in
theorem zw_548 : (Cond.code yX5_isRow cX5_isRow 1 (some .boolean) : Cond) ∈ zW := List.mem_filter.mpr ⟨List.mem_of_getElem? (i := 548) (by decide +kernel), by decide +kernel⟩
set_option maxRecDepth 100000 in
theorem zw_549 : (Cond.methodLink RL 54 yX5_wipe : Cond) ∈ zW := List.mem_filter.mpr ⟨List.mem_of_getElem? (i := 549) (by decide +kernel), by decide +kernel⟩
set_option maxRecDepth 100000 in
theorem zw_550 : (Cond.instanceMethod yX5_wipe : Cond) ∈ zW := List.mem_filter.mpr ⟨List.mem_of_getElem? (i := 550) (by decide +kernel), by decide +kernel⟩
set_option maxRecDepth 100000 in
theorem zw_551 : (Cond.selects RX5 yX5_wipe yX5_wipe : Cond) ∈ zW := List.mem_filter.mpr ⟨List.mem_of_getElem? (i := 551) (by decide +kernel), by decide +kernel⟩
set_option maxRecDepth 100000 in
theorem zw_552 : (Cond.code yX5_wipe cX5_wipe 3 (some .int) : Cond) ∈ zW := List.mem_filter.mpr ⟨List.mem_of_getElem? (i := 552) (by decide +kernel), by decide +kernel⟩
set_option maxRecDepth 100000 in
theorem zw_553 : (Cond.methodLink RL 58 yX5_length : Cond) ∈ zW := List.mem_filter.mpr ⟨List.mem_of_getElem? (i := 553) (by decide +kernel), by decide +kernel⟩
set_option maxRecDepth 100000 in
theorem zw_554 : (Cond.instanceMethod yX5_length : Cond) ∈ zW := List.mem_filter.mpr ⟨List.mem_of_getElem? (i := 554) (by decide +kernel), by decide +kernel⟩
set_option maxRecDepth 100000 in
theorem zw_555 : (Cond.selects RX5 yX5_length yX5_length : Cond) ∈ zW := List.mem_filter.mpr ⟨List.mem_of_getElem? (i := 555) (by decide +kernel), by decide +kernel⟩
set_option maxRecDepth 100000 in
theorem zw_556 : (Cond.code yX5_length cX5_length 2 (some .int) : Cond) ∈ zW := List.mem_filter.mpr ⟨List.mem_of_getElem? (i := 556) (by decide +kernel), by decide +kernel⟩
set_option maxRecDepth 100000 in
theorem zw_557 : (Cond.methodLink RL 64 yX5_number : Cond) ∈ zW := List.mem_filter.mpr ⟨List.mem_of_getElem? (i := 557) (by decide +kernel), by decide +kernel⟩
set_option maxRecDepth 100000 in
theorem zw_558 : (Cond.instanceMethod yX5_number : Cond) ∈ zW := List.mem_filter.mpr ⟨List.mem_of_getElem? (i := 558) (by decide +kernel), by decide +kernel⟩
set_option maxRecDepth 100000 in
theorem zw_559 : (Cond.selects RX5 yX5_number yX5_number : Cond) ∈ zW := List.mem_filter.mpr ⟨List.mem_of_getElem? (i := 559) (by decide +kernel), by decide +kernel⟩
set_option maxRecDepth 100000 in
theorem zw_560 : (Cond.code yX5_number cX5_number 3 (some .int) : Cond) ∈ zW := List.mem_filter.mpr ⟨List.mem_of_getElem? (i := 560) (by decide +kernel), by decide +kernel⟩
set_option maxRecDepth 100000 in
theorem zw_561 : (Cond.methodLink RL 71 yX5_diff : Cond) ∈ zW := List.mem_filter.mpr ⟨List.mem_of_getElem? (i := 561) (by decide +kernel), by decide +kernel⟩
set_option maxRecDepth 100000 in
theorem zw_562 : (Cond.instanceMethod yX5_diff : Cond) ∈ zW := List.mem_filter.mpr ⟨List.mem_of_getElem? (i := 562) (by decide +kernel), by decide +kernel⟩
set_option maxRecDepth 100000 in
theorem zw_563 : (Cond.selects RX5 yX5_diff yX5_diff : Cond) ∈ zW := List.mem_filter.mpr ⟨List.mem_of_getElem? (i := 563) (by decide +kernel), by decide +kernel⟩
set_option maxRecDepth 100000 in
theorem zw_564 : (Cond.code yX5_diff cX5_diff 7 (some .int) : Cond) ∈ zW := List.mem_filter.mpr ⟨List.mem_of_getElem? (i := 564) (by decide +kernel), by decide +kernel⟩
set_option maxRecDepth 100000 in
theorem zw_565 : (Cond.methodLink RX5 79 yX5_measure : Cond) ∈ zW := List.mem_filter.mpr ⟨List.mem_of_getElem? (i := 565) (by decide +kernel), by decide +kernel⟩
set_option maxRecDepth 100000 in
theorem zw_567 : (Cond.instanceMethod yX5_measure : Cond) ∈ zW := List.mem_filter.mpr ⟨List.mem_of_getElem? (i := 567) (by decide +kernel), by decide +kernel⟩
set_option maxRecDepth 100000 in
theorem zw_568 : (Cond.code yX5_measure cX5_measure 8 (some .int) : Cond) ∈ zW := List.mem_filter.mpr ⟨List.mem_of_getElem? (i := 568) (by decide +kernel), by decide +kernel⟩
set_option maxRecDepth 100000 in
theorem zw_569 : (Cond.methodLink RX5 75 yX5_same : Cond) ∈ zW := List.mem_filter.mpr ⟨List.mem_of_getElem? (i := 569) (by decide +kernel), by decide +kernel⟩
set_option maxRecDepth 100000 in
theorem zw_571 : (Cond.instanceMethod yX5_same : Cond) ∈ zW := List.mem_filter.mpr ⟨List.mem_of_getElem? (i := 571) (by decide +kernel), by decide +kernel⟩
set_option maxRecDepth 100000 in
theorem zw_572 : (Cond.code yX5_same cX5_same 5 (some .boolean) : Cond) ∈ zW := List.mem_filter.mpr ⟨List.mem_of_getElem? (i := 572) (by decide +kernel), by decide +kernel⟩
set_option maxRecDepth 100000 in
theorem zw_573 : (Cond.methodLink RX5 83 yX5_raise : Cond) ∈ zW := List.mem_filter.mpr ⟨List.mem_of_getElem? (i := 573) (by decide +kernel), by decide +kernel⟩
set_option maxRecDepth 100000 in
theorem zw_575 : (Cond.instanceMethod yX5_raise : Cond) ∈ zW := List.mem_filter.mpr ⟨List.mem_of_getElem? (i := 575) (by decide +kernel), by decide +kernel⟩
set_option maxRecDepth 100000 in
theorem zw_576 : (Cond.code yX5_raise cX5_raise 2 (some .int) : Cond) ∈ zW := List.mem_filter.mpr ⟨List.mem_of_getElem? (i := 576) (by decide +kernel), by decide +kernel⟩
set_option maxRecDepth 100000 in
theorem zw_577 : (Cond.methodLink RX5 87 yX5_due : Cond) ∈ zW := List.mem_filter.mpr ⟨List.mem_of_getElem? (i := 577) (by decide +kernel), by decide +kernel⟩
set_option maxRecDepth 100000 in
theorem zw_579 : (Cond.instanceMethod yX5_due : Cond) ∈ zW := List.mem_filter.mpr ⟨List.mem_of_getElem? (i := 579) (by decide +kernel), by decide +kernel⟩
set_option maxRecDepth 100000 in
theorem zw_580 : (Cond.code yX5_due cX5_due 5 (some .int) : Cond) ∈ zW := List.mem_filter.mpr ⟨List.mem_of_getElem? (i := 580) (by decide +kernel), by decide +kernel⟩
set_option maxRecDepth 100000 in
theorem zw_581 : (Cond.methodLink RL 75 yX5_steps : Cond) ∈ zW := List.mem_filter.mpr ⟨List.mem_of_getElem? (i := 581) (by decide +kernel), by decide +kernel⟩
set_option maxRecDepth 100000 in
theorem zw_582 : (Cond.instanceMethod yX5_steps : Cond) ∈ zW := List.mem_filter.mpr ⟨List.mem_of_getElem? (i := 582) (by decide +kernel), by decide +kernel⟩
set_option maxRecDepth 100000 in
theorem zw_583 : (Cond.selects RX5 yX5_steps yX5_steps : Cond) ∈ zW := List.mem_filter.mpr ⟨List.mem_of_getElem? (i := 583) (by decide +kernel), by decide +kernel⟩
set_option maxRecDepth 100000 in
theorem zw_584 : (Cond.code yX5_steps cX5_steps 1 (some .int) : Cond) ∈ zW := List.mem_filter.mpr ⟨List.mem_of_getElem? (i := 584) (by decide +kernel), by decide +kernel⟩
set_option maxRecDepth 100000 in
theorem zw_585 : (Cond.methodLink RL 78 yX5_step : Cond) ∈ zW := List.mem_filter.mpr ⟨List.mem_of_getElem? (i := 585) (by decide +kernel), by decide +kernel⟩
set_option maxRecDepth 100000 in
theorem zw_586 : (Cond.instanceMethod yX5_step : Cond) ∈ zW := List.mem_filter.mpr ⟨List.mem_of_getElem? (i := 586) (by decide +kernel), by decide +kernel⟩
set_option maxRecDepth 100000 in
theorem zw_587 : (Cond.selects RX5 yX5_step yX5_step : Cond) ∈ zW := List.mem_filter.mpr ⟨List.mem_of_getElem? (i := 587) (by decide +kernel), by decide +kernel⟩
set_option maxRecDepth 100000 in
theorem zw_588 : (Cond.code yX5_step cX5_step 3 (some .int) : Cond) ∈ zW := List.mem_filter.mpr ⟨List.mem_of_getElem? (i := 588) (by decide +kernel), by decide +kernel⟩
set_option maxRecDepth 100000 in
theorem zw_589 : (Cond.methodLink RL 82 yX5_hunks : Cond) ∈ zW := List.mem_filter.mpr ⟨List.mem_of_getElem? (i := 589) (by decide +kernel), by decide +kernel⟩
set_option maxRecDepth 100000 in
theorem zw_590 : (Cond.instanceMethod yX5_hunks : Cond) ∈ zW := List.mem_filter.mpr ⟨List.mem_of_getElem? (i := 590) (by decide +kernel), by decide +kernel⟩
set_option maxRecDepth 100000 in
theorem zw_591 : (Cond.selects RX5 yX5_hunks yX5_hunks : Cond) ∈ zW := List.mem_filter.mpr ⟨List.mem_of_getElem? (i := 591) (by decide +kernel), by decide +kernel⟩
set_option maxRecDepth 100000 in
theorem zw_592 : (Cond.code yX5_hunks cX5_hunks 3 (some .int) : Cond) ∈ zW := List.mem_filter.mpr ⟨List.mem_of_getElem? (i := 592) (by decide +kernel), by decide +kernel⟩
set_option maxRecDepth 100000 in
theorem zw_593 : (Cond.methodLink RX5 91 yX5_opens : Cond) ∈ zW := List.mem_filter.mpr ⟨List.mem_of_getElem? (i := 593) (by decide +kernel), by decide +kernel⟩
set_option maxRecDepth 100000 in
theorem zw_595 : (Cond.instanceMethod yX5_opens : Cond) ∈ zW := List.mem_filter.mpr ⟨List.mem_of_getElem? (i := 595) (by decide +kernel), by decide +kernel⟩
set_option maxRecDepth 100000 in
theorem zw_596 : (Cond.code yX5_opens cX5_opens 2 (some .boolean) : Cond) ∈ zW := List.mem_filter.mpr ⟨List.mem_of_getElem? (i := 596) (by decide +kernel), by decide +kernel⟩
set_option maxRecDepth 100000 in
theorem zw_597 : (Cond.methodLink RL 85 yX5_hunk : Cond) ∈ zW := List.mem_filter.mpr ⟨List.mem_of_getElem? (i := 597) (by decide +kernel), by decide +kernel⟩
set_option maxRecDepth 100000 in
theorem zw_598 : (Cond.instanceMethod yX5_hunk : Cond) ∈ zW := List.mem_filter.mpr ⟨List.mem_of_getElem? (i := 598) (by decide +kernel), by decide +kernel⟩
set_option maxRecDepth 100000 in
theorem zw_599 : (Cond.selects RX5 yX5_hunk yX5_hunk : Cond) ∈ zW := List.mem_filter.mpr ⟨List.mem_of_getElem? (i := 599) (by decide +kernel), by decide +kernel⟩
set_option maxRecDepth 100000 in
theorem zw_600 : (Cond.code yX5_hunk cX5_hunk 7 (some .int) : Cond) ∈ zW := List.mem_filter.mpr ⟨List.mem_of_getElem? (i := 600) (by decide +kernel), by decide +kernel⟩
set_option maxRecDepth 100000 in
theorem zw_601 : (Cond.methodLink RL 89 yX5_apply : Cond) ∈ zW := List.mem_filter.mpr ⟨List.mem_of_getElem? (i := 601) (by decide +kernel), by decide +kernel⟩
set_option maxRecDepth 100000 in
theorem zw_602 : (Cond.instanceMethod yX5_apply : Cond) ∈ zW := List.mem_filter.mpr ⟨List.mem_of_getElem? (i := 602) (by decide +kernel), by decide +kernel⟩
set_option maxRecDepth 100000 in
theorem zw_603 : (Cond.selects RX5 yX5_apply yX5_apply : Cond) ∈ zW := List.mem_filter.mpr ⟨List.mem_of_getElem? (i := 603) (by decide +kernel), by decide +kernel⟩
set_option maxRecDepth 100000 in
theorem zw_604 : (Cond.code yX5_apply cX5_apply 8 (some .int) : Cond) ∈ zW := List.mem_filter.mpr ⟨List.mem_of_getElem? (i := 604) (by decide +kernel), by decide +kernel⟩
set_option maxRecDepth 100000 in
theorem zw_605 : (Cond.methodLink RX5 94 yX5_store : Cond) ∈ zW := List.mem_filter.mpr ⟨List.mem_of_getElem? (i := 605) (by decide +kernel), by decide +kernel⟩
set_option maxRecDepth 100000 in
theorem zw_607 : (Cond.instanceMethod yX5_store : Cond) ∈ zW := List.mem_filter.mpr ⟨List.mem_of_getElem? (i := 607) (by decide +kernel), by decide +kernel⟩
set_option maxRecDepth 100000 in
theorem zw_608 : (Cond.code yX5_store cX5_store 4 none : Cond) ∈ zW := List.mem_filter.mpr ⟨List.mem_of_getElem? (i := 608) (by decide +kernel), by decide +kernel⟩
set_option maxRecDepth 100000 in
theorem zw_609 : (Cond.methodLink RL 93 yX5_merge : Cond) ∈ zW := List.mem_filter.mpr ⟨List.mem_of_getElem? (i := 609) (by decide +kernel), by decide +kernel⟩
set_option maxRecDepth 100000 in
theorem zw_610 : (Cond.instanceMethod yX5_merge : Cond) ∈ zW := List.mem_filter.mpr ⟨List.mem_of_getElem? (i := 610) (by decide +kernel), by decide +kernel⟩
set_option maxRecDepth 100000 in
theorem zw_611 : (Cond.selects RX5 yX5_merge yX5_merge : Cond) ∈ zW := List.mem_filter.mpr ⟨List.mem_of_getElem? (i := 611) (by decide +kernel), by decide +kernel⟩
set_option maxRecDepth 100000 in
theorem zw_612 : (Cond.code yX5_merge cX5_merge 5 (some .int) : Cond) ∈ zW := List.mem_filter.mpr ⟨List.mem_of_getElem? (i := 612) (by decide +kernel), by decide +kernel⟩
set_option maxRecDepth 100000 in
theorem zw_613 : (Cond.methodLink RX5 102 yX5_side : Cond) ∈ zW := List.mem_filter.mpr ⟨List.mem_of_getElem? (i := 613) (by decide +kernel), by decide +kernel⟩
set_option maxRecDepth 100000 in
theorem zw_615 : (Cond.instanceMethod yX5_side : Cond) ∈ zW := List.mem_filter.mpr ⟨List.mem_of_getElem? (i := 615) (by decide +kernel), by decide +kernel⟩
set_option maxRecDepth 100000 in
theorem zw_616 : (Cond.code yX5_side cX5_side 6 (some .boolean) : Cond) ∈ zW := List.mem_filter.mpr ⟨List.mem_of_getElem? (i := 616) (by decide +kernel), by decide +kernel⟩
set_option maxRecDepth 100000 in
theorem zw_617 : (Cond.methodLink RX5 106 yX5_putIn : Cond) ∈ zW := List.mem_filter.mpr ⟨List.mem_of_getElem? (i := 617) (by decide +kernel), by decide +kernel⟩
set_option maxRecDepth 100000 in
theorem zw_619 : (Cond.instanceMethod yX5_putIn : Cond) ∈ zW := List.mem_filter.mpr ⟨List.mem_of_getElem? (i := 619) (by decide +kernel), by decide +kernel⟩
set_option maxRecDepth 100000 in
theorem zw_620 : (Cond.code yX5_putIn cX5_putIn 10 none : Cond) ∈ zW := List.mem_filter.mpr ⟨List.mem_of_getElem? (i := 620) (by decide +kernel), by decide +kernel⟩
set_option maxRecDepth 100000 in
theorem zw_621 : (Cond.methodLink RX5 98 yX5_enter : Cond) ∈ zW := List.mem_filter.mpr ⟨List.mem_of_getElem? (i := 621) (by decide +kernel), by decide +kernel⟩
set_option maxRecDepth 100000 in
theorem zw_623 : (Cond.instanceMethod yX5_enter : Cond) ∈ zW := List.mem_filter.mpr ⟨List.mem_of_getElem? (i := 623) (by decide +kernel), by decide +kernel⟩
set_option maxRecDepth 100000 in
theorem zw_624 : (Cond.code yX5_enter cX5_enter 5 none : Cond) ∈ zW := List.mem_filter.mpr ⟨List.mem_of_getElem? (i := 624) (by decide +kernel), by decide +kernel⟩
set_option maxRecDepth 100000 in
theorem zw_625 : (Cond.methodLink RL 96 yX5_entry : Cond) ∈ zW := List.mem_filter.mpr ⟨List.mem_of_getElem? (i := 625) (by decide +kernel), by decide +kernel⟩
set_option maxRecDepth 100000 in
theorem zw_626 : (Cond.instanceMethod yX5_entry : Cond) ∈ zW := List.mem_filter.mpr ⟨List.mem_of_getElem? (i := 626) (by decide +kernel), by decide +kernel⟩
set_option maxRecDepth 100000 in
theorem zw_627 : (Cond.selects RX5 yX5_entry yX5_entry : Cond) ∈ zW := List.mem_filter.mpr ⟨List.mem_of_getElem? (i := 627) (by decide +kernel), by decide +kernel⟩
set_option maxRecDepth 100000 in
theorem zw_628 : (Cond.code yX5_entry cX5_entry 3 (some .int) : Cond) ∈ zW := List.mem_filter.mpr ⟨List.mem_of_getElem? (i := 628) (by decide +kernel), by decide +kernel⟩
set_option maxRecDepth 100000 in
theorem zw_629 : (Cond.methodLink RL 100 yX5_conflicts : Cond) ∈ zW := List.mem_filter.mpr ⟨List.mem_of_getElem? (i := 629) (by decide +kernel), by decide +kernel⟩
set_option maxRecDepth 100000 in
theorem zw_630 : (Cond.instanceMethod yX5_conflicts : Cond) ∈ zW := List.mem_filter.mpr ⟨List.mem_of_getElem? (i := 630) (by decide +kernel), by decide +kernel⟩
set_option maxRecDepth 100000 in
theorem zw_631 : (Cond.selects RX5 yX5_conflicts yX5_conflicts : Cond) ∈ zW := List.mem_filter.mpr ⟨List.mem_of_getElem? (i := 631) (by decide +kernel), by decide +kernel⟩
set_option maxRecDepth 100000 in
theorem zw_632 : (Cond.code yX5_conflicts cX5_conflicts 1 (some .int) : Cond) ∈ zW := List.mem_filter.mpr ⟨List.mem_of_getElem? (i := 632) (by decide +kernel), by decide +kernel⟩
set_option maxRecDepth 100000 in
theorem zw_633 : (Cond.methodLink RL 103 yX5_see : Cond) ∈ zW := List.mem_filter.mpr ⟨List.mem_of_getElem? (i := 633) (by decide +kernel), by decide +kernel⟩
set_option maxRecDepth 100000 in
theorem zw_634 : (Cond.instanceMethod yX5_see : Cond) ∈ zW := List.mem_filter.mpr ⟨List.mem_of_getElem? (i := 634) (by decide +kernel), by decide +kernel⟩
set_option maxRecDepth 100000 in
theorem zw_635 : (Cond.selects RX5 yX5_see yX5_see : Cond) ∈ zW := List.mem_filter.mpr ⟨List.mem_of_getElem? (i := 635) (by decide +kernel), by decide +kernel⟩
set_option maxRecDepth 100000 in
theorem zw_636 : (Cond.code yX5_see cX5_see 6 (some .int) : Cond) ∈ zW := List.mem_filter.mpr ⟨List.mem_of_getElem? (i := 636) (by decide +kernel), by decide +kernel⟩
set_option maxRecDepth 100000 in
theorem hinX0 : ∀ w ∈ u_ws RX0 TX0 2, w ∈ zW := by decide +kernel
set_option maxRecDepth 100000 in
theorem hinX1 : ∀ w ∈ u_ws RX1 TX1 6, w ∈ zW := by decide +kernel
set_option maxRecDepth 100000 in
theorem hinX2 : ∀ w ∈ u_ws RX2 TX2 2, w ∈ zW := by decide +kernel
set_option maxRecDepth 100000 in
theorem hinX3 : ∀ w ∈ u_ws RX3 TX3 5, w ∈ zW := by decide +kernel
set_option maxRecDepth 100000 in
theorem hinX4 : ∀ w ∈ u_ws RX4 TX4 6, w ∈ zW := by decide +kernel
set_option maxRecDepth 100000 in
theorem hinX5 : ∀ w ∈ u_ws RX5 TX5 19, w ∈ zW := by decide +kernel
set_option maxRecDepth 100000 in
theorem zn_44 : (Cond.arrayOver (.object RX2) : Cond) ∈ zNW := List.mem_filter.mpr ⟨List.mem_of_getElem? (i := 44) (by decide +kernel), by decide +kernel⟩
set_option maxRecDepth 100000 in
theorem zn_46 : (Cond.methodLinkNest RX4 15 yX2_init "RowDiffer" : Cond) ∈ zNW := List.mem_filter.mpr ⟨List.mem_of_getElem? (i := 46) (by decide +kernel), by decide +kernel⟩
set_option maxRecDepth 100000 in
theorem zn_51 : (Cond.fieldLinkNest RX1 52 "RowDiffer$Row" "numbers" "[I" "RowDiffer" : Cond) ∈ zNW := List.mem_filter.mpr ⟨List.mem_of_getElem? (i := 51) (by decide +kernel), by decide +kernel⟩
set_option maxRecDepth 100000 in
theorem zn_52 : (Cond.fieldLinkNest RX0 33 "RowDiffer$Row" "numbers" "[I" "RowDiffer" : Cond) ∈ zNW := List.mem_filter.mpr ⟨List.mem_of_getElem? (i := 52) (by decide +kernel), by decide +kernel⟩
set_option maxRecDepth 100000 in
theorem zn_53 : (Cond.fieldLinkNest RX4 69 "RowDiffer$Row" "numbers" "[I" "RowDiffer" : Cond) ∈ zNW := List.mem_filter.mpr ⟨List.mem_of_getElem? (i := 53) (by decide +kernel), by decide +kernel⟩
set_option maxRecDepth 100000 in
theorem zn_54 : (Cond.fieldLinkNest RX3 35 "RowDiffer$Row" "numbers" "[I" "RowDiffer" : Cond) ∈ zNW := List.mem_filter.mpr ⟨List.mem_of_getElem? (i := 54) (by decide +kernel), by decide +kernel⟩
set_option maxRecDepth 100000 in
theorem zn_56 : (Cond.fieldLinkNest RX4 47 "RowDiffer$Row" "count" "I" "RowDiffer" : Cond) ∈ zNW := List.mem_filter.mpr ⟨List.mem_of_getElem? (i := 56) (by decide +kernel), by decide +kernel⟩
set_option maxRecDepth 100000 in
theorem zn_57 : (Cond.fieldLinkNest RX1 31 "RowDiffer$Row" "count" "I" "RowDiffer" : Cond) ∈ zNW := List.mem_filter.mpr ⟨List.mem_of_getElem? (i := 57) (by decide +kernel), by decide +kernel⟩
set_option maxRecDepth 100000 in
theorem zn_58 : (Cond.fieldLinkNest RX0 27 "RowDiffer$Row" "count" "I" "RowDiffer" : Cond) ∈ zNW := List.mem_filter.mpr ⟨List.mem_of_getElem? (i := 58) (by decide +kernel), by decide +kernel⟩
set_option maxRecDepth 100000 in
theorem zn_59 : (Cond.fieldLinkNest RX3 32 "RowDiffer$Row" "count" "I" "RowDiffer" : Cond) ∈ zNW := List.mem_filter.mpr ⟨List.mem_of_getElem? (i := 59) (by decide +kernel), by decide +kernel⟩
set_option maxRecDepth 100000 in
theorem zn_68 : (Cond.methodLinkNest RX4 18 yX0_init "RowDiffer" : Cond) ∈ zNW := List.mem_filter.mpr ⟨List.mem_of_getElem? (i := 68) (by decide +kernel), by decide +kernel⟩
set_option maxRecDepth 100000 in
theorem zn_82 : (Cond.methodLinkNest RX4 25 yX3_init "RowDiffer" : Cond) ∈ zNW := List.mem_filter.mpr ⟨List.mem_of_getElem? (i := 82) (by decide +kernel), by decide +kernel⟩
set_option maxRecDepth 100000 in
theorem zn_87 : (Cond.fieldLinkNest RX4 85 "RowDiffer$Script" "kinds" "[I" "RowDiffer" : Cond) ∈ zNW := List.mem_filter.mpr ⟨List.mem_of_getElem? (i := 87) (by decide +kernel), by decide +kernel⟩
set_option maxRecDepth 100000 in
theorem zn_89 : (Cond.fieldLinkNest RX4 88 "RowDiffer$Script" "fromPlaces" "[I" "RowDiffer" : Cond) ∈ zNW := List.mem_filter.mpr ⟨List.mem_of_getElem? (i := 89) (by decide +kernel), by decide +kernel⟩
set_option maxRecDepth 100000 in
theorem zn_91 : (Cond.fieldLinkNest RX4 91 "RowDiffer$Script" "toPlaces" "[I" "RowDiffer" : Cond) ∈ zNW := List.mem_filter.mpr ⟨List.mem_of_getElem? (i := 91) (by decide +kernel), by decide +kernel⟩
set_option maxRecDepth 100000 in
theorem zn_93 : (Cond.fieldLinkNest RX1 73 "RowDiffer$Script" "numbers" "[I" "RowDiffer" : Cond) ∈ zNW := List.mem_filter.mpr ⟨List.mem_of_getElem? (i := 93) (by decide +kernel), by decide +kernel⟩
set_option maxRecDepth 100000 in
theorem zn_94 : (Cond.fieldLinkNest RX4 94 "RowDiffer$Script" "numbers" "[I" "RowDiffer" : Cond) ∈ zNW := List.mem_filter.mpr ⟨List.mem_of_getElem? (i := 94) (by decide +kernel), by decide +kernel⟩
set_option maxRecDepth 100000 in
theorem zn_96 : (Cond.fieldLinkNest RX4 82 "RowDiffer$Script" "count" "I" "RowDiffer" : Cond) ∈ zNW := List.mem_filter.mpr ⟨List.mem_of_getElem? (i := 96) (by decide +kernel), by decide +kernel⟩
set_option maxRecDepth 100000 in
theorem zn_110 : (Cond.methodLinkNest RX4 38 yX1_init "RowDiffer" : Cond) ∈ zNW := List.mem_filter.mpr ⟨List.mem_of_getElem? (i := 110) (by decide +kernel), by decide +kernel⟩
set_option maxRecDepth 100000 in
theorem zn_115 : (Cond.fieldLinkNest RX4 137 "RowDiffer$Merge" "numbers" "[I" "RowDiffer" : Cond) ∈ zNW := List.mem_filter.mpr ⟨List.mem_of_getElem? (i := 115) (by decide +kernel), by decide +kernel⟩
set_option maxRecDepth 100000 in
theorem zn_117 : (Cond.fieldLinkNest RX4 138 "RowDiffer$Merge" "inserters" "[I" "RowDiffer" : Cond) ∈ zNW := List.mem_filter.mpr ⟨List.mem_of_getElem? (i := 117) (by decide +kernel), by decide +kernel⟩
set_option maxRecDepth 100000 in
theorem zn_119 : (Cond.fieldLinkNest RX4 141 "RowDiffer$Merge" "erasers" "[I" "RowDiffer" : Cond) ∈ zNW := List.mem_filter.mpr ⟨List.mem_of_getElem? (i := 119) (by decide +kernel), by decide +kernel⟩
set_option maxRecDepth 100000 in
theorem zn_121 : (Cond.fieldLinkNest RX4 144 "RowDiffer$Merge" "basePlaces" "[I" "RowDiffer" : Cond) ∈ zNW := List.mem_filter.mpr ⟨List.mem_of_getElem? (i := 121) (by decide +kernel), by decide +kernel⟩
set_option maxRecDepth 100000 in
theorem zn_123 : (Cond.fieldLinkNest RX4 134 "RowDiffer$Merge" "count" "I" "RowDiffer" : Cond) ∈ zNW := List.mem_filter.mpr ⟨List.mem_of_getElem? (i := 123) (by decide +kernel), by decide +kernel⟩
set_option maxRecDepth 100000 in
theorem zn_125 : (Cond.fieldLinkNest RX4 149 "RowDiffer$Merge" "conflictCount" "I" "RowDiffer" : Cond) ∈ zNW := List.mem_filter.mpr ⟨List.mem_of_getElem? (i := 125) (by decide +kernel), by decide +kernel⟩
set_option maxRecDepth 100000 in
theorem zn_215 : (Cond.castable "java/lang/IndexOutOfBoundsException" "java/lang/IndexOutOfBoundsException" : Cond) ∈ zNW := List.mem_filter.mpr ⟨List.mem_of_getElem? (i := 215) (by decide +kernel), by decide +kernel⟩
set_option maxRecDepth 100000 in
theorem zn_331 : (Cond.castable "java/lang/IllegalStateException" "java/lang/IllegalStateException" : Cond) ∈ zNW := List.mem_filter.mpr ⟨List.mem_of_getElem? (i := 331) (by decide +kernel), by decide +kernel⟩
set_option maxRecDepth 100000 in
theorem zn_356 : (Cond.castable "java/lang/IllegalArgumentException" "java/lang/IllegalArgumentException" : Cond) ∈ zNW := List.mem_filter.mpr ⟨List.mem_of_getElem? (i := 356) (by decide +kernel), by decide +kernel⟩
