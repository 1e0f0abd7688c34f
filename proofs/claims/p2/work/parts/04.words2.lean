set_option maxRecDepth 20000 in
theorem wd_5_2 : Jvm.Cond.fieldLink "ChipMapModel" (101 : Nat) "ChipMapModel" "b" "[I" ∈ GT := gt_in (in_t5 (List.mem_of_getElem? (i := 2) rfl)) rfl
set_option maxRecDepth 20000 in
theorem wd_5_3 : Jvm.Cond.fieldLink "ChipMapModel" (104 : Nat) "ChipMapModel" "needs" "[I" ∈ GT := gt_in (in_t5 (List.mem_of_getElem? (i := 3) rfl)) rfl
set_option maxRecDepth 20000 in
theorem wd_5_4 : Jvm.Cond.fieldLink "ChipMapModel" (107 : Nat) "ChipMapModel" "value" "[I" ∈ GT := gt_in (in_t5 (List.mem_of_getElem? (i := 4) rfl)) rfl
set_option maxRecDepth 20000 in
theorem wd_5_5 : Jvm.Cond.fieldLink "ChipMapModel" (110 : Nat) "ChipMapModel" "reads" "[I" ∈ GT := gt_in (in_t5 (List.mem_of_getElem? (i := 5) rfl)) rfl
set_option maxRecDepth 20000 in
theorem wd_5_6 : Jvm.Cond.fieldLink "ChipMapModel" (113 : Nat) "ChipMapModel" "keeps" "[I" ∈ GT := gt_in (in_t5 (List.mem_of_getElem? (i := 6) rfl)) rfl
set_option maxRecDepth 20000 in
theorem wd_5_7 : Jvm.Cond.fieldLink "ChipMapModel" (116 : Nat) "ChipMapModel" "memory" "[Z" ∈ GT := gt_in (in_t5 (List.mem_of_getElem? (i := 7) rfl)) rfl
set_option maxRecDepth 20000 in
theorem wd_5_8 : Jvm.Cond.fieldLink "ChipMapModel" (282 : Nat) "ChipMapModel" "operations" "I" ∈ GT := gt_in (in_t5 (List.mem_of_getElem? (i := 8) rfl)) rfl
set_option maxRecDepth 20000 in
theorem wd_5_9 : Jvm.Cond.fieldLink "ChipMapModel" (285 : Nat) "ChipMapModel" "broken" "I" ∈ GT := gt_in (in_t5 (List.mem_of_getElem? (i := 9) rfl)) rfl
set_option maxRecDepth 20000 in
theorem wd_5_10 : Jvm.Cond.fieldLink "ChipMapModel" (119 : Nat) "ChipMapModel" "traceWrites" "[I" ∈ GT := gt_in (in_t5 (List.mem_of_getElem? (i := 10) rfl)) rfl
set_option maxRecDepth 20000 in
theorem wd_5_11 : Jvm.Cond.fieldLink "ChipMapModel" (122 : Nat) "ChipMapModel" "traceOffset" "[I" ∈ GT := gt_in (in_t5 (List.mem_of_getElem? (i := 11) rfl)) rfl
set_option maxRecDepth 20000 in
theorem wd_5_12 : Jvm.Cond.fieldLink "ChipMapModel" (125 : Nat) "ChipMapModel" "traceWord" "[I" ∈ GT := gt_in (in_t5 (List.mem_of_getElem? (i := 12) rfl)) rfl
set_option maxRecDepth 20000 in
theorem wd_5_13 : Jvm.Cond.fieldLink "ChipMapModel" (288 : Nat) "ChipMapModel" "joined" "I" ∈ GT := gt_in (in_t5 (List.mem_of_getElem? (i := 13) rfl)) rfl
set_option maxRecDepth 20000 in
theorem wd_5_14 : Jvm.Cond.fieldLink "ChipMapModel" (128 : Nat) "ChipMapModel" "joinField" "[I" ∈ GT := gt_in (in_t5 (List.mem_of_getElem? (i := 14) rfl)) rfl
set_option maxRecDepth 20000 in
theorem wd_5_15 : Jvm.Cond.fieldLink "ChipMapModel" (131 : Nat) "ChipMapModel" "joinValue" "[I" ∈ GT := gt_in (in_t5 (List.mem_of_getElem? (i := 15) rfl)) rfl
set_option maxRecDepth 20000 in
theorem wd_5_16 : Jvm.Cond.fieldLink "ChipMapModel" (337 : Nat) "ChipMapModel" "refused" "Z" ∈ GT := gt_in (in_t5 (List.mem_of_getElem? (i := 16) rfl)) rfl
set_option maxRecDepth 20000 in
theorem wd_5_17 : Jvm.Cond.fieldLink "ChipMapModel" (340 : Nat) "ChipMapModel" "refusedRule" "I" ∈ GT := gt_in (in_t5 (List.mem_of_getElem? (i := 17) rfl)) rfl
set_option maxRecDepth 20000 in
theorem wd_5_18 : Jvm.Cond.fieldLink "ChipMapModel" (357 : Nat) "ChipMapModel" "fetched" "I" ∈ GT := gt_in (in_t5 (List.mem_of_getElem? (i := 18) rfl)) rfl
set_option maxRecDepth 20000 in
theorem wd_5_19 : Jvm.Cond.fieldLink "ChipMapModel" (307 : Nat) "ChipMapModel" "dry" "Z" ∈ GT := gt_in (in_t5 (List.mem_of_getElem? (i := 19) rfl)) rfl
set_option maxRecDepth 20000 in
theorem wd_5_20 : Jvm.Cond.fieldLink "ChipMapModel" (267 : Nat) "ChipMapModel" "steps" "I" ∈ GT := gt_in (in_t5 (List.mem_of_getElem? (i := 20) rfl)) rfl
set_option maxRecDepth 20000 in
theorem wd_5_21 : Jvm.Cond.fieldLink "ChipMapModel" (134 : Nat) "ChipMapModel" "stepKind" "[I" ∈ GT := gt_in (in_t5 (List.mem_of_getElem? (i := 21) rfl)) rfl
set_option maxRecDepth 20000 in
theorem wd_5_22 : Jvm.Cond.fieldLink "ChipMapModel" (137 : Nat) "ChipMapModel" "stepField" "[I" ∈ GT := gt_in (in_t5 (List.mem_of_getElem? (i := 22) rfl)) rfl
set_option maxRecDepth 20000 in
theorem wd_5_23 : Jvm.Cond.fieldLink "ChipMapModel" (140 : Nat) "ChipMapModel" "stepValue" "[I" ∈ GT := gt_in (in_t5 (List.mem_of_getElem? (i := 23) rfl)) rfl
set_option maxRecDepth 20000 in
theorem wd_5_24 : Jvm.Cond.fieldLink "ChipMapModel" (390 : Nat) "ChipMapModel" "situations" "I" ∈ GT := gt_in (in_t5 (List.mem_of_getElem? (i := 24) rfl)) rfl
set_option maxRecDepth 20000 in
theorem wd_5_25 : Jvm.Cond.fieldLink "ChipMapModel" (143 : Nat) "ChipMapModel" "situationAt" "[I" ∈ GT := gt_in (in_t5 (List.mem_of_getElem? (i := 25) rfl)) rfl
set_option maxRecDepth 20000 in
theorem wd_5_26 : Jvm.Cond.fieldLink "ChipMapModel" (146 : Nat) "ChipMapModel" "situationValue" "[I" ∈ GT := gt_in (in_t5 (List.mem_of_getElem? (i := 26) rfl)) rfl
set_option maxRecDepth 20000 in
theorem wd_5_27 : Jvm.Cond.fieldLink "ChipMapModel" (149 : Nat) "ChipMapModel" "situationMemory" "[I" ∈ GT := gt_in (in_t5 (List.mem_of_getElem? (i := 27) rfl)) rfl
set_option maxRecDepth 20000 in
theorem wd_5_28 : Jvm.Cond.fieldLink "ChipMapModel" (270 : Nat) "ChipMapModel" "foundMany" "I" ∈ GT := gt_in (in_t5 (List.mem_of_getElem? (i := 28) rfl)) rfl
set_option maxRecDepth 20000 in
theorem wd_5_29 : Jvm.Cond.fieldLink "ChipMapModel" (273 : Nat) "ChipMapModel" "foundRule" "I" ∈ GT := gt_in (in_t5 (List.mem_of_getElem? (i := 29) rfl)) rfl
set_option maxRecDepth 20000 in
theorem wd_5_30 : Jvm.Cond.fieldLink "ChipMapModel" (396 : Nat) "ChipMapModel" "tooMany" "Z" ∈ GT := gt_in (in_t5 (List.mem_of_getElem? (i := 30) rfl)) rfl
set_option maxRecDepth 20000 in
theorem wd_5_31 : Jvm.Cond.fieldLink "ChipMapModel" (191 : Nat) "ChipMapModel" "taken" "I" ∈ GT := gt_in (in_t5 (List.mem_of_getElem? (i := 31) rfl)) rfl
set_option maxRecDepth 20000 in
theorem wd_5_32 : Jvm.Cond.fieldLink "ChipMapModel" (363 : Nat) "ChipMapModel" "operationsBefore" "I" ∈ GT := gt_in (in_t5 (List.mem_of_getElem? (i := 32) rfl)) rfl
set_option maxRecDepth 20000 in
theorem wd_5_33 : Jvm.Cond.fieldLink "ChipMapModel" (152 : Nat) "ChipMapModel" "savedWrites" "[I" ∈ GT := gt_in (in_t5 (List.mem_of_getElem? (i := 33) rfl)) rfl
set_option maxRecDepth 20000 in
theorem wd_5_34 : Jvm.Cond.fieldLink "ChipMapModel" (155 : Nat) "ChipMapModel" "savedOffset" "[I" ∈ GT := gt_in (in_t5 (List.mem_of_getElem? (i := 34) rfl)) rfl
set_option maxRecDepth 20000 in
theorem wd_5_35 : Jvm.Cond.fieldLink "ChipMapModel" (158 : Nat) "ChipMapModel" "savedWord" "[I" ∈ GT := gt_in (in_t5 (List.mem_of_getElem? (i := 35) rfl)) rfl
set_option maxRecDepth 20000 in
theorem wd_5_36 : Jvm.Cond.fieldLink "ChipMapModel" (405 : Nat) "ChipMapModel" "toldStep" "I" ∈ GT := gt_in (in_t5 (List.mem_of_getElem? (i := 36) rfl)) rfl
set_option maxRecDepth 20000 in
theorem wd_5_37 : Jvm.Cond.lays "ChipMapModel" "ChipMapModel" "thrown" "I" ∈ GT := gt_in (in_t5 (List.mem_of_getElem? (i := 37) rfl)) rfl
set_option maxRecDepth 20000 in
theorem wd_5_39 : Jvm.Cond.laysFinal "ChipMapModel" "ChipMapModel" "tape" "[I" ∈ GT := gt_in (in_t5 (List.mem_of_getElem? (i := 39) rfl)) rfl
set_option maxRecDepth 20000 in
theorem wd_5_41 : Jvm.Cond.lays "ChipMapModel" "ChipMapModel" "taped" "I" ∈ GT := gt_in (in_t5 (List.mem_of_getElem? (i := 41) rfl)) rfl
set_option maxRecDepth 20000 in
theorem wd_5_43 : Jvm.Cond.lays "ChipMapModel" "ChipMapModel" "at" "I" ∈ GT := gt_in (in_t5 (List.mem_of_getElem? (i := 43) rfl)) rfl
set_option maxRecDepth 20000 in
theorem wd_5_45 : Jvm.Cond.lays "ChipMapModel" "ChipMapModel" "fault" "I" ∈ GT := gt_in (in_t5 (List.mem_of_getElem? (i := 45) rfl)) rfl
set_option maxRecDepth 20000 in
theorem wd_5_47 : Jvm.Cond.lays "ChipMapModel" "ChipMapModel" "faultPlace" "I" ∈ GT := gt_in (in_t5 (List.mem_of_getElem? (i := 47) rfl)) rfl
set_option maxRecDepth 20000 in
theorem wd_5_49 : Jvm.Cond.lays "ChipMapModel" "ChipMapModel" "readRegisters" "I" ∈ GT := gt_in (in_t5 (List.mem_of_getElem? (i := 49) rfl)) rfl
set_option maxRecDepth 20000 in
theorem wd_5_51 : Jvm.Cond.laysFinal "ChipMapModel" "ChipMapModel" "readOffset" "[I" ∈ GT := gt_in (in_t5 (List.mem_of_getElem? (i := 51) rfl)) rfl
set_option maxRecDepth 20000 in
theorem wd_5_53 : Jvm.Cond.laysFinal "ChipMapModel" "ChipMapModel" "readBank" "[I" ∈ GT := gt_in (in_t5 (List.mem_of_getElem? (i := 53) rfl)) rfl
set_option maxRecDepth 20000 in
theorem wd_5_55 : Jvm.Cond.laysFinal "ChipMapModel" "ChipMapModel" "readDigit" "[I" ∈ GT := gt_in (in_t5 (List.mem_of_getElem? (i := 55) rfl)) rfl
set_option maxRecDepth 20000 in
theorem wd_5_57 : Jvm.Cond.laysFinal "ChipMapModel" "ChipMapModel" "registerPlace" "[I" ∈ GT := gt_in (in_t5 (List.mem_of_getElem? (i := 57) rfl)) rfl
set_option maxRecDepth 20000 in
theorem wd_5_59 : Jvm.Cond.laysFinal "ChipMapModel" "ChipMapModel" "bankPlace" "[I" ∈ GT := gt_in (in_t5 (List.mem_of_getElem? (i := 59) rfl)) rfl
set_option maxRecDepth 20000 in
theorem wd_5_61 : Jvm.Cond.lays "ChipMapModel" "ChipMapModel" "readFields" "I" ∈ GT := gt_in (in_t5 (List.mem_of_getElem? (i := 61) rfl)) rfl
set_option maxRecDepth 20000 in
theorem wd_5_63 : Jvm.Cond.laysFinal "ChipMapModel" "ChipMapModel" "readName" "[I" ∈ GT := gt_in (in_t5 (List.mem_of_getElem? (i := 63) rfl)) rfl
set_option maxRecDepth 20000 in
theorem wd_5_65 : Jvm.Cond.laysFinal "ChipMapModel" "ChipMapModel" "readAccess" "[I" ∈ GT := gt_in (in_t5 (List.mem_of_getElem? (i := 65) rfl)) rfl
set_option maxRecDepth 20000 in
theorem wd_5_67 : Jvm.Cond.laysFinal "ChipMapModel" "ChipMapModel" "readHigh" "[I" ∈ GT := gt_in (in_t5 (List.mem_of_getElem? (i := 67) rfl)) rfl
set_option maxRecDepth 20000 in
theorem wd_5_69 : Jvm.Cond.laysFinal "ChipMapModel" "ChipMapModel" "readLow" "[I" ∈ GT := gt_in (in_t5 (List.mem_of_getElem? (i := 69) rfl)) rfl
set_option maxRecDepth 20000 in
theorem wd_5_71 : Jvm.Cond.laysFinal "ChipMapModel" "ChipMapModel" "readValue" "[I" ∈ GT := gt_in (in_t5 (List.mem_of_getElem? (i := 71) rfl)) rfl
set_option maxRecDepth 20000 in
theorem wd_5_73 : Jvm.Cond.laysFinal "ChipMapModel" "ChipMapModel" "readIn" "[I" ∈ GT := gt_in (in_t5 (List.mem_of_getElem? (i := 73) rfl)) rfl
set_option maxRecDepth 20000 in
theorem wd_5_75 : Jvm.Cond.laysFinal "ChipMapModel" "ChipMapModel" "fieldPlace" "[I" ∈ GT := gt_in (in_t5 (List.mem_of_getElem? (i := 75) rfl)) rfl
set_option maxRecDepth 20000 in
theorem wd_5_77 : Jvm.Cond.lays "ChipMapModel" "ChipMapModel" "readRules" "I" ∈ GT := gt_in (in_t5 (List.mem_of_getElem? (i := 77) rfl)) rfl
set_option maxRecDepth 20000 in
theorem wd_5_79 : Jvm.Cond.laysFinal "ChipMapModel" "ChipMapModel" "ruleSign" "[I" ∈ GT := gt_in (in_t5 (List.mem_of_getElem? (i := 79) rfl)) rfl
set_option maxRecDepth 20000 in
theorem wd_5_81 : Jvm.Cond.laysFinal "ChipMapModel" "ChipMapModel" "ruleA" "[I" ∈ GT := gt_in (in_t5 (List.mem_of_getElem? (i := 81) rfl)) rfl
set_option maxRecDepth 20000 in
theorem wd_5_83 : Jvm.Cond.laysFinal "ChipMapModel" "ChipMapModel" "ruleB" "[I" ∈ GT := gt_in (in_t5 (List.mem_of_getElem? (i := 83) rfl)) rfl
set_option maxRecDepth 20000 in
theorem wd_5_85 : Jvm.Cond.laysFinal "ChipMapModel" "ChipMapModel" "ruleValue" "[I" ∈ GT := gt_in (in_t5 (List.mem_of_getElem? (i := 85) rfl)) rfl
set_option maxRecDepth 20000 in
theorem wd_5_87 : Jvm.Cond.laysFinal "ChipMapModel" "ChipMapModel" "placeA" "[I" ∈ GT := gt_in (in_t5 (List.mem_of_getElem? (i := 87) rfl)) rfl
set_option maxRecDepth 20000 in
theorem wd_5_89 : Jvm.Cond.laysFinal "ChipMapModel" "ChipMapModel" "placeB" "[I" ∈ GT := gt_in (in_t5 (List.mem_of_getElem? (i := 89) rfl)) rfl
set_option maxRecDepth 20000 in
theorem wd_5_91 : Jvm.Cond.lays "ChipMapModel" "ChipMapModel" "mapped" "Z" ∈ GT := gt_in (in_t5 (List.mem_of_getElem? (i := 91) rfl)) rfl
set_option maxRecDepth 20000 in
theorem wd_5_93 : Jvm.Cond.lays "ChipMapModel" "ChipMapModel" "registers" "I" ∈ GT := gt_in (in_t5 (List.mem_of_getElem? (i := 93) rfl)) rfl
set_option maxRecDepth 20000 in
theorem wd_5_95 : Jvm.Cond.laysFinal "ChipMapModel" "ChipMapModel" "offset" "[I" ∈ GT := gt_in (in_t5 (List.mem_of_getElem? (i := 95) rfl)) rfl
set_option maxRecDepth 20000 in
theorem wd_5_97 : Jvm.Cond.laysFinal "ChipMapModel" "ChipMapModel" "bank" "[I" ∈ GT := gt_in (in_t5 (List.mem_of_getElem? (i := 97) rfl)) rfl
set_option maxRecDepth 20000 in
theorem wd_5_99 : Jvm.Cond.laysFinal "ChipMapModel" "ChipMapModel" "digit" "[I" ∈ GT := gt_in (in_t5 (List.mem_of_getElem? (i := 99) rfl)) rfl
set_option maxRecDepth 20000 in
theorem wd_5_101 : Jvm.Cond.laysFinal "ChipMapModel" "ChipMapModel" "there" "[Z" ∈ GT := gt_in (in_t5 (List.mem_of_getElem? (i := 101) rfl)) rfl
set_option maxRecDepth 20000 in
theorem wd_5_103 : Jvm.Cond.laysFinal "ChipMapModel" "ChipMapModel" "access" "[I" ∈ GT := gt_in (in_t5 (List.mem_of_getElem? (i := 103) rfl)) rfl
set_option maxRecDepth 20000 in
theorem wd_5_105 : Jvm.Cond.laysFinal "ChipMapModel" "ChipMapModel" "in" "[I" ∈ GT := gt_in (in_t5 (List.mem_of_getElem? (i := 105) rfl)) rfl
set_option maxRecDepth 20000 in
theorem wd_5_107 : Jvm.Cond.laysFinal "ChipMapModel" "ChipMapModel" "low" "[I" ∈ GT := gt_in (in_t5 (List.mem_of_getElem? (i := 107) rfl)) rfl
set_option maxRecDepth 20000 in
theorem wd_5_109 : Jvm.Cond.laysFinal "ChipMapModel" "ChipMapModel" "bits" "[I" ∈ GT := gt_in (in_t5 (List.mem_of_getElem? (i := 109) rfl)) rfl
set_option maxRecDepth 20000 in
theorem wd_5_111 : Jvm.Cond.laysFinal "ChipMapModel" "ChipMapModel" "first" "[I" ∈ GT := gt_in (in_t5 (List.mem_of_getElem? (i := 111) rfl)) rfl
set_option maxRecDepth 20000 in
theorem wd_5_113 : Jvm.Cond.lays "ChipMapModel" "ChipMapModel" "rules" "I" ∈ GT := gt_in (in_t5 (List.mem_of_getElem? (i := 113) rfl)) rfl
set_option maxRecDepth 20000 in
theorem wd_5_115 : Jvm.Cond.laysFinal "ChipMapModel" "ChipMapModel" "sign" "[I" ∈ GT := gt_in (in_t5 (List.mem_of_getElem? (i := 115) rfl)) rfl
set_option maxRecDepth 20000 in
theorem wd_5_117 : Jvm.Cond.laysFinal "ChipMapModel" "ChipMapModel" "a" "[I" ∈ GT := gt_in (in_t5 (List.mem_of_getElem? (i := 117) rfl)) rfl
set_option maxRecDepth 20000 in
theorem wd_5_119 : Jvm.Cond.laysFinal "ChipMapModel" "ChipMapModel" "b" "[I" ∈ GT := gt_in (in_t5 (List.mem_of_getElem? (i := 119) rfl)) rfl
set_option maxRecDepth 20000 in
theorem wd_5_121 : Jvm.Cond.laysFinal "ChipMapModel" "ChipMapModel" "needs" "[I" ∈ GT := gt_in (in_t5 (List.mem_of_getElem? (i := 121) rfl)) rfl
set_option maxRecDepth 20000 in
theorem wd_5_123 : Jvm.Cond.laysFinal "ChipMapModel" "ChipMapModel" "value" "[I" ∈ GT := gt_in (in_t5 (List.mem_of_getElem? (i := 123) rfl)) rfl
set_option maxRecDepth 20000 in
theorem wd_5_125 : Jvm.Cond.laysFinal "ChipMapModel" "ChipMapModel" "reads" "[I" ∈ GT := gt_in (in_t5 (List.mem_of_getElem? (i := 125) rfl)) rfl
set_option maxRecDepth 20000 in
theorem wd_5_127 : Jvm.Cond.laysFinal "ChipMapModel" "ChipMapModel" "keeps" "[I" ∈ GT := gt_in (in_t5 (List.mem_of_getElem? (i := 127) rfl)) rfl
set_option maxRecDepth 20000 in
theorem wd_5_129 : Jvm.Cond.laysFinal "ChipMapModel" "ChipMapModel" "memory" "[Z" ∈ GT := gt_in (in_t5 (List.mem_of_getElem? (i := 129) rfl)) rfl
set_option maxRecDepth 20000 in
theorem wd_5_131 : Jvm.Cond.lays "ChipMapModel" "ChipMapModel" "operations" "I" ∈ GT := gt_in (in_t5 (List.mem_of_getElem? (i := 131) rfl)) rfl
set_option maxRecDepth 20000 in
theorem wd_5_133 : Jvm.Cond.lays "ChipMapModel" "ChipMapModel" "broken" "I" ∈ GT := gt_in (in_t5 (List.mem_of_getElem? (i := 133) rfl)) rfl
set_option maxRecDepth 20000 in
theorem wd_5_135 : Jvm.Cond.laysFinal "ChipMapModel" "ChipMapModel" "traceWrites" "[I" ∈ GT := gt_in (in_t5 (List.mem_of_getElem? (i := 135) rfl)) rfl
set_option maxRecDepth 20000 in
theorem wd_5_137 : Jvm.Cond.laysFinal "ChipMapModel" "ChipMapModel" "traceOffset" "[I" ∈ GT := gt_in (in_t5 (List.mem_of_getElem? (i := 137) rfl)) rfl
set_option maxRecDepth 20000 in
theorem wd_5_139 : Jvm.Cond.laysFinal "ChipMapModel" "ChipMapModel" "traceWord" "[I" ∈ GT := gt_in (in_t5 (List.mem_of_getElem? (i := 139) rfl)) rfl
set_option maxRecDepth 20000 in
theorem wd_5_141 : Jvm.Cond.lays "ChipMapModel" "ChipMapModel" "joined" "I" ∈ GT := gt_in (in_t5 (List.mem_of_getElem? (i := 141) rfl)) rfl
set_option maxRecDepth 20000 in
theorem wd_5_143 : Jvm.Cond.laysFinal "ChipMapModel" "ChipMapModel" "joinField" "[I" ∈ GT := gt_in (in_t5 (List.mem_of_getElem? (i := 143) rfl)) rfl
set_option maxRecDepth 20000 in
theorem wd_5_145 : Jvm.Cond.laysFinal "ChipMapModel" "ChipMapModel" "joinValue" "[I" ∈ GT := gt_in (in_t5 (List.mem_of_getElem? (i := 145) rfl)) rfl
set_option maxRecDepth 20000 in
theorem wd_5_147 : Jvm.Cond.lays "ChipMapModel" "ChipMapModel" "refused" "Z" ∈ GT := gt_in (in_t5 (List.mem_of_getElem? (i := 147) rfl)) rfl
set_option maxRecDepth 20000 in
theorem wd_5_149 : Jvm.Cond.lays "ChipMapModel" "ChipMapModel" "refusedRule" "I" ∈ GT := gt_in (in_t5 (List.mem_of_getElem? (i := 149) rfl)) rfl
set_option maxRecDepth 20000 in
theorem wd_5_151 : Jvm.Cond.lays "ChipMapModel" "ChipMapModel" "fetched" "I" ∈ GT := gt_in (in_t5 (List.mem_of_getElem? (i := 151) rfl)) rfl
set_option maxRecDepth 20000 in
theorem wd_5_153 : Jvm.Cond.lays "ChipMapModel" "ChipMapModel" "dry" "Z" ∈ GT := gt_in (in_t5 (List.mem_of_getElem? (i := 153) rfl)) rfl
set_option maxRecDepth 20000 in
theorem wd_5_155 : Jvm.Cond.lays "ChipMapModel" "ChipMapModel" "steps" "I" ∈ GT := gt_in (in_t5 (List.mem_of_getElem? (i := 155) rfl)) rfl
set_option maxRecDepth 20000 in
theorem wd_5_157 : Jvm.Cond.laysFinal "ChipMapModel" "ChipMapModel" "stepKind" "[I" ∈ GT := gt_in (in_t5 (List.mem_of_getElem? (i := 157) rfl)) rfl
set_option maxRecDepth 20000 in
theorem wd_5_159 : Jvm.Cond.laysFinal "ChipMapModel" "ChipMapModel" "stepField" "[I" ∈ GT := gt_in (in_t5 (List.mem_of_getElem? (i := 159) rfl)) rfl
set_option maxRecDepth 20000 in
theorem wd_5_161 : Jvm.Cond.laysFinal "ChipMapModel" "ChipMapModel" "stepValue" "[I" ∈ GT := gt_in (in_t5 (List.mem_of_getElem? (i := 161) rfl)) rfl
set_option maxRecDepth 20000 in
theorem wd_5_163 : Jvm.Cond.lays "ChipMapModel" "ChipMapModel" "situations" "I" ∈ GT := gt_in (in_t5 (List.mem_of_getElem? (i := 163) rfl)) rfl
set_option maxRecDepth 20000 in
theorem wd_5_165 : Jvm.Cond.laysFinal "ChipMapModel" "ChipMapModel" "situationAt" "[I" ∈ GT := gt_in (in_t5 (List.mem_of_getElem? (i := 165) rfl)) rfl
set_option maxRecDepth 20000 in
theorem wd_5_167 : Jvm.Cond.laysFinal "ChipMapModel" "ChipMapModel" "situationValue" "[I" ∈ GT := gt_in (in_t5 (List.mem_of_getElem? (i := 167) rfl)) rfl
set_option maxRecDepth 20000 in
theorem wd_5_169 : Jvm.Cond.laysFinal "ChipMapModel" "ChipMapModel" "situationMemory" "[I" ∈ GT := gt_in (in_t5 (List.mem_of_getElem? (i := 169) rfl)) rfl
set_option maxRecDepth 20000 in
theorem wd_5_171 : Jvm.Cond.lays "ChipMapModel" "ChipMapModel" "foundMany" "I" ∈ GT := gt_in (in_t5 (List.mem_of_getElem? (i := 171) rfl)) rfl
set_option maxRecDepth 20000 in
theorem wd_5_173 : Jvm.Cond.lays "ChipMapModel" "ChipMapModel" "foundRule" "I" ∈ GT := gt_in (in_t5 (List.mem_of_getElem? (i := 173) rfl)) rfl
set_option maxRecDepth 20000 in
theorem wd_5_175 : Jvm.Cond.lays "ChipMapModel" "ChipMapModel" "tooMany" "Z" ∈ GT := gt_in (in_t5 (List.mem_of_getElem? (i := 175) rfl)) rfl
set_option maxRecDepth 20000 in
theorem wd_5_177 : Jvm.Cond.lays "ChipMapModel" "ChipMapModel" "taken" "I" ∈ GT := gt_in (in_t5 (List.mem_of_getElem? (i := 177) rfl)) rfl
set_option maxRecDepth 20000 in
theorem wd_5_179 : Jvm.Cond.lays "ChipMapModel" "ChipMapModel" "operationsBefore" "I" ∈ GT := gt_in (in_t5 (List.mem_of_getElem? (i := 179) rfl)) rfl
set_option maxRecDepth 20000 in
theorem wd_5_181 : Jvm.Cond.laysFinal "ChipMapModel" "ChipMapModel" "savedWrites" "[I" ∈ GT := gt_in (in_t5 (List.mem_of_getElem? (i := 181) rfl)) rfl
set_option maxRecDepth 20000 in
theorem wd_5_183 : Jvm.Cond.laysFinal "ChipMapModel" "ChipMapModel" "savedOffset" "[I" ∈ GT := gt_in (in_t5 (List.mem_of_getElem? (i := 183) rfl)) rfl
set_option maxRecDepth 20000 in
theorem wd_5_185 : Jvm.Cond.laysFinal "ChipMapModel" "ChipMapModel" "savedWord" "[I" ∈ GT := gt_in (in_t5 (List.mem_of_getElem? (i := 185) rfl)) rfl
set_option maxRecDepth 20000 in
theorem wd_5_187 : Jvm.Cond.lays "ChipMapModel" "ChipMapModel" "toldStep" "I" ∈ GT := gt_in (in_t5 (List.mem_of_getElem? (i := 187) rfl)) rfl
set_option maxRecDepth 20000 in
theorem wd_5_195 : Jvm.Cond.constantLong "ChipMapModel" (168 : Nat) (255 : Int64) ∈ GT := gt_in (in_t5 (List.mem_of_getElem? (i := 195) rfl)) rfl
set_option maxRecDepth 20000 in
theorem wd_5_200 : Jvm.Cond.methodLink "ChipMapModel" (251 : Nat) ({ cls := "ChipMapModel", name := "readAll", desc := "()Z" } : Jvm.MethodName) ∈ GT := gt_in (in_t5 (List.mem_of_getElem? (i := 200) rfl)) rfl
set_option maxRecDepth 20000 in
theorem wd_5_202 : Jvm.Cond.instanceMethod ({ cls := "ChipMapModel", name := "readAll", desc := "()Z" } : Jvm.MethodName) ∈ GT := gt_in (in_t5 (List.mem_of_getElem? (i := 202) rfl)) rfl
set_option maxRecDepth 20000 in
theorem wd_5_203 : Jvm.Cond.code ({ cls := "ChipMapModel", name := "readAll", desc := "()Z" } : Jvm.MethodName) prog_14_method_23_code (1 : Nat) (Option.some Jvm.ClassFile.FieldType.boolean) ∈ GT := gt_in (in_t5 (List.mem_of_getElem? (i := 203) rfl)) rfl
set_option maxRecDepth 20000 in
theorem wd_5_204 : Jvm.Cond.methodLink "ChipMapModel" (236 : Nat) ({ cls := "ChipMapModel", name := "readRegister", desc := "()Z" } : Jvm.MethodName) ∈ GT := gt_in (in_t5 (List.mem_of_getElem? (i := 204) rfl)) rfl
set_option maxRecDepth 20000 in
theorem wd_5_206 : Jvm.Cond.instanceMethod ({ cls := "ChipMapModel", name := "readRegister", desc := "()Z" } : Jvm.MethodName) ∈ GT := gt_in (in_t5 (List.mem_of_getElem? (i := 206) rfl)) rfl
set_option maxRecDepth 20000 in
theorem wd_5_207 : Jvm.Cond.code ({ cls := "ChipMapModel", name := "readRegister", desc := "()Z" } : Jvm.MethodName) prog_14_method_15_code (4 : Nat) (Option.some Jvm.ClassFile.FieldType.boolean) ∈ GT := gt_in (in_t5 (List.mem_of_getElem? (i := 207) rfl)) rfl
set_option maxRecDepth 20000 in
theorem wd_5_208 : Jvm.Cond.methodLink "ChipMapModel" (183 : Nat) ({ cls := "ChipMapModel", name := "wrong", desc := "(II)Z" } : Jvm.MethodName) ∈ GT := gt_in (in_t5 (List.mem_of_getElem? (i := 208) rfl)) rfl
set_option maxRecDepth 20000 in
theorem wd_5_210 : Jvm.Cond.instanceMethod ({ cls := "ChipMapModel", name := "wrong", desc := "(II)Z" } : Jvm.MethodName) ∈ GT := gt_in (in_t5 (List.mem_of_getElem? (i := 210) rfl)) rfl
set_option maxRecDepth 20000 in
theorem wd_5_211 : Jvm.Cond.code ({ cls := "ChipMapModel", name := "wrong", desc := "(II)Z" } : Jvm.MethodName) prog_14_method_6_code (3 : Nat) (Option.some Jvm.ClassFile.FieldType.boolean) ∈ GT := gt_in (in_t5 (List.mem_of_getElem? (i := 211) rfl)) rfl
set_option maxRecDepth 20000 in
theorem wd_5_212 : Jvm.Cond.methodLink "ChipMapModel" (214 : Nat) ({ cls := "ChipMapModel", name := "take", desc := "(I)Z" } : Jvm.MethodName) ∈ GT := gt_in (in_t5 (List.mem_of_getElem? (i := 212) rfl)) rfl
set_option maxRecDepth 20000 in
theorem wd_5_214 : Jvm.Cond.instanceMethod ({ cls := "ChipMapModel", name := "take", desc := "(I)Z" } : Jvm.MethodName) ∈ GT := gt_in (in_t5 (List.mem_of_getElem? (i := 214) rfl)) rfl
set_option maxRecDepth 20000 in
theorem wd_5_215 : Jvm.Cond.code ({ cls := "ChipMapModel", name := "take", desc := "(I)Z" } : Jvm.MethodName) prog_14_method_9_code (2 : Nat) (Option.some Jvm.ClassFile.FieldType.boolean) ∈ GT := gt_in (in_t5 (List.mem_of_getElem? (i := 215) rfl)) rfl
set_option maxRecDepth 20000 in
theorem wd_5_216 : Jvm.Cond.methodLink "ChipMapModel" (179 : Nat) ({ cls := "ChipMapModel", name := "here", desc := "()I" } : Jvm.MethodName) ∈ GT := gt_in (in_t5 (List.mem_of_getElem? (i := 216) rfl)) rfl
set_option maxRecDepth 20000 in
theorem wd_5_218 : Jvm.Cond.instanceMethod ({ cls := "ChipMapModel", name := "here", desc := "()I" } : Jvm.MethodName) ∈ GT := gt_in (in_t5 (List.mem_of_getElem? (i := 218) rfl)) rfl
set_option maxRecDepth 20000 in
theorem wd_5_219 : Jvm.Cond.code ({ cls := "ChipMapModel", name := "here", desc := "()I" } : Jvm.MethodName) prog_14_method_5_code (1 : Nat) (Option.some Jvm.ClassFile.FieldType.int) ∈ GT := gt_in (in_t5 (List.mem_of_getElem? (i := 219) rfl)) rfl
set_option maxRecDepth 20000 in
theorem wd_5_220 : Jvm.Cond.methodLink "ChipMapModel" (217 : Nat) ({ cls := "ChipMapModel", name := "takeHex", desc := "(II)Z" } : Jvm.MethodName) ∈ GT := gt_in (in_t5 (List.mem_of_getElem? (i := 220) rfl)) rfl
set_option maxRecDepth 20000 in
theorem wd_5_222 : Jvm.Cond.instanceMethod ({ cls := "ChipMapModel", name := "takeHex", desc := "(II)Z" } : Jvm.MethodName) ∈ GT := gt_in (in_t5 (List.mem_of_getElem? (i := 222) rfl)) rfl
set_option maxRecDepth 20000 in
theorem wd_5_223 : Jvm.Cond.code ({ cls := "ChipMapModel", name := "takeHex", desc := "(II)Z" } : Jvm.MethodName) prog_14_method_11_code (4 : Nat) (Option.some Jvm.ClassFile.FieldType.boolean) ∈ GT := gt_in (in_t5 (List.mem_of_getElem? (i := 223) rfl)) rfl
set_option maxRecDepth 20000 in
theorem wd_5_224 : Jvm.Cond.methodLink "ChipMapModel" (194 : Nat) ({ cls := "ChipMapModel", name := "hex", desc := "(I)I" } : Jvm.MethodName) ∈ GT := gt_in (in_t5 (List.mem_of_getElem? (i := 224) rfl)) rfl
set_option maxRecDepth 20000 in
theorem wd_5_225 : Jvm.Cond.static ({ cls := "ChipMapModel", name := "hex", desc := "(I)I" } : Jvm.MethodName) ∈ GT := gt_in (in_t5 (List.mem_of_getElem? (i := 225) rfl)) rfl
set_option maxRecDepth 20000 in
theorem wd_5_226 : Jvm.Cond.code ({ cls := "ChipMapModel", name := "hex", desc := "(I)I" } : Jvm.MethodName) prog_14_method_7_code (1 : Nat) (Option.some Jvm.ClassFile.FieldType.int) ∈ GT := gt_in (in_t5 (List.mem_of_getElem? (i := 226) rfl)) rfl
set_option maxRecDepth 20000 in
theorem wd_5_227 : Jvm.Cond.methodLink "ChipMapModel" (204 : Nat) ({ cls := "ChipMapModel", name := "takeName", desc := "()Z" } : Jvm.MethodName) ∈ GT := gt_in (in_t5 (List.mem_of_getElem? (i := 227) rfl)) rfl
set_option maxRecDepth 20000 in
theorem wd_5_229 : Jvm.Cond.instanceMethod ({ cls := "ChipMapModel", name := "takeName", desc := "()Z" } : Jvm.MethodName) ∈ GT := gt_in (in_t5 (List.mem_of_getElem? (i := 229) rfl)) rfl
set_option maxRecDepth 20000 in
theorem wd_5_230 : Jvm.Cond.code ({ cls := "ChipMapModel", name := "takeName", desc := "()Z" } : Jvm.MethodName) prog_14_method_10_code (1 : Nat) (Option.some Jvm.ClassFile.FieldType.boolean) ∈ GT := gt_in (in_t5 (List.mem_of_getElem? (i := 230) rfl)) rfl
set_option maxRecDepth 20000 in
theorem wd_5_231 : Jvm.Cond.methodLink "ChipMapModel" (187 : Nat) ({ cls := "ChipMapModel", name := "isName", desc := "(I)Z" } : Jvm.MethodName) ∈ GT := gt_in (in_t5 (List.mem_of_getElem? (i := 231) rfl)) rfl
set_option maxRecDepth 20000 in
theorem wd_5_232 : Jvm.Cond.static ({ cls := "ChipMapModel", name := "isName", desc := "(I)Z" } : Jvm.MethodName) ∈ GT := gt_in (in_t5 (List.mem_of_getElem? (i := 232) rfl)) rfl
set_option maxRecDepth 20000 in
theorem wd_5_233 : Jvm.Cond.code ({ cls := "ChipMapModel", name := "isName", desc := "(I)Z" } : Jvm.MethodName) prog_14_method_8_code (1 : Nat) (Option.some Jvm.ClassFile.FieldType.boolean) ∈ GT := gt_in (in_t5 (List.mem_of_getElem? (i := 233) rfl)) rfl
set_option maxRecDepth 20000 in
theorem wd_5_234 : Jvm.Cond.methodLink "ChipMapModel" (220 : Nat) ({ cls := "ChipMapModel", name := "readField", desc := "()Z" } : Jvm.MethodName) ∈ GT := gt_in (in_t5 (List.mem_of_getElem? (i := 234) rfl)) rfl
set_option maxRecDepth 20000 in
theorem wd_5_236 : Jvm.Cond.instanceMethod ({ cls := "ChipMapModel", name := "readField", desc := "()Z" } : Jvm.MethodName) ∈ GT := gt_in (in_t5 (List.mem_of_getElem? (i := 236) rfl)) rfl
set_option maxRecDepth 20000 in
theorem wd_5_237 : Jvm.Cond.code ({ cls := "ChipMapModel", name := "readField", desc := "()Z" } : Jvm.MethodName) prog_14_method_14_code (2 : Nat) (Option.some Jvm.ClassFile.FieldType.boolean) ∈ GT := gt_in (in_t5 (List.mem_of_getElem? (i := 237) rfl)) rfl
set_option maxRecDepth 20000 in
theorem wd_5_238 : Jvm.Cond.methodLink "ChipMapModel" (208 : Nat) ({ cls := "ChipMapModel", name := "isAccess", desc := "(I)Z" } : Jvm.MethodName) ∈ GT := gt_in (in_t5 (List.mem_of_getElem? (i := 238) rfl)) rfl
set_option maxRecDepth 20000 in
theorem wd_5_239 : Jvm.Cond.static ({ cls := "ChipMapModel", name := "isAccess", desc := "(I)Z" } : Jvm.MethodName) ∈ GT := gt_in (in_t5 (List.mem_of_getElem? (i := 239) rfl)) rfl
set_option maxRecDepth 20000 in
theorem wd_6_0 : Jvm.Cond.code ({ cls := "ChipMapModel", name := "isAccess", desc := "(I)Z" } : Jvm.MethodName) prog_14_method_13_code (1 : Nat) (Option.some Jvm.ClassFile.FieldType.boolean) ∈ GT := gt_in (in_t6 (List.mem_of_getElem? (i := 0) rfl)) rfl
set_option maxRecDepth 20000 in
theorem wd_6_1 : Jvm.Cond.methodLink "ChipMapModel" (211 : Nat) ({ cls := "ChipMapModel", name := "takeDecimal", desc := "()Z" } : Jvm.MethodName) ∈ GT := gt_in (in_t6 (List.mem_of_getElem? (i := 1) rfl)) rfl
set_option maxRecDepth 20000 in
theorem wd_6_3 : Jvm.Cond.instanceMethod ({ cls := "ChipMapModel", name := "takeDecimal", desc := "()Z" } : Jvm.MethodName) ∈ GT := gt_in (in_t6 (List.mem_of_getElem? (i := 3) rfl)) rfl
set_option maxRecDepth 20000 in
theorem wd_6_4 : Jvm.Cond.code ({ cls := "ChipMapModel", name := "takeDecimal", desc := "()Z" } : Jvm.MethodName) prog_14_method_12_code (2 : Nat) (Option.some Jvm.ClassFile.FieldType.boolean) ∈ GT := gt_in (in_t6 (List.mem_of_getElem? (i := 4) rfl)) rfl
set_option maxRecDepth 20000 in
theorem wd_6_5 : Jvm.Cond.methodLink "ChipMapModel" (239 : Nat) ({ cls := "ChipMapModel", name := "readRule", desc := "()Z" } : Jvm.MethodName) ∈ GT := gt_in (in_t6 (List.mem_of_getElem? (i := 5) rfl)) rfl
set_option maxRecDepth 20000 in
theorem wd_6_7 : Jvm.Cond.instanceMethod ({ cls := "ChipMapModel", name := "readRule", desc := "()Z" } : Jvm.MethodName) ∈ GT := gt_in (in_t6 (List.mem_of_getElem? (i := 7) rfl)) rfl
set_option maxRecDepth 20000 in
theorem wd_6_8 : Jvm.Cond.code ({ cls := "ChipMapModel", name := "readRule", desc := "()Z" } : Jvm.MethodName) prog_14_method_16_code (2 : Nat) (Option.some Jvm.ClassFile.FieldType.boolean) ∈ GT := gt_in (in_t6 (List.mem_of_getElem? (i := 8) rfl)) rfl
set_option maxRecDepth 20000 in
theorem wd_6_9 : Jvm.Cond.methodLink "ChipMapModel" (242 : Nat) ({ cls := "ChipMapModel", name := "fieldsRight", desc := "()Z" } : Jvm.MethodName) ∈ GT := gt_in (in_t6 (List.mem_of_getElem? (i := 9) rfl)) rfl
set_option maxRecDepth 20000 in
theorem wd_6_11 : Jvm.Cond.instanceMethod ({ cls := "ChipMapModel", name := "fieldsRight", desc := "()Z" } : Jvm.MethodName) ∈ GT := gt_in (in_t6 (List.mem_of_getElem? (i := 11) rfl)) rfl
set_option maxRecDepth 20000 in
theorem wd_6_12 : Jvm.Cond.code ({ cls := "ChipMapModel", name := "fieldsRight", desc := "()Z" } : Jvm.MethodName) prog_14_method_19_code (4 : Nat) (Option.some Jvm.ClassFile.FieldType.boolean) ∈ GT := gt_in (in_t6 (List.mem_of_getElem? (i := 12) rfl)) rfl
set_option maxRecDepth 20000 in
theorem wd_6_13 : Jvm.Cond.methodLink "ChipMapModel" (226 : Nat) ({ cls := "ChipMapModel", name := "named", desc := "(II)I" } : Jvm.MethodName) ∈ GT := gt_in (in_t6 (List.mem_of_getElem? (i := 13) rfl)) rfl
set_option maxRecDepth 20000 in
theorem wd_6_15 : Jvm.Cond.instanceMethod ({ cls := "ChipMapModel", name := "named", desc := "(II)I" } : Jvm.MethodName) ∈ GT := gt_in (in_t6 (List.mem_of_getElem? (i := 15) rfl)) rfl
set_option maxRecDepth 20000 in
theorem wd_6_16 : Jvm.Cond.code ({ cls := "ChipMapModel", name := "named", desc := "(II)I" } : Jvm.MethodName) prog_14_method_17_code (4 : Nat) (Option.some Jvm.ClassFile.FieldType.int) ∈ GT := gt_in (in_t6 (List.mem_of_getElem? (i := 16) rfl)) rfl
set_option maxRecDepth 20000 in
theorem wd_6_17 : Jvm.Cond.methodLink "ChipMapModel" (230 : Nat) ({ cls := "ChipMapModel", name := "fits", desc := "(II)Z" } : Jvm.MethodName) ∈ GT := gt_in (in_t6 (List.mem_of_getElem? (i := 17) rfl)) rfl
set_option maxRecDepth 20000 in
theorem wd_6_19 : Jvm.Cond.instanceMethod ({ cls := "ChipMapModel", name := "fits", desc := "(II)Z" } : Jvm.MethodName) ∈ GT := gt_in (in_t6 (List.mem_of_getElem? (i := 19) rfl)) rfl
set_option maxRecDepth 20000 in
theorem wd_6_20 : Jvm.Cond.code ({ cls := "ChipMapModel", name := "fits", desc := "(II)Z" } : Jvm.MethodName) prog_14_method_18_code (3 : Nat) (Option.some Jvm.ClassFile.FieldType.boolean) ∈ GT := gt_in (in_t6 (List.mem_of_getElem? (i := 20) rfl)) rfl
set_option maxRecDepth 20000 in
theorem wd_6_21 : Jvm.Cond.methodLink "ChipMapModel" (245 : Nat) ({ cls := "ChipMapModel", name := "registersRight", desc := "()Z" } : Jvm.MethodName) ∈ GT := gt_in (in_t6 (List.mem_of_getElem? (i := 21) rfl)) rfl
set_option maxRecDepth 20000 in
theorem wd_6_23 : Jvm.Cond.instanceMethod ({ cls := "ChipMapModel", name := "registersRight", desc := "()Z" } : Jvm.MethodName) ∈ GT := gt_in (in_t6 (List.mem_of_getElem? (i := 23) rfl)) rfl
set_option maxRecDepth 20000 in
theorem wd_6_24 : Jvm.Cond.code ({ cls := "ChipMapModel", name := "registersRight", desc := "()Z" } : Jvm.MethodName) prog_14_method_20_code (4 : Nat) (Option.some Jvm.ClassFile.FieldType.boolean) ∈ GT := gt_in (in_t6 (List.mem_of_getElem? (i := 24) rfl)) rfl
set_option maxRecDepth 20000 in
theorem wd_6_25 : Jvm.Cond.methodLink "ChipMapModel" (248 : Nat) ({ cls := "ChipMapModel", name := "rulesRight", desc := "()Z" } : Jvm.MethodName) ∈ GT := gt_in (in_t6 (List.mem_of_getElem? (i := 25) rfl)) rfl
set_option maxRecDepth 20000 in
theorem wd_6_27 : Jvm.Cond.instanceMethod ({ cls := "ChipMapModel", name := "rulesRight", desc := "()Z" } : Jvm.MethodName) ∈ GT := gt_in (in_t6 (List.mem_of_getElem? (i := 27) rfl)) rfl
set_option maxRecDepth 20000 in
theorem wd_6_28 : Jvm.Cond.code ({ cls := "ChipMapModel", name := "rulesRight", desc := "()Z" } : Jvm.MethodName) prog_14_method_22_code (5 : Nat) (Option.some Jvm.ClassFile.FieldType.boolean) ∈ GT := gt_in (in_t6 (List.mem_of_getElem? (i := 28) rfl)) rfl
set_option maxRecDepth 20000 in
theorem wd_6_29 : Jvm.Cond.methodLink "ChipMapModel" (233 : Nat) ({ cls := "ChipMapModel", name := "isLooked", desc := "(I)Z" } : Jvm.MethodName) ∈ GT := gt_in (in_t6 (List.mem_of_getElem? (i := 29) rfl)) rfl
set_option maxRecDepth 20000 in
theorem wd_6_31 : Jvm.Cond.instanceMethod ({ cls := "ChipMapModel", name := "isLooked", desc := "(I)Z" } : Jvm.MethodName) ∈ GT := gt_in (in_t6 (List.mem_of_getElem? (i := 31) rfl)) rfl
set_option maxRecDepth 20000 in
theorem wd_6_32 : Jvm.Cond.code ({ cls := "ChipMapModel", name := "isLooked", desc := "(I)Z" } : Jvm.MethodName) prog_14_method_21_code (2 : Nat) (Option.some Jvm.ClassFile.FieldType.boolean) ∈ GT := gt_in (in_t6 (List.mem_of_getElem? (i := 32) rfl)) rfl
set_option maxRecDepth 20000 in
theorem wd_6_33 : Jvm.Cond.methodLink "ChipMapModel" (254 : Nat) ({ cls := "ChipMapModel", name := "raise", desc := "(I)I" } : Jvm.MethodName) ∈ GT := gt_in (in_t6 (List.mem_of_getElem? (i := 33) rfl)) rfl
set_option maxRecDepth 20000 in
theorem wd_6_35 : Jvm.Cond.instanceMethod ({ cls := "ChipMapModel", name := "raise", desc := "(I)I" } : Jvm.MethodName) ∈ GT := gt_in (in_t6 (List.mem_of_getElem? (i := 35) rfl)) rfl
set_option maxRecDepth 20000 in
theorem wd_6_36 : Jvm.Cond.code ({ cls := "ChipMapModel", name := "raise", desc := "(I)I" } : Jvm.MethodName) prog_14_method_3_code (2 : Nat) (Option.some Jvm.ClassFile.FieldType.int) ∈ GT := gt_in (in_t6 (List.mem_of_getElem? (i := 36) rfl)) rfl
set_option maxRecDepth 20000 in
theorem wd_6_37 : Jvm.Cond.methodLink "ChipMapModel" (276 : Nat) ({ cls := "ChipMapModel", name := "resetAll", desc := "()V" } : Jvm.MethodName) ∈ GT := gt_in (in_t6 (List.mem_of_getElem? (i := 37) rfl)) rfl
set_option maxRecDepth 20000 in
theorem wd_6_39 : Jvm.Cond.instanceMethod ({ cls := "ChipMapModel", name := "resetAll", desc := "()V" } : Jvm.MethodName) ∈ GT := gt_in (in_t6 (List.mem_of_getElem? (i := 39) rfl)) rfl
set_option maxRecDepth 20000 in
theorem wd_6_40 : Jvm.Cond.code ({ cls := "ChipMapModel", name := "resetAll", desc := "()V" } : Jvm.MethodName) prog_14_method_27_code (1 : Nat) (Option.none : Option Jvm.ClassFile.FieldType) ∈ GT := gt_in (in_t6 (List.mem_of_getElem? (i := 40) rfl)) rfl
set_option maxRecDepth 20000 in
theorem wd_6_41 : Jvm.Cond.methodLink "ChipMapModel" (279 : Nat) ({ cls := "ChipMapModel", name := "resetDevice", desc := "()V" } : Jvm.MethodName) ∈ GT := gt_in (in_t6 (List.mem_of_getElem? (i := 41) rfl)) rfl
set_option maxRecDepth 20000 in
theorem wd_6_43 : Jvm.Cond.instanceMethod ({ cls := "ChipMapModel", name := "resetDevice", desc := "()V" } : Jvm.MethodName) ∈ GT := gt_in (in_t6 (List.mem_of_getElem? (i := 43) rfl)) rfl
set_option maxRecDepth 20000 in
theorem wd_6_44 : Jvm.Cond.code ({ cls := "ChipMapModel", name := "resetDevice", desc := "()V" } : Jvm.MethodName) prog_14_method_26_code (2 : Nat) (Option.none : Option Jvm.ClassFile.FieldType) ∈ GT := gt_in (in_t6 (List.mem_of_getElem? (i := 44) rfl)) rfl
set_option maxRecDepth 20000 in
theorem wd_6_53 : Jvm.Cond.methodLink "ChipMapModel" (317 : Nat) ({ cls := "ChipMapModel", name := "isField", desc := "(I)Z" } : Jvm.MethodName) ∈ GT := gt_in (in_t6 (List.mem_of_getElem? (i := 53) rfl)) rfl
set_option maxRecDepth 20000 in
theorem wd_6_55 : Jvm.Cond.instanceMethod ({ cls := "ChipMapModel", name := "isField", desc := "(I)Z" } : Jvm.MethodName) ∈ GT := gt_in (in_t6 (List.mem_of_getElem? (i := 55) rfl)) rfl
set_option maxRecDepth 20000 in
theorem wd_6_56 : Jvm.Cond.code ({ cls := "ChipMapModel", name := "isField", desc := "(I)Z" } : Jvm.MethodName) prog_14_method_40_code (2 : Nat) (Option.some Jvm.ClassFile.FieldType.boolean) ∈ GT := gt_in (in_t6 (List.mem_of_getElem? (i := 56) rfl)) rfl
set_option maxRecDepth 20000 in
theorem wd_6_65 : Jvm.Cond.methodLink "ChipMapModel" (320 : Nat) ({ cls := "ChipMapModel", name := "registerAt", desc := "(I)I" } : Jvm.MethodName) ∈ GT := gt_in (in_t6 (List.mem_of_getElem? (i := 65) rfl)) rfl
set_option maxRecDepth 20000 in
theorem wd_6_67 : Jvm.Cond.instanceMethod ({ cls := "ChipMapModel", name := "registerAt", desc := "(I)I" } : Jvm.MethodName) ∈ GT := gt_in (in_t6 (List.mem_of_getElem? (i := 67) rfl)) rfl
set_option maxRecDepth 20000 in
theorem wd_6_68 : Jvm.Cond.code ({ cls := "ChipMapModel", name := "registerAt", desc := "(I)I" } : Jvm.MethodName) prog_14_method_39_code (3 : Nat) (Option.some Jvm.ClassFile.FieldType.int) ∈ GT := gt_in (in_t6 (List.mem_of_getElem? (i := 68) rfl)) rfl
set_option maxRecDepth 20000 in
theorem wd_6_69 : Jvm.Cond.methodLink "ChipMapModel" (314 : Nat) ({ cls := "ChipMapModel", name := "isThere", desc := "(I)Z" } : Jvm.MethodName) ∈ GT := gt_in (in_t6 (List.mem_of_getElem? (i := 69) rfl)) rfl
set_option maxRecDepth 20000 in
theorem wd_6_71 : Jvm.Cond.instanceMethod ({ cls := "ChipMapModel", name := "isThere", desc := "(I)Z" } : Jvm.MethodName) ∈ GT := gt_in (in_t6 (List.mem_of_getElem? (i := 71) rfl)) rfl
set_option maxRecDepth 20000 in
theorem wd_6_72 : Jvm.Cond.code ({ cls := "ChipMapModel", name := "isThere", desc := "(I)Z" } : Jvm.MethodName) prog_14_method_38_code (2 : Nat) (Option.some Jvm.ClassFile.FieldType.boolean) ∈ GT := gt_in (in_t6 (List.mem_of_getElem? (i := 72) rfl)) rfl
set_option maxRecDepth 20000 in
theorem wd_6_73 : Jvm.Cond.constant "ChipMapModel" (323 : Nat) (65535 : Int32) ∈ GT := gt_in (in_t6 (List.mem_of_getElem? (i := 73) rfl)) rfl
set_option maxRecDepth 20000 in
theorem wd_6_74 : Jvm.Cond.methodLink "ChipMapModel" (324 : Nat) ({ cls := "ChipMapModel", name := "firstBroken", desc := "(II)I" } : Jvm.MethodName) ∈ GT := gt_in (in_t6 (List.mem_of_getElem? (i := 74) rfl)) rfl
set_option maxRecDepth 20000 in
theorem wd_6_76 : Jvm.Cond.instanceMethod ({ cls := "ChipMapModel", name := "firstBroken", desc := "(II)I" } : Jvm.MethodName) ∈ GT := gt_in (in_t6 (List.mem_of_getElem? (i := 76) rfl)) rfl
set_option maxRecDepth 20000 in
theorem wd_6_77 : Jvm.Cond.code ({ cls := "ChipMapModel", name := "firstBroken", desc := "(II)I" } : Jvm.MethodName) prog_14_method_34_code (4 : Nat) (Option.some Jvm.ClassFile.FieldType.int) ∈ GT := gt_in (in_t6 (List.mem_of_getElem? (i := 77) rfl)) rfl
set_option maxRecDepth 20000 in
theorem wd_6_78 : Jvm.Cond.methodLink "ChipMapModel" (304 : Nat) ({ cls := "ChipMapModel", name := "breaks", desc := "(III)Z" } : Jvm.MethodName) ∈ GT := gt_in (in_t6 (List.mem_of_getElem? (i := 78) rfl)) rfl
set_option maxRecDepth 20000 in
theorem wd_6_80 : Jvm.Cond.instanceMethod ({ cls := "ChipMapModel", name := "breaks", desc := "(III)Z" } : Jvm.MethodName) ∈ GT := gt_in (in_t6 (List.mem_of_getElem? (i := 80) rfl)) rfl
set_option maxRecDepth 20000 in
theorem wd_6_81 : Jvm.Cond.code ({ cls := "ChipMapModel", name := "breaks", desc := "(III)Z" } : Jvm.MethodName) prog_14_method_33_code (6 : Nat) (Option.some Jvm.ClassFile.FieldType.boolean) ∈ GT := gt_in (in_t6 (List.mem_of_getElem? (i := 81) rfl)) rfl
set_option maxRecDepth 20000 in
theorem wd_6_82 : Jvm.Cond.methodLink "ChipMapModel" (300 : Nat) ({ cls := "ChipMapModel", name := "isWritten", desc := "(III)Z" } : Jvm.MethodName) ∈ GT := gt_in (in_t6 (List.mem_of_getElem? (i := 82) rfl)) rfl
set_option maxRecDepth 20000 in
theorem wd_6_84 : Jvm.Cond.instanceMethod ({ cls := "ChipMapModel", name := "isWritten", desc := "(III)Z" } : Jvm.MethodName) ∈ GT := gt_in (in_t6 (List.mem_of_getElem? (i := 84) rfl)) rfl
set_option maxRecDepth 20000 in
theorem wd_6_85 : Jvm.Cond.code ({ cls := "ChipMapModel", name := "isWritten", desc := "(III)Z" } : Jvm.MethodName) prog_14_method_32_code (5 : Nat) (Option.some Jvm.ClassFile.FieldType.boolean) ∈ GT := gt_in (in_t6 (List.mem_of_getElem? (i := 85) rfl)) rfl
set_option maxRecDepth 20000 in
theorem wd_6_86 : Jvm.Cond.methodLink "ChipMapModel" (291 : Nat) ({ cls := "ChipMapModel", name := "isIn", desc := "(II)Z" } : Jvm.MethodName) ∈ GT := gt_in (in_t6 (List.mem_of_getElem? (i := 86) rfl)) rfl
set_option maxRecDepth 20000 in
theorem wd_6_88 : Jvm.Cond.instanceMethod ({ cls := "ChipMapModel", name := "isIn", desc := "(II)Z" } : Jvm.MethodName) ∈ GT := gt_in (in_t6 (List.mem_of_getElem? (i := 88) rfl)) rfl
set_option maxRecDepth 20000 in
theorem wd_6_89 : Jvm.Cond.code ({ cls := "ChipMapModel", name := "isIn", desc := "(II)Z" } : Jvm.MethodName) prog_14_method_29_code (3 : Nat) (Option.some Jvm.ClassFile.FieldType.boolean) ∈ GT := gt_in (in_t6 (List.mem_of_getElem? (i := 89) rfl)) rfl
set_option maxRecDepth 20000 in
theorem wd_6_90 : Jvm.Cond.methodLink "ChipMapModel" (294 : Nat) ({ cls := "ChipMapModel", name := "part", desc := "(II)I" } : Jvm.MethodName) ∈ GT := gt_in (in_t6 (List.mem_of_getElem? (i := 90) rfl)) rfl
set_option maxRecDepth 20000 in
theorem wd_6_92 : Jvm.Cond.instanceMethod ({ cls := "ChipMapModel", name := "part", desc := "(II)I" } : Jvm.MethodName) ∈ GT := gt_in (in_t6 (List.mem_of_getElem? (i := 92) rfl)) rfl
set_option maxRecDepth 20000 in
theorem wd_6_93 : Jvm.Cond.code ({ cls := "ChipMapModel", name := "part", desc := "(II)I" } : Jvm.MethodName) prog_14_method_30_code (3 : Nat) (Option.some Jvm.ClassFile.FieldType.int) ∈ GT := gt_in (in_t6 (List.mem_of_getElem? (i := 93) rfl)) rfl
set_option maxRecDepth 20000 in
theorem wd_6_94 : Jvm.Cond.methodLink "ChipMapModel" (297 : Nat) ({ cls := "ChipMapModel", name := "isStored", desc := "(I)Z" } : Jvm.MethodName) ∈ GT := gt_in (in_t6 (List.mem_of_getElem? (i := 94) rfl)) rfl
set_option maxRecDepth 20000 in
theorem wd_6_96 : Jvm.Cond.instanceMethod ({ cls := "ChipMapModel", name := "isStored", desc := "(I)Z" } : Jvm.MethodName) ∈ GT := gt_in (in_t6 (List.mem_of_getElem? (i := 96) rfl)) rfl
set_option maxRecDepth 20000 in
theorem wd_6_97 : Jvm.Cond.code ({ cls := "ChipMapModel", name := "isStored", desc := "(I)Z" } : Jvm.MethodName) prog_14_method_31_code (2 : Nat) (Option.some Jvm.ClassFile.FieldType.boolean) ∈ GT := gt_in (in_t6 (List.mem_of_getElem? (i := 97) rfl)) rfl
set_option maxRecDepth 20000 in
theorem wd_6_98 : Jvm.Cond.methodLink "ChipMapModel" (327 : Nat) ({ cls := "ChipMapModel", name := "write", desc := "(II)V" } : Jvm.MethodName) ∈ GT := gt_in (in_t6 (List.mem_of_getElem? (i := 98) rfl)) rfl
set_option maxRecDepth 20000 in
theorem wd_6_100 : Jvm.Cond.instanceMethod ({ cls := "ChipMapModel", name := "write", desc := "(II)V" } : Jvm.MethodName) ∈ GT := gt_in (in_t6 (List.mem_of_getElem? (i := 100) rfl)) rfl
set_option maxRecDepth 20000 in
theorem wd_6_101 : Jvm.Cond.code ({ cls := "ChipMapModel", name := "write", desc := "(II)V" } : Jvm.MethodName) prog_14_method_36_code (6 : Nat) (Option.none : Option Jvm.ClassFile.FieldType) ∈ GT := gt_in (in_t6 (List.mem_of_getElem? (i := 101) rfl)) rfl
set_option maxRecDepth 20000 in
theorem wd_6_102 : Jvm.Cond.methodLink "ChipMapModel" (310 : Nat) ({ cls := "ChipMapModel", name := "trace", desc := "(ZII)V" } : Jvm.MethodName) ∈ GT := gt_in (in_t6 (List.mem_of_getElem? (i := 102) rfl)) rfl
set_option maxRecDepth 20000 in
theorem wd_6_104 : Jvm.Cond.instanceMethod ({ cls := "ChipMapModel", name := "trace", desc := "(ZII)V" } : Jvm.MethodName) ∈ GT := gt_in (in_t6 (List.mem_of_getElem? (i := 104) rfl)) rfl
set_option maxRecDepth 20000 in
theorem wd_6_105 : Jvm.Cond.code ({ cls := "ChipMapModel", name := "trace", desc := "(ZII)V" } : Jvm.MethodName) prog_14_method_35_code (5 : Nat) (Option.none : Option Jvm.ClassFile.FieldType) ∈ GT := gt_in (in_t6 (List.mem_of_getElem? (i := 105) rfl)) rfl
set_option maxRecDepth 20000 in
theorem wd_6_110 : Jvm.Cond.methodLink "ChipMapModel" (331 : Nat) ({ cls := "ChipMapModel", name := "read", desc := "(I)I" } : Jvm.MethodName) ∈ GT := gt_in (in_t6 (List.mem_of_getElem? (i := 110) rfl)) rfl
set_option maxRecDepth 20000 in
theorem wd_6_112 : Jvm.Cond.instanceMethod ({ cls := "ChipMapModel", name := "read", desc := "(I)I" } : Jvm.MethodName) ∈ GT := gt_in (in_t6 (List.mem_of_getElem? (i := 112) rfl)) rfl
set_option maxRecDepth 20000 in
theorem wd_6_113 : Jvm.Cond.code ({ cls := "ChipMapModel", name := "read", desc := "(I)I" } : Jvm.MethodName) prog_14_method_37_code (4 : Nat) (Option.some Jvm.ClassFile.FieldType.int) ∈ GT := gt_in (in_t6 (List.mem_of_getElem? (i := 113) rfl)) rfl
set_option maxRecDepth 20000 in
theorem wd_6_118 : Jvm.Cond.methodLink "ChipMapModel" (334 : Nat) ({ cls := "ChipMapModel", name := "isFit", desc := "(II)Z" } : Jvm.MethodName) ∈ GT := gt_in (in_t6 (List.mem_of_getElem? (i := 118) rfl)) rfl
set_option maxRecDepth 20000 in
theorem wd_6_120 : Jvm.Cond.instanceMethod ({ cls := "ChipMapModel", name := "isFit", desc := "(II)Z" } : Jvm.MethodName) ∈ GT := gt_in (in_t6 (List.mem_of_getElem? (i := 120) rfl)) rfl
set_option maxRecDepth 20000 in
theorem wd_6_121 : Jvm.Cond.code ({ cls := "ChipMapModel", name := "isFit", desc := "(II)Z" } : Jvm.MethodName) prog_14_method_41_code (3 : Nat) (Option.some Jvm.ClassFile.FieldType.boolean) ∈ GT := gt_in (in_t6 (List.mem_of_getElem? (i := 121) rfl)) rfl
set_option maxRecDepth 20000 in
theorem wd_6_126 : Jvm.Cond.methodLink "ChipMapModel" (366 : Nat) ({ cls := "ChipMapModel", name := "isPut", desc := "(II)Z" } : Jvm.MethodName) ∈ GT := gt_in (in_t6 (List.mem_of_getElem? (i := 126) rfl)) rfl
set_option maxRecDepth 20000 in
theorem wd_6_128 : Jvm.Cond.instanceMethod ({ cls := "ChipMapModel", name := "isPut", desc := "(II)Z" } : Jvm.MethodName) ∈ GT := gt_in (in_t6 (List.mem_of_getElem? (i := 128) rfl)) rfl
set_option maxRecDepth 20000 in
theorem wd_6_129 : Jvm.Cond.code ({ cls := "ChipMapModel", name := "isPut", desc := "(II)Z" } : Jvm.MethodName) prog_14_method_51_code (3 : Nat) (Option.some Jvm.ClassFile.FieldType.boolean) ∈ GT := gt_in (in_t6 (List.mem_of_getElem? (i := 129) rfl)) rfl
set_option maxRecDepth 20000 in
theorem wd_6_130 : Jvm.Cond.methodLink "ChipMapModel" (369 : Nat) ({ cls := "ChipMapModel", name := "begin", desc := "()V" } : Jvm.MethodName) ∈ GT := gt_in (in_t6 (List.mem_of_getElem? (i := 130) rfl)) rfl
set_option maxRecDepth 20000 in
theorem wd_6_132 : Jvm.Cond.instanceMethod ({ cls := "ChipMapModel", name := "begin", desc := "()V" } : Jvm.MethodName) ∈ GT := gt_in (in_t6 (List.mem_of_getElem? (i := 132) rfl)) rfl
set_option maxRecDepth 20000 in
theorem wd_6_133 : Jvm.Cond.code ({ cls := "ChipMapModel", name := "begin", desc := "()V" } : Jvm.MethodName) prog_14_method_55_code (2 : Nat) (Option.none : Option Jvm.ClassFile.FieldType) ∈ GT := gt_in (in_t6 (List.mem_of_getElem? (i := 133) rfl)) rfl
set_option maxRecDepth 20000 in
theorem wd_6_134 : Jvm.Cond.methodLink "ChipMapModel" (360 : Nat) ({ cls := "ChipMapModel", name := "copyDevice", desc := "(II)V" } : Jvm.MethodName) ∈ GT := gt_in (in_t6 (List.mem_of_getElem? (i := 134) rfl)) rfl
set_option maxRecDepth 20000 in
theorem wd_6_136 : Jvm.Cond.instanceMethod ({ cls := "ChipMapModel", name := "copyDevice", desc := "(II)V" } : Jvm.MethodName) ∈ GT := gt_in (in_t6 (List.mem_of_getElem? (i := 136) rfl)) rfl
set_option maxRecDepth 20000 in
theorem wd_6_137 : Jvm.Cond.code ({ cls := "ChipMapModel", name := "copyDevice", desc := "(II)V" } : Jvm.MethodName) prog_14_method_28_code (4 : Nat) (Option.none : Option Jvm.ClassFile.FieldType) ∈ GT := gt_in (in_t6 (List.mem_of_getElem? (i := 137) rfl)) rfl
set_option maxRecDepth 20000 in
theorem wd_6_138 : Jvm.Cond.methodLink "ChipMapModel" (372 : Nat) ({ cls := "ChipMapModel", name := "doPut", desc := "(II)V" } : Jvm.MethodName) ∈ GT := gt_in (in_t6 (List.mem_of_getElem? (i := 138) rfl)) rfl
set_option maxRecDepth 20000 in
theorem wd_6_140 : Jvm.Cond.instanceMethod ({ cls := "ChipMapModel", name := "doPut", desc := "(II)V" } : Jvm.MethodName) ∈ GT := gt_in (in_t6 (List.mem_of_getElem? (i := 140) rfl)) rfl
set_option maxRecDepth 20000 in
theorem wd_6_141 : Jvm.Cond.code ({ cls := "ChipMapModel", name := "doPut", desc := "(II)V" } : Jvm.MethodName) prog_14_method_52_code (3 : Nat) (Option.none : Option Jvm.ClassFile.FieldType) ∈ GT := gt_in (in_t6 (List.mem_of_getElem? (i := 141) rfl)) rfl
set_option maxRecDepth 20000 in
theorem wd_6_142 : Jvm.Cond.methodLink "ChipMapModel" (353 : Nat) ({ cls := "ChipMapModel", name := "reach", desc := "(I)V" } : Jvm.MethodName) ∈ GT := gt_in (in_t6 (List.mem_of_getElem? (i := 142) rfl)) rfl
set_option maxRecDepth 20000 in
theorem wd_6_144 : Jvm.Cond.instanceMethod ({ cls := "ChipMapModel", name := "reach", desc := "(I)V" } : Jvm.MethodName) ∈ GT := gt_in (in_t6 (List.mem_of_getElem? (i := 144) rfl)) rfl
set_option maxRecDepth 20000 in
theorem wd_6_145 : Jvm.Cond.code ({ cls := "ChipMapModel", name := "reach", desc := "(I)V" } : Jvm.MethodName) prog_14_method_50_code (3 : Nat) (Option.none : Option Jvm.ClassFile.FieldType) ∈ GT := gt_in (in_t6 (List.mem_of_getElem? (i := 145) rfl)) rfl
set_option maxRecDepth 20000 in
theorem wd_6_146 : Jvm.Cond.methodLink "ChipMapModel" (343 : Nat) ({ cls := "ChipMapModel", name := "still", desc := "(I)I" } : Jvm.MethodName) ∈ GT := gt_in (in_t6 (List.mem_of_getElem? (i := 146) rfl)) rfl
set_option maxRecDepth 20000 in
theorem wd_6_148 : Jvm.Cond.instanceMethod ({ cls := "ChipMapModel", name := "still", desc := "(I)I" } : Jvm.MethodName) ∈ GT := gt_in (in_t6 (List.mem_of_getElem? (i := 148) rfl)) rfl
set_option maxRecDepth 20000 in
theorem wd_6_149 : Jvm.Cond.code ({ cls := "ChipMapModel", name := "still", desc := "(I)I" } : Jvm.MethodName) prog_14_method_47_code (4 : Nat) (Option.some Jvm.ClassFile.FieldType.int) ∈ GT := gt_in (in_t6 (List.mem_of_getElem? (i := 149) rfl)) rfl
set_option maxRecDepth 20000 in
theorem wd_6_150 : Jvm.Cond.methodLink "ChipMapModel" (346 : Nat) ({ cls := "ChipMapModel", name := "with", desc := "(III)I" } : Jvm.MethodName) ∈ GT := gt_in (in_t6 (List.mem_of_getElem? (i := 150) rfl)) rfl
set_option maxRecDepth 20000 in
theorem wd_6_152 : Jvm.Cond.instanceMethod ({ cls := "ChipMapModel", name := "with", desc := "(III)I" } : Jvm.MethodName) ∈ GT := gt_in (in_t6 (List.mem_of_getElem? (i := 152) rfl)) rfl
set_option maxRecDepth 20000 in
theorem wd_6_153 : Jvm.Cond.code ({ cls := "ChipMapModel", name := "with", desc := "(III)I" } : Jvm.MethodName) prog_14_method_48_code (4 : Nat) (Option.some Jvm.ClassFile.FieldType.int) ∈ GT := gt_in (in_t6 (List.mem_of_getElem? (i := 153) rfl)) rfl
set_option maxRecDepth 20000 in
theorem wd_6_154 : Jvm.Cond.methodLink "ChipMapModel" (350 : Nat) ({ cls := "ChipMapModel", name := "operate", desc := "(II)V" } : Jvm.MethodName) ∈ GT := gt_in (in_t6 (List.mem_of_getElem? (i := 154) rfl)) rfl
set_option maxRecDepth 20000 in
theorem wd_6_156 : Jvm.Cond.instanceMethod ({ cls := "ChipMapModel", name := "operate", desc := "(II)V" } : Jvm.MethodName) ∈ GT := gt_in (in_t6 (List.mem_of_getElem? (i := 156) rfl)) rfl
set_option maxRecDepth 20000 in
theorem wd_6_157 : Jvm.Cond.code ({ cls := "ChipMapModel", name := "operate", desc := "(II)V" } : Jvm.MethodName) prog_14_method_49_code (4 : Nat) (Option.none : Option Jvm.ClassFile.FieldType) ∈ GT := gt_in (in_t6 (List.mem_of_getElem? (i := 157) rfl)) rfl
set_option maxRecDepth 20000 in
theorem wd_6_158 : Jvm.Cond.methodLink "ChipMapModel" (375 : Nat) ({ cls := "ChipMapModel", name := "end", desc := "()I" } : Jvm.MethodName) ∈ GT := gt_in (in_t6 (List.mem_of_getElem? (i := 158) rfl)) rfl
set_option maxRecDepth 20000 in
theorem wd_6_160 : Jvm.Cond.instanceMethod ({ cls := "ChipMapModel", name := "end", desc := "()I" } : Jvm.MethodName) ∈ GT := gt_in (in_t6 (List.mem_of_getElem? (i := 160) rfl)) rfl
set_option maxRecDepth 20000 in
theorem wd_6_161 : Jvm.Cond.code ({ cls := "ChipMapModel", name := "end", desc := "()I" } : Jvm.MethodName) prog_14_method_56_code (2 : Nat) (Option.some Jvm.ClassFile.FieldType.int) ∈ GT := gt_in (in_t6 (List.mem_of_getElem? (i := 161) rfl)) rfl
set_option maxRecDepth 20000 in
theorem wd_6_166 : Jvm.Cond.methodLink "ChipMapModel" (378 : Nat) ({ cls := "ChipMapModel", name := "isFetch", desc := "(I)Z" } : Jvm.MethodName) ∈ GT := gt_in (in_t6 (List.mem_of_getElem? (i := 166) rfl)) rfl
set_option maxRecDepth 20000 in
theorem wd_6_168 : Jvm.Cond.instanceMethod ({ cls := "ChipMapModel", name := "isFetch", desc := "(I)Z" } : Jvm.MethodName) ∈ GT := gt_in (in_t6 (List.mem_of_getElem? (i := 168) rfl)) rfl
set_option maxRecDepth 20000 in
theorem wd_6_169 : Jvm.Cond.code ({ cls := "ChipMapModel", name := "isFetch", desc := "(I)Z" } : Jvm.MethodName) prog_14_method_53_code (2 : Nat) (Option.some Jvm.ClassFile.FieldType.boolean) ∈ GT := gt_in (in_t6 (List.mem_of_getElem? (i := 169) rfl)) rfl
set_option maxRecDepth 20000 in
theorem wd_6_170 : Jvm.Cond.methodLink "ChipMapModel" (381 : Nat) ({ cls := "ChipMapModel", name := "doFetch", desc := "(I)V" } : Jvm.MethodName) ∈ GT := gt_in (in_t6 (List.mem_of_getElem? (i := 170) rfl)) rfl
set_option maxRecDepth 20000 in
theorem wd_6_172 : Jvm.Cond.instanceMethod ({ cls := "ChipMapModel", name := "doFetch", desc := "(I)V" } : Jvm.MethodName) ∈ GT := gt_in (in_t6 (List.mem_of_getElem? (i := 172) rfl)) rfl
set_option maxRecDepth 20000 in
theorem wd_6_173 : Jvm.Cond.code ({ cls := "ChipMapModel", name := "doFetch", desc := "(I)V" } : Jvm.MethodName) prog_14_method_54_code (2 : Nat) (Option.none : Option Jvm.ClassFile.FieldType) ∈ GT := gt_in (in_t6 (List.mem_of_getElem? (i := 173) rfl)) rfl
set_option maxRecDepth 20000 in
theorem wd_6_182 : Jvm.Cond.methodLink "ChipMapModel" (384 : Nat) ({ cls := "ChipMapModel", name := "flushRegister", desc := "(I)V" } : Jvm.MethodName) ∈ GT := gt_in (in_t6 (List.mem_of_getElem? (i := 182) rfl)) rfl
set_option maxRecDepth 20000 in
theorem wd_6_184 : Jvm.Cond.instanceMethod ({ cls := "ChipMapModel", name := "flushRegister", desc := "(I)V" } : Jvm.MethodName) ∈ GT := gt_in (in_t6 (List.mem_of_getElem? (i := 184) rfl)) rfl
set_option maxRecDepth 20000 in
theorem wd_6_185 : Jvm.Cond.code ({ cls := "ChipMapModel", name := "flushRegister", desc := "(I)V" } : Jvm.MethodName) prog_14_method_60_code (6 : Nat) (Option.none : Option Jvm.ClassFile.FieldType) ∈ GT := gt_in (in_t6 (List.mem_of_getElem? (i := 185) rfl)) rfl
set_option maxRecDepth 20000 in
theorem wd_6_206 : Jvm.Cond.methodLink "ChipMapModel" (402 : Nat) ({ cls := "ChipMapModel", name := "meet", desc := "(I)V" } : Jvm.MethodName) ∈ GT := gt_in (in_t6 (List.mem_of_getElem? (i := 206) rfl)) rfl
set_option maxRecDepth 20000 in
theorem wd_6_208 : Jvm.Cond.instanceMethod ({ cls := "ChipMapModel", name := "meet", desc := "(I)V" } : Jvm.MethodName) ∈ GT := gt_in (in_t6 (List.mem_of_getElem? (i := 208) rfl)) rfl
set_option maxRecDepth 20000 in
theorem wd_6_209 : Jvm.Cond.code ({ cls := "ChipMapModel", name := "meet", desc := "(I)V" } : Jvm.MethodName) prog_14_method_68_code (4 : Nat) (Option.none : Option Jvm.ClassFile.FieldType) ∈ GT := gt_in (in_t6 (List.mem_of_getElem? (i := 209) rfl)) rfl
set_option maxRecDepth 20000 in
theorem wd_6_210 : Jvm.Cond.methodLink "ChipMapModel" (393 : Nat) ({ cls := "ChipMapModel", name := "isSituation", desc := "(II)Z" } : Jvm.MethodName) ∈ GT := gt_in (in_t6 (List.mem_of_getElem? (i := 210) rfl)) rfl
set_option maxRecDepth 20000 in
theorem wd_6_212 : Jvm.Cond.instanceMethod ({ cls := "ChipMapModel", name := "isSituation", desc := "(II)Z" } : Jvm.MethodName) ∈ GT := gt_in (in_t6 (List.mem_of_getElem? (i := 212) rfl)) rfl
set_option maxRecDepth 20000 in
theorem wd_6_213 : Jvm.Cond.code ({ cls := "ChipMapModel", name := "isSituation", desc := "(II)Z" } : Jvm.MethodName) prog_14_method_67_code (4 : Nat) (Option.some Jvm.ClassFile.FieldType.boolean) ∈ GT := gt_in (in_t6 (List.mem_of_getElem? (i := 213) rfl)) rfl
set_option maxRecDepth 20000 in
theorem wd_6_214 : Jvm.Cond.methodLink "ChipMapModel" (387 : Nat) ({ cls := "ChipMapModel", name := "memoryWord", desc := "()I" } : Jvm.MethodName) ∈ GT := gt_in (in_t6 (List.mem_of_getElem? (i := 214) rfl)) rfl
set_option maxRecDepth 20000 in
theorem wd_6_216 : Jvm.Cond.instanceMethod ({ cls := "ChipMapModel", name := "memoryWord", desc := "()I" } : Jvm.MethodName) ∈ GT := gt_in (in_t6 (List.mem_of_getElem? (i := 216) rfl)) rfl
set_option maxRecDepth 20000 in
theorem wd_6_217 : Jvm.Cond.code ({ cls := "ChipMapModel", name := "memoryWord", desc := "()I" } : Jvm.MethodName) prog_14_method_66_code (3 : Nat) (Option.some Jvm.ClassFile.FieldType.int) ∈ GT := gt_in (in_t6 (List.mem_of_getElem? (i := 217) rfl)) rfl
set_option maxRecDepth 20000 in
theorem wd_6_218 : Jvm.Cond.methodLink "ChipMapModel" (408 : Nat) ({ cls := "ChipMapModel", name := "goOn", desc := "(I)V" } : Jvm.MethodName) ∈ GT := gt_in (in_t6 (List.mem_of_getElem? (i := 218) rfl)) rfl
set_option maxRecDepth 20000 in
theorem wd_6_220 : Jvm.Cond.instanceMethod ({ cls := "ChipMapModel", name := "goOn", desc := "(I)V" } : Jvm.MethodName) ∈ GT := gt_in (in_t6 (List.mem_of_getElem? (i := 220) rfl)) rfl
set_option maxRecDepth 20000 in
theorem wd_6_221 : Jvm.Cond.code ({ cls := "ChipMapModel", name := "goOn", desc := "(I)V" } : Jvm.MethodName) prog_14_method_70_code (3 : Nat) (Option.none : Option Jvm.ClassFile.FieldType) ∈ GT := gt_in (in_t6 (List.mem_of_getElem? (i := 221) rfl)) rfl
set_option maxRecDepth 20000 in
theorem wd_6_222 : Jvm.Cond.methodLink "ChipMapModel" (399 : Nat) ({ cls := "ChipMapModel", name := "stand", desc := "(I)V" } : Jvm.MethodName) ∈ GT := gt_in (in_t6 (List.mem_of_getElem? (i := 222) rfl)) rfl
set_option maxRecDepth 20000 in
theorem wd_6_224 : Jvm.Cond.instanceMethod ({ cls := "ChipMapModel", name := "stand", desc := "(I)V" } : Jvm.MethodName) ∈ GT := gt_in (in_t6 (List.mem_of_getElem? (i := 224) rfl)) rfl
set_option maxRecDepth 20000 in
theorem wd_6_225 : Jvm.Cond.code ({ cls := "ChipMapModel", name := "stand", desc := "(I)V" } : Jvm.MethodName) prog_14_method_69_code (3 : Nat) (Option.none : Option Jvm.ClassFile.FieldType) ∈ GT := gt_in (in_t6 (List.mem_of_getElem? (i := 225) rfl)) rfl
set_option maxRecDepth 20000 in
theorem sl__ChipMap____ChipMap___doStep____I_Z_____ChipMap___doStep____I_Z__ : Cond.selects "ChipMap" ⟨"ChipMap", "doStep", "(I)Z"⟩ ⟨"ChipMap", "doStep", "(I)Z"⟩ ∈ GT := gt_in (List.mem_append_left _ (List.mem_map.mpr ⟨(⟨"ChipMap", "doStep", "(I)Z"⟩, 9), by decide +kernel, rfl⟩)) rfl
set_option maxRecDepth 20000 in
theorem sl__ChipMap____ChipMap___doWrites_____I_____ChipMap___doWrites_____I__ : Cond.selects "ChipMap" ⟨"ChipMap", "doWrites", "()I"⟩ ⟨"ChipMap", "doWrites", "()I"⟩ ∈ GT := gt_in (List.mem_append_left _ (List.mem_map.mpr ⟨(⟨"ChipMap", "doWrites", "()I"⟩, 9), by decide +kernel, rfl⟩)) rfl
set_option maxRecDepth 20000 in
theorem sl__ChipMap____ChipMap___hasMap_____Z_____ChipMap___hasMap_____Z__ : Cond.selects "ChipMap" ⟨"ChipMap", "hasMap", "()Z"⟩ ⟨"ChipMap", "hasMap", "()Z"⟩ ∈ GT := gt_in (List.mem_append_left _ (List.mem_map.mpr ⟨(⟨"ChipMap", "hasMap", "()Z"⟩, 9), by decide +kernel, rfl⟩)) rfl
set_option maxRecDepth 20000 in
theorem sl__ChipMap____ChipMap___isStep____III_Z_____ChipMap___isStep____III_Z__ : Cond.selects "ChipMap" ⟨"ChipMap", "isStep", "(III)Z"⟩ ⟨"ChipMap", "isStep", "(III)Z"⟩ ∈ GT := gt_in (List.mem_append_left _ (List.mem_map.mpr ⟨(⟨"ChipMap", "isStep", "(III)Z"⟩, 9), by decide +kernel, rfl⟩)) rfl
set_option maxRecDepth 20000 in
theorem sl__ChipMap____ChipMap___reachForFetch____I_Z_____ChipMap___reachForFetch____I_Z__ : Cond.selects "ChipMap" ⟨"ChipMap", "reachForFetch", "(I)Z"⟩ ⟨"ChipMap", "reachForFetch", "(I)Z"⟩ ∈ GT := gt_in (List.mem_append_left _ (List.mem_map.mpr ⟨(⟨"ChipMap", "reachForFetch", "(I)Z"⟩, 9), by decide +kernel, rfl⟩)) rfl
set_option maxRecDepth 20000 in
theorem sl__ChipMap____ChipMap___readOut____I_I_____ChipMap___readOut____I_I__ : Cond.selects "ChipMap" ⟨"ChipMap", "readOut", "(I)I"⟩ ⟨"ChipMap", "readOut", "(I)I"⟩ ∈ GT := gt_in (List.mem_append_left _ (List.mem_map.mpr ⟨(⟨"ChipMap", "readOut", "(I)I"⟩, 9), by decide +kernel, rfl⟩)) rfl
set_option maxRecDepth 20000 in
theorem sl__ChipMap____ChipMap___startAgain_____V_____ChipMap___startAgain_____V__ : Cond.selects "ChipMap" ⟨"ChipMap", "startAgain", "()V"⟩ ⟨"ChipMap", "startAgain", "()V"⟩ ∈ GT := gt_in (List.mem_append_left _ (List.mem_map.mpr ⟨(⟨"ChipMap", "startAgain", "()V"⟩, 9), by decide +kernel, rfl⟩)) rfl
set_option maxRecDepth 20000 in
theorem sl__ChipMap_Checker____ChipMap_Checker___add____I_V_____ChipMap_Checker___add____I_V__ : Cond.selects "ChipMap$Checker" ⟨"ChipMap$Checker", "add", "(I)V"⟩ ⟨"ChipMap$Checker", "add", "(I)V"⟩ ∈ GT := gt_in (List.mem_append_left _ (List.mem_map.mpr ⟨(⟨"ChipMap$Checker", "add", "(I)V"⟩, 10), by decide +kernel, rfl⟩)) rfl
set_option maxRecDepth 20000 in
theorem sl__ChipMap_Checker____ChipMap_Checker___hashOfKey_____I_____ChipMap_Checker___hashOfKey_____I__ : Cond.selects "ChipMap$Checker" ⟨"ChipMap$Checker", "hashOfKey", "()I"⟩ ⟨"ChipMap$Checker", "hashOfKey", "()I"⟩ ∈ GT := gt_in (List.mem_append_left _ (List.mem_map.mpr ⟨(⟨"ChipMap$Checker", "hashOfKey", "()I"⟩, 10), by decide +kernel, rfl⟩)) rfl
set_option maxRecDepth 20000 in
theorem sl__ChipMap_Checker____ChipMap_Checker___isKey____I_Z_____ChipMap_Checker___isKey____I_Z__ : Cond.selects "ChipMap$Checker" ⟨"ChipMap$Checker", "isKey", "(I)Z"⟩ ⟨"ChipMap$Checker", "isKey", "(I)Z"⟩ ∈ GT := gt_in (List.mem_append_left _ (List.mem_map.mpr ⟨(⟨"ChipMap$Checker", "isKey", "(I)Z"⟩, 10), by decide +kernel, rfl⟩)) rfl
set_option maxRecDepth 20000 in
theorem sl__ChipMap_Checker____ChipMap_Checker___load____I_I_____ChipMap_Checker___load____I_I__ : Cond.selects "ChipMap$Checker" ⟨"ChipMap$Checker", "load", "(I)I"⟩ ⟨"ChipMap$Checker", "load", "(I)I"⟩ ∈ GT := gt_in (List.mem_append_left _ (List.mem_map.mpr ⟨(⟨"ChipMap$Checker", "load", "(I)I"⟩, 10), by decide +kernel, rfl⟩)) rfl
set_option maxRecDepth 20000 in
theorem sl__ChipMap_Checker____ChipMap_Checker___makeKey____I_V_____ChipMap_Checker___makeKey____I_V__ : Cond.selects "ChipMap$Checker" ⟨"ChipMap$Checker", "makeKey", "(I)V"⟩ ⟨"ChipMap$Checker", "makeKey", "(I)V"⟩ ∈ GT := gt_in (List.mem_append_left _ (List.mem_map.mpr ⟨(⟨"ChipMap$Checker", "makeKey", "(I)V"⟩, 10), by decide +kernel, rfl⟩)) rfl
set_option maxRecDepth 20000 in
theorem sl__ChipMap_Checker____ChipMap_Checker___meet____I_V_____ChipMap_Checker___meet____I_V__ : Cond.selects "ChipMap$Checker" ⟨"ChipMap$Checker", "meet", "(I)V"⟩ ⟨"ChipMap$Checker", "meet", "(I)V"⟩ ∈ GT := gt_in (List.mem_append_left _ (List.mem_map.mpr ⟨(⟨"ChipMap$Checker", "meet", "(I)V"⟩, 10), by decide +kernel, rfl⟩)) rfl
set_option maxRecDepth 20000 in
theorem sl__ChipMap_Checker____ChipMap_Checker___tell____II_V_____ChipMap_Checker___tell____II_V__ : Cond.selects "ChipMap$Checker" ⟨"ChipMap$Checker", "tell", "(II)V"⟩ ⟨"ChipMap$Checker", "tell", "(II)V"⟩ ∈ GT := gt_in (List.mem_append_left _ (List.mem_map.mpr ⟨(⟨"ChipMap$Checker", "tell", "(II)V"⟩, 10), by decide +kernel, rfl⟩)) rfl
set_option maxRecDepth 20000 in
theorem sl__ChipMap_Device____ChipMap_Device___countPulses____I_V_____ChipMap_Device___countPulses____I_V__ : Cond.selects "ChipMap$Device" ⟨"ChipMap$Device", "countPulses", "(I)V"⟩ ⟨"ChipMap$Device", "countPulses", "(I)V"⟩ ∈ GT := gt_in (List.mem_append_left _ (List.mem_map.mpr ⟨(⟨"ChipMap$Device", "countPulses", "(I)V"⟩, 7), by decide +kernel, rfl⟩)) rfl
set_option maxRecDepth 20000 in
theorem sl__ChipMap_Device____ChipMap_Device___startPulses____II_V_____ChipMap_Device___startPulses____II_V__ : Cond.selects "ChipMap$Device" ⟨"ChipMap$Device", "startPulses", "(II)V"⟩ ⟨"ChipMap$Device", "startPulses", "(II)V"⟩ ∈ GT := gt_in (List.mem_append_left _ (List.mem_map.mpr ⟨(⟨"ChipMap$Device", "startPulses", "(II)V"⟩, 7), by decide +kernel, rfl⟩)) rfl
set_option maxRecDepth 20000 in
theorem sl__ChipMap_Judge____ChipMap_Judge___areApart____II_Z_____ChipMap_Judge___areApart____II_Z__ : Cond.selects "ChipMap$Judge" ⟨"ChipMap$Judge", "areApart", "(II)Z"⟩ ⟨"ChipMap$Judge", "areApart", "(II)Z"⟩ ∈ GT := gt_in (List.mem_append_left _ (List.mem_map.mpr ⟨(⟨"ChipMap$Judge", "areApart", "(II)Z"⟩, 3), by decide +kernel, rfl⟩)) rfl
set_option maxRecDepth 20000 in
theorem sl__ChipMap_Judge____ChipMap_Judge___badBank_____I_____ChipMap_Judge___badBank_____I__ : Cond.selects "ChipMap$Judge" ⟨"ChipMap$Judge", "badBank", "()I"⟩ ⟨"ChipMap$Judge", "badBank", "()I"⟩ ∈ GT := gt_in (List.mem_append_left _ (List.mem_map.mpr ⟨(⟨"ChipMap$Judge", "badBank", "()I"⟩, 3), by decide +kernel, rfl⟩)) rfl
set_option maxRecDepth 20000 in
theorem sl__ChipMap_Judge____ChipMap_Judge___badField_____I_____ChipMap_Judge___badField_____I__ : Cond.selects "ChipMap$Judge" ⟨"ChipMap$Judge", "badField", "()I"⟩ ⟨"ChipMap$Judge", "badField", "()I"⟩ ∈ GT := gt_in (List.mem_append_left _ (List.mem_map.mpr ⟨(⟨"ChipMap$Judge", "badField", "()I"⟩, 3), by decide +kernel, rfl⟩)) rfl
set_option maxRecDepth 20000 in
theorem sl__ChipMap_Judge____ChipMap_Judge___badOffset_____I_____ChipMap_Judge___badOffset_____I__ : Cond.selects "ChipMap$Judge" ⟨"ChipMap$Judge", "badOffset", "()I"⟩ ⟨"ChipMap$Judge", "badOffset", "()I"⟩ ∈ GT := gt_in (List.mem_append_left _ (List.mem_map.mpr ⟨(⟨"ChipMap$Judge", "badOffset", "()I"⟩, 3), by decide +kernel, rfl⟩)) rfl
set_option maxRecDepth 20000 in
theorem sl__ChipMap_Judge____ChipMap_Judge___badRule_____I_____ChipMap_Judge___badRule_____I__ : Cond.selects "ChipMap$Judge" ⟨"ChipMap$Judge", "badRule", "()I"⟩ ⟨"ChipMap$Judge", "badRule", "()I"⟩ ∈ GT := gt_in (List.mem_append_left _ (List.mem_map.mpr ⟨(⟨"ChipMap$Judge", "badRule", "()I"⟩, 3), by decide +kernel, rfl⟩)) rfl
set_option maxRecDepth 20000 in
theorem sl__ChipMap_Judge____ChipMap_Judge___canBeBank____II_Z_____ChipMap_Judge___canBeBank____II_Z__ : Cond.selects "ChipMap$Judge" ⟨"ChipMap$Judge", "canBeBank", "(II)Z"⟩ ⟨"ChipMap$Judge", "canBeBank", "(II)Z"⟩ ∈ GT := gt_in (List.mem_append_left _ (List.mem_map.mpr ⟨(⟨"ChipMap$Judge", "canBeBank", "(II)Z"⟩, 3), by decide +kernel, rfl⟩)) rfl
set_option maxRecDepth 20000 in
theorem sl__ChipMap_Judge____ChipMap_Judge___isKnown____I_Z_____ChipMap_Judge___isKnown____I_Z__ : Cond.selects "ChipMap$Judge" ⟨"ChipMap$Judge", "isKnown", "(I)Z"⟩ ⟨"ChipMap$Judge", "isKnown", "(I)Z"⟩ ∈ GT := gt_in (List.mem_append_left _ (List.mem_map.mpr ⟨(⟨"ChipMap$Judge", "isKnown", "(I)Z"⟩, 3), by decide +kernel, rfl⟩)) rfl
set_option maxRecDepth 20000 in
theorem sl__ChipMap_Judge____ChipMap_Judge___isWritable____I_Z_____ChipMap_Judge___isWritable____I_Z__ : Cond.selects "ChipMap$Judge" ⟨"ChipMap$Judge", "isWritable", "(I)Z"⟩ ⟨"ChipMap$Judge", "isWritable", "(I)Z"⟩ ∈ GT := gt_in (List.mem_append_left _ (List.mem_map.mpr ⟨(⟨"ChipMap$Judge", "isWritable", "(I)Z"⟩, 3), by decide +kernel, rfl⟩)) rfl
set_option maxRecDepth 20000 in
theorem sl__ChipMap_Mind____ChipMap_Mind___isWritten____III_Z_____ChipMap_Mind___isWritten____III_Z__ : Cond.selects "ChipMap$Mind" ⟨"ChipMap$Mind", "isWritten", "(III)Z"⟩ ⟨"ChipMap$Mind", "isWritten", "(III)Z"⟩ ∈ GT := gt_in (List.mem_append_left _ (List.mem_map.mpr ⟨(⟨"ChipMap$Mind", "isWritten", "(III)Z"⟩, 3), by decide +kernel, rfl⟩)) rfl
set_option maxRecDepth 20000 in
theorem sl__ChipMap_Plan____ChipMap_Plan___addReach____I_V_____ChipMap_Plan___addReach____I_V__ : Cond.selects "ChipMap$Plan" ⟨"ChipMap$Plan", "addReach", "(I)V"⟩ ⟨"ChipMap$Plan", "addReach", "(I)V"⟩ ∈ GT := gt_in (List.mem_append_left _ (List.mem_map.mpr ⟨(⟨"ChipMap$Plan", "addReach", "(I)V"⟩, 6), by decide +kernel, rfl⟩)) rfl
set_option maxRecDepth 20000 in
theorem sl__ChipMap_Plan____ChipMap_Plan___addRegister____LChipMap_Steps_I_V_____ChipMap_Plan___addRegister____LChipMap_Steps_I_V__ : Cond.selects "ChipMap$Plan" ⟨"ChipMap$Plan", "addRegister", "(LChipMap$Steps;I)V"⟩ ⟨"ChipMap$Plan", "addRegister", "(LChipMap$Steps;I)V"⟩ ∈ GT := gt_in (List.mem_append_left _ (List.mem_map.mpr ⟨(⟨"ChipMap$Plan", "addRegister", "(LChipMap$Steps;I)V"⟩, 6), by decide +kernel, rfl⟩)) rfl
set_option maxRecDepth 20000 in
theorem sl__ChipMap_Plan____ChipMap_Plan___addTold____III_V_____ChipMap_Plan___addTold____III_V__ : Cond.selects "ChipMap$Plan" ⟨"ChipMap$Plan", "addTold", "(III)V"⟩ ⟨"ChipMap$Plan", "addTold", "(III)V"⟩ ∈ GT := gt_in (List.mem_append_left _ (List.mem_map.mpr ⟨(⟨"ChipMap$Plan", "addTold", "(III)V"⟩, 6), by decide +kernel, rfl⟩)) rfl
set_option maxRecDepth 20000 in
theorem sl__ChipMap_Plan____ChipMap_Plan___isFirstOfRegister____LChipMap_Steps_I_Z_____ChipMap_Plan___isFirstOfRegister____LChipMap_Steps_I_Z__ : Cond.selects "ChipMap$Plan" ⟨"ChipMap$Plan", "isFirstOfRegister", "(LChipMap$Steps;I)Z"⟩ ⟨"ChipMap$Plan", "isFirstOfRegister", "(LChipMap$Steps;I)Z"⟩ ∈ GT := gt_in (List.mem_append_left _ (List.mem_map.mpr ⟨(⟨"ChipMap$Plan", "isFirstOfRegister", "(LChipMap$Steps;I)Z"⟩, 6), by decide +kernel, rfl⟩)) rfl
set_option maxRecDepth 20000 in
theorem sl__ChipMap_Reader____ChipMap_Reader___name_____I_____ChipMap_Reader___name_____I__ : Cond.selects "ChipMap$Reader" ⟨"ChipMap$Reader", "name", "()I"⟩ ⟨"ChipMap$Reader", "name", "()I"⟩ ∈ GT := gt_in (List.mem_append_left _ (List.mem_map.mpr ⟨(⟨"ChipMap$Reader", "name", "()I"⟩, 4), by decide +kernel, rfl⟩)) rfl
set_option maxRecDepth 20000 in
theorem sl__ChipMap_Reader____ChipMap_Reader___next_____C_____ChipMap_Reader___next_____C__ : Cond.selects "ChipMap$Reader" ⟨"ChipMap$Reader", "next", "()C"⟩ ⟨"ChipMap$Reader", "next", "()C"⟩ ∈ GT := gt_in (List.mem_append_left _ (List.mem_map.mpr ⟨(⟨"ChipMap$Reader", "next", "()C"⟩, 4), by decide +kernel, rfl⟩)) rfl
