set_option maxRecDepth 20000 in
theorem wd_0_1 : Jvm.Cond.initialized "ChipMap" ∈ GT := gt_in (in_t0 (List.mem_of_getElem? (i := 1) rfl)) rfl
set_option maxRecDepth 20000 in
theorem wd_0_2 : Jvm.Cond.initialized "ChipMap$Draft" ∈ GT := gt_in (in_t0 (List.mem_of_getElem? (i := 2) rfl)) rfl
set_option maxRecDepth 20000 in
theorem wd_0_3 : Jvm.Cond.initialized "ChipMap$Rules" ∈ GT := gt_in (in_t0 (List.mem_of_getElem? (i := 3) rfl)) rfl
set_option maxRecDepth 20000 in
theorem wd_0_4 : Jvm.Cond.initialized "ChipMap$Reader" ∈ GT := gt_in (in_t0 (List.mem_of_getElem? (i := 4) rfl)) rfl
set_option maxRecDepth 20000 in
theorem wd_0_5 : Jvm.Cond.initialized "ChipMap$Judge" ∈ GT := gt_in (in_t0 (List.mem_of_getElem? (i := 5) rfl)) rfl
set_option maxRecDepth 20000 in
theorem wd_0_6 : Jvm.Cond.initialized "ChipMap$Layout" ∈ GT := gt_in (in_t0 (List.mem_of_getElem? (i := 6) rfl)) rfl
set_option maxRecDepth 20000 in
theorem wd_0_7 : Jvm.Cond.initialized "java/lang/String" ∈ GT := gt_in (in_t0 (List.mem_of_getElem? (i := 7) rfl)) rfl
set_option maxRecDepth 20000 in
theorem wd_0_8 : Jvm.Cond.initialized "java/util/Arrays" ∈ GT := gt_in (in_t0 (List.mem_of_getElem? (i := 8) rfl)) rfl
set_option maxRecDepth 20000 in
theorem wd_0_9 : Jvm.Cond.initialized "ChipMap$Device" ∈ GT := gt_in (in_t0 (List.mem_of_getElem? (i := 9) rfl)) rfl
set_option maxRecDepth 20000 in
theorem wd_0_10 : Jvm.Cond.initialized "ChipMap$Log" ∈ GT := gt_in (in_t0 (List.mem_of_getElem? (i := 10) rfl)) rfl
set_option maxRecDepth 20000 in
theorem wd_0_11 : Jvm.Cond.initialized "ChipMap$Mind" ∈ GT := gt_in (in_t0 (List.mem_of_getElem? (i := 11) rfl)) rfl
set_option maxRecDepth 20000 in
theorem wd_0_12 : Jvm.Cond.initialized "ChipMap$Plan" ∈ GT := gt_in (in_t0 (List.mem_of_getElem? (i := 12) rfl)) rfl
set_option maxRecDepth 20000 in
theorem wd_0_13 : Jvm.Cond.initialized "ChipMap$Steps" ∈ GT := gt_in (in_t0 (List.mem_of_getElem? (i := 13) rfl)) rfl
set_option maxRecDepth 20000 in
theorem wd_0_14 : Jvm.Cond.initialized "ChipMap$Checker" ∈ GT := gt_in (in_t0 (List.mem_of_getElem? (i := 14) rfl)) rfl
set_option maxRecDepth 20000 in
theorem wd_0_15 : Jvm.Cond.initialized "ChipMapModel" ∈ GT := gt_in (in_t0 (List.mem_of_getElem? (i := 15) rfl)) rfl
set_option maxRecDepth 20000 in
theorem wd_0_16 : Jvm.Cond.initialized "java/lang/StringLatin1" ∈ GT := gt_in (in_t0 (List.mem_of_getElem? (i := 16) rfl)) rfl
set_option maxRecDepth 20000 in
theorem wd_0_17 : Jvm.Cond.initialized "java/lang/Math" ∈ GT := gt_in (in_t0 (List.mem_of_getElem? (i := 17) rfl)) rfl
set_option maxRecDepth 20000 in
theorem wd_0_25 : Jvm.Cond.initialized "java/lang/System" ∈ GT := gt_in (in_t0 (List.mem_of_getElem? (i := 25) rfl)) rfl
set_option maxRecDepth 20000 in
theorem wd_0_26 : Jvm.Cond.initialized "java/lang/Integer" ∈ GT := gt_in (in_t0 (List.mem_of_getElem? (i := 26) rfl)) rfl
set_option maxRecDepth 20000 in
theorem wd_0_49 : Jvm.Cond.fieldLink "ChipMap$Rules" (30 : Nat) "ChipMap$Rules" "count" "I" ∈ GT := gt_in (in_t0 (List.mem_of_getElem? (i := 49) rfl)) rfl
set_option maxRecDepth 20000 in
theorem wd_0_50 : Jvm.Cond.fieldLink "ChipMap$Draft" (62 : Nat) "ChipMap$Rules" "count" "I" ∈ GT := gt_in (in_t0 (List.mem_of_getElem? (i := 50) rfl)) rfl
set_option maxRecDepth 20000 in
theorem wd_0_51 : Jvm.Cond.fieldLink "ChipMap$Mind" (58 : Nat) "ChipMap$Rules" "count" "I" ∈ GT := gt_in (in_t0 (List.mem_of_getElem? (i := 51) rfl)) rfl
set_option maxRecDepth 20000 in
theorem wd_0_52 : Jvm.Cond.fieldLink "ChipMap$Reader" (60 : Nat) "ChipMap$Rules" "count" "I" ∈ GT := gt_in (in_t0 (List.mem_of_getElem? (i := 52) rfl)) rfl
set_option maxRecDepth 20000 in
theorem wd_0_53 : Jvm.Cond.fieldLink "ChipMap$Judge" (97 : Nat) "ChipMap$Rules" "count" "I" ∈ GT := gt_in (in_t0 (List.mem_of_getElem? (i := 53) rfl)) rfl
set_option maxRecDepth 20000 in
theorem wd_0_54 : Jvm.Cond.fieldLink "ChipMap" (274 : Nat) "ChipMap$Rules" "count" "I" ∈ GT := gt_in (in_t0 (List.mem_of_getElem? (i := 54) rfl)) rfl
set_option maxRecDepth 20000 in
theorem wd_0_55 : Jvm.Cond.fieldLink "ChipMap$Rules" (9 : Nat) "ChipMap$Rules" "kind" "[I" ∈ GT := gt_in (in_t0 (List.mem_of_getElem? (i := 55) rfl)) rfl
set_option maxRecDepth 20000 in
theorem wd_0_56 : Jvm.Cond.fieldLink "ChipMap$Mind" (63 : Nat) "ChipMap$Rules" "kind" "[I" ∈ GT := gt_in (in_t0 (List.mem_of_getElem? (i := 56) rfl)) rfl
set_option maxRecDepth 20000 in
theorem wd_0_57 : Jvm.Cond.fieldLink "ChipMap$Judge" (115 : Nat) "ChipMap$Rules" "kind" "[I" ∈ GT := gt_in (in_t0 (List.mem_of_getElem? (i := 57) rfl)) rfl
set_option maxRecDepth 20000 in
theorem wd_0_58 : Jvm.Cond.fieldLink "ChipMap$Reader" (137 : Nat) "ChipMap$Rules" "kind" "[I" ∈ GT := gt_in (in_t0 (List.mem_of_getElem? (i := 58) rfl)) rfl
set_option maxRecDepth 20000 in
theorem wd_0_59 : Jvm.Cond.fieldLink "ChipMap$Rules" (15 : Nat) "ChipMap$Rules" "a" "[I" ∈ GT := gt_in (in_t0 (List.mem_of_getElem? (i := 59) rfl)) rfl
set_option maxRecDepth 20000 in
theorem wd_0_60 : Jvm.Cond.fieldLink "ChipMap$Mind" (73 : Nat) "ChipMap$Rules" "a" "[I" ∈ GT := gt_in (in_t0 (List.mem_of_getElem? (i := 60) rfl)) rfl
set_option maxRecDepth 20000 in
theorem wd_0_61 : Jvm.Cond.fieldLink "ChipMap$Judge" (102 : Nat) "ChipMap$Rules" "a" "[I" ∈ GT := gt_in (in_t0 (List.mem_of_getElem? (i := 61) rfl)) rfl
set_option maxRecDepth 20000 in
theorem wd_0_62 : Jvm.Cond.fieldLink "ChipMap$Reader" (134 : Nat) "ChipMap$Rules" "a" "[I" ∈ GT := gt_in (in_t0 (List.mem_of_getElem? (i := 62) rfl)) rfl
set_option maxRecDepth 20000 in
theorem wd_0_63 : Jvm.Cond.fieldLink "ChipMap$Rules" (18 : Nat) "ChipMap$Rules" "b" "[I" ∈ GT := gt_in (in_t0 (List.mem_of_getElem? (i := 63) rfl)) rfl
set_option maxRecDepth 20000 in
theorem wd_0_64 : Jvm.Cond.fieldLink "ChipMap$Mind" (66 : Nat) "ChipMap$Rules" "b" "[I" ∈ GT := gt_in (in_t0 (List.mem_of_getElem? (i := 64) rfl)) rfl
set_option maxRecDepth 20000 in
theorem wd_0_65 : Jvm.Cond.fieldLink "ChipMap$Judge" (112 : Nat) "ChipMap$Rules" "b" "[I" ∈ GT := gt_in (in_t0 (List.mem_of_getElem? (i := 65) rfl)) rfl
set_option maxRecDepth 20000 in
theorem wd_0_66 : Jvm.Cond.fieldLink "ChipMap$Reader" (145 : Nat) "ChipMap$Rules" "b" "[I" ∈ GT := gt_in (in_t0 (List.mem_of_getElem? (i := 66) rfl)) rfl
set_option maxRecDepth 20000 in
theorem wd_0_67 : Jvm.Cond.fieldLink "ChipMap$Rules" (21 : Nat) "ChipMap$Rules" "value" "[I" ∈ GT := gt_in (in_t0 (List.mem_of_getElem? (i := 67) rfl)) rfl
set_option maxRecDepth 20000 in
theorem wd_0_68 : Jvm.Cond.fieldLink "ChipMap$Mind" (76 : Nat) "ChipMap$Rules" "value" "[I" ∈ GT := gt_in (in_t0 (List.mem_of_getElem? (i := 68) rfl)) rfl
set_option maxRecDepth 20000 in
theorem wd_0_69 : Jvm.Cond.fieldLink "ChipMap$Judge" (120 : Nat) "ChipMap$Rules" "value" "[I" ∈ GT := gt_in (in_t0 (List.mem_of_getElem? (i := 69) rfl)) rfl
set_option maxRecDepth 20000 in
theorem wd_0_70 : Jvm.Cond.fieldLink "ChipMap$Reader" (148 : Nat) "ChipMap$Rules" "value" "[I" ∈ GT := gt_in (in_t0 (List.mem_of_getElem? (i := 70) rfl)) rfl
set_option maxRecDepth 20000 in
theorem wd_0_72 : Jvm.Cond.fieldLink "ChipMap$Judge" (109 : Nat) "ChipMap$Rules" "placeOfA" "[I" ∈ GT := gt_in (in_t0 (List.mem_of_getElem? (i := 72) rfl)) rfl
set_option maxRecDepth 20000 in
theorem wd_0_73 : Jvm.Cond.fieldLink "ChipMap$Reader" (131 : Nat) "ChipMap$Rules" "placeOfA" "[I" ∈ GT := gt_in (in_t0 (List.mem_of_getElem? (i := 73) rfl)) rfl
set_option maxRecDepth 20000 in
theorem wd_0_75 : Jvm.Cond.fieldLink "ChipMap$Judge" (121 : Nat) "ChipMap$Rules" "placeOfB" "[I" ∈ GT := gt_in (in_t0 (List.mem_of_getElem? (i := 75) rfl)) rfl
set_option maxRecDepth 20000 in
theorem wd_0_76 : Jvm.Cond.fieldLink "ChipMap$Reader" (142 : Nat) "ChipMap$Rules" "placeOfB" "[I" ∈ GT := gt_in (in_t0 (List.mem_of_getElem? (i := 76) rfl)) rfl
set_option maxRecDepth 20000 in
theorem wd_0_77 : Jvm.Cond.lays "ChipMap$Rules" "ChipMap$Rules" "count" "I" ∈ GT := gt_in (in_t0 (List.mem_of_getElem? (i := 77) rfl)) rfl
set_option maxRecDepth 20000 in
theorem wd_0_79 : Jvm.Cond.laysFinal "ChipMap$Rules" "ChipMap$Rules" "kind" "[I" ∈ GT := gt_in (in_t0 (List.mem_of_getElem? (i := 79) rfl)) rfl
set_option maxRecDepth 20000 in
theorem wd_0_81 : Jvm.Cond.laysFinal "ChipMap$Rules" "ChipMap$Rules" "a" "[I" ∈ GT := gt_in (in_t0 (List.mem_of_getElem? (i := 81) rfl)) rfl
set_option maxRecDepth 20000 in
theorem wd_0_83 : Jvm.Cond.laysFinal "ChipMap$Rules" "ChipMap$Rules" "b" "[I" ∈ GT := gt_in (in_t0 (List.mem_of_getElem? (i := 83) rfl)) rfl
set_option maxRecDepth 20000 in
theorem wd_0_85 : Jvm.Cond.laysFinal "ChipMap$Rules" "ChipMap$Rules" "value" "[I" ∈ GT := gt_in (in_t0 (List.mem_of_getElem? (i := 85) rfl)) rfl
set_option maxRecDepth 20000 in
theorem wd_0_87 : Jvm.Cond.laysFinal "ChipMap$Rules" "ChipMap$Rules" "placeOfA" "[I" ∈ GT := gt_in (in_t0 (List.mem_of_getElem? (i := 87) rfl)) rfl
set_option maxRecDepth 20000 in
theorem wd_0_89 : Jvm.Cond.laysFinal "ChipMap$Rules" "ChipMap$Rules" "placeOfB" "[I" ∈ GT := gt_in (in_t0 (List.mem_of_getElem? (i := 89) rfl)) rfl
set_option maxRecDepth 20000 in
theorem wd_0_93 : Jvm.Cond.fieldLink "ChipMap$Draft" (55 : Nat) "ChipMap$Draft" "registers" "I" ∈ GT := gt_in (in_t0 (List.mem_of_getElem? (i := 93) rfl)) rfl
set_option maxRecDepth 20000 in
theorem wd_0_94 : Jvm.Cond.fieldLink "ChipMap$Layout" (68 : Nat) "ChipMap$Draft" "registers" "I" ∈ GT := gt_in (in_t0 (List.mem_of_getElem? (i := 94) rfl)) rfl
set_option maxRecDepth 20000 in
theorem wd_0_95 : Jvm.Cond.fieldLink "ChipMap$Judge" (66 : Nat) "ChipMap$Draft" "registers" "I" ∈ GT := gt_in (in_t0 (List.mem_of_getElem? (i := 95) rfl)) rfl
set_option maxRecDepth 20000 in
theorem wd_0_96 : Jvm.Cond.fieldLink "ChipMap$Reader" (50 : Nat) "ChipMap$Draft" "registers" "I" ∈ GT := gt_in (in_t0 (List.mem_of_getElem? (i := 96) rfl)) rfl
set_option maxRecDepth 20000 in
theorem wd_0_98 : Jvm.Cond.fieldLink "ChipMap$Judge" (90 : Nat) "ChipMap$Draft" "registerPlace" "[I" ∈ GT := gt_in (in_t0 (List.mem_of_getElem? (i := 98) rfl)) rfl
set_option maxRecDepth 20000 in
theorem wd_0_99 : Jvm.Cond.fieldLink "ChipMap$Reader" (65 : Nat) "ChipMap$Draft" "registerPlace" "[I" ∈ GT := gt_in (in_t0 (List.mem_of_getElem? (i := 99) rfl)) rfl
set_option maxRecDepth 20000 in
theorem wd_0_101 : Jvm.Cond.fieldLink "ChipMap$Layout" (75 : Nat) "ChipMap$Draft" "offset" "[I" ∈ GT := gt_in (in_t0 (List.mem_of_getElem? (i := 101) rfl)) rfl
set_option maxRecDepth 20000 in
theorem wd_0_102 : Jvm.Cond.fieldLink "ChipMap$Judge" (84 : Nat) "ChipMap$Draft" "offset" "[I" ∈ GT := gt_in (in_t0 (List.mem_of_getElem? (i := 102) rfl)) rfl
set_option maxRecDepth 20000 in
theorem wd_0_103 : Jvm.Cond.fieldLink "ChipMap$Reader" (73 : Nat) "ChipMap$Draft" "offset" "[I" ∈ GT := gt_in (in_t0 (List.mem_of_getElem? (i := 103) rfl)) rfl
set_option maxRecDepth 20000 in
theorem wd_0_105 : Jvm.Cond.fieldLink "ChipMap$Layout" (82 : Nat) "ChipMap$Draft" "bank" "[I" ∈ GT := gt_in (in_t0 (List.mem_of_getElem? (i := 105) rfl)) rfl
set_option maxRecDepth 20000 in
theorem wd_0_106 : Jvm.Cond.fieldLink "ChipMap$Judge" (69 : Nat) "ChipMap$Draft" "bank" "[I" ∈ GT := gt_in (in_t0 (List.mem_of_getElem? (i := 106) rfl)) rfl
set_option maxRecDepth 20000 in
theorem wd_0_107 : Jvm.Cond.fieldLink "ChipMap$Reader" (86 : Nat) "ChipMap$Draft" "bank" "[I" ∈ GT := gt_in (in_t0 (List.mem_of_getElem? (i := 107) rfl)) rfl
set_option maxRecDepth 20000 in
theorem wd_0_109 : Jvm.Cond.fieldLink "ChipMap$Judge" (78 : Nat) "ChipMap$Draft" "bankPlace" "[I" ∈ GT := gt_in (in_t0 (List.mem_of_getElem? (i := 109) rfl)) rfl
set_option maxRecDepth 20000 in
theorem wd_0_110 : Jvm.Cond.fieldLink "ChipMap$Reader" (89 : Nat) "ChipMap$Draft" "bankPlace" "[I" ∈ GT := gt_in (in_t0 (List.mem_of_getElem? (i := 110) rfl)) rfl
set_option maxRecDepth 20000 in
theorem wd_0_112 : Jvm.Cond.fieldLink "ChipMap$Layout" (83 : Nat) "ChipMap$Draft" "digit" "[I" ∈ GT := gt_in (in_t0 (List.mem_of_getElem? (i := 112) rfl)) rfl
set_option maxRecDepth 20000 in
theorem wd_0_113 : Jvm.Cond.fieldLink "ChipMap$Judge" (72 : Nat) "ChipMap$Draft" "digit" "[I" ∈ GT := gt_in (in_t0 (List.mem_of_getElem? (i := 113) rfl)) rfl
set_option maxRecDepth 20000 in
theorem wd_0_114 : Jvm.Cond.fieldLink "ChipMap$Reader" (96 : Nat) "ChipMap$Draft" "digit" "[I" ∈ GT := gt_in (in_t0 (List.mem_of_getElem? (i := 114) rfl)) rfl
set_option maxRecDepth 20000 in
theorem wd_0_115 : Jvm.Cond.fieldLink "ChipMap$Draft" (59 : Nat) "ChipMap$Draft" "fields" "I" ∈ GT := gt_in (in_t0 (List.mem_of_getElem? (i := 115) rfl)) rfl
set_option maxRecDepth 20000 in
theorem wd_0_116 : Jvm.Cond.fieldLink "ChipMap$Layout" (89 : Nat) "ChipMap$Draft" "fields" "I" ∈ GT := gt_in (in_t0 (List.mem_of_getElem? (i := 116) rfl)) rfl
set_option maxRecDepth 20000 in
theorem wd_0_117 : Jvm.Cond.fieldLink "ChipMap$Judge" (35 : Nat) "ChipMap$Draft" "fields" "I" ∈ GT := gt_in (in_t0 (List.mem_of_getElem? (i := 117) rfl)) rfl
set_option maxRecDepth 20000 in
theorem wd_0_118 : Jvm.Cond.fieldLink "ChipMap$Reader" (99 : Nat) "ChipMap$Draft" "fields" "I" ∈ GT := gt_in (in_t0 (List.mem_of_getElem? (i := 118) rfl)) rfl
set_option maxRecDepth 20000 in
theorem wd_0_119 : Jvm.Cond.fieldLink "ChipMap$Draft" (27 : Nat) "ChipMap$Draft" "name" "[I" ∈ GT := gt_in (in_t0 (List.mem_of_getElem? (i := 119) rfl)) rfl
set_option maxRecDepth 20000 in
theorem wd_0_120 : Jvm.Cond.fieldLink "ChipMap$Layout" (96 : Nat) "ChipMap$Draft" "name" "[I" ∈ GT := gt_in (in_t0 (List.mem_of_getElem? (i := 120) rfl)) rfl
set_option maxRecDepth 20000 in
theorem wd_0_121 : Jvm.Cond.fieldLink "ChipMap$Judge" (50 : Nat) "ChipMap$Draft" "name" "[I" ∈ GT := gt_in (in_t0 (List.mem_of_getElem? (i := 121) rfl)) rfl
set_option maxRecDepth 20000 in
theorem wd_0_122 : Jvm.Cond.fieldLink "ChipMap$Reader" (108 : Nat) "ChipMap$Draft" "name" "[I" ∈ GT := gt_in (in_t0 (List.mem_of_getElem? (i := 122) rfl)) rfl
set_option maxRecDepth 20000 in
theorem wd_0_124 : Jvm.Cond.fieldLink "ChipMap$Judge" (64 : Nat) "ChipMap$Draft" "place" "[I" ∈ GT := gt_in (in_t0 (List.mem_of_getElem? (i := 124) rfl)) rfl
set_option maxRecDepth 20000 in
theorem wd_0_125 : Jvm.Cond.fieldLink "ChipMap$Reader" (105 : Nat) "ChipMap$Draft" "place" "[I" ∈ GT := gt_in (in_t0 (List.mem_of_getElem? (i := 125) rfl)) rfl
set_option maxRecDepth 20000 in
theorem wd_0_127 : Jvm.Cond.fieldLink "ChipMap$Layout" (99 : Nat) "ChipMap$Draft" "home" "[I" ∈ GT := gt_in (in_t0 (List.mem_of_getElem? (i := 127) rfl)) rfl
set_option maxRecDepth 20000 in
theorem wd_0_128 : Jvm.Cond.fieldLink "ChipMap$Judge" (40 : Nat) "ChipMap$Draft" "home" "[I" ∈ GT := gt_in (in_t0 (List.mem_of_getElem? (i := 128) rfl)) rfl
set_option maxRecDepth 20000 in
theorem wd_0_129 : Jvm.Cond.fieldLink "ChipMap$Reader" (102 : Nat) "ChipMap$Draft" "home" "[I" ∈ GT := gt_in (in_t0 (List.mem_of_getElem? (i := 129) rfl)) rfl
set_option maxRecDepth 20000 in
theorem wd_0_131 : Jvm.Cond.fieldLink "ChipMap$Layout" (100 : Nat) "ChipMap$Draft" "access" "[I" ∈ GT := gt_in (in_t0 (List.mem_of_getElem? (i := 131) rfl)) rfl
set_option maxRecDepth 20000 in
theorem wd_0_132 : Jvm.Cond.fieldLink "ChipMap$Judge" (81 : Nat) "ChipMap$Draft" "access" "[I" ∈ GT := gt_in (in_t0 (List.mem_of_getElem? (i := 132) rfl)) rfl
set_option maxRecDepth 20000 in
theorem wd_0_133 : Jvm.Cond.fieldLink "ChipMap$Reader" (110 : Nat) "ChipMap$Draft" "access" "[I" ∈ GT := gt_in (in_t0 (List.mem_of_getElem? (i := 133) rfl)) rfl
set_option maxRecDepth 20000 in
theorem wd_0_134 : Jvm.Cond.fieldLink "ChipMap$Draft" (39 : Nat) "ChipMap$Draft" "high" "[I" ∈ GT := gt_in (in_t0 (List.mem_of_getElem? (i := 134) rfl)) rfl
set_option maxRecDepth 20000 in
theorem wd_0_135 : Jvm.Cond.fieldLink "ChipMap$Judge" (44 : Nat) "ChipMap$Draft" "high" "[I" ∈ GT := gt_in (in_t0 (List.mem_of_getElem? (i := 135) rfl)) rfl
set_option maxRecDepth 20000 in
theorem wd_0_136 : Jvm.Cond.fieldLink "ChipMap$Layout" (102 : Nat) "ChipMap$Draft" "high" "[I" ∈ GT := gt_in (in_t0 (List.mem_of_getElem? (i := 136) rfl)) rfl
set_option maxRecDepth 20000 in
theorem wd_0_137 : Jvm.Cond.fieldLink "ChipMap$Reader" (119 : Nat) "ChipMap$Draft" "high" "[I" ∈ GT := gt_in (in_t0 (List.mem_of_getElem? (i := 137) rfl)) rfl
set_option maxRecDepth 20000 in
theorem wd_0_138 : Jvm.Cond.fieldLink "ChipMap$Draft" (42 : Nat) "ChipMap$Draft" "low" "[I" ∈ GT := gt_in (in_t0 (List.mem_of_getElem? (i := 138) rfl)) rfl
set_option maxRecDepth 20000 in
theorem wd_0_139 : Jvm.Cond.fieldLink "ChipMap$Layout" (101 : Nat) "ChipMap$Draft" "low" "[I" ∈ GT := gt_in (in_t0 (List.mem_of_getElem? (i := 139) rfl)) rfl
set_option maxRecDepth 20000 in
theorem wd_0_140 : Jvm.Cond.fieldLink "ChipMap$Judge" (47 : Nat) "ChipMap$Draft" "low" "[I" ∈ GT := gt_in (in_t0 (List.mem_of_getElem? (i := 140) rfl)) rfl
set_option maxRecDepth 20000 in
theorem wd_0_141 : Jvm.Cond.fieldLink "ChipMap$Reader" (122 : Nat) "ChipMap$Draft" "low" "[I" ∈ GT := gt_in (in_t0 (List.mem_of_getElem? (i := 141) rfl)) rfl
set_option maxRecDepth 20000 in
theorem wd_0_143 : Jvm.Cond.fieldLink "ChipMap$Layout" (105 : Nat) "ChipMap$Draft" "value" "[I" ∈ GT := gt_in (in_t0 (List.mem_of_getElem? (i := 143) rfl)) rfl
set_option maxRecDepth 20000 in
theorem wd_0_144 : Jvm.Cond.fieldLink "ChipMap$Judge" (57 : Nat) "ChipMap$Draft" "value" "[I" ∈ GT := gt_in (in_t0 (List.mem_of_getElem? (i := 144) rfl)) rfl
set_option maxRecDepth 20000 in
theorem wd_0_145 : Jvm.Cond.fieldLink "ChipMap$Reader" (125 : Nat) "ChipMap$Draft" "value" "[I" ∈ GT := gt_in (in_t0 (List.mem_of_getElem? (i := 145) rfl)) rfl
set_option maxRecDepth 20000 in
theorem wd_0_146 : Jvm.Cond.fieldLink "ChipMap$Draft" (51 : Nat) "ChipMap$Draft" "rules" "LChipMap$Rules;" ∈ GT := gt_in (in_t0 (List.mem_of_getElem? (i := 146) rfl)) rfl
set_option maxRecDepth 20000 in
theorem wd_0_147 : Jvm.Cond.fieldLink "ChipMap$Layout" (84 : Nat) "ChipMap$Draft" "rules" "LChipMap$Rules;" ∈ GT := gt_in (in_t0 (List.mem_of_getElem? (i := 147) rfl)) rfl
set_option maxRecDepth 20000 in
theorem wd_0_148 : Jvm.Cond.fieldLink "ChipMap$Reader" (56 : Nat) "ChipMap$Draft" "rules" "LChipMap$Rules;" ∈ GT := gt_in (in_t0 (List.mem_of_getElem? (i := 148) rfl)) rfl
set_option maxRecDepth 20000 in
theorem wd_0_149 : Jvm.Cond.fieldLink "ChipMap$Judge" (93 : Nat) "ChipMap$Draft" "rules" "LChipMap$Rules;" ∈ GT := gt_in (in_t0 (List.mem_of_getElem? (i := 149) rfl)) rfl
set_option maxRecDepth 20000 in
theorem wd_0_150 : Jvm.Cond.lays "ChipMap$Draft" "ChipMap$Draft" "registers" "I" ∈ GT := gt_in (in_t0 (List.mem_of_getElem? (i := 150) rfl)) rfl
set_option maxRecDepth 20000 in
theorem wd_0_152 : Jvm.Cond.laysFinal "ChipMap$Draft" "ChipMap$Draft" "registerPlace" "[I" ∈ GT := gt_in (in_t0 (List.mem_of_getElem? (i := 152) rfl)) rfl
set_option maxRecDepth 20000 in
theorem wd_0_154 : Jvm.Cond.laysFinal "ChipMap$Draft" "ChipMap$Draft" "offset" "[I" ∈ GT := gt_in (in_t0 (List.mem_of_getElem? (i := 154) rfl)) rfl
set_option maxRecDepth 20000 in
theorem wd_0_156 : Jvm.Cond.laysFinal "ChipMap$Draft" "ChipMap$Draft" "bank" "[I" ∈ GT := gt_in (in_t0 (List.mem_of_getElem? (i := 156) rfl)) rfl
set_option maxRecDepth 20000 in
theorem wd_0_158 : Jvm.Cond.laysFinal "ChipMap$Draft" "ChipMap$Draft" "bankPlace" "[I" ∈ GT := gt_in (in_t0 (List.mem_of_getElem? (i := 158) rfl)) rfl
set_option maxRecDepth 20000 in
theorem wd_0_160 : Jvm.Cond.laysFinal "ChipMap$Draft" "ChipMap$Draft" "digit" "[I" ∈ GT := gt_in (in_t0 (List.mem_of_getElem? (i := 160) rfl)) rfl
set_option maxRecDepth 20000 in
theorem wd_0_162 : Jvm.Cond.lays "ChipMap$Draft" "ChipMap$Draft" "fields" "I" ∈ GT := gt_in (in_t0 (List.mem_of_getElem? (i := 162) rfl)) rfl
set_option maxRecDepth 20000 in
theorem wd_0_164 : Jvm.Cond.laysFinal "ChipMap$Draft" "ChipMap$Draft" "name" "[I" ∈ GT := gt_in (in_t0 (List.mem_of_getElem? (i := 164) rfl)) rfl
set_option maxRecDepth 20000 in
theorem wd_0_166 : Jvm.Cond.laysFinal "ChipMap$Draft" "ChipMap$Draft" "place" "[I" ∈ GT := gt_in (in_t0 (List.mem_of_getElem? (i := 166) rfl)) rfl
set_option maxRecDepth 20000 in
theorem wd_0_168 : Jvm.Cond.laysFinal "ChipMap$Draft" "ChipMap$Draft" "home" "[I" ∈ GT := gt_in (in_t0 (List.mem_of_getElem? (i := 168) rfl)) rfl
set_option maxRecDepth 20000 in
theorem wd_0_170 : Jvm.Cond.laysFinal "ChipMap$Draft" "ChipMap$Draft" "access" "[I" ∈ GT := gt_in (in_t0 (List.mem_of_getElem? (i := 170) rfl)) rfl
set_option maxRecDepth 20000 in
theorem wd_0_172 : Jvm.Cond.laysFinal "ChipMap$Draft" "ChipMap$Draft" "high" "[I" ∈ GT := gt_in (in_t0 (List.mem_of_getElem? (i := 172) rfl)) rfl
set_option maxRecDepth 20000 in
theorem wd_0_174 : Jvm.Cond.laysFinal "ChipMap$Draft" "ChipMap$Draft" "low" "[I" ∈ GT := gt_in (in_t0 (List.mem_of_getElem? (i := 174) rfl)) rfl
set_option maxRecDepth 20000 in
theorem wd_0_176 : Jvm.Cond.laysFinal "ChipMap$Draft" "ChipMap$Draft" "value" "[I" ∈ GT := gt_in (in_t0 (List.mem_of_getElem? (i := 176) rfl)) rfl
set_option maxRecDepth 20000 in
theorem wd_0_178 : Jvm.Cond.laysFinal "ChipMap$Draft" "ChipMap$Draft" "rules" "LChipMap$Rules;" ∈ GT := gt_in (in_t0 (List.mem_of_getElem? (i := 178) rfl)) rfl
set_option maxRecDepth 20000 in
theorem wd_0_187 : Jvm.Cond.fieldLink "ChipMap$Reader" (15 : Nat) "ChipMap$Reader" "draft" "LChipMap$Draft;" ∈ GT := gt_in (in_t0 (List.mem_of_getElem? (i := 187) rfl)) rfl
set_option maxRecDepth 20000 in
theorem wd_0_188 : Jvm.Cond.fieldLink "ChipMap$Reader" (9 : Nat) "ChipMap$Reader" "tape" "[C" ∈ GT := gt_in (in_t0 (List.mem_of_getElem? (i := 188) rfl)) rfl
set_option maxRecDepth 20000 in
theorem wd_0_189 : Jvm.Cond.fieldLink "ChipMap$Reader" (19 : Nat) "ChipMap$Reader" "length" "I" ∈ GT := gt_in (in_t0 (List.mem_of_getElem? (i := 189) rfl)) rfl
set_option maxRecDepth 20000 in
theorem wd_0_190 : Jvm.Cond.fieldLink "ChipMap" (84 : Nat) "ChipMap$Reader" "at" "I" ∈ GT := gt_in (in_t0 (List.mem_of_getElem? (i := 190) rfl)) rfl
set_option maxRecDepth 20000 in
theorem wd_0_191 : Jvm.Cond.fieldLink "ChipMap$Reader" (32 : Nat) "ChipMap$Reader" "at" "I" ∈ GT := gt_in (in_t0 (List.mem_of_getElem? (i := 191) rfl)) rfl
set_option maxRecDepth 20000 in
theorem wd_0_192 : Jvm.Cond.laysFinal "ChipMap$Reader" "ChipMap$Reader" "draft" "LChipMap$Draft;" ∈ GT := gt_in (in_t0 (List.mem_of_getElem? (i := 192) rfl)) rfl
set_option maxRecDepth 20000 in
theorem wd_0_194 : Jvm.Cond.laysFinal "ChipMap$Reader" "ChipMap$Reader" "tape" "[C" ∈ GT := gt_in (in_t0 (List.mem_of_getElem? (i := 194) rfl)) rfl
set_option maxRecDepth 20000 in
theorem wd_0_196 : Jvm.Cond.lays "ChipMap$Reader" "ChipMap$Reader" "length" "I" ∈ GT := gt_in (in_t0 (List.mem_of_getElem? (i := 196) rfl)) rfl
set_option maxRecDepth 20000 in
theorem wd_0_198 : Jvm.Cond.lays "ChipMap$Reader" "ChipMap$Reader" "at" "I" ∈ GT := gt_in (in_t0 (List.mem_of_getElem? (i := 198) rfl)) rfl
set_option maxRecDepth 20000 in
theorem wd_0_208 : Jvm.Cond.fieldLink "ChipMap$Judge" (9 : Nat) "ChipMap$Judge" "draft" "LChipMap$Draft;" ∈ GT := gt_in (in_t0 (List.mem_of_getElem? (i := 208) rfl)) rfl
set_option maxRecDepth 20000 in
theorem wd_0_209 : Jvm.Cond.fieldLink "ChipMap$Judge" (15 : Nat) "ChipMap$Judge" "kind" "I" ∈ GT := gt_in (in_t0 (List.mem_of_getElem? (i := 209) rfl)) rfl
set_option maxRecDepth 20000 in
theorem wd_0_210 : Jvm.Cond.fieldLink "ChipMap" (92 : Nat) "ChipMap$Judge" "kind" "I" ∈ GT := gt_in (in_t0 (List.mem_of_getElem? (i := 210) rfl)) rfl
set_option maxRecDepth 20000 in
theorem wd_0_211 : Jvm.Cond.fieldLink "ChipMap$Judge" (19 : Nat) "ChipMap$Judge" "place" "I" ∈ GT := gt_in (in_t0 (List.mem_of_getElem? (i := 211) rfl)) rfl
set_option maxRecDepth 20000 in
theorem wd_0_212 : Jvm.Cond.fieldLink "ChipMap" (110 : Nat) "ChipMap$Judge" "place" "I" ∈ GT := gt_in (in_t0 (List.mem_of_getElem? (i := 212) rfl)) rfl
set_option maxRecDepth 20000 in
theorem wd_0_213 : Jvm.Cond.laysFinal "ChipMap$Judge" "ChipMap$Judge" "draft" "LChipMap$Draft;" ∈ GT := gt_in (in_t0 (List.mem_of_getElem? (i := 213) rfl)) rfl
set_option maxRecDepth 20000 in
theorem wd_0_215 : Jvm.Cond.lays "ChipMap$Judge" "ChipMap$Judge" "kind" "I" ∈ GT := gt_in (in_t0 (List.mem_of_getElem? (i := 215) rfl)) rfl
set_option maxRecDepth 20000 in
theorem wd_0_217 : Jvm.Cond.lays "ChipMap$Judge" "ChipMap$Judge" "place" "I" ∈ GT := gt_in (in_t0 (List.mem_of_getElem? (i := 217) rfl)) rfl
set_option maxRecDepth 20000 in
theorem wd_0_228 : Jvm.Cond.instanceMethod ({ cls := "java/lang/String", name := "length", desc := "()I" } : Jvm.MethodName) ∈ GT := gt_in (in_t0 (List.mem_of_getElem? (i := 228) rfl)) rfl
set_option maxRecDepth 20000 in
theorem wd_0_229 : Jvm.Cond.selects "java/lang/String" ({ cls := "java/lang/String", name := "length", desc := "()I" } : Jvm.MethodName) ({ cls := "java/lang/String", name := "length", desc := "()I" } : Jvm.MethodName) ∈ GT := gt_in (in_t0 (List.mem_of_getElem? (i := 229) rfl)) rfl
set_option maxRecDepth 20000 in
theorem wd_0_230 : Jvm.Cond.code ({ cls := "java/lang/String", name := "length", desc := "()I" } : Jvm.MethodName) prog_23_method_54_code (1 : Nat) (Option.some Jvm.ClassFile.FieldType.int) ∈ GT := gt_in (in_t0 (List.mem_of_getElem? (i := 230) rfl)) rfl
set_option maxRecDepth 20000 in
theorem wd_0_231 : Jvm.Cond.methodLink "java/lang/String" (335 : Nat) ({ cls := "java/lang/String", name := "coder", desc := "()B" } : Jvm.MethodName) ∈ GT := gt_in (in_t0 (List.mem_of_getElem? (i := 231) rfl)) rfl
set_option maxRecDepth 20000 in
theorem wd_0_232 : Jvm.Cond.instanceMethod ({ cls := "java/lang/String", name := "coder", desc := "()B" } : Jvm.MethodName) ∈ GT := gt_in (in_t0 (List.mem_of_getElem? (i := 232) rfl)) rfl
set_option maxRecDepth 20000 in
theorem wd_0_233 : Jvm.Cond.selects "java/lang/String" ({ cls := "java/lang/String", name := "coder", desc := "()B" } : Jvm.MethodName) ({ cls := "java/lang/String", name := "coder", desc := "()B" } : Jvm.MethodName) ∈ GT := gt_in (in_t0 (List.mem_of_getElem? (i := 233) rfl)) rfl
set_option maxRecDepth 20000 in
theorem wd_0_234 : Jvm.Cond.code ({ cls := "java/lang/String", name := "coder", desc := "()B" } : Jvm.MethodName) prog_23_method_152_code (1 : Nat) (Option.some Jvm.ClassFile.FieldType.byte) ∈ GT := gt_in (in_t0 (List.mem_of_getElem? (i := 234) rfl)) rfl
set_option maxRecDepth 20000 in
theorem wd_0_235 : Jvm.Cond.fieldLink "java/lang/String" (38 : Nat) "java/lang/String" "COMPACT_STRINGS" "Z" ∈ GT := gt_in (in_t0 (List.mem_of_getElem? (i := 235) rfl)) rfl
set_option maxRecDepth 20000 in
theorem wd_1_1 : Jvm.Cond.methodLink "ChipMap$Layout" (62 : Nat) ({ cls := "java/util/Arrays", name := "fill", desc := "([II)V" } : Jvm.MethodName) ∈ GT := gt_in (in_t1 (List.mem_of_getElem? (i := 1) rfl)) rfl
set_option maxRecDepth 20000 in
theorem wd_1_2 : Jvm.Cond.static ({ cls := "java/util/Arrays", name := "fill", desc := "([II)V" } : Jvm.MethodName) ∈ GT := gt_in (in_t1 (List.mem_of_getElem? (i := 2) rfl)) rfl
set_option maxRecDepth 20000 in
theorem wd_1_3 : Jvm.Cond.code ({ cls := "java/util/Arrays", name := "fill", desc := "([II)V" } : Jvm.MethodName) prog_28_method_103_code (4 : Nat) (Option.none : Option Jvm.ClassFile.FieldType) ∈ GT := gt_in (in_t1 (List.mem_of_getElem? (i := 3) rfl)) rfl
set_option maxRecDepth 20000 in
theorem wd_1_4 : Jvm.Cond.fieldLink "ChipMap$Layout" (74 : Nat) "ChipMap$Layout" "registers" "I" ∈ GT := gt_in (in_t1 (List.mem_of_getElem? (i := 4) rfl)) rfl
set_option maxRecDepth 20000 in
theorem wd_1_5 : Jvm.Cond.fieldLink "ChipMap$Device" (65 : Nat) "ChipMap$Layout" "registers" "I" ∈ GT := gt_in (in_t1 (List.mem_of_getElem? (i := 5) rfl)) rfl
set_option maxRecDepth 20000 in
theorem wd_1_6 : Jvm.Cond.fieldLink "ChipMap" (107 : Nat) "ChipMap$Layout" "registers" "I" ∈ GT := gt_in (in_t1 (List.mem_of_getElem? (i := 6) rfl)) rfl
set_option maxRecDepth 20000 in
theorem wd_1_7 : Jvm.Cond.fieldLink "ChipMap$Checker" (101 : Nat) "ChipMap$Layout" "registers" "I" ∈ GT := gt_in (in_t1 (List.mem_of_getElem? (i := 7) rfl)) rfl
set_option maxRecDepth 20000 in
theorem wd_1_8 : Jvm.Cond.fieldLink "ChipMap$Layout" (9 : Nat) "ChipMap$Layout" "offset" "[I" ∈ GT := gt_in (in_t1 (List.mem_of_getElem? (i := 8) rfl)) rfl
set_option maxRecDepth 20000 in
theorem wd_1_9 : Jvm.Cond.fieldLink "ChipMap$Device" (68 : Nat) "ChipMap$Layout" "offset" "[I" ∈ GT := gt_in (in_t1 (List.mem_of_getElem? (i := 9) rfl)) rfl
set_option maxRecDepth 20000 in
theorem wd_1_10 : Jvm.Cond.fieldLink "ChipMap$Layout" (15 : Nat) "ChipMap$Layout" "bank" "[I" ∈ GT := gt_in (in_t1 (List.mem_of_getElem? (i := 10) rfl)) rfl
set_option maxRecDepth 20000 in
theorem wd_1_11 : Jvm.Cond.fieldLink "ChipMap$Mind" (35 : Nat) "ChipMap$Layout" "bank" "[I" ∈ GT := gt_in (in_t1 (List.mem_of_getElem? (i := 11) rfl)) rfl
set_option maxRecDepth 20000 in
theorem wd_1_12 : Jvm.Cond.fieldLink "ChipMap$Plan" (101 : Nat) "ChipMap$Layout" "bank" "[I" ∈ GT := gt_in (in_t1 (List.mem_of_getElem? (i := 12) rfl)) rfl
set_option maxRecDepth 20000 in
theorem wd_1_13 : Jvm.Cond.fieldLink "ChipMap$Layout" (18 : Nat) "ChipMap$Layout" "digit" "[I" ∈ GT := gt_in (in_t1 (List.mem_of_getElem? (i := 13) rfl)) rfl
set_option maxRecDepth 20000 in
theorem wd_1_14 : Jvm.Cond.fieldLink "ChipMap$Mind" (42 : Nat) "ChipMap$Layout" "digit" "[I" ∈ GT := gt_in (in_t1 (List.mem_of_getElem? (i := 14) rfl)) rfl
set_option maxRecDepth 20000 in
theorem wd_1_15 : Jvm.Cond.fieldLink "ChipMap$Plan" (104 : Nat) "ChipMap$Layout" "digit" "[I" ∈ GT := gt_in (in_t1 (List.mem_of_getElem? (i := 15) rfl)) rfl
set_option maxRecDepth 20000 in
theorem wd_1_16 : Jvm.Cond.fieldLink "ChipMap$Layout" (21 : Nat) "ChipMap$Layout" "atReset" "[I" ∈ GT := gt_in (in_t1 (List.mem_of_getElem? (i := 16) rfl)) rfl
set_option maxRecDepth 20000 in
theorem wd_1_17 : Jvm.Cond.fieldLink "ChipMap$Mind" (19 : Nat) "ChipMap$Layout" "atReset" "[I" ∈ GT := gt_in (in_t1 (List.mem_of_getElem? (i := 17) rfl)) rfl
set_option maxRecDepth 20000 in
theorem wd_1_18 : Jvm.Cond.fieldLink "ChipMap$Device" (44 : Nat) "ChipMap$Layout" "atReset" "[I" ∈ GT := gt_in (in_t1 (List.mem_of_getElem? (i := 18) rfl)) rfl
set_option maxRecDepth 20000 in
theorem wd_1_19 : Jvm.Cond.fieldLink "ChipMap$Layout" (24 : Nat) "ChipMap$Layout" "known" "[I" ∈ GT := gt_in (in_t1 (List.mem_of_getElem? (i := 19) rfl)) rfl
set_option maxRecDepth 20000 in
theorem wd_1_20 : Jvm.Cond.fieldLink "ChipMap$Mind" (24 : Nat) "ChipMap$Layout" "known" "[I" ∈ GT := gt_in (in_t1 (List.mem_of_getElem? (i := 20) rfl)) rfl
set_option maxRecDepth 20000 in
theorem wd_1_21 : Jvm.Cond.fieldLink "ChipMap$Device" (49 : Nat) "ChipMap$Layout" "known" "[I" ∈ GT := gt_in (in_t1 (List.mem_of_getElem? (i := 21) rfl)) rfl
set_option maxRecDepth 20000 in
theorem wd_1_22 : Jvm.Cond.fieldLink "ChipMap$Plan" (94 : Nat) "ChipMap$Layout" "known" "[I" ∈ GT := gt_in (in_t1 (List.mem_of_getElem? (i := 22) rfl)) rfl
set_option maxRecDepth 20000 in
theorem wd_1_23 : Jvm.Cond.fieldLink "ChipMap$Layout" (37 : Nat) "ChipMap$Layout" "bits" "[[I" ∈ GT := gt_in (in_t1 (List.mem_of_getElem? (i := 23) rfl)) rfl
set_option maxRecDepth 20000 in
theorem wd_1_24 : Jvm.Cond.fieldLink "ChipMap$Device" (97 : Nat) "ChipMap$Layout" "bits" "[[I" ∈ GT := gt_in (in_t1 (List.mem_of_getElem? (i := 24) rfl)) rfl
set_option maxRecDepth 20000 in
theorem wd_1_25 : Jvm.Cond.fieldLink "ChipMap$Layout" (40 : Nat) "ChipMap$Layout" "home" "[I" ∈ GT := gt_in (in_t1 (List.mem_of_getElem? (i := 25) rfl)) rfl
set_option maxRecDepth 20000 in
theorem wd_1_26 : Jvm.Cond.fieldLink "ChipMap$Device" (75 : Nat) "ChipMap$Layout" "home" "[I" ∈ GT := gt_in (in_t1 (List.mem_of_getElem? (i := 26) rfl)) rfl
set_option maxRecDepth 20000 in
theorem wd_1_27 : Jvm.Cond.fieldLink "ChipMap$Plan" (55 : Nat) "ChipMap$Layout" "home" "[I" ∈ GT := gt_in (in_t1 (List.mem_of_getElem? (i := 27) rfl)) rfl
set_option maxRecDepth 20000 in
theorem wd_1_28 : Jvm.Cond.fieldLink "ChipMap$Mind" (45 : Nat) "ChipMap$Layout" "home" "[I" ∈ GT := gt_in (in_t1 (List.mem_of_getElem? (i := 28) rfl)) rfl
set_option maxRecDepth 20000 in
theorem wd_1_29 : Jvm.Cond.fieldLink "ChipMap" (117 : Nat) "ChipMap$Layout" "home" "[I" ∈ GT := gt_in (in_t1 (List.mem_of_getElem? (i := 29) rfl)) rfl
set_option maxRecDepth 20000 in
theorem wd_1_30 : Jvm.Cond.fieldLink "ChipMap$Layout" (43 : Nat) "ChipMap$Layout" "access" "[I" ∈ GT := gt_in (in_t1 (List.mem_of_getElem? (i := 30) rfl)) rfl
set_option maxRecDepth 20000 in
theorem wd_1_31 : Jvm.Cond.fieldLink "ChipMap$Plan" (72 : Nat) "ChipMap$Layout" "access" "[I" ∈ GT := gt_in (in_t1 (List.mem_of_getElem? (i := 31) rfl)) rfl
set_option maxRecDepth 20000 in
theorem wd_1_32 : Jvm.Cond.fieldLink "ChipMap$Device" (104 : Nat) "ChipMap$Layout" "access" "[I" ∈ GT := gt_in (in_t1 (List.mem_of_getElem? (i := 32) rfl)) rfl
set_option maxRecDepth 20000 in
theorem wd_1_33 : Jvm.Cond.fieldLink "ChipMap" (176 : Nat) "ChipMap$Layout" "access" "[I" ∈ GT := gt_in (in_t1 (List.mem_of_getElem? (i := 33) rfl)) rfl
set_option maxRecDepth 20000 in
theorem wd_1_34 : Jvm.Cond.fieldLink "ChipMap$Layout" (46 : Nat) "ChipMap$Layout" "low" "[I" ∈ GT := gt_in (in_t1 (List.mem_of_getElem? (i := 34) rfl)) rfl
set_option maxRecDepth 20000 in
theorem wd_1_35 : Jvm.Cond.fieldLink "ChipMap$Plan" (65 : Nat) "ChipMap$Layout" "low" "[I" ∈ GT := gt_in (in_t1 (List.mem_of_getElem? (i := 35) rfl)) rfl
set_option maxRecDepth 20000 in
theorem wd_1_36 : Jvm.Cond.fieldLink "ChipMap$Mind" (51 : Nat) "ChipMap$Layout" "low" "[I" ∈ GT := gt_in (in_t1 (List.mem_of_getElem? (i := 36) rfl)) rfl
set_option maxRecDepth 20000 in
theorem wd_1_37 : Jvm.Cond.fieldLink "ChipMap$Device" (86 : Nat) "ChipMap$Layout" "low" "[I" ∈ GT := gt_in (in_t1 (List.mem_of_getElem? (i := 37) rfl)) rfl
set_option maxRecDepth 20000 in
theorem wd_1_38 : Jvm.Cond.fieldLink "ChipMap" (121 : Nat) "ChipMap$Layout" "low" "[I" ∈ GT := gt_in (in_t1 (List.mem_of_getElem? (i := 38) rfl)) rfl
set_option maxRecDepth 20000 in
theorem wd_1_39 : Jvm.Cond.fieldLink "ChipMap$Layout" (49 : Nat) "ChipMap$Layout" "width" "[I" ∈ GT := gt_in (in_t1 (List.mem_of_getElem? (i := 39) rfl)) rfl
set_option maxRecDepth 20000 in
theorem wd_1_40 : Jvm.Cond.fieldLink "ChipMap" (124 : Nat) "ChipMap$Layout" "width" "[I" ∈ GT := gt_in (in_t1 (List.mem_of_getElem? (i := 40) rfl)) rfl
set_option maxRecDepth 20000 in
theorem wd_1_41 : Jvm.Cond.fieldLink "ChipMap$Layout" (52 : Nat) "ChipMap$Layout" "mask" "[I" ∈ GT := gt_in (in_t1 (List.mem_of_getElem? (i := 41) rfl)) rfl
set_option maxRecDepth 20000 in
theorem wd_1_42 : Jvm.Cond.fieldLink "ChipMap$Plan" (62 : Nat) "ChipMap$Layout" "mask" "[I" ∈ GT := gt_in (in_t1 (List.mem_of_getElem? (i := 42) rfl)) rfl
set_option maxRecDepth 20000 in
theorem wd_1_43 : Jvm.Cond.fieldLink "ChipMap$Mind" (48 : Nat) "ChipMap$Layout" "mask" "[I" ∈ GT := gt_in (in_t1 (List.mem_of_getElem? (i := 43) rfl)) rfl
set_option maxRecDepth 20000 in
theorem wd_1_44 : Jvm.Cond.fieldLink "ChipMap$Device" (83 : Nat) "ChipMap$Layout" "mask" "[I" ∈ GT := gt_in (in_t1 (List.mem_of_getElem? (i := 44) rfl)) rfl
set_option maxRecDepth 20000 in
theorem wd_1_45 : Jvm.Cond.fieldLink "ChipMap$Layout" (58 : Nat) "ChipMap$Layout" "rules" "LChipMap$Rules;" ∈ GT := gt_in (in_t1 (List.mem_of_getElem? (i := 45) rfl)) rfl
set_option maxRecDepth 20000 in
theorem wd_1_46 : Jvm.Cond.fieldLink "ChipMap$Mind" (54 : Nat) "ChipMap$Layout" "rules" "LChipMap$Rules;" ∈ GT := gt_in (in_t1 (List.mem_of_getElem? (i := 46) rfl)) rfl
set_option maxRecDepth 20000 in
theorem wd_1_47 : Jvm.Cond.fieldLink "ChipMap" (270 : Nat) "ChipMap$Layout" "rules" "LChipMap$Rules;" ∈ GT := gt_in (in_t1 (List.mem_of_getElem? (i := 47) rfl)) rfl
set_option maxRecDepth 20000 in
theorem wd_1_48 : Jvm.Cond.lays "ChipMap$Layout" "ChipMap$Layout" "registers" "I" ∈ GT := gt_in (in_t1 (List.mem_of_getElem? (i := 48) rfl)) rfl
set_option maxRecDepth 20000 in
theorem wd_1_50 : Jvm.Cond.laysFinal "ChipMap$Layout" "ChipMap$Layout" "offset" "[I" ∈ GT := gt_in (in_t1 (List.mem_of_getElem? (i := 50) rfl)) rfl
set_option maxRecDepth 20000 in
theorem wd_1_52 : Jvm.Cond.laysFinal "ChipMap$Layout" "ChipMap$Layout" "bank" "[I" ∈ GT := gt_in (in_t1 (List.mem_of_getElem? (i := 52) rfl)) rfl
set_option maxRecDepth 20000 in
theorem wd_1_54 : Jvm.Cond.laysFinal "ChipMap$Layout" "ChipMap$Layout" "digit" "[I" ∈ GT := gt_in (in_t1 (List.mem_of_getElem? (i := 54) rfl)) rfl
set_option maxRecDepth 20000 in
theorem wd_1_56 : Jvm.Cond.laysFinal "ChipMap$Layout" "ChipMap$Layout" "atReset" "[I" ∈ GT := gt_in (in_t1 (List.mem_of_getElem? (i := 56) rfl)) rfl
set_option maxRecDepth 20000 in
theorem wd_1_58 : Jvm.Cond.laysFinal "ChipMap$Layout" "ChipMap$Layout" "known" "[I" ∈ GT := gt_in (in_t1 (List.mem_of_getElem? (i := 58) rfl)) rfl
set_option maxRecDepth 20000 in
theorem wd_1_60 : Jvm.Cond.laysFinal "ChipMap$Layout" "ChipMap$Layout" "bits" "[[I" ∈ GT := gt_in (in_t1 (List.mem_of_getElem? (i := 60) rfl)) rfl
set_option maxRecDepth 20000 in
theorem wd_1_62 : Jvm.Cond.laysFinal "ChipMap$Layout" "ChipMap$Layout" "home" "[I" ∈ GT := gt_in (in_t1 (List.mem_of_getElem? (i := 62) rfl)) rfl
set_option maxRecDepth 20000 in
theorem wd_1_64 : Jvm.Cond.laysFinal "ChipMap$Layout" "ChipMap$Layout" "access" "[I" ∈ GT := gt_in (in_t1 (List.mem_of_getElem? (i := 64) rfl)) rfl
set_option maxRecDepth 20000 in
theorem wd_1_66 : Jvm.Cond.laysFinal "ChipMap$Layout" "ChipMap$Layout" "low" "[I" ∈ GT := gt_in (in_t1 (List.mem_of_getElem? (i := 66) rfl)) rfl
set_option maxRecDepth 20000 in
theorem wd_1_68 : Jvm.Cond.laysFinal "ChipMap$Layout" "ChipMap$Layout" "width" "[I" ∈ GT := gt_in (in_t1 (List.mem_of_getElem? (i := 68) rfl)) rfl
set_option maxRecDepth 20000 in
theorem wd_1_70 : Jvm.Cond.laysFinal "ChipMap$Layout" "ChipMap$Layout" "mask" "[I" ∈ GT := gt_in (in_t1 (List.mem_of_getElem? (i := 70) rfl)) rfl
set_option maxRecDepth 20000 in
theorem wd_1_72 : Jvm.Cond.laysFinal "ChipMap$Layout" "ChipMap$Layout" "rules" "LChipMap$Rules;" ∈ GT := gt_in (in_t1 (List.mem_of_getElem? (i := 72) rfl)) rfl
set_option maxRecDepth 20000 in
theorem wd_1_88 : Jvm.Cond.fieldLink "ChipMap$Log" (21 : Nat) "ChipMap$Log" "count" "I" ∈ GT := gt_in (in_t1 (List.mem_of_getElem? (i := 88) rfl)) rfl
set_option maxRecDepth 20000 in
theorem wd_1_89 : Jvm.Cond.fieldLink "ChipMap$Device" (62 : Nat) "ChipMap$Log" "count" "I" ∈ GT := gt_in (in_t1 (List.mem_of_getElem? (i := 89) rfl)) rfl
set_option maxRecDepth 20000 in
theorem wd_1_90 : Jvm.Cond.fieldLink "ChipMap" (269 : Nat) "ChipMap$Log" "count" "I" ∈ GT := gt_in (in_t1 (List.mem_of_getElem? (i := 90) rfl)) rfl
set_option maxRecDepth 20000 in
theorem wd_1_91 : Jvm.Cond.fieldLink "ChipMap$Log" (9 : Nat) "ChipMap$Log" "write" "[I" ∈ GT := gt_in (in_t1 (List.mem_of_getElem? (i := 91) rfl)) rfl
set_option maxRecDepth 20000 in
theorem wd_1_92 : Jvm.Cond.fieldLink "ChipMap" (233 : Nat) "ChipMap$Log" "write" "[I" ∈ GT := gt_in (in_t1 (List.mem_of_getElem? (i := 92) rfl)) rfl
set_option maxRecDepth 20000 in
theorem wd_1_93 : Jvm.Cond.fieldLink "ChipMap$Log" (15 : Nat) "ChipMap$Log" "offset" "[I" ∈ GT := gt_in (in_t1 (List.mem_of_getElem? (i := 93) rfl)) rfl
set_option maxRecDepth 20000 in
theorem wd_1_94 : Jvm.Cond.fieldLink "ChipMap" (235 : Nat) "ChipMap$Log" "offset" "[I" ∈ GT := gt_in (in_t1 (List.mem_of_getElem? (i := 94) rfl)) rfl
set_option maxRecDepth 20000 in
theorem wd_1_95 : Jvm.Cond.fieldLink "ChipMap$Log" (18 : Nat) "ChipMap$Log" "word" "[I" ∈ GT := gt_in (in_t1 (List.mem_of_getElem? (i := 95) rfl)) rfl
set_option maxRecDepth 20000 in
theorem wd_1_96 : Jvm.Cond.fieldLink "ChipMap" (238 : Nat) "ChipMap$Log" "word" "[I" ∈ GT := gt_in (in_t1 (List.mem_of_getElem? (i := 96) rfl)) rfl
set_option maxRecDepth 20000 in
theorem wd_1_97 : Jvm.Cond.lays "ChipMap$Log" "ChipMap$Log" "count" "I" ∈ GT := gt_in (in_t1 (List.mem_of_getElem? (i := 97) rfl)) rfl
set_option maxRecDepth 20000 in
theorem wd_1_99 : Jvm.Cond.laysFinal "ChipMap$Log" "ChipMap$Log" "write" "[I" ∈ GT := gt_in (in_t1 (List.mem_of_getElem? (i := 99) rfl)) rfl
set_option maxRecDepth 20000 in
theorem wd_1_101 : Jvm.Cond.laysFinal "ChipMap$Log" "ChipMap$Log" "offset" "[I" ∈ GT := gt_in (in_t1 (List.mem_of_getElem? (i := 101) rfl)) rfl
set_option maxRecDepth 20000 in
theorem wd_1_103 : Jvm.Cond.laysFinal "ChipMap$Log" "ChipMap$Log" "word" "[I" ∈ GT := gt_in (in_t1 (List.mem_of_getElem? (i := 103) rfl)) rfl
set_option maxRecDepth 20000 in
theorem wd_1_112 : Jvm.Cond.fieldLink "ChipMap$Mind" (15 : Nat) "ChipMap$Mind" "layout" "LChipMap$Layout;" ∈ GT := gt_in (in_t1 (List.mem_of_getElem? (i := 112) rfl)) rfl
set_option maxRecDepth 20000 in
theorem wd_1_113 : Jvm.Cond.fieldLink "ChipMap$Mind" (9 : Nat) "ChipMap$Mind" "known" "[I" ∈ GT := gt_in (in_t1 (List.mem_of_getElem? (i := 113) rfl)) rfl
set_option maxRecDepth 20000 in
theorem wd_1_114 : Jvm.Cond.fieldLink "ChipMap$Device" (78 : Nat) "ChipMap$Mind" "known" "[I" ∈ GT := gt_in (in_t1 (List.mem_of_getElem? (i := 114) rfl)) rfl
set_option maxRecDepth 20000 in
theorem wd_1_115 : Jvm.Cond.fieldLink "ChipMap$Checker" (106 : Nat) "ChipMap$Mind" "known" "[I" ∈ GT := gt_in (in_t1 (List.mem_of_getElem? (i := 115) rfl)) rfl
set_option maxRecDepth 20000 in
theorem wd_1_116 : Jvm.Cond.fieldLink "ChipMap$Plan" (97 : Nat) "ChipMap$Mind" "known" "[I" ∈ GT := gt_in (in_t1 (List.mem_of_getElem? (i := 116) rfl)) rfl
set_option maxRecDepth 20000 in
theorem wd_1_117 : Jvm.Cond.fieldLink "ChipMap$Mind" (25 : Nat) "ChipMap$Mind" "looks" "I" ∈ GT := gt_in (in_t1 (List.mem_of_getElem? (i := 117) rfl)) rfl
set_option maxRecDepth 20000 in
theorem wd_1_118 : Jvm.Cond.fieldLink "ChipMap$Checker" (110 : Nat) "ChipMap$Mind" "looks" "I" ∈ GT := gt_in (in_t1 (List.mem_of_getElem? (i := 118) rfl)) rfl
set_option maxRecDepth 20000 in
theorem wd_1_119 : Jvm.Cond.laysFinal "ChipMap$Mind" "ChipMap$Mind" "layout" "LChipMap$Layout;" ∈ GT := gt_in (in_t1 (List.mem_of_getElem? (i := 119) rfl)) rfl
set_option maxRecDepth 20000 in
theorem wd_1_121 : Jvm.Cond.laysFinal "ChipMap$Mind" "ChipMap$Mind" "known" "[I" ∈ GT := gt_in (in_t1 (List.mem_of_getElem? (i := 121) rfl)) rfl
set_option maxRecDepth 20000 in
theorem wd_1_123 : Jvm.Cond.lays "ChipMap$Mind" "ChipMap$Mind" "looks" "I" ∈ GT := gt_in (in_t1 (List.mem_of_getElem? (i := 123) rfl)) rfl
set_option maxRecDepth 20000 in
theorem wd_1_126 : Jvm.Cond.fieldLink "ChipMap$Device" (28 : Nat) "ChipMap$Device" "layout" "LChipMap$Layout;" ∈ GT := gt_in (in_t1 (List.mem_of_getElem? (i := 126) rfl)) rfl
set_option maxRecDepth 20000 in
theorem wd_1_127 : Jvm.Cond.fieldLink "ChipMap$Device" (37 : Nat) "ChipMap$Device" "mind" "LChipMap$Mind;" ∈ GT := gt_in (in_t1 (List.mem_of_getElem? (i := 127) rfl)) rfl
set_option maxRecDepth 20000 in
theorem wd_1_128 : Jvm.Cond.fieldLink "ChipMap" (144 : Nat) "ChipMap$Device" "mind" "LChipMap$Mind;" ∈ GT := gt_in (in_t1 (List.mem_of_getElem? (i := 128) rfl)) rfl
set_option maxRecDepth 20000 in
theorem wd_1_129 : Jvm.Cond.fieldLink "ChipMap$Device" (12 : Nat) "ChipMap$Device" "log" "LChipMap$Log;" ∈ GT := gt_in (in_t1 (List.mem_of_getElem? (i := 129) rfl)) rfl
set_option maxRecDepth 20000 in
theorem wd_1_130 : Jvm.Cond.fieldLink "ChipMap" (224 : Nat) "ChipMap$Device" "log" "LChipMap$Log;" ∈ GT := gt_in (in_t1 (List.mem_of_getElem? (i := 130) rfl)) rfl
set_option maxRecDepth 20000 in
theorem wd_1_131 : Jvm.Cond.fieldLink "ChipMap$Device" (58 : Nat) "ChipMap$Device" "rulesBroken" "I" ∈ GT := gt_in (in_t1 (List.mem_of_getElem? (i := 131) rfl)) rfl
set_option maxRecDepth 20000 in
theorem wd_1_132 : Jvm.Cond.fieldLink "ChipMap" (158 : Nat) "ChipMap$Device" "rulesBroken" "I" ∈ GT := gt_in (in_t1 (List.mem_of_getElem? (i := 132) rfl)) rfl
set_option maxRecDepth 20000 in
theorem wd_1_133 : Jvm.Cond.fieldLink "ChipMap$Device" (18 : Nat) "ChipMap$Device" "loose" "[I" ∈ GT := gt_in (in_t1 (List.mem_of_getElem? (i := 133) rfl)) rfl
set_option maxRecDepth 20000 in
theorem wd_1_134 : Jvm.Cond.fieldLink "ChipMap$Device" (22 : Nat) "ChipMap$Device" "kept" "[I" ∈ GT := gt_in (in_t1 (List.mem_of_getElem? (i := 134) rfl)) rfl
set_option maxRecDepth 20000 in
theorem wd_1_135 : Jvm.Cond.fieldLink "ChipMap" (131 : Nat) "ChipMap$Device" "kept" "[I" ∈ GT := gt_in (in_t1 (List.mem_of_getElem? (i := 135) rfl)) rfl
set_option maxRecDepth 20000 in
theorem wd_1_136 : Jvm.Cond.fieldLink "ChipMap$Device" (25 : Nat) "ChipMap$Device" "readsLeft" "[I" ∈ GT := gt_in (in_t1 (List.mem_of_getElem? (i := 136) rfl)) rfl
set_option maxRecDepth 20000 in
theorem wd_1_137 : Jvm.Cond.laysFinal "ChipMap$Device" "ChipMap$Device" "layout" "LChipMap$Layout;" ∈ GT := gt_in (in_t1 (List.mem_of_getElem? (i := 137) rfl)) rfl
set_option maxRecDepth 20000 in
theorem wd_1_139 : Jvm.Cond.laysFinal "ChipMap$Device" "ChipMap$Device" "mind" "LChipMap$Mind;" ∈ GT := gt_in (in_t1 (List.mem_of_getElem? (i := 139) rfl)) rfl
set_option maxRecDepth 20000 in
theorem wd_1_141 : Jvm.Cond.laysFinal "ChipMap$Device" "ChipMap$Device" "log" "LChipMap$Log;" ∈ GT := gt_in (in_t1 (List.mem_of_getElem? (i := 141) rfl)) rfl
set_option maxRecDepth 20000 in
theorem wd_1_143 : Jvm.Cond.lays "ChipMap$Device" "ChipMap$Device" "rulesBroken" "I" ∈ GT := gt_in (in_t1 (List.mem_of_getElem? (i := 143) rfl)) rfl
set_option maxRecDepth 20000 in
theorem wd_1_145 : Jvm.Cond.laysFinal "ChipMap$Device" "ChipMap$Device" "loose" "[I" ∈ GT := gt_in (in_t1 (List.mem_of_getElem? (i := 145) rfl)) rfl
set_option maxRecDepth 20000 in
theorem wd_1_147 : Jvm.Cond.laysFinal "ChipMap$Device" "ChipMap$Device" "kept" "[I" ∈ GT := gt_in (in_t1 (List.mem_of_getElem? (i := 147) rfl)) rfl
set_option maxRecDepth 20000 in
theorem wd_1_149 : Jvm.Cond.laysFinal "ChipMap$Device" "ChipMap$Device" "readsLeft" "[I" ∈ GT := gt_in (in_t1 (List.mem_of_getElem? (i := 149) rfl)) rfl
set_option maxRecDepth 20000 in
theorem wd_1_160 : Jvm.Cond.fieldLink "ChipMap$Plan" (18 : Nat) "ChipMap$Plan" "layout" "LChipMap$Layout;" ∈ GT := gt_in (in_t1 (List.mem_of_getElem? (i := 160) rfl)) rfl
set_option maxRecDepth 20000 in
theorem wd_1_161 : Jvm.Cond.fieldLink "ChipMap$Plan" (27 : Nat) "ChipMap$Plan" "mind" "LChipMap$Mind;" ∈ GT := gt_in (in_t1 (List.mem_of_getElem? (i := 161) rfl)) rfl
set_option maxRecDepth 20000 in
theorem wd_1_162 : Jvm.Cond.fieldLink "ChipMap$Checker" (54 : Nat) "ChipMap$Plan" "mind" "LChipMap$Mind;" ∈ GT := gt_in (in_t1 (List.mem_of_getElem? (i := 162) rfl)) rfl
set_option maxRecDepth 20000 in
theorem wd_1_163 : Jvm.Cond.fieldLink "ChipMap$Plan" (38 : Nat) "ChipMap$Plan" "writes" "I" ∈ GT := gt_in (in_t1 (List.mem_of_getElem? (i := 163) rfl)) rfl
set_option maxRecDepth 20000 in
theorem wd_1_164 : Jvm.Cond.fieldLink "ChipMap" (289 : Nat) "ChipMap$Plan" "writes" "I" ∈ GT := gt_in (in_t1 (List.mem_of_getElem? (i := 164) rfl)) rfl
set_option maxRecDepth 20000 in
theorem wd_1_165 : Jvm.Cond.fieldLink "ChipMap$Plan" (11 : Nat) "ChipMap$Plan" "register" "[I" ∈ GT := gt_in (in_t1 (List.mem_of_getElem? (i := 165) rfl)) rfl
set_option maxRecDepth 20000 in
theorem wd_1_166 : Jvm.Cond.fieldLink "ChipMap" (292 : Nat) "ChipMap$Plan" "register" "[I" ∈ GT := gt_in (in_t1 (List.mem_of_getElem? (i := 166) rfl)) rfl
set_option maxRecDepth 20000 in
theorem wd_1_167 : Jvm.Cond.fieldLink "ChipMap$Plan" (15 : Nat) "ChipMap$Plan" "word" "[I" ∈ GT := gt_in (in_t1 (List.mem_of_getElem? (i := 167) rfl)) rfl
set_option maxRecDepth 20000 in
theorem wd_1_168 : Jvm.Cond.fieldLink "ChipMap" (295 : Nat) "ChipMap$Plan" "word" "[I" ∈ GT := gt_in (in_t1 (List.mem_of_getElem? (i := 168) rfl)) rfl
set_option maxRecDepth 20000 in
theorem wd_1_169 : Jvm.Cond.fieldLink "ChipMap$Plan" (42 : Nat) "ChipMap$Plan" "broken" "I" ∈ GT := gt_in (in_t1 (List.mem_of_getElem? (i := 169) rfl)) rfl
set_option maxRecDepth 20000 in
theorem wd_1_170 : Jvm.Cond.fieldLink "ChipMap$Checker" (95 : Nat) "ChipMap$Plan" "broken" "I" ∈ GT := gt_in (in_t1 (List.mem_of_getElem? (i := 170) rfl)) rfl
set_option maxRecDepth 20000 in
theorem wd_1_171 : Jvm.Cond.fieldLink "ChipMap" (286 : Nat) "ChipMap$Plan" "broken" "I" ∈ GT := gt_in (in_t1 (List.mem_of_getElem? (i := 171) rfl)) rfl
set_option maxRecDepth 20000 in
theorem wd_1_172 : Jvm.Cond.laysFinal "ChipMap$Plan" "ChipMap$Plan" "layout" "LChipMap$Layout;" ∈ GT := gt_in (in_t1 (List.mem_of_getElem? (i := 172) rfl)) rfl
set_option maxRecDepth 20000 in
theorem wd_1_174 : Jvm.Cond.laysFinal "ChipMap$Plan" "ChipMap$Plan" "mind" "LChipMap$Mind;" ∈ GT := gt_in (in_t1 (List.mem_of_getElem? (i := 174) rfl)) rfl
set_option maxRecDepth 20000 in
theorem wd_1_176 : Jvm.Cond.lays "ChipMap$Plan" "ChipMap$Plan" "writes" "I" ∈ GT := gt_in (in_t1 (List.mem_of_getElem? (i := 176) rfl)) rfl
set_option maxRecDepth 20000 in
theorem wd_1_178 : Jvm.Cond.laysFinal "ChipMap$Plan" "ChipMap$Plan" "register" "[I" ∈ GT := gt_in (in_t1 (List.mem_of_getElem? (i := 178) rfl)) rfl
set_option maxRecDepth 20000 in
theorem wd_1_180 : Jvm.Cond.laysFinal "ChipMap$Plan" "ChipMap$Plan" "word" "[I" ∈ GT := gt_in (in_t1 (List.mem_of_getElem? (i := 180) rfl)) rfl
set_option maxRecDepth 20000 in
theorem wd_1_182 : Jvm.Cond.lays "ChipMap$Plan" "ChipMap$Plan" "broken" "I" ∈ GT := gt_in (in_t1 (List.mem_of_getElem? (i := 182) rfl)) rfl
set_option maxRecDepth 20000 in
theorem wd_1_191 : Jvm.Cond.fieldLink "ChipMap$Steps" (19 : Nat) "ChipMap$Steps" "count" "I" ∈ GT := gt_in (in_t1 (List.mem_of_getElem? (i := 191) rfl)) rfl
set_option maxRecDepth 20000 in
theorem wd_1_192 : Jvm.Cond.fieldLink "ChipMap$Checker" (73 : Nat) "ChipMap$Steps" "count" "I" ∈ GT := gt_in (in_t1 (List.mem_of_getElem? (i := 192) rfl)) rfl
set_option maxRecDepth 20000 in
theorem wd_1_193 : Jvm.Cond.fieldLink "ChipMap" (101 : Nat) "ChipMap$Steps" "count" "I" ∈ GT := gt_in (in_t1 (List.mem_of_getElem? (i := 193) rfl)) rfl
set_option maxRecDepth 20000 in
theorem wd_1_194 : Jvm.Cond.fieldLink "ChipMap$Plan" (75 : Nat) "ChipMap$Steps" "count" "I" ∈ GT := gt_in (in_t1 (List.mem_of_getElem? (i := 194) rfl)) rfl
set_option maxRecDepth 20000 in
theorem wd_1_195 : Jvm.Cond.fieldLink "ChipMap$Steps" (7 : Nat) "ChipMap$Steps" "kind" "[I" ∈ GT := gt_in (in_t1 (List.mem_of_getElem? (i := 195) rfl)) rfl
set_option maxRecDepth 20000 in
theorem wd_1_196 : Jvm.Cond.fieldLink "ChipMap$Checker" (76 : Nat) "ChipMap$Steps" "kind" "[I" ∈ GT := gt_in (in_t1 (List.mem_of_getElem? (i := 196) rfl)) rfl
set_option maxRecDepth 20000 in
theorem wd_1_197 : Jvm.Cond.fieldLink "ChipMap" (261 : Nat) "ChipMap$Steps" "kind" "[I" ∈ GT := gt_in (in_t1 (List.mem_of_getElem? (i := 197) rfl)) rfl
set_option maxRecDepth 20000 in
theorem wd_1_198 : Jvm.Cond.fieldLink "ChipMap$Steps" (13 : Nat) "ChipMap$Steps" "f" "[I" ∈ GT := gt_in (in_t1 (List.mem_of_getElem? (i := 198) rfl)) rfl
set_option maxRecDepth 20000 in
theorem wd_1_199 : Jvm.Cond.fieldLink "ChipMap$Checker" (85 : Nat) "ChipMap$Steps" "f" "[I" ∈ GT := gt_in (in_t1 (List.mem_of_getElem? (i := 199) rfl)) rfl
set_option maxRecDepth 20000 in
theorem wd_1_200 : Jvm.Cond.fieldLink "ChipMap$Plan" (84 : Nat) "ChipMap$Steps" "f" "[I" ∈ GT := gt_in (in_t1 (List.mem_of_getElem? (i := 200) rfl)) rfl
set_option maxRecDepth 20000 in
theorem wd_1_201 : Jvm.Cond.fieldLink "ChipMap" (280 : Nat) "ChipMap$Steps" "f" "[I" ∈ GT := gt_in (in_t1 (List.mem_of_getElem? (i := 201) rfl)) rfl
set_option maxRecDepth 20000 in
theorem wd_1_202 : Jvm.Cond.fieldLink "ChipMap$Steps" (16 : Nat) "ChipMap$Steps" "v" "[I" ∈ GT := gt_in (in_t1 (List.mem_of_getElem? (i := 202) rfl)) rfl
set_option maxRecDepth 20000 in
theorem wd_1_203 : Jvm.Cond.fieldLink "ChipMap$Checker" (79 : Nat) "ChipMap$Steps" "v" "[I" ∈ GT := gt_in (in_t1 (List.mem_of_getElem? (i := 203) rfl)) rfl
set_option maxRecDepth 20000 in
theorem wd_1_204 : Jvm.Cond.fieldLink "ChipMap$Plan" (91 : Nat) "ChipMap$Steps" "v" "[I" ∈ GT := gt_in (in_t1 (List.mem_of_getElem? (i := 204) rfl)) rfl
set_option maxRecDepth 20000 in
theorem wd_1_205 : Jvm.Cond.fieldLink "ChipMap" (263 : Nat) "ChipMap$Steps" "v" "[I" ∈ GT := gt_in (in_t1 (List.mem_of_getElem? (i := 205) rfl)) rfl
set_option maxRecDepth 20000 in
theorem wd_1_206 : Jvm.Cond.lays "ChipMap$Steps" "ChipMap$Steps" "count" "I" ∈ GT := gt_in (in_t1 (List.mem_of_getElem? (i := 206) rfl)) rfl
set_option maxRecDepth 20000 in
theorem wd_1_208 : Jvm.Cond.laysFinal "ChipMap$Steps" "ChipMap$Steps" "kind" "[I" ∈ GT := gt_in (in_t1 (List.mem_of_getElem? (i := 208) rfl)) rfl
set_option maxRecDepth 20000 in
theorem wd_1_210 : Jvm.Cond.laysFinal "ChipMap$Steps" "ChipMap$Steps" "f" "[I" ∈ GT := gt_in (in_t1 (List.mem_of_getElem? (i := 210) rfl)) rfl
set_option maxRecDepth 20000 in
theorem wd_1_212 : Jvm.Cond.laysFinal "ChipMap$Steps" "ChipMap$Steps" "v" "[I" ∈ GT := gt_in (in_t1 (List.mem_of_getElem? (i := 212) rfl)) rfl
set_option maxRecDepth 20000 in
theorem wd_1_221 : Jvm.Cond.fieldLink "ChipMap$Checker" (26 : Nat) "ChipMap$Checker" "layout" "LChipMap$Layout;" ∈ GT := gt_in (in_t1 (List.mem_of_getElem? (i := 221) rfl)) rfl
set_option maxRecDepth 20000 in
theorem wd_1_222 : Jvm.Cond.fieldLink "ChipMap$Checker" (30 : Nat) "ChipMap$Checker" "script" "LChipMap$Steps;" ∈ GT := gt_in (in_t1 (List.mem_of_getElem? (i := 222) rfl)) rfl
set_option maxRecDepth 20000 in
theorem wd_1_223 : Jvm.Cond.fieldLink "ChipMap$Checker" (34 : Nat) "ChipMap$Checker" "plan" "LChipMap$Plan;" ∈ GT := gt_in (in_t1 (List.mem_of_getElem? (i := 223) rfl)) rfl
set_option maxRecDepth 20000 in
theorem wd_1_224 : Jvm.Cond.fieldLink "ChipMap$Checker" (11 : Nat) "ChipMap$Checker" "rows" "[J" ∈ GT := gt_in (in_t1 (List.mem_of_getElem? (i := 224) rfl)) rfl
set_option maxRecDepth 20000 in
theorem wd_1_225 : Jvm.Cond.fieldLink "ChipMap$Checker" (15 : Nat) "ChipMap$Checker" "key" "[J" ∈ GT := gt_in (in_t1 (List.mem_of_getElem? (i := 225) rfl)) rfl
set_option maxRecDepth 20000 in
theorem wd_1_226 : Jvm.Cond.fieldLink "ChipMap$Checker" (18 : Nat) "ChipMap$Checker" "slots" "[I" ∈ GT := gt_in (in_t1 (List.mem_of_getElem? (i := 226) rfl)) rfl
set_option maxRecDepth 20000 in
theorem wd_1_227 : Jvm.Cond.fieldLink "ChipMap$Checker" (44 : Nat) "ChipMap$Checker" "count" "I" ∈ GT := gt_in (in_t1 (List.mem_of_getElem? (i := 227) rfl)) rfl
set_option maxRecDepth 20000 in
theorem wd_1_228 : Jvm.Cond.fieldLink "ChipMap" (247 : Nat) "ChipMap$Checker" "count" "I" ∈ GT := gt_in (in_t1 (List.mem_of_getElem? (i := 228) rfl)) rfl
set_option maxRecDepth 20000 in
theorem wd_1_229 : Jvm.Cond.fieldLink "ChipMap$Checker" (47 : Nat) "ChipMap$Checker" "tooMany" "Z" ∈ GT := gt_in (in_t1 (List.mem_of_getElem? (i := 229) rfl)) rfl
set_option maxRecDepth 20000 in
theorem wd_1_230 : Jvm.Cond.fieldLink "ChipMap" (248 : Nat) "ChipMap$Checker" "tooMany" "Z" ∈ GT := gt_in (in_t1 (List.mem_of_getElem? (i := 230) rfl)) rfl
set_option maxRecDepth 20000 in
theorem wd_1_231 : Jvm.Cond.fieldLink "ChipMap$Checker" (22 : Nat) "ChipMap$Checker" "stepTold" "I" ∈ GT := gt_in (in_t1 (List.mem_of_getElem? (i := 231) rfl)) rfl
set_option maxRecDepth 20000 in
theorem wd_1_232 : Jvm.Cond.fieldLink "ChipMap" (255 : Nat) "ChipMap$Checker" "stepTold" "I" ∈ GT := gt_in (in_t1 (List.mem_of_getElem? (i := 232) rfl)) rfl
set_option maxRecDepth 20000 in
theorem wd_1_233 : Jvm.Cond.fieldLink "ChipMap$Checker" (51 : Nat) "ChipMap$Checker" "ruleTold" "I" ∈ GT := gt_in (in_t1 (List.mem_of_getElem? (i := 233) rfl)) rfl
set_option maxRecDepth 20000 in
theorem wd_1_234 : Jvm.Cond.fieldLink "ChipMap" (258 : Nat) "ChipMap$Checker" "ruleTold" "I" ∈ GT := gt_in (in_t1 (List.mem_of_getElem? (i := 234) rfl)) rfl
set_option maxRecDepth 20000 in
theorem wd_1_235 : Jvm.Cond.laysFinal "ChipMap$Checker" "ChipMap$Checker" "layout" "LChipMap$Layout;" ∈ GT := gt_in (in_t1 (List.mem_of_getElem? (i := 235) rfl)) rfl
set_option maxRecDepth 20000 in
theorem wd_1_237 : Jvm.Cond.laysFinal "ChipMap$Checker" "ChipMap$Checker" "script" "LChipMap$Steps;" ∈ GT := gt_in (in_t1 (List.mem_of_getElem? (i := 237) rfl)) rfl
set_option maxRecDepth 20000 in
theorem wd_1_239 : Jvm.Cond.laysFinal "ChipMap$Checker" "ChipMap$Checker" "plan" "LChipMap$Plan;" ∈ GT := gt_in (in_t1 (List.mem_of_getElem? (i := 239) rfl)) rfl
set_option maxRecDepth 20000 in
theorem wd_2_1 : Jvm.Cond.laysFinal "ChipMap$Checker" "ChipMap$Checker" "rows" "[J" ∈ GT := gt_in (in_t2 (List.mem_of_getElem? (i := 1) rfl)) rfl
set_option maxRecDepth 20000 in
theorem wd_2_3 : Jvm.Cond.laysFinal "ChipMap$Checker" "ChipMap$Checker" "key" "[J" ∈ GT := gt_in (in_t2 (List.mem_of_getElem? (i := 3) rfl)) rfl
set_option maxRecDepth 20000 in
theorem wd_2_5 : Jvm.Cond.laysFinal "ChipMap$Checker" "ChipMap$Checker" "slots" "[I" ∈ GT := gt_in (in_t2 (List.mem_of_getElem? (i := 5) rfl)) rfl
set_option maxRecDepth 20000 in
theorem wd_2_7 : Jvm.Cond.lays "ChipMap$Checker" "ChipMap$Checker" "count" "I" ∈ GT := gt_in (in_t2 (List.mem_of_getElem? (i := 7) rfl)) rfl
set_option maxRecDepth 20000 in
theorem wd_2_9 : Jvm.Cond.lays "ChipMap$Checker" "ChipMap$Checker" "tooMany" "Z" ∈ GT := gt_in (in_t2 (List.mem_of_getElem? (i := 9) rfl)) rfl
