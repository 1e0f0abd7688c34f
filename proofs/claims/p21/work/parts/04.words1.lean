set_option maxRecDepth 20000 in
theorem wd_2_11 : Jvm.Cond.lays "ChipMap$Checker" "ChipMap$Checker" "stepTold" "I" ∈ GT := gt_in (in_t2 (List.mem_of_getElem? (i := 11) rfl)) rfl
set_option maxRecDepth 20000 in
theorem wd_2_13 : Jvm.Cond.lays "ChipMap$Checker" "ChipMap$Checker" "ruleTold" "I" ∈ GT := gt_in (in_t2 (List.mem_of_getElem? (i := 13) rfl)) rfl
set_option maxRecDepth 20000 in
theorem wd_2_17 : Jvm.Cond.fieldLink "ChipMap" (12 : Nat) "ChipMap" "draft" "LChipMap$Draft;" ∈ GT := gt_in (in_t2 (List.mem_of_getElem? (i := 17) rfl)) rfl
set_option maxRecDepth 20000 in
theorem wd_2_18 : Jvm.Cond.fieldLink "ChipMap" (21 : Nat) "ChipMap" "reader" "LChipMap$Reader;" ∈ GT := gt_in (in_t2 (List.mem_of_getElem? (i := 18) rfl)) rfl
set_option maxRecDepth 20000 in
theorem wd_2_19 : Jvm.Cond.fieldLink "ChipMap" (28 : Nat) "ChipMap" "judge" "LChipMap$Judge;" ∈ GT := gt_in (in_t2 (List.mem_of_getElem? (i := 19) rfl)) rfl
set_option maxRecDepth 20000 in
theorem wd_2_20 : Jvm.Cond.fieldLink "ChipMap" (35 : Nat) "ChipMap" "layout" "LChipMap$Layout;" ∈ GT := gt_in (in_t2 (List.mem_of_getElem? (i := 20) rfl)) rfl
set_option maxRecDepth 20000 in
theorem wd_2_21 : Jvm.Cond.fieldLink "ChipMap" (44 : Nat) "ChipMap" "device" "LChipMap$Device;" ∈ GT := gt_in (in_t2 (List.mem_of_getElem? (i := 21) rfl)) rfl
set_option maxRecDepth 20000 in
theorem wd_2_22 : Jvm.Cond.fieldLink "ChipMap" (51 : Nat) "ChipMap" "plan" "LChipMap$Plan;" ∈ GT := gt_in (in_t2 (List.mem_of_getElem? (i := 22) rfl)) rfl
set_option maxRecDepth 20000 in
theorem wd_2_23 : Jvm.Cond.fieldLink "ChipMap" (60 : Nat) "ChipMap" "joined" "LChipMap$Steps;" ∈ GT := gt_in (in_t2 (List.mem_of_getElem? (i := 23) rfl)) rfl
set_option maxRecDepth 20000 in
theorem wd_2_24 : Jvm.Cond.fieldLink "ChipMap" (64 : Nat) "ChipMap" "script" "LChipMap$Steps;" ∈ GT := gt_in (in_t2 (List.mem_of_getElem? (i := 24) rfl)) rfl
set_option maxRecDepth 20000 in
theorem wd_2_25 : Jvm.Cond.fieldLink "ChipMap" (72 : Nat) "ChipMap" "checker" "LChipMap$Checker;" ∈ GT := gt_in (in_t2 (List.mem_of_getElem? (i := 25) rfl)) rfl
set_option maxRecDepth 20000 in
theorem wd_2_26 : Jvm.Cond.laysFinal "ChipMap" "ChipMap" "draft" "LChipMap$Draft;" ∈ GT := gt_in (in_t2 (List.mem_of_getElem? (i := 26) rfl)) rfl
set_option maxRecDepth 20000 in
theorem wd_2_28 : Jvm.Cond.laysFinal "ChipMap" "ChipMap" "reader" "LChipMap$Reader;" ∈ GT := gt_in (in_t2 (List.mem_of_getElem? (i := 28) rfl)) rfl
set_option maxRecDepth 20000 in
theorem wd_2_30 : Jvm.Cond.laysFinal "ChipMap" "ChipMap" "judge" "LChipMap$Judge;" ∈ GT := gt_in (in_t2 (List.mem_of_getElem? (i := 30) rfl)) rfl
set_option maxRecDepth 20000 in
theorem wd_2_32 : Jvm.Cond.laysFinal "ChipMap" "ChipMap" "layout" "LChipMap$Layout;" ∈ GT := gt_in (in_t2 (List.mem_of_getElem? (i := 32) rfl)) rfl
set_option maxRecDepth 20000 in
theorem wd_2_34 : Jvm.Cond.laysFinal "ChipMap" "ChipMap" "device" "LChipMap$Device;" ∈ GT := gt_in (in_t2 (List.mem_of_getElem? (i := 34) rfl)) rfl
set_option maxRecDepth 20000 in
theorem wd_2_36 : Jvm.Cond.laysFinal "ChipMap" "ChipMap" "plan" "LChipMap$Plan;" ∈ GT := gt_in (in_t2 (List.mem_of_getElem? (i := 36) rfl)) rfl
set_option maxRecDepth 20000 in
theorem wd_2_38 : Jvm.Cond.laysFinal "ChipMap" "ChipMap" "joined" "LChipMap$Steps;" ∈ GT := gt_in (in_t2 (List.mem_of_getElem? (i := 38) rfl)) rfl
set_option maxRecDepth 20000 in
theorem wd_2_40 : Jvm.Cond.laysFinal "ChipMap" "ChipMap" "script" "LChipMap$Steps;" ∈ GT := gt_in (in_t2 (List.mem_of_getElem? (i := 40) rfl)) rfl
set_option maxRecDepth 20000 in
theorem wd_2_42 : Jvm.Cond.laysFinal "ChipMap" "ChipMap" "checker" "LChipMap$Checker;" ∈ GT := gt_in (in_t2 (List.mem_of_getElem? (i := 42) rfl)) rfl
set_option maxRecDepth 20000 in
theorem wd_2_49 : Jvm.Cond.methodLink "ChipMap" (76 : Nat) ({ cls := "ChipMap$Reader", name := "append", desc := "(JI)Z" } : Jvm.MethodName) ∈ GT := gt_in (in_t2 (List.mem_of_getElem? (i := 49) rfl)) rfl
set_option maxRecDepth 20000 in
theorem wd_2_50 : Jvm.Cond.instanceMethod ({ cls := "ChipMap$Reader", name := "append", desc := "(JI)Z" } : Jvm.MethodName) ∈ GT := gt_in (in_t2 (List.mem_of_getElem? (i := 50) rfl)) rfl
set_option maxRecDepth 20000 in
theorem wd_2_51 : Jvm.Cond.selects "ChipMap$Reader" ({ cls := "ChipMap$Reader", name := "append", desc := "(JI)Z" } : Jvm.MethodName) ({ cls := "ChipMap$Reader", name := "append", desc := "(JI)Z" } : Jvm.MethodName) ∈ GT := gt_in (in_t2 (List.mem_of_getElem? (i := 51) rfl)) rfl
set_option maxRecDepth 20000 in
theorem wd_2_52 : Jvm.Cond.code ({ cls := "ChipMap$Reader", name := "append", desc := "(JI)Z" } : Jvm.MethodName) prog_10_method_2_code (6 : Nat) (Option.some Jvm.ClassFile.FieldType.boolean) ∈ GT := gt_in (in_t2 (List.mem_of_getElem? (i := 52) rfl)) rfl
set_option maxRecDepth 20000 in
theorem wd_2_53 : Jvm.Cond.methodLink "ChipMap$Reader" (23 : Nat) ({ cls := "ChipMap$Reader", name := "byteOf", desc := "(JI)I" } : Jvm.MethodName) ∈ GT := gt_in (in_t2 (List.mem_of_getElem? (i := 53) rfl)) rfl
set_option maxRecDepth 20000 in
theorem wd_2_54 : Jvm.Cond.static ({ cls := "ChipMap$Reader", name := "byteOf", desc := "(JI)I" } : Jvm.MethodName) ∈ GT := gt_in (in_t2 (List.mem_of_getElem? (i := 54) rfl)) rfl
set_option maxRecDepth 20000 in
theorem wd_2_55 : Jvm.Cond.code ({ cls := "ChipMap$Reader", name := "byteOf", desc := "(JI)I" } : Jvm.MethodName) prog_10_method_3_code (3 : Nat) (Option.some Jvm.ClassFile.FieldType.int) ∈ GT := gt_in (in_t2 (List.mem_of_getElem? (i := 55) rfl)) rfl
set_option maxRecDepth 20000 in
theorem wd_2_64 : Jvm.Cond.methodLink "ChipMap" (113 : Nat) ({ cls := "ChipMap$Layout", name := "has", desc := "(I)Z" } : Jvm.MethodName) ∈ GT := gt_in (in_t2 (List.mem_of_getElem? (i := 64) rfl)) rfl
set_option maxRecDepth 20000 in
theorem wd_2_65 : Jvm.Cond.instanceMethod ({ cls := "ChipMap$Layout", name := "has", desc := "(I)Z" } : Jvm.MethodName) ∈ GT := gt_in (in_t2 (List.mem_of_getElem? (i := 65) rfl)) rfl
set_option maxRecDepth 20000 in
theorem wd_2_66 : Jvm.Cond.selects "ChipMap$Layout" ({ cls := "ChipMap$Layout", name := "has", desc := "(I)Z" } : Jvm.MethodName) ({ cls := "ChipMap$Layout", name := "has", desc := "(I)Z" } : Jvm.MethodName) ∈ GT := gt_in (in_t2 (List.mem_of_getElem? (i := 66) rfl)) rfl
set_option maxRecDepth 20000 in
theorem wd_2_67 : Jvm.Cond.code ({ cls := "ChipMap$Layout", name := "has", desc := "(I)Z" } : Jvm.MethodName) prog_6_method_4_code (2 : Nat) (Option.some Jvm.ClassFile.FieldType.boolean) ∈ GT := gt_in (in_t2 (List.mem_of_getElem? (i := 67) rfl)) rfl
set_option maxRecDepth 20000 in
theorem wd_2_68 : Jvm.Cond.methodLink "ChipMap" (127 : Nat) ({ cls := "ChipMap$Device", name := "valueOf", desc := "(I)I" } : Jvm.MethodName) ∈ GT := gt_in (in_t2 (List.mem_of_getElem? (i := 68) rfl)) rfl
set_option maxRecDepth 20000 in
theorem wd_2_69 : Jvm.Cond.instanceMethod ({ cls := "ChipMap$Device", name := "valueOf", desc := "(I)I" } : Jvm.MethodName) ∈ GT := gt_in (in_t2 (List.mem_of_getElem? (i := 69) rfl)) rfl
set_option maxRecDepth 20000 in
theorem wd_2_70 : Jvm.Cond.selects "ChipMap$Device" ({ cls := "ChipMap$Device", name := "valueOf", desc := "(I)I" } : Jvm.MethodName) ({ cls := "ChipMap$Device", name := "valueOf", desc := "(I)I" } : Jvm.MethodName) ∈ GT := gt_in (in_t2 (List.mem_of_getElem? (i := 70) rfl)) rfl
set_option maxRecDepth 20000 in
theorem wd_2_71 : Jvm.Cond.code ({ cls := "ChipMap$Device", name := "valueOf", desc := "(I)I" } : Jvm.MethodName) prog_3_method_4_code (3 : Nat) (Option.some Jvm.ClassFile.FieldType.int) ∈ GT := gt_in (in_t2 (List.mem_of_getElem? (i := 71) rfl)) rfl
set_option maxRecDepth 20000 in
theorem wd_2_72 : Jvm.Cond.methodLink "ChipMap$Device" (79 : Nat) ({ cls := "ChipMap$Layout", name := "bitsOf", desc := "(II)I" } : Jvm.MethodName) ∈ GT := gt_in (in_t2 (List.mem_of_getElem? (i := 72) rfl)) rfl
set_option maxRecDepth 20000 in
theorem wd_2_73 : Jvm.Cond.instanceMethod ({ cls := "ChipMap$Layout", name := "bitsOf", desc := "(II)I" } : Jvm.MethodName) ∈ GT := gt_in (in_t2 (List.mem_of_getElem? (i := 73) rfl)) rfl
set_option maxRecDepth 20000 in
theorem wd_2_74 : Jvm.Cond.selects "ChipMap$Layout" ({ cls := "ChipMap$Layout", name := "bitsOf", desc := "(II)I" } : Jvm.MethodName) ({ cls := "ChipMap$Layout", name := "bitsOf", desc := "(II)I" } : Jvm.MethodName) ∈ GT := gt_in (in_t2 (List.mem_of_getElem? (i := 74) rfl)) rfl
set_option maxRecDepth 20000 in
theorem wd_2_75 : Jvm.Cond.code ({ cls := "ChipMap$Layout", name := "bitsOf", desc := "(II)I" } : Jvm.MethodName) prog_6_method_9_code (3 : Nat) (Option.some Jvm.ClassFile.FieldType.int) ∈ GT := gt_in (in_t2 (List.mem_of_getElem? (i := 75) rfl)) rfl
set_option maxRecDepth 20000 in
theorem wd_2_76 : Jvm.Cond.methodLink "ChipMap" (134 : Nat) ({ cls := "ChipMap$Layout", name := "bitsOf", desc := "(II)I" } : Jvm.MethodName) ∈ GT := gt_in (in_t2 (List.mem_of_getElem? (i := 76) rfl)) rfl
set_option maxRecDepth 20000 in
theorem wd_2_81 : Jvm.Cond.methodLink "ChipMap" (138 : Nat) ({ cls := "ChipMap", name := "hasMap", desc := "()Z" } : Jvm.MethodName) ∈ GT := gt_in (in_t2 (List.mem_of_getElem? (i := 81) rfl)) rfl
set_option maxRecDepth 20000 in
theorem wd_2_83 : Jvm.Cond.instanceMethod ({ cls := "ChipMap", name := "hasMap", desc := "()Z" } : Jvm.MethodName) ∈ GT := gt_in (in_t2 (List.mem_of_getElem? (i := 83) rfl)) rfl
set_option maxRecDepth 20000 in
theorem wd_2_84 : Jvm.Cond.code ({ cls := "ChipMap", name := "hasMap", desc := "()Z" } : Jvm.MethodName) prog_1_method_22_code (1 : Nat) (Option.some Jvm.ClassFile.FieldType.boolean) ∈ GT := gt_in (in_t2 (List.mem_of_getElem? (i := 84) rfl)) rfl
set_option maxRecDepth 20000 in
theorem wd_2_85 : Jvm.Cond.methodLink "ChipMap" (104 : Nat) ({ cls := "ChipMap", name := "startAgain", desc := "()V" } : Jvm.MethodName) ∈ GT := gt_in (in_t2 (List.mem_of_getElem? (i := 85) rfl)) rfl
set_option maxRecDepth 20000 in
theorem wd_2_87 : Jvm.Cond.instanceMethod ({ cls := "ChipMap", name := "startAgain", desc := "()V" } : Jvm.MethodName) ∈ GT := gt_in (in_t2 (List.mem_of_getElem? (i := 87) rfl)) rfl
set_option maxRecDepth 20000 in
theorem wd_2_88 : Jvm.Cond.code ({ cls := "ChipMap", name := "startAgain", desc := "()V" } : Jvm.MethodName) prog_1_method_23_code (1 : Nat) (Option.none : Option Jvm.ClassFile.FieldType) ∈ GT := gt_in (in_t2 (List.mem_of_getElem? (i := 88) rfl)) rfl
set_option maxRecDepth 20000 in
theorem wd_2_89 : Jvm.Cond.methodLink "ChipMap" (277 : Nat) ({ cls := "ChipMap$Device", name := "restart", desc := "()V" } : Jvm.MethodName) ∈ GT := gt_in (in_t2 (List.mem_of_getElem? (i := 89) rfl)) rfl
set_option maxRecDepth 20000 in
theorem wd_2_90 : Jvm.Cond.instanceMethod ({ cls := "ChipMap$Device", name := "restart", desc := "()V" } : Jvm.MethodName) ∈ GT := gt_in (in_t2 (List.mem_of_getElem? (i := 90) rfl)) rfl
set_option maxRecDepth 20000 in
theorem wd_2_91 : Jvm.Cond.selects "ChipMap$Device" ({ cls := "ChipMap$Device", name := "restart", desc := "()V" } : Jvm.MethodName) ({ cls := "ChipMap$Device", name := "restart", desc := "()V" } : Jvm.MethodName) ∈ GT := gt_in (in_t2 (List.mem_of_getElem? (i := 91) rfl)) rfl
set_option maxRecDepth 20000 in
theorem wd_2_92 : Jvm.Cond.code ({ cls := "ChipMap$Device", name := "restart", desc := "()V" } : Jvm.MethodName) prog_3_method_2_code (2 : Nat) (Option.none : Option Jvm.ClassFile.FieldType) ∈ GT := gt_in (in_t2 (List.mem_of_getElem? (i := 92) rfl)) rfl
set_option maxRecDepth 20000 in
theorem wd_2_93 : Jvm.Cond.methodLink "ChipMap$Device" (41 : Nat) ({ cls := "ChipMap$Mind", name := "restart", desc := "()V" } : Jvm.MethodName) ∈ GT := gt_in (in_t2 (List.mem_of_getElem? (i := 93) rfl)) rfl
set_option maxRecDepth 20000 in
theorem wd_2_94 : Jvm.Cond.instanceMethod ({ cls := "ChipMap$Mind", name := "restart", desc := "()V" } : Jvm.MethodName) ∈ GT := gt_in (in_t2 (List.mem_of_getElem? (i := 94) rfl)) rfl
set_option maxRecDepth 20000 in
theorem wd_2_95 : Jvm.Cond.selects "ChipMap$Mind" ({ cls := "ChipMap$Mind", name := "restart", desc := "()V" } : Jvm.MethodName) ({ cls := "ChipMap$Mind", name := "restart", desc := "()V" } : Jvm.MethodName) ∈ GT := gt_in (in_t2 (List.mem_of_getElem? (i := 95) rfl)) rfl
set_option maxRecDepth 20000 in
theorem wd_2_96 : Jvm.Cond.code ({ cls := "ChipMap$Mind", name := "restart", desc := "()V" } : Jvm.MethodName) prog_8_method_2_code (2 : Nat) (Option.none : Option Jvm.ClassFile.FieldType) ∈ GT := gt_in (in_t2 (List.mem_of_getElem? (i := 96) rfl)) rfl
set_option maxRecDepth 20000 in
theorem wd_2_97 : Jvm.Cond.methodLink "ChipMap$Device" (52 : Nat) ({ cls := "java/util/Arrays", name := "fill", desc := "([II)V" } : Jvm.MethodName) ∈ GT := gt_in (in_t2 (List.mem_of_getElem? (i := 97) rfl)) rfl
set_option maxRecDepth 20000 in
theorem wd_2_102 : Jvm.Cond.methodLink "ChipMap" (141 : Nat) ({ cls := "ChipMap$Device", name := "registerAt", desc := "(I)I" } : Jvm.MethodName) ∈ GT := gt_in (in_t2 (List.mem_of_getElem? (i := 102) rfl)) rfl
set_option maxRecDepth 20000 in
theorem wd_2_103 : Jvm.Cond.instanceMethod ({ cls := "ChipMap$Device", name := "registerAt", desc := "(I)I" } : Jvm.MethodName) ∈ GT := gt_in (in_t2 (List.mem_of_getElem? (i := 103) rfl)) rfl
set_option maxRecDepth 20000 in
theorem wd_2_104 : Jvm.Cond.selects "ChipMap$Device" ({ cls := "ChipMap$Device", name := "registerAt", desc := "(I)I" } : Jvm.MethodName) ({ cls := "ChipMap$Device", name := "registerAt", desc := "(I)I" } : Jvm.MethodName) ∈ GT := gt_in (in_t2 (List.mem_of_getElem? (i := 104) rfl)) rfl
set_option maxRecDepth 20000 in
theorem wd_2_105 : Jvm.Cond.code ({ cls := "ChipMap$Device", name := "registerAt", desc := "(I)I" } : Jvm.MethodName) prog_3_method_3_code (3 : Nat) (Option.some Jvm.ClassFile.FieldType.int) ∈ GT := gt_in (in_t2 (List.mem_of_getElem? (i := 105) rfl)) rfl
set_option maxRecDepth 20000 in
theorem wd_2_106 : Jvm.Cond.methodLink "ChipMap$Device" (71 : Nat) ({ cls := "ChipMap$Mind", name := "isThere", desc := "(I)Z" } : Jvm.MethodName) ∈ GT := gt_in (in_t2 (List.mem_of_getElem? (i := 106) rfl)) rfl
set_option maxRecDepth 20000 in
theorem wd_2_107 : Jvm.Cond.instanceMethod ({ cls := "ChipMap$Mind", name := "isThere", desc := "(I)Z" } : Jvm.MethodName) ∈ GT := gt_in (in_t2 (List.mem_of_getElem? (i := 107) rfl)) rfl
set_option maxRecDepth 20000 in
theorem wd_2_108 : Jvm.Cond.selects "ChipMap$Mind" ({ cls := "ChipMap$Mind", name := "isThere", desc := "(I)Z" } : Jvm.MethodName) ({ cls := "ChipMap$Mind", name := "isThere", desc := "(I)Z" } : Jvm.MethodName) ∈ GT := gt_in (in_t2 (List.mem_of_getElem? (i := 108) rfl)) rfl
set_option maxRecDepth 20000 in
theorem wd_2_109 : Jvm.Cond.code ({ cls := "ChipMap$Mind", name := "isThere", desc := "(I)Z" } : Jvm.MethodName) prog_8_method_4_code (3 : Nat) (Option.some Jvm.ClassFile.FieldType.boolean) ∈ GT := gt_in (in_t2 (List.mem_of_getElem? (i := 109) rfl)) rfl
set_option maxRecDepth 20000 in
theorem wd_2_110 : Jvm.Cond.methodLink "ChipMap$Mind" (38 : Nat) ({ cls := "ChipMap$Mind", name := "knownValue", desc := "(I)I" } : Jvm.MethodName) ∈ GT := gt_in (in_t2 (List.mem_of_getElem? (i := 110) rfl)) rfl
set_option maxRecDepth 20000 in
theorem wd_2_111 : Jvm.Cond.instanceMethod ({ cls := "ChipMap$Mind", name := "knownValue", desc := "(I)I" } : Jvm.MethodName) ∈ GT := gt_in (in_t2 (List.mem_of_getElem? (i := 111) rfl)) rfl
set_option maxRecDepth 20000 in
theorem wd_2_112 : Jvm.Cond.selects "ChipMap$Mind" ({ cls := "ChipMap$Mind", name := "knownValue", desc := "(I)I" } : Jvm.MethodName) ({ cls := "ChipMap$Mind", name := "knownValue", desc := "(I)I" } : Jvm.MethodName) ∈ GT := gt_in (in_t2 (List.mem_of_getElem? (i := 112) rfl)) rfl
set_option maxRecDepth 20000 in
theorem wd_2_113 : Jvm.Cond.code ({ cls := "ChipMap$Mind", name := "knownValue", desc := "(I)I" } : Jvm.MethodName) prog_8_method_5_code (2 : Nat) (Option.some Jvm.ClassFile.FieldType.int) ∈ GT := gt_in (in_t2 (List.mem_of_getElem? (i := 113) rfl)) rfl
set_option maxRecDepth 20000 in
theorem wd_2_114 : Jvm.Cond.constant "ChipMap" (148 : Nat) (65535 : Int32) ∈ GT := gt_in (in_t2 (List.mem_of_getElem? (i := 114) rfl)) rfl
set_option maxRecDepth 20000 in
theorem wd_2_115 : Jvm.Cond.methodLink "ChipMap" (149 : Nat) ({ cls := "ChipMap$Mind", name := "brokenBy", desc := "(II)I" } : Jvm.MethodName) ∈ GT := gt_in (in_t2 (List.mem_of_getElem? (i := 115) rfl)) rfl
set_option maxRecDepth 20000 in
theorem wd_2_116 : Jvm.Cond.instanceMethod ({ cls := "ChipMap$Mind", name := "brokenBy", desc := "(II)I" } : Jvm.MethodName) ∈ GT := gt_in (in_t2 (List.mem_of_getElem? (i := 116) rfl)) rfl
set_option maxRecDepth 20000 in
theorem wd_2_117 : Jvm.Cond.selects "ChipMap$Mind" ({ cls := "ChipMap$Mind", name := "brokenBy", desc := "(II)I" } : Jvm.MethodName) ({ cls := "ChipMap$Mind", name := "brokenBy", desc := "(II)I" } : Jvm.MethodName) ∈ GT := gt_in (in_t2 (List.mem_of_getElem? (i := 117) rfl)) rfl
set_option maxRecDepth 20000 in
theorem wd_2_118 : Jvm.Cond.code ({ cls := "ChipMap$Mind", name := "brokenBy", desc := "(II)I" } : Jvm.MethodName) prog_8_method_6_code (8 : Nat) (Option.some Jvm.ClassFile.FieldType.int) ∈ GT := gt_in (in_t2 (List.mem_of_getElem? (i := 118) rfl)) rfl
set_option maxRecDepth 20000 in
theorem wd_2_119 : Jvm.Cond.methodLink "ChipMap$Mind" (69 : Nat) ({ cls := "ChipMap$Mind", name := "isWritten", desc := "(III)Z" } : Jvm.MethodName) ∈ GT := gt_in (in_t2 (List.mem_of_getElem? (i := 119) rfl)) rfl
set_option maxRecDepth 20000 in
theorem wd_2_121 : Jvm.Cond.instanceMethod ({ cls := "ChipMap$Mind", name := "isWritten", desc := "(III)Z" } : Jvm.MethodName) ∈ GT := gt_in (in_t2 (List.mem_of_getElem? (i := 121) rfl)) rfl
set_option maxRecDepth 20000 in
theorem wd_2_122 : Jvm.Cond.code ({ cls := "ChipMap$Mind", name := "isWritten", desc := "(III)Z" } : Jvm.MethodName) prog_8_method_8_code (4 : Nat) (Option.some Jvm.ClassFile.FieldType.boolean) ∈ GT := gt_in (in_t2 (List.mem_of_getElem? (i := 122) rfl)) rfl
set_option maxRecDepth 20000 in
theorem wd_2_123 : Jvm.Cond.methodLink "ChipMap" (154 : Nat) ({ cls := "ChipMap$Device", name := "write", desc := "(II)V" } : Jvm.MethodName) ∈ GT := gt_in (in_t2 (List.mem_of_getElem? (i := 123) rfl)) rfl
set_option maxRecDepth 20000 in
theorem wd_2_124 : Jvm.Cond.instanceMethod ({ cls := "ChipMap$Device", name := "write", desc := "(II)V" } : Jvm.MethodName) ∈ GT := gt_in (in_t2 (List.mem_of_getElem? (i := 124) rfl)) rfl
set_option maxRecDepth 20000 in
theorem wd_2_125 : Jvm.Cond.selects "ChipMap$Device" ({ cls := "ChipMap$Device", name := "write", desc := "(II)V" } : Jvm.MethodName) ({ cls := "ChipMap$Device", name := "write", desc := "(II)V" } : Jvm.MethodName) ∈ GT := gt_in (in_t2 (List.mem_of_getElem? (i := 125) rfl)) rfl
set_option maxRecDepth 20000 in
theorem wd_2_126 : Jvm.Cond.code ({ cls := "ChipMap$Device", name := "write", desc := "(II)V" } : Jvm.MethodName) prog_3_method_6_code (3 : Nat) (Option.none : Option Jvm.ClassFile.FieldType) ∈ GT := gt_in (in_t2 (List.mem_of_getElem? (i := 126) rfl)) rfl
set_option maxRecDepth 20000 in
theorem wd_2_127 : Jvm.Cond.methodLink "ChipMap$Device" (89 : Nat) ({ cls := "ChipMap$Log", name := "add", desc := "(III)V" } : Jvm.MethodName) ∈ GT := gt_in (in_t2 (List.mem_of_getElem? (i := 127) rfl)) rfl
set_option maxRecDepth 20000 in
theorem wd_2_128 : Jvm.Cond.instanceMethod ({ cls := "ChipMap$Log", name := "add", desc := "(III)V" } : Jvm.MethodName) ∈ GT := gt_in (in_t2 (List.mem_of_getElem? (i := 128) rfl)) rfl
set_option maxRecDepth 20000 in
theorem wd_2_129 : Jvm.Cond.selects "ChipMap$Log" ({ cls := "ChipMap$Log", name := "add", desc := "(III)V" } : Jvm.MethodName) ({ cls := "ChipMap$Log", name := "add", desc := "(III)V" } : Jvm.MethodName) ∈ GT := gt_in (in_t2 (List.mem_of_getElem? (i := 129) rfl)) rfl
set_option maxRecDepth 20000 in
theorem wd_2_130 : Jvm.Cond.code ({ cls := "ChipMap$Log", name := "add", desc := "(III)V" } : Jvm.MethodName) prog_7_method_2_code (5 : Nat) (Option.none : Option Jvm.ClassFile.FieldType) ∈ GT := gt_in (in_t2 (List.mem_of_getElem? (i := 130) rfl)) rfl
set_option maxRecDepth 20000 in
theorem wd_2_131 : Jvm.Cond.methodLink "ChipMap$Device" (93 : Nat) ({ cls := "ChipMap$Mind", name := "write", desc := "(II)V" } : Jvm.MethodName) ∈ GT := gt_in (in_t2 (List.mem_of_getElem? (i := 131) rfl)) rfl
set_option maxRecDepth 20000 in
theorem wd_2_132 : Jvm.Cond.instanceMethod ({ cls := "ChipMap$Mind", name := "write", desc := "(II)V" } : Jvm.MethodName) ∈ GT := gt_in (in_t2 (List.mem_of_getElem? (i := 132) rfl)) rfl
set_option maxRecDepth 20000 in
theorem wd_2_133 : Jvm.Cond.selects "ChipMap$Mind" ({ cls := "ChipMap$Mind", name := "write", desc := "(II)V" } : Jvm.MethodName) ({ cls := "ChipMap$Mind", name := "write", desc := "(II)V" } : Jvm.MethodName) ∈ GT := gt_in (in_t2 (List.mem_of_getElem? (i := 133) rfl)) rfl
set_option maxRecDepth 20000 in
theorem wd_2_134 : Jvm.Cond.code ({ cls := "ChipMap$Mind", name := "write", desc := "(II)V" } : Jvm.MethodName) prog_8_method_7_code (5 : Nat) (Option.none : Option Jvm.ClassFile.FieldType) ∈ GT := gt_in (in_t2 (List.mem_of_getElem? (i := 134) rfl)) rfl
set_option maxRecDepth 20000 in
theorem wd_2_135 : Jvm.Cond.methodLink "ChipMap$Device" (101 : Nat) ({ cls := "ChipMap$Device", name := "startPulses", desc := "(II)V" } : Jvm.MethodName) ∈ GT := gt_in (in_t2 (List.mem_of_getElem? (i := 135) rfl)) rfl
set_option maxRecDepth 20000 in
theorem wd_2_137 : Jvm.Cond.instanceMethod ({ cls := "ChipMap$Device", name := "startPulses", desc := "(II)V" } : Jvm.MethodName) ∈ GT := gt_in (in_t2 (List.mem_of_getElem? (i := 137) rfl)) rfl
set_option maxRecDepth 20000 in
theorem wd_2_138 : Jvm.Cond.code ({ cls := "ChipMap$Device", name := "startPulses", desc := "(II)V" } : Jvm.MethodName) prog_3_method_7_code (4 : Nat) (Option.none : Option Jvm.ClassFile.FieldType) ∈ GT := gt_in (in_t2 (List.mem_of_getElem? (i := 138) rfl)) rfl
set_option maxRecDepth 20000 in
theorem wd_2_139 : Jvm.Cond.methodLink "ChipMap$Device" (107 : Nat) ({ cls := "ChipMap$Device", name := "setLoose", desc := "(II)V" } : Jvm.MethodName) ∈ GT := gt_in (in_t2 (List.mem_of_getElem? (i := 139) rfl)) rfl
set_option maxRecDepth 20000 in
theorem wd_2_140 : Jvm.Cond.instanceMethod ({ cls := "ChipMap$Device", name := "setLoose", desc := "(II)V" } : Jvm.MethodName) ∈ GT := gt_in (in_t2 (List.mem_of_getElem? (i := 140) rfl)) rfl
set_option maxRecDepth 20000 in
theorem wd_2_141 : Jvm.Cond.selects "ChipMap$Device" ({ cls := "ChipMap$Device", name := "setLoose", desc := "(II)V" } : Jvm.MethodName) ({ cls := "ChipMap$Device", name := "setLoose", desc := "(II)V" } : Jvm.MethodName) ∈ GT := gt_in (in_t2 (List.mem_of_getElem? (i := 141) rfl)) rfl
set_option maxRecDepth 20000 in
theorem wd_2_142 : Jvm.Cond.code ({ cls := "ChipMap$Device", name := "setLoose", desc := "(II)V" } : Jvm.MethodName) prog_3_method_5_code (4 : Nat) (Option.none : Option Jvm.ClassFile.FieldType) ∈ GT := gt_in (in_t2 (List.mem_of_getElem? (i := 142) rfl)) rfl
set_option maxRecDepth 20000 in
theorem wd_2_143 : Jvm.Cond.methodLink "ChipMap" (161 : Nat) ({ cls := "java/lang/Integer", name := "bitCount", desc := "(I)I" } : Jvm.MethodName) ∈ GT := gt_in (in_t2 (List.mem_of_getElem? (i := 143) rfl)) rfl
set_option maxRecDepth 20000 in
theorem wd_2_144 : Jvm.Cond.static ({ cls := "java/lang/Integer", name := "bitCount", desc := "(I)I" } : Jvm.MethodName) ∈ GT := gt_in (in_t2 (List.mem_of_getElem? (i := 144) rfl)) rfl
set_option maxRecDepth 20000 in
theorem wd_2_145 : Jvm.Cond.code ({ cls := "java/lang/Integer", name := "bitCount", desc := "(I)I" } : Jvm.MethodName) prog_20_method_49_code (1 : Nat) (Option.some Jvm.ClassFile.FieldType.int) ∈ GT := gt_in (in_t2 (List.mem_of_getElem? (i := 145) rfl)) rfl
set_option maxRecDepth 20000 in
theorem wd_2_146 : Jvm.Cond.constant "java/lang/Integer" (265 : Nat) (1431655765 : Int32) ∈ GT := gt_in (in_t2 (List.mem_of_getElem? (i := 146) rfl)) rfl
set_option maxRecDepth 20000 in
theorem wd_2_147 : Jvm.Cond.constant "java/lang/Integer" (266 : Nat) (858993459 : Int32) ∈ GT := gt_in (in_t2 (List.mem_of_getElem? (i := 147) rfl)) rfl
set_option maxRecDepth 20000 in
theorem wd_2_148 : Jvm.Cond.constant "java/lang/Integer" (267 : Nat) (252645135 : Int32) ∈ GT := gt_in (in_t2 (List.mem_of_getElem? (i := 148) rfl)) rfl
set_option maxRecDepth 20000 in
theorem wd_2_149 : Jvm.Cond.methodLink "ChipMap" (166 : Nat) ({ cls := "java/lang/Integer", name := "numberOfTrailingZeros", desc := "(I)I" } : Jvm.MethodName) ∈ GT := gt_in (in_t2 (List.mem_of_getElem? (i := 149) rfl)) rfl
set_option maxRecDepth 20000 in
theorem wd_2_150 : Jvm.Cond.static ({ cls := "java/lang/Integer", name := "numberOfTrailingZeros", desc := "(I)I" } : Jvm.MethodName) ∈ GT := gt_in (in_t2 (List.mem_of_getElem? (i := 150) rfl)) rfl
set_option maxRecDepth 20000 in
theorem wd_2_151 : Jvm.Cond.code ({ cls := "java/lang/Integer", name := "numberOfTrailingZeros", desc := "(I)I" } : Jvm.MethodName) prog_20_method_48_code (2 : Nat) (Option.some Jvm.ClassFile.FieldType.int) ∈ GT := gt_in (in_t2 (List.mem_of_getElem? (i := 151) rfl)) rfl
set_option maxRecDepth 20000 in
theorem wd_2_152 : Jvm.Cond.constant "java/lang/Integer" (264 : Nat) (65536 : Int32) ∈ GT := gt_in (in_t2 (List.mem_of_getElem? (i := 152) rfl)) rfl
set_option maxRecDepth 20000 in
theorem wd_2_157 : Jvm.Cond.methodLink "ChipMap" (169 : Nat) ({ cls := "ChipMap$Device", name := "read", desc := "(I)I" } : Jvm.MethodName) ∈ GT := gt_in (in_t2 (List.mem_of_getElem? (i := 157) rfl)) rfl
set_option maxRecDepth 20000 in
theorem wd_2_158 : Jvm.Cond.instanceMethod ({ cls := "ChipMap$Device", name := "read", desc := "(I)I" } : Jvm.MethodName) ∈ GT := gt_in (in_t2 (List.mem_of_getElem? (i := 158) rfl)) rfl
set_option maxRecDepth 20000 in
theorem wd_2_159 : Jvm.Cond.selects "ChipMap$Device" ({ cls := "ChipMap$Device", name := "read", desc := "(I)I" } : Jvm.MethodName) ({ cls := "ChipMap$Device", name := "read", desc := "(I)I" } : Jvm.MethodName) ∈ GT := gt_in (in_t2 (List.mem_of_getElem? (i := 159) rfl)) rfl
set_option maxRecDepth 20000 in
theorem wd_2_160 : Jvm.Cond.code ({ cls := "ChipMap$Device", name := "read", desc := "(I)I" } : Jvm.MethodName) prog_3_method_8_code (3 : Nat) (Option.some Jvm.ClassFile.FieldType.int) ∈ GT := gt_in (in_t2 (List.mem_of_getElem? (i := 160) rfl)) rfl
set_option maxRecDepth 20000 in
theorem wd_2_161 : Jvm.Cond.methodLink "ChipMap$Device" (110 : Nat) ({ cls := "ChipMap$Device", name := "countPulses", desc := "(I)V" } : Jvm.MethodName) ∈ GT := gt_in (in_t2 (List.mem_of_getElem? (i := 161) rfl)) rfl
set_option maxRecDepth 20000 in
theorem wd_2_163 : Jvm.Cond.instanceMethod ({ cls := "ChipMap$Device", name := "countPulses", desc := "(I)V" } : Jvm.MethodName) ∈ GT := gt_in (in_t2 (List.mem_of_getElem? (i := 163) rfl)) rfl
set_option maxRecDepth 20000 in
theorem wd_2_164 : Jvm.Cond.code ({ cls := "ChipMap$Device", name := "countPulses", desc := "(I)V" } : Jvm.MethodName) prog_3_method_9_code (3 : Nat) (Option.none : Option Jvm.ClassFile.FieldType) ∈ GT := gt_in (in_t2 (List.mem_of_getElem? (i := 164) rfl)) rfl
set_option maxRecDepth 20000 in
theorem wd_2_169 : Jvm.Cond.methodLink "ChipMap" (172 : Nat) ({ cls := "ChipMap$Layout", name := "fits", desc := "(II)Z" } : Jvm.MethodName) ∈ GT := gt_in (in_t2 (List.mem_of_getElem? (i := 169) rfl)) rfl
set_option maxRecDepth 20000 in
theorem wd_2_170 : Jvm.Cond.instanceMethod ({ cls := "ChipMap$Layout", name := "fits", desc := "(II)Z" } : Jvm.MethodName) ∈ GT := gt_in (in_t2 (List.mem_of_getElem? (i := 170) rfl)) rfl
set_option maxRecDepth 20000 in
theorem wd_2_171 : Jvm.Cond.selects "ChipMap$Layout" ({ cls := "ChipMap$Layout", name := "fits", desc := "(II)Z" } : Jvm.MethodName) ({ cls := "ChipMap$Layout", name := "fits", desc := "(II)Z" } : Jvm.MethodName) ∈ GT := gt_in (in_t2 (List.mem_of_getElem? (i := 171) rfl)) rfl
set_option maxRecDepth 20000 in
theorem wd_2_172 : Jvm.Cond.code ({ cls := "ChipMap$Layout", name := "fits", desc := "(II)Z" } : Jvm.MethodName) prog_6_method_6_code (3 : Nat) (Option.some Jvm.ClassFile.FieldType.boolean) ∈ GT := gt_in (in_t2 (List.mem_of_getElem? (i := 172) rfl)) rfl
set_option maxRecDepth 20000 in
theorem wd_2_173 : Jvm.Cond.methodLink "ChipMap" (179 : Nat) ({ cls := "ChipMap$Device", name := "setLoose", desc := "(II)V" } : Jvm.MethodName) ∈ GT := gt_in (in_t2 (List.mem_of_getElem? (i := 173) rfl)) rfl
set_option maxRecDepth 20000 in
theorem wd_2_178 : Jvm.Cond.methodLink "ChipMap" (182 : Nat) ({ cls := "ChipMap$Layout", name := "canPut", desc := "(II)Z" } : Jvm.MethodName) ∈ GT := gt_in (in_t2 (List.mem_of_getElem? (i := 178) rfl)) rfl
set_option maxRecDepth 20000 in
theorem wd_2_179 : Jvm.Cond.instanceMethod ({ cls := "ChipMap$Layout", name := "canPut", desc := "(II)Z" } : Jvm.MethodName) ∈ GT := gt_in (in_t2 (List.mem_of_getElem? (i := 179) rfl)) rfl
set_option maxRecDepth 20000 in
theorem wd_2_180 : Jvm.Cond.selects "ChipMap$Layout" ({ cls := "ChipMap$Layout", name := "canPut", desc := "(II)Z" } : Jvm.MethodName) ({ cls := "ChipMap$Layout", name := "canPut", desc := "(II)Z" } : Jvm.MethodName) ∈ GT := gt_in (in_t2 (List.mem_of_getElem? (i := 180) rfl)) rfl
set_option maxRecDepth 20000 in
theorem wd_2_181 : Jvm.Cond.code ({ cls := "ChipMap$Layout", name := "canPut", desc := "(II)Z" } : Jvm.MethodName) prog_6_method_7_code (3 : Nat) (Option.some Jvm.ClassFile.FieldType.boolean) ∈ GT := gt_in (in_t2 (List.mem_of_getElem? (i := 181) rfl)) rfl
set_option maxRecDepth 20000 in
theorem wd_2_182 : Jvm.Cond.methodLink "ChipMap$Layout" (112 : Nat) ({ cls := "ChipMap$Layout", name := "has", desc := "(I)Z" } : Jvm.MethodName) ∈ GT := gt_in (in_t2 (List.mem_of_getElem? (i := 182) rfl)) rfl
set_option maxRecDepth 20000 in
theorem wd_2_183 : Jvm.Cond.methodLink "ChipMap$Layout" (115 : Nat) ({ cls := "ChipMap$Layout", name := "fits", desc := "(II)Z" } : Jvm.MethodName) ∈ GT := gt_in (in_t2 (List.mem_of_getElem? (i := 183) rfl)) rfl
set_option maxRecDepth 20000 in
theorem wd_2_184 : Jvm.Cond.methodLink "ChipMap" (185 : Nat) ({ cls := "ChipMap$Plan", name := "begin", desc := "(LChipMap$Mind;)V" } : Jvm.MethodName) ∈ GT := gt_in (in_t2 (List.mem_of_getElem? (i := 184) rfl)) rfl
set_option maxRecDepth 20000 in
theorem wd_2_185 : Jvm.Cond.instanceMethod ({ cls := "ChipMap$Plan", name := "begin", desc := "(LChipMap$Mind;)V" } : Jvm.MethodName) ∈ GT := gt_in (in_t2 (List.mem_of_getElem? (i := 185) rfl)) rfl
set_option maxRecDepth 20000 in
theorem wd_2_186 : Jvm.Cond.selects "ChipMap$Plan" ({ cls := "ChipMap$Plan", name := "begin", desc := "(LChipMap$Mind;)V" } : Jvm.MethodName) ({ cls := "ChipMap$Plan", name := "begin", desc := "(LChipMap$Mind;)V" } : Jvm.MethodName) ∈ GT := gt_in (in_t2 (List.mem_of_getElem? (i := 186) rfl)) rfl
set_option maxRecDepth 20000 in
theorem wd_2_187 : Jvm.Cond.code ({ cls := "ChipMap$Plan", name := "begin", desc := "(LChipMap$Mind;)V" } : Jvm.MethodName) prog_9_method_2_code (2 : Nat) (Option.none : Option Jvm.ClassFile.FieldType) ∈ GT := gt_in (in_t2 (List.mem_of_getElem? (i := 187) rfl)) rfl
set_option maxRecDepth 20000 in
theorem wd_2_188 : Jvm.Cond.methodLink "ChipMap$Plan" (31 : Nat) ({ cls := "ChipMap$Mind", name := "copy", desc := "(LChipMap$Mind;)V" } : Jvm.MethodName) ∈ GT := gt_in (in_t2 (List.mem_of_getElem? (i := 188) rfl)) rfl
set_option maxRecDepth 20000 in
theorem wd_2_189 : Jvm.Cond.instanceMethod ({ cls := "ChipMap$Mind", name := "copy", desc := "(LChipMap$Mind;)V" } : Jvm.MethodName) ∈ GT := gt_in (in_t2 (List.mem_of_getElem? (i := 189) rfl)) rfl
set_option maxRecDepth 20000 in
theorem wd_2_190 : Jvm.Cond.selects "ChipMap$Mind" ({ cls := "ChipMap$Mind", name := "copy", desc := "(LChipMap$Mind;)V" } : Jvm.MethodName) ({ cls := "ChipMap$Mind", name := "copy", desc := "(LChipMap$Mind;)V" } : Jvm.MethodName) ∈ GT := gt_in (in_t2 (List.mem_of_getElem? (i := 190) rfl)) rfl
set_option maxRecDepth 20000 in
theorem wd_2_191 : Jvm.Cond.code ({ cls := "ChipMap$Mind", name := "copy", desc := "(LChipMap$Mind;)V" } : Jvm.MethodName) prog_8_method_3_code (2 : Nat) (Option.none : Option Jvm.ClassFile.FieldType) ∈ GT := gt_in (in_t2 (List.mem_of_getElem? (i := 191) rfl)) rfl
set_option maxRecDepth 20000 in
theorem wd_2_192 : Jvm.Cond.methodLink "ChipMap$Mind" (29 : Nat) ({ cls := "java/lang/System", name := "arraycopy", desc := "(Ljava/lang/Object;ILjava/lang/Object;II)V" } : Jvm.MethodName) ∈ GT := gt_in (in_t2 (List.mem_of_getElem? (i := 192) rfl)) rfl
set_option maxRecDepth 20000 in
theorem wd_2_193 : Jvm.Cond.static ({ cls := "java/lang/System", name := "arraycopy", desc := "(Ljava/lang/Object;ILjava/lang/Object;II)V" } : Jvm.MethodName) ∈ GT := gt_in (in_t2 (List.mem_of_getElem? (i := 193) rfl)) rfl
set_option maxRecDepth 20000 in
theorem wd_2_194 : Jvm.Cond.native ({ cls := "java/lang/System", name := "arraycopy", desc := "(Ljava/lang/Object;ILjava/lang/Object;II)V" } : Jvm.MethodName) ∈ GT := gt_in (in_t2 (List.mem_of_getElem? (i := 194) rfl)) rfl
set_option maxRecDepth 20000 in
theorem wd_2_195 : Jvm.Cond.methodLink "ChipMap$Plan" (35 : Nat) ({ cls := "ChipMap$Plan", name := "beginHere", desc := "()V" } : Jvm.MethodName) ∈ GT := gt_in (in_t2 (List.mem_of_getElem? (i := 195) rfl)) rfl
set_option maxRecDepth 20000 in
theorem wd_2_196 : Jvm.Cond.instanceMethod ({ cls := "ChipMap$Plan", name := "beginHere", desc := "()V" } : Jvm.MethodName) ∈ GT := gt_in (in_t2 (List.mem_of_getElem? (i := 196) rfl)) rfl
set_option maxRecDepth 20000 in
theorem wd_2_197 : Jvm.Cond.selects "ChipMap$Plan" ({ cls := "ChipMap$Plan", name := "beginHere", desc := "()V" } : Jvm.MethodName) ({ cls := "ChipMap$Plan", name := "beginHere", desc := "()V" } : Jvm.MethodName) ∈ GT := gt_in (in_t2 (List.mem_of_getElem? (i := 197) rfl)) rfl
set_option maxRecDepth 20000 in
theorem wd_2_198 : Jvm.Cond.code ({ cls := "ChipMap$Plan", name := "beginHere", desc := "()V" } : Jvm.MethodName) prog_9_method_3_code (1 : Nat) (Option.none : Option Jvm.ClassFile.FieldType) ∈ GT := gt_in (in_t2 (List.mem_of_getElem? (i := 198) rfl)) rfl
set_option maxRecDepth 20000 in
theorem wd_2_199 : Jvm.Cond.methodLink "ChipMap" (189 : Nat) ({ cls := "ChipMap$Plan", name := "addPut", desc := "(II)V" } : Jvm.MethodName) ∈ GT := gt_in (in_t2 (List.mem_of_getElem? (i := 199) rfl)) rfl
set_option maxRecDepth 20000 in
theorem wd_2_200 : Jvm.Cond.instanceMethod ({ cls := "ChipMap$Plan", name := "addPut", desc := "(II)V" } : Jvm.MethodName) ∈ GT := gt_in (in_t2 (List.mem_of_getElem? (i := 200) rfl)) rfl
set_option maxRecDepth 20000 in
theorem wd_2_201 : Jvm.Cond.selects "ChipMap$Plan" ({ cls := "ChipMap$Plan", name := "addPut", desc := "(II)V" } : Jvm.MethodName) ({ cls := "ChipMap$Plan", name := "addPut", desc := "(II)V" } : Jvm.MethodName) ∈ GT := gt_in (in_t2 (List.mem_of_getElem? (i := 201) rfl)) rfl
set_option maxRecDepth 20000 in
theorem wd_2_202 : Jvm.Cond.code ({ cls := "ChipMap$Plan", name := "addPut", desc := "(II)V" } : Jvm.MethodName) prog_9_method_4_code (4 : Nat) (Option.none : Option Jvm.ClassFile.FieldType) ∈ GT := gt_in (in_t2 (List.mem_of_getElem? (i := 202) rfl)) rfl
set_option maxRecDepth 20000 in
theorem wd_2_203 : Jvm.Cond.methodLink "ChipMap$Plan" (45 : Nat) ({ cls := "ChipMap$Layout", name := "isKnown", desc := "(I)Z" } : Jvm.MethodName) ∈ GT := gt_in (in_t2 (List.mem_of_getElem? (i := 203) rfl)) rfl
set_option maxRecDepth 20000 in
theorem wd_2_204 : Jvm.Cond.instanceMethod ({ cls := "ChipMap$Layout", name := "isKnown", desc := "(I)Z" } : Jvm.MethodName) ∈ GT := gt_in (in_t2 (List.mem_of_getElem? (i := 204) rfl)) rfl
set_option maxRecDepth 20000 in
theorem wd_2_205 : Jvm.Cond.selects "ChipMap$Layout" ({ cls := "ChipMap$Layout", name := "isKnown", desc := "(I)Z" } : Jvm.MethodName) ({ cls := "ChipMap$Layout", name := "isKnown", desc := "(I)Z" } : Jvm.MethodName) ∈ GT := gt_in (in_t2 (List.mem_of_getElem? (i := 205) rfl)) rfl
set_option maxRecDepth 20000 in
theorem wd_2_206 : Jvm.Cond.code ({ cls := "ChipMap$Layout", name := "isKnown", desc := "(I)Z" } : Jvm.MethodName) prog_6_method_5_code (2 : Nat) (Option.some Jvm.ClassFile.FieldType.boolean) ∈ GT := gt_in (in_t2 (List.mem_of_getElem? (i := 206) rfl)) rfl
set_option maxRecDepth 20000 in
theorem wd_2_207 : Jvm.Cond.methodLink "ChipMap$Plan" (51 : Nat) ({ cls := "ChipMap$Mind", name := "knownValue", desc := "(I)I" } : Jvm.MethodName) ∈ GT := gt_in (in_t2 (List.mem_of_getElem? (i := 207) rfl)) rfl
set_option maxRecDepth 20000 in
theorem wd_2_208 : Jvm.Cond.methodLink "ChipMap$Plan" (58 : Nat) ({ cls := "ChipMap$Plan", name := "addReach", desc := "(I)V" } : Jvm.MethodName) ∈ GT := gt_in (in_t2 (List.mem_of_getElem? (i := 208) rfl)) rfl
set_option maxRecDepth 20000 in
theorem wd_2_210 : Jvm.Cond.instanceMethod ({ cls := "ChipMap$Plan", name := "addReach", desc := "(I)V" } : Jvm.MethodName) ∈ GT := gt_in (in_t2 (List.mem_of_getElem? (i := 210) rfl)) rfl
set_option maxRecDepth 20000 in
theorem wd_2_211 : Jvm.Cond.code ({ cls := "ChipMap$Plan", name := "addReach", desc := "(I)V" } : Jvm.MethodName) prog_9_method_9_code (3 : Nat) (Option.none : Option Jvm.ClassFile.FieldType) ∈ GT := gt_in (in_t2 (List.mem_of_getElem? (i := 211) rfl)) rfl
set_option maxRecDepth 20000 in
theorem wd_2_212 : Jvm.Cond.methodLink "ChipMap$Plan" (98 : Nat) ({ cls := "ChipMap$Mind", name := "isThere", desc := "(I)Z" } : Jvm.MethodName) ∈ GT := gt_in (in_t2 (List.mem_of_getElem? (i := 212) rfl)) rfl
set_option maxRecDepth 20000 in
theorem wd_2_213 : Jvm.Cond.methodLink "ChipMap$Plan" (68 : Nat) ({ cls := "ChipMap$Plan", name := "addTold", desc := "(III)V" } : Jvm.MethodName) ∈ GT := gt_in (in_t2 (List.mem_of_getElem? (i := 213) rfl)) rfl
set_option maxRecDepth 20000 in
theorem wd_2_215 : Jvm.Cond.instanceMethod ({ cls := "ChipMap$Plan", name := "addTold", desc := "(III)V" } : Jvm.MethodName) ∈ GT := gt_in (in_t2 (List.mem_of_getElem? (i := 215) rfl)) rfl
set_option maxRecDepth 20000 in
theorem wd_2_216 : Jvm.Cond.code ({ cls := "ChipMap$Plan", name := "addTold", desc := "(III)V" } : Jvm.MethodName) prog_9_method_10_code (6 : Nat) (Option.none : Option Jvm.ClassFile.FieldType) ∈ GT := gt_in (in_t2 (List.mem_of_getElem? (i := 216) rfl)) rfl
set_option maxRecDepth 20000 in
theorem wd_2_217 : Jvm.Cond.methodLink "ChipMap$Plan" (107 : Nat) ({ cls := "ChipMap$Mind", name := "brokenBy", desc := "(II)I" } : Jvm.MethodName) ∈ GT := gt_in (in_t2 (List.mem_of_getElem? (i := 217) rfl)) rfl
set_option maxRecDepth 20000 in
theorem wd_2_218 : Jvm.Cond.methodLink "ChipMap$Plan" (111 : Nat) ({ cls := "java/lang/Integer", name := "numberOfTrailingZeros", desc := "(I)I" } : Jvm.MethodName) ∈ GT := gt_in (in_t2 (List.mem_of_getElem? (i := 218) rfl)) rfl
set_option maxRecDepth 20000 in
theorem wd_2_219 : Jvm.Cond.methodLink "ChipMap$Plan" (116 : Nat) ({ cls := "ChipMap$Mind", name := "write", desc := "(II)V" } : Jvm.MethodName) ∈ GT := gt_in (in_t2 (List.mem_of_getElem? (i := 219) rfl)) rfl
set_option maxRecDepth 20000 in
theorem wd_2_220 : Jvm.Cond.methodLink "ChipMap" (192 : Nat) ({ cls := "ChipMap", name := "doWrites", desc := "()I" } : Jvm.MethodName) ∈ GT := gt_in (in_t2 (List.mem_of_getElem? (i := 220) rfl)) rfl
set_option maxRecDepth 20000 in
theorem wd_2_222 : Jvm.Cond.instanceMethod ({ cls := "ChipMap", name := "doWrites", desc := "()I" } : Jvm.MethodName) ∈ GT := gt_in (in_t2 (List.mem_of_getElem? (i := 222) rfl)) rfl
set_option maxRecDepth 20000 in
theorem wd_2_223 : Jvm.Cond.code ({ cls := "ChipMap", name := "doWrites", desc := "()I" } : Jvm.MethodName) prog_1_method_27_code (2 : Nat) (Option.some Jvm.ClassFile.FieldType.int) ∈ GT := gt_in (in_t2 (List.mem_of_getElem? (i := 223) rfl)) rfl
set_option maxRecDepth 20000 in
theorem wd_2_228 : Jvm.Cond.methodLink "ChipMap" (211 : Nat) ({ cls := "ChipMap$Steps", name := "isFull", desc := "()Z" } : Jvm.MethodName) ∈ GT := gt_in (in_t2 (List.mem_of_getElem? (i := 228) rfl)) rfl
set_option maxRecDepth 20000 in
theorem wd_2_229 : Jvm.Cond.instanceMethod ({ cls := "ChipMap$Steps", name := "isFull", desc := "()Z" } : Jvm.MethodName) ∈ GT := gt_in (in_t2 (List.mem_of_getElem? (i := 229) rfl)) rfl
set_option maxRecDepth 20000 in
theorem wd_2_230 : Jvm.Cond.selects "ChipMap$Steps" ({ cls := "ChipMap$Steps", name := "isFull", desc := "()Z" } : Jvm.MethodName) ({ cls := "ChipMap$Steps", name := "isFull", desc := "()Z" } : Jvm.MethodName) ∈ GT := gt_in (in_t2 (List.mem_of_getElem? (i := 230) rfl)) rfl
set_option maxRecDepth 20000 in
theorem wd_2_231 : Jvm.Cond.code ({ cls := "ChipMap$Steps", name := "isFull", desc := "()Z" } : Jvm.MethodName) prog_12_method_2_code (1 : Nat) (Option.some Jvm.ClassFile.FieldType.boolean) ∈ GT := gt_in (in_t2 (List.mem_of_getElem? (i := 231) rfl)) rfl
set_option maxRecDepth 20000 in
theorem wd_2_232 : Jvm.Cond.methodLink "ChipMap" (214 : Nat) ({ cls := "ChipMap$Steps", name := "append", desc := "(III)V" } : Jvm.MethodName) ∈ GT := gt_in (in_t2 (List.mem_of_getElem? (i := 232) rfl)) rfl
set_option maxRecDepth 20000 in
theorem wd_2_233 : Jvm.Cond.instanceMethod ({ cls := "ChipMap$Steps", name := "append", desc := "(III)V" } : Jvm.MethodName) ∈ GT := gt_in (in_t2 (List.mem_of_getElem? (i := 233) rfl)) rfl
set_option maxRecDepth 20000 in
theorem wd_2_234 : Jvm.Cond.selects "ChipMap$Steps" ({ cls := "ChipMap$Steps", name := "append", desc := "(III)V" } : Jvm.MethodName) ({ cls := "ChipMap$Steps", name := "append", desc := "(III)V" } : Jvm.MethodName) ∈ GT := gt_in (in_t2 (List.mem_of_getElem? (i := 234) rfl)) rfl
set_option maxRecDepth 20000 in
theorem wd_2_235 : Jvm.Cond.code ({ cls := "ChipMap$Steps", name := "append", desc := "(III)V" } : Jvm.MethodName) prog_12_method_3_code (4 : Nat) (Option.none : Option Jvm.ClassFile.FieldType) ∈ GT := gt_in (in_t2 (List.mem_of_getElem? (i := 235) rfl)) rfl
set_option maxRecDepth 20000 in
theorem wd_3_0 : Jvm.Cond.methodLink "ChipMap" (217 : Nat) ({ cls := "ChipMap$Plan", name := "addJoined", desc := "(LChipMap$Steps;)V" } : Jvm.MethodName) ∈ GT := gt_in (in_t3 (List.mem_of_getElem? (i := 0) rfl)) rfl
set_option maxRecDepth 20000 in
theorem wd_3_1 : Jvm.Cond.instanceMethod ({ cls := "ChipMap$Plan", name := "addJoined", desc := "(LChipMap$Steps;)V" } : Jvm.MethodName) ∈ GT := gt_in (in_t3 (List.mem_of_getElem? (i := 1) rfl)) rfl
set_option maxRecDepth 20000 in
theorem wd_3_2 : Jvm.Cond.selects "ChipMap$Plan" ({ cls := "ChipMap$Plan", name := "addJoined", desc := "(LChipMap$Steps;)V" } : Jvm.MethodName) ({ cls := "ChipMap$Plan", name := "addJoined", desc := "(LChipMap$Steps;)V" } : Jvm.MethodName) ∈ GT := gt_in (in_t3 (List.mem_of_getElem? (i := 2) rfl)) rfl
set_option maxRecDepth 20000 in
theorem wd_3_3 : Jvm.Cond.code ({ cls := "ChipMap$Plan", name := "addJoined", desc := "(LChipMap$Steps;)V" } : Jvm.MethodName) prog_9_method_6_code (3 : Nat) (Option.none : Option Jvm.ClassFile.FieldType) ∈ GT := gt_in (in_t3 (List.mem_of_getElem? (i := 3) rfl)) rfl
set_option maxRecDepth 20000 in
theorem wd_3_4 : Jvm.Cond.methodLink "ChipMap$Plan" (80 : Nat) ({ cls := "ChipMap$Plan", name := "isFirstOfRegister", desc := "(LChipMap$Steps;I)Z" } : Jvm.MethodName) ∈ GT := gt_in (in_t3 (List.mem_of_getElem? (i := 4) rfl)) rfl
set_option maxRecDepth 20000 in
theorem wd_3_6 : Jvm.Cond.instanceMethod ({ cls := "ChipMap$Plan", name := "isFirstOfRegister", desc := "(LChipMap$Steps;I)Z" } : Jvm.MethodName) ∈ GT := gt_in (in_t3 (List.mem_of_getElem? (i := 6) rfl)) rfl
set_option maxRecDepth 20000 in
theorem wd_3_7 : Jvm.Cond.code ({ cls := "ChipMap$Plan", name := "isFirstOfRegister", desc := "(LChipMap$Steps;I)Z" } : Jvm.MethodName) prog_9_method_7_code (5 : Nat) (Option.some Jvm.ClassFile.FieldType.boolean) ∈ GT := gt_in (in_t3 (List.mem_of_getElem? (i := 7) rfl)) rfl
set_option maxRecDepth 20000 in
theorem wd_3_8 : Jvm.Cond.methodLink "ChipMap$Plan" (87 : Nat) ({ cls := "ChipMap$Plan", name := "addRegister", desc := "(LChipMap$Steps;I)V" } : Jvm.MethodName) ∈ GT := gt_in (in_t3 (List.mem_of_getElem? (i := 8) rfl)) rfl
set_option maxRecDepth 20000 in
theorem wd_3_10 : Jvm.Cond.instanceMethod ({ cls := "ChipMap$Plan", name := "addRegister", desc := "(LChipMap$Steps;I)V" } : Jvm.MethodName) ∈ GT := gt_in (in_t3 (List.mem_of_getElem? (i := 10) rfl)) rfl
set_option maxRecDepth 20000 in
theorem wd_3_11 : Jvm.Cond.code ({ cls := "ChipMap$Plan", name := "addRegister", desc := "(LChipMap$Steps;I)V" } : Jvm.MethodName) prog_9_method_8_code (8 : Nat) (Option.none : Option Jvm.ClassFile.FieldType) ∈ GT := gt_in (in_t3 (List.mem_of_getElem? (i := 11) rfl)) rfl
set_option maxRecDepth 20000 in
theorem wd_3_16 : Jvm.Cond.methodLink "ChipMap" (221 : Nat) ({ cls := "ChipMap$Steps", name := "empty", desc := "()I" } : Jvm.MethodName) ∈ GT := gt_in (in_t3 (List.mem_of_getElem? (i := 16) rfl)) rfl
set_option maxRecDepth 20000 in
theorem wd_3_17 : Jvm.Cond.instanceMethod ({ cls := "ChipMap$Steps", name := "empty", desc := "()I" } : Jvm.MethodName) ∈ GT := gt_in (in_t3 (List.mem_of_getElem? (i := 17) rfl)) rfl
set_option maxRecDepth 20000 in
theorem wd_3_18 : Jvm.Cond.selects "ChipMap$Steps" ({ cls := "ChipMap$Steps", name := "empty", desc := "()I" } : Jvm.MethodName) ({ cls := "ChipMap$Steps", name := "empty", desc := "()I" } : Jvm.MethodName) ∈ GT := gt_in (in_t3 (List.mem_of_getElem? (i := 18) rfl)) rfl
set_option maxRecDepth 20000 in
theorem wd_3_19 : Jvm.Cond.code ({ cls := "ChipMap$Steps", name := "empty", desc := "()I" } : Jvm.MethodName) prog_12_method_4_code (2 : Nat) (Option.some Jvm.ClassFile.FieldType.int) ∈ GT := gt_in (in_t3 (List.mem_of_getElem? (i := 19) rfl)) rfl
set_option maxRecDepth 20000 in
theorem wd_3_24 : Jvm.Cond.methodLink "ChipMap" (228 : Nat) ({ cls := "ChipMap$Log", name := "rowOf", desc := "(I)I" } : Jvm.MethodName) ∈ GT := gt_in (in_t3 (List.mem_of_getElem? (i := 24) rfl)) rfl
set_option maxRecDepth 20000 in
theorem wd_3_25 : Jvm.Cond.instanceMethod ({ cls := "ChipMap$Log", name := "rowOf", desc := "(I)I" } : Jvm.MethodName) ∈ GT := gt_in (in_t3 (List.mem_of_getElem? (i := 25) rfl)) rfl
set_option maxRecDepth 20000 in
theorem wd_3_26 : Jvm.Cond.selects "ChipMap$Log" ({ cls := "ChipMap$Log", name := "rowOf", desc := "(I)I" } : Jvm.MethodName) ({ cls := "ChipMap$Log", name := "rowOf", desc := "(I)I" } : Jvm.MethodName) ∈ GT := gt_in (in_t3 (List.mem_of_getElem? (i := 26) rfl)) rfl
set_option maxRecDepth 20000 in
theorem wd_3_27 : Jvm.Cond.code ({ cls := "ChipMap$Log", name := "rowOf", desc := "(I)I" } : Jvm.MethodName) prog_7_method_3_code (2 : Nat) (Option.some Jvm.ClassFile.FieldType.int) ∈ GT := gt_in (in_t3 (List.mem_of_getElem? (i := 27) rfl)) rfl
set_option maxRecDepth 20000 in
theorem wd_3_32 : Jvm.Cond.methodLink "ChipMap" (241 : Nat) ({ cls := "ChipMap", name := "isStep", desc := "(III)Z" } : Jvm.MethodName) ∈ GT := gt_in (in_t3 (List.mem_of_getElem? (i := 32) rfl)) rfl
set_option maxRecDepth 20000 in
theorem wd_3_34 : Jvm.Cond.instanceMethod ({ cls := "ChipMap", name := "isStep", desc := "(III)Z" } : Jvm.MethodName) ∈ GT := gt_in (in_t3 (List.mem_of_getElem? (i := 34) rfl)) rfl
set_option maxRecDepth 20000 in
theorem wd_3_35 : Jvm.Cond.code ({ cls := "ChipMap", name := "isStep", desc := "(III)Z" } : Jvm.MethodName) prog_1_method_24_code (4 : Nat) (Option.some Jvm.ClassFile.FieldType.boolean) ∈ GT := gt_in (in_t3 (List.mem_of_getElem? (i := 35) rfl)) rfl
set_option maxRecDepth 20000 in
theorem wd_3_36 : Jvm.Cond.methodLink "ChipMap" (196 : Nat) ({ cls := "ChipMap$Layout", name := "canFetch", desc := "(I)Z" } : Jvm.MethodName) ∈ GT := gt_in (in_t3 (List.mem_of_getElem? (i := 36) rfl)) rfl
set_option maxRecDepth 20000 in
theorem wd_3_37 : Jvm.Cond.instanceMethod ({ cls := "ChipMap$Layout", name := "canFetch", desc := "(I)Z" } : Jvm.MethodName) ∈ GT := gt_in (in_t3 (List.mem_of_getElem? (i := 37) rfl)) rfl
set_option maxRecDepth 20000 in
theorem wd_3_38 : Jvm.Cond.selects "ChipMap$Layout" ({ cls := "ChipMap$Layout", name := "canFetch", desc := "(I)Z" } : Jvm.MethodName) ({ cls := "ChipMap$Layout", name := "canFetch", desc := "(I)Z" } : Jvm.MethodName) ∈ GT := gt_in (in_t3 (List.mem_of_getElem? (i := 38) rfl)) rfl
set_option maxRecDepth 20000 in
theorem wd_3_39 : Jvm.Cond.code ({ cls := "ChipMap$Layout", name := "canFetch", desc := "(I)Z" } : Jvm.MethodName) prog_6_method_8_code (2 : Nat) (Option.some Jvm.ClassFile.FieldType.boolean) ∈ GT := gt_in (in_t3 (List.mem_of_getElem? (i := 39) rfl)) rfl
set_option maxRecDepth 20000 in
theorem wd_3_48 : Jvm.Cond.methodLink "ChipMap" (245 : Nat) ({ cls := "ChipMap$Checker", name := "begin", desc := "()V" } : Jvm.MethodName) ∈ GT := gt_in (in_t3 (List.mem_of_getElem? (i := 48) rfl)) rfl
set_option maxRecDepth 20000 in
theorem wd_3_49 : Jvm.Cond.instanceMethod ({ cls := "ChipMap$Checker", name := "begin", desc := "()V" } : Jvm.MethodName) ∈ GT := gt_in (in_t3 (List.mem_of_getElem? (i := 49) rfl)) rfl
set_option maxRecDepth 20000 in
theorem wd_3_50 : Jvm.Cond.selects "ChipMap$Checker" ({ cls := "ChipMap$Checker", name := "begin", desc := "()V" } : Jvm.MethodName) ({ cls := "ChipMap$Checker", name := "begin", desc := "()V" } : Jvm.MethodName) ∈ GT := gt_in (in_t3 (List.mem_of_getElem? (i := 50) rfl)) rfl
set_option maxRecDepth 20000 in
theorem wd_3_51 : Jvm.Cond.code ({ cls := "ChipMap$Checker", name := "begin", desc := "()V" } : Jvm.MethodName) prog_2_method_2_code (1 : Nat) (Option.none : Option Jvm.ClassFile.FieldType) ∈ GT := gt_in (in_t3 (List.mem_of_getElem? (i := 51) rfl)) rfl
set_option maxRecDepth 20000 in
theorem wd_3_52 : Jvm.Cond.methodLink "ChipMap$Checker" (38 : Nat) ({ cls := "java/util/Arrays", name := "fill", desc := "([II)V" } : Jvm.MethodName) ∈ GT := gt_in (in_t3 (List.mem_of_getElem? (i := 52) rfl)) rfl
set_option maxRecDepth 20000 in
theorem wd_3_53 : Jvm.Cond.methodLink "ChipMap$Checker" (60 : Nat) ({ cls := "ChipMap$Mind", name := "restart", desc := "()V" } : Jvm.MethodName) ∈ GT := gt_in (in_t3 (List.mem_of_getElem? (i := 53) rfl)) rfl
set_option maxRecDepth 20000 in
theorem wd_3_54 : Jvm.Cond.methodLink "ChipMap$Checker" (65 : Nat) ({ cls := "ChipMap$Checker", name := "meet", desc := "(I)V" } : Jvm.MethodName) ∈ GT := gt_in (in_t3 (List.mem_of_getElem? (i := 54) rfl)) rfl
set_option maxRecDepth 20000 in
theorem wd_3_56 : Jvm.Cond.instanceMethod ({ cls := "ChipMap$Checker", name := "meet", desc := "(I)V" } : Jvm.MethodName) ∈ GT := gt_in (in_t3 (List.mem_of_getElem? (i := 56) rfl)) rfl
set_option maxRecDepth 20000 in
theorem wd_3_57 : Jvm.Cond.code ({ cls := "ChipMap$Checker", name := "meet", desc := "(I)V" } : Jvm.MethodName) prog_2_method_6_code (5 : Nat) (Option.none : Option Jvm.ClassFile.FieldType) ∈ GT := gt_in (in_t3 (List.mem_of_getElem? (i := 57) rfl)) rfl
set_option maxRecDepth 20000 in
theorem wd_3_58 : Jvm.Cond.methodLink "ChipMap$Checker" (113 : Nat) ({ cls := "java/lang/Math", name := "min", desc := "(II)I" } : Jvm.MethodName) ∈ GT := gt_in (in_t3 (List.mem_of_getElem? (i := 58) rfl)) rfl
set_option maxRecDepth 20000 in
theorem wd_3_59 : Jvm.Cond.static ({ cls := "java/lang/Math", name := "min", desc := "(II)I" } : Jvm.MethodName) ∈ GT := gt_in (in_t3 (List.mem_of_getElem? (i := 59) rfl)) rfl
set_option maxRecDepth 20000 in
theorem wd_3_60 : Jvm.Cond.code ({ cls := "java/lang/Math", name := "min", desc := "(II)I" } : Jvm.MethodName) prog_21_method_69_code (2 : Nat) (Option.some Jvm.ClassFile.FieldType.int) ∈ GT := gt_in (in_t3 (List.mem_of_getElem? (i := 60) rfl)) rfl
set_option maxRecDepth 20000 in
theorem wd_3_61 : Jvm.Cond.methodLink "ChipMap$Checker" (119 : Nat) ({ cls := "ChipMap$Checker", name := "makeKey", desc := "(I)V" } : Jvm.MethodName) ∈ GT := gt_in (in_t3 (List.mem_of_getElem? (i := 61) rfl)) rfl
set_option maxRecDepth 20000 in
theorem wd_3_63 : Jvm.Cond.instanceMethod ({ cls := "ChipMap$Checker", name := "makeKey", desc := "(I)V" } : Jvm.MethodName) ∈ GT := gt_in (in_t3 (List.mem_of_getElem? (i := 63) rfl)) rfl
set_option maxRecDepth 20000 in
theorem wd_3_64 : Jvm.Cond.code ({ cls := "ChipMap$Checker", name := "makeKey", desc := "(I)V" } : Jvm.MethodName) prog_2_method_7_code (3 : Nat) (Option.none : Option Jvm.ClassFile.FieldType) ∈ GT := gt_in (in_t3 (List.mem_of_getElem? (i := 64) rfl)) rfl
set_option maxRecDepth 20000 in
theorem wd_3_65 : Jvm.Cond.methodLink "ChipMap$Checker" (133 : Nat) ({ cls := "java/util/Arrays", name := "fill", desc := "([JJ)V" } : Jvm.MethodName) ∈ GT := gt_in (in_t3 (List.mem_of_getElem? (i := 65) rfl)) rfl
set_option maxRecDepth 20000 in
theorem wd_3_66 : Jvm.Cond.static ({ cls := "java/util/Arrays", name := "fill", desc := "([JJ)V" } : Jvm.MethodName) ∈ GT := gt_in (in_t3 (List.mem_of_getElem? (i := 66) rfl)) rfl
set_option maxRecDepth 20000 in
theorem wd_3_67 : Jvm.Cond.code ({ cls := "java/util/Arrays", name := "fill", desc := "([JJ)V" } : Jvm.MethodName) prog_28_method_101_code (5 : Nat) (Option.none : Option Jvm.ClassFile.FieldType) ∈ GT := gt_in (in_t3 (List.mem_of_getElem? (i := 67) rfl)) rfl
set_option maxRecDepth 20000 in
theorem wd_3_68 : Jvm.Cond.methodLink "ChipMap$Checker" (122 : Nat) ({ cls := "ChipMap$Checker", name := "hashOfKey", desc := "()I" } : Jvm.MethodName) ∈ GT := gt_in (in_t3 (List.mem_of_getElem? (i := 68) rfl)) rfl
set_option maxRecDepth 20000 in
theorem wd_3_70 : Jvm.Cond.instanceMethod ({ cls := "ChipMap$Checker", name := "hashOfKey", desc := "()I" } : Jvm.MethodName) ∈ GT := gt_in (in_t3 (List.mem_of_getElem? (i := 70) rfl)) rfl
set_option maxRecDepth 20000 in
theorem wd_3_71 : Jvm.Cond.code ({ cls := "ChipMap$Checker", name := "hashOfKey", desc := "()I" } : Jvm.MethodName) prog_2_method_8_code (4 : Nat) (Option.some Jvm.ClassFile.FieldType.int) ∈ GT := gt_in (in_t3 (List.mem_of_getElem? (i := 71) rfl)) rfl
set_option maxRecDepth 20000 in
theorem wd_3_72 : Jvm.Cond.constantLong "ChipMap$Checker" (136 : Nat) (-7046029254386353131 : Int64) ∈ GT := gt_in (in_t3 (List.mem_of_getElem? (i := 72) rfl)) rfl
set_option maxRecDepth 20000 in
theorem wd_3_73 : Jvm.Cond.methodLink "ChipMap$Checker" (126 : Nat) ({ cls := "ChipMap$Checker", name := "add", desc := "(I)V" } : Jvm.MethodName) ∈ GT := gt_in (in_t3 (List.mem_of_getElem? (i := 73) rfl)) rfl
set_option maxRecDepth 20000 in
theorem wd_3_75 : Jvm.Cond.instanceMethod ({ cls := "ChipMap$Checker", name := "add", desc := "(I)V" } : Jvm.MethodName) ∈ GT := gt_in (in_t3 (List.mem_of_getElem? (i := 75) rfl)) rfl
set_option maxRecDepth 20000 in
theorem wd_3_76 : Jvm.Cond.code ({ cls := "ChipMap$Checker", name := "add", desc := "(I)V" } : Jvm.MethodName) prog_2_method_10_code (2 : Nat) (Option.none : Option Jvm.ClassFile.FieldType) ∈ GT := gt_in (in_t3 (List.mem_of_getElem? (i := 76) rfl)) rfl
set_option maxRecDepth 20000 in
theorem wd_3_77 : Jvm.Cond.methodLink "ChipMap$Checker" (138 : Nat) ({ cls := "java/lang/System", name := "arraycopy", desc := "(Ljava/lang/Object;ILjava/lang/Object;II)V" } : Jvm.MethodName) ∈ GT := gt_in (in_t3 (List.mem_of_getElem? (i := 77) rfl)) rfl
set_option maxRecDepth 20000 in
theorem wd_3_78 : Jvm.Cond.methodLink "ChipMap$Checker" (129 : Nat) ({ cls := "ChipMap$Checker", name := "isKey", desc := "(I)Z" } : Jvm.MethodName) ∈ GT := gt_in (in_t3 (List.mem_of_getElem? (i := 78) rfl)) rfl
set_option maxRecDepth 20000 in
theorem wd_3_80 : Jvm.Cond.instanceMethod ({ cls := "ChipMap$Checker", name := "isKey", desc := "(I)Z" } : Jvm.MethodName) ∈ GT := gt_in (in_t3 (List.mem_of_getElem? (i := 80) rfl)) rfl
set_option maxRecDepth 20000 in
theorem wd_3_81 : Jvm.Cond.code ({ cls := "ChipMap$Checker", name := "isKey", desc := "(I)Z" } : Jvm.MethodName) prog_2_method_9_code (3 : Nat) (Option.some Jvm.ClassFile.FieldType.boolean) ∈ GT := gt_in (in_t3 (List.mem_of_getElem? (i := 81) rfl)) rfl
set_option maxRecDepth 20000 in
theorem wd_3_82 : Jvm.Cond.methodLink "ChipMap" (252 : Nat) ({ cls := "ChipMap$Checker", name := "visit", desc := "(I)V" } : Jvm.MethodName) ∈ GT := gt_in (in_t3 (List.mem_of_getElem? (i := 82) rfl)) rfl
set_option maxRecDepth 20000 in
theorem wd_3_83 : Jvm.Cond.instanceMethod ({ cls := "ChipMap$Checker", name := "visit", desc := "(I)V" } : Jvm.MethodName) ∈ GT := gt_in (in_t3 (List.mem_of_getElem? (i := 83) rfl)) rfl
set_option maxRecDepth 20000 in
theorem wd_3_84 : Jvm.Cond.selects "ChipMap$Checker" ({ cls := "ChipMap$Checker", name := "visit", desc := "(I)V" } : Jvm.MethodName) ({ cls := "ChipMap$Checker", name := "visit", desc := "(I)V" } : Jvm.MethodName) ∈ GT := gt_in (in_t3 (List.mem_of_getElem? (i := 84) rfl)) rfl
set_option maxRecDepth 20000 in
theorem wd_3_85 : Jvm.Cond.code ({ cls := "ChipMap$Checker", name := "visit", desc := "(I)V" } : Jvm.MethodName) prog_2_method_3_code (4 : Nat) (Option.none : Option Jvm.ClassFile.FieldType) ∈ GT := gt_in (in_t3 (List.mem_of_getElem? (i := 85) rfl)) rfl
set_option maxRecDepth 20000 in
theorem wd_3_86 : Jvm.Cond.methodLink "ChipMap$Checker" (69 : Nat) ({ cls := "ChipMap$Checker", name := "load", desc := "(I)I" } : Jvm.MethodName) ∈ GT := gt_in (in_t3 (List.mem_of_getElem? (i := 86) rfl)) rfl
set_option maxRecDepth 20000 in
theorem wd_3_88 : Jvm.Cond.instanceMethod ({ cls := "ChipMap$Checker", name := "load", desc := "(I)I" } : Jvm.MethodName) ∈ GT := gt_in (in_t3 (List.mem_of_getElem? (i := 88) rfl)) rfl
set_option maxRecDepth 20000 in
theorem wd_3_89 : Jvm.Cond.code ({ cls := "ChipMap$Checker", name := "load", desc := "(I)I" } : Jvm.MethodName) prog_2_method_5_code (5 : Nat) (Option.some Jvm.ClassFile.FieldType.int) ∈ GT := gt_in (in_t3 (List.mem_of_getElem? (i := 89) rfl)) rfl
set_option maxRecDepth 20000 in
theorem wd_3_90 : Jvm.Cond.constant "ChipMap$Checker" (109 : Nat) (65535 : Int32) ∈ GT := gt_in (in_t3 (List.mem_of_getElem? (i := 90) rfl)) rfl
set_option maxRecDepth 20000 in
theorem wd_3_91 : Jvm.Cond.methodLink "ChipMap$Checker" (82 : Nat) ({ cls := "ChipMap$Plan", name := "beginHere", desc := "()V" } : Jvm.MethodName) ∈ GT := gt_in (in_t3 (List.mem_of_getElem? (i := 91) rfl)) rfl
set_option maxRecDepth 20000 in
theorem wd_3_92 : Jvm.Cond.methodLink "ChipMap$Checker" (88 : Nat) ({ cls := "ChipMap$Plan", name := "addPut", desc := "(II)V" } : Jvm.MethodName) ∈ GT := gt_in (in_t3 (List.mem_of_getElem? (i := 92) rfl)) rfl
set_option maxRecDepth 20000 in
theorem wd_3_93 : Jvm.Cond.methodLink "ChipMap$Checker" (92 : Nat) ({ cls := "ChipMap$Plan", name := "addFetch", desc := "(I)V" } : Jvm.MethodName) ∈ GT := gt_in (in_t3 (List.mem_of_getElem? (i := 93) rfl)) rfl
set_option maxRecDepth 20000 in
theorem wd_3_94 : Jvm.Cond.instanceMethod ({ cls := "ChipMap$Plan", name := "addFetch", desc := "(I)V" } : Jvm.MethodName) ∈ GT := gt_in (in_t3 (List.mem_of_getElem? (i := 94) rfl)) rfl
set_option maxRecDepth 20000 in
theorem wd_3_95 : Jvm.Cond.selects "ChipMap$Plan" ({ cls := "ChipMap$Plan", name := "addFetch", desc := "(I)V" } : Jvm.MethodName) ({ cls := "ChipMap$Plan", name := "addFetch", desc := "(I)V" } : Jvm.MethodName) ∈ GT := gt_in (in_t3 (List.mem_of_getElem? (i := 95) rfl)) rfl
set_option maxRecDepth 20000 in
theorem wd_3_96 : Jvm.Cond.code ({ cls := "ChipMap$Plan", name := "addFetch", desc := "(I)V" } : Jvm.MethodName) prog_9_method_5_code (2 : Nat) (Option.none : Option Jvm.ClassFile.FieldType) ∈ GT := gt_in (in_t3 (List.mem_of_getElem? (i := 96) rfl)) rfl
set_option maxRecDepth 20000 in
theorem wd_3_97 : Jvm.Cond.methodLink "ChipMap$Checker" (98 : Nat) ({ cls := "ChipMap$Checker", name := "tell", desc := "(II)V" } : Jvm.MethodName) ∈ GT := gt_in (in_t3 (List.mem_of_getElem? (i := 97) rfl)) rfl
set_option maxRecDepth 20000 in
theorem wd_3_99 : Jvm.Cond.instanceMethod ({ cls := "ChipMap$Checker", name := "tell", desc := "(II)V" } : Jvm.MethodName) ∈ GT := gt_in (in_t3 (List.mem_of_getElem? (i := 99) rfl)) rfl
set_option maxRecDepth 20000 in
theorem wd_3_100 : Jvm.Cond.code ({ cls := "ChipMap$Checker", name := "tell", desc := "(II)V" } : Jvm.MethodName) prog_2_method_4_code (3 : Nat) (Option.none : Option Jvm.ClassFile.FieldType) ∈ GT := gt_in (in_t3 (List.mem_of_getElem? (i := 100) rfl)) rfl
set_option maxRecDepth 20000 in
theorem wd_3_109 : Jvm.Cond.methodLink "ChipMap" (266 : Nat) ({ cls := "ChipMap", name := "doStep", desc := "(I)Z" } : Jvm.MethodName) ∈ GT := gt_in (in_t3 (List.mem_of_getElem? (i := 109) rfl)) rfl
set_option maxRecDepth 20000 in
theorem wd_3_111 : Jvm.Cond.instanceMethod ({ cls := "ChipMap", name := "doStep", desc := "(I)Z" } : Jvm.MethodName) ∈ GT := gt_in (in_t3 (List.mem_of_getElem? (i := 111) rfl)) rfl
set_option maxRecDepth 20000 in
theorem wd_3_112 : Jvm.Cond.code ({ cls := "ChipMap", name := "doStep", desc := "(I)Z" } : Jvm.MethodName) prog_1_method_25_code (3 : Nat) (Option.some Jvm.ClassFile.FieldType.boolean) ∈ GT := gt_in (in_t3 (List.mem_of_getElem? (i := 112) rfl)) rfl
set_option maxRecDepth 20000 in
theorem wd_3_113 : Jvm.Cond.methodLink "ChipMap" (202 : Nat) ({ cls := "ChipMap", name := "reachForFetch", desc := "(I)Z" } : Jvm.MethodName) ∈ GT := gt_in (in_t3 (List.mem_of_getElem? (i := 113) rfl)) rfl
set_option maxRecDepth 20000 in
theorem wd_3_115 : Jvm.Cond.instanceMethod ({ cls := "ChipMap", name := "reachForFetch", desc := "(I)Z" } : Jvm.MethodName) ∈ GT := gt_in (in_t3 (List.mem_of_getElem? (i := 115) rfl)) rfl
set_option maxRecDepth 20000 in
theorem wd_3_116 : Jvm.Cond.code ({ cls := "ChipMap", name := "reachForFetch", desc := "(I)Z" } : Jvm.MethodName) prog_1_method_26_code (2 : Nat) (Option.some Jvm.ClassFile.FieldType.boolean) ∈ GT := gt_in (in_t3 (List.mem_of_getElem? (i := 116) rfl)) rfl
set_option maxRecDepth 20000 in
theorem wd_3_117 : Jvm.Cond.methodLink "ChipMap" (283 : Nat) ({ cls := "ChipMap$Plan", name := "addFetch", desc := "(I)V" } : Jvm.MethodName) ∈ GT := gt_in (in_t3 (List.mem_of_getElem? (i := 117) rfl)) rfl
set_option maxRecDepth 20000 in
theorem wd_3_118 : Jvm.Cond.methodLink "ChipMap" (208 : Nat) ({ cls := "ChipMap", name := "readOut", desc := "(I)I" } : Jvm.MethodName) ∈ GT := gt_in (in_t3 (List.mem_of_getElem? (i := 118) rfl)) rfl
set_option maxRecDepth 20000 in
theorem wd_3_120 : Jvm.Cond.instanceMethod ({ cls := "ChipMap", name := "readOut", desc := "(I)I" } : Jvm.MethodName) ∈ GT := gt_in (in_t3 (List.mem_of_getElem? (i := 120) rfl)) rfl
set_option maxRecDepth 20000 in
theorem wd_3_121 : Jvm.Cond.code ({ cls := "ChipMap", name := "readOut", desc := "(I)I" } : Jvm.MethodName) prog_1_method_28_code (5 : Nat) (Option.some Jvm.ClassFile.FieldType.int) ∈ GT := gt_in (in_t3 (List.mem_of_getElem? (i := 121) rfl)) rfl
set_option maxRecDepth 20000 in
theorem wd_3_122 : Jvm.Cond.methodLink "ChipMap" (296 : Nat) ({ cls := "ChipMap$Device", name := "takeKept", desc := "(I)I" } : Jvm.MethodName) ∈ GT := gt_in (in_t3 (List.mem_of_getElem? (i := 122) rfl)) rfl
set_option maxRecDepth 20000 in
theorem wd_3_123 : Jvm.Cond.instanceMethod ({ cls := "ChipMap$Device", name := "takeKept", desc := "(I)I" } : Jvm.MethodName) ∈ GT := gt_in (in_t3 (List.mem_of_getElem? (i := 123) rfl)) rfl
set_option maxRecDepth 20000 in
theorem wd_3_124 : Jvm.Cond.selects "ChipMap$Device" ({ cls := "ChipMap$Device", name := "takeKept", desc := "(I)I" } : Jvm.MethodName) ({ cls := "ChipMap$Device", name := "takeKept", desc := "(I)I" } : Jvm.MethodName) ∈ GT := gt_in (in_t3 (List.mem_of_getElem? (i := 124) rfl)) rfl
set_option maxRecDepth 20000 in
theorem wd_3_125 : Jvm.Cond.code ({ cls := "ChipMap$Device", name := "takeKept", desc := "(I)I" } : Jvm.MethodName) prog_3_method_10_code (4 : Nat) (Option.some Jvm.ClassFile.FieldType.int) ∈ GT := gt_in (in_t3 (List.mem_of_getElem? (i := 125) rfl)) rfl
set_option maxRecDepth 20000 in
theorem wd_3_138 : Jvm.Cond.methodLink "ChipMap" (80 : Nat) ({ cls := "ChipMap$Reader", name := "readAll", desc := "()Z" } : Jvm.MethodName) ∈ GT := gt_in (in_t3 (List.mem_of_getElem? (i := 138) rfl)) rfl
set_option maxRecDepth 20000 in
theorem wd_3_139 : Jvm.Cond.instanceMethod ({ cls := "ChipMap$Reader", name := "readAll", desc := "()Z" } : Jvm.MethodName) ∈ GT := gt_in (in_t3 (List.mem_of_getElem? (i := 139) rfl)) rfl
set_option maxRecDepth 20000 in
theorem wd_3_140 : Jvm.Cond.selects "ChipMap$Reader" ({ cls := "ChipMap$Reader", name := "readAll", desc := "()Z" } : Jvm.MethodName) ({ cls := "ChipMap$Reader", name := "readAll", desc := "()Z" } : Jvm.MethodName) ∈ GT := gt_in (in_t3 (List.mem_of_getElem? (i := 140) rfl)) rfl
set_option maxRecDepth 20000 in
theorem wd_3_141 : Jvm.Cond.code ({ cls := "ChipMap$Reader", name := "readAll", desc := "()Z" } : Jvm.MethodName) prog_10_method_4_code (2 : Nat) (Option.some Jvm.ClassFile.FieldType.boolean) ∈ GT := gt_in (in_t3 (List.mem_of_getElem? (i := 141) rfl)) rfl
set_option maxRecDepth 20000 in
theorem wd_3_142 : Jvm.Cond.methodLink "ChipMap$Reader" (27 : Nat) ({ cls := "ChipMap$Draft", name := "clear", desc := "()V" } : Jvm.MethodName) ∈ GT := gt_in (in_t3 (List.mem_of_getElem? (i := 142) rfl)) rfl
set_option maxRecDepth 20000 in
theorem wd_3_143 : Jvm.Cond.instanceMethod ({ cls := "ChipMap$Draft", name := "clear", desc := "()V" } : Jvm.MethodName) ∈ GT := gt_in (in_t3 (List.mem_of_getElem? (i := 143) rfl)) rfl
set_option maxRecDepth 20000 in
theorem wd_3_144 : Jvm.Cond.selects "ChipMap$Draft" ({ cls := "ChipMap$Draft", name := "clear", desc := "()V" } : Jvm.MethodName) ({ cls := "ChipMap$Draft", name := "clear", desc := "()V" } : Jvm.MethodName) ∈ GT := gt_in (in_t3 (List.mem_of_getElem? (i := 144) rfl)) rfl
set_option maxRecDepth 20000 in
theorem wd_3_145 : Jvm.Cond.code ({ cls := "ChipMap$Draft", name := "clear", desc := "()V" } : Jvm.MethodName) prog_4_method_2_code (1 : Nat) (Option.none : Option Jvm.ClassFile.FieldType) ∈ GT := gt_in (in_t3 (List.mem_of_getElem? (i := 145) rfl)) rfl
set_option maxRecDepth 20000 in
theorem wd_3_146 : Jvm.Cond.methodLink "ChipMap$Reader" (35 : Nat) ({ cls := "ChipMap$Reader", name := "readRegisters", desc := "()Z" } : Jvm.MethodName) ∈ GT := gt_in (in_t3 (List.mem_of_getElem? (i := 146) rfl)) rfl
set_option maxRecDepth 20000 in
theorem wd_3_148 : Jvm.Cond.instanceMethod ({ cls := "ChipMap$Reader", name := "readRegisters", desc := "()Z" } : Jvm.MethodName) ∈ GT := gt_in (in_t3 (List.mem_of_getElem? (i := 148) rfl)) rfl
set_option maxRecDepth 20000 in
theorem wd_3_149 : Jvm.Cond.code ({ cls := "ChipMap$Reader", name := "readRegisters", desc := "()Z" } : Jvm.MethodName) prog_10_method_5_code (2 : Nat) (Option.some Jvm.ClassFile.FieldType.boolean) ∈ GT := gt_in (in_t3 (List.mem_of_getElem? (i := 149) rfl)) rfl
set_option maxRecDepth 20000 in
theorem wd_3_150 : Jvm.Cond.methodLink "ChipMap$Reader" (42 : Nat) ({ cls := "ChipMap$Reader", name := "next", desc := "()C" } : Jvm.MethodName) ∈ GT := gt_in (in_t3 (List.mem_of_getElem? (i := 150) rfl)) rfl
set_option maxRecDepth 20000 in
theorem wd_3_152 : Jvm.Cond.instanceMethod ({ cls := "ChipMap$Reader", name := "next", desc := "()C" } : Jvm.MethodName) ∈ GT := gt_in (in_t3 (List.mem_of_getElem? (i := 152) rfl)) rfl
set_option maxRecDepth 20000 in
theorem wd_3_153 : Jvm.Cond.code ({ cls := "ChipMap$Reader", name := "next", desc := "()C" } : Jvm.MethodName) prog_10_method_12_code (1 : Nat) (Option.some Jvm.ClassFile.FieldType.char) ∈ GT := gt_in (in_t3 (List.mem_of_getElem? (i := 153) rfl)) rfl
set_option maxRecDepth 20000 in
theorem wd_3_154 : Jvm.Cond.methodLink "ChipMap$Reader" (46 : Nat) ({ cls := "ChipMap$Reader", name := "readRegister", desc := "(I)Z" } : Jvm.MethodName) ∈ GT := gt_in (in_t3 (List.mem_of_getElem? (i := 154) rfl)) rfl
set_option maxRecDepth 20000 in
theorem wd_3_156 : Jvm.Cond.instanceMethod ({ cls := "ChipMap$Reader", name := "readRegister", desc := "(I)Z" } : Jvm.MethodName) ∈ GT := gt_in (in_t3 (List.mem_of_getElem? (i := 156) rfl)) rfl
set_option maxRecDepth 20000 in
theorem wd_3_157 : Jvm.Cond.code ({ cls := "ChipMap$Reader", name := "readRegister", desc := "(I)Z" } : Jvm.MethodName) prog_10_method_7_code (3 : Nat) (Option.some Jvm.ClassFile.FieldType.boolean) ∈ GT := gt_in (in_t3 (List.mem_of_getElem? (i := 157) rfl)) rfl
set_option maxRecDepth 20000 in
theorem wd_3_158 : Jvm.Cond.methodLink "ChipMap$Reader" (69 : Nat) ({ cls := "ChipMap$Reader", name := "take", desc := "(C)Z" } : Jvm.MethodName) ∈ GT := gt_in (in_t3 (List.mem_of_getElem? (i := 158) rfl)) rfl
set_option maxRecDepth 20000 in
theorem wd_3_160 : Jvm.Cond.instanceMethod ({ cls := "ChipMap$Reader", name := "take", desc := "(C)Z" } : Jvm.MethodName) ∈ GT := gt_in (in_t3 (List.mem_of_getElem? (i := 160) rfl)) rfl
set_option maxRecDepth 20000 in
theorem wd_3_161 : Jvm.Cond.code ({ cls := "ChipMap$Reader", name := "take", desc := "(C)Z" } : Jvm.MethodName) prog_10_method_13_code (2 : Nat) (Option.some Jvm.ClassFile.FieldType.boolean) ∈ GT := gt_in (in_t3 (List.mem_of_getElem? (i := 161) rfl)) rfl
set_option maxRecDepth 20000 in
theorem wd_3_162 : Jvm.Cond.methodLink "ChipMap$Reader" (76 : Nat) ({ cls := "ChipMap$Reader", name := "number", desc := "(III)I" } : Jvm.MethodName) ∈ GT := gt_in (in_t3 (List.mem_of_getElem? (i := 162) rfl)) rfl
set_option maxRecDepth 20000 in
theorem wd_3_164 : Jvm.Cond.instanceMethod ({ cls := "ChipMap$Reader", name := "number", desc := "(III)I" } : Jvm.MethodName) ∈ GT := gt_in (in_t3 (List.mem_of_getElem? (i := 164) rfl)) rfl
set_option maxRecDepth 20000 in
theorem wd_3_165 : Jvm.Cond.code ({ cls := "ChipMap$Reader", name := "number", desc := "(III)I" } : Jvm.MethodName) prog_10_method_16_code (8 : Nat) (Option.some Jvm.ClassFile.FieldType.int) ∈ GT := gt_in (in_t3 (List.mem_of_getElem? (i := 165) rfl)) rfl
set_option maxRecDepth 20000 in
theorem wd_3_166 : Jvm.Cond.methodLink "ChipMap$Reader" (155 : Nat) ({ cls := "ChipMap$Reader", name := "digitOf", desc := "(C)I" } : Jvm.MethodName) ∈ GT := gt_in (in_t3 (List.mem_of_getElem? (i := 166) rfl)) rfl
set_option maxRecDepth 20000 in
theorem wd_3_167 : Jvm.Cond.static ({ cls := "ChipMap$Reader", name := "digitOf", desc := "(C)I" } : Jvm.MethodName) ∈ GT := gt_in (in_t3 (List.mem_of_getElem? (i := 167) rfl)) rfl
set_option maxRecDepth 20000 in
theorem wd_3_168 : Jvm.Cond.code ({ cls := "ChipMap$Reader", name := "digitOf", desc := "(C)I" } : Jvm.MethodName) prog_10_method_17_code (1 : Nat) (Option.some Jvm.ClassFile.FieldType.int) ∈ GT := gt_in (in_t3 (List.mem_of_getElem? (i := 168) rfl)) rfl
set_option maxRecDepth 20000 in
theorem wd_3_169 : Jvm.Cond.methodLink "ChipMap$Reader" (80 : Nat) ({ cls := "ChipMap$Reader", name := "readBank", desc := "(I)Z" } : Jvm.MethodName) ∈ GT := gt_in (in_t3 (List.mem_of_getElem? (i := 169) rfl)) rfl
set_option maxRecDepth 20000 in
theorem wd_3_171 : Jvm.Cond.instanceMethod ({ cls := "ChipMap$Reader", name := "readBank", desc := "(I)Z" } : Jvm.MethodName) ∈ GT := gt_in (in_t3 (List.mem_of_getElem? (i := 171) rfl)) rfl
set_option maxRecDepth 20000 in
theorem wd_3_172 : Jvm.Cond.code ({ cls := "ChipMap$Reader", name := "readBank", desc := "(I)Z" } : Jvm.MethodName) prog_10_method_8_code (2 : Nat) (Option.some Jvm.ClassFile.FieldType.boolean) ∈ GT := gt_in (in_t3 (List.mem_of_getElem? (i := 172) rfl)) rfl
set_option maxRecDepth 20000 in
theorem wd_3_173 : Jvm.Cond.methodLink "ChipMap$Reader" (92 : Nat) ({ cls := "ChipMap$Reader", name := "name", desc := "()I" } : Jvm.MethodName) ∈ GT := gt_in (in_t3 (List.mem_of_getElem? (i := 173) rfl)) rfl
set_option maxRecDepth 20000 in
theorem wd_3_175 : Jvm.Cond.instanceMethod ({ cls := "ChipMap$Reader", name := "name", desc := "()I" } : Jvm.MethodName) ∈ GT := gt_in (in_t3 (List.mem_of_getElem? (i := 175) rfl)) rfl
set_option maxRecDepth 20000 in
theorem wd_3_176 : Jvm.Cond.code ({ cls := "ChipMap$Reader", name := "name", desc := "()I" } : Jvm.MethodName) prog_10_method_14_code (2 : Nat) (Option.some Jvm.ClassFile.FieldType.int) ∈ GT := gt_in (in_t3 (List.mem_of_getElem? (i := 176) rfl)) rfl
set_option maxRecDepth 20000 in
theorem wd_3_177 : Jvm.Cond.methodLink "ChipMap$Reader" (83 : Nat) ({ cls := "ChipMap$Reader", name := "readField", desc := "(I)Z" } : Jvm.MethodName) ∈ GT := gt_in (in_t3 (List.mem_of_getElem? (i := 177) rfl)) rfl
set_option maxRecDepth 20000 in
theorem wd_3_179 : Jvm.Cond.instanceMethod ({ cls := "ChipMap$Reader", name := "readField", desc := "(I)Z" } : Jvm.MethodName) ∈ GT := gt_in (in_t3 (List.mem_of_getElem? (i := 179) rfl)) rfl
set_option maxRecDepth 20000 in
theorem wd_3_180 : Jvm.Cond.code ({ cls := "ChipMap$Reader", name := "readField", desc := "(I)Z" } : Jvm.MethodName) prog_10_method_9_code (3 : Nat) (Option.some Jvm.ClassFile.FieldType.boolean) ∈ GT := gt_in (in_t3 (List.mem_of_getElem? (i := 180) rfl)) rfl
set_option maxRecDepth 20000 in
theorem wd_3_182 : Jvm.Cond.methodLink "ChipMap$Reader" (115 : Nat) ({ cls := "ChipMap$Reader", name := "oneOf", desc := "(Ljava/lang/String;)I" } : Jvm.MethodName) ∈ GT := gt_in (in_t3 (List.mem_of_getElem? (i := 182) rfl)) rfl
set_option maxRecDepth 20000 in
theorem wd_3_184 : Jvm.Cond.instanceMethod ({ cls := "ChipMap$Reader", name := "oneOf", desc := "(Ljava/lang/String;)I" } : Jvm.MethodName) ∈ GT := gt_in (in_t3 (List.mem_of_getElem? (i := 184) rfl)) rfl
set_option maxRecDepth 20000 in
theorem wd_3_185 : Jvm.Cond.code ({ cls := "ChipMap$Reader", name := "oneOf", desc := "(Ljava/lang/String;)I" } : Jvm.MethodName) prog_10_method_15_code (3 : Nat) (Option.some Jvm.ClassFile.FieldType.int) ∈ GT := gt_in (in_t3 (List.mem_of_getElem? (i := 185) rfl)) rfl
set_option maxRecDepth 20000 in
theorem wd_3_186 : Jvm.Cond.methodLink "ChipMap$Reader" (149 : Nat) ({ cls := "java/lang/String", name := "indexOf", desc := "(I)I" } : Jvm.MethodName) ∈ GT := gt_in (in_t3 (List.mem_of_getElem? (i := 186) rfl)) rfl
set_option maxRecDepth 20000 in
theorem wd_3_187 : Jvm.Cond.instanceMethod ({ cls := "java/lang/String", name := "indexOf", desc := "(I)I" } : Jvm.MethodName) ∈ GT := gt_in (in_t3 (List.mem_of_getElem? (i := 187) rfl)) rfl
set_option maxRecDepth 20000 in
theorem wd_3_188 : Jvm.Cond.selects "java/lang/String" ({ cls := "java/lang/String", name := "indexOf", desc := "(I)I" } : Jvm.MethodName) ({ cls := "java/lang/String", name := "indexOf", desc := "(I)I" } : Jvm.MethodName) ∈ GT := gt_in (in_t3 (List.mem_of_getElem? (i := 188) rfl)) rfl
set_option maxRecDepth 20000 in
theorem wd_3_189 : Jvm.Cond.code ({ cls := "java/lang/String", name := "indexOf", desc := "(I)I" } : Jvm.MethodName) prog_23_method_79_code (2 : Nat) (Option.some Jvm.ClassFile.FieldType.int) ∈ GT := gt_in (in_t3 (List.mem_of_getElem? (i := 189) rfl)) rfl
set_option maxRecDepth 20000 in
theorem wd_3_190 : Jvm.Cond.methodLink "java/lang/String" (633 : Nat) ({ cls := "java/lang/String", name := "indexOf", desc := "(II)I" } : Jvm.MethodName) ∈ GT := gt_in (in_t3 (List.mem_of_getElem? (i := 190) rfl)) rfl
set_option maxRecDepth 20000 in
theorem wd_3_191 : Jvm.Cond.instanceMethod ({ cls := "java/lang/String", name := "indexOf", desc := "(II)I" } : Jvm.MethodName) ∈ GT := gt_in (in_t3 (List.mem_of_getElem? (i := 191) rfl)) rfl
set_option maxRecDepth 20000 in
theorem wd_3_192 : Jvm.Cond.selects "java/lang/String" ({ cls := "java/lang/String", name := "indexOf", desc := "(II)I" } : Jvm.MethodName) ({ cls := "java/lang/String", name := "indexOf", desc := "(II)I" } : Jvm.MethodName) ∈ GT := gt_in (in_t3 (List.mem_of_getElem? (i := 192) rfl)) rfl
set_option maxRecDepth 20000 in
theorem wd_3_193 : Jvm.Cond.code ({ cls := "java/lang/String", name := "indexOf", desc := "(II)I" } : Jvm.MethodName) prog_23_method_80_code (3 : Nat) (Option.some Jvm.ClassFile.FieldType.int) ∈ GT := gt_in (in_t3 (List.mem_of_getElem? (i := 193) rfl)) rfl
set_option maxRecDepth 20000 in
theorem wd_3_194 : Jvm.Cond.methodLink "java/lang/String" (492 : Nat) ({ cls := "java/lang/String", name := "isLatin1", desc := "()Z" } : Jvm.MethodName) ∈ GT := gt_in (in_t3 (List.mem_of_getElem? (i := 194) rfl)) rfl
set_option maxRecDepth 20000 in
theorem wd_3_195 : Jvm.Cond.instanceMethod ({ cls := "java/lang/String", name := "isLatin1", desc := "()Z" } : Jvm.MethodName) ∈ GT := gt_in (in_t3 (List.mem_of_getElem? (i := 195) rfl)) rfl
