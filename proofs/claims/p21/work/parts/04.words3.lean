set_option maxRecDepth 20000 in
theorem wd_6_69 : Jvm.Cond.methodLink "ChipMapModel" (314 : Nat) ({ cls := "ChipMapModel", name := "isThere", desc := "(I)Z" } : Jvm.MethodName) ∈ GT := gt_in (in_t6 (List.mem_of_getElem? (i := 69) rfl)) rfl
set_option maxRecDepth 20000 in
theorem wd_6_71 : Jvm.Cond.instanceMethod ({ cls := "ChipMapModel", name := "isThere", desc := "(I)Z" } : Jvm.MethodName) ∈ GT := gt_in (in_t6 (List.mem_of_getElem? (i := 71) rfl)) rfl
set_option maxRecDepth 20000 in
theorem wd_6_72 : Jvm.Cond.code ({ cls := "ChipMapModel", name := "isThere", desc := "(I)Z" } : Jvm.MethodName) prog_14_method_38_code (2 : Nat) (Option.some Jvm.ClassFile.FieldType.boolean) ∈ GT := gt_in (in_t6 (List.mem_of_getElem? (i := 72) rfl)) rfl
set_option maxRecDepth 20000 in
theorem wd_6_73 : Jvm.Cond.constant "ChipMapModel" (323 : Nat) (65535 : Int32) ∈ GT := gt_in (in_t6 (List.mem_of_getElem? (i := 73) rfl)) rfl
set_option maxRecDepth 20000 in
theorem wd_6_74 : Jvm.Cond.methodLink "ChipMapModel" (324 : Nat) ({ cls := "ChipMapModel", name := "firstBroken", desc := "(II)I" } : Jvm.MethodName) ∈ GT := gt_in (in_t6 (List.mem_of_getElem? (i := 74) rfl)) rfl
set_option maxRecDepth 20000 in
theorem wd_6_76 : Jvm.Cond.instanceMethod ({ cls := "ChipMapModel", name := "firstBroken", desc := "(II)I" } : Jvm.MethodName) ∈ GT := gt_in (in_t6 (List.mem_of_getElem? (i := 76) rfl)) rfl
set_option maxRecDepth 20000 in
theorem wd_6_77 : Jvm.Cond.code ({ cls := "ChipMapModel", name := "firstBroken", desc := "(II)I" } : Jvm.MethodName) prog_14_method_34_code (4 : Nat) (Option.some Jvm.ClassFile.FieldType.int) ∈ GT := gt_in (in_t6 (List.mem_of_getElem? (i := 77) rfl)) rfl
set_option maxRecDepth 20000 in
theorem wd_6_78 : Jvm.Cond.methodLink "ChipMapModel" (304 : Nat) ({ cls := "ChipMapModel", name := "breaks", desc := "(III)Z" } : Jvm.MethodName) ∈ GT := gt_in (in_t6 (List.mem_of_getElem? (i := 78) rfl)) rfl
set_option maxRecDepth 20000 in
theorem wd_6_80 : Jvm.Cond.instanceMethod ({ cls := "ChipMapModel", name := "breaks", desc := "(III)Z" } : Jvm.MethodName) ∈ GT := gt_in (in_t6 (List.mem_of_getElem? (i := 80) rfl)) rfl
set_option maxRecDepth 20000 in
theorem wd_6_81 : Jvm.Cond.code ({ cls := "ChipMapModel", name := "breaks", desc := "(III)Z" } : Jvm.MethodName) prog_14_method_33_code (6 : Nat) (Option.some Jvm.ClassFile.FieldType.boolean) ∈ GT := gt_in (in_t6 (List.mem_of_getElem? (i := 81) rfl)) rfl
set_option maxRecDepth 20000 in
theorem wd_6_82 : Jvm.Cond.methodLink "ChipMapModel" (300 : Nat) ({ cls := "ChipMapModel", name := "isWritten", desc := "(III)Z" } : Jvm.MethodName) ∈ GT := gt_in (in_t6 (List.mem_of_getElem? (i := 82) rfl)) rfl
set_option maxRecDepth 20000 in
theorem wd_6_84 : Jvm.Cond.instanceMethod ({ cls := "ChipMapModel", name := "isWritten", desc := "(III)Z" } : Jvm.MethodName) ∈ GT := gt_in (in_t6 (List.mem_of_getElem? (i := 84) rfl)) rfl
set_option maxRecDepth 20000 in
theorem wd_6_85 : Jvm.Cond.code ({ cls := "ChipMapModel", name := "isWritten", desc := "(III)Z" } : Jvm.MethodName) prog_14_method_32_code (5 : Nat) (Option.some Jvm.ClassFile.FieldType.boolean) ∈ GT := gt_in (in_t6 (List.mem_of_getElem? (i := 85) rfl)) rfl
set_option maxRecDepth 20000 in
theorem wd_6_86 : Jvm.Cond.methodLink "ChipMapModel" (291 : Nat) ({ cls := "ChipMapModel", name := "isIn", desc := "(II)Z" } : Jvm.MethodName) ∈ GT := gt_in (in_t6 (List.mem_of_getElem? (i := 86) rfl)) rfl
set_option maxRecDepth 20000 in
theorem wd_6_88 : Jvm.Cond.instanceMethod ({ cls := "ChipMapModel", name := "isIn", desc := "(II)Z" } : Jvm.MethodName) ∈ GT := gt_in (in_t6 (List.mem_of_getElem? (i := 88) rfl)) rfl
set_option maxRecDepth 20000 in
theorem wd_6_89 : Jvm.Cond.code ({ cls := "ChipMapModel", name := "isIn", desc := "(II)Z" } : Jvm.MethodName) prog_14_method_29_code (3 : Nat) (Option.some Jvm.ClassFile.FieldType.boolean) ∈ GT := gt_in (in_t6 (List.mem_of_getElem? (i := 89) rfl)) rfl
set_option maxRecDepth 20000 in
theorem wd_6_90 : Jvm.Cond.methodLink "ChipMapModel" (294 : Nat) ({ cls := "ChipMapModel", name := "part", desc := "(II)I" } : Jvm.MethodName) ∈ GT := gt_in (in_t6 (List.mem_of_getElem? (i := 90) rfl)) rfl
set_option maxRecDepth 20000 in
theorem wd_6_92 : Jvm.Cond.instanceMethod ({ cls := "ChipMapModel", name := "part", desc := "(II)I" } : Jvm.MethodName) ∈ GT := gt_in (in_t6 (List.mem_of_getElem? (i := 92) rfl)) rfl
set_option maxRecDepth 20000 in
theorem wd_6_93 : Jvm.Cond.code ({ cls := "ChipMapModel", name := "part", desc := "(II)I" } : Jvm.MethodName) prog_14_method_30_code (3 : Nat) (Option.some Jvm.ClassFile.FieldType.int) ∈ GT := gt_in (in_t6 (List.mem_of_getElem? (i := 93) rfl)) rfl
set_option maxRecDepth 20000 in
theorem wd_6_94 : Jvm.Cond.methodLink "ChipMapModel" (297 : Nat) ({ cls := "ChipMapModel", name := "isStored", desc := "(I)Z" } : Jvm.MethodName) ∈ GT := gt_in (in_t6 (List.mem_of_getElem? (i := 94) rfl)) rfl
set_option maxRecDepth 20000 in
theorem wd_6_96 : Jvm.Cond.instanceMethod ({ cls := "ChipMapModel", name := "isStored", desc := "(I)Z" } : Jvm.MethodName) ∈ GT := gt_in (in_t6 (List.mem_of_getElem? (i := 96) rfl)) rfl
set_option maxRecDepth 20000 in
theorem wd_6_97 : Jvm.Cond.code ({ cls := "ChipMapModel", name := "isStored", desc := "(I)Z" } : Jvm.MethodName) prog_14_method_31_code (2 : Nat) (Option.some Jvm.ClassFile.FieldType.boolean) ∈ GT := gt_in (in_t6 (List.mem_of_getElem? (i := 97) rfl)) rfl
set_option maxRecDepth 20000 in
theorem wd_6_98 : Jvm.Cond.methodLink "ChipMapModel" (327 : Nat) ({ cls := "ChipMapModel", name := "write", desc := "(II)V" } : Jvm.MethodName) ∈ GT := gt_in (in_t6 (List.mem_of_getElem? (i := 98) rfl)) rfl
set_option maxRecDepth 20000 in
theorem wd_6_100 : Jvm.Cond.instanceMethod ({ cls := "ChipMapModel", name := "write", desc := "(II)V" } : Jvm.MethodName) ∈ GT := gt_in (in_t6 (List.mem_of_getElem? (i := 100) rfl)) rfl
set_option maxRecDepth 20000 in
theorem wd_6_101 : Jvm.Cond.code ({ cls := "ChipMapModel", name := "write", desc := "(II)V" } : Jvm.MethodName) prog_14_method_36_code (6 : Nat) (Option.none : Option Jvm.ClassFile.FieldType) ∈ GT := gt_in (in_t6 (List.mem_of_getElem? (i := 101) rfl)) rfl
set_option maxRecDepth 20000 in
theorem wd_6_102 : Jvm.Cond.methodLink "ChipMapModel" (310 : Nat) ({ cls := "ChipMapModel", name := "trace", desc := "(ZII)V" } : Jvm.MethodName) ∈ GT := gt_in (in_t6 (List.mem_of_getElem? (i := 102) rfl)) rfl
set_option maxRecDepth 20000 in
theorem wd_6_104 : Jvm.Cond.instanceMethod ({ cls := "ChipMapModel", name := "trace", desc := "(ZII)V" } : Jvm.MethodName) ∈ GT := gt_in (in_t6 (List.mem_of_getElem? (i := 104) rfl)) rfl
set_option maxRecDepth 20000 in
theorem wd_6_105 : Jvm.Cond.code ({ cls := "ChipMapModel", name := "trace", desc := "(ZII)V" } : Jvm.MethodName) prog_14_method_35_code (5 : Nat) (Option.none : Option Jvm.ClassFile.FieldType) ∈ GT := gt_in (in_t6 (List.mem_of_getElem? (i := 105) rfl)) rfl
set_option maxRecDepth 20000 in
theorem wd_6_110 : Jvm.Cond.methodLink "ChipMapModel" (331 : Nat) ({ cls := "ChipMapModel", name := "read", desc := "(I)I" } : Jvm.MethodName) ∈ GT := gt_in (in_t6 (List.mem_of_getElem? (i := 110) rfl)) rfl
set_option maxRecDepth 20000 in
theorem wd_6_112 : Jvm.Cond.instanceMethod ({ cls := "ChipMapModel", name := "read", desc := "(I)I" } : Jvm.MethodName) ∈ GT := gt_in (in_t6 (List.mem_of_getElem? (i := 112) rfl)) rfl
set_option maxRecDepth 20000 in
theorem wd_6_113 : Jvm.Cond.code ({ cls := "ChipMapModel", name := "read", desc := "(I)I" } : Jvm.MethodName) prog_14_method_37_code (4 : Nat) (Option.some Jvm.ClassFile.FieldType.int) ∈ GT := gt_in (in_t6 (List.mem_of_getElem? (i := 113) rfl)) rfl
set_option maxRecDepth 20000 in
theorem wd_6_118 : Jvm.Cond.methodLink "ChipMapModel" (334 : Nat) ({ cls := "ChipMapModel", name := "isFit", desc := "(II)Z" } : Jvm.MethodName) ∈ GT := gt_in (in_t6 (List.mem_of_getElem? (i := 118) rfl)) rfl
set_option maxRecDepth 20000 in
theorem wd_6_120 : Jvm.Cond.instanceMethod ({ cls := "ChipMapModel", name := "isFit", desc := "(II)Z" } : Jvm.MethodName) ∈ GT := gt_in (in_t6 (List.mem_of_getElem? (i := 120) rfl)) rfl
set_option maxRecDepth 20000 in
theorem wd_6_121 : Jvm.Cond.code ({ cls := "ChipMapModel", name := "isFit", desc := "(II)Z" } : Jvm.MethodName) prog_14_method_41_code (3 : Nat) (Option.some Jvm.ClassFile.FieldType.boolean) ∈ GT := gt_in (in_t6 (List.mem_of_getElem? (i := 121) rfl)) rfl
set_option maxRecDepth 20000 in
theorem wd_6_126 : Jvm.Cond.methodLink "ChipMapModel" (366 : Nat) ({ cls := "ChipMapModel", name := "isPut", desc := "(II)Z" } : Jvm.MethodName) ∈ GT := gt_in (in_t6 (List.mem_of_getElem? (i := 126) rfl)) rfl
set_option maxRecDepth 20000 in
theorem wd_6_128 : Jvm.Cond.instanceMethod ({ cls := "ChipMapModel", name := "isPut", desc := "(II)Z" } : Jvm.MethodName) ∈ GT := gt_in (in_t6 (List.mem_of_getElem? (i := 128) rfl)) rfl
set_option maxRecDepth 20000 in
theorem wd_6_129 : Jvm.Cond.code ({ cls := "ChipMapModel", name := "isPut", desc := "(II)Z" } : Jvm.MethodName) prog_14_method_51_code (3 : Nat) (Option.some Jvm.ClassFile.FieldType.boolean) ∈ GT := gt_in (in_t6 (List.mem_of_getElem? (i := 129) rfl)) rfl
set_option maxRecDepth 20000 in
theorem wd_6_130 : Jvm.Cond.methodLink "ChipMapModel" (369 : Nat) ({ cls := "ChipMapModel", name := "begin", desc := "()V" } : Jvm.MethodName) ∈ GT := gt_in (in_t6 (List.mem_of_getElem? (i := 130) rfl)) rfl
set_option maxRecDepth 20000 in
theorem wd_6_132 : Jvm.Cond.instanceMethod ({ cls := "ChipMapModel", name := "begin", desc := "()V" } : Jvm.MethodName) ∈ GT := gt_in (in_t6 (List.mem_of_getElem? (i := 132) rfl)) rfl
set_option maxRecDepth 20000 in
theorem wd_6_133 : Jvm.Cond.code ({ cls := "ChipMapModel", name := "begin", desc := "()V" } : Jvm.MethodName) prog_14_method_55_code (2 : Nat) (Option.none : Option Jvm.ClassFile.FieldType) ∈ GT := gt_in (in_t6 (List.mem_of_getElem? (i := 133) rfl)) rfl
set_option maxRecDepth 20000 in
theorem wd_6_134 : Jvm.Cond.methodLink "ChipMapModel" (360 : Nat) ({ cls := "ChipMapModel", name := "copyDevice", desc := "(II)V" } : Jvm.MethodName) ∈ GT := gt_in (in_t6 (List.mem_of_getElem? (i := 134) rfl)) rfl
set_option maxRecDepth 20000 in
theorem wd_6_136 : Jvm.Cond.instanceMethod ({ cls := "ChipMapModel", name := "copyDevice", desc := "(II)V" } : Jvm.MethodName) ∈ GT := gt_in (in_t6 (List.mem_of_getElem? (i := 136) rfl)) rfl
set_option maxRecDepth 20000 in
theorem wd_6_137 : Jvm.Cond.code ({ cls := "ChipMapModel", name := "copyDevice", desc := "(II)V" } : Jvm.MethodName) prog_14_method_28_code (4 : Nat) (Option.none : Option Jvm.ClassFile.FieldType) ∈ GT := gt_in (in_t6 (List.mem_of_getElem? (i := 137) rfl)) rfl
set_option maxRecDepth 20000 in
theorem wd_6_138 : Jvm.Cond.methodLink "ChipMapModel" (372 : Nat) ({ cls := "ChipMapModel", name := "doPut", desc := "(II)V" } : Jvm.MethodName) ∈ GT := gt_in (in_t6 (List.mem_of_getElem? (i := 138) rfl)) rfl
set_option maxRecDepth 20000 in
theorem wd_6_140 : Jvm.Cond.instanceMethod ({ cls := "ChipMapModel", name := "doPut", desc := "(II)V" } : Jvm.MethodName) ∈ GT := gt_in (in_t6 (List.mem_of_getElem? (i := 140) rfl)) rfl
set_option maxRecDepth 20000 in
theorem wd_6_141 : Jvm.Cond.code ({ cls := "ChipMapModel", name := "doPut", desc := "(II)V" } : Jvm.MethodName) prog_14_method_52_code (3 : Nat) (Option.none : Option Jvm.ClassFile.FieldType) ∈ GT := gt_in (in_t6 (List.mem_of_getElem? (i := 141) rfl)) rfl
set_option maxRecDepth 20000 in
theorem wd_6_142 : Jvm.Cond.methodLink "ChipMapModel" (353 : Nat) ({ cls := "ChipMapModel", name := "reach", desc := "(I)V" } : Jvm.MethodName) ∈ GT := gt_in (in_t6 (List.mem_of_getElem? (i := 142) rfl)) rfl
set_option maxRecDepth 20000 in
theorem wd_6_144 : Jvm.Cond.instanceMethod ({ cls := "ChipMapModel", name := "reach", desc := "(I)V" } : Jvm.MethodName) ∈ GT := gt_in (in_t6 (List.mem_of_getElem? (i := 144) rfl)) rfl
set_option maxRecDepth 20000 in
theorem wd_6_145 : Jvm.Cond.code ({ cls := "ChipMapModel", name := "reach", desc := "(I)V" } : Jvm.MethodName) prog_14_method_50_code (3 : Nat) (Option.none : Option Jvm.ClassFile.FieldType) ∈ GT := gt_in (in_t6 (List.mem_of_getElem? (i := 145) rfl)) rfl
set_option maxRecDepth 20000 in
theorem wd_6_146 : Jvm.Cond.methodLink "ChipMapModel" (343 : Nat) ({ cls := "ChipMapModel", name := "still", desc := "(I)I" } : Jvm.MethodName) ∈ GT := gt_in (in_t6 (List.mem_of_getElem? (i := 146) rfl)) rfl
set_option maxRecDepth 20000 in
theorem wd_6_148 : Jvm.Cond.instanceMethod ({ cls := "ChipMapModel", name := "still", desc := "(I)I" } : Jvm.MethodName) ∈ GT := gt_in (in_t6 (List.mem_of_getElem? (i := 148) rfl)) rfl
set_option maxRecDepth 20000 in
theorem wd_6_149 : Jvm.Cond.code ({ cls := "ChipMapModel", name := "still", desc := "(I)I" } : Jvm.MethodName) prog_14_method_47_code (4 : Nat) (Option.some Jvm.ClassFile.FieldType.int) ∈ GT := gt_in (in_t6 (List.mem_of_getElem? (i := 149) rfl)) rfl
set_option maxRecDepth 20000 in
theorem wd_6_150 : Jvm.Cond.methodLink "ChipMapModel" (346 : Nat) ({ cls := "ChipMapModel", name := "with", desc := "(III)I" } : Jvm.MethodName) ∈ GT := gt_in (in_t6 (List.mem_of_getElem? (i := 150) rfl)) rfl
set_option maxRecDepth 20000 in
theorem wd_6_152 : Jvm.Cond.instanceMethod ({ cls := "ChipMapModel", name := "with", desc := "(III)I" } : Jvm.MethodName) ∈ GT := gt_in (in_t6 (List.mem_of_getElem? (i := 152) rfl)) rfl
set_option maxRecDepth 20000 in
theorem wd_6_153 : Jvm.Cond.code ({ cls := "ChipMapModel", name := "with", desc := "(III)I" } : Jvm.MethodName) prog_14_method_48_code (4 : Nat) (Option.some Jvm.ClassFile.FieldType.int) ∈ GT := gt_in (in_t6 (List.mem_of_getElem? (i := 153) rfl)) rfl
set_option maxRecDepth 20000 in
theorem wd_6_154 : Jvm.Cond.methodLink "ChipMapModel" (350 : Nat) ({ cls := "ChipMapModel", name := "operate", desc := "(II)V" } : Jvm.MethodName) ∈ GT := gt_in (in_t6 (List.mem_of_getElem? (i := 154) rfl)) rfl
set_option maxRecDepth 20000 in
theorem wd_6_156 : Jvm.Cond.instanceMethod ({ cls := "ChipMapModel", name := "operate", desc := "(II)V" } : Jvm.MethodName) ∈ GT := gt_in (in_t6 (List.mem_of_getElem? (i := 156) rfl)) rfl
set_option maxRecDepth 20000 in
theorem wd_6_157 : Jvm.Cond.code ({ cls := "ChipMapModel", name := "operate", desc := "(II)V" } : Jvm.MethodName) prog_14_method_49_code (4 : Nat) (Option.none : Option Jvm.ClassFile.FieldType) ∈ GT := gt_in (in_t6 (List.mem_of_getElem? (i := 157) rfl)) rfl
set_option maxRecDepth 20000 in
theorem wd_6_158 : Jvm.Cond.methodLink "ChipMapModel" (375 : Nat) ({ cls := "ChipMapModel", name := "end", desc := "()I" } : Jvm.MethodName) ∈ GT := gt_in (in_t6 (List.mem_of_getElem? (i := 158) rfl)) rfl
set_option maxRecDepth 20000 in
theorem wd_6_160 : Jvm.Cond.instanceMethod ({ cls := "ChipMapModel", name := "end", desc := "()I" } : Jvm.MethodName) ∈ GT := gt_in (in_t6 (List.mem_of_getElem? (i := 160) rfl)) rfl
set_option maxRecDepth 20000 in
theorem wd_6_161 : Jvm.Cond.code ({ cls := "ChipMapModel", name := "end", desc := "()I" } : Jvm.MethodName) prog_14_method_56_code (2 : Nat) (Option.some Jvm.ClassFile.FieldType.int) ∈ GT := gt_in (in_t6 (List.mem_of_getElem? (i := 161) rfl)) rfl
set_option maxRecDepth 20000 in
theorem wd_6_166 : Jvm.Cond.methodLink "ChipMapModel" (378 : Nat) ({ cls := "ChipMapModel", name := "isFetch", desc := "(I)Z" } : Jvm.MethodName) ∈ GT := gt_in (in_t6 (List.mem_of_getElem? (i := 166) rfl)) rfl
set_option maxRecDepth 20000 in
theorem wd_6_168 : Jvm.Cond.instanceMethod ({ cls := "ChipMapModel", name := "isFetch", desc := "(I)Z" } : Jvm.MethodName) ∈ GT := gt_in (in_t6 (List.mem_of_getElem? (i := 168) rfl)) rfl
set_option maxRecDepth 20000 in
theorem wd_6_169 : Jvm.Cond.code ({ cls := "ChipMapModel", name := "isFetch", desc := "(I)Z" } : Jvm.MethodName) prog_14_method_53_code (2 : Nat) (Option.some Jvm.ClassFile.FieldType.boolean) ∈ GT := gt_in (in_t6 (List.mem_of_getElem? (i := 169) rfl)) rfl
set_option maxRecDepth 20000 in
theorem wd_6_170 : Jvm.Cond.methodLink "ChipMapModel" (381 : Nat) ({ cls := "ChipMapModel", name := "doFetch", desc := "(I)V" } : Jvm.MethodName) ∈ GT := gt_in (in_t6 (List.mem_of_getElem? (i := 170) rfl)) rfl
set_option maxRecDepth 20000 in
theorem wd_6_172 : Jvm.Cond.instanceMethod ({ cls := "ChipMapModel", name := "doFetch", desc := "(I)V" } : Jvm.MethodName) ∈ GT := gt_in (in_t6 (List.mem_of_getElem? (i := 172) rfl)) rfl
set_option maxRecDepth 20000 in
theorem wd_6_173 : Jvm.Cond.code ({ cls := "ChipMapModel", name := "doFetch", desc := "(I)V" } : Jvm.MethodName) prog_14_method_54_code (2 : Nat) (Option.none : Option Jvm.ClassFile.FieldType) ∈ GT := gt_in (in_t6 (List.mem_of_getElem? (i := 173) rfl)) rfl
set_option maxRecDepth 20000 in
theorem wd_6_182 : Jvm.Cond.methodLink "ChipMapModel" (384 : Nat) ({ cls := "ChipMapModel", name := "flushRegister", desc := "(I)V" } : Jvm.MethodName) ∈ GT := gt_in (in_t6 (List.mem_of_getElem? (i := 182) rfl)) rfl
set_option maxRecDepth 20000 in
theorem wd_6_184 : Jvm.Cond.instanceMethod ({ cls := "ChipMapModel", name := "flushRegister", desc := "(I)V" } : Jvm.MethodName) ∈ GT := gt_in (in_t6 (List.mem_of_getElem? (i := 184) rfl)) rfl
set_option maxRecDepth 20000 in
theorem wd_6_185 : Jvm.Cond.code ({ cls := "ChipMapModel", name := "flushRegister", desc := "(I)V" } : Jvm.MethodName) prog_14_method_60_code (6 : Nat) (Option.none : Option Jvm.ClassFile.FieldType) ∈ GT := gt_in (in_t6 (List.mem_of_getElem? (i := 185) rfl)) rfl
set_option maxRecDepth 20000 in
theorem wd_6_206 : Jvm.Cond.methodLink "ChipMapModel" (402 : Nat) ({ cls := "ChipMapModel", name := "meet", desc := "(I)V" } : Jvm.MethodName) ∈ GT := gt_in (in_t6 (List.mem_of_getElem? (i := 206) rfl)) rfl
set_option maxRecDepth 20000 in
theorem wd_6_208 : Jvm.Cond.instanceMethod ({ cls := "ChipMapModel", name := "meet", desc := "(I)V" } : Jvm.MethodName) ∈ GT := gt_in (in_t6 (List.mem_of_getElem? (i := 208) rfl)) rfl
set_option maxRecDepth 20000 in
theorem wd_6_209 : Jvm.Cond.code ({ cls := "ChipMapModel", name := "meet", desc := "(I)V" } : Jvm.MethodName) prog_14_method_68_code (4 : Nat) (Option.none : Option Jvm.ClassFile.FieldType) ∈ GT := gt_in (in_t6 (List.mem_of_getElem? (i := 209) rfl)) rfl
set_option maxRecDepth 20000 in
theorem wd_6_210 : Jvm.Cond.methodLink "ChipMapModel" (393 : Nat) ({ cls := "ChipMapModel", name := "isSituation", desc := "(II)Z" } : Jvm.MethodName) ∈ GT := gt_in (in_t6 (List.mem_of_getElem? (i := 210) rfl)) rfl
set_option maxRecDepth 20000 in
theorem wd_6_212 : Jvm.Cond.instanceMethod ({ cls := "ChipMapModel", name := "isSituation", desc := "(II)Z" } : Jvm.MethodName) ∈ GT := gt_in (in_t6 (List.mem_of_getElem? (i := 212) rfl)) rfl
set_option maxRecDepth 20000 in
theorem wd_6_213 : Jvm.Cond.code ({ cls := "ChipMapModel", name := "isSituation", desc := "(II)Z" } : Jvm.MethodName) prog_14_method_67_code (4 : Nat) (Option.some Jvm.ClassFile.FieldType.boolean) ∈ GT := gt_in (in_t6 (List.mem_of_getElem? (i := 213) rfl)) rfl
set_option maxRecDepth 20000 in
theorem wd_6_214 : Jvm.Cond.methodLink "ChipMapModel" (387 : Nat) ({ cls := "ChipMapModel", name := "memoryWord", desc := "()I" } : Jvm.MethodName) ∈ GT := gt_in (in_t6 (List.mem_of_getElem? (i := 214) rfl)) rfl
set_option maxRecDepth 20000 in
theorem wd_6_216 : Jvm.Cond.instanceMethod ({ cls := "ChipMapModel", name := "memoryWord", desc := "()I" } : Jvm.MethodName) ∈ GT := gt_in (in_t6 (List.mem_of_getElem? (i := 216) rfl)) rfl
set_option maxRecDepth 20000 in
theorem wd_6_217 : Jvm.Cond.code ({ cls := "ChipMapModel", name := "memoryWord", desc := "()I" } : Jvm.MethodName) prog_14_method_66_code (3 : Nat) (Option.some Jvm.ClassFile.FieldType.int) ∈ GT := gt_in (in_t6 (List.mem_of_getElem? (i := 217) rfl)) rfl
set_option maxRecDepth 20000 in
theorem wd_6_218 : Jvm.Cond.methodLink "ChipMapModel" (408 : Nat) ({ cls := "ChipMapModel", name := "goOn", desc := "(I)V" } : Jvm.MethodName) ∈ GT := gt_in (in_t6 (List.mem_of_getElem? (i := 218) rfl)) rfl
set_option maxRecDepth 20000 in
theorem wd_6_220 : Jvm.Cond.instanceMethod ({ cls := "ChipMapModel", name := "goOn", desc := "(I)V" } : Jvm.MethodName) ∈ GT := gt_in (in_t6 (List.mem_of_getElem? (i := 220) rfl)) rfl
set_option maxRecDepth 20000 in
theorem wd_6_221 : Jvm.Cond.code ({ cls := "ChipMapModel", name := "goOn", desc := "(I)V" } : Jvm.MethodName) prog_14_method_70_code (3 : Nat) (Option.none : Option Jvm.ClassFile.FieldType) ∈ GT := gt_in (in_t6 (List.mem_of_getElem? (i := 221) rfl)) rfl
set_option maxRecDepth 20000 in
theorem wd_6_222 : Jvm.Cond.methodLink "ChipMapModel" (399 : Nat) ({ cls := "ChipMapModel", name := "stand", desc := "(I)V" } : Jvm.MethodName) ∈ GT := gt_in (in_t6 (List.mem_of_getElem? (i := 222) rfl)) rfl
set_option maxRecDepth 20000 in
theorem wd_6_224 : Jvm.Cond.instanceMethod ({ cls := "ChipMapModel", name := "stand", desc := "(I)V" } : Jvm.MethodName) ∈ GT := gt_in (in_t6 (List.mem_of_getElem? (i := 224) rfl)) rfl
set_option maxRecDepth 20000 in
theorem wd_6_225 : Jvm.Cond.code ({ cls := "ChipMapModel", name := "stand", desc := "(I)V" } : Jvm.MethodName) prog_14_method_69_code (3 : Nat) (Option.none : Option Jvm.ClassFile.FieldType) ∈ GT := gt_in (in_t6 (List.mem_of_getElem? (i := 225) rfl)) rfl
set_option maxRecDepth 20000 in
theorem wd_7_0 : Jvm.Cond.fieldLink "java/lang/String" (9 : Nat) "java/lang/String" "value" "[B" ∈ GT := gt_in (in_t7 (List.mem_of_getElem? (i := 0) rfl)) rfl
set_option maxRecDepth 20000 in
theorem wd_7_1 : Jvm.Cond.fieldLink "java/lang/String" (15 : Nat) "java/lang/String" "coder" "B" ∈ GT := gt_in (in_t7 (List.mem_of_getElem? (i := 1) rfl)) rfl
set_option maxRecDepth 20000 in
theorem sl__ChipMap____ChipMap___doStep____I_Z_____ChipMap___doStep____I_Z__ : Cond.selects "ChipMap" ⟨"ChipMap", "doStep", "(I)Z"⟩ ⟨"ChipMap", "doStep", "(I)Z"⟩ ∈ GT := gt_in (List.mem_append_left _ (List.mem_map.mpr ⟨(⟨"ChipMap", "doStep", "(I)Z"⟩, 9), by decide +kernel, rfl⟩)) rfl
set_option maxRecDepth 20000 in
theorem sl__ChipMap____ChipMap___doWrites_____I_____ChipMap___doWrites_____I__ : Cond.selects "ChipMap" ⟨"ChipMap", "doWrites", "()I"⟩ ⟨"ChipMap", "doWrites", "()I"⟩ ∈ GT := gt_in (List.mem_append_left _ (List.mem_map.mpr ⟨(⟨"ChipMap", "doWrites", "()I"⟩, 9), by decide +kernel, rfl⟩)) rfl
set_option maxRecDepth 20000 in
theorem sl__ChipMap____ChipMap___hasMap_____Z_____ChipMap___hasMap_____Z__ : Cond.selects "ChipMap" ⟨"ChipMap", "hasMap", "()Z"⟩ ⟨"ChipMap", "hasMap", "()Z"⟩ ∈ GT := gt_in (List.mem_append_left _ (List.mem_map.mpr ⟨(⟨"ChipMap", "hasMap", "()Z"⟩, 9), by decide +kernel, rfl⟩)) rfl
set_option maxRecDepth 20000 in
theorem sl__ChipMap____ChipMap___isStep____III_Z_____ChipMap___isStep____III_Z__ : Cond.selects "ChipMap" ⟨"ChipMap", "isStep", "(III)Z"⟩ ⟨"ChipMap", "isStep", "(III)Z"⟩ ∈ GT := gt_in (List.mem_append_left _ (List.mem_map.mpr ⟨(⟨"ChipMap", "isStep", "(III)Z"⟩, 9), by decide +kernel, rfl⟩)) rfl
set_option maxRecDepth 20000 in
theorem sl__ChipMap____ChipMap___reachForFetch____I_Z_____ChipMap___reachForFetch____I_Z__ : Cond.selects "ChipMap" ⟨"ChipMap", "reachForFetch", "(I)Z"⟩ ⟨"ChipMap", "reachForFetch", "(I)Z"⟩ ∈ GT := gt_in (List.mem_append_left _ (List.mem_map.mpr ⟨(⟨"ChipMap", "reachForFetch", "(I)Z"⟩, 9), by decide +kernel, rfl⟩)) rfl
set_option maxRecDepth 20000 in
theorem sl__ChipMap____ChipMap___readOut____I_I_____ChipMap___readOut____I_I__ : Cond.selects "ChipMap" ⟨"ChipMap", "readOut", "(I)I"⟩ ⟨"ChipMap", "readOut", "(I)I"⟩ ∈ GT := gt_in (List.mem_append_left _ (List.mem_map.mpr ⟨(⟨"ChipMap", "readOut", "(I)I"⟩, 9), by decide +kernel, rfl⟩)) rfl
set_option maxRecDepth 20000 in
theorem sl__ChipMap____ChipMap___startAgain_____V_____ChipMap___startAgain_____V__ : Cond.selects "ChipMap" ⟨"ChipMap", "startAgain", "()V"⟩ ⟨"ChipMap", "startAgain", "()V"⟩ ∈ GT := gt_in (List.mem_append_left _ (List.mem_map.mpr ⟨(⟨"ChipMap", "startAgain", "()V"⟩, 9), by decide +kernel, rfl⟩)) rfl
set_option maxRecDepth 20000 in
theorem sl__ChipMap_Checker____ChipMap_Checker___add____I_V_____ChipMap_Checker___add____I_V__ : Cond.selects "ChipMap$Checker" ⟨"ChipMap$Checker", "add", "(I)V"⟩ ⟨"ChipMap$Checker", "add", "(I)V"⟩ ∈ GT := gt_in (List.mem_append_left _ (List.mem_map.mpr ⟨(⟨"ChipMap$Checker", "add", "(I)V"⟩, 10), by decide +kernel, rfl⟩)) rfl
set_option maxRecDepth 20000 in
theorem sl__ChipMap_Checker____ChipMap_Checker___hashOfKey_____I_____ChipMap_Checker___hashOfKey_____I__ : Cond.selects "ChipMap$Checker" ⟨"ChipMap$Checker", "hashOfKey", "()I"⟩ ⟨"ChipMap$Checker", "hashOfKey", "()I"⟩ ∈ GT := gt_in (List.mem_append_left _ (List.mem_map.mpr ⟨(⟨"ChipMap$Checker", "hashOfKey", "()I"⟩, 10), by decide +kernel, rfl⟩)) rfl
set_option maxRecDepth 20000 in
theorem sl__ChipMap_Checker____ChipMap_Checker___isKey____I_Z_____ChipMap_Checker___isKey____I_Z__ : Cond.selects "ChipMap$Checker" ⟨"ChipMap$Checker", "isKey", "(I)Z"⟩ ⟨"ChipMap$Checker", "isKey", "(I)Z"⟩ ∈ GT := gt_in (List.mem_append_left _ (List.mem_map.mpr ⟨(⟨"ChipMap$Checker", "isKey", "(I)Z"⟩, 10), by decide +kernel, rfl⟩)) rfl
set_option maxRecDepth 20000 in
theorem sl__ChipMap_Checker____ChipMap_Checker___load____I_I_____ChipMap_Checker___load____I_I__ : Cond.selects "ChipMap$Checker" ⟨"ChipMap$Checker", "load", "(I)I"⟩ ⟨"ChipMap$Checker", "load", "(I)I"⟩ ∈ GT := gt_in (List.mem_append_left _ (List.mem_map.mpr ⟨(⟨"ChipMap$Checker", "load", "(I)I"⟩, 10), by decide +kernel, rfl⟩)) rfl
set_option maxRecDepth 20000 in
theorem sl__ChipMap_Checker____ChipMap_Checker___makeKey____I_V_____ChipMap_Checker___makeKey____I_V__ : Cond.selects "ChipMap$Checker" ⟨"ChipMap$Checker", "makeKey", "(I)V"⟩ ⟨"ChipMap$Checker", "makeKey", "(I)V"⟩ ∈ GT := gt_in (List.mem_append_left _ (List.mem_map.mpr ⟨(⟨"ChipMap$Checker", "makeKey", "(I)V"⟩, 10), by decide +kernel, rfl⟩)) rfl
set_option maxRecDepth 20000 in
theorem sl__ChipMap_Checker____ChipMap_Checker___meet____I_V_____ChipMap_Checker___meet____I_V__ : Cond.selects "ChipMap$Checker" ⟨"ChipMap$Checker", "meet", "(I)V"⟩ ⟨"ChipMap$Checker", "meet", "(I)V"⟩ ∈ GT := gt_in (List.mem_append_left _ (List.mem_map.mpr ⟨(⟨"ChipMap$Checker", "meet", "(I)V"⟩, 10), by decide +kernel, rfl⟩)) rfl
set_option maxRecDepth 20000 in
theorem sl__ChipMap_Checker____ChipMap_Checker___tell____II_V_____ChipMap_Checker___tell____II_V__ : Cond.selects "ChipMap$Checker" ⟨"ChipMap$Checker", "tell", "(II)V"⟩ ⟨"ChipMap$Checker", "tell", "(II)V"⟩ ∈ GT := gt_in (List.mem_append_left _ (List.mem_map.mpr ⟨(⟨"ChipMap$Checker", "tell", "(II)V"⟩, 10), by decide +kernel, rfl⟩)) rfl
set_option maxRecDepth 20000 in
theorem sl__ChipMap_Device____ChipMap_Device___countPulses____I_V_____ChipMap_Device___countPulses____I_V__ : Cond.selects "ChipMap$Device" ⟨"ChipMap$Device", "countPulses", "(I)V"⟩ ⟨"ChipMap$Device", "countPulses", "(I)V"⟩ ∈ GT := gt_in (List.mem_append_left _ (List.mem_map.mpr ⟨(⟨"ChipMap$Device", "countPulses", "(I)V"⟩, 7), by decide +kernel, rfl⟩)) rfl
set_option maxRecDepth 20000 in
theorem sl__ChipMap_Device____ChipMap_Device___startPulses____II_V_____ChipMap_Device___startPulses____II_V__ : Cond.selects "ChipMap$Device" ⟨"ChipMap$Device", "startPulses", "(II)V"⟩ ⟨"ChipMap$Device", "startPulses", "(II)V"⟩ ∈ GT := gt_in (List.mem_append_left _ (List.mem_map.mpr ⟨(⟨"ChipMap$Device", "startPulses", "(II)V"⟩, 7), by decide +kernel, rfl⟩)) rfl
set_option maxRecDepth 20000 in
theorem sl__ChipMap_Judge____ChipMap_Judge___areApart____II_Z_____ChipMap_Judge___areApart____II_Z__ : Cond.selects "ChipMap$Judge" ⟨"ChipMap$Judge", "areApart", "(II)Z"⟩ ⟨"ChipMap$Judge", "areApart", "(II)Z"⟩ ∈ GT := gt_in (List.mem_append_left _ (List.mem_map.mpr ⟨(⟨"ChipMap$Judge", "areApart", "(II)Z"⟩, 3), by decide +kernel, rfl⟩)) rfl
set_option maxRecDepth 20000 in
theorem sl__ChipMap_Judge____ChipMap_Judge___badBank_____I_____ChipMap_Judge___badBank_____I__ : Cond.selects "ChipMap$Judge" ⟨"ChipMap$Judge", "badBank", "()I"⟩ ⟨"ChipMap$Judge", "badBank", "()I"⟩ ∈ GT := gt_in (List.mem_append_left _ (List.mem_map.mpr ⟨(⟨"ChipMap$Judge", "badBank", "()I"⟩, 3), by decide +kernel, rfl⟩)) rfl
set_option maxRecDepth 20000 in
theorem sl__ChipMap_Judge____ChipMap_Judge___badField_____I_____ChipMap_Judge___badField_____I__ : Cond.selects "ChipMap$Judge" ⟨"ChipMap$Judge", "badField", "()I"⟩ ⟨"ChipMap$Judge", "badField", "()I"⟩ ∈ GT := gt_in (List.mem_append_left _ (List.mem_map.mpr ⟨(⟨"ChipMap$Judge", "badField", "()I"⟩, 3), by decide +kernel, rfl⟩)) rfl
set_option maxRecDepth 20000 in
theorem sl__ChipMap_Judge____ChipMap_Judge___badOffset_____I_____ChipMap_Judge___badOffset_____I__ : Cond.selects "ChipMap$Judge" ⟨"ChipMap$Judge", "badOffset", "()I"⟩ ⟨"ChipMap$Judge", "badOffset", "()I"⟩ ∈ GT := gt_in (List.mem_append_left _ (List.mem_map.mpr ⟨(⟨"ChipMap$Judge", "badOffset", "()I"⟩, 3), by decide +kernel, rfl⟩)) rfl
set_option maxRecDepth 20000 in
theorem sl__ChipMap_Judge____ChipMap_Judge___badRule_____I_____ChipMap_Judge___badRule_____I__ : Cond.selects "ChipMap$Judge" ⟨"ChipMap$Judge", "badRule", "()I"⟩ ⟨"ChipMap$Judge", "badRule", "()I"⟩ ∈ GT := gt_in (List.mem_append_left _ (List.mem_map.mpr ⟨(⟨"ChipMap$Judge", "badRule", "()I"⟩, 3), by decide +kernel, rfl⟩)) rfl
set_option maxRecDepth 20000 in
theorem sl__ChipMap_Judge____ChipMap_Judge___canBeBank____II_Z_____ChipMap_Judge___canBeBank____II_Z__ : Cond.selects "ChipMap$Judge" ⟨"ChipMap$Judge", "canBeBank", "(II)Z"⟩ ⟨"ChipMap$Judge", "canBeBank", "(II)Z"⟩ ∈ GT := gt_in (List.mem_append_left _ (List.mem_map.mpr ⟨(⟨"ChipMap$Judge", "canBeBank", "(II)Z"⟩, 3), by decide +kernel, rfl⟩)) rfl
set_option maxRecDepth 20000 in
theorem sl__ChipMap_Judge____ChipMap_Judge___isKnown____I_Z_____ChipMap_Judge___isKnown____I_Z__ : Cond.selects "ChipMap$Judge" ⟨"ChipMap$Judge", "isKnown", "(I)Z"⟩ ⟨"ChipMap$Judge", "isKnown", "(I)Z"⟩ ∈ GT := gt_in (List.mem_append_left _ (List.mem_map.mpr ⟨(⟨"ChipMap$Judge", "isKnown", "(I)Z"⟩, 3), by decide +kernel, rfl⟩)) rfl
set_option maxRecDepth 20000 in
theorem sl__ChipMap_Judge____ChipMap_Judge___isWritable____I_Z_____ChipMap_Judge___isWritable____I_Z__ : Cond.selects "ChipMap$Judge" ⟨"ChipMap$Judge", "isWritable", "(I)Z"⟩ ⟨"ChipMap$Judge", "isWritable", "(I)Z"⟩ ∈ GT := gt_in (List.mem_append_left _ (List.mem_map.mpr ⟨(⟨"ChipMap$Judge", "isWritable", "(I)Z"⟩, 3), by decide +kernel, rfl⟩)) rfl
set_option maxRecDepth 20000 in
theorem sl__ChipMap_Layout____ChipMap_Layout___addField____LChipMap_Draft_I_V_____ChipMap_Layout___addField____LChipMap_Draft_I_V__ : Cond.selects "ChipMap$Layout" ⟨"ChipMap$Layout", "addField", "(LChipMap$Draft;I)V"⟩ ⟨"ChipMap$Layout", "addField", "(LChipMap$Draft;I)V"⟩ ∈ GT := gt_in (List.mem_append_left _ (List.mem_map.mpr ⟨(⟨"ChipMap$Layout", "addField", "(LChipMap$Draft;I)V"⟩, 13), by decide +kernel, rfl⟩)) rfl
set_option maxRecDepth 20000 in
theorem sl__ChipMap_Mind____ChipMap_Mind___isWritten____III_Z_____ChipMap_Mind___isWritten____III_Z__ : Cond.selects "ChipMap$Mind" ⟨"ChipMap$Mind", "isWritten", "(III)Z"⟩ ⟨"ChipMap$Mind", "isWritten", "(III)Z"⟩ ∈ GT := gt_in (List.mem_append_left _ (List.mem_map.mpr ⟨(⟨"ChipMap$Mind", "isWritten", "(III)Z"⟩, 3), by decide +kernel, rfl⟩)) rfl
set_option maxRecDepth 20000 in
theorem sl__ChipMap_Plan____ChipMap_Plan___addReach____I_V_____ChipMap_Plan___addReach____I_V__ : Cond.selects "ChipMap$Plan" ⟨"ChipMap$Plan", "addReach", "(I)V"⟩ ⟨"ChipMap$Plan", "addReach", "(I)V"⟩ ∈ GT := gt_in (List.mem_append_left _ (List.mem_map.mpr ⟨(⟨"ChipMap$Plan", "addReach", "(I)V"⟩, 6), by decide +kernel, rfl⟩)) rfl
set_option maxRecDepth 20000 in
theorem sl__ChipMap_Plan____ChipMap_Plan___addRegister____LChipMap_Steps_I_V_____ChipMap_Plan___addRegister____LChipMap_Steps_I_V__ : Cond.selects "ChipMap$Plan" ⟨"ChipMap$Plan", "addRegister", "(LChipMap$Steps;I)V"⟩ ⟨"ChipMap$Plan", "addRegister", "(LChipMap$Steps;I)V"⟩ ∈ GT := gt_in (List.mem_append_left _ (List.mem_map.mpr ⟨(⟨"ChipMap$Plan", "addRegister", "(LChipMap$Steps;I)V"⟩, 6), by decide +kernel, rfl⟩)) rfl
set_option maxRecDepth 20000 in
theorem sl__ChipMap_Plan____ChipMap_Plan___addTold____III_V_____ChipMap_Plan___addTold____III_V__ : Cond.selects "ChipMap$Plan" ⟨"ChipMap$Plan", "addTold", "(III)V"⟩ ⟨"ChipMap$Plan", "addTold", "(III)V"⟩ ∈ GT := gt_in (List.mem_append_left _ (List.mem_map.mpr ⟨(⟨"ChipMap$Plan", "addTold", "(III)V"⟩, 6), by decide +kernel, rfl⟩)) rfl
set_option maxRecDepth 20000 in
theorem sl__ChipMap_Plan____ChipMap_Plan___isFirstOfRegister____LChipMap_Steps_I_Z_____ChipMap_Plan___isFirstOfRegister____LChipMap_Steps_I_Z__ : Cond.selects "ChipMap$Plan" ⟨"ChipMap$Plan", "isFirstOfRegister", "(LChipMap$Steps;I)Z"⟩ ⟨"ChipMap$Plan", "isFirstOfRegister", "(LChipMap$Steps;I)Z"⟩ ∈ GT := gt_in (List.mem_append_left _ (List.mem_map.mpr ⟨(⟨"ChipMap$Plan", "isFirstOfRegister", "(LChipMap$Steps;I)Z"⟩, 6), by decide +kernel, rfl⟩)) rfl
set_option maxRecDepth 20000 in
theorem sl__ChipMap_Reader____ChipMap_Reader___name_____I_____ChipMap_Reader___name_____I__ : Cond.selects "ChipMap$Reader" ⟨"ChipMap$Reader", "name", "()I"⟩ ⟨"ChipMap$Reader", "name", "()I"⟩ ∈ GT := gt_in (List.mem_append_left _ (List.mem_map.mpr ⟨(⟨"ChipMap$Reader", "name", "()I"⟩, 4), by decide +kernel, rfl⟩)) rfl
set_option maxRecDepth 20000 in
theorem sl__ChipMap_Reader____ChipMap_Reader___next_____C_____ChipMap_Reader___next_____C__ : Cond.selects "ChipMap$Reader" ⟨"ChipMap$Reader", "next", "()C"⟩ ⟨"ChipMap$Reader", "next", "()C"⟩ ∈ GT := gt_in (List.mem_append_left _ (List.mem_map.mpr ⟨(⟨"ChipMap$Reader", "next", "()C"⟩, 4), by decide +kernel, rfl⟩)) rfl
set_option maxRecDepth 20000 in
theorem sl__ChipMap_Reader____ChipMap_Reader___number____III_I_____ChipMap_Reader___number____III_I__ : Cond.selects "ChipMap$Reader" ⟨"ChipMap$Reader", "number", "(III)I"⟩ ⟨"ChipMap$Reader", "number", "(III)I"⟩ ∈ GT := gt_in (List.mem_append_left _ (List.mem_map.mpr ⟨(⟨"ChipMap$Reader", "number", "(III)I"⟩, 4), by decide +kernel, rfl⟩)) rfl
set_option maxRecDepth 20000 in
theorem sl__ChipMap_Reader____ChipMap_Reader___numberBehindSign_____I_____ChipMap_Reader___numberBehindSign_____I__ : Cond.selects "ChipMap$Reader" ⟨"ChipMap$Reader", "numberBehindSign", "()I"⟩ ⟨"ChipMap$Reader", "numberBehindSign", "()I"⟩ ∈ GT := gt_in (List.mem_append_left _ (List.mem_map.mpr ⟨(⟨"ChipMap$Reader", "numberBehindSign", "()I"⟩, 4), by decide +kernel, rfl⟩)) rfl
set_option maxRecDepth 20000 in
theorem sl__ChipMap_Reader____ChipMap_Reader___oneOf____Ljava_lang_String__I_____ChipMap_Reader___oneOf____Ljava_lang_String__I__ : Cond.selects "ChipMap$Reader" ⟨"ChipMap$Reader", "oneOf", "(Ljava/lang/String;)I"⟩ ⟨"ChipMap$Reader", "oneOf", "(Ljava/lang/String;)I"⟩ ∈ GT := gt_in (List.mem_append_left _ (List.mem_map.mpr ⟨(⟨"ChipMap$Reader", "oneOf", "(Ljava/lang/String;)I"⟩, 4), by decide +kernel, rfl⟩)) rfl
set_option maxRecDepth 20000 in
theorem sl__ChipMap_Reader____ChipMap_Reader___readBank____I_Z_____ChipMap_Reader___readBank____I_Z__ : Cond.selects "ChipMap$Reader" ⟨"ChipMap$Reader", "readBank", "(I)Z"⟩ ⟨"ChipMap$Reader", "readBank", "(I)Z"⟩ ∈ GT := gt_in (List.mem_append_left _ (List.mem_map.mpr ⟨(⟨"ChipMap$Reader", "readBank", "(I)Z"⟩, 4), by decide +kernel, rfl⟩)) rfl
set_option maxRecDepth 20000 in
theorem sl__ChipMap_Reader____ChipMap_Reader___readField____I_Z_____ChipMap_Reader___readField____I_Z__ : Cond.selects "ChipMap$Reader" ⟨"ChipMap$Reader", "readField", "(I)Z"⟩ ⟨"ChipMap$Reader", "readField", "(I)Z"⟩ ∈ GT := gt_in (List.mem_append_left _ (List.mem_map.mpr ⟨(⟨"ChipMap$Reader", "readField", "(I)Z"⟩, 4), by decide +kernel, rfl⟩)) rfl
set_option maxRecDepth 20000 in
theorem sl__ChipMap_Reader____ChipMap_Reader___readRegister____I_Z_____ChipMap_Reader___readRegister____I_Z__ : Cond.selects "ChipMap$Reader" ⟨"ChipMap$Reader", "readRegister", "(I)Z"⟩ ⟨"ChipMap$Reader", "readRegister", "(I)Z"⟩ ∈ GT := gt_in (List.mem_append_left _ (List.mem_map.mpr ⟨(⟨"ChipMap$Reader", "readRegister", "(I)Z"⟩, 4), by decide +kernel, rfl⟩)) rfl
set_option maxRecDepth 20000 in
theorem sl__ChipMap_Reader____ChipMap_Reader___readRegisters_____Z_____ChipMap_Reader___readRegisters_____Z__ : Cond.selects "ChipMap$Reader" ⟨"ChipMap$Reader", "readRegisters", "()Z"⟩ ⟨"ChipMap$Reader", "readRegisters", "()Z"⟩ ∈ GT := gt_in (List.mem_append_left _ (List.mem_map.mpr ⟨(⟨"ChipMap$Reader", "readRegisters", "()Z"⟩, 4), by decide +kernel, rfl⟩)) rfl
set_option maxRecDepth 20000 in
theorem sl__ChipMap_Reader____ChipMap_Reader___readRule____I_Z_____ChipMap_Reader___readRule____I_Z__ : Cond.selects "ChipMap$Reader" ⟨"ChipMap$Reader", "readRule", "(I)Z"⟩ ⟨"ChipMap$Reader", "readRule", "(I)Z"⟩ ∈ GT := gt_in (List.mem_append_left _ (List.mem_map.mpr ⟨(⟨"ChipMap$Reader", "readRule", "(I)Z"⟩, 4), by decide +kernel, rfl⟩)) rfl
set_option maxRecDepth 20000 in
theorem sl__ChipMap_Reader____ChipMap_Reader___readRules_____Z_____ChipMap_Reader___readRules_____Z__ : Cond.selects "ChipMap$Reader" ⟨"ChipMap$Reader", "readRules", "()Z"⟩ ⟨"ChipMap$Reader", "readRules", "()Z"⟩ ∈ GT := gt_in (List.mem_append_left _ (List.mem_map.mpr ⟨(⟨"ChipMap$Reader", "readRules", "()Z"⟩, 4), by decide +kernel, rfl⟩)) rfl
set_option maxRecDepth 20000 in
theorem sl__ChipMap_Reader____ChipMap_Reader___take____C_Z_____ChipMap_Reader___take____C_Z__ : Cond.selects "ChipMap$Reader" ⟨"ChipMap$Reader", "take", "(C)Z"⟩ ⟨"ChipMap$Reader", "take", "(C)Z"⟩ ∈ GT := gt_in (List.mem_append_left _ (List.mem_map.mpr ⟨(⟨"ChipMap$Reader", "take", "(C)Z"⟩, 4), by decide +kernel, rfl⟩)) rfl
set_option maxRecDepth 20000 in
theorem sl__ChipMapModel____ChipMapModel___begin_____V_____ChipMapModel___begin_____V__ : Cond.selects "ChipMapModel" ⟨"ChipMapModel", "begin", "()V"⟩ ⟨"ChipMapModel", "begin", "()V"⟩ ∈ GT := gt_in (List.mem_append_left _ (List.mem_map.mpr ⟨(⟨"ChipMapModel", "begin", "()V"⟩, 76), by decide +kernel, rfl⟩)) rfl
set_option maxRecDepth 20000 in
theorem sl__ChipMapModel____ChipMapModel___breaks____III_Z_____ChipMapModel___breaks____III_Z__ : Cond.selects "ChipMapModel" ⟨"ChipMapModel", "breaks", "(III)Z"⟩ ⟨"ChipMapModel", "breaks", "(III)Z"⟩ ∈ GT := gt_in (List.mem_append_left _ (List.mem_map.mpr ⟨(⟨"ChipMapModel", "breaks", "(III)Z"⟩, 76), by decide +kernel, rfl⟩)) rfl
set_option maxRecDepth 20000 in
theorem sl__ChipMapModel____ChipMapModel___copyDevice____II_V_____ChipMapModel___copyDevice____II_V__ : Cond.selects "ChipMapModel" ⟨"ChipMapModel", "copyDevice", "(II)V"⟩ ⟨"ChipMapModel", "copyDevice", "(II)V"⟩ ∈ GT := gt_in (List.mem_append_left _ (List.mem_map.mpr ⟨(⟨"ChipMapModel", "copyDevice", "(II)V"⟩, 76), by decide +kernel, rfl⟩)) rfl
set_option maxRecDepth 20000 in
theorem sl__ChipMapModel____ChipMapModel___doFetch____I_V_____ChipMapModel___doFetch____I_V__ : Cond.selects "ChipMapModel" ⟨"ChipMapModel", "doFetch", "(I)V"⟩ ⟨"ChipMapModel", "doFetch", "(I)V"⟩ ∈ GT := gt_in (List.mem_append_left _ (List.mem_map.mpr ⟨(⟨"ChipMapModel", "doFetch", "(I)V"⟩, 76), by decide +kernel, rfl⟩)) rfl
set_option maxRecDepth 20000 in
theorem sl__ChipMapModel____ChipMapModel___doPut____II_V_____ChipMapModel___doPut____II_V__ : Cond.selects "ChipMapModel" ⟨"ChipMapModel", "doPut", "(II)V"⟩ ⟨"ChipMapModel", "doPut", "(II)V"⟩ ∈ GT := gt_in (List.mem_append_left _ (List.mem_map.mpr ⟨(⟨"ChipMapModel", "doPut", "(II)V"⟩, 76), by decide +kernel, rfl⟩)) rfl
set_option maxRecDepth 20000 in
theorem sl__ChipMapModel____ChipMapModel___end_____I_____ChipMapModel___end_____I__ : Cond.selects "ChipMapModel" ⟨"ChipMapModel", "end", "()I"⟩ ⟨"ChipMapModel", "end", "()I"⟩ ∈ GT := gt_in (List.mem_append_left _ (List.mem_map.mpr ⟨(⟨"ChipMapModel", "end", "()I"⟩, 76), by decide +kernel, rfl⟩)) rfl
set_option maxRecDepth 20000 in
theorem sl__ChipMapModel____ChipMapModel___fieldsRight_____Z_____ChipMapModel___fieldsRight_____Z__ : Cond.selects "ChipMapModel" ⟨"ChipMapModel", "fieldsRight", "()Z"⟩ ⟨"ChipMapModel", "fieldsRight", "()Z"⟩ ∈ GT := gt_in (List.mem_append_left _ (List.mem_map.mpr ⟨(⟨"ChipMapModel", "fieldsRight", "()Z"⟩, 76), by decide +kernel, rfl⟩)) rfl
set_option maxRecDepth 20000 in
theorem sl__ChipMapModel____ChipMapModel___firstBroken____II_I_____ChipMapModel___firstBroken____II_I__ : Cond.selects "ChipMapModel" ⟨"ChipMapModel", "firstBroken", "(II)I"⟩ ⟨"ChipMapModel", "firstBroken", "(II)I"⟩ ∈ GT := gt_in (List.mem_append_left _ (List.mem_map.mpr ⟨(⟨"ChipMapModel", "firstBroken", "(II)I"⟩, 76), by decide +kernel, rfl⟩)) rfl
set_option maxRecDepth 20000 in
theorem sl__ChipMapModel____ChipMapModel___fits____II_Z_____ChipMapModel___fits____II_Z__ : Cond.selects "ChipMapModel" ⟨"ChipMapModel", "fits", "(II)Z"⟩ ⟨"ChipMapModel", "fits", "(II)Z"⟩ ∈ GT := gt_in (List.mem_append_left _ (List.mem_map.mpr ⟨(⟨"ChipMapModel", "fits", "(II)Z"⟩, 76), by decide +kernel, rfl⟩)) rfl
set_option maxRecDepth 20000 in
theorem sl__ChipMapModel____ChipMapModel___flushRegister____I_V_____ChipMapModel___flushRegister____I_V__ : Cond.selects "ChipMapModel" ⟨"ChipMapModel", "flushRegister", "(I)V"⟩ ⟨"ChipMapModel", "flushRegister", "(I)V"⟩ ∈ GT := gt_in (List.mem_append_left _ (List.mem_map.mpr ⟨(⟨"ChipMapModel", "flushRegister", "(I)V"⟩, 76), by decide +kernel, rfl⟩)) rfl
set_option maxRecDepth 20000 in
theorem sl__ChipMapModel____ChipMapModel___goOn____I_V_____ChipMapModel___goOn____I_V__ : Cond.selects "ChipMapModel" ⟨"ChipMapModel", "goOn", "(I)V"⟩ ⟨"ChipMapModel", "goOn", "(I)V"⟩ ∈ GT := gt_in (List.mem_append_left _ (List.mem_map.mpr ⟨(⟨"ChipMapModel", "goOn", "(I)V"⟩, 76), by decide +kernel, rfl⟩)) rfl
set_option maxRecDepth 20000 in
theorem sl__ChipMapModel____ChipMapModel___here_____I_____ChipMapModel___here_____I__ : Cond.selects "ChipMapModel" ⟨"ChipMapModel", "here", "()I"⟩ ⟨"ChipMapModel", "here", "()I"⟩ ∈ GT := gt_in (List.mem_append_left _ (List.mem_map.mpr ⟨(⟨"ChipMapModel", "here", "()I"⟩, 76), by decide +kernel, rfl⟩)) rfl
set_option maxRecDepth 20000 in
theorem sl__ChipMapModel____ChipMapModel___isFetch____I_Z_____ChipMapModel___isFetch____I_Z__ : Cond.selects "ChipMapModel" ⟨"ChipMapModel", "isFetch", "(I)Z"⟩ ⟨"ChipMapModel", "isFetch", "(I)Z"⟩ ∈ GT := gt_in (List.mem_append_left _ (List.mem_map.mpr ⟨(⟨"ChipMapModel", "isFetch", "(I)Z"⟩, 76), by decide +kernel, rfl⟩)) rfl
set_option maxRecDepth 20000 in
theorem sl__ChipMapModel____ChipMapModel___isField____I_Z_____ChipMapModel___isField____I_Z__ : Cond.selects "ChipMapModel" ⟨"ChipMapModel", "isField", "(I)Z"⟩ ⟨"ChipMapModel", "isField", "(I)Z"⟩ ∈ GT := gt_in (List.mem_append_left _ (List.mem_map.mpr ⟨(⟨"ChipMapModel", "isField", "(I)Z"⟩, 76), by decide +kernel, rfl⟩)) rfl
set_option maxRecDepth 20000 in
theorem sl__ChipMapModel____ChipMapModel___isFit____II_Z_____ChipMapModel___isFit____II_Z__ : Cond.selects "ChipMapModel" ⟨"ChipMapModel", "isFit", "(II)Z"⟩ ⟨"ChipMapModel", "isFit", "(II)Z"⟩ ∈ GT := gt_in (List.mem_append_left _ (List.mem_map.mpr ⟨(⟨"ChipMapModel", "isFit", "(II)Z"⟩, 76), by decide +kernel, rfl⟩)) rfl
set_option maxRecDepth 20000 in
theorem sl__ChipMapModel____ChipMapModel___isIn____II_Z_____ChipMapModel___isIn____II_Z__ : Cond.selects "ChipMapModel" ⟨"ChipMapModel", "isIn", "(II)Z"⟩ ⟨"ChipMapModel", "isIn", "(II)Z"⟩ ∈ GT := gt_in (List.mem_append_left _ (List.mem_map.mpr ⟨(⟨"ChipMapModel", "isIn", "(II)Z"⟩, 76), by decide +kernel, rfl⟩)) rfl
set_option maxRecDepth 20000 in
theorem sl__ChipMapModel____ChipMapModel___isLooked____I_Z_____ChipMapModel___isLooked____I_Z__ : Cond.selects "ChipMapModel" ⟨"ChipMapModel", "isLooked", "(I)Z"⟩ ⟨"ChipMapModel", "isLooked", "(I)Z"⟩ ∈ GT := gt_in (List.mem_append_left _ (List.mem_map.mpr ⟨(⟨"ChipMapModel", "isLooked", "(I)Z"⟩, 76), by decide +kernel, rfl⟩)) rfl
set_option maxRecDepth 20000 in
theorem sl__ChipMapModel____ChipMapModel___isPut____II_Z_____ChipMapModel___isPut____II_Z__ : Cond.selects "ChipMapModel" ⟨"ChipMapModel", "isPut", "(II)Z"⟩ ⟨"ChipMapModel", "isPut", "(II)Z"⟩ ∈ GT := gt_in (List.mem_append_left _ (List.mem_map.mpr ⟨(⟨"ChipMapModel", "isPut", "(II)Z"⟩, 76), by decide +kernel, rfl⟩)) rfl
set_option maxRecDepth 20000 in
theorem sl__ChipMapModel____ChipMapModel___isSituation____II_Z_____ChipMapModel___isSituation____II_Z__ : Cond.selects "ChipMapModel" ⟨"ChipMapModel", "isSituation", "(II)Z"⟩ ⟨"ChipMapModel", "isSituation", "(II)Z"⟩ ∈ GT := gt_in (List.mem_append_left _ (List.mem_map.mpr ⟨(⟨"ChipMapModel", "isSituation", "(II)Z"⟩, 76), by decide +kernel, rfl⟩)) rfl
set_option maxRecDepth 20000 in
theorem sl__ChipMapModel____ChipMapModel___isStored____I_Z_____ChipMapModel___isStored____I_Z__ : Cond.selects "ChipMapModel" ⟨"ChipMapModel", "isStored", "(I)Z"⟩ ⟨"ChipMapModel", "isStored", "(I)Z"⟩ ∈ GT := gt_in (List.mem_append_left _ (List.mem_map.mpr ⟨(⟨"ChipMapModel", "isStored", "(I)Z"⟩, 76), by decide +kernel, rfl⟩)) rfl
set_option maxRecDepth 20000 in
theorem sl__ChipMapModel____ChipMapModel___isThere____I_Z_____ChipMapModel___isThere____I_Z__ : Cond.selects "ChipMapModel" ⟨"ChipMapModel", "isThere", "(I)Z"⟩ ⟨"ChipMapModel", "isThere", "(I)Z"⟩ ∈ GT := gt_in (List.mem_append_left _ (List.mem_map.mpr ⟨(⟨"ChipMapModel", "isThere", "(I)Z"⟩, 76), by decide +kernel, rfl⟩)) rfl
set_option maxRecDepth 20000 in
theorem sl__ChipMapModel____ChipMapModel___isWritten____III_Z_____ChipMapModel___isWritten____III_Z__ : Cond.selects "ChipMapModel" ⟨"ChipMapModel", "isWritten", "(III)Z"⟩ ⟨"ChipMapModel", "isWritten", "(III)Z"⟩ ∈ GT := gt_in (List.mem_append_left _ (List.mem_map.mpr ⟨(⟨"ChipMapModel", "isWritten", "(III)Z"⟩, 76), by decide +kernel, rfl⟩)) rfl
set_option maxRecDepth 20000 in
theorem sl__ChipMapModel____ChipMapModel___meet____I_V_____ChipMapModel___meet____I_V__ : Cond.selects "ChipMapModel" ⟨"ChipMapModel", "meet", "(I)V"⟩ ⟨"ChipMapModel", "meet", "(I)V"⟩ ∈ GT := gt_in (List.mem_append_left _ (List.mem_map.mpr ⟨(⟨"ChipMapModel", "meet", "(I)V"⟩, 76), by decide +kernel, rfl⟩)) rfl
set_option maxRecDepth 20000 in
theorem sl__ChipMapModel____ChipMapModel___memoryWord_____I_____ChipMapModel___memoryWord_____I__ : Cond.selects "ChipMapModel" ⟨"ChipMapModel", "memoryWord", "()I"⟩ ⟨"ChipMapModel", "memoryWord", "()I"⟩ ∈ GT := gt_in (List.mem_append_left _ (List.mem_map.mpr ⟨(⟨"ChipMapModel", "memoryWord", "()I"⟩, 76), by decide +kernel, rfl⟩)) rfl
set_option maxRecDepth 20000 in
theorem sl__ChipMapModel____ChipMapModel___named____II_I_____ChipMapModel___named____II_I__ : Cond.selects "ChipMapModel" ⟨"ChipMapModel", "named", "(II)I"⟩ ⟨"ChipMapModel", "named", "(II)I"⟩ ∈ GT := gt_in (List.mem_append_left _ (List.mem_map.mpr ⟨(⟨"ChipMapModel", "named", "(II)I"⟩, 76), by decide +kernel, rfl⟩)) rfl
set_option maxRecDepth 20000 in
theorem sl__ChipMapModel____ChipMapModel___operate____II_V_____ChipMapModel___operate____II_V__ : Cond.selects "ChipMapModel" ⟨"ChipMapModel", "operate", "(II)V"⟩ ⟨"ChipMapModel", "operate", "(II)V"⟩ ∈ GT := gt_in (List.mem_append_left _ (List.mem_map.mpr ⟨(⟨"ChipMapModel", "operate", "(II)V"⟩, 76), by decide +kernel, rfl⟩)) rfl
set_option maxRecDepth 20000 in
theorem sl__ChipMapModel____ChipMapModel___part____II_I_____ChipMapModel___part____II_I__ : Cond.selects "ChipMapModel" ⟨"ChipMapModel", "part", "(II)I"⟩ ⟨"ChipMapModel", "part", "(II)I"⟩ ∈ GT := gt_in (List.mem_append_left _ (List.mem_map.mpr ⟨(⟨"ChipMapModel", "part", "(II)I"⟩, 76), by decide +kernel, rfl⟩)) rfl
set_option maxRecDepth 20000 in
theorem sl__ChipMapModel____ChipMapModel___raise____I_I_____ChipMapModel___raise____I_I__ : Cond.selects "ChipMapModel" ⟨"ChipMapModel", "raise", "(I)I"⟩ ⟨"ChipMapModel", "raise", "(I)I"⟩ ∈ GT := gt_in (List.mem_append_left _ (List.mem_map.mpr ⟨(⟨"ChipMapModel", "raise", "(I)I"⟩, 76), by decide +kernel, rfl⟩)) rfl
set_option maxRecDepth 20000 in
theorem sl__ChipMapModel____ChipMapModel___reach____I_V_____ChipMapModel___reach____I_V__ : Cond.selects "ChipMapModel" ⟨"ChipMapModel", "reach", "(I)V"⟩ ⟨"ChipMapModel", "reach", "(I)V"⟩ ∈ GT := gt_in (List.mem_append_left _ (List.mem_map.mpr ⟨(⟨"ChipMapModel", "reach", "(I)V"⟩, 76), by decide +kernel, rfl⟩)) rfl
set_option maxRecDepth 20000 in
theorem sl__ChipMapModel____ChipMapModel___read____I_I_____ChipMapModel___read____I_I__ : Cond.selects "ChipMapModel" ⟨"ChipMapModel", "read", "(I)I"⟩ ⟨"ChipMapModel", "read", "(I)I"⟩ ∈ GT := gt_in (List.mem_append_left _ (List.mem_map.mpr ⟨(⟨"ChipMapModel", "read", "(I)I"⟩, 76), by decide +kernel, rfl⟩)) rfl
set_option maxRecDepth 20000 in
theorem sl__ChipMapModel____ChipMapModel___readAll_____Z_____ChipMapModel___readAll_____Z__ : Cond.selects "ChipMapModel" ⟨"ChipMapModel", "readAll", "()Z"⟩ ⟨"ChipMapModel", "readAll", "()Z"⟩ ∈ GT := gt_in (List.mem_append_left _ (List.mem_map.mpr ⟨(⟨"ChipMapModel", "readAll", "()Z"⟩, 76), by decide +kernel, rfl⟩)) rfl
set_option maxRecDepth 20000 in
theorem sl__ChipMapModel____ChipMapModel___readField_____Z_____ChipMapModel___readField_____Z__ : Cond.selects "ChipMapModel" ⟨"ChipMapModel", "readField", "()Z"⟩ ⟨"ChipMapModel", "readField", "()Z"⟩ ∈ GT := gt_in (List.mem_append_left _ (List.mem_map.mpr ⟨(⟨"ChipMapModel", "readField", "()Z"⟩, 76), by decide +kernel, rfl⟩)) rfl
set_option maxRecDepth 20000 in
theorem sl__ChipMapModel____ChipMapModel___readRegister_____Z_____ChipMapModel___readRegister_____Z__ : Cond.selects "ChipMapModel" ⟨"ChipMapModel", "readRegister", "()Z"⟩ ⟨"ChipMapModel", "readRegister", "()Z"⟩ ∈ GT := gt_in (List.mem_append_left _ (List.mem_map.mpr ⟨(⟨"ChipMapModel", "readRegister", "()Z"⟩, 76), by decide +kernel, rfl⟩)) rfl
set_option maxRecDepth 20000 in
theorem sl__ChipMapModel____ChipMapModel___readRule_____Z_____ChipMapModel___readRule_____Z__ : Cond.selects "ChipMapModel" ⟨"ChipMapModel", "readRule", "()Z"⟩ ⟨"ChipMapModel", "readRule", "()Z"⟩ ∈ GT := gt_in (List.mem_append_left _ (List.mem_map.mpr ⟨(⟨"ChipMapModel", "readRule", "()Z"⟩, 76), by decide +kernel, rfl⟩)) rfl
set_option maxRecDepth 20000 in
theorem sl__ChipMapModel____ChipMapModel___registerAt____I_I_____ChipMapModel___registerAt____I_I__ : Cond.selects "ChipMapModel" ⟨"ChipMapModel", "registerAt", "(I)I"⟩ ⟨"ChipMapModel", "registerAt", "(I)I"⟩ ∈ GT := gt_in (List.mem_append_left _ (List.mem_map.mpr ⟨(⟨"ChipMapModel", "registerAt", "(I)I"⟩, 76), by decide +kernel, rfl⟩)) rfl
set_option maxRecDepth 20000 in
theorem sl__ChipMapModel____ChipMapModel___registersRight_____Z_____ChipMapModel___registersRight_____Z__ : Cond.selects "ChipMapModel" ⟨"ChipMapModel", "registersRight", "()Z"⟩ ⟨"ChipMapModel", "registersRight", "()Z"⟩ ∈ GT := gt_in (List.mem_append_left _ (List.mem_map.mpr ⟨(⟨"ChipMapModel", "registersRight", "()Z"⟩, 76), by decide +kernel, rfl⟩)) rfl
set_option maxRecDepth 20000 in
theorem sl__ChipMapModel____ChipMapModel___resetAll_____V_____ChipMapModel___resetAll_____V__ : Cond.selects "ChipMapModel" ⟨"ChipMapModel", "resetAll", "()V"⟩ ⟨"ChipMapModel", "resetAll", "()V"⟩ ∈ GT := gt_in (List.mem_append_left _ (List.mem_map.mpr ⟨(⟨"ChipMapModel", "resetAll", "()V"⟩, 76), by decide +kernel, rfl⟩)) rfl
set_option maxRecDepth 20000 in
theorem sl__ChipMapModel____ChipMapModel___resetDevice_____V_____ChipMapModel___resetDevice_____V__ : Cond.selects "ChipMapModel" ⟨"ChipMapModel", "resetDevice", "()V"⟩ ⟨"ChipMapModel", "resetDevice", "()V"⟩ ∈ GT := gt_in (List.mem_append_left _ (List.mem_map.mpr ⟨(⟨"ChipMapModel", "resetDevice", "()V"⟩, 76), by decide +kernel, rfl⟩)) rfl
set_option maxRecDepth 20000 in
theorem sl__ChipMapModel____ChipMapModel___rulesRight_____Z_____ChipMapModel___rulesRight_____Z__ : Cond.selects "ChipMapModel" ⟨"ChipMapModel", "rulesRight", "()Z"⟩ ⟨"ChipMapModel", "rulesRight", "()Z"⟩ ∈ GT := gt_in (List.mem_append_left _ (List.mem_map.mpr ⟨(⟨"ChipMapModel", "rulesRight", "()Z"⟩, 76), by decide +kernel, rfl⟩)) rfl
set_option maxRecDepth 20000 in
theorem sl__ChipMapModel____ChipMapModel___stand____I_V_____ChipMapModel___stand____I_V__ : Cond.selects "ChipMapModel" ⟨"ChipMapModel", "stand", "(I)V"⟩ ⟨"ChipMapModel", "stand", "(I)V"⟩ ∈ GT := gt_in (List.mem_append_left _ (List.mem_map.mpr ⟨(⟨"ChipMapModel", "stand", "(I)V"⟩, 76), by decide +kernel, rfl⟩)) rfl
set_option maxRecDepth 20000 in
theorem sl__ChipMapModel____ChipMapModel___still____I_I_____ChipMapModel___still____I_I__ : Cond.selects "ChipMapModel" ⟨"ChipMapModel", "still", "(I)I"⟩ ⟨"ChipMapModel", "still", "(I)I"⟩ ∈ GT := gt_in (List.mem_append_left _ (List.mem_map.mpr ⟨(⟨"ChipMapModel", "still", "(I)I"⟩, 76), by decide +kernel, rfl⟩)) rfl
set_option maxRecDepth 20000 in
theorem sl__ChipMapModel____ChipMapModel___take____I_Z_____ChipMapModel___take____I_Z__ : Cond.selects "ChipMapModel" ⟨"ChipMapModel", "take", "(I)Z"⟩ ⟨"ChipMapModel", "take", "(I)Z"⟩ ∈ GT := gt_in (List.mem_append_left _ (List.mem_map.mpr ⟨(⟨"ChipMapModel", "take", "(I)Z"⟩, 76), by decide +kernel, rfl⟩)) rfl
set_option maxRecDepth 20000 in
theorem sl__ChipMapModel____ChipMapModel___takeDecimal_____Z_____ChipMapModel___takeDecimal_____Z__ : Cond.selects "ChipMapModel" ⟨"ChipMapModel", "takeDecimal", "()Z"⟩ ⟨"ChipMapModel", "takeDecimal", "()Z"⟩ ∈ GT := gt_in (List.mem_append_left _ (List.mem_map.mpr ⟨(⟨"ChipMapModel", "takeDecimal", "()Z"⟩, 76), by decide +kernel, rfl⟩)) rfl
set_option maxRecDepth 20000 in
theorem sl__ChipMapModel____ChipMapModel___takeHex____II_Z_____ChipMapModel___takeHex____II_Z__ : Cond.selects "ChipMapModel" ⟨"ChipMapModel", "takeHex", "(II)Z"⟩ ⟨"ChipMapModel", "takeHex", "(II)Z"⟩ ∈ GT := gt_in (List.mem_append_left _ (List.mem_map.mpr ⟨(⟨"ChipMapModel", "takeHex", "(II)Z"⟩, 76), by decide +kernel, rfl⟩)) rfl
set_option maxRecDepth 20000 in
theorem sl__ChipMapModel____ChipMapModel___takeName_____Z_____ChipMapModel___takeName_____Z__ : Cond.selects "ChipMapModel" ⟨"ChipMapModel", "takeName", "()Z"⟩ ⟨"ChipMapModel", "takeName", "()Z"⟩ ∈ GT := gt_in (List.mem_append_left _ (List.mem_map.mpr ⟨(⟨"ChipMapModel", "takeName", "()Z"⟩, 76), by decide +kernel, rfl⟩)) rfl
set_option maxRecDepth 20000 in
theorem sl__ChipMapModel____ChipMapModel___trace____ZII_V_____ChipMapModel___trace____ZII_V__ : Cond.selects "ChipMapModel" ⟨"ChipMapModel", "trace", "(ZII)V"⟩ ⟨"ChipMapModel", "trace", "(ZII)V"⟩ ∈ GT := gt_in (List.mem_append_left _ (List.mem_map.mpr ⟨(⟨"ChipMapModel", "trace", "(ZII)V"⟩, 76), by decide +kernel, rfl⟩)) rfl
set_option maxRecDepth 20000 in
theorem sl__ChipMapModel____ChipMapModel___with____III_I_____ChipMapModel___with____III_I__ : Cond.selects "ChipMapModel" ⟨"ChipMapModel", "with", "(III)I"⟩ ⟨"ChipMapModel", "with", "(III)I"⟩ ∈ GT := gt_in (List.mem_append_left _ (List.mem_map.mpr ⟨(⟨"ChipMapModel", "with", "(III)I"⟩, 76), by decide +kernel, rfl⟩)) rfl
set_option maxRecDepth 20000 in
theorem sl__ChipMapModel____ChipMapModel___write____II_V_____ChipMapModel___write____II_V__ : Cond.selects "ChipMapModel" ⟨"ChipMapModel", "write", "(II)V"⟩ ⟨"ChipMapModel", "write", "(II)V"⟩ ∈ GT := gt_in (List.mem_append_left _ (List.mem_map.mpr ⟨(⟨"ChipMapModel", "write", "(II)V"⟩, 76), by decide +kernel, rfl⟩)) rfl
set_option maxRecDepth 20000 in
theorem sl__ChipMapModel____ChipMapModel___wrong____II_Z_____ChipMapModel___wrong____II_Z__ : Cond.selects "ChipMapModel" ⟨"ChipMapModel", "wrong", "(II)Z"⟩ ⟨"ChipMapModel", "wrong", "(II)Z"⟩ ∈ GT := gt_in (List.mem_append_left _ (List.mem_map.mpr ⟨(⟨"ChipMapModel", "wrong", "(II)Z"⟩, 76), by decide +kernel, rfl⟩)) rfl
