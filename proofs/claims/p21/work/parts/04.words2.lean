set_option maxRecDepth 20000 in
theorem wd_3_196 : Jvm.Cond.selects "java/lang/String" ({ cls := "java/lang/String", name := "isLatin1", desc := "()Z" } : Jvm.MethodName) ({ cls := "java/lang/String", name := "isLatin1", desc := "()Z" } : Jvm.MethodName) ∈ GT := gt_in (in_t3 (List.mem_of_getElem? (i := 196) rfl)) rfl
set_option maxRecDepth 20000 in
theorem wd_3_197 : Jvm.Cond.code ({ cls := "java/lang/String", name := "isLatin1", desc := "()Z" } : Jvm.MethodName) prog_23_method_154_code (1 : Nat) (Option.some Jvm.ClassFile.FieldType.boolean) ∈ GT := gt_in (in_t3 (List.mem_of_getElem? (i := 197) rfl)) rfl
set_option maxRecDepth 20000 in
theorem wd_3_198 : Jvm.Cond.methodLink "java/lang/String" (505 : Nat) ({ cls := "java/lang/String", name := "length", desc := "()I" } : Jvm.MethodName) ∈ GT := gt_in (in_t3 (List.mem_of_getElem? (i := 198) rfl)) rfl
set_option maxRecDepth 20000 in
theorem wd_3_199 : Jvm.Cond.methodLink "java/lang/String" (637 : Nat) ({ cls := "java/lang/StringLatin1", name := "indexOf", desc := "([BIII)I" } : Jvm.MethodName) ∈ GT := gt_in (in_t3 (List.mem_of_getElem? (i := 199) rfl)) rfl
set_option maxRecDepth 20000 in
theorem wd_3_200 : Jvm.Cond.static ({ cls := "java/lang/StringLatin1", name := "indexOf", desc := "([BIII)I" } : Jvm.MethodName) ∈ GT := gt_in (in_t3 (List.mem_of_getElem? (i := 200) rfl)) rfl
set_option maxRecDepth 20000 in
theorem wd_3_201 : Jvm.Cond.code ({ cls := "java/lang/StringLatin1", name := "indexOf", desc := "([BIII)I" } : Jvm.MethodName) prog_24_method_22_code (4 : Nat) (Option.some Jvm.ClassFile.FieldType.int) ∈ GT := gt_in (in_t3 (List.mem_of_getElem? (i := 201) rfl)) rfl
set_option maxRecDepth 20000 in
theorem wd_3_202 : Jvm.Cond.methodLink "java/lang/StringLatin1" (88 : Nat) ({ cls := "java/lang/StringLatin1", name := "canEncode", desc := "(I)Z" } : Jvm.MethodName) ∈ GT := gt_in (in_t3 (List.mem_of_getElem? (i := 202) rfl)) rfl
set_option maxRecDepth 20000 in
theorem wd_3_203 : Jvm.Cond.static ({ cls := "java/lang/StringLatin1", name := "canEncode", desc := "(I)Z" } : Jvm.MethodName) ∈ GT := gt_in (in_t3 (List.mem_of_getElem? (i := 203) rfl)) rfl
set_option maxRecDepth 20000 in
theorem wd_3_204 : Jvm.Cond.code ({ cls := "java/lang/StringLatin1", name := "canEncode", desc := "(I)Z" } : Jvm.MethodName) prog_24_method_4_code (1 : Nat) (Option.some Jvm.ClassFile.FieldType.boolean) ∈ GT := gt_in (in_t3 (List.mem_of_getElem? (i := 204) rfl)) rfl
set_option maxRecDepth 20000 in
theorem wd_3_205 : Jvm.Cond.methodLink "java/lang/StringLatin1" (92 : Nat) ({ cls := "java/lang/Math", name := "max", desc := "(II)I" } : Jvm.MethodName) ∈ GT := gt_in (in_t3 (List.mem_of_getElem? (i := 205) rfl)) rfl
set_option maxRecDepth 20000 in
theorem wd_3_206 : Jvm.Cond.static ({ cls := "java/lang/Math", name := "max", desc := "(II)I" } : Jvm.MethodName) ∈ GT := gt_in (in_t3 (List.mem_of_getElem? (i := 206) rfl)) rfl
set_option maxRecDepth 20000 in
theorem wd_3_207 : Jvm.Cond.code ({ cls := "java/lang/Math", name := "max", desc := "(II)I" } : Jvm.MethodName) prog_21_method_65_code (2 : Nat) (Option.some Jvm.ClassFile.FieldType.int) ∈ GT := gt_in (in_t3 (List.mem_of_getElem? (i := 207) rfl)) rfl
set_option maxRecDepth 20000 in
theorem wd_3_208 : Jvm.Cond.methodLink "java/lang/StringLatin1" (38 : Nat) ({ cls := "java/lang/Math", name := "min", desc := "(II)I" } : Jvm.MethodName) ∈ GT := gt_in (in_t3 (List.mem_of_getElem? (i := 208) rfl)) rfl
set_option maxRecDepth 20000 in
theorem wd_3_209 : Jvm.Cond.methodLink "java/lang/StringLatin1" (95 : Nat) ({ cls := "java/lang/StringLatin1", name := "indexOfChar", desc := "([BIII)I" } : Jvm.MethodName) ∈ GT := gt_in (in_t3 (List.mem_of_getElem? (i := 209) rfl)) rfl
set_option maxRecDepth 20000 in
theorem wd_3_210 : Jvm.Cond.static ({ cls := "java/lang/StringLatin1", name := "indexOfChar", desc := "([BIII)I" } : Jvm.MethodName) ∈ GT := gt_in (in_t3 (List.mem_of_getElem? (i := 210) rfl)) rfl
set_option maxRecDepth 20000 in
theorem wd_3_211 : Jvm.Cond.code ({ cls := "java/lang/StringLatin1", name := "indexOfChar", desc := "([BIII)I" } : Jvm.MethodName) prog_24_method_23_code (6 : Nat) (Option.some Jvm.ClassFile.FieldType.int) ∈ GT := gt_in (in_t3 (List.mem_of_getElem? (i := 211) rfl)) rfl
set_option maxRecDepth 20000 in
theorem wd_4_21 : Jvm.Cond.methodLink "ChipMap$Reader" (128 : Nat) ({ cls := "ChipMap$Reader", name := "numberBehindSign", desc := "()I" } : Jvm.MethodName) ∈ GT := gt_in (in_t4 (List.mem_of_getElem? (i := 21) rfl)) rfl
set_option maxRecDepth 20000 in
theorem wd_4_23 : Jvm.Cond.instanceMethod ({ cls := "ChipMap$Reader", name := "numberBehindSign", desc := "()I" } : Jvm.MethodName) ∈ GT := gt_in (in_t4 (List.mem_of_getElem? (i := 23) rfl)) rfl
set_option maxRecDepth 20000 in
theorem wd_4_24 : Jvm.Cond.code ({ cls := "ChipMap$Reader", name := "numberBehindSign", desc := "()I" } : Jvm.MethodName) prog_10_method_11_code (1 : Nat) (Option.some Jvm.ClassFile.FieldType.int) ∈ GT := gt_in (in_t4 (List.mem_of_getElem? (i := 24) rfl)) rfl
set_option maxRecDepth 20000 in
theorem wd_4_25 : Jvm.Cond.methodLink "ChipMap$Reader" (39 : Nat) ({ cls := "ChipMap$Reader", name := "readRules", desc := "()Z" } : Jvm.MethodName) ∈ GT := gt_in (in_t4 (List.mem_of_getElem? (i := 25) rfl)) rfl
set_option maxRecDepth 20000 in
theorem wd_4_27 : Jvm.Cond.instanceMethod ({ cls := "ChipMap$Reader", name := "readRules", desc := "()Z" } : Jvm.MethodName) ∈ GT := gt_in (in_t4 (List.mem_of_getElem? (i := 27) rfl)) rfl
set_option maxRecDepth 20000 in
theorem wd_4_28 : Jvm.Cond.code ({ cls := "ChipMap$Reader", name := "readRules", desc := "()Z" } : Jvm.MethodName) prog_10_method_6_code (2 : Nat) (Option.some Jvm.ClassFile.FieldType.boolean) ∈ GT := gt_in (in_t4 (List.mem_of_getElem? (i := 28) rfl)) rfl
set_option maxRecDepth 20000 in
theorem wd_4_29 : Jvm.Cond.methodLink "ChipMap$Reader" (53 : Nat) ({ cls := "ChipMap$Reader", name := "readRule", desc := "(I)Z" } : Jvm.MethodName) ∈ GT := gt_in (in_t4 (List.mem_of_getElem? (i := 29) rfl)) rfl
set_option maxRecDepth 20000 in
theorem wd_4_31 : Jvm.Cond.instanceMethod ({ cls := "ChipMap$Reader", name := "readRule", desc := "(I)Z" } : Jvm.MethodName) ∈ GT := gt_in (in_t4 (List.mem_of_getElem? (i := 31) rfl)) rfl
set_option maxRecDepth 20000 in
theorem wd_4_32 : Jvm.Cond.code ({ cls := "ChipMap$Reader", name := "readRule", desc := "(I)Z" } : Jvm.MethodName) prog_10_method_10_code (3 : Nat) (Option.some Jvm.ClassFile.FieldType.boolean) ∈ GT := gt_in (in_t4 (List.mem_of_getElem? (i := 32) rfl)) rfl
set_option maxRecDepth 20000 in
theorem wd_4_34 : Jvm.Cond.methodLink "ChipMap" (88 : Nat) ({ cls := "ChipMap$Judge", name := "decide", desc := "(ZI)V" } : Jvm.MethodName) ∈ GT := gt_in (in_t4 (List.mem_of_getElem? (i := 34) rfl)) rfl
set_option maxRecDepth 20000 in
theorem wd_4_35 : Jvm.Cond.instanceMethod ({ cls := "ChipMap$Judge", name := "decide", desc := "(ZI)V" } : Jvm.MethodName) ∈ GT := gt_in (in_t4 (List.mem_of_getElem? (i := 35) rfl)) rfl
set_option maxRecDepth 20000 in
theorem wd_4_36 : Jvm.Cond.selects "ChipMap$Judge" ({ cls := "ChipMap$Judge", name := "decide", desc := "(ZI)V" } : Jvm.MethodName) ({ cls := "ChipMap$Judge", name := "decide", desc := "(ZI)V" } : Jvm.MethodName) ∈ GT := gt_in (in_t4 (List.mem_of_getElem? (i := 36) rfl)) rfl
set_option maxRecDepth 20000 in
theorem wd_4_37 : Jvm.Cond.code ({ cls := "ChipMap$Judge", name := "decide", desc := "(ZI)V" } : Jvm.MethodName) prog_5_method_2_code (3 : Nat) (Option.none : Option Jvm.ClassFile.FieldType) ∈ GT := gt_in (in_t4 (List.mem_of_getElem? (i := 37) rfl)) rfl
set_option maxRecDepth 20000 in
theorem wd_4_38 : Jvm.Cond.methodLink "ChipMap$Judge" (22 : Nat) ({ cls := "ChipMap$Judge", name := "badField", desc := "()I" } : Jvm.MethodName) ∈ GT := gt_in (in_t4 (List.mem_of_getElem? (i := 38) rfl)) rfl
set_option maxRecDepth 20000 in
theorem wd_4_40 : Jvm.Cond.instanceMethod ({ cls := "ChipMap$Judge", name := "badField", desc := "()I" } : Jvm.MethodName) ∈ GT := gt_in (in_t4 (List.mem_of_getElem? (i := 40) rfl)) rfl
set_option maxRecDepth 20000 in
theorem wd_4_41 : Jvm.Cond.code ({ cls := "ChipMap$Judge", name := "badField", desc := "()I" } : Jvm.MethodName) prog_5_method_3_code (6 : Nat) (Option.some Jvm.ClassFile.FieldType.int) ∈ GT := gt_in (in_t4 (List.mem_of_getElem? (i := 41) rfl)) rfl
set_option maxRecDepth 20000 in
theorem wd_4_42 : Jvm.Cond.methodLink "ChipMap$Judge" (53 : Nat) ({ cls := "ChipMap$Draft", name := "rowOf", desc := "(I)I" } : Jvm.MethodName) ∈ GT := gt_in (in_t4 (List.mem_of_getElem? (i := 42) rfl)) rfl
set_option maxRecDepth 20000 in
theorem wd_4_43 : Jvm.Cond.instanceMethod ({ cls := "ChipMap$Draft", name := "rowOf", desc := "(I)I" } : Jvm.MethodName) ∈ GT := gt_in (in_t4 (List.mem_of_getElem? (i := 43) rfl)) rfl
set_option maxRecDepth 20000 in
theorem wd_4_44 : Jvm.Cond.selects "ChipMap$Draft" ({ cls := "ChipMap$Draft", name := "rowOf", desc := "(I)I" } : Jvm.MethodName) ({ cls := "ChipMap$Draft", name := "rowOf", desc := "(I)I" } : Jvm.MethodName) ∈ GT := gt_in (in_t4 (List.mem_of_getElem? (i := 44) rfl)) rfl
set_option maxRecDepth 20000 in
theorem wd_4_45 : Jvm.Cond.code ({ cls := "ChipMap$Draft", name := "rowOf", desc := "(I)I" } : Jvm.MethodName) prog_4_method_3_code (3 : Nat) (Option.some Jvm.ClassFile.FieldType.int) ∈ GT := gt_in (in_t4 (List.mem_of_getElem? (i := 45) rfl)) rfl
set_option maxRecDepth 20000 in
theorem wd_4_46 : Jvm.Cond.methodLink "ChipMap$Judge" (60 : Nat) ({ cls := "ChipMap$Draft", name := "fits", desc := "(II)Z" } : Jvm.MethodName) ∈ GT := gt_in (in_t4 (List.mem_of_getElem? (i := 46) rfl)) rfl
set_option maxRecDepth 20000 in
theorem wd_4_47 : Jvm.Cond.instanceMethod ({ cls := "ChipMap$Draft", name := "fits", desc := "(II)Z" } : Jvm.MethodName) ∈ GT := gt_in (in_t4 (List.mem_of_getElem? (i := 47) rfl)) rfl
set_option maxRecDepth 20000 in
theorem wd_4_48 : Jvm.Cond.selects "ChipMap$Draft" ({ cls := "ChipMap$Draft", name := "fits", desc := "(II)Z" } : Jvm.MethodName) ({ cls := "ChipMap$Draft", name := "fits", desc := "(II)Z" } : Jvm.MethodName) ∈ GT := gt_in (in_t4 (List.mem_of_getElem? (i := 48) rfl)) rfl
set_option maxRecDepth 20000 in
theorem wd_4_49 : Jvm.Cond.code ({ cls := "ChipMap$Draft", name := "fits", desc := "(II)Z" } : Jvm.MethodName) prog_4_method_4_code (3 : Nat) (Option.some Jvm.ClassFile.FieldType.boolean) ∈ GT := gt_in (in_t4 (List.mem_of_getElem? (i := 49) rfl)) rfl
set_option maxRecDepth 20000 in
theorem wd_4_50 : Jvm.Cond.methodLink "ChipMap$Judge" (26 : Nat) ({ cls := "ChipMap$Judge", name := "badBank", desc := "()I" } : Jvm.MethodName) ∈ GT := gt_in (in_t4 (List.mem_of_getElem? (i := 50) rfl)) rfl
set_option maxRecDepth 20000 in
theorem wd_4_52 : Jvm.Cond.instanceMethod ({ cls := "ChipMap$Judge", name := "badBank", desc := "()I" } : Jvm.MethodName) ∈ GT := gt_in (in_t4 (List.mem_of_getElem? (i := 52) rfl)) rfl
set_option maxRecDepth 20000 in
theorem wd_4_53 : Jvm.Cond.code ({ cls := "ChipMap$Judge", name := "badBank", desc := "()I" } : Jvm.MethodName) prog_5_method_4_code (2 : Nat) (Option.some Jvm.ClassFile.FieldType.int) ∈ GT := gt_in (in_t4 (List.mem_of_getElem? (i := 53) rfl)) rfl
set_option maxRecDepth 20000 in
theorem wd_4_54 : Jvm.Cond.methodLink "ChipMap$Judge" (75 : Nat) ({ cls := "ChipMap$Judge", name := "canBeBank", desc := "(II)Z" } : Jvm.MethodName) ∈ GT := gt_in (in_t4 (List.mem_of_getElem? (i := 54) rfl)) rfl
set_option maxRecDepth 20000 in
theorem wd_4_56 : Jvm.Cond.instanceMethod ({ cls := "ChipMap$Judge", name := "canBeBank", desc := "(II)Z" } : Jvm.MethodName) ∈ GT := gt_in (in_t4 (List.mem_of_getElem? (i := 56) rfl)) rfl
set_option maxRecDepth 20000 in
theorem wd_4_57 : Jvm.Cond.code ({ cls := "ChipMap$Judge", name := "canBeBank", desc := "(II)Z" } : Jvm.MethodName) prog_5_method_5_code (3 : Nat) (Option.some Jvm.ClassFile.FieldType.boolean) ∈ GT := gt_in (in_t4 (List.mem_of_getElem? (i := 57) rfl)) rfl
set_option maxRecDepth 20000 in
theorem wd_4_58 : Jvm.Cond.methodLink "ChipMap$Judge" (29 : Nat) ({ cls := "ChipMap$Judge", name := "badOffset", desc := "()I" } : Jvm.MethodName) ∈ GT := gt_in (in_t4 (List.mem_of_getElem? (i := 58) rfl)) rfl
set_option maxRecDepth 20000 in
theorem wd_4_60 : Jvm.Cond.instanceMethod ({ cls := "ChipMap$Judge", name := "badOffset", desc := "()I" } : Jvm.MethodName) ∈ GT := gt_in (in_t4 (List.mem_of_getElem? (i := 60) rfl)) rfl
set_option maxRecDepth 20000 in
theorem wd_4_61 : Jvm.Cond.code ({ cls := "ChipMap$Judge", name := "badOffset", desc := "()I" } : Jvm.MethodName) prog_5_method_6_code (3 : Nat) (Option.some Jvm.ClassFile.FieldType.int) ∈ GT := gt_in (in_t4 (List.mem_of_getElem? (i := 61) rfl)) rfl
set_option maxRecDepth 20000 in
theorem wd_4_62 : Jvm.Cond.methodLink "ChipMap$Judge" (87 : Nat) ({ cls := "ChipMap$Judge", name := "areApart", desc := "(II)Z" } : Jvm.MethodName) ∈ GT := gt_in (in_t4 (List.mem_of_getElem? (i := 62) rfl)) rfl
set_option maxRecDepth 20000 in
theorem wd_4_64 : Jvm.Cond.instanceMethod ({ cls := "ChipMap$Judge", name := "areApart", desc := "(II)Z" } : Jvm.MethodName) ∈ GT := gt_in (in_t4 (List.mem_of_getElem? (i := 64) rfl)) rfl
set_option maxRecDepth 20000 in
theorem wd_4_65 : Jvm.Cond.code ({ cls := "ChipMap$Judge", name := "areApart", desc := "(II)Z" } : Jvm.MethodName) prog_5_method_7_code (3 : Nat) (Option.some Jvm.ClassFile.FieldType.boolean) ∈ GT := gt_in (in_t4 (List.mem_of_getElem? (i := 65) rfl)) rfl
set_option maxRecDepth 20000 in
theorem wd_4_66 : Jvm.Cond.methodLink "ChipMap$Judge" (32 : Nat) ({ cls := "ChipMap$Judge", name := "badRule", desc := "()I" } : Jvm.MethodName) ∈ GT := gt_in (in_t4 (List.mem_of_getElem? (i := 66) rfl)) rfl
set_option maxRecDepth 20000 in
theorem wd_4_68 : Jvm.Cond.instanceMethod ({ cls := "ChipMap$Judge", name := "badRule", desc := "()I" } : Jvm.MethodName) ∈ GT := gt_in (in_t4 (List.mem_of_getElem? (i := 68) rfl)) rfl
set_option maxRecDepth 20000 in
theorem wd_4_69 : Jvm.Cond.code ({ cls := "ChipMap$Judge", name := "badRule", desc := "()I" } : Jvm.MethodName) prog_5_method_8_code (5 : Nat) (Option.some Jvm.ClassFile.FieldType.int) ∈ GT := gt_in (in_t4 (List.mem_of_getElem? (i := 69) rfl)) rfl
set_option maxRecDepth 20000 in
theorem wd_4_70 : Jvm.Cond.methodLink "ChipMap$Judge" (105 : Nat) ({ cls := "ChipMap$Judge", name := "isWritable", desc := "(I)Z" } : Jvm.MethodName) ∈ GT := gt_in (in_t4 (List.mem_of_getElem? (i := 70) rfl)) rfl
set_option maxRecDepth 20000 in
theorem wd_4_72 : Jvm.Cond.instanceMethod ({ cls := "ChipMap$Judge", name := "isWritable", desc := "(I)Z" } : Jvm.MethodName) ∈ GT := gt_in (in_t4 (List.mem_of_getElem? (i := 72) rfl)) rfl
set_option maxRecDepth 20000 in
theorem wd_4_73 : Jvm.Cond.code ({ cls := "ChipMap$Judge", name := "isWritable", desc := "(I)Z" } : Jvm.MethodName) prog_5_method_9_code (2 : Nat) (Option.some Jvm.ClassFile.FieldType.boolean) ∈ GT := gt_in (in_t4 (List.mem_of_getElem? (i := 73) rfl)) rfl
set_option maxRecDepth 20000 in
theorem wd_4_74 : Jvm.Cond.methodLink "ChipMap$Judge" (117 : Nat) ({ cls := "ChipMap$Judge", name := "isKnown", desc := "(I)Z" } : Jvm.MethodName) ∈ GT := gt_in (in_t4 (List.mem_of_getElem? (i := 74) rfl)) rfl
set_option maxRecDepth 20000 in
theorem wd_4_76 : Jvm.Cond.instanceMethod ({ cls := "ChipMap$Judge", name := "isKnown", desc := "(I)Z" } : Jvm.MethodName) ∈ GT := gt_in (in_t4 (List.mem_of_getElem? (i := 76) rfl)) rfl
set_option maxRecDepth 20000 in
theorem wd_4_77 : Jvm.Cond.code ({ cls := "ChipMap$Judge", name := "isKnown", desc := "(I)Z" } : Jvm.MethodName) prog_5_method_10_code (2 : Nat) (Option.some Jvm.ClassFile.FieldType.boolean) ∈ GT := gt_in (in_t4 (List.mem_of_getElem? (i := 77) rfl)) rfl
set_option maxRecDepth 20000 in
theorem wd_4_141 : Jvm.Cond.methodLink "ChipMap" (98 : Nat) ({ cls := "ChipMap$Layout", name := "follow", desc := "(LChipMap$Draft;)V" } : Jvm.MethodName) ∈ GT := gt_in (in_t4 (List.mem_of_getElem? (i := 141) rfl)) rfl
set_option maxRecDepth 20000 in
theorem wd_4_142 : Jvm.Cond.instanceMethod ({ cls := "ChipMap$Layout", name := "follow", desc := "(LChipMap$Draft;)V" } : Jvm.MethodName) ∈ GT := gt_in (in_t4 (List.mem_of_getElem? (i := 142) rfl)) rfl
set_option maxRecDepth 20000 in
theorem wd_4_143 : Jvm.Cond.selects "ChipMap$Layout" ({ cls := "ChipMap$Layout", name := "follow", desc := "(LChipMap$Draft;)V" } : Jvm.MethodName) ({ cls := "ChipMap$Layout", name := "follow", desc := "(LChipMap$Draft;)V" } : Jvm.MethodName) ∈ GT := gt_in (in_t4 (List.mem_of_getElem? (i := 143) rfl)) rfl
set_option maxRecDepth 20000 in
theorem wd_4_144 : Jvm.Cond.code ({ cls := "ChipMap$Layout", name := "follow", desc := "(LChipMap$Draft;)V" } : Jvm.MethodName) prog_6_method_2_code (3 : Nat) (Option.none : Option Jvm.ClassFile.FieldType) ∈ GT := gt_in (in_t4 (List.mem_of_getElem? (i := 144) rfl)) rfl
set_option maxRecDepth 20000 in
theorem wd_4_145 : Jvm.Cond.methodLink "ChipMap$Layout" (76 : Nat) ({ cls := "java/lang/System", name := "arraycopy", desc := "(Ljava/lang/Object;ILjava/lang/Object;II)V" } : Jvm.MethodName) ∈ GT := gt_in (in_t4 (List.mem_of_getElem? (i := 145) rfl)) rfl
set_option maxRecDepth 20000 in
theorem wd_4_146 : Jvm.Cond.methodLink "ChipMap$Layout" (85 : Nat) ({ cls := "ChipMap$Rules", name := "copy", desc := "(LChipMap$Rules;)V" } : Jvm.MethodName) ∈ GT := gt_in (in_t4 (List.mem_of_getElem? (i := 146) rfl)) rfl
set_option maxRecDepth 20000 in
theorem wd_4_147 : Jvm.Cond.instanceMethod ({ cls := "ChipMap$Rules", name := "copy", desc := "(LChipMap$Rules;)V" } : Jvm.MethodName) ∈ GT := gt_in (in_t4 (List.mem_of_getElem? (i := 147) rfl)) rfl
set_option maxRecDepth 20000 in
theorem wd_4_148 : Jvm.Cond.selects "ChipMap$Rules" ({ cls := "ChipMap$Rules", name := "copy", desc := "(LChipMap$Rules;)V" } : Jvm.MethodName) ({ cls := "ChipMap$Rules", name := "copy", desc := "(LChipMap$Rules;)V" } : Jvm.MethodName) ∈ GT := gt_in (in_t4 (List.mem_of_getElem? (i := 148) rfl)) rfl
set_option maxRecDepth 20000 in
theorem wd_4_149 : Jvm.Cond.code ({ cls := "ChipMap$Rules", name := "copy", desc := "(LChipMap$Rules;)V" } : Jvm.MethodName) prog_11_method_2_code (2 : Nat) (Option.none : Option Jvm.ClassFile.FieldType) ∈ GT := gt_in (in_t4 (List.mem_of_getElem? (i := 149) rfl)) rfl
set_option maxRecDepth 20000 in
theorem wd_4_150 : Jvm.Cond.methodLink "ChipMap$Rules" (34 : Nat) ({ cls := "java/lang/System", name := "arraycopy", desc := "(Ljava/lang/Object;ILjava/lang/Object;II)V" } : Jvm.MethodName) ∈ GT := gt_in (in_t4 (List.mem_of_getElem? (i := 150) rfl)) rfl
set_option maxRecDepth 20000 in
theorem wd_4_151 : Jvm.Cond.methodLink "ChipMap$Layout" (92 : Nat) ({ cls := "ChipMap$Layout", name := "addField", desc := "(LChipMap$Draft;I)V" } : Jvm.MethodName) ∈ GT := gt_in (in_t4 (List.mem_of_getElem? (i := 151) rfl)) rfl
set_option maxRecDepth 20000 in
theorem wd_4_153 : Jvm.Cond.instanceMethod ({ cls := "ChipMap$Layout", name := "addField", desc := "(LChipMap$Draft;I)V" } : Jvm.MethodName) ∈ GT := gt_in (in_t4 (List.mem_of_getElem? (i := 153) rfl)) rfl
set_option maxRecDepth 20000 in
theorem wd_4_154 : Jvm.Cond.code ({ cls := "ChipMap$Layout", name := "addField", desc := "(LChipMap$Draft;I)V" } : Jvm.MethodName) prog_6_method_3_code (5 : Nat) (Option.none : Option Jvm.ClassFile.FieldType) ∈ GT := gt_in (in_t4 (List.mem_of_getElem? (i := 154) rfl)) rfl
set_option maxRecDepth 20000 in
theorem wd_4_155 : Jvm.Cond.methodLink "ChipMap$Layout" (108 : Nat) ({ cls := "ChipMap$Layout", name := "isKnown", desc := "(I)Z" } : Jvm.MethodName) ∈ GT := gt_in (in_t4 (List.mem_of_getElem? (i := 155) rfl)) rfl
set_option maxRecDepth 20000 in
theorem wd_4_201 : Jvm.Cond.fieldLink "ChipMapModel" (161 : Nat) "ChipMapModel" "thrown" "I" ∈ GT := gt_in (in_t4 (List.mem_of_getElem? (i := 201) rfl)) rfl
set_option maxRecDepth 20000 in
theorem wd_4_202 : Jvm.Cond.fieldLink "ChipMapModel" (7 : Nat) "ChipMapModel" "tape" "[I" ∈ GT := gt_in (in_t4 (List.mem_of_getElem? (i := 202) rfl)) rfl
set_option maxRecDepth 20000 in
theorem wd_4_203 : Jvm.Cond.fieldLink "ChipMapModel" (165 : Nat) "ChipMapModel" "taped" "I" ∈ GT := gt_in (in_t4 (List.mem_of_getElem? (i := 203) rfl)) rfl
set_option maxRecDepth 20000 in
theorem wd_4_204 : Jvm.Cond.fieldLink "ChipMapModel" (170 : Nat) "ChipMapModel" "at" "I" ∈ GT := gt_in (in_t4 (List.mem_of_getElem? (i := 204) rfl)) rfl
set_option maxRecDepth 20000 in
theorem wd_4_205 : Jvm.Cond.fieldLink "ChipMapModel" (173 : Nat) "ChipMapModel" "fault" "I" ∈ GT := gt_in (in_t4 (List.mem_of_getElem? (i := 205) rfl)) rfl
set_option maxRecDepth 20000 in
theorem wd_4_206 : Jvm.Cond.fieldLink "ChipMapModel" (176 : Nat) "ChipMapModel" "faultPlace" "I" ∈ GT := gt_in (in_t4 (List.mem_of_getElem? (i := 206) rfl)) rfl
set_option maxRecDepth 20000 in
theorem wd_4_207 : Jvm.Cond.fieldLink "ChipMapModel" (201 : Nat) "ChipMapModel" "readRegisters" "I" ∈ GT := gt_in (in_t4 (List.mem_of_getElem? (i := 207) rfl)) rfl
set_option maxRecDepth 20000 in
theorem wd_4_208 : Jvm.Cond.fieldLink "ChipMapModel" (13 : Nat) "ChipMapModel" "readOffset" "[I" ∈ GT := gt_in (in_t4 (List.mem_of_getElem? (i := 208) rfl)) rfl
set_option maxRecDepth 20000 in
theorem wd_4_209 : Jvm.Cond.fieldLink "ChipMapModel" (16 : Nat) "ChipMapModel" "readBank" "[I" ∈ GT := gt_in (in_t4 (List.mem_of_getElem? (i := 209) rfl)) rfl
set_option maxRecDepth 20000 in
theorem wd_4_210 : Jvm.Cond.fieldLink "ChipMapModel" (19 : Nat) "ChipMapModel" "readDigit" "[I" ∈ GT := gt_in (in_t4 (List.mem_of_getElem? (i := 210) rfl)) rfl
set_option maxRecDepth 20000 in
theorem wd_4_211 : Jvm.Cond.fieldLink "ChipMapModel" (22 : Nat) "ChipMapModel" "registerPlace" "[I" ∈ GT := gt_in (in_t4 (List.mem_of_getElem? (i := 211) rfl)) rfl
set_option maxRecDepth 20000 in
theorem wd_4_212 : Jvm.Cond.fieldLink "ChipMapModel" (25 : Nat) "ChipMapModel" "bankPlace" "[I" ∈ GT := gt_in (in_t4 (List.mem_of_getElem? (i := 212) rfl)) rfl
set_option maxRecDepth 20000 in
theorem wd_4_213 : Jvm.Cond.fieldLink "ChipMapModel" (198 : Nat) "ChipMapModel" "readFields" "I" ∈ GT := gt_in (in_t4 (List.mem_of_getElem? (i := 213) rfl)) rfl
set_option maxRecDepth 20000 in
theorem wd_4_214 : Jvm.Cond.fieldLink "ChipMapModel" (28 : Nat) "ChipMapModel" "readName" "[I" ∈ GT := gt_in (in_t4 (List.mem_of_getElem? (i := 214) rfl)) rfl
set_option maxRecDepth 20000 in
theorem wd_4_215 : Jvm.Cond.fieldLink "ChipMapModel" (31 : Nat) "ChipMapModel" "readAccess" "[I" ∈ GT := gt_in (in_t4 (List.mem_of_getElem? (i := 215) rfl)) rfl
set_option maxRecDepth 20000 in
theorem wd_4_216 : Jvm.Cond.fieldLink "ChipMapModel" (34 : Nat) "ChipMapModel" "readHigh" "[I" ∈ GT := gt_in (in_t4 (List.mem_of_getElem? (i := 216) rfl)) rfl
set_option maxRecDepth 20000 in
theorem wd_4_217 : Jvm.Cond.fieldLink "ChipMapModel" (37 : Nat) "ChipMapModel" "readLow" "[I" ∈ GT := gt_in (in_t4 (List.mem_of_getElem? (i := 217) rfl)) rfl
set_option maxRecDepth 20000 in
theorem wd_4_218 : Jvm.Cond.fieldLink "ChipMapModel" (40 : Nat) "ChipMapModel" "readValue" "[I" ∈ GT := gt_in (in_t4 (List.mem_of_getElem? (i := 218) rfl)) rfl
set_option maxRecDepth 20000 in
theorem wd_4_219 : Jvm.Cond.fieldLink "ChipMapModel" (43 : Nat) "ChipMapModel" "readIn" "[I" ∈ GT := gt_in (in_t4 (List.mem_of_getElem? (i := 219) rfl)) rfl
set_option maxRecDepth 20000 in
theorem wd_4_220 : Jvm.Cond.fieldLink "ChipMapModel" (46 : Nat) "ChipMapModel" "fieldPlace" "[I" ∈ GT := gt_in (in_t4 (List.mem_of_getElem? (i := 220) rfl)) rfl
set_option maxRecDepth 20000 in
theorem wd_4_221 : Jvm.Cond.fieldLink "ChipMapModel" (223 : Nat) "ChipMapModel" "readRules" "I" ∈ GT := gt_in (in_t4 (List.mem_of_getElem? (i := 221) rfl)) rfl
set_option maxRecDepth 20000 in
theorem wd_4_222 : Jvm.Cond.fieldLink "ChipMapModel" (49 : Nat) "ChipMapModel" "ruleSign" "[I" ∈ GT := gt_in (in_t4 (List.mem_of_getElem? (i := 222) rfl)) rfl
set_option maxRecDepth 20000 in
theorem wd_4_223 : Jvm.Cond.fieldLink "ChipMapModel" (52 : Nat) "ChipMapModel" "ruleA" "[I" ∈ GT := gt_in (in_t4 (List.mem_of_getElem? (i := 223) rfl)) rfl
set_option maxRecDepth 20000 in
theorem wd_4_224 : Jvm.Cond.fieldLink "ChipMapModel" (55 : Nat) "ChipMapModel" "ruleB" "[I" ∈ GT := gt_in (in_t4 (List.mem_of_getElem? (i := 224) rfl)) rfl
set_option maxRecDepth 20000 in
theorem wd_4_225 : Jvm.Cond.fieldLink "ChipMapModel" (58 : Nat) "ChipMapModel" "ruleValue" "[I" ∈ GT := gt_in (in_t4 (List.mem_of_getElem? (i := 225) rfl)) rfl
set_option maxRecDepth 20000 in
theorem wd_4_226 : Jvm.Cond.fieldLink "ChipMapModel" (61 : Nat) "ChipMapModel" "placeA" "[I" ∈ GT := gt_in (in_t4 (List.mem_of_getElem? (i := 226) rfl)) rfl
set_option maxRecDepth 20000 in
theorem wd_4_227 : Jvm.Cond.fieldLink "ChipMapModel" (64 : Nat) "ChipMapModel" "placeB" "[I" ∈ GT := gt_in (in_t4 (List.mem_of_getElem? (i := 227) rfl)) rfl
set_option maxRecDepth 20000 in
theorem wd_4_228 : Jvm.Cond.fieldLink "ChipMapModel" (257 : Nat) "ChipMapModel" "mapped" "Z" ∈ GT := gt_in (in_t4 (List.mem_of_getElem? (i := 228) rfl)) rfl
set_option maxRecDepth 20000 in
theorem wd_4_229 : Jvm.Cond.fieldLink "ChipMapModel" (261 : Nat) "ChipMapModel" "registers" "I" ∈ GT := gt_in (in_t4 (List.mem_of_getElem? (i := 229) rfl)) rfl
set_option maxRecDepth 20000 in
theorem wd_4_230 : Jvm.Cond.fieldLink "ChipMapModel" (67 : Nat) "ChipMapModel" "offset" "[I" ∈ GT := gt_in (in_t4 (List.mem_of_getElem? (i := 230) rfl)) rfl
set_option maxRecDepth 20000 in
theorem wd_4_231 : Jvm.Cond.fieldLink "ChipMapModel" (70 : Nat) "ChipMapModel" "bank" "[I" ∈ GT := gt_in (in_t4 (List.mem_of_getElem? (i := 231) rfl)) rfl
set_option maxRecDepth 20000 in
theorem wd_4_232 : Jvm.Cond.fieldLink "ChipMapModel" (73 : Nat) "ChipMapModel" "digit" "[I" ∈ GT := gt_in (in_t4 (List.mem_of_getElem? (i := 232) rfl)) rfl
set_option maxRecDepth 20000 in
theorem wd_4_233 : Jvm.Cond.fieldLink "ChipMapModel" (76 : Nat) "ChipMapModel" "there" "[Z" ∈ GT := gt_in (in_t4 (List.mem_of_getElem? (i := 233) rfl)) rfl
set_option maxRecDepth 20000 in
theorem wd_4_234 : Jvm.Cond.fieldLink "ChipMapModel" (80 : Nat) "ChipMapModel" "access" "[I" ∈ GT := gt_in (in_t4 (List.mem_of_getElem? (i := 234) rfl)) rfl
set_option maxRecDepth 20000 in
theorem wd_4_235 : Jvm.Cond.fieldLink "ChipMapModel" (83 : Nat) "ChipMapModel" "in" "[I" ∈ GT := gt_in (in_t4 (List.mem_of_getElem? (i := 235) rfl)) rfl
set_option maxRecDepth 20000 in
theorem wd_4_236 : Jvm.Cond.fieldLink "ChipMapModel" (86 : Nat) "ChipMapModel" "low" "[I" ∈ GT := gt_in (in_t4 (List.mem_of_getElem? (i := 236) rfl)) rfl
set_option maxRecDepth 20000 in
theorem wd_4_237 : Jvm.Cond.fieldLink "ChipMapModel" (89 : Nat) "ChipMapModel" "bits" "[I" ∈ GT := gt_in (in_t4 (List.mem_of_getElem? (i := 237) rfl)) rfl
set_option maxRecDepth 20000 in
theorem wd_4_238 : Jvm.Cond.fieldLink "ChipMapModel" (92 : Nat) "ChipMapModel" "first" "[I" ∈ GT := gt_in (in_t4 (List.mem_of_getElem? (i := 238) rfl)) rfl
set_option maxRecDepth 20000 in
theorem wd_4_239 : Jvm.Cond.fieldLink "ChipMapModel" (264 : Nat) "ChipMapModel" "rules" "I" ∈ GT := gt_in (in_t4 (List.mem_of_getElem? (i := 239) rfl)) rfl
set_option maxRecDepth 20000 in
theorem wd_5_0 : Jvm.Cond.fieldLink "ChipMapModel" (95 : Nat) "ChipMapModel" "sign" "[I" ∈ GT := gt_in (in_t5 (List.mem_of_getElem? (i := 0) rfl)) rfl
set_option maxRecDepth 20000 in
theorem wd_5_1 : Jvm.Cond.fieldLink "ChipMapModel" (98 : Nat) "ChipMapModel" "a" "[I" ∈ GT := gt_in (in_t5 (List.mem_of_getElem? (i := 1) rfl)) rfl
set_option maxRecDepth 20000 in
theorem wd_5_2 : Jvm.Cond.fieldLink "ChipMapModel" (101 : Nat) "ChipMapModel" "b" "[I" ∈ GT := gt_in (in_t5 (List.mem_of_getElem? (i := 2) rfl)) rfl
set_option maxRecDepth 20000 in
theorem wd_5_3 : Jvm.Cond.fieldLink "ChipMapModel" (104 : Nat) "ChipMapModel" "needs" "[I" ∈ GT := gt_in (in_t5 (List.mem_of_getElem? (i := 3) rfl)) rfl
set_option maxRecDepth 20000 in
theorem wd_5_4 : Jvm.Cond.fieldLink "ChipMapModel" (107 : Nat) "ChipMapModel" "value" "[I" ∈ GT := gt_in (in_t5 (List.mem_of_getElem? (i := 4) rfl)) rfl
set_option maxRecDepth 20000 in
theorem wd_5_5 : Jvm.Cond.fieldLink "ChipMapModel" (110 : Nat) "ChipMapModel" "reads" "[I" ∈ GT := gt_in (in_t5 (List.mem_of_getElem? (i := 5) rfl)) rfl
set_option maxRecDepth 20000 in
theorem wd_5_6 : Jvm.Cond.fieldLink "ChipMapModel" (113 : Nat) "ChipMapModel" "keeps" "[I" ∈ GT := gt_in (in_t5 (List.mem_of_getElem? (i := 6) rfl)) rfl
set_option maxRecDepth 20000 in
theorem wd_5_7 : Jvm.Cond.fieldLink "ChipMapModel" (116 : Nat) "ChipMapModel" "memory" "[Z" ∈ GT := gt_in (in_t5 (List.mem_of_getElem? (i := 7) rfl)) rfl
set_option maxRecDepth 20000 in
theorem wd_5_8 : Jvm.Cond.fieldLink "ChipMapModel" (282 : Nat) "ChipMapModel" "operations" "I" ∈ GT := gt_in (in_t5 (List.mem_of_getElem? (i := 8) rfl)) rfl
set_option maxRecDepth 20000 in
theorem wd_5_9 : Jvm.Cond.fieldLink "ChipMapModel" (285 : Nat) "ChipMapModel" "broken" "I" ∈ GT := gt_in (in_t5 (List.mem_of_getElem? (i := 9) rfl)) rfl
set_option maxRecDepth 20000 in
theorem wd_5_10 : Jvm.Cond.fieldLink "ChipMapModel" (119 : Nat) "ChipMapModel" "traceWrites" "[I" ∈ GT := gt_in (in_t5 (List.mem_of_getElem? (i := 10) rfl)) rfl
set_option maxRecDepth 20000 in
theorem wd_5_11 : Jvm.Cond.fieldLink "ChipMapModel" (122 : Nat) "ChipMapModel" "traceOffset" "[I" ∈ GT := gt_in (in_t5 (List.mem_of_getElem? (i := 11) rfl)) rfl
set_option maxRecDepth 20000 in
theorem wd_5_12 : Jvm.Cond.fieldLink "ChipMapModel" (125 : Nat) "ChipMapModel" "traceWord" "[I" ∈ GT := gt_in (in_t5 (List.mem_of_getElem? (i := 12) rfl)) rfl
set_option maxRecDepth 20000 in
theorem wd_5_13 : Jvm.Cond.fieldLink "ChipMapModel" (288 : Nat) "ChipMapModel" "joined" "I" ∈ GT := gt_in (in_t5 (List.mem_of_getElem? (i := 13) rfl)) rfl
set_option maxRecDepth 20000 in
theorem wd_5_14 : Jvm.Cond.fieldLink "ChipMapModel" (128 : Nat) "ChipMapModel" "joinField" "[I" ∈ GT := gt_in (in_t5 (List.mem_of_getElem? (i := 14) rfl)) rfl
set_option maxRecDepth 20000 in
theorem wd_5_15 : Jvm.Cond.fieldLink "ChipMapModel" (131 : Nat) "ChipMapModel" "joinValue" "[I" ∈ GT := gt_in (in_t5 (List.mem_of_getElem? (i := 15) rfl)) rfl
set_option maxRecDepth 20000 in
theorem wd_5_16 : Jvm.Cond.fieldLink "ChipMapModel" (337 : Nat) "ChipMapModel" "refused" "Z" ∈ GT := gt_in (in_t5 (List.mem_of_getElem? (i := 16) rfl)) rfl
set_option maxRecDepth 20000 in
theorem wd_5_17 : Jvm.Cond.fieldLink "ChipMapModel" (340 : Nat) "ChipMapModel" "refusedRule" "I" ∈ GT := gt_in (in_t5 (List.mem_of_getElem? (i := 17) rfl)) rfl
set_option maxRecDepth 20000 in
theorem wd_5_18 : Jvm.Cond.fieldLink "ChipMapModel" (357 : Nat) "ChipMapModel" "fetched" "I" ∈ GT := gt_in (in_t5 (List.mem_of_getElem? (i := 18) rfl)) rfl
set_option maxRecDepth 20000 in
theorem wd_5_19 : Jvm.Cond.fieldLink "ChipMapModel" (307 : Nat) "ChipMapModel" "dry" "Z" ∈ GT := gt_in (in_t5 (List.mem_of_getElem? (i := 19) rfl)) rfl
set_option maxRecDepth 20000 in
theorem wd_5_20 : Jvm.Cond.fieldLink "ChipMapModel" (267 : Nat) "ChipMapModel" "steps" "I" ∈ GT := gt_in (in_t5 (List.mem_of_getElem? (i := 20) rfl)) rfl
set_option maxRecDepth 20000 in
theorem wd_5_21 : Jvm.Cond.fieldLink "ChipMapModel" (134 : Nat) "ChipMapModel" "stepKind" "[I" ∈ GT := gt_in (in_t5 (List.mem_of_getElem? (i := 21) rfl)) rfl
set_option maxRecDepth 20000 in
theorem wd_5_22 : Jvm.Cond.fieldLink "ChipMapModel" (137 : Nat) "ChipMapModel" "stepField" "[I" ∈ GT := gt_in (in_t5 (List.mem_of_getElem? (i := 22) rfl)) rfl
set_option maxRecDepth 20000 in
theorem wd_5_23 : Jvm.Cond.fieldLink "ChipMapModel" (140 : Nat) "ChipMapModel" "stepValue" "[I" ∈ GT := gt_in (in_t5 (List.mem_of_getElem? (i := 23) rfl)) rfl
set_option maxRecDepth 20000 in
theorem wd_5_24 : Jvm.Cond.fieldLink "ChipMapModel" (390 : Nat) "ChipMapModel" "situations" "I" ∈ GT := gt_in (in_t5 (List.mem_of_getElem? (i := 24) rfl)) rfl
set_option maxRecDepth 20000 in
theorem wd_5_25 : Jvm.Cond.fieldLink "ChipMapModel" (143 : Nat) "ChipMapModel" "situationAt" "[I" ∈ GT := gt_in (in_t5 (List.mem_of_getElem? (i := 25) rfl)) rfl
set_option maxRecDepth 20000 in
theorem wd_5_26 : Jvm.Cond.fieldLink "ChipMapModel" (146 : Nat) "ChipMapModel" "situationValue" "[I" ∈ GT := gt_in (in_t5 (List.mem_of_getElem? (i := 26) rfl)) rfl
set_option maxRecDepth 20000 in
theorem wd_5_27 : Jvm.Cond.fieldLink "ChipMapModel" (149 : Nat) "ChipMapModel" "situationMemory" "[I" ∈ GT := gt_in (in_t5 (List.mem_of_getElem? (i := 27) rfl)) rfl
set_option maxRecDepth 20000 in
theorem wd_5_28 : Jvm.Cond.fieldLink "ChipMapModel" (270 : Nat) "ChipMapModel" "foundMany" "I" ∈ GT := gt_in (in_t5 (List.mem_of_getElem? (i := 28) rfl)) rfl
set_option maxRecDepth 20000 in
theorem wd_5_29 : Jvm.Cond.fieldLink "ChipMapModel" (273 : Nat) "ChipMapModel" "foundRule" "I" ∈ GT := gt_in (in_t5 (List.mem_of_getElem? (i := 29) rfl)) rfl
set_option maxRecDepth 20000 in
theorem wd_5_30 : Jvm.Cond.fieldLink "ChipMapModel" (396 : Nat) "ChipMapModel" "tooMany" "Z" ∈ GT := gt_in (in_t5 (List.mem_of_getElem? (i := 30) rfl)) rfl
set_option maxRecDepth 20000 in
theorem wd_5_31 : Jvm.Cond.fieldLink "ChipMapModel" (191 : Nat) "ChipMapModel" "taken" "I" ∈ GT := gt_in (in_t5 (List.mem_of_getElem? (i := 31) rfl)) rfl
set_option maxRecDepth 20000 in
theorem wd_5_32 : Jvm.Cond.fieldLink "ChipMapModel" (363 : Nat) "ChipMapModel" "operationsBefore" "I" ∈ GT := gt_in (in_t5 (List.mem_of_getElem? (i := 32) rfl)) rfl
set_option maxRecDepth 20000 in
theorem wd_5_33 : Jvm.Cond.fieldLink "ChipMapModel" (152 : Nat) "ChipMapModel" "savedWrites" "[I" ∈ GT := gt_in (in_t5 (List.mem_of_getElem? (i := 33) rfl)) rfl
set_option maxRecDepth 20000 in
theorem wd_5_34 : Jvm.Cond.fieldLink "ChipMapModel" (155 : Nat) "ChipMapModel" "savedOffset" "[I" ∈ GT := gt_in (in_t5 (List.mem_of_getElem? (i := 34) rfl)) rfl
set_option maxRecDepth 20000 in
theorem wd_5_35 : Jvm.Cond.fieldLink "ChipMapModel" (158 : Nat) "ChipMapModel" "savedWord" "[I" ∈ GT := gt_in (in_t5 (List.mem_of_getElem? (i := 35) rfl)) rfl
set_option maxRecDepth 20000 in
theorem wd_5_36 : Jvm.Cond.fieldLink "ChipMapModel" (405 : Nat) "ChipMapModel" "toldStep" "I" ∈ GT := gt_in (in_t5 (List.mem_of_getElem? (i := 36) rfl)) rfl
set_option maxRecDepth 20000 in
theorem wd_5_37 : Jvm.Cond.lays "ChipMapModel" "ChipMapModel" "thrown" "I" ∈ GT := gt_in (in_t5 (List.mem_of_getElem? (i := 37) rfl)) rfl
set_option maxRecDepth 20000 in
theorem wd_5_39 : Jvm.Cond.laysFinal "ChipMapModel" "ChipMapModel" "tape" "[I" ∈ GT := gt_in (in_t5 (List.mem_of_getElem? (i := 39) rfl)) rfl
set_option maxRecDepth 20000 in
theorem wd_5_41 : Jvm.Cond.lays "ChipMapModel" "ChipMapModel" "taped" "I" ∈ GT := gt_in (in_t5 (List.mem_of_getElem? (i := 41) rfl)) rfl
set_option maxRecDepth 20000 in
theorem wd_5_43 : Jvm.Cond.lays "ChipMapModel" "ChipMapModel" "at" "I" ∈ GT := gt_in (in_t5 (List.mem_of_getElem? (i := 43) rfl)) rfl
set_option maxRecDepth 20000 in
theorem wd_5_45 : Jvm.Cond.lays "ChipMapModel" "ChipMapModel" "fault" "I" ∈ GT := gt_in (in_t5 (List.mem_of_getElem? (i := 45) rfl)) rfl
set_option maxRecDepth 20000 in
theorem wd_5_47 : Jvm.Cond.lays "ChipMapModel" "ChipMapModel" "faultPlace" "I" ∈ GT := gt_in (in_t5 (List.mem_of_getElem? (i := 47) rfl)) rfl
set_option maxRecDepth 20000 in
theorem wd_5_49 : Jvm.Cond.lays "ChipMapModel" "ChipMapModel" "readRegisters" "I" ∈ GT := gt_in (in_t5 (List.mem_of_getElem? (i := 49) rfl)) rfl
set_option maxRecDepth 20000 in
theorem wd_5_51 : Jvm.Cond.laysFinal "ChipMapModel" "ChipMapModel" "readOffset" "[I" ∈ GT := gt_in (in_t5 (List.mem_of_getElem? (i := 51) rfl)) rfl
set_option maxRecDepth 20000 in
theorem wd_5_53 : Jvm.Cond.laysFinal "ChipMapModel" "ChipMapModel" "readBank" "[I" ∈ GT := gt_in (in_t5 (List.mem_of_getElem? (i := 53) rfl)) rfl
set_option maxRecDepth 20000 in
theorem wd_5_55 : Jvm.Cond.laysFinal "ChipMapModel" "ChipMapModel" "readDigit" "[I" ∈ GT := gt_in (in_t5 (List.mem_of_getElem? (i := 55) rfl)) rfl
set_option maxRecDepth 20000 in
theorem wd_5_57 : Jvm.Cond.laysFinal "ChipMapModel" "ChipMapModel" "registerPlace" "[I" ∈ GT := gt_in (in_t5 (List.mem_of_getElem? (i := 57) rfl)) rfl
set_option maxRecDepth 20000 in
theorem wd_5_59 : Jvm.Cond.laysFinal "ChipMapModel" "ChipMapModel" "bankPlace" "[I" ∈ GT := gt_in (in_t5 (List.mem_of_getElem? (i := 59) rfl)) rfl
set_option maxRecDepth 20000 in
theorem wd_5_61 : Jvm.Cond.lays "ChipMapModel" "ChipMapModel" "readFields" "I" ∈ GT := gt_in (in_t5 (List.mem_of_getElem? (i := 61) rfl)) rfl
set_option maxRecDepth 20000 in
theorem wd_5_63 : Jvm.Cond.laysFinal "ChipMapModel" "ChipMapModel" "readName" "[I" ∈ GT := gt_in (in_t5 (List.mem_of_getElem? (i := 63) rfl)) rfl
set_option maxRecDepth 20000 in
theorem wd_5_65 : Jvm.Cond.laysFinal "ChipMapModel" "ChipMapModel" "readAccess" "[I" ∈ GT := gt_in (in_t5 (List.mem_of_getElem? (i := 65) rfl)) rfl
set_option maxRecDepth 20000 in
theorem wd_5_67 : Jvm.Cond.laysFinal "ChipMapModel" "ChipMapModel" "readHigh" "[I" ∈ GT := gt_in (in_t5 (List.mem_of_getElem? (i := 67) rfl)) rfl
set_option maxRecDepth 20000 in
theorem wd_5_69 : Jvm.Cond.laysFinal "ChipMapModel" "ChipMapModel" "readLow" "[I" ∈ GT := gt_in (in_t5 (List.mem_of_getElem? (i := 69) rfl)) rfl
set_option maxRecDepth 20000 in
theorem wd_5_71 : Jvm.Cond.laysFinal "ChipMapModel" "ChipMapModel" "readValue" "[I" ∈ GT := gt_in (in_t5 (List.mem_of_getElem? (i := 71) rfl)) rfl
set_option maxRecDepth 20000 in
theorem wd_5_73 : Jvm.Cond.laysFinal "ChipMapModel" "ChipMapModel" "readIn" "[I" ∈ GT := gt_in (in_t5 (List.mem_of_getElem? (i := 73) rfl)) rfl
set_option maxRecDepth 20000 in
theorem wd_5_75 : Jvm.Cond.laysFinal "ChipMapModel" "ChipMapModel" "fieldPlace" "[I" ∈ GT := gt_in (in_t5 (List.mem_of_getElem? (i := 75) rfl)) rfl
set_option maxRecDepth 20000 in
theorem wd_5_77 : Jvm.Cond.lays "ChipMapModel" "ChipMapModel" "readRules" "I" ∈ GT := gt_in (in_t5 (List.mem_of_getElem? (i := 77) rfl)) rfl
set_option maxRecDepth 20000 in
theorem wd_5_79 : Jvm.Cond.laysFinal "ChipMapModel" "ChipMapModel" "ruleSign" "[I" ∈ GT := gt_in (in_t5 (List.mem_of_getElem? (i := 79) rfl)) rfl
set_option maxRecDepth 20000 in
theorem wd_5_81 : Jvm.Cond.laysFinal "ChipMapModel" "ChipMapModel" "ruleA" "[I" ∈ GT := gt_in (in_t5 (List.mem_of_getElem? (i := 81) rfl)) rfl
set_option maxRecDepth 20000 in
theorem wd_5_83 : Jvm.Cond.laysFinal "ChipMapModel" "ChipMapModel" "ruleB" "[I" ∈ GT := gt_in (in_t5 (List.mem_of_getElem? (i := 83) rfl)) rfl
set_option maxRecDepth 20000 in
theorem wd_5_85 : Jvm.Cond.laysFinal "ChipMapModel" "ChipMapModel" "ruleValue" "[I" ∈ GT := gt_in (in_t5 (List.mem_of_getElem? (i := 85) rfl)) rfl
set_option maxRecDepth 20000 in
theorem wd_5_87 : Jvm.Cond.laysFinal "ChipMapModel" "ChipMapModel" "placeA" "[I" ∈ GT := gt_in (in_t5 (List.mem_of_getElem? (i := 87) rfl)) rfl
set_option maxRecDepth 20000 in
theorem wd_5_89 : Jvm.Cond.laysFinal "ChipMapModel" "ChipMapModel" "placeB" "[I" ∈ GT := gt_in (in_t5 (List.mem_of_getElem? (i := 89) rfl)) rfl
set_option maxRecDepth 20000 in
theorem wd_5_91 : Jvm.Cond.lays "ChipMapModel" "ChipMapModel" "mapped" "Z" ∈ GT := gt_in (in_t5 (List.mem_of_getElem? (i := 91) rfl)) rfl
set_option maxRecDepth 20000 in
theorem wd_5_93 : Jvm.Cond.lays "ChipMapModel" "ChipMapModel" "registers" "I" ∈ GT := gt_in (in_t5 (List.mem_of_getElem? (i := 93) rfl)) rfl
set_option maxRecDepth 20000 in
theorem wd_5_95 : Jvm.Cond.laysFinal "ChipMapModel" "ChipMapModel" "offset" "[I" ∈ GT := gt_in (in_t5 (List.mem_of_getElem? (i := 95) rfl)) rfl
set_option maxRecDepth 20000 in
theorem wd_5_97 : Jvm.Cond.laysFinal "ChipMapModel" "ChipMapModel" "bank" "[I" ∈ GT := gt_in (in_t5 (List.mem_of_getElem? (i := 97) rfl)) rfl
set_option maxRecDepth 20000 in
theorem wd_5_99 : Jvm.Cond.laysFinal "ChipMapModel" "ChipMapModel" "digit" "[I" ∈ GT := gt_in (in_t5 (List.mem_of_getElem? (i := 99) rfl)) rfl
set_option maxRecDepth 20000 in
theorem wd_5_101 : Jvm.Cond.laysFinal "ChipMapModel" "ChipMapModel" "there" "[Z" ∈ GT := gt_in (in_t5 (List.mem_of_getElem? (i := 101) rfl)) rfl
set_option maxRecDepth 20000 in
theorem wd_5_103 : Jvm.Cond.laysFinal "ChipMapModel" "ChipMapModel" "access" "[I" ∈ GT := gt_in (in_t5 (List.mem_of_getElem? (i := 103) rfl)) rfl
set_option maxRecDepth 20000 in
theorem wd_5_105 : Jvm.Cond.laysFinal "ChipMapModel" "ChipMapModel" "in" "[I" ∈ GT := gt_in (in_t5 (List.mem_of_getElem? (i := 105) rfl)) rfl
set_option maxRecDepth 20000 in
theorem wd_5_107 : Jvm.Cond.laysFinal "ChipMapModel" "ChipMapModel" "low" "[I" ∈ GT := gt_in (in_t5 (List.mem_of_getElem? (i := 107) rfl)) rfl
set_option maxRecDepth 20000 in
theorem wd_5_109 : Jvm.Cond.laysFinal "ChipMapModel" "ChipMapModel" "bits" "[I" ∈ GT := gt_in (in_t5 (List.mem_of_getElem? (i := 109) rfl)) rfl
set_option maxRecDepth 20000 in
theorem wd_5_111 : Jvm.Cond.laysFinal "ChipMapModel" "ChipMapModel" "first" "[I" ∈ GT := gt_in (in_t5 (List.mem_of_getElem? (i := 111) rfl)) rfl
set_option maxRecDepth 20000 in
theorem wd_5_113 : Jvm.Cond.lays "ChipMapModel" "ChipMapModel" "rules" "I" ∈ GT := gt_in (in_t5 (List.mem_of_getElem? (i := 113) rfl)) rfl
set_option maxRecDepth 20000 in
theorem wd_5_115 : Jvm.Cond.laysFinal "ChipMapModel" "ChipMapModel" "sign" "[I" ∈ GT := gt_in (in_t5 (List.mem_of_getElem? (i := 115) rfl)) rfl
set_option maxRecDepth 20000 in
theorem wd_5_117 : Jvm.Cond.laysFinal "ChipMapModel" "ChipMapModel" "a" "[I" ∈ GT := gt_in (in_t5 (List.mem_of_getElem? (i := 117) rfl)) rfl
set_option maxRecDepth 20000 in
theorem wd_5_119 : Jvm.Cond.laysFinal "ChipMapModel" "ChipMapModel" "b" "[I" ∈ GT := gt_in (in_t5 (List.mem_of_getElem? (i := 119) rfl)) rfl
set_option maxRecDepth 20000 in
theorem wd_5_121 : Jvm.Cond.laysFinal "ChipMapModel" "ChipMapModel" "needs" "[I" ∈ GT := gt_in (in_t5 (List.mem_of_getElem? (i := 121) rfl)) rfl
set_option maxRecDepth 20000 in
theorem wd_5_123 : Jvm.Cond.laysFinal "ChipMapModel" "ChipMapModel" "value" "[I" ∈ GT := gt_in (in_t5 (List.mem_of_getElem? (i := 123) rfl)) rfl
set_option maxRecDepth 20000 in
theorem wd_5_125 : Jvm.Cond.laysFinal "ChipMapModel" "ChipMapModel" "reads" "[I" ∈ GT := gt_in (in_t5 (List.mem_of_getElem? (i := 125) rfl)) rfl
set_option maxRecDepth 20000 in
theorem wd_5_127 : Jvm.Cond.laysFinal "ChipMapModel" "ChipMapModel" "keeps" "[I" ∈ GT := gt_in (in_t5 (List.mem_of_getElem? (i := 127) rfl)) rfl
set_option maxRecDepth 20000 in
theorem wd_5_129 : Jvm.Cond.laysFinal "ChipMapModel" "ChipMapModel" "memory" "[Z" ∈ GT := gt_in (in_t5 (List.mem_of_getElem? (i := 129) rfl)) rfl
set_option maxRecDepth 20000 in
theorem wd_5_131 : Jvm.Cond.lays "ChipMapModel" "ChipMapModel" "operations" "I" ∈ GT := gt_in (in_t5 (List.mem_of_getElem? (i := 131) rfl)) rfl
set_option maxRecDepth 20000 in
theorem wd_5_133 : Jvm.Cond.lays "ChipMapModel" "ChipMapModel" "broken" "I" ∈ GT := gt_in (in_t5 (List.mem_of_getElem? (i := 133) rfl)) rfl
set_option maxRecDepth 20000 in
theorem wd_5_135 : Jvm.Cond.laysFinal "ChipMapModel" "ChipMapModel" "traceWrites" "[I" ∈ GT := gt_in (in_t5 (List.mem_of_getElem? (i := 135) rfl)) rfl
set_option maxRecDepth 20000 in
theorem wd_5_137 : Jvm.Cond.laysFinal "ChipMapModel" "ChipMapModel" "traceOffset" "[I" ∈ GT := gt_in (in_t5 (List.mem_of_getElem? (i := 137) rfl)) rfl
set_option maxRecDepth 20000 in
theorem wd_5_139 : Jvm.Cond.laysFinal "ChipMapModel" "ChipMapModel" "traceWord" "[I" ∈ GT := gt_in (in_t5 (List.mem_of_getElem? (i := 139) rfl)) rfl
set_option maxRecDepth 20000 in
theorem wd_5_141 : Jvm.Cond.lays "ChipMapModel" "ChipMapModel" "joined" "I" ∈ GT := gt_in (in_t5 (List.mem_of_getElem? (i := 141) rfl)) rfl
set_option maxRecDepth 20000 in
theorem wd_5_143 : Jvm.Cond.laysFinal "ChipMapModel" "ChipMapModel" "joinField" "[I" ∈ GT := gt_in (in_t5 (List.mem_of_getElem? (i := 143) rfl)) rfl
set_option maxRecDepth 20000 in
theorem wd_5_145 : Jvm.Cond.laysFinal "ChipMapModel" "ChipMapModel" "joinValue" "[I" ∈ GT := gt_in (in_t5 (List.mem_of_getElem? (i := 145) rfl)) rfl
set_option maxRecDepth 20000 in
theorem wd_5_147 : Jvm.Cond.lays "ChipMapModel" "ChipMapModel" "refused" "Z" ∈ GT := gt_in (in_t5 (List.mem_of_getElem? (i := 147) rfl)) rfl
set_option maxRecDepth 20000 in
theorem wd_5_149 : Jvm.Cond.lays "ChipMapModel" "ChipMapModel" "refusedRule" "I" ∈ GT := gt_in (in_t5 (List.mem_of_getElem? (i := 149) rfl)) rfl
set_option maxRecDepth 20000 in
theorem wd_5_151 : Jvm.Cond.lays "ChipMapModel" "ChipMapModel" "fetched" "I" ∈ GT := gt_in (in_t5 (List.mem_of_getElem? (i := 151) rfl)) rfl
set_option maxRecDepth 20000 in
theorem wd_5_153 : Jvm.Cond.lays "ChipMapModel" "ChipMapModel" "dry" "Z" ∈ GT := gt_in (in_t5 (List.mem_of_getElem? (i := 153) rfl)) rfl
set_option maxRecDepth 20000 in
theorem wd_5_155 : Jvm.Cond.lays "ChipMapModel" "ChipMapModel" "steps" "I" ∈ GT := gt_in (in_t5 (List.mem_of_getElem? (i := 155) rfl)) rfl
set_option maxRecDepth 20000 in
theorem wd_5_157 : Jvm.Cond.laysFinal "ChipMapModel" "ChipMapModel" "stepKind" "[I" ∈ GT := gt_in (in_t5 (List.mem_of_getElem? (i := 157) rfl)) rfl
set_option maxRecDepth 20000 in
theorem wd_5_159 : Jvm.Cond.laysFinal "ChipMapModel" "ChipMapModel" "stepField" "[I" ∈ GT := gt_in (in_t5 (List.mem_of_getElem? (i := 159) rfl)) rfl
set_option maxRecDepth 20000 in
theorem wd_5_161 : Jvm.Cond.laysFinal "ChipMapModel" "ChipMapModel" "stepValue" "[I" ∈ GT := gt_in (in_t5 (List.mem_of_getElem? (i := 161) rfl)) rfl
set_option maxRecDepth 20000 in
theorem wd_5_163 : Jvm.Cond.lays "ChipMapModel" "ChipMapModel" "situations" "I" ∈ GT := gt_in (in_t5 (List.mem_of_getElem? (i := 163) rfl)) rfl
set_option maxRecDepth 20000 in
theorem wd_5_165 : Jvm.Cond.laysFinal "ChipMapModel" "ChipMapModel" "situationAt" "[I" ∈ GT := gt_in (in_t5 (List.mem_of_getElem? (i := 165) rfl)) rfl
set_option maxRecDepth 20000 in
theorem wd_5_167 : Jvm.Cond.laysFinal "ChipMapModel" "ChipMapModel" "situationValue" "[I" ∈ GT := gt_in (in_t5 (List.mem_of_getElem? (i := 167) rfl)) rfl
set_option maxRecDepth 20000 in
theorem wd_5_169 : Jvm.Cond.laysFinal "ChipMapModel" "ChipMapModel" "situationMemory" "[I" ∈ GT := gt_in (in_t5 (List.mem_of_getElem? (i := 169) rfl)) rfl
set_option maxRecDepth 20000 in
theorem wd_5_171 : Jvm.Cond.lays "ChipMapModel" "ChipMapModel" "foundMany" "I" ∈ GT := gt_in (in_t5 (List.mem_of_getElem? (i := 171) rfl)) rfl
set_option maxRecDepth 20000 in
theorem wd_5_173 : Jvm.Cond.lays "ChipMapModel" "ChipMapModel" "foundRule" "I" ∈ GT := gt_in (in_t5 (List.mem_of_getElem? (i := 173) rfl)) rfl
set_option maxRecDepth 20000 in
theorem wd_5_175 : Jvm.Cond.lays "ChipMapModel" "ChipMapModel" "tooMany" "Z" ∈ GT := gt_in (in_t5 (List.mem_of_getElem? (i := 175) rfl)) rfl
set_option maxRecDepth 20000 in
theorem wd_5_177 : Jvm.Cond.lays "ChipMapModel" "ChipMapModel" "taken" "I" ∈ GT := gt_in (in_t5 (List.mem_of_getElem? (i := 177) rfl)) rfl
set_option maxRecDepth 20000 in
theorem wd_5_179 : Jvm.Cond.lays "ChipMapModel" "ChipMapModel" "operationsBefore" "I" ∈ GT := gt_in (in_t5 (List.mem_of_getElem? (i := 179) rfl)) rfl
set_option maxRecDepth 20000 in
theorem wd_5_181 : Jvm.Cond.laysFinal "ChipMapModel" "ChipMapModel" "savedWrites" "[I" ∈ GT := gt_in (in_t5 (List.mem_of_getElem? (i := 181) rfl)) rfl
set_option maxRecDepth 20000 in
theorem wd_5_183 : Jvm.Cond.laysFinal "ChipMapModel" "ChipMapModel" "savedOffset" "[I" ∈ GT := gt_in (in_t5 (List.mem_of_getElem? (i := 183) rfl)) rfl
set_option maxRecDepth 20000 in
theorem wd_5_185 : Jvm.Cond.laysFinal "ChipMapModel" "ChipMapModel" "savedWord" "[I" ∈ GT := gt_in (in_t5 (List.mem_of_getElem? (i := 185) rfl)) rfl
set_option maxRecDepth 20000 in
theorem wd_5_187 : Jvm.Cond.lays "ChipMapModel" "ChipMapModel" "toldStep" "I" ∈ GT := gt_in (in_t5 (List.mem_of_getElem? (i := 187) rfl)) rfl
set_option maxRecDepth 20000 in
theorem wd_5_195 : Jvm.Cond.constantLong "ChipMapModel" (168 : Nat) (255 : Int64) ∈ GT := gt_in (in_t5 (List.mem_of_getElem? (i := 195) rfl)) rfl
set_option maxRecDepth 20000 in
theorem wd_5_200 : Jvm.Cond.methodLink "ChipMapModel" (251 : Nat) ({ cls := "ChipMapModel", name := "readAll", desc := "()Z" } : Jvm.MethodName) ∈ GT := gt_in (in_t5 (List.mem_of_getElem? (i := 200) rfl)) rfl
set_option maxRecDepth 20000 in
theorem wd_5_202 : Jvm.Cond.instanceMethod ({ cls := "ChipMapModel", name := "readAll", desc := "()Z" } : Jvm.MethodName) ∈ GT := gt_in (in_t5 (List.mem_of_getElem? (i := 202) rfl)) rfl
set_option maxRecDepth 20000 in
theorem wd_5_203 : Jvm.Cond.code ({ cls := "ChipMapModel", name := "readAll", desc := "()Z" } : Jvm.MethodName) prog_14_method_23_code (1 : Nat) (Option.some Jvm.ClassFile.FieldType.boolean) ∈ GT := gt_in (in_t5 (List.mem_of_getElem? (i := 203) rfl)) rfl
set_option maxRecDepth 20000 in
theorem wd_5_204 : Jvm.Cond.methodLink "ChipMapModel" (236 : Nat) ({ cls := "ChipMapModel", name := "readRegister", desc := "()Z" } : Jvm.MethodName) ∈ GT := gt_in (in_t5 (List.mem_of_getElem? (i := 204) rfl)) rfl
set_option maxRecDepth 20000 in
theorem wd_5_206 : Jvm.Cond.instanceMethod ({ cls := "ChipMapModel", name := "readRegister", desc := "()Z" } : Jvm.MethodName) ∈ GT := gt_in (in_t5 (List.mem_of_getElem? (i := 206) rfl)) rfl
set_option maxRecDepth 20000 in
theorem wd_5_207 : Jvm.Cond.code ({ cls := "ChipMapModel", name := "readRegister", desc := "()Z" } : Jvm.MethodName) prog_14_method_15_code (4 : Nat) (Option.some Jvm.ClassFile.FieldType.boolean) ∈ GT := gt_in (in_t5 (List.mem_of_getElem? (i := 207) rfl)) rfl
set_option maxRecDepth 20000 in
theorem wd_5_208 : Jvm.Cond.methodLink "ChipMapModel" (183 : Nat) ({ cls := "ChipMapModel", name := "wrong", desc := "(II)Z" } : Jvm.MethodName) ∈ GT := gt_in (in_t5 (List.mem_of_getElem? (i := 208) rfl)) rfl
set_option maxRecDepth 20000 in
theorem wd_5_210 : Jvm.Cond.instanceMethod ({ cls := "ChipMapModel", name := "wrong", desc := "(II)Z" } : Jvm.MethodName) ∈ GT := gt_in (in_t5 (List.mem_of_getElem? (i := 210) rfl)) rfl
set_option maxRecDepth 20000 in
theorem wd_5_211 : Jvm.Cond.code ({ cls := "ChipMapModel", name := "wrong", desc := "(II)Z" } : Jvm.MethodName) prog_14_method_6_code (3 : Nat) (Option.some Jvm.ClassFile.FieldType.boolean) ∈ GT := gt_in (in_t5 (List.mem_of_getElem? (i := 211) rfl)) rfl
set_option maxRecDepth 20000 in
theorem wd_5_212 : Jvm.Cond.methodLink "ChipMapModel" (214 : Nat) ({ cls := "ChipMapModel", name := "take", desc := "(I)Z" } : Jvm.MethodName) ∈ GT := gt_in (in_t5 (List.mem_of_getElem? (i := 212) rfl)) rfl
set_option maxRecDepth 20000 in
theorem wd_5_214 : Jvm.Cond.instanceMethod ({ cls := "ChipMapModel", name := "take", desc := "(I)Z" } : Jvm.MethodName) ∈ GT := gt_in (in_t5 (List.mem_of_getElem? (i := 214) rfl)) rfl
set_option maxRecDepth 20000 in
theorem wd_5_215 : Jvm.Cond.code ({ cls := "ChipMapModel", name := "take", desc := "(I)Z" } : Jvm.MethodName) prog_14_method_9_code (2 : Nat) (Option.some Jvm.ClassFile.FieldType.boolean) ∈ GT := gt_in (in_t5 (List.mem_of_getElem? (i := 215) rfl)) rfl
set_option maxRecDepth 20000 in
theorem wd_5_216 : Jvm.Cond.methodLink "ChipMapModel" (179 : Nat) ({ cls := "ChipMapModel", name := "here", desc := "()I" } : Jvm.MethodName) ∈ GT := gt_in (in_t5 (List.mem_of_getElem? (i := 216) rfl)) rfl
set_option maxRecDepth 20000 in
theorem wd_5_218 : Jvm.Cond.instanceMethod ({ cls := "ChipMapModel", name := "here", desc := "()I" } : Jvm.MethodName) ∈ GT := gt_in (in_t5 (List.mem_of_getElem? (i := 218) rfl)) rfl
set_option maxRecDepth 20000 in
theorem wd_5_219 : Jvm.Cond.code ({ cls := "ChipMapModel", name := "here", desc := "()I" } : Jvm.MethodName) prog_14_method_5_code (1 : Nat) (Option.some Jvm.ClassFile.FieldType.int) ∈ GT := gt_in (in_t5 (List.mem_of_getElem? (i := 219) rfl)) rfl
set_option maxRecDepth 20000 in
theorem wd_5_220 : Jvm.Cond.methodLink "ChipMapModel" (217 : Nat) ({ cls := "ChipMapModel", name := "takeHex", desc := "(II)Z" } : Jvm.MethodName) ∈ GT := gt_in (in_t5 (List.mem_of_getElem? (i := 220) rfl)) rfl
set_option maxRecDepth 20000 in
theorem wd_5_222 : Jvm.Cond.instanceMethod ({ cls := "ChipMapModel", name := "takeHex", desc := "(II)Z" } : Jvm.MethodName) ∈ GT := gt_in (in_t5 (List.mem_of_getElem? (i := 222) rfl)) rfl
set_option maxRecDepth 20000 in
theorem wd_5_223 : Jvm.Cond.code ({ cls := "ChipMapModel", name := "takeHex", desc := "(II)Z" } : Jvm.MethodName) prog_14_method_11_code (4 : Nat) (Option.some Jvm.ClassFile.FieldType.boolean) ∈ GT := gt_in (in_t5 (List.mem_of_getElem? (i := 223) rfl)) rfl
set_option maxRecDepth 20000 in
theorem wd_5_224 : Jvm.Cond.methodLink "ChipMapModel" (194 : Nat) ({ cls := "ChipMapModel", name := "hex", desc := "(I)I" } : Jvm.MethodName) ∈ GT := gt_in (in_t5 (List.mem_of_getElem? (i := 224) rfl)) rfl
set_option maxRecDepth 20000 in
theorem wd_5_225 : Jvm.Cond.static ({ cls := "ChipMapModel", name := "hex", desc := "(I)I" } : Jvm.MethodName) ∈ GT := gt_in (in_t5 (List.mem_of_getElem? (i := 225) rfl)) rfl
set_option maxRecDepth 20000 in
theorem wd_5_226 : Jvm.Cond.code ({ cls := "ChipMapModel", name := "hex", desc := "(I)I" } : Jvm.MethodName) prog_14_method_7_code (1 : Nat) (Option.some Jvm.ClassFile.FieldType.int) ∈ GT := gt_in (in_t5 (List.mem_of_getElem? (i := 226) rfl)) rfl
set_option maxRecDepth 20000 in
theorem wd_5_227 : Jvm.Cond.methodLink "ChipMapModel" (204 : Nat) ({ cls := "ChipMapModel", name := "takeName", desc := "()Z" } : Jvm.MethodName) ∈ GT := gt_in (in_t5 (List.mem_of_getElem? (i := 227) rfl)) rfl
set_option maxRecDepth 20000 in
theorem wd_5_229 : Jvm.Cond.instanceMethod ({ cls := "ChipMapModel", name := "takeName", desc := "()Z" } : Jvm.MethodName) ∈ GT := gt_in (in_t5 (List.mem_of_getElem? (i := 229) rfl)) rfl
set_option maxRecDepth 20000 in
theorem wd_5_230 : Jvm.Cond.code ({ cls := "ChipMapModel", name := "takeName", desc := "()Z" } : Jvm.MethodName) prog_14_method_10_code (1 : Nat) (Option.some Jvm.ClassFile.FieldType.boolean) ∈ GT := gt_in (in_t5 (List.mem_of_getElem? (i := 230) rfl)) rfl
set_option maxRecDepth 20000 in
theorem wd_5_231 : Jvm.Cond.methodLink "ChipMapModel" (187 : Nat) ({ cls := "ChipMapModel", name := "isName", desc := "(I)Z" } : Jvm.MethodName) ∈ GT := gt_in (in_t5 (List.mem_of_getElem? (i := 231) rfl)) rfl
set_option maxRecDepth 20000 in
theorem wd_5_232 : Jvm.Cond.static ({ cls := "ChipMapModel", name := "isName", desc := "(I)Z" } : Jvm.MethodName) ∈ GT := gt_in (in_t5 (List.mem_of_getElem? (i := 232) rfl)) rfl
set_option maxRecDepth 20000 in
theorem wd_5_233 : Jvm.Cond.code ({ cls := "ChipMapModel", name := "isName", desc := "(I)Z" } : Jvm.MethodName) prog_14_method_8_code (1 : Nat) (Option.some Jvm.ClassFile.FieldType.boolean) ∈ GT := gt_in (in_t5 (List.mem_of_getElem? (i := 233) rfl)) rfl
set_option maxRecDepth 20000 in
theorem wd_5_234 : Jvm.Cond.methodLink "ChipMapModel" (220 : Nat) ({ cls := "ChipMapModel", name := "readField", desc := "()Z" } : Jvm.MethodName) ∈ GT := gt_in (in_t5 (List.mem_of_getElem? (i := 234) rfl)) rfl
set_option maxRecDepth 20000 in
theorem wd_5_236 : Jvm.Cond.instanceMethod ({ cls := "ChipMapModel", name := "readField", desc := "()Z" } : Jvm.MethodName) ∈ GT := gt_in (in_t5 (List.mem_of_getElem? (i := 236) rfl)) rfl
set_option maxRecDepth 20000 in
theorem wd_5_237 : Jvm.Cond.code ({ cls := "ChipMapModel", name := "readField", desc := "()Z" } : Jvm.MethodName) prog_14_method_14_code (2 : Nat) (Option.some Jvm.ClassFile.FieldType.boolean) ∈ GT := gt_in (in_t5 (List.mem_of_getElem? (i := 237) rfl)) rfl
set_option maxRecDepth 20000 in
theorem wd_5_238 : Jvm.Cond.methodLink "ChipMapModel" (208 : Nat) ({ cls := "ChipMapModel", name := "isAccess", desc := "(I)Z" } : Jvm.MethodName) ∈ GT := gt_in (in_t5 (List.mem_of_getElem? (i := 238) rfl)) rfl
set_option maxRecDepth 20000 in
theorem wd_5_239 : Jvm.Cond.static ({ cls := "ChipMapModel", name := "isAccess", desc := "(I)Z" } : Jvm.MethodName) ∈ GT := gt_in (in_t5 (List.mem_of_getElem? (i := 239) rfl)) rfl
set_option maxRecDepth 20000 in
theorem wd_6_0 : Jvm.Cond.code ({ cls := "ChipMapModel", name := "isAccess", desc := "(I)Z" } : Jvm.MethodName) prog_14_method_13_code (1 : Nat) (Option.some Jvm.ClassFile.FieldType.boolean) ∈ GT := gt_in (in_t6 (List.mem_of_getElem? (i := 0) rfl)) rfl
set_option maxRecDepth 20000 in
theorem wd_6_1 : Jvm.Cond.methodLink "ChipMapModel" (211 : Nat) ({ cls := "ChipMapModel", name := "takeDecimal", desc := "()Z" } : Jvm.MethodName) ∈ GT := gt_in (in_t6 (List.mem_of_getElem? (i := 1) rfl)) rfl
set_option maxRecDepth 20000 in
theorem wd_6_3 : Jvm.Cond.instanceMethod ({ cls := "ChipMapModel", name := "takeDecimal", desc := "()Z" } : Jvm.MethodName) ∈ GT := gt_in (in_t6 (List.mem_of_getElem? (i := 3) rfl)) rfl
set_option maxRecDepth 20000 in
theorem wd_6_4 : Jvm.Cond.code ({ cls := "ChipMapModel", name := "takeDecimal", desc := "()Z" } : Jvm.MethodName) prog_14_method_12_code (2 : Nat) (Option.some Jvm.ClassFile.FieldType.boolean) ∈ GT := gt_in (in_t6 (List.mem_of_getElem? (i := 4) rfl)) rfl
set_option maxRecDepth 20000 in
theorem wd_6_5 : Jvm.Cond.methodLink "ChipMapModel" (239 : Nat) ({ cls := "ChipMapModel", name := "readRule", desc := "()Z" } : Jvm.MethodName) ∈ GT := gt_in (in_t6 (List.mem_of_getElem? (i := 5) rfl)) rfl
set_option maxRecDepth 20000 in
theorem wd_6_7 : Jvm.Cond.instanceMethod ({ cls := "ChipMapModel", name := "readRule", desc := "()Z" } : Jvm.MethodName) ∈ GT := gt_in (in_t6 (List.mem_of_getElem? (i := 7) rfl)) rfl
set_option maxRecDepth 20000 in
theorem wd_6_8 : Jvm.Cond.code ({ cls := "ChipMapModel", name := "readRule", desc := "()Z" } : Jvm.MethodName) prog_14_method_16_code (2 : Nat) (Option.some Jvm.ClassFile.FieldType.boolean) ∈ GT := gt_in (in_t6 (List.mem_of_getElem? (i := 8) rfl)) rfl
set_option maxRecDepth 20000 in
theorem wd_6_9 : Jvm.Cond.methodLink "ChipMapModel" (242 : Nat) ({ cls := "ChipMapModel", name := "fieldsRight", desc := "()Z" } : Jvm.MethodName) ∈ GT := gt_in (in_t6 (List.mem_of_getElem? (i := 9) rfl)) rfl
set_option maxRecDepth 20000 in
theorem wd_6_11 : Jvm.Cond.instanceMethod ({ cls := "ChipMapModel", name := "fieldsRight", desc := "()Z" } : Jvm.MethodName) ∈ GT := gt_in (in_t6 (List.mem_of_getElem? (i := 11) rfl)) rfl
set_option maxRecDepth 20000 in
theorem wd_6_12 : Jvm.Cond.code ({ cls := "ChipMapModel", name := "fieldsRight", desc := "()Z" } : Jvm.MethodName) prog_14_method_19_code (4 : Nat) (Option.some Jvm.ClassFile.FieldType.boolean) ∈ GT := gt_in (in_t6 (List.mem_of_getElem? (i := 12) rfl)) rfl
set_option maxRecDepth 20000 in
theorem wd_6_13 : Jvm.Cond.methodLink "ChipMapModel" (226 : Nat) ({ cls := "ChipMapModel", name := "named", desc := "(II)I" } : Jvm.MethodName) ∈ GT := gt_in (in_t6 (List.mem_of_getElem? (i := 13) rfl)) rfl
set_option maxRecDepth 20000 in
theorem wd_6_15 : Jvm.Cond.instanceMethod ({ cls := "ChipMapModel", name := "named", desc := "(II)I" } : Jvm.MethodName) ∈ GT := gt_in (in_t6 (List.mem_of_getElem? (i := 15) rfl)) rfl
set_option maxRecDepth 20000 in
theorem wd_6_16 : Jvm.Cond.code ({ cls := "ChipMapModel", name := "named", desc := "(II)I" } : Jvm.MethodName) prog_14_method_17_code (4 : Nat) (Option.some Jvm.ClassFile.FieldType.int) ∈ GT := gt_in (in_t6 (List.mem_of_getElem? (i := 16) rfl)) rfl
set_option maxRecDepth 20000 in
theorem wd_6_17 : Jvm.Cond.methodLink "ChipMapModel" (230 : Nat) ({ cls := "ChipMapModel", name := "fits", desc := "(II)Z" } : Jvm.MethodName) ∈ GT := gt_in (in_t6 (List.mem_of_getElem? (i := 17) rfl)) rfl
set_option maxRecDepth 20000 in
theorem wd_6_19 : Jvm.Cond.instanceMethod ({ cls := "ChipMapModel", name := "fits", desc := "(II)Z" } : Jvm.MethodName) ∈ GT := gt_in (in_t6 (List.mem_of_getElem? (i := 19) rfl)) rfl
set_option maxRecDepth 20000 in
theorem wd_6_20 : Jvm.Cond.code ({ cls := "ChipMapModel", name := "fits", desc := "(II)Z" } : Jvm.MethodName) prog_14_method_18_code (3 : Nat) (Option.some Jvm.ClassFile.FieldType.boolean) ∈ GT := gt_in (in_t6 (List.mem_of_getElem? (i := 20) rfl)) rfl
set_option maxRecDepth 20000 in
theorem wd_6_21 : Jvm.Cond.methodLink "ChipMapModel" (245 : Nat) ({ cls := "ChipMapModel", name := "registersRight", desc := "()Z" } : Jvm.MethodName) ∈ GT := gt_in (in_t6 (List.mem_of_getElem? (i := 21) rfl)) rfl
set_option maxRecDepth 20000 in
theorem wd_6_23 : Jvm.Cond.instanceMethod ({ cls := "ChipMapModel", name := "registersRight", desc := "()Z" } : Jvm.MethodName) ∈ GT := gt_in (in_t6 (List.mem_of_getElem? (i := 23) rfl)) rfl
set_option maxRecDepth 20000 in
theorem wd_6_24 : Jvm.Cond.code ({ cls := "ChipMapModel", name := "registersRight", desc := "()Z" } : Jvm.MethodName) prog_14_method_20_code (4 : Nat) (Option.some Jvm.ClassFile.FieldType.boolean) ∈ GT := gt_in (in_t6 (List.mem_of_getElem? (i := 24) rfl)) rfl
set_option maxRecDepth 20000 in
theorem wd_6_25 : Jvm.Cond.methodLink "ChipMapModel" (248 : Nat) ({ cls := "ChipMapModel", name := "rulesRight", desc := "()Z" } : Jvm.MethodName) ∈ GT := gt_in (in_t6 (List.mem_of_getElem? (i := 25) rfl)) rfl
set_option maxRecDepth 20000 in
theorem wd_6_27 : Jvm.Cond.instanceMethod ({ cls := "ChipMapModel", name := "rulesRight", desc := "()Z" } : Jvm.MethodName) ∈ GT := gt_in (in_t6 (List.mem_of_getElem? (i := 27) rfl)) rfl
set_option maxRecDepth 20000 in
theorem wd_6_28 : Jvm.Cond.code ({ cls := "ChipMapModel", name := "rulesRight", desc := "()Z" } : Jvm.MethodName) prog_14_method_22_code (5 : Nat) (Option.some Jvm.ClassFile.FieldType.boolean) ∈ GT := gt_in (in_t6 (List.mem_of_getElem? (i := 28) rfl)) rfl
set_option maxRecDepth 20000 in
theorem wd_6_29 : Jvm.Cond.methodLink "ChipMapModel" (233 : Nat) ({ cls := "ChipMapModel", name := "isLooked", desc := "(I)Z" } : Jvm.MethodName) ∈ GT := gt_in (in_t6 (List.mem_of_getElem? (i := 29) rfl)) rfl
set_option maxRecDepth 20000 in
theorem wd_6_31 : Jvm.Cond.instanceMethod ({ cls := "ChipMapModel", name := "isLooked", desc := "(I)Z" } : Jvm.MethodName) ∈ GT := gt_in (in_t6 (List.mem_of_getElem? (i := 31) rfl)) rfl
set_option maxRecDepth 20000 in
theorem wd_6_32 : Jvm.Cond.code ({ cls := "ChipMapModel", name := "isLooked", desc := "(I)Z" } : Jvm.MethodName) prog_14_method_21_code (2 : Nat) (Option.some Jvm.ClassFile.FieldType.boolean) ∈ GT := gt_in (in_t6 (List.mem_of_getElem? (i := 32) rfl)) rfl
set_option maxRecDepth 20000 in
theorem wd_6_33 : Jvm.Cond.methodLink "ChipMapModel" (254 : Nat) ({ cls := "ChipMapModel", name := "raise", desc := "(I)I" } : Jvm.MethodName) ∈ GT := gt_in (in_t6 (List.mem_of_getElem? (i := 33) rfl)) rfl
set_option maxRecDepth 20000 in
theorem wd_6_35 : Jvm.Cond.instanceMethod ({ cls := "ChipMapModel", name := "raise", desc := "(I)I" } : Jvm.MethodName) ∈ GT := gt_in (in_t6 (List.mem_of_getElem? (i := 35) rfl)) rfl
set_option maxRecDepth 20000 in
theorem wd_6_36 : Jvm.Cond.code ({ cls := "ChipMapModel", name := "raise", desc := "(I)I" } : Jvm.MethodName) prog_14_method_3_code (2 : Nat) (Option.some Jvm.ClassFile.FieldType.int) ∈ GT := gt_in (in_t6 (List.mem_of_getElem? (i := 36) rfl)) rfl
set_option maxRecDepth 20000 in
theorem wd_6_37 : Jvm.Cond.methodLink "ChipMapModel" (276 : Nat) ({ cls := "ChipMapModel", name := "resetAll", desc := "()V" } : Jvm.MethodName) ∈ GT := gt_in (in_t6 (List.mem_of_getElem? (i := 37) rfl)) rfl
set_option maxRecDepth 20000 in
theorem wd_6_39 : Jvm.Cond.instanceMethod ({ cls := "ChipMapModel", name := "resetAll", desc := "()V" } : Jvm.MethodName) ∈ GT := gt_in (in_t6 (List.mem_of_getElem? (i := 39) rfl)) rfl
set_option maxRecDepth 20000 in
theorem wd_6_40 : Jvm.Cond.code ({ cls := "ChipMapModel", name := "resetAll", desc := "()V" } : Jvm.MethodName) prog_14_method_27_code (1 : Nat) (Option.none : Option Jvm.ClassFile.FieldType) ∈ GT := gt_in (in_t6 (List.mem_of_getElem? (i := 40) rfl)) rfl
set_option maxRecDepth 20000 in
theorem wd_6_41 : Jvm.Cond.methodLink "ChipMapModel" (279 : Nat) ({ cls := "ChipMapModel", name := "resetDevice", desc := "()V" } : Jvm.MethodName) ∈ GT := gt_in (in_t6 (List.mem_of_getElem? (i := 41) rfl)) rfl
set_option maxRecDepth 20000 in
theorem wd_6_43 : Jvm.Cond.instanceMethod ({ cls := "ChipMapModel", name := "resetDevice", desc := "()V" } : Jvm.MethodName) ∈ GT := gt_in (in_t6 (List.mem_of_getElem? (i := 43) rfl)) rfl
set_option maxRecDepth 20000 in
theorem wd_6_44 : Jvm.Cond.code ({ cls := "ChipMapModel", name := "resetDevice", desc := "()V" } : Jvm.MethodName) prog_14_method_26_code (2 : Nat) (Option.none : Option Jvm.ClassFile.FieldType) ∈ GT := gt_in (in_t6 (List.mem_of_getElem? (i := 44) rfl)) rfl
set_option maxRecDepth 20000 in
theorem wd_6_53 : Jvm.Cond.methodLink "ChipMapModel" (317 : Nat) ({ cls := "ChipMapModel", name := "isField", desc := "(I)Z" } : Jvm.MethodName) ∈ GT := gt_in (in_t6 (List.mem_of_getElem? (i := 53) rfl)) rfl
set_option maxRecDepth 20000 in
theorem wd_6_55 : Jvm.Cond.instanceMethod ({ cls := "ChipMapModel", name := "isField", desc := "(I)Z" } : Jvm.MethodName) ∈ GT := gt_in (in_t6 (List.mem_of_getElem? (i := 55) rfl)) rfl
set_option maxRecDepth 20000 in
theorem wd_6_56 : Jvm.Cond.code ({ cls := "ChipMapModel", name := "isField", desc := "(I)Z" } : Jvm.MethodName) prog_14_method_40_code (2 : Nat) (Option.some Jvm.ClassFile.FieldType.boolean) ∈ GT := gt_in (in_t6 (List.mem_of_getElem? (i := 56) rfl)) rfl
set_option maxRecDepth 20000 in
theorem wd_6_65 : Jvm.Cond.methodLink "ChipMapModel" (320 : Nat) ({ cls := "ChipMapModel", name := "registerAt", desc := "(I)I" } : Jvm.MethodName) ∈ GT := gt_in (in_t6 (List.mem_of_getElem? (i := 65) rfl)) rfl
set_option maxRecDepth 20000 in
theorem wd_6_67 : Jvm.Cond.instanceMethod ({ cls := "ChipMapModel", name := "registerAt", desc := "(I)I" } : Jvm.MethodName) ∈ GT := gt_in (in_t6 (List.mem_of_getElem? (i := 67) rfl)) rfl
set_option maxRecDepth 20000 in
theorem wd_6_68 : Jvm.Cond.code ({ cls := "ChipMapModel", name := "registerAt", desc := "(I)I" } : Jvm.MethodName) prog_14_method_39_code (3 : Nat) (Option.some Jvm.ClassFile.FieldType.int) ∈ GT := gt_in (in_t6 (List.mem_of_getElem? (i := 68) rfl)) rfl
