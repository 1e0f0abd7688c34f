set_option maxRecDepth 20000 in
theorem wd_6_51 : Jvm.Cond.selects "ChipMapModel" ({ cls := "ChipMapModel", name := "fault", desc := "(I)I" } : Jvm.MethodName) ({ cls := "ChipMapModel", name := "fault", desc := "(I)I" } : Jvm.MethodName) ∈ GT := gt_in (in_t6 (List.mem_of_getElem? (i := 51) rfl)) rfl
set_option maxRecDepth 20000 in
theorem wd_6_52 : Jvm.Cond.code ({ cls := "ChipMapModel", name := "fault", desc := "(I)I" } : Jvm.MethodName) prog_14_method_25_code (2 : Nat) (Option.some Jvm.ClassFile.FieldType.int) ∈ GT := gt_in (in_t6 (List.mem_of_getElem? (i := 52) rfl)) rfl
set_option maxRecDepth 20000 in
theorem wd_6_53 : Jvm.Cond.methodLink "ChipMapLaw" (51 : Nat) ({ cls := "ChipMapModel", name := "field", desc := "(II)I" } : Jvm.MethodName) ∈ GT := gt_in (in_t6 (List.mem_of_getElem? (i := 53) rfl)) rfl
set_option maxRecDepth 20000 in
theorem wd_6_54 : Jvm.Cond.instanceMethod ({ cls := "ChipMapModel", name := "field", desc := "(II)I" } : Jvm.MethodName) ∈ GT := gt_in (in_t6 (List.mem_of_getElem? (i := 54) rfl)) rfl
set_option maxRecDepth 20000 in
theorem wd_6_55 : Jvm.Cond.selects "ChipMapModel" ({ cls := "ChipMapModel", name := "field", desc := "(II)I" } : Jvm.MethodName) ({ cls := "ChipMapModel", name := "field", desc := "(II)I" } : Jvm.MethodName) ∈ GT := gt_in (in_t6 (List.mem_of_getElem? (i := 55) rfl)) rfl
set_option maxRecDepth 20000 in
theorem wd_6_56 : Jvm.Cond.code ({ cls := "ChipMapModel", name := "field", desc := "(II)I" } : Jvm.MethodName) prog_14_method_42_code (3 : Nat) (Option.some Jvm.ClassFile.FieldType.int) ∈ GT := gt_in (in_t6 (List.mem_of_getElem? (i := 56) rfl)) rfl
set_option maxRecDepth 20000 in
theorem wd_6_57 : Jvm.Cond.methodLink "ChipMapModel" (317 : Nat) ({ cls := "ChipMapModel", name := "isField", desc := "(I)Z" } : Jvm.MethodName) ∈ GT := gt_in (in_t6 (List.mem_of_getElem? (i := 57) rfl)) rfl
set_option maxRecDepth 20000 in
theorem wd_6_59 : Jvm.Cond.instanceMethod ({ cls := "ChipMapModel", name := "isField", desc := "(I)Z" } : Jvm.MethodName) ∈ GT := gt_in (in_t6 (List.mem_of_getElem? (i := 59) rfl)) rfl
set_option maxRecDepth 20000 in
theorem wd_6_60 : Jvm.Cond.code ({ cls := "ChipMapModel", name := "isField", desc := "(I)Z" } : Jvm.MethodName) prog_14_method_40_code (2 : Nat) (Option.some Jvm.ClassFile.FieldType.boolean) ∈ GT := gt_in (in_t6 (List.mem_of_getElem? (i := 60) rfl)) rfl
set_option maxRecDepth 20000 in
theorem wd_6_61 : Jvm.Cond.methodLink "ChipMapLaw" (56 : Nat) ({ cls := "ChipMapModel", name := "reset", desc := "()Z" } : Jvm.MethodName) ∈ GT := gt_in (in_t6 (List.mem_of_getElem? (i := 61) rfl)) rfl
set_option maxRecDepth 20000 in
theorem wd_6_62 : Jvm.Cond.instanceMethod ({ cls := "ChipMapModel", name := "reset", desc := "()Z" } : Jvm.MethodName) ∈ GT := gt_in (in_t6 (List.mem_of_getElem? (i := 62) rfl)) rfl
set_option maxRecDepth 20000 in
theorem wd_6_63 : Jvm.Cond.selects "ChipMapModel" ({ cls := "ChipMapModel", name := "reset", desc := "()Z" } : Jvm.MethodName) ({ cls := "ChipMapModel", name := "reset", desc := "()Z" } : Jvm.MethodName) ∈ GT := gt_in (in_t6 (List.mem_of_getElem? (i := 63) rfl)) rfl
set_option maxRecDepth 20000 in
theorem wd_6_64 : Jvm.Cond.code ({ cls := "ChipMapModel", name := "reset", desc := "()Z" } : Jvm.MethodName) prog_14_method_43_code (1 : Nat) (Option.some Jvm.ClassFile.FieldType.boolean) ∈ GT := gt_in (in_t6 (List.mem_of_getElem? (i := 64) rfl)) rfl
set_option maxRecDepth 20000 in
theorem wd_6_65 : Jvm.Cond.methodLink "ChipMapLaw" (60 : Nat) ({ cls := "ChipMapModel", name := "busWrite", desc := "(II)I" } : Jvm.MethodName) ∈ GT := gt_in (in_t6 (List.mem_of_getElem? (i := 65) rfl)) rfl
set_option maxRecDepth 20000 in
theorem wd_6_66 : Jvm.Cond.instanceMethod ({ cls := "ChipMapModel", name := "busWrite", desc := "(II)I" } : Jvm.MethodName) ∈ GT := gt_in (in_t6 (List.mem_of_getElem? (i := 66) rfl)) rfl
set_option maxRecDepth 20000 in
theorem wd_6_67 : Jvm.Cond.selects "ChipMapModel" ({ cls := "ChipMapModel", name := "busWrite", desc := "(II)I" } : Jvm.MethodName) ({ cls := "ChipMapModel", name := "busWrite", desc := "(II)I" } : Jvm.MethodName) ∈ GT := gt_in (in_t6 (List.mem_of_getElem? (i := 67) rfl)) rfl
set_option maxRecDepth 20000 in
theorem wd_6_68 : Jvm.Cond.code ({ cls := "ChipMapModel", name := "busWrite", desc := "(II)I" } : Jvm.MethodName) prog_14_method_44_code (7 : Nat) (Option.some Jvm.ClassFile.FieldType.int) ∈ GT := gt_in (in_t6 (List.mem_of_getElem? (i := 68) rfl)) rfl
set_option maxRecDepth 20000 in
theorem wd_6_110 : Jvm.Cond.methodLink "ChipMapLaw" (64 : Nat) ({ cls := "ChipMapModel", name := "busRead", desc := "(I)I" } : Jvm.MethodName) ∈ GT := gt_in (in_t6 (List.mem_of_getElem? (i := 110) rfl)) rfl
set_option maxRecDepth 20000 in
theorem wd_6_111 : Jvm.Cond.instanceMethod ({ cls := "ChipMapModel", name := "busRead", desc := "(I)I" } : Jvm.MethodName) ∈ GT := gt_in (in_t6 (List.mem_of_getElem? (i := 111) rfl)) rfl
set_option maxRecDepth 20000 in
theorem wd_6_112 : Jvm.Cond.selects "ChipMapModel" ({ cls := "ChipMapModel", name := "busRead", desc := "(I)I" } : Jvm.MethodName) ({ cls := "ChipMapModel", name := "busRead", desc := "(I)I" } : Jvm.MethodName) ∈ GT := gt_in (in_t6 (List.mem_of_getElem? (i := 112) rfl)) rfl
set_option maxRecDepth 20000 in
theorem wd_6_113 : Jvm.Cond.code ({ cls := "ChipMapModel", name := "busRead", desc := "(I)I" } : Jvm.MethodName) prog_14_method_45_code (3 : Nat) (Option.some Jvm.ClassFile.FieldType.int) ∈ GT := gt_in (in_t6 (List.mem_of_getElem? (i := 113) rfl)) rfl
set_option maxRecDepth 20000 in
theorem wd_6_118 : Jvm.Cond.methodLink "ChipMapLaw" (69 : Nat) ({ cls := "ChipMapModel", name := "poke", desc := "(II)Z" } : Jvm.MethodName) ∈ GT := gt_in (in_t6 (List.mem_of_getElem? (i := 118) rfl)) rfl
set_option maxRecDepth 20000 in
theorem wd_6_119 : Jvm.Cond.instanceMethod ({ cls := "ChipMapModel", name := "poke", desc := "(II)Z" } : Jvm.MethodName) ∈ GT := gt_in (in_t6 (List.mem_of_getElem? (i := 119) rfl)) rfl
set_option maxRecDepth 20000 in
theorem wd_6_120 : Jvm.Cond.selects "ChipMapModel" ({ cls := "ChipMapModel", name := "poke", desc := "(II)Z" } : Jvm.MethodName) ({ cls := "ChipMapModel", name := "poke", desc := "(II)Z" } : Jvm.MethodName) ∈ GT := gt_in (in_t6 (List.mem_of_getElem? (i := 120) rfl)) rfl
set_option maxRecDepth 20000 in
theorem wd_6_121 : Jvm.Cond.code ({ cls := "ChipMapModel", name := "poke", desc := "(II)Z" } : Jvm.MethodName) prog_14_method_46_code (3 : Nat) (Option.some Jvm.ClassFile.FieldType.boolean) ∈ GT := gt_in (in_t6 (List.mem_of_getElem? (i := 121) rfl)) rfl
set_option maxRecDepth 20000 in
theorem wd_6_126 : Jvm.Cond.methodLink "ChipMapLaw" (73 : Nat) ({ cls := "ChipMapModel", name := "put", desc := "(II)I" } : Jvm.MethodName) ∈ GT := gt_in (in_t6 (List.mem_of_getElem? (i := 126) rfl)) rfl
set_option maxRecDepth 20000 in
theorem wd_6_127 : Jvm.Cond.instanceMethod ({ cls := "ChipMapModel", name := "put", desc := "(II)I" } : Jvm.MethodName) ∈ GT := gt_in (in_t6 (List.mem_of_getElem? (i := 127) rfl)) rfl
set_option maxRecDepth 20000 in
theorem wd_6_128 : Jvm.Cond.selects "ChipMapModel" ({ cls := "ChipMapModel", name := "put", desc := "(II)I" } : Jvm.MethodName) ({ cls := "ChipMapModel", name := "put", desc := "(II)I" } : Jvm.MethodName) ∈ GT := gt_in (in_t6 (List.mem_of_getElem? (i := 128) rfl)) rfl
set_option maxRecDepth 20000 in
theorem wd_6_129 : Jvm.Cond.code ({ cls := "ChipMapModel", name := "put", desc := "(II)I" } : Jvm.MethodName) prog_14_method_57_code (3 : Nat) (Option.some Jvm.ClassFile.FieldType.int) ∈ GT := gt_in (in_t6 (List.mem_of_getElem? (i := 129) rfl)) rfl
set_option maxRecDepth 20000 in
theorem wd_6_130 : Jvm.Cond.methodLink "ChipMapModel" (366 : Nat) ({ cls := "ChipMapModel", name := "isPut", desc := "(II)Z" } : Jvm.MethodName) ∈ GT := gt_in (in_t6 (List.mem_of_getElem? (i := 130) rfl)) rfl
set_option maxRecDepth 20000 in
theorem wd_6_132 : Jvm.Cond.instanceMethod ({ cls := "ChipMapModel", name := "isPut", desc := "(II)Z" } : Jvm.MethodName) ∈ GT := gt_in (in_t6 (List.mem_of_getElem? (i := 132) rfl)) rfl
set_option maxRecDepth 20000 in
theorem wd_6_133 : Jvm.Cond.code ({ cls := "ChipMapModel", name := "isPut", desc := "(II)Z" } : Jvm.MethodName) prog_14_method_51_code (3 : Nat) (Option.some Jvm.ClassFile.FieldType.boolean) ∈ GT := gt_in (in_t6 (List.mem_of_getElem? (i := 133) rfl)) rfl
set_option maxRecDepth 20000 in
theorem wd_6_134 : Jvm.Cond.methodLink "ChipMapModel" (369 : Nat) ({ cls := "ChipMapModel", name := "begin", desc := "()V" } : Jvm.MethodName) ∈ GT := gt_in (in_t6 (List.mem_of_getElem? (i := 134) rfl)) rfl
set_option maxRecDepth 20000 in
theorem wd_6_136 : Jvm.Cond.instanceMethod ({ cls := "ChipMapModel", name := "begin", desc := "()V" } : Jvm.MethodName) ∈ GT := gt_in (in_t6 (List.mem_of_getElem? (i := 136) rfl)) rfl
set_option maxRecDepth 20000 in
theorem wd_6_137 : Jvm.Cond.code ({ cls := "ChipMapModel", name := "begin", desc := "()V" } : Jvm.MethodName) prog_14_method_55_code (2 : Nat) (Option.none : Option Jvm.ClassFile.FieldType) ∈ GT := gt_in (in_t6 (List.mem_of_getElem? (i := 137) rfl)) rfl
set_option maxRecDepth 20000 in
theorem wd_6_138 : Jvm.Cond.methodLink "ChipMapModel" (360 : Nat) ({ cls := "ChipMapModel", name := "copyDevice", desc := "(II)V" } : Jvm.MethodName) ∈ GT := gt_in (in_t6 (List.mem_of_getElem? (i := 138) rfl)) rfl
set_option maxRecDepth 20000 in
theorem wd_6_140 : Jvm.Cond.instanceMethod ({ cls := "ChipMapModel", name := "copyDevice", desc := "(II)V" } : Jvm.MethodName) ∈ GT := gt_in (in_t6 (List.mem_of_getElem? (i := 140) rfl)) rfl
set_option maxRecDepth 20000 in
theorem wd_6_141 : Jvm.Cond.code ({ cls := "ChipMapModel", name := "copyDevice", desc := "(II)V" } : Jvm.MethodName) prog_14_method_28_code (4 : Nat) (Option.none : Option Jvm.ClassFile.FieldType) ∈ GT := gt_in (in_t6 (List.mem_of_getElem? (i := 141) rfl)) rfl
set_option maxRecDepth 20000 in
theorem wd_6_162 : Jvm.Cond.methodLink "ChipMapModel" (375 : Nat) ({ cls := "ChipMapModel", name := "end", desc := "()I" } : Jvm.MethodName) ∈ GT := gt_in (in_t6 (List.mem_of_getElem? (i := 162) rfl)) rfl
set_option maxRecDepth 20000 in
theorem wd_6_164 : Jvm.Cond.instanceMethod ({ cls := "ChipMapModel", name := "end", desc := "()I" } : Jvm.MethodName) ∈ GT := gt_in (in_t6 (List.mem_of_getElem? (i := 164) rfl)) rfl
set_option maxRecDepth 20000 in
theorem wd_6_165 : Jvm.Cond.code ({ cls := "ChipMapModel", name := "end", desc := "()I" } : Jvm.MethodName) prog_14_method_56_code (2 : Nat) (Option.some Jvm.ClassFile.FieldType.int) ∈ GT := gt_in (in_t6 (List.mem_of_getElem? (i := 165) rfl)) rfl
set_option maxRecDepth 20000 in
theorem wd_6_170 : Jvm.Cond.methodLink "ChipMapModel" (378 : Nat) ({ cls := "ChipMapModel", name := "isFetch", desc := "(I)Z" } : Jvm.MethodName) ∈ GT := gt_in (in_t6 (List.mem_of_getElem? (i := 170) rfl)) rfl
set_option maxRecDepth 20000 in
theorem wd_6_172 : Jvm.Cond.instanceMethod ({ cls := "ChipMapModel", name := "isFetch", desc := "(I)Z" } : Jvm.MethodName) ∈ GT := gt_in (in_t6 (List.mem_of_getElem? (i := 172) rfl)) rfl
set_option maxRecDepth 20000 in
theorem wd_6_173 : Jvm.Cond.code ({ cls := "ChipMapModel", name := "isFetch", desc := "(I)Z" } : Jvm.MethodName) prog_14_method_53_code (2 : Nat) (Option.some Jvm.ClassFile.FieldType.boolean) ∈ GT := gt_in (in_t6 (List.mem_of_getElem? (i := 173) rfl)) rfl
set_option maxRecDepth 20000 in
theorem wd_6_178 : Jvm.Cond.methodLink "ChipMapLaw" (81 : Nat) ({ cls := "ChipMapModel", name := "join", desc := "(II)I" } : Jvm.MethodName) ∈ GT := gt_in (in_t6 (List.mem_of_getElem? (i := 178) rfl)) rfl
set_option maxRecDepth 20000 in
theorem wd_6_179 : Jvm.Cond.instanceMethod ({ cls := "ChipMapModel", name := "join", desc := "(II)I" } : Jvm.MethodName) ∈ GT := gt_in (in_t6 (List.mem_of_getElem? (i := 179) rfl)) rfl
set_option maxRecDepth 20000 in
theorem wd_6_180 : Jvm.Cond.selects "ChipMapModel" ({ cls := "ChipMapModel", name := "join", desc := "(II)I" } : Jvm.MethodName) ({ cls := "ChipMapModel", name := "join", desc := "(II)I" } : Jvm.MethodName) ∈ GT := gt_in (in_t6 (List.mem_of_getElem? (i := 180) rfl)) rfl
set_option maxRecDepth 20000 in
theorem wd_6_181 : Jvm.Cond.code ({ cls := "ChipMapModel", name := "join", desc := "(II)I" } : Jvm.MethodName) prog_14_method_59_code (3 : Nat) (Option.some Jvm.ClassFile.FieldType.int) ∈ GT := gt_in (in_t6 (List.mem_of_getElem? (i := 181) rfl)) rfl
set_option maxRecDepth 20000 in
theorem wd_6_182 : Jvm.Cond.methodLink "ChipMapLaw" (85 : Nat) ({ cls := "ChipMapModel", name := "flush", desc := "()I" } : Jvm.MethodName) ∈ GT := gt_in (in_t6 (List.mem_of_getElem? (i := 182) rfl)) rfl
set_option maxRecDepth 20000 in
theorem wd_6_183 : Jvm.Cond.instanceMethod ({ cls := "ChipMapModel", name := "flush", desc := "()I" } : Jvm.MethodName) ∈ GT := gt_in (in_t6 (List.mem_of_getElem? (i := 183) rfl)) rfl
set_option maxRecDepth 20000 in
theorem wd_6_184 : Jvm.Cond.selects "ChipMapModel" ({ cls := "ChipMapModel", name := "flush", desc := "()I" } : Jvm.MethodName) ({ cls := "ChipMapModel", name := "flush", desc := "()I" } : Jvm.MethodName) ∈ GT := gt_in (in_t6 (List.mem_of_getElem? (i := 184) rfl)) rfl
set_option maxRecDepth 20000 in
theorem wd_6_185 : Jvm.Cond.code ({ cls := "ChipMapModel", name := "flush", desc := "()I" } : Jvm.MethodName) prog_14_method_61_code (4 : Nat) (Option.some Jvm.ClassFile.FieldType.int) ∈ GT := gt_in (in_t6 (List.mem_of_getElem? (i := 185) rfl)) rfl
set_option maxRecDepth 20000 in
theorem wd_6_190 : Jvm.Cond.methodLink "ChipMapLaw" (89 : Nat) ({ cls := "ChipMapModel", name := "drop", desc := "()I" } : Jvm.MethodName) ∈ GT := gt_in (in_t6 (List.mem_of_getElem? (i := 190) rfl)) rfl
set_option maxRecDepth 20000 in
theorem wd_6_191 : Jvm.Cond.instanceMethod ({ cls := "ChipMapModel", name := "drop", desc := "()I" } : Jvm.MethodName) ∈ GT := gt_in (in_t6 (List.mem_of_getElem? (i := 191) rfl)) rfl
set_option maxRecDepth 20000 in
theorem wd_6_192 : Jvm.Cond.selects "ChipMapModel" ({ cls := "ChipMapModel", name := "drop", desc := "()I" } : Jvm.MethodName) ({ cls := "ChipMapModel", name := "drop", desc := "()I" } : Jvm.MethodName) ∈ GT := gt_in (in_t6 (List.mem_of_getElem? (i := 192) rfl)) rfl
set_option maxRecDepth 20000 in
theorem wd_6_193 : Jvm.Cond.code ({ cls := "ChipMapModel", name := "drop", desc := "()I" } : Jvm.MethodName) prog_14_method_62_code (2 : Nat) (Option.some Jvm.ClassFile.FieldType.int) ∈ GT := gt_in (in_t6 (List.mem_of_getElem? (i := 193) rfl)) rfl
set_option maxRecDepth 20000 in
theorem wd_6_194 : Jvm.Cond.methodLink "ChipMapLaw" (93 : Nat) ({ cls := "ChipMapModel", name := "trace", desc := "(II)I" } : Jvm.MethodName) ∈ GT := gt_in (in_t6 (List.mem_of_getElem? (i := 194) rfl)) rfl
set_option maxRecDepth 20000 in
theorem wd_6_195 : Jvm.Cond.instanceMethod ({ cls := "ChipMapModel", name := "trace", desc := "(II)I" } : Jvm.MethodName) ∈ GT := gt_in (in_t6 (List.mem_of_getElem? (i := 195) rfl)) rfl
set_option maxRecDepth 20000 in
theorem wd_6_196 : Jvm.Cond.selects "ChipMapModel" ({ cls := "ChipMapModel", name := "trace", desc := "(II)I" } : Jvm.MethodName) ({ cls := "ChipMapModel", name := "trace", desc := "(II)I" } : Jvm.MethodName) ∈ GT := gt_in (in_t6 (List.mem_of_getElem? (i := 196) rfl)) rfl
set_option maxRecDepth 20000 in
theorem wd_6_197 : Jvm.Cond.code ({ cls := "ChipMapModel", name := "trace", desc := "(II)I" } : Jvm.MethodName) prog_14_method_63_code (4 : Nat) (Option.some Jvm.ClassFile.FieldType.int) ∈ GT := gt_in (in_t6 (List.mem_of_getElem? (i := 197) rfl)) rfl
set_option maxRecDepth 20000 in
theorem wd_6_198 : Jvm.Cond.methodLink "ChipMapLaw" (98 : Nat) ({ cls := "ChipMapModel", name := "step", desc := "(III)I" } : Jvm.MethodName) ∈ GT := gt_in (in_t6 (List.mem_of_getElem? (i := 198) rfl)) rfl
set_option maxRecDepth 20000 in
theorem wd_6_199 : Jvm.Cond.instanceMethod ({ cls := "ChipMapModel", name := "step", desc := "(III)I" } : Jvm.MethodName) ∈ GT := gt_in (in_t6 (List.mem_of_getElem? (i := 199) rfl)) rfl
set_option maxRecDepth 20000 in
theorem wd_6_200 : Jvm.Cond.selects "ChipMapModel" ({ cls := "ChipMapModel", name := "step", desc := "(III)I" } : Jvm.MethodName) ({ cls := "ChipMapModel", name := "step", desc := "(III)I" } : Jvm.MethodName) ∈ GT := gt_in (in_t6 (List.mem_of_getElem? (i := 200) rfl)) rfl
set_option maxRecDepth 20000 in
theorem wd_6_201 : Jvm.Cond.code ({ cls := "ChipMapModel", name := "step", desc := "(III)I" } : Jvm.MethodName) prog_14_method_64_code (4 : Nat) (Option.some Jvm.ClassFile.FieldType.int) ∈ GT := gt_in (in_t6 (List.mem_of_getElem? (i := 201) rfl)) rfl
set_option maxRecDepth 20000 in
theorem wd_6_202 : Jvm.Cond.methodLink "ChipMapLaw" (102 : Nat) ({ cls := "ChipMapModel", name := "erase", desc := "()I" } : Jvm.MethodName) ∈ GT := gt_in (in_t6 (List.mem_of_getElem? (i := 202) rfl)) rfl
set_option maxRecDepth 20000 in
theorem wd_6_203 : Jvm.Cond.instanceMethod ({ cls := "ChipMapModel", name := "erase", desc := "()I" } : Jvm.MethodName) ∈ GT := gt_in (in_t6 (List.mem_of_getElem? (i := 203) rfl)) rfl
set_option maxRecDepth 20000 in
theorem wd_6_204 : Jvm.Cond.selects "ChipMapModel" ({ cls := "ChipMapModel", name := "erase", desc := "()I" } : Jvm.MethodName) ({ cls := "ChipMapModel", name := "erase", desc := "()I" } : Jvm.MethodName) ∈ GT := gt_in (in_t6 (List.mem_of_getElem? (i := 204) rfl)) rfl
set_option maxRecDepth 20000 in
theorem wd_6_205 : Jvm.Cond.code ({ cls := "ChipMapModel", name := "erase", desc := "()I" } : Jvm.MethodName) prog_14_method_65_code (2 : Nat) (Option.some Jvm.ClassFile.FieldType.int) ∈ GT := gt_in (in_t6 (List.mem_of_getElem? (i := 205) rfl)) rfl
set_option maxRecDepth 20000 in
theorem wd_6_206 : Jvm.Cond.methodLink "ChipMapLaw" (106 : Nat) ({ cls := "ChipMapModel", name := "check", desc := "()I" } : Jvm.MethodName) ∈ GT := gt_in (in_t6 (List.mem_of_getElem? (i := 206) rfl)) rfl
set_option maxRecDepth 20000 in
theorem wd_6_207 : Jvm.Cond.instanceMethod ({ cls := "ChipMapModel", name := "check", desc := "()I" } : Jvm.MethodName) ∈ GT := gt_in (in_t6 (List.mem_of_getElem? (i := 207) rfl)) rfl
set_option maxRecDepth 20000 in
theorem wd_6_208 : Jvm.Cond.selects "ChipMapModel" ({ cls := "ChipMapModel", name := "check", desc := "()I" } : Jvm.MethodName) ({ cls := "ChipMapModel", name := "check", desc := "()I" } : Jvm.MethodName) ∈ GT := gt_in (in_t6 (List.mem_of_getElem? (i := 208) rfl)) rfl
set_option maxRecDepth 20000 in
theorem wd_6_209 : Jvm.Cond.code ({ cls := "ChipMapModel", name := "check", desc := "()I" } : Jvm.MethodName) prog_14_method_71_code (2 : Nat) (Option.some Jvm.ClassFile.FieldType.int) ∈ GT := gt_in (in_t6 (List.mem_of_getElem? (i := 209) rfl)) rfl
set_option maxRecDepth 20000 in
theorem wd_6_230 : Jvm.Cond.methodLink "ChipMapLaw" (110 : Nat) ({ cls := "ChipMapModel", name := "found", desc := "(I)I" } : Jvm.MethodName) ∈ GT := gt_in (in_t6 (List.mem_of_getElem? (i := 230) rfl)) rfl
set_option maxRecDepth 20000 in
theorem wd_6_231 : Jvm.Cond.instanceMethod ({ cls := "ChipMapModel", name := "found", desc := "(I)I" } : Jvm.MethodName) ∈ GT := gt_in (in_t6 (List.mem_of_getElem? (i := 231) rfl)) rfl
set_option maxRecDepth 20000 in
theorem wd_6_232 : Jvm.Cond.selects "ChipMapModel" ({ cls := "ChipMapModel", name := "found", desc := "(I)I" } : Jvm.MethodName) ({ cls := "ChipMapModel", name := "found", desc := "(I)I" } : Jvm.MethodName) ∈ GT := gt_in (in_t6 (List.mem_of_getElem? (i := 232) rfl)) rfl
set_option maxRecDepth 20000 in
theorem wd_6_233 : Jvm.Cond.code ({ cls := "ChipMapModel", name := "found", desc := "(I)I" } : Jvm.MethodName) prog_14_method_72_code (2 : Nat) (Option.some Jvm.ClassFile.FieldType.int) ∈ GT := gt_in (in_t6 (List.mem_of_getElem? (i := 233) rfl)) rfl
set_option maxRecDepth 20000 in
theorem wd_6_234 : Jvm.Cond.methodLink "ChipMapLaw" (114 : Nat) ({ cls := "ChipMapModel", name := "run", desc := "(I)I" } : Jvm.MethodName) ∈ GT := gt_in (in_t6 (List.mem_of_getElem? (i := 234) rfl)) rfl
set_option maxRecDepth 20000 in
theorem wd_6_235 : Jvm.Cond.instanceMethod ({ cls := "ChipMapModel", name := "run", desc := "(I)I" } : Jvm.MethodName) ∈ GT := gt_in (in_t6 (List.mem_of_getElem? (i := 235) rfl)) rfl
set_option maxRecDepth 20000 in
theorem wd_6_236 : Jvm.Cond.selects "ChipMapModel" ({ cls := "ChipMapModel", name := "run", desc := "(I)I" } : Jvm.MethodName) ({ cls := "ChipMapModel", name := "run", desc := "(I)I" } : Jvm.MethodName) ∈ GT := gt_in (in_t6 (List.mem_of_getElem? (i := 236) rfl)) rfl
set_option maxRecDepth 20000 in
theorem wd_6_237 : Jvm.Cond.code ({ cls := "ChipMapModel", name := "run", desc := "(I)I" } : Jvm.MethodName) prog_14_method_73_code (6 : Nat) (Option.some Jvm.ClassFile.FieldType.int) ∈ GT := gt_in (in_t6 (List.mem_of_getElem? (i := 237) rfl)) rfl
set_option maxRecDepth 20000 in
theorem wd_6_238 : Jvm.Cond.methodLink "ChipMapLaw" (118 : Nat) ({ cls := "ChipMapModel", name := "state", desc := "(I)I" } : Jvm.MethodName) ∈ GT := gt_in (in_t6 (List.mem_of_getElem? (i := 238) rfl)) rfl
set_option maxRecDepth 20000 in
theorem wd_6_239 : Jvm.Cond.instanceMethod ({ cls := "ChipMapModel", name := "state", desc := "(I)I" } : Jvm.MethodName) ∈ GT := gt_in (in_t6 (List.mem_of_getElem? (i := 239) rfl)) rfl
set_option maxRecDepth 20000 in
theorem wd_7_0 : Jvm.Cond.selects "ChipMapModel" ({ cls := "ChipMapModel", name := "state", desc := "(I)I" } : Jvm.MethodName) ({ cls := "ChipMapModel", name := "state", desc := "(I)I" } : Jvm.MethodName) ∈ GT := gt_in (in_t7 (List.mem_of_getElem? (i := 0) rfl)) rfl
set_option maxRecDepth 20000 in
theorem wd_7_1 : Jvm.Cond.code ({ cls := "ChipMapModel", name := "state", desc := "(I)I" } : Jvm.MethodName) prog_14_method_74_code (2 : Nat) (Option.some Jvm.ClassFile.FieldType.int) ∈ GT := gt_in (in_t7 (List.mem_of_getElem? (i := 1) rfl)) rfl
set_option maxRecDepth 20000 in
theorem wd_7_2 : Jvm.Cond.constantLong "ChipMapLaw" (27 : Nat) (4294967295 : Int64) ∈ GT := gt_in (in_t7 (List.mem_of_getElem? (i := 2) rfl)) rfl
set_option maxRecDepth 20000 in
theorem wd_7_4 : Jvm.Cond.fieldLink "java/lang/String" (9 : Nat) "java/lang/String" "value" "[B" ∈ GT := gt_in (in_t7 (List.mem_of_getElem? (i := 4) rfl)) rfl
set_option maxRecDepth 20000 in
theorem wd_7_5 : Jvm.Cond.fieldLink "java/lang/String" (15 : Nat) "java/lang/String" "coder" "B" ∈ GT := gt_in (in_t7 (List.mem_of_getElem? (i := 5) rfl)) rfl
set_option maxRecDepth 20000 in
theorem sl__ChipMap____ChipMap___doWrites_____I_____ChipMap___doWrites_____I__ : Cond.selects "ChipMap" ⟨"ChipMap", "doWrites", "()I"⟩ ⟨"ChipMap", "doWrites", "()I"⟩ ∈ GT := gt_in (List.mem_append_left _ (List.mem_map.mpr ⟨(⟨"ChipMap", "doWrites", "()I"⟩, 9), by decide +kernel, rfl⟩)) rfl
set_option maxRecDepth 20000 in
theorem sl__ChipMap____ChipMap___hasMap_____Z_____ChipMap___hasMap_____Z__ : Cond.selects "ChipMap" ⟨"ChipMap", "hasMap", "()Z"⟩ ⟨"ChipMap", "hasMap", "()Z"⟩ ∈ GT := gt_in (List.mem_append_left _ (List.mem_map.mpr ⟨(⟨"ChipMap", "hasMap", "()Z"⟩, 9), by decide +kernel, rfl⟩)) rfl
set_option maxRecDepth 20000 in
theorem sl__ChipMap_Reader____ChipMap_Reader___next_____C_____ChipMap_Reader___next_____C__ : Cond.selects "ChipMap$Reader" ⟨"ChipMap$Reader", "next", "()C"⟩ ⟨"ChipMap$Reader", "next", "()C"⟩ ∈ GT := gt_in (List.mem_append_left _ (List.mem_map.mpr ⟨(⟨"ChipMap$Reader", "next", "()C"⟩, 4), by decide +kernel, rfl⟩)) rfl
set_option maxRecDepth 20000 in
theorem sl__ChipMap_Reader____ChipMap_Reader___readRegister____I_Z_____ChipMap_Reader___readRegister____I_Z__ : Cond.selects "ChipMap$Reader" ⟨"ChipMap$Reader", "readRegister", "(I)Z"⟩ ⟨"ChipMap$Reader", "readRegister", "(I)Z"⟩ ∈ GT := gt_in (List.mem_append_left _ (List.mem_map.mpr ⟨(⟨"ChipMap$Reader", "readRegister", "(I)Z"⟩, 4), by decide +kernel, rfl⟩)) rfl
set_option maxRecDepth 20000 in
theorem sl__ChipMap_Reader____ChipMap_Reader___readRegisters_____Z_____ChipMap_Reader___readRegisters_____Z__ : Cond.selects "ChipMap$Reader" ⟨"ChipMap$Reader", "readRegisters", "()Z"⟩ ⟨"ChipMap$Reader", "readRegisters", "()Z"⟩ ∈ GT := gt_in (List.mem_append_left _ (List.mem_map.mpr ⟨(⟨"ChipMap$Reader", "readRegisters", "()Z"⟩, 4), by decide +kernel, rfl⟩)) rfl
set_option maxRecDepth 20000 in
theorem sl__ChipMap_Reader____ChipMap_Reader___take____C_Z_____ChipMap_Reader___take____C_Z__ : Cond.selects "ChipMap$Reader" ⟨"ChipMap$Reader", "take", "(C)Z"⟩ ⟨"ChipMap$Reader", "take", "(C)Z"⟩ ∈ GT := gt_in (List.mem_append_left _ (List.mem_map.mpr ⟨(⟨"ChipMap$Reader", "take", "(C)Z"⟩, 4), by decide +kernel, rfl⟩)) rfl
set_option maxRecDepth 20000 in
theorem sl__ChipMapModel____ChipMapModel___begin_____V_____ChipMapModel___begin_____V__ : Cond.selects "ChipMapModel" ⟨"ChipMapModel", "begin", "()V"⟩ ⟨"ChipMapModel", "begin", "()V"⟩ ∈ GT := gt_in (List.mem_append_left _ (List.mem_map.mpr ⟨(⟨"ChipMapModel", "begin", "()V"⟩, 76), by decide +kernel, rfl⟩)) rfl
set_option maxRecDepth 20000 in
theorem sl__ChipMapModel____ChipMapModel___copyDevice____II_V_____ChipMapModel___copyDevice____II_V__ : Cond.selects "ChipMapModel" ⟨"ChipMapModel", "copyDevice", "(II)V"⟩ ⟨"ChipMapModel", "copyDevice", "(II)V"⟩ ∈ GT := gt_in (List.mem_append_left _ (List.mem_map.mpr ⟨(⟨"ChipMapModel", "copyDevice", "(II)V"⟩, 76), by decide +kernel, rfl⟩)) rfl
set_option maxRecDepth 20000 in
theorem sl__ChipMapModel____ChipMapModel___end_____I_____ChipMapModel___end_____I__ : Cond.selects "ChipMapModel" ⟨"ChipMapModel", "end", "()I"⟩ ⟨"ChipMapModel", "end", "()I"⟩ ∈ GT := gt_in (List.mem_append_left _ (List.mem_map.mpr ⟨(⟨"ChipMapModel", "end", "()I"⟩, 76), by decide +kernel, rfl⟩)) rfl
set_option maxRecDepth 20000 in
theorem sl__ChipMapModel____ChipMapModel___here_____I_____ChipMapModel___here_____I__ : Cond.selects "ChipMapModel" ⟨"ChipMapModel", "here", "()I"⟩ ⟨"ChipMapModel", "here", "()I"⟩ ∈ GT := gt_in (List.mem_append_left _ (List.mem_map.mpr ⟨(⟨"ChipMapModel", "here", "()I"⟩, 76), by decide +kernel, rfl⟩)) rfl
set_option maxRecDepth 20000 in
theorem sl__ChipMapModel____ChipMapModel___isFetch____I_Z_____ChipMapModel___isFetch____I_Z__ : Cond.selects "ChipMapModel" ⟨"ChipMapModel", "isFetch", "(I)Z"⟩ ⟨"ChipMapModel", "isFetch", "(I)Z"⟩ ∈ GT := gt_in (List.mem_append_left _ (List.mem_map.mpr ⟨(⟨"ChipMapModel", "isFetch", "(I)Z"⟩, 76), by decide +kernel, rfl⟩)) rfl
set_option maxRecDepth 20000 in
theorem sl__ChipMapModel____ChipMapModel___isField____I_Z_____ChipMapModel___isField____I_Z__ : Cond.selects "ChipMapModel" ⟨"ChipMapModel", "isField", "(I)Z"⟩ ⟨"ChipMapModel", "isField", "(I)Z"⟩ ∈ GT := gt_in (List.mem_append_left _ (List.mem_map.mpr ⟨(⟨"ChipMapModel", "isField", "(I)Z"⟩, 76), by decide +kernel, rfl⟩)) rfl
set_option maxRecDepth 20000 in
theorem sl__ChipMapModel____ChipMapModel___isPut____II_Z_____ChipMapModel___isPut____II_Z__ : Cond.selects "ChipMapModel" ⟨"ChipMapModel", "isPut", "(II)Z"⟩ ⟨"ChipMapModel", "isPut", "(II)Z"⟩ ∈ GT := gt_in (List.mem_append_left _ (List.mem_map.mpr ⟨(⟨"ChipMapModel", "isPut", "(II)Z"⟩, 76), by decide +kernel, rfl⟩)) rfl
set_option maxRecDepth 20000 in
theorem sl__ChipMapModel____ChipMapModel___raise____I_I_____ChipMapModel___raise____I_I__ : Cond.selects "ChipMapModel" ⟨"ChipMapModel", "raise", "(I)I"⟩ ⟨"ChipMapModel", "raise", "(I)I"⟩ ∈ GT := gt_in (List.mem_append_left _ (List.mem_map.mpr ⟨(⟨"ChipMapModel", "raise", "(I)I"⟩, 76), by decide +kernel, rfl⟩)) rfl
set_option maxRecDepth 20000 in
theorem sl__ChipMapModel____ChipMapModel___readAll_____Z_____ChipMapModel___readAll_____Z__ : Cond.selects "ChipMapModel" ⟨"ChipMapModel", "readAll", "()Z"⟩ ⟨"ChipMapModel", "readAll", "()Z"⟩ ∈ GT := gt_in (List.mem_append_left _ (List.mem_map.mpr ⟨(⟨"ChipMapModel", "readAll", "()Z"⟩, 76), by decide +kernel, rfl⟩)) rfl
set_option maxRecDepth 20000 in
theorem sl__ChipMapModel____ChipMapModel___readRegister_____Z_____ChipMapModel___readRegister_____Z__ : Cond.selects "ChipMapModel" ⟨"ChipMapModel", "readRegister", "()Z"⟩ ⟨"ChipMapModel", "readRegister", "()Z"⟩ ∈ GT := gt_in (List.mem_append_left _ (List.mem_map.mpr ⟨(⟨"ChipMapModel", "readRegister", "()Z"⟩, 76), by decide +kernel, rfl⟩)) rfl
set_option maxRecDepth 20000 in
theorem sl__ChipMapModel____ChipMapModel___take____I_Z_____ChipMapModel___take____I_Z__ : Cond.selects "ChipMapModel" ⟨"ChipMapModel", "take", "(I)Z"⟩ ⟨"ChipMapModel", "take", "(I)Z"⟩ ∈ GT := gt_in (List.mem_append_left _ (List.mem_map.mpr ⟨(⟨"ChipMapModel", "take", "(I)Z"⟩, 76), by decide +kernel, rfl⟩)) rfl
set_option maxRecDepth 20000 in
theorem sl__ChipMapModel____ChipMapModel___wrong____II_Z_____ChipMapModel___wrong____II_Z__ : Cond.selects "ChipMapModel" ⟨"ChipMapModel", "wrong", "(II)Z"⟩ ⟨"ChipMapModel", "wrong", "(II)Z"⟩ ∈ GT := gt_in (List.mem_append_left _ (List.mem_map.mpr ⟨(⟨"ChipMapModel", "wrong", "(II)Z"⟩, 76), by decide +kernel, rfl⟩)) rfl
