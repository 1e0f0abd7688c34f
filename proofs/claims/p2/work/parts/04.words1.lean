set_option maxRecDepth 20000 in
theorem wd_2_90 : Jvm.Cond.instanceMethod ({ cls := "ChipMap$Device", name := "restart", desc := "()V" } : Jvm.MethodName) ∈ GT := gt_in (in_t2 (List.mem_of_getElem? (i := 90) rfl)) rfl
set_option maxRecDepth 20000 in
theorem wd_2_91 : Jvm.Cond.selects "ChipMap$Device" ({ cls := "ChipMap$Device", name := "restart", desc := "()V" } : Jvm.MethodName) ({ cls := "ChipMap$Device", name := "restart", desc := "()V" } : Jvm.MethodName) ∈ GT := gt_in (in_t2 (List.mem_of_getElem? (i := 91) rfl)) rfl
set_option maxRecDepth 20000 in
theorem wd_2_92 : Jvm.Cond.code ({ cls := "ChipMap$Device", name := "restart", desc := "()V" } : Jvm.MethodName) prog_3_method_2_code (2 : Nat) (Option.none : Option Jvm.ClassFile.FieldType) ∈ GT := gt_in (in_t2 (List.mem_of_getElem? (i := 92) rfl)) rfl
set_option maxRecDepth 20000 in
theorem wd_2_93 : Jvm.Cond.methodLink "ChipMap$Device" (41 : Nat) ({ cls := "ChipMap$Mind", name := "restart", desc := "()V" } : Jvm.MethodName) ∈ GT := gt_in (in_t2 (List.mem_of_getElem? (i := 93) rfl)) rfl
set_option maxRecDepth 20000 in
theorem wd_2_94 : Jvm.Cond.instanceMethod ({ cls := "ChipMap$Mind", name := "restart", desc := "()V" } : Jvm.MethodName) ∈ GT := gt_in (in_t2 (List.mem_of_getElem? (i := 94) rfl)) rfl
set_option maxRecDepth 20000 in
theorem wd_2_95 : Jvm.Cond.selects "ChipMap$Mind" ({ cls := "ChipMap$Mind", name := "restart", desc := "()V" } : Jvm.MethodName) ({ cls := "ChipMap$Mind", name := "restart", desc := "()V" } : Jvm.MethodName) ∈ GT := gt_in (in_t2 (List.mem_of_getElem? (i := 95) rfl)) rfl
set_option maxRecDepth 20000 in
theorem wd_2_96 : Jvm.Cond.code ({ cls := "ChipMap$Mind", name := "restart", desc := "()V" } : Jvm.MethodName) prog_8_method_2_code (2 : Nat) (Option.none : Option Jvm.ClassFile.FieldType) ∈ GT := gt_in (in_t2 (List.mem_of_getElem? (i := 96) rfl)) rfl
set_option maxRecDepth 20000 in
theorem wd_2_97 : Jvm.Cond.methodLink "ChipMap$Device" (52 : Nat) ({ cls := "java/util/Arrays", name := "fill", desc := "([II)V" } : Jvm.MethodName) ∈ GT := gt_in (in_t2 (List.mem_of_getElem? (i := 97) rfl)) rfl
set_option maxRecDepth 20000 in
theorem wd_2_102 : Jvm.Cond.methodLink "ChipMap" (141 : Nat) ({ cls := "ChipMap$Device", name := "registerAt", desc := "(I)I" } : Jvm.MethodName) ∈ GT := gt_in (in_t2 (List.mem_of_getElem? (i := 102) rfl)) rfl
set_option maxRecDepth 20000 in
theorem wd_2_103 : Jvm.Cond.instanceMethod ({ cls := "ChipMap$Device", name := "registerAt", desc := "(I)I" } : Jvm.MethodName) ∈ GT := gt_in (in_t2 (List.mem_of_getElem? (i := 103) rfl)) rfl
set_option maxRecDepth 20000 in
theorem wd_2_104 : Jvm.Cond.selects "ChipMap$Device" ({ cls := "ChipMap$Device", name := "registerAt", desc := "(I)I" } : Jvm.MethodName) ({ cls := "ChipMap$Device", name := "registerAt", desc := "(I)I" } : Jvm.MethodName) ∈ GT := gt_in (in_t2 (List.mem_of_getElem? (i := 104) rfl)) rfl
set_option maxRecDepth 20000 in
theorem wd_2_105 : Jvm.Cond.code ({ cls := "ChipMap$Device", name := "registerAt", desc := "(I)I" } : Jvm.MethodName) prog_3_method_3_code (3 : Nat) (Option.some Jvm.ClassFile.FieldType.int) ∈ GT := gt_in (in_t2 (List.mem_of_getElem? (i := 105) rfl)) rfl
set_option maxRecDepth 20000 in
theorem wd_2_106 : Jvm.Cond.methodLink "ChipMap$Device" (71 : Nat) ({ cls := "ChipMap$Mind", name := "isThere", desc := "(I)Z" } : Jvm.MethodName) ∈ GT := gt_in (in_t2 (List.mem_of_getElem? (i := 106) rfl)) rfl
set_option maxRecDepth 20000 in
theorem wd_2_107 : Jvm.Cond.instanceMethod ({ cls := "ChipMap$Mind", name := "isThere", desc := "(I)Z" } : Jvm.MethodName) ∈ GT := gt_in (in_t2 (List.mem_of_getElem? (i := 107) rfl)) rfl
set_option maxRecDepth 20000 in
theorem wd_2_108 : Jvm.Cond.selects "ChipMap$Mind" ({ cls := "ChipMap$Mind", name := "isThere", desc := "(I)Z" } : Jvm.MethodName) ({ cls := "ChipMap$Mind", name := "isThere", desc := "(I)Z" } : Jvm.MethodName) ∈ GT := gt_in (in_t2 (List.mem_of_getElem? (i := 108) rfl)) rfl
set_option maxRecDepth 20000 in
theorem wd_2_109 : Jvm.Cond.code ({ cls := "ChipMap$Mind", name := "isThere", desc := "(I)Z" } : Jvm.MethodName) prog_8_method_4_code (3 : Nat) (Option.some Jvm.ClassFile.FieldType.boolean) ∈ GT := gt_in (in_t2 (List.mem_of_getElem? (i := 109) rfl)) rfl
set_option maxRecDepth 20000 in
theorem wd_2_110 : Jvm.Cond.methodLink "ChipMap$Mind" (38 : Nat) ({ cls := "ChipMap$Mind", name := "knownValue", desc := "(I)I" } : Jvm.MethodName) ∈ GT := gt_in (in_t2 (List.mem_of_getElem? (i := 110) rfl)) rfl
set_option maxRecDepth 20000 in
theorem wd_2_111 : Jvm.Cond.instanceMethod ({ cls := "ChipMap$Mind", name := "knownValue", desc := "(I)I" } : Jvm.MethodName) ∈ GT := gt_in (in_t2 (List.mem_of_getElem? (i := 111) rfl)) rfl
set_option maxRecDepth 20000 in
theorem wd_2_112 : Jvm.Cond.selects "ChipMap$Mind" ({ cls := "ChipMap$Mind", name := "knownValue", desc := "(I)I" } : Jvm.MethodName) ({ cls := "ChipMap$Mind", name := "knownValue", desc := "(I)I" } : Jvm.MethodName) ∈ GT := gt_in (in_t2 (List.mem_of_getElem? (i := 112) rfl)) rfl
set_option maxRecDepth 20000 in
theorem wd_2_113 : Jvm.Cond.code ({ cls := "ChipMap$Mind", name := "knownValue", desc := "(I)I" } : Jvm.MethodName) prog_8_method_5_code (2 : Nat) (Option.some Jvm.ClassFile.FieldType.int) ∈ GT := gt_in (in_t2 (List.mem_of_getElem? (i := 113) rfl)) rfl
set_option maxRecDepth 20000 in
theorem wd_2_114 : Jvm.Cond.constant "ChipMap" (148 : Nat) (65535 : Int32) ∈ GT := gt_in (in_t2 (List.mem_of_getElem? (i := 114) rfl)) rfl
set_option maxRecDepth 20000 in
theorem wd_2_115 : Jvm.Cond.methodLink "ChipMap" (149 : Nat) ({ cls := "ChipMap$Mind", name := "brokenBy", desc := "(II)I" } : Jvm.MethodName) ∈ GT := gt_in (in_t2 (List.mem_of_getElem? (i := 115) rfl)) rfl
set_option maxRecDepth 20000 in
theorem wd_2_116 : Jvm.Cond.instanceMethod ({ cls := "ChipMap$Mind", name := "brokenBy", desc := "(II)I" } : Jvm.MethodName) ∈ GT := gt_in (in_t2 (List.mem_of_getElem? (i := 116) rfl)) rfl
set_option maxRecDepth 20000 in
theorem wd_2_117 : Jvm.Cond.selects "ChipMap$Mind" ({ cls := "ChipMap$Mind", name := "brokenBy", desc := "(II)I" } : Jvm.MethodName) ({ cls := "ChipMap$Mind", name := "brokenBy", desc := "(II)I" } : Jvm.MethodName) ∈ GT := gt_in (in_t2 (List.mem_of_getElem? (i := 117) rfl)) rfl
set_option maxRecDepth 20000 in
theorem wd_2_118 : Jvm.Cond.code ({ cls := "ChipMap$Mind", name := "brokenBy", desc := "(II)I" } : Jvm.MethodName) prog_8_method_6_code (8 : Nat) (Option.some Jvm.ClassFile.FieldType.int) ∈ GT := gt_in (in_t2 (List.mem_of_getElem? (i := 118) rfl)) rfl
set_option maxRecDepth 20000 in
theorem wd_2_119 : Jvm.Cond.methodLink "ChipMap$Mind" (69 : Nat) ({ cls := "ChipMap$Mind", name := "isWritten", desc := "(III)Z" } : Jvm.MethodName) ∈ GT := gt_in (in_t2 (List.mem_of_getElem? (i := 119) rfl)) rfl
set_option maxRecDepth 20000 in
theorem wd_2_121 : Jvm.Cond.instanceMethod ({ cls := "ChipMap$Mind", name := "isWritten", desc := "(III)Z" } : Jvm.MethodName) ∈ GT := gt_in (in_t2 (List.mem_of_getElem? (i := 121) rfl)) rfl
set_option maxRecDepth 20000 in
theorem wd_2_122 : Jvm.Cond.code ({ cls := "ChipMap$Mind", name := "isWritten", desc := "(III)Z" } : Jvm.MethodName) prog_8_method_8_code (4 : Nat) (Option.some Jvm.ClassFile.FieldType.boolean) ∈ GT := gt_in (in_t2 (List.mem_of_getElem? (i := 122) rfl)) rfl
set_option maxRecDepth 20000 in
theorem wd_2_123 : Jvm.Cond.methodLink "ChipMap" (154 : Nat) ({ cls := "ChipMap$Device", name := "write", desc := "(II)V" } : Jvm.MethodName) ∈ GT := gt_in (in_t2 (List.mem_of_getElem? (i := 123) rfl)) rfl
set_option maxRecDepth 20000 in
theorem wd_2_124 : Jvm.Cond.instanceMethod ({ cls := "ChipMap$Device", name := "write", desc := "(II)V" } : Jvm.MethodName) ∈ GT := gt_in (in_t2 (List.mem_of_getElem? (i := 124) rfl)) rfl
set_option maxRecDepth 20000 in
theorem wd_2_125 : Jvm.Cond.selects "ChipMap$Device" ({ cls := "ChipMap$Device", name := "write", desc := "(II)V" } : Jvm.MethodName) ({ cls := "ChipMap$Device", name := "write", desc := "(II)V" } : Jvm.MethodName) ∈ GT := gt_in (in_t2 (List.mem_of_getElem? (i := 125) rfl)) rfl
set_option maxRecDepth 20000 in
theorem wd_2_126 : Jvm.Cond.code ({ cls := "ChipMap$Device", name := "write", desc := "(II)V" } : Jvm.MethodName) prog_3_method_6_code (3 : Nat) (Option.none : Option Jvm.ClassFile.FieldType) ∈ GT := gt_in (in_t2 (List.mem_of_getElem? (i := 126) rfl)) rfl
set_option maxRecDepth 20000 in
theorem wd_2_127 : Jvm.Cond.methodLink "ChipMap$Device" (89 : Nat) ({ cls := "ChipMap$Log", name := "add", desc := "(III)V" } : Jvm.MethodName) ∈ GT := gt_in (in_t2 (List.mem_of_getElem? (i := 127) rfl)) rfl
set_option maxRecDepth 20000 in
theorem wd_2_128 : Jvm.Cond.instanceMethod ({ cls := "ChipMap$Log", name := "add", desc := "(III)V" } : Jvm.MethodName) ∈ GT := gt_in (in_t2 (List.mem_of_getElem? (i := 128) rfl)) rfl
set_option maxRecDepth 20000 in
theorem wd_2_129 : Jvm.Cond.selects "ChipMap$Log" ({ cls := "ChipMap$Log", name := "add", desc := "(III)V" } : Jvm.MethodName) ({ cls := "ChipMap$Log", name := "add", desc := "(III)V" } : Jvm.MethodName) ∈ GT := gt_in (in_t2 (List.mem_of_getElem? (i := 129) rfl)) rfl
set_option maxRecDepth 20000 in
theorem wd_2_130 : Jvm.Cond.code ({ cls := "ChipMap$Log", name := "add", desc := "(III)V" } : Jvm.MethodName) prog_7_method_2_code (5 : Nat) (Option.none : Option Jvm.ClassFile.FieldType) ∈ GT := gt_in (in_t2 (List.mem_of_getElem? (i := 130) rfl)) rfl
set_option maxRecDepth 20000 in
theorem wd_2_131 : Jvm.Cond.methodLink "ChipMap$Device" (93 : Nat) ({ cls := "ChipMap$Mind", name := "write", desc := "(II)V" } : Jvm.MethodName) ∈ GT := gt_in (in_t2 (List.mem_of_getElem? (i := 131) rfl)) rfl
set_option maxRecDepth 20000 in
theorem wd_2_132 : Jvm.Cond.instanceMethod ({ cls := "ChipMap$Mind", name := "write", desc := "(II)V" } : Jvm.MethodName) ∈ GT := gt_in (in_t2 (List.mem_of_getElem? (i := 132) rfl)) rfl
set_option maxRecDepth 20000 in
theorem wd_2_133 : Jvm.Cond.selects "ChipMap$Mind" ({ cls := "ChipMap$Mind", name := "write", desc := "(II)V" } : Jvm.MethodName) ({ cls := "ChipMap$Mind", name := "write", desc := "(II)V" } : Jvm.MethodName) ∈ GT := gt_in (in_t2 (List.mem_of_getElem? (i := 133) rfl)) rfl
set_option maxRecDepth 20000 in
theorem wd_2_134 : Jvm.Cond.code ({ cls := "ChipMap$Mind", name := "write", desc := "(II)V" } : Jvm.MethodName) prog_8_method_7_code (5 : Nat) (Option.none : Option Jvm.ClassFile.FieldType) ∈ GT := gt_in (in_t2 (List.mem_of_getElem? (i := 134) rfl)) rfl
set_option maxRecDepth 20000 in
theorem wd_2_135 : Jvm.Cond.methodLink "ChipMap$Device" (101 : Nat) ({ cls := "ChipMap$Device", name := "startPulses", desc := "(II)V" } : Jvm.MethodName) ∈ GT := gt_in (in_t2 (List.mem_of_getElem? (i := 135) rfl)) rfl
set_option maxRecDepth 20000 in
theorem wd_2_137 : Jvm.Cond.instanceMethod ({ cls := "ChipMap$Device", name := "startPulses", desc := "(II)V" } : Jvm.MethodName) ∈ GT := gt_in (in_t2 (List.mem_of_getElem? (i := 137) rfl)) rfl
set_option maxRecDepth 20000 in
theorem wd_2_138 : Jvm.Cond.code ({ cls := "ChipMap$Device", name := "startPulses", desc := "(II)V" } : Jvm.MethodName) prog_3_method_7_code (4 : Nat) (Option.none : Option Jvm.ClassFile.FieldType) ∈ GT := gt_in (in_t2 (List.mem_of_getElem? (i := 138) rfl)) rfl
set_option maxRecDepth 20000 in
theorem wd_2_139 : Jvm.Cond.methodLink "ChipMap$Device" (107 : Nat) ({ cls := "ChipMap$Device", name := "setLoose", desc := "(II)V" } : Jvm.MethodName) ∈ GT := gt_in (in_t2 (List.mem_of_getElem? (i := 139) rfl)) rfl
set_option maxRecDepth 20000 in
theorem wd_2_140 : Jvm.Cond.instanceMethod ({ cls := "ChipMap$Device", name := "setLoose", desc := "(II)V" } : Jvm.MethodName) ∈ GT := gt_in (in_t2 (List.mem_of_getElem? (i := 140) rfl)) rfl
set_option maxRecDepth 20000 in
theorem wd_2_141 : Jvm.Cond.selects "ChipMap$Device" ({ cls := "ChipMap$Device", name := "setLoose", desc := "(II)V" } : Jvm.MethodName) ({ cls := "ChipMap$Device", name := "setLoose", desc := "(II)V" } : Jvm.MethodName) ∈ GT := gt_in (in_t2 (List.mem_of_getElem? (i := 141) rfl)) rfl
set_option maxRecDepth 20000 in
theorem wd_2_142 : Jvm.Cond.code ({ cls := "ChipMap$Device", name := "setLoose", desc := "(II)V" } : Jvm.MethodName) prog_3_method_5_code (4 : Nat) (Option.none : Option Jvm.ClassFile.FieldType) ∈ GT := gt_in (in_t2 (List.mem_of_getElem? (i := 142) rfl)) rfl
set_option maxRecDepth 20000 in
theorem wd_2_143 : Jvm.Cond.methodLink "ChipMap" (161 : Nat) ({ cls := "java/lang/Integer", name := "bitCount", desc := "(I)I" } : Jvm.MethodName) ∈ GT := gt_in (in_t2 (List.mem_of_getElem? (i := 143) rfl)) rfl
set_option maxRecDepth 20000 in
theorem wd_2_144 : Jvm.Cond.static ({ cls := "java/lang/Integer", name := "bitCount", desc := "(I)I" } : Jvm.MethodName) ∈ GT := gt_in (in_t2 (List.mem_of_getElem? (i := 144) rfl)) rfl
set_option maxRecDepth 20000 in
theorem wd_2_145 : Jvm.Cond.code ({ cls := "java/lang/Integer", name := "bitCount", desc := "(I)I" } : Jvm.MethodName) prog_20_method_49_code (1 : Nat) (Option.some Jvm.ClassFile.FieldType.int) ∈ GT := gt_in (in_t2 (List.mem_of_getElem? (i := 145) rfl)) rfl
set_option maxRecDepth 20000 in
theorem wd_2_146 : Jvm.Cond.constant "java/lang/Integer" (265 : Nat) (1431655765 : Int32) ∈ GT := gt_in (in_t2 (List.mem_of_getElem? (i := 146) rfl)) rfl
set_option maxRecDepth 20000 in
theorem wd_2_147 : Jvm.Cond.constant "java/lang/Integer" (266 : Nat) (858993459 : Int32) ∈ GT := gt_in (in_t2 (List.mem_of_getElem? (i := 147) rfl)) rfl
set_option maxRecDepth 20000 in
theorem wd_2_148 : Jvm.Cond.constant "java/lang/Integer" (267 : Nat) (252645135 : Int32) ∈ GT := gt_in (in_t2 (List.mem_of_getElem? (i := 148) rfl)) rfl
set_option maxRecDepth 20000 in
theorem wd_2_149 : Jvm.Cond.methodLink "ChipMap" (166 : Nat) ({ cls := "java/lang/Integer", name := "numberOfTrailingZeros", desc := "(I)I" } : Jvm.MethodName) ∈ GT := gt_in (in_t2 (List.mem_of_getElem? (i := 149) rfl)) rfl
set_option maxRecDepth 20000 in
theorem wd_2_150 : Jvm.Cond.static ({ cls := "java/lang/Integer", name := "numberOfTrailingZeros", desc := "(I)I" } : Jvm.MethodName) ∈ GT := gt_in (in_t2 (List.mem_of_getElem? (i := 150) rfl)) rfl
set_option maxRecDepth 20000 in
theorem wd_2_151 : Jvm.Cond.code ({ cls := "java/lang/Integer", name := "numberOfTrailingZeros", desc := "(I)I" } : Jvm.MethodName) prog_20_method_48_code (2 : Nat) (Option.some Jvm.ClassFile.FieldType.int) ∈ GT := gt_in (in_t2 (List.mem_of_getElem? (i := 151) rfl)) rfl
set_option maxRecDepth 20000 in
theorem wd_2_152 : Jvm.Cond.constant "java/lang/Integer" (264 : Nat) (65536 : Int32) ∈ GT := gt_in (in_t2 (List.mem_of_getElem? (i := 152) rfl)) rfl
set_option maxRecDepth 20000 in
theorem wd_2_157 : Jvm.Cond.methodLink "ChipMap" (169 : Nat) ({ cls := "ChipMap$Device", name := "read", desc := "(I)I" } : Jvm.MethodName) ∈ GT := gt_in (in_t2 (List.mem_of_getElem? (i := 157) rfl)) rfl
set_option maxRecDepth 20000 in
theorem wd_2_158 : Jvm.Cond.instanceMethod ({ cls := "ChipMap$Device", name := "read", desc := "(I)I" } : Jvm.MethodName) ∈ GT := gt_in (in_t2 (List.mem_of_getElem? (i := 158) rfl)) rfl
set_option maxRecDepth 20000 in
theorem wd_2_159 : Jvm.Cond.selects "ChipMap$Device" ({ cls := "ChipMap$Device", name := "read", desc := "(I)I" } : Jvm.MethodName) ({ cls := "ChipMap$Device", name := "read", desc := "(I)I" } : Jvm.MethodName) ∈ GT := gt_in (in_t2 (List.mem_of_getElem? (i := 159) rfl)) rfl
set_option maxRecDepth 20000 in
theorem wd_2_160 : Jvm.Cond.code ({ cls := "ChipMap$Device", name := "read", desc := "(I)I" } : Jvm.MethodName) prog_3_method_8_code (3 : Nat) (Option.some Jvm.ClassFile.FieldType.int) ∈ GT := gt_in (in_t2 (List.mem_of_getElem? (i := 160) rfl)) rfl
set_option maxRecDepth 20000 in
theorem wd_2_161 : Jvm.Cond.methodLink "ChipMap$Device" (110 : Nat) ({ cls := "ChipMap$Device", name := "countPulses", desc := "(I)V" } : Jvm.MethodName) ∈ GT := gt_in (in_t2 (List.mem_of_getElem? (i := 161) rfl)) rfl
set_option maxRecDepth 20000 in
theorem wd_2_163 : Jvm.Cond.instanceMethod ({ cls := "ChipMap$Device", name := "countPulses", desc := "(I)V" } : Jvm.MethodName) ∈ GT := gt_in (in_t2 (List.mem_of_getElem? (i := 163) rfl)) rfl
set_option maxRecDepth 20000 in
theorem wd_2_164 : Jvm.Cond.code ({ cls := "ChipMap$Device", name := "countPulses", desc := "(I)V" } : Jvm.MethodName) prog_3_method_9_code (3 : Nat) (Option.none : Option Jvm.ClassFile.FieldType) ∈ GT := gt_in (in_t2 (List.mem_of_getElem? (i := 164) rfl)) rfl
set_option maxRecDepth 20000 in
theorem wd_2_169 : Jvm.Cond.methodLink "ChipMap" (172 : Nat) ({ cls := "ChipMap$Layout", name := "fits", desc := "(II)Z" } : Jvm.MethodName) ∈ GT := gt_in (in_t2 (List.mem_of_getElem? (i := 169) rfl)) rfl
set_option maxRecDepth 20000 in
theorem wd_2_170 : Jvm.Cond.instanceMethod ({ cls := "ChipMap$Layout", name := "fits", desc := "(II)Z" } : Jvm.MethodName) ∈ GT := gt_in (in_t2 (List.mem_of_getElem? (i := 170) rfl)) rfl
set_option maxRecDepth 20000 in
theorem wd_2_171 : Jvm.Cond.selects "ChipMap$Layout" ({ cls := "ChipMap$Layout", name := "fits", desc := "(II)Z" } : Jvm.MethodName) ({ cls := "ChipMap$Layout", name := "fits", desc := "(II)Z" } : Jvm.MethodName) ∈ GT := gt_in (in_t2 (List.mem_of_getElem? (i := 171) rfl)) rfl
set_option maxRecDepth 20000 in
theorem wd_2_172 : Jvm.Cond.code ({ cls := "ChipMap$Layout", name := "fits", desc := "(II)Z" } : Jvm.MethodName) prog_6_method_6_code (3 : Nat) (Option.some Jvm.ClassFile.FieldType.boolean) ∈ GT := gt_in (in_t2 (List.mem_of_getElem? (i := 172) rfl)) rfl
set_option maxRecDepth 20000 in
theorem wd_2_173 : Jvm.Cond.methodLink "ChipMap" (179 : Nat) ({ cls := "ChipMap$Device", name := "setLoose", desc := "(II)V" } : Jvm.MethodName) ∈ GT := gt_in (in_t2 (List.mem_of_getElem? (i := 173) rfl)) rfl
set_option maxRecDepth 20000 in
theorem wd_2_178 : Jvm.Cond.methodLink "ChipMap" (182 : Nat) ({ cls := "ChipMap$Layout", name := "canPut", desc := "(II)Z" } : Jvm.MethodName) ∈ GT := gt_in (in_t2 (List.mem_of_getElem? (i := 178) rfl)) rfl
set_option maxRecDepth 20000 in
theorem wd_2_179 : Jvm.Cond.instanceMethod ({ cls := "ChipMap$Layout", name := "canPut", desc := "(II)Z" } : Jvm.MethodName) ∈ GT := gt_in (in_t2 (List.mem_of_getElem? (i := 179) rfl)) rfl
set_option maxRecDepth 20000 in
theorem wd_2_180 : Jvm.Cond.selects "ChipMap$Layout" ({ cls := "ChipMap$Layout", name := "canPut", desc := "(II)Z" } : Jvm.MethodName) ({ cls := "ChipMap$Layout", name := "canPut", desc := "(II)Z" } : Jvm.MethodName) ∈ GT := gt_in (in_t2 (List.mem_of_getElem? (i := 180) rfl)) rfl
set_option maxRecDepth 20000 in
theorem wd_2_181 : Jvm.Cond.code ({ cls := "ChipMap$Layout", name := "canPut", desc := "(II)Z" } : Jvm.MethodName) prog_6_method_7_code (3 : Nat) (Option.some Jvm.ClassFile.FieldType.boolean) ∈ GT := gt_in (in_t2 (List.mem_of_getElem? (i := 181) rfl)) rfl
set_option maxRecDepth 20000 in
theorem wd_2_182 : Jvm.Cond.methodLink "ChipMap$Layout" (112 : Nat) ({ cls := "ChipMap$Layout", name := "has", desc := "(I)Z" } : Jvm.MethodName) ∈ GT := gt_in (in_t2 (List.mem_of_getElem? (i := 182) rfl)) rfl
set_option maxRecDepth 20000 in
theorem wd_2_183 : Jvm.Cond.methodLink "ChipMap$Layout" (115 : Nat) ({ cls := "ChipMap$Layout", name := "fits", desc := "(II)Z" } : Jvm.MethodName) ∈ GT := gt_in (in_t2 (List.mem_of_getElem? (i := 183) rfl)) rfl
set_option maxRecDepth 20000 in
theorem wd_2_184 : Jvm.Cond.methodLink "ChipMap" (185 : Nat) ({ cls := "ChipMap$Plan", name := "begin", desc := "(LChipMap$Mind;)V" } : Jvm.MethodName) ∈ GT := gt_in (in_t2 (List.mem_of_getElem? (i := 184) rfl)) rfl
set_option maxRecDepth 20000 in
theorem wd_2_185 : Jvm.Cond.instanceMethod ({ cls := "ChipMap$Plan", name := "begin", desc := "(LChipMap$Mind;)V" } : Jvm.MethodName) ∈ GT := gt_in (in_t2 (List.mem_of_getElem? (i := 185) rfl)) rfl
set_option maxRecDepth 20000 in
theorem wd_2_186 : Jvm.Cond.selects "ChipMap$Plan" ({ cls := "ChipMap$Plan", name := "begin", desc := "(LChipMap$Mind;)V" } : Jvm.MethodName) ({ cls := "ChipMap$Plan", name := "begin", desc := "(LChipMap$Mind;)V" } : Jvm.MethodName) ∈ GT := gt_in (in_t2 (List.mem_of_getElem? (i := 186) rfl)) rfl
set_option maxRecDepth 20000 in
theorem wd_2_187 : Jvm.Cond.code ({ cls := "ChipMap$Plan", name := "begin", desc := "(LChipMap$Mind;)V" } : Jvm.MethodName) prog_9_method_2_code (2 : Nat) (Option.none : Option Jvm.ClassFile.FieldType) ∈ GT := gt_in (in_t2 (List.mem_of_getElem? (i := 187) rfl)) rfl
set_option maxRecDepth 20000 in
theorem wd_2_188 : Jvm.Cond.methodLink "ChipMap$Plan" (31 : Nat) ({ cls := "ChipMap$Mind", name := "copy", desc := "(LChipMap$Mind;)V" } : Jvm.MethodName) ∈ GT := gt_in (in_t2 (List.mem_of_getElem? (i := 188) rfl)) rfl
set_option maxRecDepth 20000 in
theorem wd_2_189 : Jvm.Cond.instanceMethod ({ cls := "ChipMap$Mind", name := "copy", desc := "(LChipMap$Mind;)V" } : Jvm.MethodName) ∈ GT := gt_in (in_t2 (List.mem_of_getElem? (i := 189) rfl)) rfl
set_option maxRecDepth 20000 in
theorem wd_2_190 : Jvm.Cond.selects "ChipMap$Mind" ({ cls := "ChipMap$Mind", name := "copy", desc := "(LChipMap$Mind;)V" } : Jvm.MethodName) ({ cls := "ChipMap$Mind", name := "copy", desc := "(LChipMap$Mind;)V" } : Jvm.MethodName) ∈ GT := gt_in (in_t2 (List.mem_of_getElem? (i := 190) rfl)) rfl
set_option maxRecDepth 20000 in
theorem wd_2_191 : Jvm.Cond.code ({ cls := "ChipMap$Mind", name := "copy", desc := "(LChipMap$Mind;)V" } : Jvm.MethodName) prog_8_method_3_code (2 : Nat) (Option.none : Option Jvm.ClassFile.FieldType) ∈ GT := gt_in (in_t2 (List.mem_of_getElem? (i := 191) rfl)) rfl
set_option maxRecDepth 20000 in
theorem wd_2_192 : Jvm.Cond.methodLink "ChipMap$Mind" (29 : Nat) ({ cls := "java/lang/System", name := "arraycopy", desc := "(Ljava/lang/Object;ILjava/lang/Object;II)V" } : Jvm.MethodName) ∈ GT := gt_in (in_t2 (List.mem_of_getElem? (i := 192) rfl)) rfl
set_option maxRecDepth 20000 in
theorem wd_2_193 : Jvm.Cond.static ({ cls := "java/lang/System", name := "arraycopy", desc := "(Ljava/lang/Object;ILjava/lang/Object;II)V" } : Jvm.MethodName) ∈ GT := gt_in (in_t2 (List.mem_of_getElem? (i := 193) rfl)) rfl
set_option maxRecDepth 20000 in
theorem wd_2_194 : Jvm.Cond.native ({ cls := "java/lang/System", name := "arraycopy", desc := "(Ljava/lang/Object;ILjava/lang/Object;II)V" } : Jvm.MethodName) ∈ GT := gt_in (in_t2 (List.mem_of_getElem? (i := 194) rfl)) rfl
set_option maxRecDepth 20000 in
theorem wd_2_195 : Jvm.Cond.methodLink "ChipMap$Plan" (35 : Nat) ({ cls := "ChipMap$Plan", name := "beginHere", desc := "()V" } : Jvm.MethodName) ∈ GT := gt_in (in_t2 (List.mem_of_getElem? (i := 195) rfl)) rfl
set_option maxRecDepth 20000 in
theorem wd_2_196 : Jvm.Cond.instanceMethod ({ cls := "ChipMap$Plan", name := "beginHere", desc := "()V" } : Jvm.MethodName) ∈ GT := gt_in (in_t2 (List.mem_of_getElem? (i := 196) rfl)) rfl
set_option maxRecDepth 20000 in
theorem wd_2_197 : Jvm.Cond.selects "ChipMap$Plan" ({ cls := "ChipMap$Plan", name := "beginHere", desc := "()V" } : Jvm.MethodName) ({ cls := "ChipMap$Plan", name := "beginHere", desc := "()V" } : Jvm.MethodName) ∈ GT := gt_in (in_t2 (List.mem_of_getElem? (i := 197) rfl)) rfl
set_option maxRecDepth 20000 in
theorem wd_2_198 : Jvm.Cond.code ({ cls := "ChipMap$Plan", name := "beginHere", desc := "()V" } : Jvm.MethodName) prog_9_method_3_code (1 : Nat) (Option.none : Option Jvm.ClassFile.FieldType) ∈ GT := gt_in (in_t2 (List.mem_of_getElem? (i := 198) rfl)) rfl
set_option maxRecDepth 20000 in
theorem wd_2_199 : Jvm.Cond.methodLink "ChipMap" (189 : Nat) ({ cls := "ChipMap$Plan", name := "addPut", desc := "(II)V" } : Jvm.MethodName) ∈ GT := gt_in (in_t2 (List.mem_of_getElem? (i := 199) rfl)) rfl
set_option maxRecDepth 20000 in
theorem wd_2_200 : Jvm.Cond.instanceMethod ({ cls := "ChipMap$Plan", name := "addPut", desc := "(II)V" } : Jvm.MethodName) ∈ GT := gt_in (in_t2 (List.mem_of_getElem? (i := 200) rfl)) rfl
set_option maxRecDepth 20000 in
theorem wd_2_201 : Jvm.Cond.selects "ChipMap$Plan" ({ cls := "ChipMap$Plan", name := "addPut", desc := "(II)V" } : Jvm.MethodName) ({ cls := "ChipMap$Plan", name := "addPut", desc := "(II)V" } : Jvm.MethodName) ∈ GT := gt_in (in_t2 (List.mem_of_getElem? (i := 201) rfl)) rfl
set_option maxRecDepth 20000 in
theorem wd_2_202 : Jvm.Cond.code ({ cls := "ChipMap$Plan", name := "addPut", desc := "(II)V" } : Jvm.MethodName) prog_9_method_4_code (4 : Nat) (Option.none : Option Jvm.ClassFile.FieldType) ∈ GT := gt_in (in_t2 (List.mem_of_getElem? (i := 202) rfl)) rfl
set_option maxRecDepth 20000 in
theorem wd_2_203 : Jvm.Cond.methodLink "ChipMap$Plan" (45 : Nat) ({ cls := "ChipMap$Layout", name := "isKnown", desc := "(I)Z" } : Jvm.MethodName) ∈ GT := gt_in (in_t2 (List.mem_of_getElem? (i := 203) rfl)) rfl
set_option maxRecDepth 20000 in
theorem wd_2_204 : Jvm.Cond.instanceMethod ({ cls := "ChipMap$Layout", name := "isKnown", desc := "(I)Z" } : Jvm.MethodName) ∈ GT := gt_in (in_t2 (List.mem_of_getElem? (i := 204) rfl)) rfl
set_option maxRecDepth 20000 in
theorem wd_2_205 : Jvm.Cond.selects "ChipMap$Layout" ({ cls := "ChipMap$Layout", name := "isKnown", desc := "(I)Z" } : Jvm.MethodName) ({ cls := "ChipMap$Layout", name := "isKnown", desc := "(I)Z" } : Jvm.MethodName) ∈ GT := gt_in (in_t2 (List.mem_of_getElem? (i := 205) rfl)) rfl
set_option maxRecDepth 20000 in
theorem wd_2_206 : Jvm.Cond.code ({ cls := "ChipMap$Layout", name := "isKnown", desc := "(I)Z" } : Jvm.MethodName) prog_6_method_5_code (2 : Nat) (Option.some Jvm.ClassFile.FieldType.boolean) ∈ GT := gt_in (in_t2 (List.mem_of_getElem? (i := 206) rfl)) rfl
set_option maxRecDepth 20000 in
theorem wd_2_207 : Jvm.Cond.methodLink "ChipMap$Plan" (51 : Nat) ({ cls := "ChipMap$Mind", name := "knownValue", desc := "(I)I" } : Jvm.MethodName) ∈ GT := gt_in (in_t2 (List.mem_of_getElem? (i := 207) rfl)) rfl
set_option maxRecDepth 20000 in
theorem wd_2_208 : Jvm.Cond.methodLink "ChipMap$Plan" (58 : Nat) ({ cls := "ChipMap$Plan", name := "addReach", desc := "(I)V" } : Jvm.MethodName) ∈ GT := gt_in (in_t2 (List.mem_of_getElem? (i := 208) rfl)) rfl
set_option maxRecDepth 20000 in
theorem wd_2_210 : Jvm.Cond.instanceMethod ({ cls := "ChipMap$Plan", name := "addReach", desc := "(I)V" } : Jvm.MethodName) ∈ GT := gt_in (in_t2 (List.mem_of_getElem? (i := 210) rfl)) rfl
set_option maxRecDepth 20000 in
theorem wd_2_211 : Jvm.Cond.code ({ cls := "ChipMap$Plan", name := "addReach", desc := "(I)V" } : Jvm.MethodName) prog_9_method_9_code (3 : Nat) (Option.none : Option Jvm.ClassFile.FieldType) ∈ GT := gt_in (in_t2 (List.mem_of_getElem? (i := 211) rfl)) rfl
set_option maxRecDepth 20000 in
theorem wd_2_212 : Jvm.Cond.methodLink "ChipMap$Plan" (98 : Nat) ({ cls := "ChipMap$Mind", name := "isThere", desc := "(I)Z" } : Jvm.MethodName) ∈ GT := gt_in (in_t2 (List.mem_of_getElem? (i := 212) rfl)) rfl
set_option maxRecDepth 20000 in
theorem wd_2_213 : Jvm.Cond.methodLink "ChipMap$Plan" (68 : Nat) ({ cls := "ChipMap$Plan", name := "addTold", desc := "(III)V" } : Jvm.MethodName) ∈ GT := gt_in (in_t2 (List.mem_of_getElem? (i := 213) rfl)) rfl
set_option maxRecDepth 20000 in
theorem wd_2_215 : Jvm.Cond.instanceMethod ({ cls := "ChipMap$Plan", name := "addTold", desc := "(III)V" } : Jvm.MethodName) ∈ GT := gt_in (in_t2 (List.mem_of_getElem? (i := 215) rfl)) rfl
set_option maxRecDepth 20000 in
theorem wd_2_216 : Jvm.Cond.code ({ cls := "ChipMap$Plan", name := "addTold", desc := "(III)V" } : Jvm.MethodName) prog_9_method_10_code (6 : Nat) (Option.none : Option Jvm.ClassFile.FieldType) ∈ GT := gt_in (in_t2 (List.mem_of_getElem? (i := 216) rfl)) rfl
set_option maxRecDepth 20000 in
theorem wd_2_217 : Jvm.Cond.methodLink "ChipMap$Plan" (107 : Nat) ({ cls := "ChipMap$Mind", name := "brokenBy", desc := "(II)I" } : Jvm.MethodName) ∈ GT := gt_in (in_t2 (List.mem_of_getElem? (i := 217) rfl)) rfl
set_option maxRecDepth 20000 in
theorem wd_2_218 : Jvm.Cond.methodLink "ChipMap$Plan" (111 : Nat) ({ cls := "java/lang/Integer", name := "numberOfTrailingZeros", desc := "(I)I" } : Jvm.MethodName) ∈ GT := gt_in (in_t2 (List.mem_of_getElem? (i := 218) rfl)) rfl
set_option maxRecDepth 20000 in
theorem wd_2_219 : Jvm.Cond.methodLink "ChipMap$Plan" (116 : Nat) ({ cls := "ChipMap$Mind", name := "write", desc := "(II)V" } : Jvm.MethodName) ∈ GT := gt_in (in_t2 (List.mem_of_getElem? (i := 219) rfl)) rfl
set_option maxRecDepth 20000 in
theorem wd_2_220 : Jvm.Cond.methodLink "ChipMap" (192 : Nat) ({ cls := "ChipMap", name := "doWrites", desc := "()I" } : Jvm.MethodName) ∈ GT := gt_in (in_t2 (List.mem_of_getElem? (i := 220) rfl)) rfl
set_option maxRecDepth 20000 in
theorem wd_2_222 : Jvm.Cond.instanceMethod ({ cls := "ChipMap", name := "doWrites", desc := "()I" } : Jvm.MethodName) ∈ GT := gt_in (in_t2 (List.mem_of_getElem? (i := 222) rfl)) rfl
set_option maxRecDepth 20000 in
theorem wd_2_223 : Jvm.Cond.code ({ cls := "ChipMap", name := "doWrites", desc := "()I" } : Jvm.MethodName) prog_1_method_27_code (2 : Nat) (Option.some Jvm.ClassFile.FieldType.int) ∈ GT := gt_in (in_t2 (List.mem_of_getElem? (i := 223) rfl)) rfl
set_option maxRecDepth 20000 in
theorem wd_2_228 : Jvm.Cond.methodLink "ChipMap" (211 : Nat) ({ cls := "ChipMap$Steps", name := "isFull", desc := "()Z" } : Jvm.MethodName) ∈ GT := gt_in (in_t2 (List.mem_of_getElem? (i := 228) rfl)) rfl
set_option maxRecDepth 20000 in
theorem wd_2_229 : Jvm.Cond.instanceMethod ({ cls := "ChipMap$Steps", name := "isFull", desc := "()Z" } : Jvm.MethodName) ∈ GT := gt_in (in_t2 (List.mem_of_getElem? (i := 229) rfl)) rfl
set_option maxRecDepth 20000 in
theorem wd_2_230 : Jvm.Cond.selects "ChipMap$Steps" ({ cls := "ChipMap$Steps", name := "isFull", desc := "()Z" } : Jvm.MethodName) ({ cls := "ChipMap$Steps", name := "isFull", desc := "()Z" } : Jvm.MethodName) ∈ GT := gt_in (in_t2 (List.mem_of_getElem? (i := 230) rfl)) rfl
set_option maxRecDepth 20000 in
theorem wd_2_231 : Jvm.Cond.code ({ cls := "ChipMap$Steps", name := "isFull", desc := "()Z" } : Jvm.MethodName) prog_12_method_2_code (1 : Nat) (Option.some Jvm.ClassFile.FieldType.boolean) ∈ GT := gt_in (in_t2 (List.mem_of_getElem? (i := 231) rfl)) rfl
set_option maxRecDepth 20000 in
theorem wd_2_232 : Jvm.Cond.methodLink "ChipMap" (214 : Nat) ({ cls := "ChipMap$Steps", name := "append", desc := "(III)V" } : Jvm.MethodName) ∈ GT := gt_in (in_t2 (List.mem_of_getElem? (i := 232) rfl)) rfl
set_option maxRecDepth 20000 in
theorem wd_2_233 : Jvm.Cond.instanceMethod ({ cls := "ChipMap$Steps", name := "append", desc := "(III)V" } : Jvm.MethodName) ∈ GT := gt_in (in_t2 (List.mem_of_getElem? (i := 233) rfl)) rfl
set_option maxRecDepth 20000 in
theorem wd_2_234 : Jvm.Cond.selects "ChipMap$Steps" ({ cls := "ChipMap$Steps", name := "append", desc := "(III)V" } : Jvm.MethodName) ({ cls := "ChipMap$Steps", name := "append", desc := "(III)V" } : Jvm.MethodName) ∈ GT := gt_in (in_t2 (List.mem_of_getElem? (i := 234) rfl)) rfl
set_option maxRecDepth 20000 in
theorem wd_2_235 : Jvm.Cond.code ({ cls := "ChipMap$Steps", name := "append", desc := "(III)V" } : Jvm.MethodName) prog_12_method_3_code (4 : Nat) (Option.none : Option Jvm.ClassFile.FieldType) ∈ GT := gt_in (in_t2 (List.mem_of_getElem? (i := 235) rfl)) rfl
set_option maxRecDepth 20000 in
theorem wd_3_0 : Jvm.Cond.methodLink "ChipMap" (217 : Nat) ({ cls := "ChipMap$Plan", name := "addJoined", desc := "(LChipMap$Steps;)V" } : Jvm.MethodName) ∈ GT := gt_in (in_t3 (List.mem_of_getElem? (i := 0) rfl)) rfl
set_option maxRecDepth 20000 in
theorem wd_3_1 : Jvm.Cond.instanceMethod ({ cls := "ChipMap$Plan", name := "addJoined", desc := "(LChipMap$Steps;)V" } : Jvm.MethodName) ∈ GT := gt_in (in_t3 (List.mem_of_getElem? (i := 1) rfl)) rfl
set_option maxRecDepth 20000 in
theorem wd_3_2 : Jvm.Cond.selects "ChipMap$Plan" ({ cls := "ChipMap$Plan", name := "addJoined", desc := "(LChipMap$Steps;)V" } : Jvm.MethodName) ({ cls := "ChipMap$Plan", name := "addJoined", desc := "(LChipMap$Steps;)V" } : Jvm.MethodName) ∈ GT := gt_in (in_t3 (List.mem_of_getElem? (i := 2) rfl)) rfl
set_option maxRecDepth 20000 in
theorem wd_3_3 : Jvm.Cond.code ({ cls := "ChipMap$Plan", name := "addJoined", desc := "(LChipMap$Steps;)V" } : Jvm.MethodName) prog_9_method_6_code (3 : Nat) (Option.none : Option Jvm.ClassFile.FieldType) ∈ GT := gt_in (in_t3 (List.mem_of_getElem? (i := 3) rfl)) rfl
set_option maxRecDepth 20000 in
theorem wd_3_4 : Jvm.Cond.methodLink "ChipMap$Plan" (80 : Nat) ({ cls := "ChipMap$Plan", name := "isFirstOfRegister", desc := "(LChipMap$Steps;I)Z" } : Jvm.MethodName) ∈ GT := gt_in (in_t3 (List.mem_of_getElem? (i := 4) rfl)) rfl
set_option maxRecDepth 20000 in
theorem wd_3_6 : Jvm.Cond.instanceMethod ({ cls := "ChipMap$Plan", name := "isFirstOfRegister", desc := "(LChipMap$Steps;I)Z" } : Jvm.MethodName) ∈ GT := gt_in (in_t3 (List.mem_of_getElem? (i := 6) rfl)) rfl
set_option maxRecDepth 20000 in
theorem wd_3_7 : Jvm.Cond.code ({ cls := "ChipMap$Plan", name := "isFirstOfRegister", desc := "(LChipMap$Steps;I)Z" } : Jvm.MethodName) prog_9_method_7_code (5 : Nat) (Option.some Jvm.ClassFile.FieldType.boolean) ∈ GT := gt_in (in_t3 (List.mem_of_getElem? (i := 7) rfl)) rfl
set_option maxRecDepth 20000 in
theorem wd_3_8 : Jvm.Cond.methodLink "ChipMap$Plan" (87 : Nat) ({ cls := "ChipMap$Plan", name := "addRegister", desc := "(LChipMap$Steps;I)V" } : Jvm.MethodName) ∈ GT := gt_in (in_t3 (List.mem_of_getElem? (i := 8) rfl)) rfl
set_option maxRecDepth 20000 in
theorem wd_3_10 : Jvm.Cond.instanceMethod ({ cls := "ChipMap$Plan", name := "addRegister", desc := "(LChipMap$Steps;I)V" } : Jvm.MethodName) ∈ GT := gt_in (in_t3 (List.mem_of_getElem? (i := 10) rfl)) rfl
set_option maxRecDepth 20000 in
theorem wd_3_11 : Jvm.Cond.code ({ cls := "ChipMap$Plan", name := "addRegister", desc := "(LChipMap$Steps;I)V" } : Jvm.MethodName) prog_9_method_8_code (8 : Nat) (Option.none : Option Jvm.ClassFile.FieldType) ∈ GT := gt_in (in_t3 (List.mem_of_getElem? (i := 11) rfl)) rfl
set_option maxRecDepth 20000 in
theorem wd_3_16 : Jvm.Cond.methodLink "ChipMap" (221 : Nat) ({ cls := "ChipMap$Steps", name := "empty", desc := "()I" } : Jvm.MethodName) ∈ GT := gt_in (in_t3 (List.mem_of_getElem? (i := 16) rfl)) rfl
set_option maxRecDepth 20000 in
theorem wd_3_17 : Jvm.Cond.instanceMethod ({ cls := "ChipMap$Steps", name := "empty", desc := "()I" } : Jvm.MethodName) ∈ GT := gt_in (in_t3 (List.mem_of_getElem? (i := 17) rfl)) rfl
set_option maxRecDepth 20000 in
theorem wd_3_18 : Jvm.Cond.selects "ChipMap$Steps" ({ cls := "ChipMap$Steps", name := "empty", desc := "()I" } : Jvm.MethodName) ({ cls := "ChipMap$Steps", name := "empty", desc := "()I" } : Jvm.MethodName) ∈ GT := gt_in (in_t3 (List.mem_of_getElem? (i := 18) rfl)) rfl
set_option maxRecDepth 20000 in
theorem wd_3_19 : Jvm.Cond.code ({ cls := "ChipMap$Steps", name := "empty", desc := "()I" } : Jvm.MethodName) prog_12_method_4_code (2 : Nat) (Option.some Jvm.ClassFile.FieldType.int) ∈ GT := gt_in (in_t3 (List.mem_of_getElem? (i := 19) rfl)) rfl
set_option maxRecDepth 20000 in
theorem wd_3_24 : Jvm.Cond.methodLink "ChipMap" (228 : Nat) ({ cls := "ChipMap$Log", name := "rowOf", desc := "(I)I" } : Jvm.MethodName) ∈ GT := gt_in (in_t3 (List.mem_of_getElem? (i := 24) rfl)) rfl
set_option maxRecDepth 20000 in
theorem wd_3_25 : Jvm.Cond.instanceMethod ({ cls := "ChipMap$Log", name := "rowOf", desc := "(I)I" } : Jvm.MethodName) ∈ GT := gt_in (in_t3 (List.mem_of_getElem? (i := 25) rfl)) rfl
set_option maxRecDepth 20000 in
theorem wd_3_26 : Jvm.Cond.selects "ChipMap$Log" ({ cls := "ChipMap$Log", name := "rowOf", desc := "(I)I" } : Jvm.MethodName) ({ cls := "ChipMap$Log", name := "rowOf", desc := "(I)I" } : Jvm.MethodName) ∈ GT := gt_in (in_t3 (List.mem_of_getElem? (i := 26) rfl)) rfl
set_option maxRecDepth 20000 in
theorem wd_3_27 : Jvm.Cond.code ({ cls := "ChipMap$Log", name := "rowOf", desc := "(I)I" } : Jvm.MethodName) prog_7_method_3_code (2 : Nat) (Option.some Jvm.ClassFile.FieldType.int) ∈ GT := gt_in (in_t3 (List.mem_of_getElem? (i := 27) rfl)) rfl
set_option maxRecDepth 20000 in
theorem wd_3_32 : Jvm.Cond.methodLink "ChipMap" (241 : Nat) ({ cls := "ChipMap", name := "isStep", desc := "(III)Z" } : Jvm.MethodName) ∈ GT := gt_in (in_t3 (List.mem_of_getElem? (i := 32) rfl)) rfl
set_option maxRecDepth 20000 in
theorem wd_3_34 : Jvm.Cond.instanceMethod ({ cls := "ChipMap", name := "isStep", desc := "(III)Z" } : Jvm.MethodName) ∈ GT := gt_in (in_t3 (List.mem_of_getElem? (i := 34) rfl)) rfl
set_option maxRecDepth 20000 in
theorem wd_3_35 : Jvm.Cond.code ({ cls := "ChipMap", name := "isStep", desc := "(III)Z" } : Jvm.MethodName) prog_1_method_24_code (4 : Nat) (Option.some Jvm.ClassFile.FieldType.boolean) ∈ GT := gt_in (in_t3 (List.mem_of_getElem? (i := 35) rfl)) rfl
set_option maxRecDepth 20000 in
theorem wd_3_36 : Jvm.Cond.methodLink "ChipMap" (196 : Nat) ({ cls := "ChipMap$Layout", name := "canFetch", desc := "(I)Z" } : Jvm.MethodName) ∈ GT := gt_in (in_t3 (List.mem_of_getElem? (i := 36) rfl)) rfl
set_option maxRecDepth 20000 in
theorem wd_3_37 : Jvm.Cond.instanceMethod ({ cls := "ChipMap$Layout", name := "canFetch", desc := "(I)Z" } : Jvm.MethodName) ∈ GT := gt_in (in_t3 (List.mem_of_getElem? (i := 37) rfl)) rfl
set_option maxRecDepth 20000 in
theorem wd_3_38 : Jvm.Cond.selects "ChipMap$Layout" ({ cls := "ChipMap$Layout", name := "canFetch", desc := "(I)Z" } : Jvm.MethodName) ({ cls := "ChipMap$Layout", name := "canFetch", desc := "(I)Z" } : Jvm.MethodName) ∈ GT := gt_in (in_t3 (List.mem_of_getElem? (i := 38) rfl)) rfl
set_option maxRecDepth 20000 in
theorem wd_3_39 : Jvm.Cond.code ({ cls := "ChipMap$Layout", name := "canFetch", desc := "(I)Z" } : Jvm.MethodName) prog_6_method_8_code (2 : Nat) (Option.some Jvm.ClassFile.FieldType.boolean) ∈ GT := gt_in (in_t3 (List.mem_of_getElem? (i := 39) rfl)) rfl
set_option maxRecDepth 20000 in
theorem wd_3_48 : Jvm.Cond.methodLink "ChipMap" (245 : Nat) ({ cls := "ChipMap$Checker", name := "begin", desc := "()V" } : Jvm.MethodName) ∈ GT := gt_in (in_t3 (List.mem_of_getElem? (i := 48) rfl)) rfl
set_option maxRecDepth 20000 in
theorem wd_3_49 : Jvm.Cond.instanceMethod ({ cls := "ChipMap$Checker", name := "begin", desc := "()V" } : Jvm.MethodName) ∈ GT := gt_in (in_t3 (List.mem_of_getElem? (i := 49) rfl)) rfl
set_option maxRecDepth 20000 in
theorem wd_3_50 : Jvm.Cond.selects "ChipMap$Checker" ({ cls := "ChipMap$Checker", name := "begin", desc := "()V" } : Jvm.MethodName) ({ cls := "ChipMap$Checker", name := "begin", desc := "()V" } : Jvm.MethodName) ∈ GT := gt_in (in_t3 (List.mem_of_getElem? (i := 50) rfl)) rfl
set_option maxRecDepth 20000 in
theorem wd_3_51 : Jvm.Cond.code ({ cls := "ChipMap$Checker", name := "begin", desc := "()V" } : Jvm.MethodName) prog_2_method_2_code (1 : Nat) (Option.none : Option Jvm.ClassFile.FieldType) ∈ GT := gt_in (in_t3 (List.mem_of_getElem? (i := 51) rfl)) rfl
set_option maxRecDepth 20000 in
theorem wd_3_52 : Jvm.Cond.methodLink "ChipMap$Checker" (38 : Nat) ({ cls := "java/util/Arrays", name := "fill", desc := "([II)V" } : Jvm.MethodName) ∈ GT := gt_in (in_t3 (List.mem_of_getElem? (i := 52) rfl)) rfl
set_option maxRecDepth 20000 in
theorem wd_3_53 : Jvm.Cond.methodLink "ChipMap$Checker" (60 : Nat) ({ cls := "ChipMap$Mind", name := "restart", desc := "()V" } : Jvm.MethodName) ∈ GT := gt_in (in_t3 (List.mem_of_getElem? (i := 53) rfl)) rfl
set_option maxRecDepth 20000 in
theorem wd_3_54 : Jvm.Cond.methodLink "ChipMap$Checker" (65 : Nat) ({ cls := "ChipMap$Checker", name := "meet", desc := "(I)V" } : Jvm.MethodName) ∈ GT := gt_in (in_t3 (List.mem_of_getElem? (i := 54) rfl)) rfl
set_option maxRecDepth 20000 in
theorem wd_3_56 : Jvm.Cond.instanceMethod ({ cls := "ChipMap$Checker", name := "meet", desc := "(I)V" } : Jvm.MethodName) ∈ GT := gt_in (in_t3 (List.mem_of_getElem? (i := 56) rfl)) rfl
set_option maxRecDepth 20000 in
theorem wd_3_57 : Jvm.Cond.code ({ cls := "ChipMap$Checker", name := "meet", desc := "(I)V" } : Jvm.MethodName) prog_2_method_6_code (5 : Nat) (Option.none : Option Jvm.ClassFile.FieldType) ∈ GT := gt_in (in_t3 (List.mem_of_getElem? (i := 57) rfl)) rfl
set_option maxRecDepth 20000 in
theorem wd_3_58 : Jvm.Cond.methodLink "ChipMap$Checker" (113 : Nat) ({ cls := "java/lang/Math", name := "min", desc := "(II)I" } : Jvm.MethodName) ∈ GT := gt_in (in_t3 (List.mem_of_getElem? (i := 58) rfl)) rfl
set_option maxRecDepth 20000 in
theorem wd_3_59 : Jvm.Cond.static ({ cls := "java/lang/Math", name := "min", desc := "(II)I" } : Jvm.MethodName) ∈ GT := gt_in (in_t3 (List.mem_of_getElem? (i := 59) rfl)) rfl
set_option maxRecDepth 20000 in
theorem wd_3_60 : Jvm.Cond.code ({ cls := "java/lang/Math", name := "min", desc := "(II)I" } : Jvm.MethodName) prog_21_method_69_code (2 : Nat) (Option.some Jvm.ClassFile.FieldType.int) ∈ GT := gt_in (in_t3 (List.mem_of_getElem? (i := 60) rfl)) rfl
set_option maxRecDepth 20000 in
theorem wd_3_61 : Jvm.Cond.methodLink "ChipMap$Checker" (119 : Nat) ({ cls := "ChipMap$Checker", name := "makeKey", desc := "(I)V" } : Jvm.MethodName) ∈ GT := gt_in (in_t3 (List.mem_of_getElem? (i := 61) rfl)) rfl
set_option maxRecDepth 20000 in
theorem wd_3_63 : Jvm.Cond.instanceMethod ({ cls := "ChipMap$Checker", name := "makeKey", desc := "(I)V" } : Jvm.MethodName) ∈ GT := gt_in (in_t3 (List.mem_of_getElem? (i := 63) rfl)) rfl
set_option maxRecDepth 20000 in
theorem wd_3_64 : Jvm.Cond.code ({ cls := "ChipMap$Checker", name := "makeKey", desc := "(I)V" } : Jvm.MethodName) prog_2_method_7_code (3 : Nat) (Option.none : Option Jvm.ClassFile.FieldType) ∈ GT := gt_in (in_t3 (List.mem_of_getElem? (i := 64) rfl)) rfl
set_option maxRecDepth 20000 in
theorem wd_3_65 : Jvm.Cond.methodLink "ChipMap$Checker" (133 : Nat) ({ cls := "java/util/Arrays", name := "fill", desc := "([JJ)V" } : Jvm.MethodName) ∈ GT := gt_in (in_t3 (List.mem_of_getElem? (i := 65) rfl)) rfl
set_option maxRecDepth 20000 in
theorem wd_3_66 : Jvm.Cond.static ({ cls := "java/util/Arrays", name := "fill", desc := "([JJ)V" } : Jvm.MethodName) ∈ GT := gt_in (in_t3 (List.mem_of_getElem? (i := 66) rfl)) rfl
set_option maxRecDepth 20000 in
theorem wd_3_67 : Jvm.Cond.code ({ cls := "java/util/Arrays", name := "fill", desc := "([JJ)V" } : Jvm.MethodName) prog_28_method_101_code (5 : Nat) (Option.none : Option Jvm.ClassFile.FieldType) ∈ GT := gt_in (in_t3 (List.mem_of_getElem? (i := 67) rfl)) rfl
set_option maxRecDepth 20000 in
theorem wd_3_68 : Jvm.Cond.methodLink "ChipMap$Checker" (122 : Nat) ({ cls := "ChipMap$Checker", name := "hashOfKey", desc := "()I" } : Jvm.MethodName) ∈ GT := gt_in (in_t3 (List.mem_of_getElem? (i := 68) rfl)) rfl
set_option maxRecDepth 20000 in
theorem wd_3_70 : Jvm.Cond.instanceMethod ({ cls := "ChipMap$Checker", name := "hashOfKey", desc := "()I" } : Jvm.MethodName) ∈ GT := gt_in (in_t3 (List.mem_of_getElem? (i := 70) rfl)) rfl
set_option maxRecDepth 20000 in
theorem wd_3_71 : Jvm.Cond.code ({ cls := "ChipMap$Checker", name := "hashOfKey", desc := "()I" } : Jvm.MethodName) prog_2_method_8_code (4 : Nat) (Option.some Jvm.ClassFile.FieldType.int) ∈ GT := gt_in (in_t3 (List.mem_of_getElem? (i := 71) rfl)) rfl
set_option maxRecDepth 20000 in
theorem wd_3_72 : Jvm.Cond.constantLong "ChipMap$Checker" (136 : Nat) (-7046029254386353131 : Int64) ∈ GT := gt_in (in_t3 (List.mem_of_getElem? (i := 72) rfl)) rfl
set_option maxRecDepth 20000 in
theorem wd_3_73 : Jvm.Cond.methodLink "ChipMap$Checker" (126 : Nat) ({ cls := "ChipMap$Checker", name := "add", desc := "(I)V" } : Jvm.MethodName) ∈ GT := gt_in (in_t3 (List.mem_of_getElem? (i := 73) rfl)) rfl
set_option maxRecDepth 20000 in
theorem wd_3_75 : Jvm.Cond.instanceMethod ({ cls := "ChipMap$Checker", name := "add", desc := "(I)V" } : Jvm.MethodName) ∈ GT := gt_in (in_t3 (List.mem_of_getElem? (i := 75) rfl)) rfl
set_option maxRecDepth 20000 in
theorem wd_3_76 : Jvm.Cond.code ({ cls := "ChipMap$Checker", name := "add", desc := "(I)V" } : Jvm.MethodName) prog_2_method_10_code (2 : Nat) (Option.none : Option Jvm.ClassFile.FieldType) ∈ GT := gt_in (in_t3 (List.mem_of_getElem? (i := 76) rfl)) rfl
set_option maxRecDepth 20000 in
theorem wd_3_77 : Jvm.Cond.methodLink "ChipMap$Checker" (138 : Nat) ({ cls := "java/lang/System", name := "arraycopy", desc := "(Ljava/lang/Object;ILjava/lang/Object;II)V" } : Jvm.MethodName) ∈ GT := gt_in (in_t3 (List.mem_of_getElem? (i := 77) rfl)) rfl
set_option maxRecDepth 20000 in
theorem wd_3_78 : Jvm.Cond.methodLink "ChipMap$Checker" (129 : Nat) ({ cls := "ChipMap$Checker", name := "isKey", desc := "(I)Z" } : Jvm.MethodName) ∈ GT := gt_in (in_t3 (List.mem_of_getElem? (i := 78) rfl)) rfl
set_option maxRecDepth 20000 in
theorem wd_3_80 : Jvm.Cond.instanceMethod ({ cls := "ChipMap$Checker", name := "isKey", desc := "(I)Z" } : Jvm.MethodName) ∈ GT := gt_in (in_t3 (List.mem_of_getElem? (i := 80) rfl)) rfl
set_option maxRecDepth 20000 in
theorem wd_3_81 : Jvm.Cond.code ({ cls := "ChipMap$Checker", name := "isKey", desc := "(I)Z" } : Jvm.MethodName) prog_2_method_9_code (3 : Nat) (Option.some Jvm.ClassFile.FieldType.boolean) ∈ GT := gt_in (in_t3 (List.mem_of_getElem? (i := 81) rfl)) rfl
set_option maxRecDepth 20000 in
theorem wd_3_82 : Jvm.Cond.methodLink "ChipMap" (252 : Nat) ({ cls := "ChipMap$Checker", name := "visit", desc := "(I)V" } : Jvm.MethodName) ∈ GT := gt_in (in_t3 (List.mem_of_getElem? (i := 82) rfl)) rfl
set_option maxRecDepth 20000 in
theorem wd_3_83 : Jvm.Cond.instanceMethod ({ cls := "ChipMap$Checker", name := "visit", desc := "(I)V" } : Jvm.MethodName) ∈ GT := gt_in (in_t3 (List.mem_of_getElem? (i := 83) rfl)) rfl
set_option maxRecDepth 20000 in
theorem wd_3_84 : Jvm.Cond.selects "ChipMap$Checker" ({ cls := "ChipMap$Checker", name := "visit", desc := "(I)V" } : Jvm.MethodName) ({ cls := "ChipMap$Checker", name := "visit", desc := "(I)V" } : Jvm.MethodName) ∈ GT := gt_in (in_t3 (List.mem_of_getElem? (i := 84) rfl)) rfl
set_option maxRecDepth 20000 in
theorem wd_3_85 : Jvm.Cond.code ({ cls := "ChipMap$Checker", name := "visit", desc := "(I)V" } : Jvm.MethodName) prog_2_method_3_code (4 : Nat) (Option.none : Option Jvm.ClassFile.FieldType) ∈ GT := gt_in (in_t3 (List.mem_of_getElem? (i := 85) rfl)) rfl
set_option maxRecDepth 20000 in
theorem wd_3_86 : Jvm.Cond.methodLink "ChipMap$Checker" (69 : Nat) ({ cls := "ChipMap$Checker", name := "load", desc := "(I)I" } : Jvm.MethodName) ∈ GT := gt_in (in_t3 (List.mem_of_getElem? (i := 86) rfl)) rfl
set_option maxRecDepth 20000 in
theorem wd_3_88 : Jvm.Cond.instanceMethod ({ cls := "ChipMap$Checker", name := "load", desc := "(I)I" } : Jvm.MethodName) ∈ GT := gt_in (in_t3 (List.mem_of_getElem? (i := 88) rfl)) rfl
set_option maxRecDepth 20000 in
theorem wd_3_89 : Jvm.Cond.code ({ cls := "ChipMap$Checker", name := "load", desc := "(I)I" } : Jvm.MethodName) prog_2_method_5_code (5 : Nat) (Option.some Jvm.ClassFile.FieldType.int) ∈ GT := gt_in (in_t3 (List.mem_of_getElem? (i := 89) rfl)) rfl
set_option maxRecDepth 20000 in
theorem wd_3_90 : Jvm.Cond.constant "ChipMap$Checker" (109 : Nat) (65535 : Int32) ∈ GT := gt_in (in_t3 (List.mem_of_getElem? (i := 90) rfl)) rfl
set_option maxRecDepth 20000 in
theorem wd_3_91 : Jvm.Cond.methodLink "ChipMap$Checker" (82 : Nat) ({ cls := "ChipMap$Plan", name := "beginHere", desc := "()V" } : Jvm.MethodName) ∈ GT := gt_in (in_t3 (List.mem_of_getElem? (i := 91) rfl)) rfl
set_option maxRecDepth 20000 in
theorem wd_3_92 : Jvm.Cond.methodLink "ChipMap$Checker" (88 : Nat) ({ cls := "ChipMap$Plan", name := "addPut", desc := "(II)V" } : Jvm.MethodName) ∈ GT := gt_in (in_t3 (List.mem_of_getElem? (i := 92) rfl)) rfl
set_option maxRecDepth 20000 in
theorem wd_3_93 : Jvm.Cond.methodLink "ChipMap$Checker" (92 : Nat) ({ cls := "ChipMap$Plan", name := "addFetch", desc := "(I)V" } : Jvm.MethodName) ∈ GT := gt_in (in_t3 (List.mem_of_getElem? (i := 93) rfl)) rfl
set_option maxRecDepth 20000 in
theorem wd_3_94 : Jvm.Cond.instanceMethod ({ cls := "ChipMap$Plan", name := "addFetch", desc := "(I)V" } : Jvm.MethodName) ∈ GT := gt_in (in_t3 (List.mem_of_getElem? (i := 94) rfl)) rfl
set_option maxRecDepth 20000 in
theorem wd_3_95 : Jvm.Cond.selects "ChipMap$Plan" ({ cls := "ChipMap$Plan", name := "addFetch", desc := "(I)V" } : Jvm.MethodName) ({ cls := "ChipMap$Plan", name := "addFetch", desc := "(I)V" } : Jvm.MethodName) ∈ GT := gt_in (in_t3 (List.mem_of_getElem? (i := 95) rfl)) rfl
set_option maxRecDepth 20000 in
theorem wd_3_96 : Jvm.Cond.code ({ cls := "ChipMap$Plan", name := "addFetch", desc := "(I)V" } : Jvm.MethodName) prog_9_method_5_code (2 : Nat) (Option.none : Option Jvm.ClassFile.FieldType) ∈ GT := gt_in (in_t3 (List.mem_of_getElem? (i := 96) rfl)) rfl
set_option maxRecDepth 20000 in
theorem wd_3_97 : Jvm.Cond.methodLink "ChipMap$Checker" (98 : Nat) ({ cls := "ChipMap$Checker", name := "tell", desc := "(II)V" } : Jvm.MethodName) ∈ GT := gt_in (in_t3 (List.mem_of_getElem? (i := 97) rfl)) rfl
set_option maxRecDepth 20000 in
theorem wd_3_99 : Jvm.Cond.instanceMethod ({ cls := "ChipMap$Checker", name := "tell", desc := "(II)V" } : Jvm.MethodName) ∈ GT := gt_in (in_t3 (List.mem_of_getElem? (i := 99) rfl)) rfl
set_option maxRecDepth 20000 in
theorem wd_3_100 : Jvm.Cond.code ({ cls := "ChipMap$Checker", name := "tell", desc := "(II)V" } : Jvm.MethodName) prog_2_method_4_code (3 : Nat) (Option.none : Option Jvm.ClassFile.FieldType) ∈ GT := gt_in (in_t3 (List.mem_of_getElem? (i := 100) rfl)) rfl
set_option maxRecDepth 20000 in
theorem wd_3_109 : Jvm.Cond.methodLink "ChipMap" (266 : Nat) ({ cls := "ChipMap", name := "doStep", desc := "(I)Z" } : Jvm.MethodName) ∈ GT := gt_in (in_t3 (List.mem_of_getElem? (i := 109) rfl)) rfl
set_option maxRecDepth 20000 in
theorem wd_3_111 : Jvm.Cond.instanceMethod ({ cls := "ChipMap", name := "doStep", desc := "(I)Z" } : Jvm.MethodName) ∈ GT := gt_in (in_t3 (List.mem_of_getElem? (i := 111) rfl)) rfl
set_option maxRecDepth 20000 in
theorem wd_3_112 : Jvm.Cond.code ({ cls := "ChipMap", name := "doStep", desc := "(I)Z" } : Jvm.MethodName) prog_1_method_25_code (3 : Nat) (Option.some Jvm.ClassFile.FieldType.boolean) ∈ GT := gt_in (in_t3 (List.mem_of_getElem? (i := 112) rfl)) rfl
set_option maxRecDepth 20000 in
theorem wd_3_113 : Jvm.Cond.methodLink "ChipMap" (202 : Nat) ({ cls := "ChipMap", name := "reachForFetch", desc := "(I)Z" } : Jvm.MethodName) ∈ GT := gt_in (in_t3 (List.mem_of_getElem? (i := 113) rfl)) rfl
set_option maxRecDepth 20000 in
theorem wd_3_115 : Jvm.Cond.instanceMethod ({ cls := "ChipMap", name := "reachForFetch", desc := "(I)Z" } : Jvm.MethodName) ∈ GT := gt_in (in_t3 (List.mem_of_getElem? (i := 115) rfl)) rfl
set_option maxRecDepth 20000 in
theorem wd_3_116 : Jvm.Cond.code ({ cls := "ChipMap", name := "reachForFetch", desc := "(I)Z" } : Jvm.MethodName) prog_1_method_26_code (2 : Nat) (Option.some Jvm.ClassFile.FieldType.boolean) ∈ GT := gt_in (in_t3 (List.mem_of_getElem? (i := 116) rfl)) rfl
set_option maxRecDepth 20000 in
theorem wd_3_117 : Jvm.Cond.methodLink "ChipMap" (283 : Nat) ({ cls := "ChipMap$Plan", name := "addFetch", desc := "(I)V" } : Jvm.MethodName) ∈ GT := gt_in (in_t3 (List.mem_of_getElem? (i := 117) rfl)) rfl
set_option maxRecDepth 20000 in
theorem wd_3_118 : Jvm.Cond.methodLink "ChipMap" (208 : Nat) ({ cls := "ChipMap", name := "readOut", desc := "(I)I" } : Jvm.MethodName) ∈ GT := gt_in (in_t3 (List.mem_of_getElem? (i := 118) rfl)) rfl
set_option maxRecDepth 20000 in
theorem wd_3_120 : Jvm.Cond.instanceMethod ({ cls := "ChipMap", name := "readOut", desc := "(I)I" } : Jvm.MethodName) ∈ GT := gt_in (in_t3 (List.mem_of_getElem? (i := 120) rfl)) rfl
set_option maxRecDepth 20000 in
theorem wd_3_121 : Jvm.Cond.code ({ cls := "ChipMap", name := "readOut", desc := "(I)I" } : Jvm.MethodName) prog_1_method_28_code (5 : Nat) (Option.some Jvm.ClassFile.FieldType.int) ∈ GT := gt_in (in_t3 (List.mem_of_getElem? (i := 121) rfl)) rfl
set_option maxRecDepth 20000 in
theorem wd_3_122 : Jvm.Cond.methodLink "ChipMap" (296 : Nat) ({ cls := "ChipMap$Device", name := "takeKept", desc := "(I)I" } : Jvm.MethodName) ∈ GT := gt_in (in_t3 (List.mem_of_getElem? (i := 122) rfl)) rfl
set_option maxRecDepth 20000 in
theorem wd_3_123 : Jvm.Cond.instanceMethod ({ cls := "ChipMap$Device", name := "takeKept", desc := "(I)I" } : Jvm.MethodName) ∈ GT := gt_in (in_t3 (List.mem_of_getElem? (i := 123) rfl)) rfl
set_option maxRecDepth 20000 in
theorem wd_3_124 : Jvm.Cond.selects "ChipMap$Device" ({ cls := "ChipMap$Device", name := "takeKept", desc := "(I)I" } : Jvm.MethodName) ({ cls := "ChipMap$Device", name := "takeKept", desc := "(I)I" } : Jvm.MethodName) ∈ GT := gt_in (in_t3 (List.mem_of_getElem? (i := 124) rfl)) rfl
set_option maxRecDepth 20000 in
theorem wd_3_125 : Jvm.Cond.code ({ cls := "ChipMap$Device", name := "takeKept", desc := "(I)I" } : Jvm.MethodName) prog_3_method_10_code (4 : Nat) (Option.some Jvm.ClassFile.FieldType.int) ∈ GT := gt_in (in_t3 (List.mem_of_getElem? (i := 125) rfl)) rfl
set_option maxRecDepth 20000 in
theorem wd_3_142 : Jvm.Cond.methodLink "ChipMap$Reader" (27 : Nat) ({ cls := "ChipMap$Draft", name := "clear", desc := "()V" } : Jvm.MethodName) ∈ GT := gt_in (in_t3 (List.mem_of_getElem? (i := 142) rfl)) rfl
set_option maxRecDepth 20000 in
theorem wd_3_143 : Jvm.Cond.instanceMethod ({ cls := "ChipMap$Draft", name := "clear", desc := "()V" } : Jvm.MethodName) ∈ GT := gt_in (in_t3 (List.mem_of_getElem? (i := 143) rfl)) rfl
set_option maxRecDepth 20000 in
theorem wd_3_144 : Jvm.Cond.selects "ChipMap$Draft" ({ cls := "ChipMap$Draft", name := "clear", desc := "()V" } : Jvm.MethodName) ({ cls := "ChipMap$Draft", name := "clear", desc := "()V" } : Jvm.MethodName) ∈ GT := gt_in (in_t3 (List.mem_of_getElem? (i := 144) rfl)) rfl
set_option maxRecDepth 20000 in
theorem wd_3_145 : Jvm.Cond.code ({ cls := "ChipMap$Draft", name := "clear", desc := "()V" } : Jvm.MethodName) prog_4_method_2_code (1 : Nat) (Option.none : Option Jvm.ClassFile.FieldType) ∈ GT := gt_in (in_t3 (List.mem_of_getElem? (i := 145) rfl)) rfl
set_option maxRecDepth 20000 in
theorem wd_3_150 : Jvm.Cond.methodLink "ChipMap$Reader" (42 : Nat) ({ cls := "ChipMap$Reader", name := "next", desc := "()C" } : Jvm.MethodName) ∈ GT := gt_in (in_t3 (List.mem_of_getElem? (i := 150) rfl)) rfl
set_option maxRecDepth 20000 in
theorem wd_3_152 : Jvm.Cond.instanceMethod ({ cls := "ChipMap$Reader", name := "next", desc := "()C" } : Jvm.MethodName) ∈ GT := gt_in (in_t3 (List.mem_of_getElem? (i := 152) rfl)) rfl
set_option maxRecDepth 20000 in
theorem wd_3_153 : Jvm.Cond.code ({ cls := "ChipMap$Reader", name := "next", desc := "()C" } : Jvm.MethodName) prog_10_method_12_code (1 : Nat) (Option.some Jvm.ClassFile.FieldType.char) ∈ GT := gt_in (in_t3 (List.mem_of_getElem? (i := 153) rfl)) rfl
set_option maxRecDepth 20000 in
theorem wd_3_158 : Jvm.Cond.methodLink "ChipMap$Reader" (69 : Nat) ({ cls := "ChipMap$Reader", name := "take", desc := "(C)Z" } : Jvm.MethodName) ∈ GT := gt_in (in_t3 (List.mem_of_getElem? (i := 158) rfl)) rfl
set_option maxRecDepth 20000 in
theorem wd_3_160 : Jvm.Cond.instanceMethod ({ cls := "ChipMap$Reader", name := "take", desc := "(C)Z" } : Jvm.MethodName) ∈ GT := gt_in (in_t3 (List.mem_of_getElem? (i := 160) rfl)) rfl
set_option maxRecDepth 20000 in
theorem wd_3_161 : Jvm.Cond.code ({ cls := "ChipMap$Reader", name := "take", desc := "(C)Z" } : Jvm.MethodName) prog_10_method_13_code (2 : Nat) (Option.some Jvm.ClassFile.FieldType.boolean) ∈ GT := gt_in (in_t3 (List.mem_of_getElem? (i := 161) rfl)) rfl
set_option maxRecDepth 20000 in
theorem wd_3_162 : Jvm.Cond.methodLink "ChipMap$Reader" (76 : Nat) ({ cls := "ChipMap$Reader", name := "number", desc := "(III)I" } : Jvm.MethodName) ∈ GT := gt_in (in_t3 (List.mem_of_getElem? (i := 162) rfl)) rfl
set_option maxRecDepth 20000 in
theorem wd_3_164 : Jvm.Cond.instanceMethod ({ cls := "ChipMap$Reader", name := "number", desc := "(III)I" } : Jvm.MethodName) ∈ GT := gt_in (in_t3 (List.mem_of_getElem? (i := 164) rfl)) rfl
set_option maxRecDepth 20000 in
theorem wd_3_165 : Jvm.Cond.code ({ cls := "ChipMap$Reader", name := "number", desc := "(III)I" } : Jvm.MethodName) prog_10_method_16_code (8 : Nat) (Option.some Jvm.ClassFile.FieldType.int) ∈ GT := gt_in (in_t3 (List.mem_of_getElem? (i := 165) rfl)) rfl
set_option maxRecDepth 20000 in
theorem wd_3_166 : Jvm.Cond.methodLink "ChipMap$Reader" (155 : Nat) ({ cls := "ChipMap$Reader", name := "digitOf", desc := "(C)I" } : Jvm.MethodName) ∈ GT := gt_in (in_t3 (List.mem_of_getElem? (i := 166) rfl)) rfl
set_option maxRecDepth 20000 in
theorem wd_3_167 : Jvm.Cond.static ({ cls := "ChipMap$Reader", name := "digitOf", desc := "(C)I" } : Jvm.MethodName) ∈ GT := gt_in (in_t3 (List.mem_of_getElem? (i := 167) rfl)) rfl
set_option maxRecDepth 20000 in
theorem wd_3_168 : Jvm.Cond.code ({ cls := "ChipMap$Reader", name := "digitOf", desc := "(C)I" } : Jvm.MethodName) prog_10_method_17_code (1 : Nat) (Option.some Jvm.ClassFile.FieldType.int) ∈ GT := gt_in (in_t3 (List.mem_of_getElem? (i := 168) rfl)) rfl
set_option maxRecDepth 20000 in
theorem wd_3_169 : Jvm.Cond.methodLink "ChipMap$Reader" (80 : Nat) ({ cls := "ChipMap$Reader", name := "readBank", desc := "(I)Z" } : Jvm.MethodName) ∈ GT := gt_in (in_t3 (List.mem_of_getElem? (i := 169) rfl)) rfl
set_option maxRecDepth 20000 in
theorem wd_3_171 : Jvm.Cond.instanceMethod ({ cls := "ChipMap$Reader", name := "readBank", desc := "(I)Z" } : Jvm.MethodName) ∈ GT := gt_in (in_t3 (List.mem_of_getElem? (i := 171) rfl)) rfl
set_option maxRecDepth 20000 in
theorem wd_3_172 : Jvm.Cond.code ({ cls := "ChipMap$Reader", name := "readBank", desc := "(I)Z" } : Jvm.MethodName) prog_10_method_8_code (2 : Nat) (Option.some Jvm.ClassFile.FieldType.boolean) ∈ GT := gt_in (in_t3 (List.mem_of_getElem? (i := 172) rfl)) rfl
set_option maxRecDepth 20000 in
theorem wd_3_173 : Jvm.Cond.methodLink "ChipMap$Reader" (92 : Nat) ({ cls := "ChipMap$Reader", name := "name", desc := "()I" } : Jvm.MethodName) ∈ GT := gt_in (in_t3 (List.mem_of_getElem? (i := 173) rfl)) rfl
set_option maxRecDepth 20000 in
theorem wd_3_175 : Jvm.Cond.instanceMethod ({ cls := "ChipMap$Reader", name := "name", desc := "()I" } : Jvm.MethodName) ∈ GT := gt_in (in_t3 (List.mem_of_getElem? (i := 175) rfl)) rfl
set_option maxRecDepth 20000 in
theorem wd_3_176 : Jvm.Cond.code ({ cls := "ChipMap$Reader", name := "name", desc := "()I" } : Jvm.MethodName) prog_10_method_14_code (2 : Nat) (Option.some Jvm.ClassFile.FieldType.int) ∈ GT := gt_in (in_t3 (List.mem_of_getElem? (i := 176) rfl)) rfl
set_option maxRecDepth 20000 in
theorem wd_4_38 : Jvm.Cond.methodLink "ChipMap$Judge" (22 : Nat) ({ cls := "ChipMap$Judge", name := "badField", desc := "()I" } : Jvm.MethodName) ∈ GT := gt_in (in_t4 (List.mem_of_getElem? (i := 38) rfl)) rfl
set_option maxRecDepth 20000 in
theorem wd_4_40 : Jvm.Cond.instanceMethod ({ cls := "ChipMap$Judge", name := "badField", desc := "()I" } : Jvm.MethodName) ∈ GT := gt_in (in_t4 (List.mem_of_getElem? (i := 40) rfl)) rfl
set_option maxRecDepth 20000 in
theorem wd_4_41 : Jvm.Cond.code ({ cls := "ChipMap$Judge", name := "badField", desc := "()I" } : Jvm.MethodName) prog_5_method_3_code (6 : Nat) (Option.some Jvm.ClassFile.FieldType.int) ∈ GT := gt_in (in_t4 (List.mem_of_getElem? (i := 41) rfl)) rfl
set_option maxRecDepth 20000 in
theorem wd_4_42 : Jvm.Cond.methodLink "ChipMap$Judge" (53 : Nat) ({ cls := "ChipMap$Draft", name := "rowOf", desc := "(I)I" } : Jvm.MethodName) ∈ GT := gt_in (in_t4 (List.mem_of_getElem? (i := 42) rfl)) rfl
set_option maxRecDepth 20000 in
theorem wd_4_43 : Jvm.Cond.instanceMethod ({ cls := "ChipMap$Draft", name := "rowOf", desc := "(I)I" } : Jvm.MethodName) ∈ GT := gt_in (in_t4 (List.mem_of_getElem? (i := 43) rfl)) rfl
set_option maxRecDepth 20000 in
theorem wd_4_44 : Jvm.Cond.selects "ChipMap$Draft" ({ cls := "ChipMap$Draft", name := "rowOf", desc := "(I)I" } : Jvm.MethodName) ({ cls := "ChipMap$Draft", name := "rowOf", desc := "(I)I" } : Jvm.MethodName) ∈ GT := gt_in (in_t4 (List.mem_of_getElem? (i := 44) rfl)) rfl
set_option maxRecDepth 20000 in
theorem wd_4_45 : Jvm.Cond.code ({ cls := "ChipMap$Draft", name := "rowOf", desc := "(I)I" } : Jvm.MethodName) prog_4_method_3_code (3 : Nat) (Option.some Jvm.ClassFile.FieldType.int) ∈ GT := gt_in (in_t4 (List.mem_of_getElem? (i := 45) rfl)) rfl
set_option maxRecDepth 20000 in
theorem wd_4_46 : Jvm.Cond.methodLink "ChipMap$Judge" (60 : Nat) ({ cls := "ChipMap$Draft", name := "fits", desc := "(II)Z" } : Jvm.MethodName) ∈ GT := gt_in (in_t4 (List.mem_of_getElem? (i := 46) rfl)) rfl
set_option maxRecDepth 20000 in
theorem wd_4_47 : Jvm.Cond.instanceMethod ({ cls := "ChipMap$Draft", name := "fits", desc := "(II)Z" } : Jvm.MethodName) ∈ GT := gt_in (in_t4 (List.mem_of_getElem? (i := 47) rfl)) rfl
set_option maxRecDepth 20000 in
theorem wd_4_48 : Jvm.Cond.selects "ChipMap$Draft" ({ cls := "ChipMap$Draft", name := "fits", desc := "(II)Z" } : Jvm.MethodName) ({ cls := "ChipMap$Draft", name := "fits", desc := "(II)Z" } : Jvm.MethodName) ∈ GT := gt_in (in_t4 (List.mem_of_getElem? (i := 48) rfl)) rfl
set_option maxRecDepth 20000 in
theorem wd_4_49 : Jvm.Cond.code ({ cls := "ChipMap$Draft", name := "fits", desc := "(II)Z" } : Jvm.MethodName) prog_4_method_4_code (3 : Nat) (Option.some Jvm.ClassFile.FieldType.boolean) ∈ GT := gt_in (in_t4 (List.mem_of_getElem? (i := 49) rfl)) rfl
set_option maxRecDepth 20000 in
theorem wd_4_50 : Jvm.Cond.methodLink "ChipMap$Judge" (26 : Nat) ({ cls := "ChipMap$Judge", name := "badBank", desc := "()I" } : Jvm.MethodName) ∈ GT := gt_in (in_t4 (List.mem_of_getElem? (i := 50) rfl)) rfl
set_option maxRecDepth 20000 in
theorem wd_4_52 : Jvm.Cond.instanceMethod ({ cls := "ChipMap$Judge", name := "badBank", desc := "()I" } : Jvm.MethodName) ∈ GT := gt_in (in_t4 (List.mem_of_getElem? (i := 52) rfl)) rfl
set_option maxRecDepth 20000 in
theorem wd_4_53 : Jvm.Cond.code ({ cls := "ChipMap$Judge", name := "badBank", desc := "()I" } : Jvm.MethodName) prog_5_method_4_code (2 : Nat) (Option.some Jvm.ClassFile.FieldType.int) ∈ GT := gt_in (in_t4 (List.mem_of_getElem? (i := 53) rfl)) rfl
set_option maxRecDepth 20000 in
theorem wd_4_54 : Jvm.Cond.methodLink "ChipMap$Judge" (75 : Nat) ({ cls := "ChipMap$Judge", name := "canBeBank", desc := "(II)Z" } : Jvm.MethodName) ∈ GT := gt_in (in_t4 (List.mem_of_getElem? (i := 54) rfl)) rfl
set_option maxRecDepth 20000 in
theorem wd_4_56 : Jvm.Cond.instanceMethod ({ cls := "ChipMap$Judge", name := "canBeBank", desc := "(II)Z" } : Jvm.MethodName) ∈ GT := gt_in (in_t4 (List.mem_of_getElem? (i := 56) rfl)) rfl
set_option maxRecDepth 20000 in
theorem wd_4_57 : Jvm.Cond.code ({ cls := "ChipMap$Judge", name := "canBeBank", desc := "(II)Z" } : Jvm.MethodName) prog_5_method_5_code (3 : Nat) (Option.some Jvm.ClassFile.FieldType.boolean) ∈ GT := gt_in (in_t4 (List.mem_of_getElem? (i := 57) rfl)) rfl
set_option maxRecDepth 20000 in
theorem wd_4_58 : Jvm.Cond.methodLink "ChipMap$Judge" (29 : Nat) ({ cls := "ChipMap$Judge", name := "badOffset", desc := "()I" } : Jvm.MethodName) ∈ GT := gt_in (in_t4 (List.mem_of_getElem? (i := 58) rfl)) rfl
set_option maxRecDepth 20000 in
theorem wd_4_60 : Jvm.Cond.instanceMethod ({ cls := "ChipMap$Judge", name := "badOffset", desc := "()I" } : Jvm.MethodName) ∈ GT := gt_in (in_t4 (List.mem_of_getElem? (i := 60) rfl)) rfl
set_option maxRecDepth 20000 in
theorem wd_4_61 : Jvm.Cond.code ({ cls := "ChipMap$Judge", name := "badOffset", desc := "()I" } : Jvm.MethodName) prog_5_method_6_code (3 : Nat) (Option.some Jvm.ClassFile.FieldType.int) ∈ GT := gt_in (in_t4 (List.mem_of_getElem? (i := 61) rfl)) rfl
set_option maxRecDepth 20000 in
theorem wd_4_62 : Jvm.Cond.methodLink "ChipMap$Judge" (87 : Nat) ({ cls := "ChipMap$Judge", name := "areApart", desc := "(II)Z" } : Jvm.MethodName) ∈ GT := gt_in (in_t4 (List.mem_of_getElem? (i := 62) rfl)) rfl
set_option maxRecDepth 20000 in
theorem wd_4_64 : Jvm.Cond.instanceMethod ({ cls := "ChipMap$Judge", name := "areApart", desc := "(II)Z" } : Jvm.MethodName) ∈ GT := gt_in (in_t4 (List.mem_of_getElem? (i := 64) rfl)) rfl
set_option maxRecDepth 20000 in
theorem wd_4_65 : Jvm.Cond.code ({ cls := "ChipMap$Judge", name := "areApart", desc := "(II)Z" } : Jvm.MethodName) prog_5_method_7_code (3 : Nat) (Option.some Jvm.ClassFile.FieldType.boolean) ∈ GT := gt_in (in_t4 (List.mem_of_getElem? (i := 65) rfl)) rfl
set_option maxRecDepth 20000 in
theorem wd_4_66 : Jvm.Cond.methodLink "ChipMap$Judge" (32 : Nat) ({ cls := "ChipMap$Judge", name := "badRule", desc := "()I" } : Jvm.MethodName) ∈ GT := gt_in (in_t4 (List.mem_of_getElem? (i := 66) rfl)) rfl
set_option maxRecDepth 20000 in
theorem wd_4_68 : Jvm.Cond.instanceMethod ({ cls := "ChipMap$Judge", name := "badRule", desc := "()I" } : Jvm.MethodName) ∈ GT := gt_in (in_t4 (List.mem_of_getElem? (i := 68) rfl)) rfl
set_option maxRecDepth 20000 in
theorem wd_4_69 : Jvm.Cond.code ({ cls := "ChipMap$Judge", name := "badRule", desc := "()I" } : Jvm.MethodName) prog_5_method_8_code (5 : Nat) (Option.some Jvm.ClassFile.FieldType.int) ∈ GT := gt_in (in_t4 (List.mem_of_getElem? (i := 69) rfl)) rfl
set_option maxRecDepth 20000 in
theorem wd_4_70 : Jvm.Cond.methodLink "ChipMap$Judge" (105 : Nat) ({ cls := "ChipMap$Judge", name := "isWritable", desc := "(I)Z" } : Jvm.MethodName) ∈ GT := gt_in (in_t4 (List.mem_of_getElem? (i := 70) rfl)) rfl
set_option maxRecDepth 20000 in
theorem wd_4_72 : Jvm.Cond.instanceMethod ({ cls := "ChipMap$Judge", name := "isWritable", desc := "(I)Z" } : Jvm.MethodName) ∈ GT := gt_in (in_t4 (List.mem_of_getElem? (i := 72) rfl)) rfl
set_option maxRecDepth 20000 in
theorem wd_4_73 : Jvm.Cond.code ({ cls := "ChipMap$Judge", name := "isWritable", desc := "(I)Z" } : Jvm.MethodName) prog_5_method_9_code (2 : Nat) (Option.some Jvm.ClassFile.FieldType.boolean) ∈ GT := gt_in (in_t4 (List.mem_of_getElem? (i := 73) rfl)) rfl
set_option maxRecDepth 20000 in
theorem wd_4_74 : Jvm.Cond.methodLink "ChipMap$Judge" (117 : Nat) ({ cls := "ChipMap$Judge", name := "isKnown", desc := "(I)Z" } : Jvm.MethodName) ∈ GT := gt_in (in_t4 (List.mem_of_getElem? (i := 74) rfl)) rfl
set_option maxRecDepth 20000 in
theorem wd_4_76 : Jvm.Cond.instanceMethod ({ cls := "ChipMap$Judge", name := "isKnown", desc := "(I)Z" } : Jvm.MethodName) ∈ GT := gt_in (in_t4 (List.mem_of_getElem? (i := 76) rfl)) rfl
set_option maxRecDepth 20000 in
theorem wd_4_77 : Jvm.Cond.code ({ cls := "ChipMap$Judge", name := "isKnown", desc := "(I)Z" } : Jvm.MethodName) prog_5_method_10_code (2 : Nat) (Option.some Jvm.ClassFile.FieldType.boolean) ∈ GT := gt_in (in_t4 (List.mem_of_getElem? (i := 77) rfl)) rfl
set_option maxRecDepth 20000 in
theorem wd_4_201 : Jvm.Cond.fieldLink "ChipMapModel" (161 : Nat) "ChipMapModel" "thrown" "I" ∈ GT := gt_in (in_t4 (List.mem_of_getElem? (i := 201) rfl)) rfl
set_option maxRecDepth 20000 in
theorem wd_4_202 : Jvm.Cond.fieldLink "ChipMapModel" (7 : Nat) "ChipMapModel" "tape" "[I" ∈ GT := gt_in (in_t4 (List.mem_of_getElem? (i := 202) rfl)) rfl
set_option maxRecDepth 20000 in
theorem wd_4_203 : Jvm.Cond.fieldLink "ChipMapModel" (165 : Nat) "ChipMapModel" "taped" "I" ∈ GT := gt_in (in_t4 (List.mem_of_getElem? (i := 203) rfl)) rfl
set_option maxRecDepth 20000 in
theorem wd_4_204 : Jvm.Cond.fieldLink "ChipMapModel" (170 : Nat) "ChipMapModel" "at" "I" ∈ GT := gt_in (in_t4 (List.mem_of_getElem? (i := 204) rfl)) rfl
set_option maxRecDepth 20000 in
theorem wd_4_205 : Jvm.Cond.fieldLink "ChipMapModel" (173 : Nat) "ChipMapModel" "fault" "I" ∈ GT := gt_in (in_t4 (List.mem_of_getElem? (i := 205) rfl)) rfl
set_option maxRecDepth 20000 in
theorem wd_4_206 : Jvm.Cond.fieldLink "ChipMapModel" (176 : Nat) "ChipMapModel" "faultPlace" "I" ∈ GT := gt_in (in_t4 (List.mem_of_getElem? (i := 206) rfl)) rfl
set_option maxRecDepth 20000 in
theorem wd_4_207 : Jvm.Cond.fieldLink "ChipMapModel" (201 : Nat) "ChipMapModel" "readRegisters" "I" ∈ GT := gt_in (in_t4 (List.mem_of_getElem? (i := 207) rfl)) rfl
set_option maxRecDepth 20000 in
theorem wd_4_208 : Jvm.Cond.fieldLink "ChipMapModel" (13 : Nat) "ChipMapModel" "readOffset" "[I" ∈ GT := gt_in (in_t4 (List.mem_of_getElem? (i := 208) rfl)) rfl
set_option maxRecDepth 20000 in
theorem wd_4_209 : Jvm.Cond.fieldLink "ChipMapModel" (16 : Nat) "ChipMapModel" "readBank" "[I" ∈ GT := gt_in (in_t4 (List.mem_of_getElem? (i := 209) rfl)) rfl
set_option maxRecDepth 20000 in
theorem wd_4_210 : Jvm.Cond.fieldLink "ChipMapModel" (19 : Nat) "ChipMapModel" "readDigit" "[I" ∈ GT := gt_in (in_t4 (List.mem_of_getElem? (i := 210) rfl)) rfl
set_option maxRecDepth 20000 in
theorem wd_4_211 : Jvm.Cond.fieldLink "ChipMapModel" (22 : Nat) "ChipMapModel" "registerPlace" "[I" ∈ GT := gt_in (in_t4 (List.mem_of_getElem? (i := 211) rfl)) rfl
set_option maxRecDepth 20000 in
theorem wd_4_212 : Jvm.Cond.fieldLink "ChipMapModel" (25 : Nat) "ChipMapModel" "bankPlace" "[I" ∈ GT := gt_in (in_t4 (List.mem_of_getElem? (i := 212) rfl)) rfl
set_option maxRecDepth 20000 in
theorem wd_4_213 : Jvm.Cond.fieldLink "ChipMapModel" (198 : Nat) "ChipMapModel" "readFields" "I" ∈ GT := gt_in (in_t4 (List.mem_of_getElem? (i := 213) rfl)) rfl
set_option maxRecDepth 20000 in
theorem wd_4_214 : Jvm.Cond.fieldLink "ChipMapModel" (28 : Nat) "ChipMapModel" "readName" "[I" ∈ GT := gt_in (in_t4 (List.mem_of_getElem? (i := 214) rfl)) rfl
set_option maxRecDepth 20000 in
theorem wd_4_215 : Jvm.Cond.fieldLink "ChipMapModel" (31 : Nat) "ChipMapModel" "readAccess" "[I" ∈ GT := gt_in (in_t4 (List.mem_of_getElem? (i := 215) rfl)) rfl
set_option maxRecDepth 20000 in
theorem wd_4_216 : Jvm.Cond.fieldLink "ChipMapModel" (34 : Nat) "ChipMapModel" "readHigh" "[I" ∈ GT := gt_in (in_t4 (List.mem_of_getElem? (i := 216) rfl)) rfl
set_option maxRecDepth 20000 in
theorem wd_4_217 : Jvm.Cond.fieldLink "ChipMapModel" (37 : Nat) "ChipMapModel" "readLow" "[I" ∈ GT := gt_in (in_t4 (List.mem_of_getElem? (i := 217) rfl)) rfl
set_option maxRecDepth 20000 in
theorem wd_4_218 : Jvm.Cond.fieldLink "ChipMapModel" (40 : Nat) "ChipMapModel" "readValue" "[I" ∈ GT := gt_in (in_t4 (List.mem_of_getElem? (i := 218) rfl)) rfl
set_option maxRecDepth 20000 in
theorem wd_4_219 : Jvm.Cond.fieldLink "ChipMapModel" (43 : Nat) "ChipMapModel" "readIn" "[I" ∈ GT := gt_in (in_t4 (List.mem_of_getElem? (i := 219) rfl)) rfl
set_option maxRecDepth 20000 in
theorem wd_4_220 : Jvm.Cond.fieldLink "ChipMapModel" (46 : Nat) "ChipMapModel" "fieldPlace" "[I" ∈ GT := gt_in (in_t4 (List.mem_of_getElem? (i := 220) rfl)) rfl
set_option maxRecDepth 20000 in
theorem wd_4_221 : Jvm.Cond.fieldLink "ChipMapModel" (223 : Nat) "ChipMapModel" "readRules" "I" ∈ GT := gt_in (in_t4 (List.mem_of_getElem? (i := 221) rfl)) rfl
set_option maxRecDepth 20000 in
theorem wd_4_222 : Jvm.Cond.fieldLink "ChipMapModel" (49 : Nat) "ChipMapModel" "ruleSign" "[I" ∈ GT := gt_in (in_t4 (List.mem_of_getElem? (i := 222) rfl)) rfl
set_option maxRecDepth 20000 in
theorem wd_4_223 : Jvm.Cond.fieldLink "ChipMapModel" (52 : Nat) "ChipMapModel" "ruleA" "[I" ∈ GT := gt_in (in_t4 (List.mem_of_getElem? (i := 223) rfl)) rfl
set_option maxRecDepth 20000 in
theorem wd_4_224 : Jvm.Cond.fieldLink "ChipMapModel" (55 : Nat) "ChipMapModel" "ruleB" "[I" ∈ GT := gt_in (in_t4 (List.mem_of_getElem? (i := 224) rfl)) rfl
set_option maxRecDepth 20000 in
theorem wd_4_225 : Jvm.Cond.fieldLink "ChipMapModel" (58 : Nat) "ChipMapModel" "ruleValue" "[I" ∈ GT := gt_in (in_t4 (List.mem_of_getElem? (i := 225) rfl)) rfl
set_option maxRecDepth 20000 in
theorem wd_4_226 : Jvm.Cond.fieldLink "ChipMapModel" (61 : Nat) "ChipMapModel" "placeA" "[I" ∈ GT := gt_in (in_t4 (List.mem_of_getElem? (i := 226) rfl)) rfl
set_option maxRecDepth 20000 in
theorem wd_4_227 : Jvm.Cond.fieldLink "ChipMapModel" (64 : Nat) "ChipMapModel" "placeB" "[I" ∈ GT := gt_in (in_t4 (List.mem_of_getElem? (i := 227) rfl)) rfl
set_option maxRecDepth 20000 in
theorem wd_4_228 : Jvm.Cond.fieldLink "ChipMapModel" (257 : Nat) "ChipMapModel" "mapped" "Z" ∈ GT := gt_in (in_t4 (List.mem_of_getElem? (i := 228) rfl)) rfl
set_option maxRecDepth 20000 in
theorem wd_4_229 : Jvm.Cond.fieldLink "ChipMapModel" (261 : Nat) "ChipMapModel" "registers" "I" ∈ GT := gt_in (in_t4 (List.mem_of_getElem? (i := 229) rfl)) rfl
set_option maxRecDepth 20000 in
theorem wd_4_230 : Jvm.Cond.fieldLink "ChipMapModel" (67 : Nat) "ChipMapModel" "offset" "[I" ∈ GT := gt_in (in_t4 (List.mem_of_getElem? (i := 230) rfl)) rfl
set_option maxRecDepth 20000 in
theorem wd_4_231 : Jvm.Cond.fieldLink "ChipMapModel" (70 : Nat) "ChipMapModel" "bank" "[I" ∈ GT := gt_in (in_t4 (List.mem_of_getElem? (i := 231) rfl)) rfl
set_option maxRecDepth 20000 in
theorem wd_4_232 : Jvm.Cond.fieldLink "ChipMapModel" (73 : Nat) "ChipMapModel" "digit" "[I" ∈ GT := gt_in (in_t4 (List.mem_of_getElem? (i := 232) rfl)) rfl
set_option maxRecDepth 20000 in
theorem wd_4_233 : Jvm.Cond.fieldLink "ChipMapModel" (76 : Nat) "ChipMapModel" "there" "[Z" ∈ GT := gt_in (in_t4 (List.mem_of_getElem? (i := 233) rfl)) rfl
set_option maxRecDepth 20000 in
theorem wd_4_234 : Jvm.Cond.fieldLink "ChipMapModel" (80 : Nat) "ChipMapModel" "access" "[I" ∈ GT := gt_in (in_t4 (List.mem_of_getElem? (i := 234) rfl)) rfl
set_option maxRecDepth 20000 in
theorem wd_4_235 : Jvm.Cond.fieldLink "ChipMapModel" (83 : Nat) "ChipMapModel" "in" "[I" ∈ GT := gt_in (in_t4 (List.mem_of_getElem? (i := 235) rfl)) rfl
set_option maxRecDepth 20000 in
theorem wd_4_236 : Jvm.Cond.fieldLink "ChipMapModel" (86 : Nat) "ChipMapModel" "low" "[I" ∈ GT := gt_in (in_t4 (List.mem_of_getElem? (i := 236) rfl)) rfl
set_option maxRecDepth 20000 in
theorem wd_4_237 : Jvm.Cond.fieldLink "ChipMapModel" (89 : Nat) "ChipMapModel" "bits" "[I" ∈ GT := gt_in (in_t4 (List.mem_of_getElem? (i := 237) rfl)) rfl
set_option maxRecDepth 20000 in
theorem wd_4_238 : Jvm.Cond.fieldLink "ChipMapModel" (92 : Nat) "ChipMapModel" "first" "[I" ∈ GT := gt_in (in_t4 (List.mem_of_getElem? (i := 238) rfl)) rfl
set_option maxRecDepth 20000 in
theorem wd_4_239 : Jvm.Cond.fieldLink "ChipMapModel" (264 : Nat) "ChipMapModel" "rules" "I" ∈ GT := gt_in (in_t4 (List.mem_of_getElem? (i := 239) rfl)) rfl
set_option maxRecDepth 20000 in
theorem wd_5_0 : Jvm.Cond.fieldLink "ChipMapModel" (95 : Nat) "ChipMapModel" "sign" "[I" ∈ GT := gt_in (in_t5 (List.mem_of_getElem? (i := 0) rfl)) rfl
set_option maxRecDepth 20000 in
theorem wd_5_1 : Jvm.Cond.fieldLink "ChipMapModel" (98 : Nat) "ChipMapModel" "a" "[I" ∈ GT := gt_in (in_t5 (List.mem_of_getElem? (i := 1) rfl)) rfl
