theorem dL_law_0 : decode cL_law 0 = .ok (.new 8, 3) := by decide +kernel
theorem dL_law_3 : decode cL_law 3 = .ok (.dup, 1) := by decide +kernel
theorem dL_law_4 : decode cL_law 4 = .ok (.invokespecial 23, 3) := by decide +kernel
theorem dL_law_7 : decode cL_law 7 = .ok (.astore_n 1, 1) := by decide +kernel
theorem dL_law_8 : decode cL_law 8 = .ok (.new 24, 3) := by decide +kernel
theorem dL_law_11 : decode cL_law 11 = .ok (.dup, 1) := by decide +kernel
theorem dL_law_12 : decode cL_law 12 = .ok (.invokespecial 26, 3) := by decide +kernel
theorem dL_law_15 : decode cL_law 15 = .ok (.astore_n 2, 1) := by decide +kernel
theorem dL_law_16 : decode cL_law 16 = .ok (.iconst 1, 1) := by decide +kernel
theorem dL_law_17 : decode cL_law 17 = .ok (.newarray .long, 2) := by decide +kernel
theorem dL_law_19 : decode cL_law 19 = .ok (.astore_n 3, 1) := by decide +kernel
theorem dL_law_20 : decode cL_law 20 = .ok (.iconst 0, 1) := by decide +kernel
theorem dL_law_21 : decode cL_law 21 = .ok (.istore 4, 2) := by decide +kernel
set_option maxRecDepth 20000 in
theorem wd_0_29 : Jvm.Cond.classLink "ChipMapLaw" (8 : Nat) "ChipMap" ∈ GT := gt_in (in_t0 (List.mem_of_getElem? (i := 29) rfl)) rfl
set_option maxRecDepth 20000 in
theorem wd_0_30 : Jvm.Cond.instantiable "ChipMap" (9 : Nat) ∈ GT := gt_in (in_t0 (List.mem_of_getElem? (i := 30) rfl)) rfl
set_option maxRecDepth 20000 in
theorem wd_0_31 : Jvm.Cond.methodLink "ChipMapLaw" (23 : Nat) ({ cls := "ChipMap", name := "<init>", desc := "()V" } : Jvm.MethodName) ∈ GT := gt_in (in_t0 (List.mem_of_getElem? (i := 31) rfl)) rfl
set_option maxRecDepth 20000 in
theorem wd_0_32 : Jvm.Cond.instanceMethod ({ cls := "ChipMap", name := "<init>", desc := "()V" } : Jvm.MethodName) ∈ GT := gt_in (in_t0 (List.mem_of_getElem? (i := 32) rfl)) rfl
set_option maxRecDepth 20000 in
theorem wd_0_33 : Jvm.Cond.code ({ cls := "ChipMap", name := "<init>", desc := "()V" } : Jvm.MethodName) prog_1_method_1_code (1 : Nat) (Option.none : Option Jvm.ClassFile.FieldType) ∈ GT := gt_in (in_t0 (List.mem_of_getElem? (i := 33) rfl)) rfl
set_option maxRecDepth 20000 in
theorem wd_4_195 : Jvm.Cond.classLink "ChipMapLaw" (24 : Nat) "ChipMapModel" ∈ GT := gt_in (in_t4 (List.mem_of_getElem? (i := 195) rfl)) rfl
set_option maxRecDepth 20000 in
theorem wd_4_196 : Jvm.Cond.instantiable "ChipMapModel" (76 : Nat) ∈ GT := gt_in (in_t4 (List.mem_of_getElem? (i := 196) rfl)) rfl
set_option maxRecDepth 20000 in
theorem wd_4_197 : Jvm.Cond.methodLink "ChipMapLaw" (26 : Nat) ({ cls := "ChipMapModel", name := "<init>", desc := "()V" } : Jvm.MethodName) ∈ GT := gt_in (in_t4 (List.mem_of_getElem? (i := 197) rfl)) rfl
set_option maxRecDepth 20000 in
theorem wd_4_198 : Jvm.Cond.instanceMethod ({ cls := "ChipMapModel", name := "<init>", desc := "()V" } : Jvm.MethodName) ∈ GT := gt_in (in_t4 (List.mem_of_getElem? (i := 198) rfl)) rfl
set_option maxRecDepth 20000 in
theorem wd_4_199 : Jvm.Cond.code ({ cls := "ChipMapModel", name := "<init>", desc := "()V" } : Jvm.MethodName) prog_14_method_1_code (1 : Nat) (Option.none : Option Jvm.ClassFile.FieldType) ∈ GT := gt_in (in_t4 (List.mem_of_getElem? (i := 199) rfl)) rfl
