abbrev cL_compile : ByteArray := method_3_code
def yL_compile : MethodName := ⟨"ChipMapLaw", "compile", "(LChipMap;[J)I"⟩
def wsL_compile : List Cond := Cond.code yL_compile cL_compile 3 (some .int) :: GT
abbrev cL_fetch : ByteArray := method_4_code
def yL_fetch : MethodName := ⟨"ChipMapLaw", "fetch", "(LChipMap;I[J)I"⟩
def wsL_fetch : List Cond := Cond.code yL_fetch cL_fetch 4 (some .int) :: GT
abbrev cX11_compile : ByteArray := prog_1_method_3_code
def yX11_compile : MethodName := ⟨"ChipMap", "compile", "()I"⟩
def wsX11_compile : List Cond := Cond.code yX11_compile cX11_compile 2 (some .int) :: GT
abbrev cX11_fetch : ByteArray := prog_1_method_11_code
def yX11_fetch : MethodName := ⟨"ChipMap", "fetch", "(I)I"⟩
def wsX11_fetch : List Cond := Cond.code yX11_fetch cX11_fetch 2 (some .int) :: GT
theorem dL_compile_0 : decode cL_compile 0 = .ok (.aload_n 1, 1) := by decide +kernel
theorem dL_compile_1 : decode cL_compile 1 = .ok (.iconst 0, 1) := by decide +kernel
theorem dL_compile_2 : decode cL_compile 2 = .ok (.aload_n 0, 1) := by decide +kernel
theorem dL_compile_3 : decode cL_compile 3 = .ok (.invokevirtual 7, 3) := by decide +kernel
theorem dL_compile_11 : decode cL_compile 11 = .ok (.astore_n 2, 1) := by decide +kernel
theorem dL_compile_12 : decode cL_compile 12 = .ok (.iconst 1, 1) := by decide +kernel
theorem dL_compile_13 : decode cL_compile 13 = .ok (.ireturn, 1) := by decide +kernel
theorem dL_fetch_0 : decode cL_fetch 0 = .ok (.aload_n 2, 1) := by decide +kernel
theorem dL_fetch_1 : decode cL_fetch 1 = .ok (.iconst 0, 1) := by decide +kernel
theorem dL_fetch_2 : decode cL_fetch 2 = .ok (.aload_n 0, 1) := by decide +kernel
theorem dL_fetch_3 : decode cL_fetch 3 = .ok (.iload_n 1, 1) := by decide +kernel
theorem dL_fetch_4 : decode cL_fetch 4 = .ok (.invokevirtual 15, 3) := by decide +kernel
theorem dL_fetch_12 : decode cL_fetch 12 = .ok (.astore_n 3, 1) := by decide +kernel
theorem dL_fetch_13 : decode cL_fetch 13 = .ok (.iconst 1, 1) := by decide +kernel
theorem dL_fetch_14 : decode cL_fetch 14 = .ok (.ireturn, 1) := by decide +kernel
theorem dL_law_0 : decode cL_law 0 = .ok (.new 8, 3) := by decide +kernel
theorem dL_law_3 : decode cL_law 3 = .ok (.dup, 1) := by decide +kernel
theorem dL_law_4 : decode cL_law 4 = .ok (.invokespecial 23, 3) := by decide +kernel
theorem dL_law_7 : decode cL_law 7 = .ok (.astore_n 1, 1) := by decide +kernel
theorem dL_law_8 : decode cL_law 8 = .ok (.new 24, 3) := by decide +kernel
theorem dL_law_11 : decode cL_law 11 = .ok (.dup, 1) := by decide +kernel
theorem dL_law_12 : decode cL_law 12 = .ok (.invokespecial 26, 3) := by decide +kernel
theorem dL_law_15 : decode cL_law 15 = .ok (.astore_n 2, 1) := by decide +kernel
theorem dL_law_16 : decode cL_law 16 = .ok (.iconst 1, 1) := by decide +kernel
theorem dL_law_17 : decode cL_law 17 = .ok (.newarray .long, 2) := by decide +kernel
theorem dL_law_19 : decode cL_law 19 = .ok (.astore_n 3, 1) := by decide +kernel
theorem dL_law_20 : decode cL_law 20 = .ok (.iconst 0, 1) := by decide +kernel
theorem dL_law_21 : decode cL_law 21 = .ok (.istore 4, 2) := by decide +kernel
theorem dL_law_23 : decode cL_law 23 = .ok (.iload 4, 2) := by decide +kernel
theorem dL_law_25 : decode cL_law 25 = .ok (.aload_n 0, 1) := by decide +kernel
theorem dL_law_26 : decode cL_law 26 = .ok (.arraylength, 1) := by decide +kernel
theorem dL_law_27 : decode cL_law 27 = .ok (.iconst 4, 1) := by decide +kernel
theorem dL_law_28 : decode cL_law 28 = .ok (.isub, 1) := by decide +kernel
theorem dL_law_29 : decode cL_law 29 = .ok (.if_icmp .gt 739, 3) := by decide +kernel
theorem dL_law_32 : decode cL_law 32 = .ok (.aload_n 0, 1) := by decide +kernel
theorem dL_law_33 : decode cL_law 33 = .ok (.iload 4, 2) := by decide +kernel
theorem dL_law_35 : decode cL_law 35 = .ok (.iaload, 1) := by decide +kernel
theorem dL_law_36 : decode cL_law 36 = .ok (.bipush 31, 2) := by decide +kernel
theorem dL_law_38 : decode cL_law 38 = .ok (.iand, 1) := by decide +kernel
theorem dL_law_39 : decode cL_law 39 = .ok (.tableswitch 723 0 19 #[93, 162, 206, 231, 268, 281, 318, 343, 380, 417, 473, 510, 523, 536, 573, 622, 635, 648, 673, 698], 93) := by decide +kernel
theorem dL_law_201 : decode cL_law 201 = .ok (.aload_n 1, 1) := by decide +kernel
theorem dL_law_202 : decode cL_law 202 = .ok (.aload_n 3, 1) := by decide +kernel
theorem dL_law_203 : decode cL_law 203 = .ok (.invokestatic 34, 3) := by decide +kernel
theorem dL_law_206 : decode cL_law 206 = .ok (.istore 5, 2) := by decide +kernel
theorem dL_law_208 : decode cL_law 208 = .ok (.aload_n 2, 1) := by decide +kernel
theorem dL_law_209 : decode cL_law 209 = .ok (.invokevirtual 39, 3) := by decide +kernel
theorem dL_law_212 : decode cL_law 212 = .ok (.istore 6, 2) := by decide +kernel
theorem dL_law_214 : decode cL_law 214 = .ok (.aload_n 2, 1) := by decide +kernel
theorem dL_law_215 : decode cL_law 215 = .ok (.invokevirtual 40, 3) := by decide +kernel
theorem dL_law_218 : decode cL_law 218 = .ok (.iload 5, 2) := by decide +kernel
theorem dL_law_220 : decode cL_law 220 = .ok (.if_icmp .eq 5, 3) := by decide +kernel
theorem dL_law_225 : decode cL_law 225 = .ok (.iload 5, 2) := by decide +kernel
theorem dL_law_227 : decode cL_law 227 = .ok (.ifCond .ne 15, 3) := by decide +kernel
theorem dL_law_242 : decode cL_law 242 = .ok (.goto 520, 3) := by decide +kernel
theorem dL_law_456 : decode cL_law 456 = .ok (.aload_n 1, 1) := by decide +kernel
theorem dL_law_457 : decode cL_law 457 = .ok (.aload_n 0, 1) := by decide +kernel
theorem dL_law_458 : decode cL_law 458 = .ok (.iload 4, 2) := by decide +kernel
theorem dL_law_460 : decode cL_law 460 = .ok (.iconst 1, 1) := by decide +kernel
theorem dL_law_461 : decode cL_law 461 = .ok (.iadd, 1) := by decide +kernel
theorem dL_law_462 : decode cL_law 462 = .ok (.iaload, 1) := by decide +kernel
theorem dL_law_463 : decode cL_law 463 = .ok (.aload_n 3, 1) := by decide +kernel
theorem dL_law_464 : decode cL_law 464 = .ok (.invokestatic 74, 3) := by decide +kernel
theorem dL_law_467 : decode cL_law 467 = .ok (.istore 5, 2) := by decide +kernel
theorem dL_law_469 : decode cL_law 469 = .ok (.aload_n 2, 1) := by decide +kernel
theorem dL_law_470 : decode cL_law 470 = .ok (.aload_n 0, 1) := by decide +kernel
theorem dL_law_471 : decode cL_law 471 = .ok (.iload 4, 2) := by decide +kernel
theorem dL_law_473 : decode cL_law 473 = .ok (.iconst 1, 1) := by decide +kernel
theorem dL_law_474 : decode cL_law 474 = .ok (.iadd, 1) := by decide +kernel
theorem dL_law_475 : decode cL_law 475 = .ok (.iaload, 1) := by decide +kernel
theorem dL_law_476 : decode cL_law 476 = .ok (.invokevirtual 77, 3) := by decide +kernel
theorem dL_law_479 : decode cL_law 479 = .ok (.istore 6, 2) := by decide +kernel
theorem dL_law_481 : decode cL_law 481 = .ok (.aload_n 2, 1) := by decide +kernel
theorem dL_law_482 : decode cL_law 482 = .ok (.invokevirtual 40, 3) := by decide +kernel
theorem dL_law_485 : decode cL_law 485 = .ok (.iload 5, 2) := by decide +kernel
theorem dL_law_487 : decode cL_law 487 = .ok (.if_icmp .eq 5, 3) := by decide +kernel
theorem dL_law_492 : decode cL_law 492 = .ok (.iload 5, 2) := by decide +kernel
theorem dL_law_494 : decode cL_law 494 = .ok (.ifCond .ne 15, 3) := by decide +kernel
theorem dL_law_509 : decode cL_law 509 = .ok (.goto 253, 3) := by decide +kernel
theorem dL_law_762 : decode cL_law 762 = .ok (.iinc 4 4, 3) := by decide +kernel
theorem dL_law_765 : decode cL_law 765 = .ok (.goto (-742), 3) := by decide +kernel
theorem dL_law_768 : decode cL_law 768 = .ok (.iconst 1, 1) := by decide +kernel
theorem dL_law_769 : decode cL_law 769 = .ok (.ireturn, 1) := by decide +kernel
theorem dX11_compile_0 : decode cX11_compile 0 = .ok (.aload_n 0, 1) := by decide +kernel
theorem dX11_compile_1 : decode cX11_compile 1 = .ok (.getfield 21, 3) := by decide +kernel
theorem dX11_compile_4 : decode cX11_compile 4 = .ok (.invokevirtual 80, 3) := by decide +kernel
theorem dX11_compile_7 : decode cX11_compile 7 = .ok (.istore_n 1, 1) := by decide +kernel
theorem dX11_compile_8 : decode cX11_compile 8 = .ok (.aload_n 0, 1) := by decide +kernel
theorem dX11_compile_9 : decode cX11_compile 9 = .ok (.getfield 28, 3) := by decide +kernel
theorem dX11_compile_12 : decode cX11_compile 12 = .ok (.iload_n 1, 1) := by decide +kernel
theorem dX11_compile_13 : decode cX11_compile 13 = .ok (.aload_n 0, 1) := by decide +kernel
theorem dX11_compile_14 : decode cX11_compile 14 = .ok (.getfield 21, 3) := by decide +kernel
theorem dX11_compile_17 : decode cX11_compile 17 = .ok (.getfield 84, 3) := by decide +kernel
theorem dX11_compile_20 : decode cX11_compile 20 = .ok (.invokevirtual 88, 3) := by decide +kernel
theorem dX11_compile_23 : decode cX11_compile 23 = .ok (.aload_n 0, 1) := by decide +kernel
theorem dX11_compile_24 : decode cX11_compile 24 = .ok (.getfield 28, 3) := by decide +kernel
theorem dX11_compile_27 : decode cX11_compile 27 = .ok (.getfield 92, 3) := by decide +kernel
theorem dX11_compile_30 : decode cX11_compile 30 = .ok (.ifCond .eq 11, 3) := by decide +kernel
theorem dX11_compile_33 : decode cX11_compile 33 = .ok (.new 95, 3) := by decide +kernel
theorem dX11_compile_36 : decode cX11_compile 36 = .ok (.dup, 1) := by decide +kernel
theorem dX11_compile_37 : decode cX11_compile 37 = .ok (.invokespecial 97, 3) := by decide +kernel
theorem dX11_compile_40 : decode cX11_compile 40 = .ok (.athrow, 1) := by decide +kernel
theorem dX11_fetch_0 : decode cX11_fetch 0 = .ok (.aload_n 0, 1) := by decide +kernel
theorem dX11_fetch_1 : decode cX11_fetch 1 = .ok (.getfield 35, 3) := by decide +kernel
theorem dX11_fetch_4 : decode cX11_fetch 4 = .ok (.iload_n 1, 1) := by decide +kernel
theorem dX11_fetch_5 : decode cX11_fetch 5 = .ok (.invokevirtual 196, 3) := by decide +kernel
theorem dX11_fetch_8 : decode cX11_fetch 8 = .ok (.ifCond .ne 11, 3) := by decide +kernel
theorem dX11_fetch_11 : decode cX11_fetch 11 = .ok (.new 199, 3) := by decide +kernel
theorem dX11_fetch_14 : decode cX11_fetch 14 = .ok (.dup, 1) := by decide +kernel
theorem dX11_fetch_15 : decode cX11_fetch 15 = .ok (.invokespecial 201, 3) := by decide +kernel
theorem dX11_fetch_18 : decode cX11_fetch 18 = .ok (.athrow, 1) := by decide +kernel
set_option maxRecDepth 20000 in
theorem wd_0_0 : Jvm.Cond.initialized "ChipMapLaw" ∈ GT := gt_in (in_t0 (List.mem_of_getElem? (i := 0) rfl)) rfl
set_option maxRecDepth 20000 in
theorem wd_0_21 : Jvm.Cond.initialized "java/lang/Throwable" ∈ GT := gt_in (in_t0 (List.mem_of_getElem? (i := 21) rfl)) rfl
set_option maxRecDepth 20000 in
theorem wd_0_24 : Jvm.Cond.initialized "java/lang/IllegalArgumentException" ∈ GT := gt_in (in_t0 (List.mem_of_getElem? (i := 24) rfl)) rfl
set_option maxRecDepth 20000 in
theorem wd_0_27 : Jvm.Cond.initialized "java/lang/IndexOutOfBoundsException" ∈ GT := gt_in (in_t0 (List.mem_of_getElem? (i := 27) rfl)) rfl
set_option maxRecDepth 20000 in
theorem wd_0_29 : Jvm.Cond.classLink "ChipMapLaw" (8 : Nat) "ChipMap" ∈ GT := gt_in (in_t0 (List.mem_of_getElem? (i := 29) rfl)) rfl
set_option maxRecDepth 20000 in
theorem wd_0_30 : Jvm.Cond.instantiable "ChipMap" (9 : Nat) ∈ GT := gt_in (in_t0 (List.mem_of_getElem? (i := 30) rfl)) rfl
set_option maxRecDepth 20000 in
theorem wd_0_31 : Jvm.Cond.methodLink "ChipMapLaw" (23 : Nat) ({ cls := "ChipMap", name := "<init>", desc := "()V" } : Jvm.MethodName) ∈ GT := gt_in (in_t0 (List.mem_of_getElem? (i := 31) rfl)) rfl
set_option maxRecDepth 20000 in
theorem wd_0_32 : Jvm.Cond.instanceMethod ({ cls := "ChipMap", name := "<init>", desc := "()V" } : Jvm.MethodName) ∈ GT := gt_in (in_t0 (List.mem_of_getElem? (i := 32) rfl)) rfl
set_option maxRecDepth 20000 in
theorem wd_0_33 : Jvm.Cond.code ({ cls := "ChipMap", name := "<init>", desc := "()V" } : Jvm.MethodName) prog_1_method_1_code (1 : Nat) (Option.none : Option Jvm.ClassFile.FieldType) ∈ GT := gt_in (in_t0 (List.mem_of_getElem? (i := 33) rfl)) rfl
set_option maxRecDepth 20000 in
theorem wd_0_190 : Jvm.Cond.fieldLink "ChipMap" (84 : Nat) "ChipMap$Reader" "at" "I" ∈ GT := gt_in (in_t0 (List.mem_of_getElem? (i := 190) rfl)) rfl
set_option maxRecDepth 20000 in
theorem wd_3_36 : Jvm.Cond.methodLink "ChipMap" (196 : Nat) ({ cls := "ChipMap$Layout", name := "canFetch", desc := "(I)Z" } : Jvm.MethodName) ∈ GT := gt_in (in_t3 (List.mem_of_getElem? (i := 36) rfl)) rfl
set_option maxRecDepth 20000 in
theorem wd_3_37 : Jvm.Cond.instanceMethod ({ cls := "ChipMap$Layout", name := "canFetch", desc := "(I)Z" } : Jvm.MethodName) ∈ GT := gt_in (in_t3 (List.mem_of_getElem? (i := 37) rfl)) rfl
set_option maxRecDepth 20000 in
theorem wd_3_38 : Jvm.Cond.selects "ChipMap$Layout" ({ cls := "ChipMap$Layout", name := "canFetch", desc := "(I)Z" } : Jvm.MethodName) ({ cls := "ChipMap$Layout", name := "canFetch", desc := "(I)Z" } : Jvm.MethodName) ∈ GT := gt_in (in_t3 (List.mem_of_getElem? (i := 38) rfl)) rfl
set_option maxRecDepth 20000 in
theorem wd_3_39 : Jvm.Cond.code ({ cls := "ChipMap$Layout", name := "canFetch", desc := "(I)Z" } : Jvm.MethodName) prog_6_method_8_code (2 : Nat) (Option.some Jvm.ClassFile.FieldType.boolean) ∈ GT := gt_in (in_t3 (List.mem_of_getElem? (i := 39) rfl)) rfl
set_option maxRecDepth 20000 in
theorem wd_3_130 : Jvm.Cond.methodLink "ChipMapLaw" (34 : Nat) ({ cls := "ChipMapLaw", name := "compile", desc := "(LChipMap;[J)I" } : Jvm.MethodName) ∈ GT := gt_in (in_t3 (List.mem_of_getElem? (i := 130) rfl)) rfl
set_option maxRecDepth 20000 in
theorem wd_3_131 : Jvm.Cond.static ({ cls := "ChipMapLaw", name := "compile", desc := "(LChipMap;[J)I" } : Jvm.MethodName) ∈ GT := gt_in (in_t3 (List.mem_of_getElem? (i := 131) rfl)) rfl
set_option maxRecDepth 20000 in
theorem wd_3_132 : Jvm.Cond.codeWith ({ cls := "ChipMapLaw", name := "compile", desc := "(LChipMap;[J)I" } : Jvm.MethodName) method_3_code (3 : Nat) (Option.some Jvm.ClassFile.FieldType.int) [((0 : Nat), (8 : Nat), (11 : Nat), (13 : Nat))] ∈ GT := gt_in (in_t3 (List.mem_of_getElem? (i := 132) rfl)) rfl
set_option maxRecDepth 20000 in
theorem wd_3_133 : Jvm.Cond.classLink "ChipMapLaw" (13 : Nat) "java/lang/IllegalArgumentException" ∈ GT := gt_in (in_t3 (List.mem_of_getElem? (i := 133) rfl)) rfl
set_option maxRecDepth 20000 in
theorem wd_3_134 : Jvm.Cond.methodLink "ChipMapLaw" (7 : Nat) ({ cls := "ChipMap", name := "compile", desc := "()I" } : Jvm.MethodName) ∈ GT := gt_in (in_t3 (List.mem_of_getElem? (i := 134) rfl)) rfl
set_option maxRecDepth 20000 in
theorem wd_3_135 : Jvm.Cond.instanceMethod ({ cls := "ChipMap", name := "compile", desc := "()I" } : Jvm.MethodName) ∈ GT := gt_in (in_t3 (List.mem_of_getElem? (i := 135) rfl)) rfl
set_option maxRecDepth 20000 in
theorem wd_3_136 : Jvm.Cond.selects "ChipMap" ({ cls := "ChipMap", name := "compile", desc := "()I" } : Jvm.MethodName) ({ cls := "ChipMap", name := "compile", desc := "()I" } : Jvm.MethodName) ∈ GT := gt_in (in_t3 (List.mem_of_getElem? (i := 136) rfl)) rfl
set_option maxRecDepth 20000 in
theorem wd_3_137 : Jvm.Cond.code ({ cls := "ChipMap", name := "compile", desc := "()I" } : Jvm.MethodName) prog_1_method_3_code (2 : Nat) (Option.some Jvm.ClassFile.FieldType.int) ∈ GT := gt_in (in_t3 (List.mem_of_getElem? (i := 137) rfl)) rfl
set_option maxRecDepth 20000 in
theorem wd_3_138 : Jvm.Cond.methodLink "ChipMap" (80 : Nat) ({ cls := "ChipMap$Reader", name := "readAll", desc := "()Z" } : Jvm.MethodName) ∈ GT := gt_in (in_t3 (List.mem_of_getElem? (i := 138) rfl)) rfl
set_option maxRecDepth 20000 in
theorem wd_3_139 : Jvm.Cond.instanceMethod ({ cls := "ChipMap$Reader", name := "readAll", desc := "()Z" } : Jvm.MethodName) ∈ GT := gt_in (in_t3 (List.mem_of_getElem? (i := 139) rfl)) rfl
set_option maxRecDepth 20000 in
theorem wd_3_140 : Jvm.Cond.selects "ChipMap$Reader" ({ cls := "ChipMap$Reader", name := "readAll", desc := "()Z" } : Jvm.MethodName) ({ cls := "ChipMap$Reader", name := "readAll", desc := "()Z" } : Jvm.MethodName) ∈ GT := gt_in (in_t3 (List.mem_of_getElem? (i := 140) rfl)) rfl
set_option maxRecDepth 20000 in
theorem wd_3_141 : Jvm.Cond.code ({ cls := "ChipMap$Reader", name := "readAll", desc := "()Z" } : Jvm.MethodName) prog_10_method_4_code (2 : Nat) (Option.some Jvm.ClassFile.FieldType.boolean) ∈ GT := gt_in (in_t3 (List.mem_of_getElem? (i := 141) rfl)) rfl
set_option maxRecDepth 20000 in
theorem wd_4_34 : Jvm.Cond.methodLink "ChipMap" (88 : Nat) ({ cls := "ChipMap$Judge", name := "decide", desc := "(ZI)V" } : Jvm.MethodName) ∈ GT := gt_in (in_t4 (List.mem_of_getElem? (i := 34) rfl)) rfl
set_option maxRecDepth 20000 in
theorem wd_4_35 : Jvm.Cond.instanceMethod ({ cls := "ChipMap$Judge", name := "decide", desc := "(ZI)V" } : Jvm.MethodName) ∈ GT := gt_in (in_t4 (List.mem_of_getElem? (i := 35) rfl)) rfl
set_option maxRecDepth 20000 in
theorem wd_4_36 : Jvm.Cond.selects "ChipMap$Judge" ({ cls := "ChipMap$Judge", name := "decide", desc := "(ZI)V" } : Jvm.MethodName) ({ cls := "ChipMap$Judge", name := "decide", desc := "(ZI)V" } : Jvm.MethodName) ∈ GT := gt_in (in_t4 (List.mem_of_getElem? (i := 36) rfl)) rfl
set_option maxRecDepth 20000 in
theorem wd_4_37 : Jvm.Cond.code ({ cls := "ChipMap$Judge", name := "decide", desc := "(ZI)V" } : Jvm.MethodName) prog_5_method_2_code (3 : Nat) (Option.none : Option Jvm.ClassFile.FieldType) ∈ GT := gt_in (in_t4 (List.mem_of_getElem? (i := 37) rfl)) rfl
set_option maxRecDepth 20000 in
theorem wd_4_78 : Jvm.Cond.classLink "ChipMap" (95 : Nat) "java/lang/IllegalArgumentException" ∈ GT := gt_in (in_t4 (List.mem_of_getElem? (i := 78) rfl)) rfl
set_option maxRecDepth 20000 in
theorem wd_4_79 : Jvm.Cond.instantiable "java/lang/IllegalArgumentException" (6 : Nat) ∈ GT := gt_in (in_t4 (List.mem_of_getElem? (i := 79) rfl)) rfl
set_option maxRecDepth 20000 in
theorem wd_4_87 : Jvm.Cond.selects "java/lang/IllegalArgumentException" ({ cls := "java/lang/Throwable", name := "fillInStackTrace", desc := "(I)Ljava/lang/Throwable;" } : Jvm.MethodName) ({ cls := "java/lang/Throwable", name := "fillInStackTrace", desc := "(I)Ljava/lang/Throwable;" } : Jvm.MethodName) ∈ GT := gt_in (in_t4 (List.mem_of_getElem? (i := 87) rfl)) rfl
set_option maxRecDepth 20000 in
theorem wd_4_88 : Jvm.Cond.selects "java/lang/IllegalArgumentException" ({ cls := "java/lang/Throwable", name := "fillInStackTrace", desc := "()Ljava/lang/Throwable;" } : Jvm.MethodName) ({ cls := "java/lang/Throwable", name := "fillInStackTrace", desc := "()Ljava/lang/Throwable;" } : Jvm.MethodName) ∈ GT := gt_in (in_t4 (List.mem_of_getElem? (i := 88) rfl)) rfl
set_option maxRecDepth 20000 in
theorem wd_4_89 : Jvm.Cond.lays "java/lang/IllegalArgumentException" "java/lang/Throwable" "cause" "Ljava/lang/Throwable;" ∈ GT := gt_in (in_t4 (List.mem_of_getElem? (i := 89) rfl)) rfl
set_option maxRecDepth 20000 in
theorem wd_4_90 : Jvm.Cond.lays "java/lang/Throwable" "java/lang/Throwable" "cause" "Ljava/lang/Throwable;" ∈ GT := gt_in (in_t4 (List.mem_of_getElem? (i := 90) rfl)) rfl
set_option maxRecDepth 20000 in
theorem wd_4_91 : Jvm.Cond.lays "java/lang/IllegalArgumentException" "java/lang/Throwable" "stackTrace" "[Ljava/lang/StackTraceElement;" ∈ GT := gt_in (in_t4 (List.mem_of_getElem? (i := 91) rfl)) rfl
set_option maxRecDepth 20000 in
theorem wd_4_92 : Jvm.Cond.lays "java/lang/Throwable" "java/lang/Throwable" "stackTrace" "[Ljava/lang/StackTraceElement;" ∈ GT := gt_in (in_t4 (List.mem_of_getElem? (i := 92) rfl)) rfl
set_option maxRecDepth 20000 in
theorem wd_4_93 : Jvm.Cond.lays "java/lang/IllegalArgumentException" "java/lang/Throwable" "suppressedExceptions" "Ljava/util/List;" ∈ GT := gt_in (in_t4 (List.mem_of_getElem? (i := 93) rfl)) rfl
set_option maxRecDepth 20000 in
theorem wd_4_94 : Jvm.Cond.lays "java/lang/Throwable" "java/lang/Throwable" "suppressedExceptions" "Ljava/util/List;" ∈ GT := gt_in (in_t4 (List.mem_of_getElem? (i := 94) rfl)) rfl
set_option maxRecDepth 20000 in
theorem wd_4_95 : Jvm.Cond.lays "java/lang/IllegalArgumentException" "java/lang/Throwable" "detailMessage" "Ljava/lang/String;" ∈ GT := gt_in (in_t4 (List.mem_of_getElem? (i := 95) rfl)) rfl
set_option maxRecDepth 20000 in
theorem wd_4_96 : Jvm.Cond.lays "java/lang/Throwable" "java/lang/Throwable" "detailMessage" "Ljava/lang/String;" ∈ GT := gt_in (in_t4 (List.mem_of_getElem? (i := 96) rfl)) rfl
set_option maxRecDepth 20000 in
theorem wd_4_97 : Jvm.Cond.lays "java/lang/IllegalArgumentException" "java/lang/Throwable" "backtrace" "Ljava/lang/Object;" ∈ GT := gt_in (in_t4 (List.mem_of_getElem? (i := 97) rfl)) rfl
set_option maxRecDepth 20000 in
theorem wd_4_98 : Jvm.Cond.lays "java/lang/Throwable" "java/lang/Throwable" "backtrace" "Ljava/lang/Object;" ∈ GT := gt_in (in_t4 (List.mem_of_getElem? (i := 98) rfl)) rfl
set_option maxRecDepth 20000 in
theorem wd_4_99 : Jvm.Cond.fieldLink "java/lang/Throwable" (198 : Nat) "java/lang/Throwable" "backtrace" "Ljava/lang/Object;" ∈ GT := gt_in (in_t4 (List.mem_of_getElem? (i := 99) rfl)) rfl
set_option maxRecDepth 20000 in
theorem wd_4_100 : Jvm.Cond.superclass "java/lang/Throwable" "java/lang/Object" ∈ GT := gt_in (in_t4 (List.mem_of_getElem? (i := 100) rfl)) rfl
set_option maxRecDepth 20000 in
theorem wd_4_101 : Jvm.Cond.instanceMethod ({ cls := "java/lang/Throwable", name := "<init>", desc := "()V" } : Jvm.MethodName) ∈ GT := gt_in (in_t4 (List.mem_of_getElem? (i := 101) rfl)) rfl
set_option maxRecDepth 20000 in
theorem wd_4_102 : Jvm.Cond.code ({ cls := "java/lang/Throwable", name := "<init>", desc := "()V" } : Jvm.MethodName) prog_27_method_1_code (1 : Nat) (Option.none : Option Jvm.ClassFile.FieldType) ∈ GT := gt_in (in_t4 (List.mem_of_getElem? (i := 102) rfl)) rfl
set_option maxRecDepth 20000 in
theorem wd_4_103 : Jvm.Cond.methodLink "java/lang/Throwable" (1 : Nat) ({ cls := "java/lang/Object", name := "<init>", desc := "()V" } : Jvm.MethodName) ∈ GT := gt_in (in_t4 (List.mem_of_getElem? (i := 103) rfl)) rfl
set_option maxRecDepth 20000 in
theorem wd_4_104 : Jvm.Cond.fieldLink "java/lang/Throwable" (13 : Nat) "java/lang/Throwable" "UNASSIGNED_STACK" "[Ljava/lang/StackTraceElement;" ∈ GT := gt_in (in_t4 (List.mem_of_getElem? (i := 104) rfl)) rfl
set_option maxRecDepth 20000 in
theorem wd_4_106 : Jvm.Cond.fieldLink "java/lang/Throwable" (20 : Nat) "java/lang/Throwable" "SUPPRESSED_SENTINEL" "Ljava/util/List;" ∈ GT := gt_in (in_t4 (List.mem_of_getElem? (i := 106) rfl)) rfl
set_option maxRecDepth 20000 in
theorem wd_4_108 : Jvm.Cond.methodLink "java/lang/Throwable" (27 : Nat) ({ cls := "java/lang/Throwable", name := "fillInStackTrace", desc := "()Ljava/lang/Throwable;" } : Jvm.MethodName) ∈ GT := gt_in (in_t4 (List.mem_of_getElem? (i := 108) rfl)) rfl
set_option maxRecDepth 20000 in
theorem wd_4_109 : Jvm.Cond.instanceMethod ({ cls := "java/lang/Throwable", name := "fillInStackTrace", desc := "()Ljava/lang/Throwable;" } : Jvm.MethodName) ∈ GT := gt_in (in_t4 (List.mem_of_getElem? (i := 109) rfl)) rfl
set_option maxRecDepth 20000 in
theorem wd_4_112 : Jvm.Cond.selects "java/lang/IndexOutOfBoundsException" ({ cls := "java/lang/Throwable", name := "fillInStackTrace", desc := "()Ljava/lang/Throwable;" } : Jvm.MethodName) ({ cls := "java/lang/Throwable", name := "fillInStackTrace", desc := "()Ljava/lang/Throwable;" } : Jvm.MethodName) ∈ GT := gt_in (in_t4 (List.mem_of_getElem? (i := 112) rfl)) rfl
set_option maxRecDepth 20000 in
theorem wd_4_113 : Jvm.Cond.codeSync ({ cls := "java/lang/Throwable", name := "fillInStackTrace", desc := "()Ljava/lang/Throwable;" } : Jvm.MethodName) prog_27_method_18_code (1 : Nat) (Option.some (Jvm.ClassFile.FieldType.object "java/lang/Throwable")) ∈ GT := gt_in (in_t4 (List.mem_of_getElem? (i := 113) rfl)) rfl
set_option maxRecDepth 20000 in
theorem wd_4_114 : Jvm.Cond.methodLink "java/lang/Throwable" (202 : Nat) ({ cls := "java/lang/Throwable", name := "fillInStackTrace", desc := "(I)Ljava/lang/Throwable;" } : Jvm.MethodName) ∈ GT := gt_in (in_t4 (List.mem_of_getElem? (i := 114) rfl)) rfl
set_option maxRecDepth 20000 in
theorem wd_4_116 : Jvm.Cond.instanceMethod ({ cls := "java/lang/Throwable", name := "fillInStackTrace", desc := "(I)Ljava/lang/Throwable;" } : Jvm.MethodName) ∈ GT := gt_in (in_t4 (List.mem_of_getElem? (i := 116) rfl)) rfl
set_option maxRecDepth 20000 in
theorem wd_4_118 : Jvm.Cond.native ({ cls := "java/lang/Throwable", name := "fillInStackTrace", desc := "(I)Ljava/lang/Throwable;" } : Jvm.MethodName) ∈ GT := gt_in (in_t4 (List.mem_of_getElem? (i := 118) rfl)) rfl
set_option maxRecDepth 20000 in
theorem wd_4_119 : Jvm.Cond.methodLink "ChipMap" (97 : Nat) ({ cls := "java/lang/IllegalArgumentException", name := "<init>", desc := "()V" } : Jvm.MethodName) ∈ GT := gt_in (in_t4 (List.mem_of_getElem? (i := 119) rfl)) rfl
set_option maxRecDepth 20000 in
theorem wd_4_120 : Jvm.Cond.instanceMethod ({ cls := "java/lang/IllegalArgumentException", name := "<init>", desc := "()V" } : Jvm.MethodName) ∈ GT := gt_in (in_t4 (List.mem_of_getElem? (i := 120) rfl)) rfl
set_option maxRecDepth 20000 in
theorem wd_4_121 : Jvm.Cond.code ({ cls := "java/lang/IllegalArgumentException", name := "<init>", desc := "()V" } : Jvm.MethodName) prog_17_method_1_code (1 : Nat) (Option.none : Option Jvm.ClassFile.FieldType) ∈ GT := gt_in (in_t4 (List.mem_of_getElem? (i := 121) rfl)) rfl
set_option maxRecDepth 20000 in
theorem wd_4_122 : Jvm.Cond.methodLink "java/lang/IllegalArgumentException" (1 : Nat) ({ cls := "java/lang/RuntimeException", name := "<init>", desc := "()V" } : Jvm.MethodName) ∈ GT := gt_in (in_t4 (List.mem_of_getElem? (i := 122) rfl)) rfl
set_option maxRecDepth 20000 in
theorem wd_4_123 : Jvm.Cond.instanceMethod ({ cls := "java/lang/RuntimeException", name := "<init>", desc := "()V" } : Jvm.MethodName) ∈ GT := gt_in (in_t4 (List.mem_of_getElem? (i := 123) rfl)) rfl
set_option maxRecDepth 20000 in
theorem wd_4_124 : Jvm.Cond.code ({ cls := "java/lang/RuntimeException", name := "<init>", desc := "()V" } : Jvm.MethodName) prog_22_method_1_code (1 : Nat) (Option.none : Option Jvm.ClassFile.FieldType) ∈ GT := gt_in (in_t4 (List.mem_of_getElem? (i := 124) rfl)) rfl
set_option maxRecDepth 20000 in
theorem wd_4_125 : Jvm.Cond.methodLink "java/lang/RuntimeException" (1 : Nat) ({ cls := "java/lang/Exception", name := "<init>", desc := "()V" } : Jvm.MethodName) ∈ GT := gt_in (in_t4 (List.mem_of_getElem? (i := 125) rfl)) rfl
set_option maxRecDepth 20000 in
theorem wd_4_126 : Jvm.Cond.instanceMethod ({ cls := "java/lang/Exception", name := "<init>", desc := "()V" } : Jvm.MethodName) ∈ GT := gt_in (in_t4 (List.mem_of_getElem? (i := 126) rfl)) rfl
set_option maxRecDepth 20000 in
theorem wd_4_127 : Jvm.Cond.code ({ cls := "java/lang/Exception", name := "<init>", desc := "()V" } : Jvm.MethodName) prog_16_method_1_code (1 : Nat) (Option.none : Option Jvm.ClassFile.FieldType) ∈ GT := gt_in (in_t4 (List.mem_of_getElem? (i := 127) rfl)) rfl
set_option maxRecDepth 20000 in
theorem wd_4_128 : Jvm.Cond.methodLink "java/lang/Exception" (1 : Nat) ({ cls := "java/lang/Throwable", name := "<init>", desc := "()V" } : Jvm.MethodName) ∈ GT := gt_in (in_t4 (List.mem_of_getElem? (i := 128) rfl)) rfl
set_option maxRecDepth 20000 in
theorem wd_4_130 : Jvm.Cond.fieldLink "java/lang/Throwable" (7 : Nat) "java/lang/Throwable" "cause" "Ljava/lang/Throwable;" ∈ GT := gt_in (in_t4 (List.mem_of_getElem? (i := 130) rfl)) rfl
set_option maxRecDepth 20000 in
theorem wd_4_131 : Jvm.Cond.fieldLink "java/lang/Throwable" (17 : Nat) "java/lang/Throwable" "stackTrace" "[Ljava/lang/StackTraceElement;" ∈ GT := gt_in (in_t4 (List.mem_of_getElem? (i := 131) rfl)) rfl
set_option maxRecDepth 20000 in
theorem wd_4_132 : Jvm.Cond.fieldLink "java/lang/Throwable" (24 : Nat) "java/lang/Throwable" "suppressedExceptions" "Ljava/util/List;" ∈ GT := gt_in (in_t4 (List.mem_of_getElem? (i := 132) rfl)) rfl
set_option maxRecDepth 20000 in
theorem wd_4_156 : Jvm.Cond.methodLink "ChipMapLaw" (74 : Nat) ({ cls := "ChipMapLaw", name := "fetch", desc := "(LChipMap;I[J)I" } : Jvm.MethodName) ∈ GT := gt_in (in_t4 (List.mem_of_getElem? (i := 156) rfl)) rfl
set_option maxRecDepth 20000 in
theorem wd_4_157 : Jvm.Cond.static ({ cls := "ChipMapLaw", name := "fetch", desc := "(LChipMap;I[J)I" } : Jvm.MethodName) ∈ GT := gt_in (in_t4 (List.mem_of_getElem? (i := 157) rfl)) rfl
set_option maxRecDepth 20000 in
theorem wd_4_158 : Jvm.Cond.codeWith ({ cls := "ChipMapLaw", name := "fetch", desc := "(LChipMap;I[J)I" } : Jvm.MethodName) method_4_code (4 : Nat) (Option.some Jvm.ClassFile.FieldType.int) [((0 : Nat), (9 : Nat), (12 : Nat), (19 : Nat)), ((0 : Nat), (9 : Nat), (15 : Nat), (21 : Nat))] ∈ GT := gt_in (in_t4 (List.mem_of_getElem? (i := 158) rfl)) rfl
set_option maxRecDepth 20000 in
theorem wd_4_159 : Jvm.Cond.classLink "ChipMapLaw" (19 : Nat) "java/lang/IndexOutOfBoundsException" ∈ GT := gt_in (in_t4 (List.mem_of_getElem? (i := 159) rfl)) rfl
set_option maxRecDepth 20000 in
theorem wd_4_161 : Jvm.Cond.methodLink "ChipMapLaw" (15 : Nat) ({ cls := "ChipMap", name := "fetch", desc := "(I)I" } : Jvm.MethodName) ∈ GT := gt_in (in_t4 (List.mem_of_getElem? (i := 161) rfl)) rfl
set_option maxRecDepth 20000 in
theorem wd_4_162 : Jvm.Cond.instanceMethod ({ cls := "ChipMap", name := "fetch", desc := "(I)I" } : Jvm.MethodName) ∈ GT := gt_in (in_t4 (List.mem_of_getElem? (i := 162) rfl)) rfl
set_option maxRecDepth 20000 in
theorem wd_4_163 : Jvm.Cond.selects "ChipMap" ({ cls := "ChipMap", name := "fetch", desc := "(I)I" } : Jvm.MethodName) ({ cls := "ChipMap", name := "fetch", desc := "(I)I" } : Jvm.MethodName) ∈ GT := gt_in (in_t4 (List.mem_of_getElem? (i := 163) rfl)) rfl
set_option maxRecDepth 20000 in
theorem wd_4_164 : Jvm.Cond.code ({ cls := "ChipMap", name := "fetch", desc := "(I)I" } : Jvm.MethodName) prog_1_method_11_code (2 : Nat) (Option.some Jvm.ClassFile.FieldType.int) ∈ GT := gt_in (in_t4 (List.mem_of_getElem? (i := 164) rfl)) rfl
set_option maxRecDepth 20000 in
theorem wd_4_165 : Jvm.Cond.classLink "ChipMap" (199 : Nat) "java/lang/IndexOutOfBoundsException" ∈ GT := gt_in (in_t4 (List.mem_of_getElem? (i := 165) rfl)) rfl
set_option maxRecDepth 20000 in
theorem wd_4_166 : Jvm.Cond.instantiable "java/lang/IndexOutOfBoundsException" (6 : Nat) ∈ GT := gt_in (in_t4 (List.mem_of_getElem? (i := 166) rfl)) rfl
set_option maxRecDepth 20000 in
theorem wd_4_168 : Jvm.Cond.selects "java/lang/IndexOutOfBoundsException" ({ cls := "java/lang/Throwable", name := "fillInStackTrace", desc := "(I)Ljava/lang/Throwable;" } : Jvm.MethodName) ({ cls := "java/lang/Throwable", name := "fillInStackTrace", desc := "(I)Ljava/lang/Throwable;" } : Jvm.MethodName) ∈ GT := gt_in (in_t4 (List.mem_of_getElem? (i := 168) rfl)) rfl
set_option maxRecDepth 20000 in
theorem wd_4_169 : Jvm.Cond.lays "java/lang/IndexOutOfBoundsException" "java/lang/Throwable" "cause" "Ljava/lang/Throwable;" ∈ GT := gt_in (in_t4 (List.mem_of_getElem? (i := 169) rfl)) rfl
set_option maxRecDepth 20000 in
theorem wd_4_170 : Jvm.Cond.lays "java/lang/IndexOutOfBoundsException" "java/lang/Throwable" "stackTrace" "[Ljava/lang/StackTraceElement;" ∈ GT := gt_in (in_t4 (List.mem_of_getElem? (i := 170) rfl)) rfl
set_option maxRecDepth 20000 in
theorem wd_4_171 : Jvm.Cond.lays "java/lang/IndexOutOfBoundsException" "java/lang/Throwable" "suppressedExceptions" "Ljava/util/List;" ∈ GT := gt_in (in_t4 (List.mem_of_getElem? (i := 171) rfl)) rfl
set_option maxRecDepth 20000 in
theorem wd_4_172 : Jvm.Cond.lays "java/lang/IndexOutOfBoundsException" "java/lang/Throwable" "detailMessage" "Ljava/lang/String;" ∈ GT := gt_in (in_t4 (List.mem_of_getElem? (i := 172) rfl)) rfl
set_option maxRecDepth 20000 in
theorem wd_4_173 : Jvm.Cond.lays "java/lang/IndexOutOfBoundsException" "java/lang/Throwable" "backtrace" "Ljava/lang/Object;" ∈ GT := gt_in (in_t4 (List.mem_of_getElem? (i := 173) rfl)) rfl
set_option maxRecDepth 20000 in
theorem wd_4_174 : Jvm.Cond.methodLink "ChipMap" (201 : Nat) ({ cls := "java/lang/IndexOutOfBoundsException", name := "<init>", desc := "()V" } : Jvm.MethodName) ∈ GT := gt_in (in_t4 (List.mem_of_getElem? (i := 174) rfl)) rfl
set_option maxRecDepth 20000 in
theorem wd_4_175 : Jvm.Cond.instanceMethod ({ cls := "java/lang/IndexOutOfBoundsException", name := "<init>", desc := "()V" } : Jvm.MethodName) ∈ GT := gt_in (in_t4 (List.mem_of_getElem? (i := 175) rfl)) rfl
set_option maxRecDepth 20000 in
theorem wd_4_176 : Jvm.Cond.code ({ cls := "java/lang/IndexOutOfBoundsException", name := "<init>", desc := "()V" } : Jvm.MethodName) prog_19_method_1_code (1 : Nat) (Option.none : Option Jvm.ClassFile.FieldType) ∈ GT := gt_in (in_t4 (List.mem_of_getElem? (i := 176) rfl)) rfl
set_option maxRecDepth 20000 in
theorem wd_4_177 : Jvm.Cond.methodLink "java/lang/IndexOutOfBoundsException" (1 : Nat) ({ cls := "java/lang/RuntimeException", name := "<init>", desc := "()V" } : Jvm.MethodName) ∈ GT := gt_in (in_t4 (List.mem_of_getElem? (i := 177) rfl)) rfl
set_option maxRecDepth 20000 in
theorem wd_4_195 : Jvm.Cond.classLink "ChipMapLaw" (24 : Nat) "ChipMapModel" ∈ GT := gt_in (in_t4 (List.mem_of_getElem? (i := 195) rfl)) rfl
set_option maxRecDepth 20000 in
theorem wd_4_196 : Jvm.Cond.instantiable "ChipMapModel" (76 : Nat) ∈ GT := gt_in (in_t4 (List.mem_of_getElem? (i := 196) rfl)) rfl
set_option maxRecDepth 20000 in
theorem wd_4_197 : Jvm.Cond.methodLink "ChipMapLaw" (26 : Nat) ({ cls := "ChipMapModel", name := "<init>", desc := "()V" } : Jvm.MethodName) ∈ GT := gt_in (in_t4 (List.mem_of_getElem? (i := 197) rfl)) rfl
set_option maxRecDepth 20000 in
theorem wd_4_198 : Jvm.Cond.instanceMethod ({ cls := "ChipMapModel", name := "<init>", desc := "()V" } : Jvm.MethodName) ∈ GT := gt_in (in_t4 (List.mem_of_getElem? (i := 198) rfl)) rfl
set_option maxRecDepth 20000 in
theorem wd_4_199 : Jvm.Cond.code ({ cls := "ChipMapModel", name := "<init>", desc := "()V" } : Jvm.MethodName) prog_14_method_1_code (1 : Nat) (Option.none : Option Jvm.ClassFile.FieldType) ∈ GT := gt_in (in_t4 (List.mem_of_getElem? (i := 199) rfl)) rfl
set_option maxRecDepth 20000 in
theorem wd_5_191 : Jvm.Cond.methodLink "ChipMapLaw" (40 : Nat) ({ cls := "ChipMapModel", name := "thrown", desc := "()I" } : Jvm.MethodName) ∈ GT := gt_in (in_t5 (List.mem_of_getElem? (i := 191) rfl)) rfl
set_option maxRecDepth 20000 in
theorem wd_5_192 : Jvm.Cond.instanceMethod ({ cls := "ChipMapModel", name := "thrown", desc := "()I" } : Jvm.MethodName) ∈ GT := gt_in (in_t5 (List.mem_of_getElem? (i := 192) rfl)) rfl
set_option maxRecDepth 20000 in
theorem wd_5_193 : Jvm.Cond.selects "ChipMapModel" ({ cls := "ChipMapModel", name := "thrown", desc := "()I" } : Jvm.MethodName) ({ cls := "ChipMapModel", name := "thrown", desc := "()I" } : Jvm.MethodName) ∈ GT := gt_in (in_t5 (List.mem_of_getElem? (i := 193) rfl)) rfl
set_option maxRecDepth 20000 in
theorem wd_5_194 : Jvm.Cond.code ({ cls := "ChipMapModel", name := "thrown", desc := "()I" } : Jvm.MethodName) prog_14_method_2_code (1 : Nat) (Option.some Jvm.ClassFile.FieldType.int) ∈ GT := gt_in (in_t5 (List.mem_of_getElem? (i := 194) rfl)) rfl
set_option maxRecDepth 20000 in
theorem wd_5_200 : Jvm.Cond.methodLink "ChipMapLaw" (39 : Nat) ({ cls := "ChipMapModel", name := "compile", desc := "()I" } : Jvm.MethodName) ∈ GT := gt_in (in_t5 (List.mem_of_getElem? (i := 200) rfl)) rfl
set_option maxRecDepth 20000 in
theorem wd_5_201 : Jvm.Cond.instanceMethod ({ cls := "ChipMapModel", name := "compile", desc := "()I" } : Jvm.MethodName) ∈ GT := gt_in (in_t5 (List.mem_of_getElem? (i := 201) rfl)) rfl
set_option maxRecDepth 20000 in
theorem wd_5_202 : Jvm.Cond.selects "ChipMapModel" ({ cls := "ChipMapModel", name := "compile", desc := "()I" } : Jvm.MethodName) ({ cls := "ChipMapModel", name := "compile", desc := "()I" } : Jvm.MethodName) ∈ GT := gt_in (in_t5 (List.mem_of_getElem? (i := 202) rfl)) rfl
set_option maxRecDepth 20000 in
theorem wd_5_203 : Jvm.Cond.code ({ cls := "ChipMapModel", name := "compile", desc := "()I" } : Jvm.MethodName) prog_14_method_24_code (4 : Nat) (Option.some Jvm.ClassFile.FieldType.int) ∈ GT := gt_in (in_t5 (List.mem_of_getElem? (i := 203) rfl)) rfl
set_option maxRecDepth 20000 in
theorem wd_6_166 : Jvm.Cond.methodLink "ChipMapLaw" (77 : Nat) ({ cls := "ChipMapModel", name := "fetch", desc := "(I)I" } : Jvm.MethodName) ∈ GT := gt_in (in_t6 (List.mem_of_getElem? (i := 166) rfl)) rfl
set_option maxRecDepth 20000 in
theorem wd_6_167 : Jvm.Cond.instanceMethod ({ cls := "ChipMapModel", name := "fetch", desc := "(I)I" } : Jvm.MethodName) ∈ GT := gt_in (in_t6 (List.mem_of_getElem? (i := 167) rfl)) rfl
set_option maxRecDepth 20000 in
theorem wd_6_168 : Jvm.Cond.selects "ChipMapModel" ({ cls := "ChipMapModel", name := "fetch", desc := "(I)I" } : Jvm.MethodName) ({ cls := "ChipMapModel", name := "fetch", desc := "(I)I" } : Jvm.MethodName) ∈ GT := gt_in (in_t6 (List.mem_of_getElem? (i := 168) rfl)) rfl
set_option maxRecDepth 20000 in
theorem wd_6_169 : Jvm.Cond.code ({ cls := "ChipMapModel", name := "fetch", desc := "(I)I" } : Jvm.MethodName) prog_14_method_58_code (2 : Nat) (Option.some Jvm.ClassFile.FieldType.int) ∈ GT := gt_in (in_t6 (List.mem_of_getElem? (i := 169) rfl)) rfl
