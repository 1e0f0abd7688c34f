def RJ3 : String := "java/lang/StringLatin1"
abbrev cJ0_coder : ByteArray := prog_23_method_152_code
def yJ0_coder : MethodName := ⟨"java/lang/String", "coder", "()B"⟩
def wsJ0_coder : List Cond := Cond.code yJ0_coder cJ0_coder 1 (some .byte) :: GT
abbrev cJ0_indexOf_II : ByteArray := prog_23_method_79_code
def yJ0_indexOf_II : MethodName := ⟨"java/lang/String", "indexOf", "(I)I"⟩
def wsJ0_indexOf_II : List Cond := Cond.code yJ0_indexOf_II cJ0_indexOf_II 2 (some .int) :: GT
abbrev cJ0_indexOf_III : ByteArray := prog_23_method_80_code
def yJ0_indexOf_III : MethodName := ⟨"java/lang/String", "indexOf", "(II)I"⟩
def wsJ0_indexOf_III : List Cond := Cond.code yJ0_indexOf_III cJ0_indexOf_III 3 (some .int) :: GT
abbrev cJ0_isLatin1 : ByteArray := prog_23_method_154_code
def yJ0_isLatin1 : MethodName := ⟨"java/lang/String", "isLatin1", "()Z"⟩
def wsJ0_isLatin1 : List Cond := Cond.code yJ0_isLatin1 cJ0_isLatin1 1 (some .boolean) :: GT
abbrev cJ0_length : ByteArray := prog_23_method_54_code
def yJ0_length : MethodName := ⟨"java/lang/String", "length", "()I"⟩
def wsJ0_length : List Cond := Cond.code yJ0_length cJ0_length 1 (some .int) :: GT
abbrev cJ1_max : ByteArray := prog_21_method_65_code
def yJ1_max : MethodName := ⟨"java/lang/Math", "max", "(II)I"⟩
def wsJ1_max : List Cond := Cond.code yJ1_max cJ1_max 2 (some .int) :: GT
abbrev cJ3_canEncode : ByteArray := prog_24_method_4_code
def yJ3_canEncode : MethodName := ⟨"java/lang/StringLatin1", "canEncode", "(I)Z"⟩
def wsJ3_canEncode : List Cond := Cond.code yJ3_canEncode cJ3_canEncode 1 (some .boolean) :: GT
abbrev cJ3_indexOfChar : ByteArray := prog_24_method_23_code
def yJ3_indexOfChar : MethodName := ⟨"java/lang/StringLatin1", "indexOfChar", "([BIII)I"⟩
def wsJ3_indexOfChar : List Cond := Cond.code yJ3_indexOfChar cJ3_indexOfChar 6 (some .int) :: GT
abbrev cJ3_indexOf_BIIII : ByteArray := prog_24_method_22_code
def yJ3_indexOf_BIIII : MethodName := ⟨"java/lang/StringLatin1", "indexOf", "([BIII)I"⟩
def wsJ3_indexOf_BIIII : List Cond := Cond.code yJ3_indexOf_BIIII cJ3_indexOf_BIIII 4 (some .int) :: GT
abbrev cJ7_fill_IIV : ByteArray := prog_28_method_103_code
def yJ7_fill_IIV : MethodName := ⟨"java/util/Arrays", "fill", "([II)V"⟩
def wsJ7_fill_IIV : List Cond := Cond.code yJ7_fill_IIV cJ7_fill_IIV 4 none :: GT
abbrev cJ7_fill_JJV : ByteArray := prog_28_method_101_code
def yJ7_fill_JJV : MethodName := ⟨"java/util/Arrays", "fill", "([JJ)V"⟩
def wsJ7_fill_JJV : List Cond := Cond.code yJ7_fill_JJV cJ7_fill_JJV 5 none :: GT
abbrev cX4_addField : ByteArray := prog_6_method_3_code
def yX4_addField : MethodName := ⟨"ChipMap$Layout", "addField", "(LChipMap$Draft;I)V"⟩
def wsX4_addField : List Cond := Cond.code yX4_addField cX4_addField 5 none :: GT
abbrev cX4_follow : ByteArray := prog_6_method_2_code
def yX4_follow : MethodName := ⟨"ChipMap$Layout", "follow", "(LChipMap$Draft;)V"⟩
def wsX4_follow : List Cond := Cond.code yX4_follow cX4_follow 3 none :: GT
abbrev cX8_oneOf : ByteArray := prog_10_method_15_code
def yX8_oneOf : MethodName := ⟨"ChipMap$Reader", "oneOf", "(Ljava/lang/String;)I"⟩
def wsX8_oneOf : List Cond := Cond.code yX8_oneOf cX8_oneOf 3 (some .int) :: GT
abbrev cX9_copy : ByteArray := prog_11_method_2_code
def yX9_copy : MethodName := ⟨"ChipMap$Rules", "copy", "(LChipMap$Rules;)V"⟩
def wsX9_copy : List Cond := Cond.code yX9_copy cX9_copy 2 none :: GT
theorem dJ0_coder_0 : decode cJ0_coder 0 = .ok (.getstatic 38, 3) := by decide +kernel
theorem dJ0_coder_3 : decode cJ0_coder 3 = .ok (.ifCond .eq 10, 3) := by decide +kernel
theorem dJ0_coder_6 : decode cJ0_coder 6 = .ok (.aload_n 0, 1) := by decide +kernel
theorem dJ0_coder_7 : decode cJ0_coder 7 = .ok (.getfield 15, 3) := by decide +kernel
theorem dJ0_coder_10 : decode cJ0_coder 10 = .ok (.goto 4, 3) := by decide +kernel
theorem dJ0_coder_14 : decode cJ0_coder 14 = .ok (.ireturn, 1) := by decide +kernel
theorem dJ0_indexOf_II_0 : decode cJ0_indexOf_II 0 = .ok (.aload_n 0, 1) := by decide +kernel
theorem dJ0_indexOf_II_1 : decode cJ0_indexOf_II 1 = .ok (.iload_n 1, 1) := by decide +kernel
theorem dJ0_indexOf_II_2 : decode cJ0_indexOf_II 2 = .ok (.iconst 0, 1) := by decide +kernel
theorem dJ0_indexOf_II_3 : decode cJ0_indexOf_II 3 = .ok (.invokevirtual 633, 3) := by decide +kernel
theorem dJ0_indexOf_II_6 : decode cJ0_indexOf_II 6 = .ok (.ireturn, 1) := by decide +kernel
theorem dJ0_indexOf_III_0 : decode cJ0_indexOf_III 0 = .ok (.aload_n 0, 1) := by decide +kernel
theorem dJ0_indexOf_III_1 : decode cJ0_indexOf_III 1 = .ok (.invokevirtual 492, 3) := by decide +kernel
theorem dJ0_indexOf_III_4 : decode cJ0_indexOf_III 4 = .ok (.ifCond .eq 19, 3) := by decide +kernel
theorem dJ0_indexOf_III_7 : decode cJ0_indexOf_III 7 = .ok (.aload_n 0, 1) := by decide +kernel
theorem dJ0_indexOf_III_8 : decode cJ0_indexOf_III 8 = .ok (.getfield 9, 3) := by decide +kernel
theorem dJ0_indexOf_III_11 : decode cJ0_indexOf_III 11 = .ok (.iload_n 1, 1) := by decide +kernel
theorem dJ0_indexOf_III_12 : decode cJ0_indexOf_III 12 = .ok (.iload_n 2, 1) := by decide +kernel
theorem dJ0_indexOf_III_13 : decode cJ0_indexOf_III 13 = .ok (.aload_n 0, 1) := by decide +kernel
theorem dJ0_indexOf_III_14 : decode cJ0_indexOf_III 14 = .ok (.invokevirtual 505, 3) := by decide +kernel
theorem dJ0_indexOf_III_17 : decode cJ0_indexOf_III 17 = .ok (.invokestatic 637, 3) := by decide +kernel
theorem dJ0_indexOf_III_20 : decode cJ0_indexOf_III 20 = .ok (.goto 16, 3) := by decide +kernel
theorem dJ0_indexOf_III_23 : decode cJ0_indexOf_III 23 = .ok (.aload_n 0, 1) := by decide +kernel
theorem dJ0_indexOf_III_24 : decode cJ0_indexOf_III 24 = .ok (.getfield 9, 3) := by decide +kernel
theorem dJ0_indexOf_III_27 : decode cJ0_indexOf_III 27 = .ok (.iload_n 1, 1) := by decide +kernel
theorem dJ0_indexOf_III_28 : decode cJ0_indexOf_III 28 = .ok (.iload_n 2, 1) := by decide +kernel
theorem dJ0_indexOf_III_29 : decode cJ0_indexOf_III 29 = .ok (.aload_n 0, 1) := by decide +kernel
theorem dJ0_indexOf_III_30 : decode cJ0_indexOf_III 30 = .ok (.invokevirtual 505, 3) := by decide +kernel
theorem dJ0_indexOf_III_33 : decode cJ0_indexOf_III 33 = .ok (.invokestatic 640, 3) := by decide +kernel
theorem dJ0_indexOf_III_36 : decode cJ0_indexOf_III 36 = .ok (.ireturn, 1) := by decide +kernel
theorem dJ0_isLatin1_0 : decode cJ0_isLatin1 0 = .ok (.getstatic 38, 3) := by decide +kernel
theorem dJ0_isLatin1_3 : decode cJ0_isLatin1 3 = .ok (.ifCond .eq 14, 3) := by decide +kernel
theorem dJ0_isLatin1_6 : decode cJ0_isLatin1 6 = .ok (.aload_n 0, 1) := by decide +kernel
theorem dJ0_isLatin1_7 : decode cJ0_isLatin1 7 = .ok (.getfield 15, 3) := by decide +kernel
theorem dJ0_isLatin1_10 : decode cJ0_isLatin1 10 = .ok (.ifCond .ne 7, 3) := by decide +kernel
theorem dJ0_isLatin1_13 : decode cJ0_isLatin1 13 = .ok (.iconst 1, 1) := by decide +kernel
theorem dJ0_isLatin1_14 : decode cJ0_isLatin1 14 = .ok (.goto 4, 3) := by decide +kernel
theorem dJ0_isLatin1_18 : decode cJ0_isLatin1 18 = .ok (.ireturn, 1) := by decide +kernel
theorem dJ0_length_0 : decode cJ0_length 0 = .ok (.aload_n 0, 1) := by decide +kernel
theorem dJ0_length_1 : decode cJ0_length 1 = .ok (.getfield 9, 3) := by decide +kernel
theorem dJ0_length_4 : decode cJ0_length 4 = .ok (.arraylength, 1) := by decide +kernel
theorem dJ0_length_5 : decode cJ0_length 5 = .ok (.aload_n 0, 1) := by decide +kernel
theorem dJ0_length_6 : decode cJ0_length 6 = .ok (.invokevirtual 335, 3) := by decide +kernel
theorem dJ0_length_9 : decode cJ0_length 9 = .ok (.ishr, 1) := by decide +kernel
theorem dJ0_length_10 : decode cJ0_length 10 = .ok (.ireturn, 1) := by decide +kernel
theorem dJ1_max_0 : decode cJ1_max 0 = .ok (.iload_n 0, 1) := by decide +kernel
theorem dJ1_max_1 : decode cJ1_max 1 = .ok (.iload_n 1, 1) := by decide +kernel
theorem dJ1_max_2 : decode cJ1_max 2 = .ok (.if_icmp .lt 7, 3) := by decide +kernel
theorem dJ1_max_5 : decode cJ1_max 5 = .ok (.iload_n 0, 1) := by decide +kernel
theorem dJ1_max_6 : decode cJ1_max 6 = .ok (.goto 4, 3) := by decide +kernel
theorem dJ1_max_9 : decode cJ1_max 9 = .ok (.iload_n 1, 1) := by decide +kernel
theorem dJ1_max_10 : decode cJ1_max 10 = .ok (.ireturn, 1) := by decide +kernel
theorem dJ3_canEncode_0 : decode cJ3_canEncode 0 = .ok (.iload_n 0, 1) := by decide +kernel
theorem dJ3_canEncode_1 : decode cJ3_canEncode 1 = .ok (.ifCond .lt 14, 3) := by decide +kernel
theorem dJ3_canEncode_4 : decode cJ3_canEncode 4 = .ok (.iload_n 0, 1) := by decide +kernel
theorem dJ3_canEncode_5 : decode cJ3_canEncode 5 = .ok (.sipush 255, 3) := by decide +kernel
theorem dJ3_canEncode_8 : decode cJ3_canEncode 8 = .ok (.if_icmp .gt 7, 3) := by decide +kernel
theorem dJ3_canEncode_11 : decode cJ3_canEncode 11 = .ok (.iconst 1, 1) := by decide +kernel
theorem dJ3_canEncode_12 : decode cJ3_canEncode 12 = .ok (.goto 4, 3) := by decide +kernel
theorem dJ3_canEncode_15 : decode cJ3_canEncode 15 = .ok (.iconst 0, 1) := by decide +kernel
theorem dJ3_canEncode_16 : decode cJ3_canEncode 16 = .ok (.ireturn, 1) := by decide +kernel
theorem dJ3_indexOfChar_0 : decode cJ3_indexOfChar 0 = .ok (.iload_n 1, 1) := by decide +kernel
theorem dJ3_indexOfChar_1 : decode cJ3_indexOfChar 1 = .ok (.i2b, 1) := by decide +kernel
theorem dJ3_indexOfChar_2 : decode cJ3_indexOfChar 2 = .ok (.istore 4, 2) := by decide +kernel
theorem dJ3_indexOfChar_4 : decode cJ3_indexOfChar 4 = .ok (.iload_n 2, 1) := by decide +kernel
theorem dJ3_indexOfChar_5 : decode cJ3_indexOfChar 5 = .ok (.istore 5, 2) := by decide +kernel
theorem dJ3_indexOfChar_7 : decode cJ3_indexOfChar 7 = .ok (.iload 5, 2) := by decide +kernel
theorem dJ3_indexOfChar_9 : decode cJ3_indexOfChar 9 = .ok (.iload_n 3, 1) := by decide +kernel
theorem dJ3_indexOfChar_10 : decode cJ3_indexOfChar 10 = .ok (.if_icmp .ge 21, 3) := by decide +kernel
theorem dJ3_indexOfChar_13 : decode cJ3_indexOfChar 13 = .ok (.aload_n 0, 1) := by decide +kernel
theorem dJ3_indexOfChar_14 : decode cJ3_indexOfChar 14 = .ok (.iload 5, 2) := by decide +kernel
theorem dJ3_indexOfChar_16 : decode cJ3_indexOfChar 16 = .ok (.baload, 1) := by decide +kernel
theorem dJ3_indexOfChar_17 : decode cJ3_indexOfChar 17 = .ok (.iload 4, 2) := by decide +kernel
theorem dJ3_indexOfChar_19 : decode cJ3_indexOfChar 19 = .ok (.if_icmp .ne 6, 3) := by decide +kernel
theorem dJ3_indexOfChar_22 : decode cJ3_indexOfChar 22 = .ok (.iload 5, 2) := by decide +kernel
theorem dJ3_indexOfChar_24 : decode cJ3_indexOfChar 24 = .ok (.ireturn, 1) := by decide +kernel
theorem dJ3_indexOfChar_25 : decode cJ3_indexOfChar 25 = .ok (.iinc 5 1, 3) := by decide +kernel
theorem dJ3_indexOfChar_28 : decode cJ3_indexOfChar 28 = .ok (.goto (-21), 3) := by decide +kernel
theorem dJ3_indexOfChar_31 : decode cJ3_indexOfChar 31 = .ok (.iconst (-1), 1) := by decide +kernel
theorem dJ3_indexOfChar_32 : decode cJ3_indexOfChar 32 = .ok (.ireturn, 1) := by decide +kernel
theorem dJ3_indexOf_BIIII_0 : decode cJ3_indexOf_BIIII 0 = .ok (.iload_n 1, 1) := by decide +kernel
theorem dJ3_indexOf_BIIII_1 : decode cJ3_indexOf_BIIII 1 = .ok (.invokestatic 88, 3) := by decide +kernel
theorem dJ3_indexOf_BIIII_4 : decode cJ3_indexOf_BIIII 4 = .ok (.ifCond .ne 5, 3) := by decide +kernel
theorem dJ3_indexOf_BIIII_7 : decode cJ3_indexOf_BIIII 7 = .ok (.iconst (-1), 1) := by decide +kernel
theorem dJ3_indexOf_BIIII_8 : decode cJ3_indexOf_BIIII 8 = .ok (.ireturn, 1) := by decide +kernel
theorem dJ3_indexOf_BIIII_9 : decode cJ3_indexOf_BIIII 9 = .ok (.iload_n 2, 1) := by decide +kernel
theorem dJ3_indexOf_BIIII_10 : decode cJ3_indexOf_BIIII 10 = .ok (.iconst 0, 1) := by decide +kernel
theorem dJ3_indexOf_BIIII_11 : decode cJ3_indexOf_BIIII 11 = .ok (.invokestatic 92, 3) := by decide +kernel
theorem dJ3_indexOf_BIIII_14 : decode cJ3_indexOf_BIIII 14 = .ok (.istore_n 2, 1) := by decide +kernel
theorem dJ3_indexOf_BIIII_15 : decode cJ3_indexOf_BIIII 15 = .ok (.iload_n 3, 1) := by decide +kernel
theorem dJ3_indexOf_BIIII_16 : decode cJ3_indexOf_BIIII 16 = .ok (.aload_n 0, 1) := by decide +kernel
theorem dJ3_indexOf_BIIII_17 : decode cJ3_indexOf_BIIII 17 = .ok (.arraylength, 1) := by decide +kernel
theorem dJ3_indexOf_BIIII_18 : decode cJ3_indexOf_BIIII 18 = .ok (.invokestatic 38, 3) := by decide +kernel
theorem dJ3_indexOf_BIIII_21 : decode cJ3_indexOf_BIIII 21 = .ok (.istore_n 3, 1) := by decide +kernel
theorem dJ3_indexOf_BIIII_22 : decode cJ3_indexOf_BIIII 22 = .ok (.iload_n 2, 1) := by decide +kernel
theorem dJ3_indexOf_BIIII_23 : decode cJ3_indexOf_BIIII 23 = .ok (.iload_n 3, 1) := by decide +kernel
theorem dJ3_indexOf_BIIII_24 : decode cJ3_indexOf_BIIII 24 = .ok (.if_icmp .lt 5, 3) := by decide +kernel
theorem dJ3_indexOf_BIIII_27 : decode cJ3_indexOf_BIIII 27 = .ok (.iconst (-1), 1) := by decide +kernel
theorem dJ3_indexOf_BIIII_28 : decode cJ3_indexOf_BIIII 28 = .ok (.ireturn, 1) := by decide +kernel
theorem dJ3_indexOf_BIIII_29 : decode cJ3_indexOf_BIIII 29 = .ok (.aload_n 0, 1) := by decide +kernel
theorem dJ3_indexOf_BIIII_30 : decode cJ3_indexOf_BIIII 30 = .ok (.iload_n 1, 1) := by decide +kernel
theorem dJ3_indexOf_BIIII_31 : decode cJ3_indexOf_BIIII 31 = .ok (.iload_n 2, 1) := by decide +kernel
theorem dJ3_indexOf_BIIII_32 : decode cJ3_indexOf_BIIII 32 = .ok (.iload_n 3, 1) := by decide +kernel
theorem dJ3_indexOf_BIIII_33 : decode cJ3_indexOf_BIIII 33 = .ok (.invokestatic 95, 3) := by decide +kernel
theorem dJ3_indexOf_BIIII_36 : decode cJ3_indexOf_BIIII 36 = .ok (.ireturn, 1) := by decide +kernel
theorem dJ7_fill_IIV_0 : decode cJ7_fill_IIV 0 = .ok (.iconst 0, 1) := by decide +kernel
theorem dJ7_fill_IIV_1 : decode cJ7_fill_IIV 1 = .ok (.istore_n 2, 1) := by decide +kernel
theorem dJ7_fill_IIV_2 : decode cJ7_fill_IIV 2 = .ok (.aload_n 0, 1) := by decide +kernel
theorem dJ7_fill_IIV_3 : decode cJ7_fill_IIV 3 = .ok (.arraylength, 1) := by decide +kernel
theorem dJ7_fill_IIV_4 : decode cJ7_fill_IIV 4 = .ok (.istore_n 3, 1) := by decide +kernel
theorem dJ7_fill_IIV_5 : decode cJ7_fill_IIV 5 = .ok (.iload_n 2, 1) := by decide +kernel
theorem dJ7_fill_IIV_6 : decode cJ7_fill_IIV 6 = .ok (.iload_n 3, 1) := by decide +kernel
theorem dJ7_fill_IIV_7 : decode cJ7_fill_IIV 7 = .ok (.if_icmp .ge 13, 3) := by decide +kernel
theorem dJ7_fill_IIV_10 : decode cJ7_fill_IIV 10 = .ok (.aload_n 0, 1) := by decide +kernel
theorem dJ7_fill_IIV_11 : decode cJ7_fill_IIV 11 = .ok (.iload_n 2, 1) := by decide +kernel
theorem dJ7_fill_IIV_12 : decode cJ7_fill_IIV 12 = .ok (.iload_n 1, 1) := by decide +kernel
theorem dJ7_fill_IIV_13 : decode cJ7_fill_IIV 13 = .ok (.iastore, 1) := by decide +kernel
theorem dJ7_fill_IIV_14 : decode cJ7_fill_IIV 14 = .ok (.iinc 2 1, 3) := by decide +kernel
theorem dJ7_fill_IIV_17 : decode cJ7_fill_IIV 17 = .ok (.goto (-12), 3) := by decide +kernel
theorem dJ7_fill_IIV_20 : decode cJ7_fill_IIV 20 = .ok (.return_, 1) := by decide +kernel
theorem dJ7_fill_JJV_0 : decode cJ7_fill_JJV 0 = .ok (.iconst 0, 1) := by decide +kernel
theorem dJ7_fill_JJV_1 : decode cJ7_fill_JJV 1 = .ok (.istore_n 3, 1) := by decide +kernel
theorem dJ7_fill_JJV_2 : decode cJ7_fill_JJV 2 = .ok (.aload_n 0, 1) := by decide +kernel
theorem dJ7_fill_JJV_3 : decode cJ7_fill_JJV 3 = .ok (.arraylength, 1) := by decide +kernel
theorem dJ7_fill_JJV_4 : decode cJ7_fill_JJV 4 = .ok (.istore 4, 2) := by decide +kernel
theorem dJ7_fill_JJV_6 : decode cJ7_fill_JJV 6 = .ok (.iload_n 3, 1) := by decide +kernel
theorem dJ7_fill_JJV_7 : decode cJ7_fill_JJV 7 = .ok (.iload 4, 2) := by decide +kernel
theorem dJ7_fill_JJV_9 : decode cJ7_fill_JJV 9 = .ok (.if_icmp .ge 13, 3) := by decide +kernel
theorem dJ7_fill_JJV_12 : decode cJ7_fill_JJV 12 = .ok (.aload_n 0, 1) := by decide +kernel
theorem dJ7_fill_JJV_13 : decode cJ7_fill_JJV 13 = .ok (.iload_n 3, 1) := by decide +kernel
theorem dJ7_fill_JJV_14 : decode cJ7_fill_JJV 14 = .ok (.lload_n 1, 1) := by decide +kernel
theorem dJ7_fill_JJV_15 : decode cJ7_fill_JJV 15 = .ok (.lastore, 1) := by decide +kernel
theorem dJ7_fill_JJV_16 : decode cJ7_fill_JJV 16 = .ok (.iinc 3 1, 3) := by decide +kernel
theorem dJ7_fill_JJV_19 : decode cJ7_fill_JJV 19 = .ok (.goto (-13), 3) := by decide +kernel
theorem dJ7_fill_JJV_22 : decode cJ7_fill_JJV 22 = .ok (.return_, 1) := by decide +kernel
theorem dX11_compile_7 : decode cX11_compile 7 = .ok (.istore_n 1, 1) := by decide +kernel
theorem dX11_compile_8 : decode cX11_compile 8 = .ok (.aload_n 0, 1) := by decide +kernel
theorem dX11_compile_9 : decode cX11_compile 9 = .ok (.getfield 28, 3) := by decide +kernel
theorem dX11_compile_12 : decode cX11_compile 12 = .ok (.iload_n 1, 1) := by decide +kernel
theorem dX11_compile_13 : decode cX11_compile 13 = .ok (.aload_n 0, 1) := by decide +kernel
theorem dX11_compile_14 : decode cX11_compile 14 = .ok (.getfield 21, 3) := by decide +kernel
theorem dX11_compile_17 : decode cX11_compile 17 = .ok (.getfield 84, 3) := by decide +kernel
theorem dX11_compile_20 : decode cX11_compile 20 = .ok (.invokevirtual 88, 3) := by decide +kernel
theorem dX11_compile_23 : decode cX11_compile 23 = .ok (.aload_n 0, 1) := by decide +kernel
theorem dX11_compile_24 : decode cX11_compile 24 = .ok (.getfield 28, 3) := by decide +kernel
theorem dX11_compile_27 : decode cX11_compile 27 = .ok (.getfield 92, 3) := by decide +kernel
theorem dX11_compile_30 : decode cX11_compile 30 = .ok (.ifCond .eq 11, 3) := by decide +kernel
theorem dX11_compile_33 : decode cX11_compile 33 = .ok (.new 95, 3) := by decide +kernel
theorem dX11_compile_41 : decode cX11_compile 41 = .ok (.aload_n 0, 1) := by decide +kernel
theorem dX11_compile_42 : decode cX11_compile 42 = .ok (.getfield 35, 3) := by decide +kernel
theorem dX11_compile_45 : decode cX11_compile 45 = .ok (.aload_n 0, 1) := by decide +kernel
theorem dX11_compile_46 : decode cX11_compile 46 = .ok (.getfield 12, 3) := by decide +kernel
theorem dX11_compile_49 : decode cX11_compile 49 = .ok (.invokevirtual 98, 3) := by decide +kernel
theorem dX11_compile_52 : decode cX11_compile 52 = .ok (.aload_n 0, 1) := by decide +kernel
theorem dX11_compile_53 : decode cX11_compile 53 = .ok (.getfield 64, 3) := by decide +kernel
theorem dX11_compile_56 : decode cX11_compile 56 = .ok (.iconst 0, 1) := by decide +kernel
theorem dX11_compile_57 : decode cX11_compile 57 = .ok (.putfield 101, 3) := by decide +kernel
theorem dX11_compile_60 : decode cX11_compile 60 = .ok (.aload_n 0, 1) := by decide +kernel
theorem dX11_compile_61 : decode cX11_compile 61 = .ok (.invokevirtual 104, 3) := by decide +kernel
theorem dX11_compile_64 : decode cX11_compile 64 = .ok (.aload_n 0, 1) := by decide +kernel
theorem dX11_compile_65 : decode cX11_compile 65 = .ok (.getfield 35, 3) := by decide +kernel
theorem dX11_compile_68 : decode cX11_compile 68 = .ok (.getfield 107, 3) := by decide +kernel
theorem dX11_compile_71 : decode cX11_compile 71 = .ok (.ireturn, 1) := by decide +kernel
theorem dX11_fetch_11 : decode cX11_fetch 11 = .ok (.new 199, 3) := by decide +kernel
theorem dX11_fetch_29 : decode cX11_fetch 29 = .ok (.aload_n 0, 1) := by decide +kernel
theorem dX11_fetch_30 : decode cX11_fetch 30 = .ok (.iload_n 1, 1) := by decide +kernel
theorem dX11_fetch_31 : decode cX11_fetch 31 = .ok (.invokevirtual 202, 3) := by decide +kernel
theorem dX11_fetch_34 : decode cX11_fetch 34 = .ok (.ifCond .ne 11, 3) := by decide +kernel
theorem dX11_fetch_45 : decode cX11_fetch 45 = .ok (.aload_n 0, 1) := by decide +kernel
theorem dX11_fetch_46 : decode cX11_fetch 46 = .ok (.iload_n 1, 1) := by decide +kernel
theorem dX11_fetch_47 : decode cX11_fetch 47 = .ok (.invokevirtual 208, 3) := by decide +kernel
theorem dX11_fetch_50 : decode cX11_fetch 50 = .ok (.ireturn, 1) := by decide +kernel
theorem dX4_addField_0 : decode cX4_addField 0 = .ok (.aload_n 1, 1) := by decide +kernel
theorem dX4_addField_1 : decode cX4_addField 1 = .ok (.getfield 96, 3) := by decide +kernel
theorem dX4_addField_4 : decode cX4_addField 4 = .ok (.iload_n 2, 1) := by decide +kernel
theorem dX4_addField_5 : decode cX4_addField 5 = .ok (.iaload, 1) := by decide +kernel
theorem dX4_addField_6 : decode cX4_addField 6 = .ok (.istore_n 3, 1) := by decide +kernel
theorem dX4_addField_7 : decode cX4_addField 7 = .ok (.aload_n 1, 1) := by decide +kernel
theorem dX4_addField_8 : decode cX4_addField 8 = .ok (.getfield 99, 3) := by decide +kernel
theorem dX4_addField_11 : decode cX4_addField 11 = .ok (.iload_n 2, 1) := by decide +kernel
theorem dX4_addField_12 : decode cX4_addField 12 = .ok (.iaload, 1) := by decide +kernel
theorem dX4_addField_13 : decode cX4_addField 13 = .ok (.istore 4, 2) := by decide +kernel
theorem dX4_addField_15 : decode cX4_addField 15 = .ok (.aload_n 0, 1) := by decide +kernel
theorem dX4_addField_16 : decode cX4_addField 16 = .ok (.getfield 40, 3) := by decide +kernel
theorem dX4_addField_19 : decode cX4_addField 19 = .ok (.iload_n 3, 1) := by decide +kernel
theorem dX4_addField_20 : decode cX4_addField 20 = .ok (.iload 4, 2) := by decide +kernel
theorem dX4_addField_22 : decode cX4_addField 22 = .ok (.iastore, 1) := by decide +kernel
theorem dX4_addField_23 : decode cX4_addField 23 = .ok (.aload_n 0, 1) := by decide +kernel
theorem dX4_addField_24 : decode cX4_addField 24 = .ok (.getfield 43, 3) := by decide +kernel
theorem dX4_addField_27 : decode cX4_addField 27 = .ok (.iload_n 3, 1) := by decide +kernel
theorem dX4_addField_28 : decode cX4_addField 28 = .ok (.aload_n 1, 1) := by decide +kernel
theorem dX4_addField_29 : decode cX4_addField 29 = .ok (.getfield 100, 3) := by decide +kernel
theorem dX4_addField_32 : decode cX4_addField 32 = .ok (.iload_n 2, 1) := by decide +kernel
theorem dX4_addField_33 : decode cX4_addField 33 = .ok (.iaload, 1) := by decide +kernel
theorem dX4_addField_34 : decode cX4_addField 34 = .ok (.iastore, 1) := by decide +kernel
theorem dX4_addField_35 : decode cX4_addField 35 = .ok (.aload_n 0, 1) := by decide +kernel
theorem dX4_addField_36 : decode cX4_addField 36 = .ok (.getfield 46, 3) := by decide +kernel
theorem dX4_addField_39 : decode cX4_addField 39 = .ok (.iload_n 3, 1) := by decide +kernel
theorem dX4_addField_40 : decode cX4_addField 40 = .ok (.aload_n 1, 1) := by decide +kernel
theorem dX4_addField_41 : decode cX4_addField 41 = .ok (.getfield 101, 3) := by decide +kernel
theorem dX4_addField_44 : decode cX4_addField 44 = .ok (.iload_n 2, 1) := by decide +kernel
theorem dX4_addField_45 : decode cX4_addField 45 = .ok (.iaload, 1) := by decide +kernel
theorem dX4_addField_46 : decode cX4_addField 46 = .ok (.iastore, 1) := by decide +kernel
theorem dX4_addField_47 : decode cX4_addField 47 = .ok (.aload_n 0, 1) := by decide +kernel
theorem dX4_addField_48 : decode cX4_addField 48 = .ok (.getfield 49, 3) := by decide +kernel
theorem dX4_addField_51 : decode cX4_addField 51 = .ok (.iload_n 3, 1) := by decide +kernel
theorem dX4_addField_52 : decode cX4_addField 52 = .ok (.aload_n 1, 1) := by decide +kernel
theorem dX4_addField_53 : decode cX4_addField 53 = .ok (.getfield 102, 3) := by decide +kernel
theorem dX4_addField_56 : decode cX4_addField 56 = .ok (.iload_n 2, 1) := by decide +kernel
theorem dX4_addField_57 : decode cX4_addField 57 = .ok (.iaload, 1) := by decide +kernel
theorem dX4_addField_58 : decode cX4_addField 58 = .ok (.aload_n 1, 1) := by decide +kernel
theorem dX4_addField_59 : decode cX4_addField 59 = .ok (.getfield 101, 3) := by decide +kernel
theorem dX4_addField_62 : decode cX4_addField 62 = .ok (.iload_n 2, 1) := by decide +kernel
theorem dX4_addField_63 : decode cX4_addField 63 = .ok (.iaload, 1) := by decide +kernel
theorem dX4_addField_64 : decode cX4_addField 64 = .ok (.isub, 1) := by decide +kernel
theorem dX4_addField_65 : decode cX4_addField 65 = .ok (.iconst 1, 1) := by decide +kernel
theorem dX4_addField_66 : decode cX4_addField 66 = .ok (.iadd, 1) := by decide +kernel
theorem dX4_addField_67 : decode cX4_addField 67 = .ok (.iastore, 1) := by decide +kernel
theorem dX4_addField_68 : decode cX4_addField 68 = .ok (.aload_n 0, 1) := by decide +kernel
theorem dX4_addField_69 : decode cX4_addField 69 = .ok (.getfield 52, 3) := by decide +kernel
theorem dX4_addField_72 : decode cX4_addField 72 = .ok (.iload_n 3, 1) := by decide +kernel
theorem dX4_addField_73 : decode cX4_addField 73 = .ok (.iconst 1, 1) := by decide +kernel
theorem dX4_addField_74 : decode cX4_addField 74 = .ok (.aload_n 0, 1) := by decide +kernel
theorem dX4_addField_75 : decode cX4_addField 75 = .ok (.getfield 49, 3) := by decide +kernel
theorem dX4_addField_78 : decode cX4_addField 78 = .ok (.iload_n 3, 1) := by decide +kernel
theorem dX4_addField_79 : decode cX4_addField 79 = .ok (.iaload, 1) := by decide +kernel
theorem dX4_addField_80 : decode cX4_addField 80 = .ok (.ishl, 1) := by decide +kernel
theorem dX4_addField_81 : decode cX4_addField 81 = .ok (.iconst 1, 1) := by decide +kernel
theorem dX4_addField_82 : decode cX4_addField 82 = .ok (.isub, 1) := by decide +kernel
theorem dX4_addField_83 : decode cX4_addField 83 = .ok (.aload_n 0, 1) := by decide +kernel
theorem dX4_addField_84 : decode cX4_addField 84 = .ok (.getfield 46, 3) := by decide +kernel
theorem dX4_addField_87 : decode cX4_addField 87 = .ok (.iload_n 3, 1) := by decide +kernel
theorem dX4_addField_88 : decode cX4_addField 88 = .ok (.iaload, 1) := by decide +kernel
theorem dX4_addField_89 : decode cX4_addField 89 = .ok (.ishl, 1) := by decide +kernel
theorem dX4_addField_90 : decode cX4_addField 90 = .ok (.iastore, 1) := by decide +kernel
theorem dX4_addField_91 : decode cX4_addField 91 = .ok (.aload_n 0, 1) := by decide +kernel
theorem dX4_addField_92 : decode cX4_addField 92 = .ok (.getfield 21, 3) := by decide +kernel
theorem dX4_addField_95 : decode cX4_addField 95 = .ok (.iload 4, 2) := by decide +kernel
theorem dX4_addField_97 : decode cX4_addField 97 = .ok (.dup2, 1) := by decide +kernel
theorem dX4_addField_98 : decode cX4_addField 98 = .ok (.iaload, 1) := by decide +kernel
theorem dX4_addField_99 : decode cX4_addField 99 = .ok (.aload_n 1, 1) := by decide +kernel
theorem dX4_addField_100 : decode cX4_addField 100 = .ok (.getfield 105, 3) := by decide +kernel
theorem dX4_addField_103 : decode cX4_addField 103 = .ok (.iload_n 2, 1) := by decide +kernel
theorem dX4_addField_104 : decode cX4_addField 104 = .ok (.iaload, 1) := by decide +kernel
theorem dX4_addField_105 : decode cX4_addField 105 = .ok (.aload_n 0, 1) := by decide +kernel
theorem dX4_addField_106 : decode cX4_addField 106 = .ok (.getfield 46, 3) := by decide +kernel
theorem dX4_addField_109 : decode cX4_addField 109 = .ok (.iload_n 3, 1) := by decide +kernel
theorem dX4_addField_110 : decode cX4_addField 110 = .ok (.iaload, 1) := by decide +kernel
theorem dX4_addField_111 : decode cX4_addField 111 = .ok (.ishl, 1) := by decide +kernel
theorem dX4_addField_112 : decode cX4_addField 112 = .ok (.ior, 1) := by decide +kernel
theorem dX4_addField_113 : decode cX4_addField 113 = .ok (.iastore, 1) := by decide +kernel
theorem dX4_addField_114 : decode cX4_addField 114 = .ok (.aload_n 0, 1) := by decide +kernel
theorem dX4_addField_115 : decode cX4_addField 115 = .ok (.getfield 37, 3) := by decide +kernel
theorem dX4_addField_118 : decode cX4_addField 118 = .ok (.aload_n 0, 1) := by decide +kernel
theorem dX4_addField_119 : decode cX4_addField 119 = .ok (.getfield 43, 3) := by decide +kernel
theorem dX4_addField_122 : decode cX4_addField 122 = .ok (.iload_n 3, 1) := by decide +kernel
theorem dX4_addField_123 : decode cX4_addField 123 = .ok (.iaload, 1) := by decide +kernel
theorem dX4_addField_124 : decode cX4_addField 124 = .ok (.aaload, 1) := by decide +kernel
theorem dX4_addField_125 : decode cX4_addField 125 = .ok (.iload 4, 2) := by decide +kernel
theorem dX4_addField_127 : decode cX4_addField 127 = .ok (.dup2, 1) := by decide +kernel
theorem dX4_addField_128 : decode cX4_addField 128 = .ok (.iaload, 1) := by decide +kernel
theorem dX4_addField_129 : decode cX4_addField 129 = .ok (.aload_n 0, 1) := by decide +kernel
theorem dX4_addField_130 : decode cX4_addField 130 = .ok (.getfield 52, 3) := by decide +kernel
theorem dX4_addField_133 : decode cX4_addField 133 = .ok (.iload_n 3, 1) := by decide +kernel
theorem dX4_addField_134 : decode cX4_addField 134 = .ok (.iaload, 1) := by decide +kernel
theorem dX4_addField_135 : decode cX4_addField 135 = .ok (.ior, 1) := by decide +kernel
theorem dX4_addField_136 : decode cX4_addField 136 = .ok (.iastore, 1) := by decide +kernel
theorem dX4_addField_137 : decode cX4_addField 137 = .ok (.aload_n 0, 1) := by decide +kernel
theorem dX4_addField_138 : decode cX4_addField 138 = .ok (.iload_n 3, 1) := by decide +kernel
theorem dX4_addField_139 : decode cX4_addField 139 = .ok (.invokevirtual 108, 3) := by decide +kernel
theorem dX4_addField_142 : decode cX4_addField 142 = .ok (.ifCond .eq 19, 3) := by decide +kernel
theorem dX4_addField_145 : decode cX4_addField 145 = .ok (.aload_n 0, 1) := by decide +kernel
theorem dX4_addField_146 : decode cX4_addField 146 = .ok (.getfield 24, 3) := by decide +kernel
theorem dX4_addField_149 : decode cX4_addField 149 = .ok (.iload 4, 2) := by decide +kernel
theorem dX4_addField_151 : decode cX4_addField 151 = .ok (.dup2, 1) := by decide +kernel
theorem dX4_addField_152 : decode cX4_addField 152 = .ok (.iaload, 1) := by decide +kernel
theorem dX4_addField_153 : decode cX4_addField 153 = .ok (.aload_n 0, 1) := by decide +kernel
theorem dX4_addField_154 : decode cX4_addField 154 = .ok (.getfield 52, 3) := by decide +kernel
theorem dX4_addField_157 : decode cX4_addField 157 = .ok (.iload_n 3, 1) := by decide +kernel
theorem dX4_addField_158 : decode cX4_addField 158 = .ok (.iaload, 1) := by decide +kernel
theorem dX4_addField_159 : decode cX4_addField 159 = .ok (.ior, 1) := by decide +kernel
theorem dX4_addField_160 : decode cX4_addField 160 = .ok (.iastore, 1) := by decide +kernel
theorem dX4_addField_161 : decode cX4_addField 161 = .ok (.return_, 1) := by decide +kernel
theorem dX4_follow_0 : decode cX4_follow 0 = .ok (.aload_n 0, 1) := by decide +kernel
theorem dX4_follow_1 : decode cX4_follow 1 = .ok (.aload_n 1, 1) := by decide +kernel
theorem dX4_follow_2 : decode cX4_follow 2 = .ok (.getfield 68, 3) := by decide +kernel
theorem dX4_follow_5 : decode cX4_follow 5 = .ok (.putfield 74, 3) := by decide +kernel
theorem dX4_follow_8 : decode cX4_follow 8 = .ok (.aload_n 1, 1) := by decide +kernel
theorem dX4_follow_9 : decode cX4_follow 9 = .ok (.getfield 75, 3) := by decide +kernel
theorem dX4_follow_12 : decode cX4_follow 12 = .ok (.iconst 0, 1) := by decide +kernel
theorem dX4_follow_13 : decode cX4_follow 13 = .ok (.aload_n 0, 1) := by decide +kernel
theorem dX4_follow_14 : decode cX4_follow 14 = .ok (.getfield 9, 3) := by decide +kernel
theorem dX4_follow_17 : decode cX4_follow 17 = .ok (.iconst 0, 1) := by decide +kernel
theorem dX4_follow_18 : decode cX4_follow 18 = .ok (.bipush 16, 2) := by decide +kernel
theorem dX4_follow_20 : decode cX4_follow 20 = .ok (.invokestatic 76, 3) := by decide +kernel
theorem dX4_follow_23 : decode cX4_follow 23 = .ok (.aload_n 1, 1) := by decide +kernel
theorem dX4_follow_24 : decode cX4_follow 24 = .ok (.getfield 82, 3) := by decide +kernel
theorem dX4_follow_27 : decode cX4_follow 27 = .ok (.iconst 0, 1) := by decide +kernel
theorem dX4_follow_28 : decode cX4_follow 28 = .ok (.aload_n 0, 1) := by decide +kernel
theorem dX4_follow_29 : decode cX4_follow 29 = .ok (.getfield 15, 3) := by decide +kernel
theorem dX4_follow_32 : decode cX4_follow 32 = .ok (.iconst 0, 1) := by decide +kernel
theorem dX4_follow_33 : decode cX4_follow 33 = .ok (.bipush 16, 2) := by decide +kernel
theorem dX4_follow_35 : decode cX4_follow 35 = .ok (.invokestatic 76, 3) := by decide +kernel
theorem dX4_follow_38 : decode cX4_follow 38 = .ok (.aload_n 1, 1) := by decide +kernel
theorem dX4_follow_39 : decode cX4_follow 39 = .ok (.getfield 83, 3) := by decide +kernel
theorem dX4_follow_42 : decode cX4_follow 42 = .ok (.iconst 0, 1) := by decide +kernel
theorem dX4_follow_43 : decode cX4_follow 43 = .ok (.aload_n 0, 1) := by decide +kernel
theorem dX4_follow_44 : decode cX4_follow 44 = .ok (.getfield 18, 3) := by decide +kernel
theorem dX4_follow_47 : decode cX4_follow 47 = .ok (.iconst 0, 1) := by decide +kernel
theorem dX4_follow_48 : decode cX4_follow 48 = .ok (.bipush 16, 2) := by decide +kernel
theorem dX4_follow_50 : decode cX4_follow 50 = .ok (.invokestatic 76, 3) := by decide +kernel
theorem dX4_follow_53 : decode cX4_follow 53 = .ok (.aload_n 0, 1) := by decide +kernel
theorem dX4_follow_54 : decode cX4_follow 54 = .ok (.getfield 58, 3) := by decide +kernel
theorem dX4_follow_57 : decode cX4_follow 57 = .ok (.aload_n 1, 1) := by decide +kernel
theorem dX4_follow_58 : decode cX4_follow 58 = .ok (.getfield 84, 3) := by decide +kernel
theorem dX4_follow_61 : decode cX4_follow 61 = .ok (.invokevirtual 85, 3) := by decide +kernel
theorem dX4_follow_64 : decode cX4_follow 64 = .ok (.aload_n 0, 1) := by decide +kernel
theorem dX4_follow_65 : decode cX4_follow 65 = .ok (.getfield 21, 3) := by decide +kernel
theorem dX4_follow_68 : decode cX4_follow 68 = .ok (.iconst 0, 1) := by decide +kernel
theorem dX4_follow_69 : decode cX4_follow 69 = .ok (.invokestatic 62, 3) := by decide +kernel
theorem dX4_follow_72 : decode cX4_follow 72 = .ok (.aload_n 0, 1) := by decide +kernel
theorem dX4_follow_73 : decode cX4_follow 73 = .ok (.getfield 24, 3) := by decide +kernel
theorem dX4_follow_76 : decode cX4_follow 76 = .ok (.iconst 0, 1) := by decide +kernel
theorem dX4_follow_77 : decode cX4_follow 77 = .ok (.invokestatic 62, 3) := by decide +kernel
theorem dX4_follow_80 : decode cX4_follow 80 = .ok (.iconst 0, 1) := by decide +kernel
theorem dX4_follow_81 : decode cX4_follow 81 = .ok (.istore_n 2, 1) := by decide +kernel
theorem dX4_follow_82 : decode cX4_follow 82 = .ok (.iload_n 2, 1) := by decide +kernel
theorem dX4_follow_83 : decode cX4_follow 83 = .ok (.aload_n 0, 1) := by decide +kernel
theorem dX4_follow_84 : decode cX4_follow 84 = .ok (.getfield 37, 3) := by decide +kernel
theorem dX4_follow_87 : decode cX4_follow 87 = .ok (.arraylength, 1) := by decide +kernel
theorem dX4_follow_88 : decode cX4_follow 88 = .ok (.if_icmp .ge 19, 3) := by decide +kernel
theorem dX4_follow_91 : decode cX4_follow 91 = .ok (.aload_n 0, 1) := by decide +kernel
theorem dX4_follow_92 : decode cX4_follow 92 = .ok (.getfield 37, 3) := by decide +kernel
theorem dX4_follow_95 : decode cX4_follow 95 = .ok (.iload_n 2, 1) := by decide +kernel
theorem dX4_follow_96 : decode cX4_follow 96 = .ok (.aaload, 1) := by decide +kernel
theorem dX4_follow_97 : decode cX4_follow 97 = .ok (.iconst 0, 1) := by decide +kernel
theorem dX4_follow_98 : decode cX4_follow 98 = .ok (.invokestatic 62, 3) := by decide +kernel
theorem dX4_follow_101 : decode cX4_follow 101 = .ok (.iinc 2 1, 3) := by decide +kernel
theorem dX4_follow_104 : decode cX4_follow 104 = .ok (.goto (-22), 3) := by decide +kernel
theorem dX4_follow_107 : decode cX4_follow 107 = .ok (.aload_n 0, 1) := by decide +kernel
theorem dX4_follow_108 : decode cX4_follow 108 = .ok (.getfield 40, 3) := by decide +kernel
theorem dX4_follow_111 : decode cX4_follow 111 = .ok (.iconst (-1), 1) := by decide +kernel
theorem dX4_follow_112 : decode cX4_follow 112 = .ok (.invokestatic 62, 3) := by decide +kernel
theorem dX4_follow_115 : decode cX4_follow 115 = .ok (.iconst 0, 1) := by decide +kernel
theorem dX4_follow_116 : decode cX4_follow 116 = .ok (.istore_n 2, 1) := by decide +kernel
theorem dX4_follow_117 : decode cX4_follow 117 = .ok (.iload_n 2, 1) := by decide +kernel
theorem dX4_follow_118 : decode cX4_follow 118 = .ok (.aload_n 1, 1) := by decide +kernel
theorem dX4_follow_119 : decode cX4_follow 119 = .ok (.getfield 89, 3) := by decide +kernel
theorem dX4_follow_122 : decode cX4_follow 122 = .ok (.if_icmp .ge 15, 3) := by decide +kernel
theorem dX4_follow_125 : decode cX4_follow 125 = .ok (.aload_n 0, 1) := by decide +kernel
theorem dX4_follow_126 : decode cX4_follow 126 = .ok (.aload_n 1, 1) := by decide +kernel
theorem dX4_follow_127 : decode cX4_follow 127 = .ok (.iload_n 2, 1) := by decide +kernel
theorem dX4_follow_128 : decode cX4_follow 128 = .ok (.invokevirtual 92, 3) := by decide +kernel
theorem dX4_follow_131 : decode cX4_follow 131 = .ok (.iinc 2 1, 3) := by decide +kernel
theorem dX4_follow_134 : decode cX4_follow 134 = .ok (.goto (-17), 3) := by decide +kernel
theorem dX4_follow_137 : decode cX4_follow 137 = .ok (.return_, 1) := by decide +kernel
theorem dX8_oneOf_0 : decode cX8_oneOf 0 = .ok (.aload_n 1, 1) := by decide +kernel
theorem dX8_oneOf_1 : decode cX8_oneOf 1 = .ok (.aload_n 0, 1) := by decide +kernel
theorem dX8_oneOf_2 : decode cX8_oneOf 2 = .ok (.invokevirtual 42, 3) := by decide +kernel
theorem dX8_oneOf_5 : decode cX8_oneOf 5 = .ok (.invokevirtual 149, 3) := by decide +kernel
theorem dX8_oneOf_8 : decode cX8_oneOf 8 = .ok (.istore_n 2, 1) := by decide +kernel
theorem dX8_oneOf_9 : decode cX8_oneOf 9 = .ok (.iload_n 2, 1) := by decide +kernel
theorem dX8_oneOf_10 : decode cX8_oneOf 10 = .ok (.ifCond .lt 13, 3) := by decide +kernel
theorem dX8_oneOf_13 : decode cX8_oneOf 13 = .ok (.aload_n 0, 1) := by decide +kernel
theorem dX8_oneOf_14 : decode cX8_oneOf 14 = .ok (.dup, 1) := by decide +kernel
theorem dX8_oneOf_15 : decode cX8_oneOf 15 = .ok (.getfield 32, 3) := by decide +kernel
theorem dX8_oneOf_18 : decode cX8_oneOf 18 = .ok (.iconst 1, 1) := by decide +kernel
theorem dX8_oneOf_19 : decode cX8_oneOf 19 = .ok (.iadd, 1) := by decide +kernel
theorem dX8_oneOf_20 : decode cX8_oneOf 20 = .ok (.putfield 32, 3) := by decide +kernel
theorem dX8_oneOf_23 : decode cX8_oneOf 23 = .ok (.iload_n 2, 1) := by decide +kernel
theorem dX8_oneOf_24 : decode cX8_oneOf 24 = .ok (.ifCond .lt 7, 3) := by decide +kernel
theorem dX8_oneOf_27 : decode cX8_oneOf 27 = .ok (.iload_n 2, 1) := by decide +kernel
theorem dX8_oneOf_28 : decode cX8_oneOf 28 = .ok (.goto 4, 3) := by decide +kernel
theorem dX8_oneOf_31 : decode cX8_oneOf 31 = .ok (.iconst (-1), 1) := by decide +kernel
theorem dX8_oneOf_32 : decode cX8_oneOf 32 = .ok (.ireturn, 1) := by decide +kernel
theorem dX8_readAll_16 : decode cX8_readAll 16 = .ok (.ifCond .eq 25, 3) := by decide +kernel
theorem dX8_readAll_19 : decode cX8_readAll 19 = .ok (.aload_n 0, 1) := by decide +kernel
theorem dX8_readAll_20 : decode cX8_readAll 20 = .ok (.invokevirtual 39, 3) := by decide +kernel
theorem dX8_readAll_23 : decode cX8_readAll 23 = .ok (.ifCond .eq 18, 3) := by decide +kernel
theorem dX8_readAll_26 : decode cX8_readAll 26 = .ok (.aload_n 0, 1) := by decide +kernel
theorem dX8_readAll_27 : decode cX8_readAll 27 = .ok (.getfield 32, 3) := by decide +kernel
theorem dX8_readAll_30 : decode cX8_readAll 30 = .ok (.aload_n 0, 1) := by decide +kernel
theorem dX8_readAll_31 : decode cX8_readAll 31 = .ok (.getfield 19, 3) := by decide +kernel
theorem dX8_readAll_34 : decode cX8_readAll 34 = .ok (.if_icmp .ne 7, 3) := by decide +kernel
theorem dX8_readAll_37 : decode cX8_readAll 37 = .ok (.iconst 1, 1) := by decide +kernel
theorem dX8_readAll_38 : decode cX8_readAll 38 = .ok (.goto 4, 3) := by decide +kernel
theorem dX8_readAll_41 : decode cX8_readAll 41 = .ok (.iconst 0, 1) := by decide +kernel
theorem dX8_readAll_42 : decode cX8_readAll 42 = .ok (.istore_n 1, 1) := by decide +kernel
theorem dX8_readAll_43 : decode cX8_readAll 43 = .ok (.aload_n 0, 1) := by decide +kernel
theorem dX8_readAll_44 : decode cX8_readAll 44 = .ok (.iconst 0, 1) := by decide +kernel
theorem dX8_readAll_45 : decode cX8_readAll 45 = .ok (.putfield 19, 3) := by decide +kernel
theorem dX8_readAll_48 : decode cX8_readAll 48 = .ok (.iload_n 1, 1) := by decide +kernel
theorem dX8_readAll_49 : decode cX8_readAll 49 = .ok (.ireturn, 1) := by decide +kernel
theorem dX8_readField_57 : decode cX8_readField 57 = .ok (.iconst 0, 1) := by decide +kernel
theorem dX8_readField_58 : decode cX8_readField 58 = .ok (.ireturn, 1) := by decide +kernel
theorem dX8_readField_70 : decode cX8_readField 70 = .ok (.invokevirtual 115, 3) := by decide +kernel
theorem dX8_readField_73 : decode cX8_readField 73 = .ok (.iastore, 1) := by decide +kernel
theorem dX8_readField_74 : decode cX8_readField 74 = .ok (.aload_n 0, 1) := by decide +kernel
theorem dX8_readField_75 : decode cX8_readField 75 = .ok (.getfield 15, 3) := by decide +kernel
theorem dX8_readField_78 : decode cX8_readField 78 = .ok (.getfield 110, 3) := by decide +kernel
theorem dX8_readField_81 : decode cX8_readField 81 = .ok (.iload_n 2, 1) := by decide +kernel
theorem dX8_readField_82 : decode cX8_readField 82 = .ok (.iaload, 1) := by decide +kernel
theorem dX8_readField_83 : decode cX8_readField 83 = .ok (.iconst (-1), 1) := by decide +kernel
theorem dX8_readField_84 : decode cX8_readField 84 = .ok (.if_icmp .ne 5, 3) := by decide +kernel
theorem dX8_readField_87 : decode cX8_readField 87 = .ok (.iconst 0, 1) := by decide +kernel
theorem dX8_readField_88 : decode cX8_readField 88 = .ok (.ireturn, 1) := by decide +kernel
theorem dX8_readField_89 : decode cX8_readField 89 = .ok (.aload_n 0, 1) := by decide +kernel
theorem dX8_readField_90 : decode cX8_readField 90 = .ok (.getfield 15, 3) := by decide +kernel
theorem dX8_readField_93 : decode cX8_readField 93 = .ok (.getfield 119, 3) := by decide +kernel
theorem dX8_readField_96 : decode cX8_readField 96 = .ok (.iload_n 2, 1) := by decide +kernel
theorem dX8_readField_97 : decode cX8_readField 97 = .ok (.aload_n 0, 1) := by decide +kernel
theorem dX8_readField_98 : decode cX8_readField 98 = .ok (.bipush 10, 2) := by decide +kernel
theorem dX8_readField_100 : decode cX8_readField 100 = .ok (.iconst 1, 1) := by decide +kernel
theorem dX8_readField_101 : decode cX8_readField 101 = .ok (.iconst 2, 1) := by decide +kernel
theorem dX8_readField_102 : decode cX8_readField 102 = .ok (.invokevirtual 76, 3) := by decide +kernel
theorem dX8_readField_105 : decode cX8_readField 105 = .ok (.iastore, 1) := by decide +kernel
theorem dX8_readField_106 : decode cX8_readField 106 = .ok (.aload_n 0, 1) := by decide +kernel
theorem dX8_readField_107 : decode cX8_readField 107 = .ok (.getfield 15, 3) := by decide +kernel
theorem dX8_readField_110 : decode cX8_readField 110 = .ok (.getfield 119, 3) := by decide +kernel
theorem dX8_readField_113 : decode cX8_readField 113 = .ok (.iload_n 2, 1) := by decide +kernel
theorem dX8_readField_114 : decode cX8_readField 114 = .ok (.iaload, 1) := by decide +kernel
theorem dX8_readField_115 : decode cX8_readField 115 = .ok (.iconst (-1), 1) := by decide +kernel
theorem dX8_readField_116 : decode cX8_readField 116 = .ok (.if_icmp .eq 12, 3) := by decide +kernel
theorem dX8_readField_119 : decode cX8_readField 119 = .ok (.aload_n 0, 1) := by decide +kernel
theorem dX8_readField_120 : decode cX8_readField 120 = .ok (.bipush 58, 2) := by decide +kernel
theorem dX8_readField_122 : decode cX8_readField 122 = .ok (.invokevirtual 69, 3) := by decide +kernel
theorem dX8_readField_125 : decode cX8_readField 125 = .ok (.ifCond .ne 5, 3) := by decide +kernel
theorem dX8_readField_128 : decode cX8_readField 128 = .ok (.iconst 0, 1) := by decide +kernel
theorem dX8_readField_129 : decode cX8_readField 129 = .ok (.ireturn, 1) := by decide +kernel
theorem dX8_readField_130 : decode cX8_readField 130 = .ok (.aload_n 0, 1) := by decide +kernel
theorem dX8_readField_131 : decode cX8_readField 131 = .ok (.getfield 15, 3) := by decide +kernel
theorem dX8_readField_134 : decode cX8_readField 134 = .ok (.getfield 122, 3) := by decide +kernel
theorem dX8_readField_137 : decode cX8_readField 137 = .ok (.iload_n 2, 1) := by decide +kernel
theorem dX8_readField_138 : decode cX8_readField 138 = .ok (.aload_n 0, 1) := by decide +kernel
theorem dX8_readField_139 : decode cX8_readField 139 = .ok (.bipush 10, 2) := by decide +kernel
theorem dX8_readField_141 : decode cX8_readField 141 = .ok (.iconst 1, 1) := by decide +kernel
theorem dX8_readField_142 : decode cX8_readField 142 = .ok (.iconst 2, 1) := by decide +kernel
theorem dX8_readField_143 : decode cX8_readField 143 = .ok (.invokevirtual 76, 3) := by decide +kernel
theorem dX8_readField_146 : decode cX8_readField 146 = .ok (.iastore, 1) := by decide +kernel
theorem dX8_readField_147 : decode cX8_readField 147 = .ok (.aload_n 0, 1) := by decide +kernel
theorem dX8_readField_148 : decode cX8_readField 148 = .ok (.getfield 15, 3) := by decide +kernel
theorem dX8_readField_151 : decode cX8_readField 151 = .ok (.getfield 122, 3) := by decide +kernel
theorem dX8_readField_154 : decode cX8_readField 154 = .ok (.iload_n 2, 1) := by decide +kernel
theorem dX8_readField_155 : decode cX8_readField 155 = .ok (.iaload, 1) := by decide +kernel
theorem dX8_readField_156 : decode cX8_readField 156 = .ok (.iconst (-1), 1) := by decide +kernel
theorem dX8_readField_157 : decode cX8_readField 157 = .ok (.if_icmp .ne 5, 3) := by decide +kernel
theorem dX8_readField_160 : decode cX8_readField 160 = .ok (.iconst 0, 1) := by decide +kernel
theorem dX8_readField_161 : decode cX8_readField 161 = .ok (.ireturn, 1) := by decide +kernel
theorem dX8_readField_162 : decode cX8_readField 162 = .ok (.aload_n 0, 1) := by decide +kernel
theorem dX8_readField_163 : decode cX8_readField 163 = .ok (.getfield 15, 3) := by decide +kernel
theorem dX8_readField_166 : decode cX8_readField 166 = .ok (.getfield 125, 3) := by decide +kernel
theorem dX8_readField_169 : decode cX8_readField 169 = .ok (.iload_n 2, 1) := by decide +kernel
theorem dX8_readField_170 : decode cX8_readField 170 = .ok (.aload_n 0, 1) := by decide +kernel
theorem dX8_readField_171 : decode cX8_readField 171 = .ok (.invokevirtual 42, 3) := by decide +kernel
theorem dX8_readField_174 : decode cX8_readField 174 = .ok (.bipush 61, 2) := by decide +kernel
theorem dX8_readField_176 : decode cX8_readField 176 = .ok (.if_icmp .ne 10, 3) := by decide +kernel
theorem dX8_readField_179 : decode cX8_readField 179 = .ok (.aload_n 0, 1) := by decide +kernel
theorem dX8_readField_180 : decode cX8_readField 180 = .ok (.invokevirtual 128, 3) := by decide +kernel
theorem dX8_readField_183 : decode cX8_readField 183 = .ok (.goto 4, 3) := by decide +kernel
theorem dX8_readField_186 : decode cX8_readField 186 = .ok (.iconst 0, 1) := by decide +kernel
theorem dX8_readField_187 : decode cX8_readField 187 = .ok (.iastore, 1) := by decide +kernel
theorem dX8_readField_188 : decode cX8_readField 188 = .ok (.aload_n 0, 1) := by decide +kernel
theorem dX8_readField_189 : decode cX8_readField 189 = .ok (.getfield 15, 3) := by decide +kernel
theorem dX8_readField_192 : decode cX8_readField 192 = .ok (.iload_n 2, 1) := by decide +kernel
theorem dX8_readField_193 : decode cX8_readField 193 = .ok (.iconst 1, 1) := by decide +kernel
theorem dX8_readField_194 : decode cX8_readField 194 = .ok (.iadd, 1) := by decide +kernel
theorem dX8_readField_195 : decode cX8_readField 195 = .ok (.putfield 99, 3) := by decide +kernel
theorem dX8_readField_198 : decode cX8_readField 198 = .ok (.aload_n 0, 1) := by decide +kernel
theorem dX8_readField_199 : decode cX8_readField 199 = .ok (.getfield 15, 3) := by decide +kernel
theorem dX8_readField_202 : decode cX8_readField 202 = .ok (.getfield 125, 3) := by decide +kernel
theorem dX8_readField_205 : decode cX8_readField 205 = .ok (.iload_n 2, 1) := by decide +kernel
theorem dX8_readField_206 : decode cX8_readField 206 = .ok (.iaload, 1) := by decide +kernel
theorem dX8_readField_207 : decode cX8_readField 207 = .ok (.iconst (-1), 1) := by decide +kernel
theorem dX8_readField_208 : decode cX8_readField 208 = .ok (.if_icmp .eq 16, 3) := by decide +kernel
theorem dX8_readField_211 : decode cX8_readField 211 = .ok (.aload_n 0, 1) := by decide +kernel
theorem dX8_readField_212 : decode cX8_readField 212 = .ok (.bipush 59, 2) := by decide +kernel
theorem dX8_readField_214 : decode cX8_readField 214 = .ok (.invokevirtual 69, 3) := by decide +kernel
theorem dX8_readField_217 : decode cX8_readField 217 = .ok (.ifCond .eq 7, 3) := by decide +kernel
theorem dX8_readField_220 : decode cX8_readField 220 = .ok (.iconst 1, 1) := by decide +kernel
theorem dX8_readField_221 : decode cX8_readField 221 = .ok (.goto 4, 3) := by decide +kernel
theorem dX8_readField_224 : decode cX8_readField 224 = .ok (.iconst 0, 1) := by decide +kernel
theorem dX8_readField_225 : decode cX8_readField 225 = .ok (.ireturn, 1) := by decide +kernel
theorem dX8_readRegister_22 : decode cX8_readRegister 22 = .ok (.iconst 0, 1) := by decide +kernel
theorem dX8_readRegister_23 : decode cX8_readRegister 23 = .ok (.ireturn, 1) := by decide +kernel
theorem dX8_readRegister_85 : decode cX8_readRegister 85 = .ok (.aload_n 0, 1) := by decide +kernel
theorem dX8_readRegister_86 : decode cX8_readRegister 86 = .ok (.invokevirtual 42, 3) := by decide +kernel
theorem dX8_readRegister_89 : decode cX8_readRegister 89 = .ok (.bipush 125, 2) := by decide +kernel
theorem dX8_readRegister_91 : decode cX8_readRegister 91 = .ok (.if_icmp .ne 6, 3) := by decide +kernel
theorem dX8_readRegister_94 : decode cX8_readRegister 94 = .ok (.goto 19, 3) := by decide +kernel
theorem dX8_readRegister_102 : decode cX8_readRegister 102 = .ok (.ifCond .ne 5, 3) := by decide +kernel
theorem dX8_readRegister_105 : decode cX8_readRegister 105 = .ok (.iconst 0, 1) := by decide +kernel
theorem dX8_readRegister_106 : decode cX8_readRegister 106 = .ok (.ireturn, 1) := by decide +kernel
theorem dX8_readRegister_107 : decode cX8_readRegister 107 = .ok (.iinc 2 1, 3) := by decide +kernel
theorem dX8_readRegister_110 : decode cX8_readRegister 110 = .ok (.goto (-35), 3) := by decide +kernel
theorem dX8_readRegisters_12 : decode cX8_readRegisters 12 = .ok (.aload_n 0, 1) := by decide +kernel
theorem dX8_readRegisters_13 : decode cX8_readRegisters 13 = .ok (.invokevirtual 42, 3) := by decide +kernel
theorem dX8_readRegisters_16 : decode cX8_readRegisters 16 = .ok (.bipush 64, 2) := by decide +kernel
theorem dX8_readRegisters_18 : decode cX8_readRegisters 18 = .ok (.if_icmp .eq 6, 3) := by decide +kernel
theorem dX8_readRegisters_21 : decode cX8_readRegisters 21 = .ok (.goto 29, 3) := by decide +kernel
theorem dX8_readRegisters_29 : decode cX8_readRegisters 29 = .ok (.ifCond .ne 5, 3) := by decide +kernel
theorem dX8_readRegisters_32 : decode cX8_readRegisters 32 = .ok (.iconst 0, 1) := by decide +kernel
theorem dX8_readRegisters_33 : decode cX8_readRegisters 33 = .ok (.ireturn, 1) := by decide +kernel
theorem dX8_readRegisters_34 : decode cX8_readRegisters 34 = .ok (.aload_n 0, 1) := by decide +kernel
theorem dX8_readRegisters_35 : decode cX8_readRegisters 35 = .ok (.getfield 15, 3) := by decide +kernel
theorem dX8_readRegisters_38 : decode cX8_readRegisters 38 = .ok (.iload_n 1, 1) := by decide +kernel
theorem dX8_readRegisters_39 : decode cX8_readRegisters 39 = .ok (.iconst 1, 1) := by decide +kernel
theorem dX8_readRegisters_40 : decode cX8_readRegisters 40 = .ok (.iadd, 1) := by decide +kernel
theorem dX8_readRegisters_41 : decode cX8_readRegisters 41 = .ok (.putfield 50, 3) := by decide +kernel
theorem dX8_readRegisters_44 : decode cX8_readRegisters 44 = .ok (.iinc 1 1, 3) := by decide +kernel
theorem dX8_readRegisters_47 : decode cX8_readRegisters 47 = .ok (.goto (-45), 3) := by decide +kernel
theorem dX8_readRule_38 : decode cX8_readRule 38 = .ok (.iconst 0, 1) := by decide +kernel
theorem dX8_readRule_39 : decode cX8_readRule 39 = .ok (.ireturn, 1) := by decide +kernel
theorem dX8_readRule_48 : decode cX8_readRule 48 = .ok (.invokevirtual 115, 3) := by decide +kernel
theorem dX8_readRule_51 : decode cX8_readRule 51 = .ok (.iastore, 1) := by decide +kernel
theorem dX8_readRule_52 : decode cX8_readRule 52 = .ok (.aload_n 2, 1) := by decide +kernel
theorem dX8_readRule_53 : decode cX8_readRule 53 = .ok (.getfield 137, 3) := by decide +kernel
theorem dX8_readRule_56 : decode cX8_readRule 56 = .ok (.iload_n 1, 1) := by decide +kernel
theorem dX8_readRule_57 : decode cX8_readRule 57 = .ok (.iaload, 1) := by decide +kernel
theorem dX8_readRule_58 : decode cX8_readRule 58 = .ok (.iconst (-1), 1) := by decide +kernel
theorem dX8_readRule_59 : decode cX8_readRule 59 = .ok (.if_icmp .ne 5, 3) := by decide +kernel
theorem dX8_readRule_62 : decode cX8_readRule 62 = .ok (.iconst 0, 1) := by decide +kernel
theorem dX8_readRule_63 : decode cX8_readRule 63 = .ok (.ireturn, 1) := by decide +kernel
theorem dX8_readRule_64 : decode cX8_readRule 64 = .ok (.aload_n 2, 1) := by decide +kernel
theorem dX8_readRule_65 : decode cX8_readRule 65 = .ok (.getfield 142, 3) := by decide +kernel
theorem dX8_readRule_68 : decode cX8_readRule 68 = .ok (.iload_n 1, 1) := by decide +kernel
theorem dX8_readRule_69 : decode cX8_readRule 69 = .ok (.aload_n 0, 1) := by decide +kernel
theorem dX8_readRule_70 : decode cX8_readRule 70 = .ok (.getfield 32, 3) := by decide +kernel
theorem dX8_readRule_73 : decode cX8_readRule 73 = .ok (.iastore, 1) := by decide +kernel
theorem dX8_readRule_74 : decode cX8_readRule 74 = .ok (.aload_n 2, 1) := by decide +kernel
theorem dX8_readRule_75 : decode cX8_readRule 75 = .ok (.getfield 145, 3) := by decide +kernel
theorem dX8_readRule_78 : decode cX8_readRule 78 = .ok (.iload_n 1, 1) := by decide +kernel
theorem dX8_readRule_79 : decode cX8_readRule 79 = .ok (.aload_n 0, 1) := by decide +kernel
theorem dX8_readRule_80 : decode cX8_readRule 80 = .ok (.invokevirtual 92, 3) := by decide +kernel
theorem dX8_readRule_83 : decode cX8_readRule 83 = .ok (.iastore, 1) := by decide +kernel
theorem dX8_readRule_84 : decode cX8_readRule 84 = .ok (.aload_n 2, 1) := by decide +kernel
theorem dX8_readRule_85 : decode cX8_readRule 85 = .ok (.getfield 145, 3) := by decide +kernel
theorem dX8_readRule_88 : decode cX8_readRule 88 = .ok (.iload_n 1, 1) := by decide +kernel
theorem dX8_readRule_89 : decode cX8_readRule 89 = .ok (.iaload, 1) := by decide +kernel
theorem dX8_readRule_90 : decode cX8_readRule 90 = .ok (.iconst (-1), 1) := by decide +kernel
theorem dX8_readRule_91 : decode cX8_readRule 91 = .ok (.if_icmp .ne 5, 3) := by decide +kernel
theorem dX8_readRule_94 : decode cX8_readRule 94 = .ok (.iconst 0, 1) := by decide +kernel
theorem dX8_readRule_95 : decode cX8_readRule 95 = .ok (.ireturn, 1) := by decide +kernel
theorem dX8_readRule_96 : decode cX8_readRule 96 = .ok (.aload_n 2, 1) := by decide +kernel
theorem dX8_readRule_97 : decode cX8_readRule 97 = .ok (.getfield 148, 3) := by decide +kernel
theorem dX8_readRule_100 : decode cX8_readRule 100 = .ok (.iload_n 1, 1) := by decide +kernel
theorem dX8_readRule_101 : decode cX8_readRule 101 = .ok (.aload_n 2, 1) := by decide +kernel
theorem dX8_readRule_102 : decode cX8_readRule 102 = .ok (.getfield 137, 3) := by decide +kernel
theorem dX8_readRule_105 : decode cX8_readRule 105 = .ok (.iload_n 1, 1) := by decide +kernel
theorem dX8_readRule_106 : decode cX8_readRule 106 = .ok (.iaload, 1) := by decide +kernel
theorem dX8_readRule_107 : decode cX8_readRule 107 = .ok (.iconst 1, 1) := by decide +kernel
theorem dX8_readRule_108 : decode cX8_readRule 108 = .ok (.if_icmp .ne 10, 3) := by decide +kernel
theorem dX8_readRule_111 : decode cX8_readRule 111 = .ok (.aload_n 0, 1) := by decide +kernel
theorem dX8_readRule_112 : decode cX8_readRule 112 = .ok (.invokevirtual 128, 3) := by decide +kernel
theorem dX8_readRule_115 : decode cX8_readRule 115 = .ok (.goto 4, 3) := by decide +kernel
theorem dX8_readRule_118 : decode cX8_readRule 118 = .ok (.iconst 0, 1) := by decide +kernel
theorem dX8_readRule_119 : decode cX8_readRule 119 = .ok (.iastore, 1) := by decide +kernel
theorem dX8_readRule_120 : decode cX8_readRule 120 = .ok (.aload_n 2, 1) := by decide +kernel
theorem dX8_readRule_121 : decode cX8_readRule 121 = .ok (.getfield 148, 3) := by decide +kernel
theorem dX8_readRule_124 : decode cX8_readRule 124 = .ok (.iload_n 1, 1) := by decide +kernel
theorem dX8_readRule_125 : decode cX8_readRule 125 = .ok (.iaload, 1) := by decide +kernel
theorem dX8_readRule_126 : decode cX8_readRule 126 = .ok (.iconst (-1), 1) := by decide +kernel
theorem dX8_readRule_127 : decode cX8_readRule 127 = .ok (.if_icmp .eq 16, 3) := by decide +kernel
theorem dX8_readRule_130 : decode cX8_readRule 130 = .ok (.aload_n 0, 1) := by decide +kernel
theorem dX8_readRule_131 : decode cX8_readRule 131 = .ok (.bipush 59, 2) := by decide +kernel
theorem dX8_readRule_133 : decode cX8_readRule 133 = .ok (.invokevirtual 69, 3) := by decide +kernel
theorem dX8_readRule_136 : decode cX8_readRule 136 = .ok (.ifCond .eq 7, 3) := by decide +kernel
theorem dX8_readRule_139 : decode cX8_readRule 139 = .ok (.iconst 1, 1) := by decide +kernel
theorem dX8_readRule_140 : decode cX8_readRule 140 = .ok (.goto 4, 3) := by decide +kernel
theorem dX8_readRule_143 : decode cX8_readRule 143 = .ok (.iconst 0, 1) := by decide +kernel
theorem dX8_readRule_144 : decode cX8_readRule 144 = .ok (.ireturn, 1) := by decide +kernel
theorem dX8_readRules_19 : decode cX8_readRules 19 = .ok (.goto 32, 3) := by decide +kernel
theorem dX8_readRules_27 : decode cX8_readRules 27 = .ok (.ifCond .ne 5, 3) := by decide +kernel
theorem dX8_readRules_30 : decode cX8_readRules 30 = .ok (.iconst 0, 1) := by decide +kernel
theorem dX8_readRules_31 : decode cX8_readRules 31 = .ok (.ireturn, 1) := by decide +kernel
theorem dX8_readRules_32 : decode cX8_readRules 32 = .ok (.aload_n 0, 1) := by decide +kernel
theorem dX8_readRules_33 : decode cX8_readRules 33 = .ok (.getfield 15, 3) := by decide +kernel
theorem dX8_readRules_36 : decode cX8_readRules 36 = .ok (.getfield 56, 3) := by decide +kernel
theorem dX8_readRules_39 : decode cX8_readRules 39 = .ok (.iload_n 1, 1) := by decide +kernel
theorem dX8_readRules_40 : decode cX8_readRules 40 = .ok (.iconst 1, 1) := by decide +kernel
theorem dX8_readRules_41 : decode cX8_readRules 41 = .ok (.iadd, 1) := by decide +kernel
theorem dX8_readRules_42 : decode cX8_readRules 42 = .ok (.putfield 60, 3) := by decide +kernel
theorem dX8_readRules_45 : decode cX8_readRules 45 = .ok (.iinc 1 1, 3) := by decide +kernel
theorem dX8_readRules_48 : decode cX8_readRules 48 = .ok (.goto (-46), 3) := by decide +kernel
theorem dX9_copy_0 : decode cX9_copy 0 = .ok (.aload_n 0, 1) := by decide +kernel
theorem dX9_copy_1 : decode cX9_copy 1 = .ok (.aload_n 1, 1) := by decide +kernel
theorem dX9_copy_2 : decode cX9_copy 2 = .ok (.getfield 30, 3) := by decide +kernel
theorem dX9_copy_5 : decode cX9_copy 5 = .ok (.putfield 30, 3) := by decide +kernel
theorem dX9_copy_8 : decode cX9_copy 8 = .ok (.aload_n 1, 1) := by decide +kernel
theorem dX9_copy_9 : decode cX9_copy 9 = .ok (.getfield 9, 3) := by decide +kernel
theorem dX9_copy_12 : decode cX9_copy 12 = .ok (.iconst 0, 1) := by decide +kernel
theorem dX9_copy_13 : decode cX9_copy 13 = .ok (.aload_n 0, 1) := by decide +kernel
theorem dX9_copy_14 : decode cX9_copy 14 = .ok (.getfield 9, 3) := by decide +kernel
theorem dX9_copy_17 : decode cX9_copy 17 = .ok (.iconst 0, 1) := by decide +kernel
theorem dX9_copy_18 : decode cX9_copy 18 = .ok (.bipush 12, 2) := by decide +kernel
theorem dX9_copy_20 : decode cX9_copy 20 = .ok (.invokestatic 34, 3) := by decide +kernel
theorem dX9_copy_23 : decode cX9_copy 23 = .ok (.aload_n 1, 1) := by decide +kernel
theorem dX9_copy_24 : decode cX9_copy 24 = .ok (.getfield 15, 3) := by decide +kernel
theorem dX9_copy_27 : decode cX9_copy 27 = .ok (.iconst 0, 1) := by decide +kernel
theorem dX9_copy_28 : decode cX9_copy 28 = .ok (.aload_n 0, 1) := by decide +kernel
theorem dX9_copy_29 : decode cX9_copy 29 = .ok (.getfield 15, 3) := by decide +kernel
theorem dX9_copy_32 : decode cX9_copy 32 = .ok (.iconst 0, 1) := by decide +kernel
theorem dX9_copy_33 : decode cX9_copy 33 = .ok (.bipush 12, 2) := by decide +kernel
theorem dX9_copy_35 : decode cX9_copy 35 = .ok (.invokestatic 34, 3) := by decide +kernel
theorem dX9_copy_38 : decode cX9_copy 38 = .ok (.aload_n 1, 1) := by decide +kernel
theorem dX9_copy_39 : decode cX9_copy 39 = .ok (.getfield 18, 3) := by decide +kernel
theorem dX9_copy_42 : decode cX9_copy 42 = .ok (.iconst 0, 1) := by decide +kernel
theorem dX9_copy_43 : decode cX9_copy 43 = .ok (.aload_n 0, 1) := by decide +kernel
theorem dX9_copy_44 : decode cX9_copy 44 = .ok (.getfield 18, 3) := by decide +kernel
theorem dX9_copy_47 : decode cX9_copy 47 = .ok (.iconst 0, 1) := by decide +kernel
theorem dX9_copy_48 : decode cX9_copy 48 = .ok (.bipush 12, 2) := by decide +kernel
theorem dX9_copy_50 : decode cX9_copy 50 = .ok (.invokestatic 34, 3) := by decide +kernel
theorem dX9_copy_53 : decode cX9_copy 53 = .ok (.aload_n 1, 1) := by decide +kernel
theorem dX9_copy_54 : decode cX9_copy 54 = .ok (.getfield 21, 3) := by decide +kernel
theorem dX9_copy_57 : decode cX9_copy 57 = .ok (.iconst 0, 1) := by decide +kernel
theorem dX9_copy_58 : decode cX9_copy 58 = .ok (.aload_n 0, 1) := by decide +kernel
theorem dX9_copy_59 : decode cX9_copy 59 = .ok (.getfield 21, 3) := by decide +kernel
theorem dX9_copy_62 : decode cX9_copy 62 = .ok (.iconst 0, 1) := by decide +kernel
theorem dX9_copy_63 : decode cX9_copy 63 = .ok (.bipush 12, 2) := by decide +kernel
theorem dX9_copy_65 : decode cX9_copy 65 = .ok (.invokestatic 34, 3) := by decide +kernel
theorem dX9_copy_68 : decode cX9_copy 68 = .ok (.return_, 1) := by decide +kernel
set_option maxRecDepth 20000 in
theorem wd_0_3 : Jvm.Cond.initialized "ChipMap$Rules" ∈ GT := gt_in (in_t0 (List.mem_of_getElem? (i := 3) rfl)) rfl
set_option maxRecDepth 20000 in
theorem wd_0_7 : Jvm.Cond.initialized "java/lang/String" ∈ GT := gt_in (in_t0 (List.mem_of_getElem? (i := 7) rfl)) rfl
set_option maxRecDepth 20000 in
theorem wd_0_16 : Jvm.Cond.initialized "java/lang/StringLatin1" ∈ GT := gt_in (in_t0 (List.mem_of_getElem? (i := 16) rfl)) rfl
set_option maxRecDepth 20000 in
theorem wd_0_49 : Jvm.Cond.fieldLink "ChipMap$Rules" (30 : Nat) "ChipMap$Rules" "count" "I" ∈ GT := gt_in (in_t0 (List.mem_of_getElem? (i := 49) rfl)) rfl
set_option maxRecDepth 20000 in
theorem wd_0_52 : Jvm.Cond.fieldLink "ChipMap$Reader" (60 : Nat) "ChipMap$Rules" "count" "I" ∈ GT := gt_in (in_t0 (List.mem_of_getElem? (i := 52) rfl)) rfl
set_option maxRecDepth 20000 in
theorem wd_0_55 : Jvm.Cond.fieldLink "ChipMap$Rules" (9 : Nat) "ChipMap$Rules" "kind" "[I" ∈ GT := gt_in (in_t0 (List.mem_of_getElem? (i := 55) rfl)) rfl
set_option maxRecDepth 20000 in
theorem wd_0_59 : Jvm.Cond.fieldLink "ChipMap$Rules" (15 : Nat) "ChipMap$Rules" "a" "[I" ∈ GT := gt_in (in_t0 (List.mem_of_getElem? (i := 59) rfl)) rfl
set_option maxRecDepth 20000 in
theorem wd_0_63 : Jvm.Cond.fieldLink "ChipMap$Rules" (18 : Nat) "ChipMap$Rules" "b" "[I" ∈ GT := gt_in (in_t0 (List.mem_of_getElem? (i := 63) rfl)) rfl
set_option maxRecDepth 20000 in
theorem wd_0_66 : Jvm.Cond.fieldLink "ChipMap$Reader" (145 : Nat) "ChipMap$Rules" "b" "[I" ∈ GT := gt_in (in_t0 (List.mem_of_getElem? (i := 66) rfl)) rfl
set_option maxRecDepth 20000 in
theorem wd_0_67 : Jvm.Cond.fieldLink "ChipMap$Rules" (21 : Nat) "ChipMap$Rules" "value" "[I" ∈ GT := gt_in (in_t0 (List.mem_of_getElem? (i := 67) rfl)) rfl
set_option maxRecDepth 20000 in
theorem wd_0_70 : Jvm.Cond.fieldLink "ChipMap$Reader" (148 : Nat) "ChipMap$Rules" "value" "[I" ∈ GT := gt_in (in_t0 (List.mem_of_getElem? (i := 70) rfl)) rfl
set_option maxRecDepth 20000 in
theorem wd_0_76 : Jvm.Cond.fieldLink "ChipMap$Reader" (142 : Nat) "ChipMap$Rules" "placeOfB" "[I" ∈ GT := gt_in (in_t0 (List.mem_of_getElem? (i := 76) rfl)) rfl
set_option maxRecDepth 20000 in
theorem wd_0_94 : Jvm.Cond.fieldLink "ChipMap$Layout" (68 : Nat) "ChipMap$Draft" "registers" "I" ∈ GT := gt_in (in_t0 (List.mem_of_getElem? (i := 94) rfl)) rfl
set_option maxRecDepth 20000 in
theorem wd_0_96 : Jvm.Cond.fieldLink "ChipMap$Reader" (50 : Nat) "ChipMap$Draft" "registers" "I" ∈ GT := gt_in (in_t0 (List.mem_of_getElem? (i := 96) rfl)) rfl
set_option maxRecDepth 20000 in
theorem wd_0_101 : Jvm.Cond.fieldLink "ChipMap$Layout" (75 : Nat) "ChipMap$Draft" "offset" "[I" ∈ GT := gt_in (in_t0 (List.mem_of_getElem? (i := 101) rfl)) rfl
set_option maxRecDepth 20000 in
theorem wd_0_105 : Jvm.Cond.fieldLink "ChipMap$Layout" (82 : Nat) "ChipMap$Draft" "bank" "[I" ∈ GT := gt_in (in_t0 (List.mem_of_getElem? (i := 105) rfl)) rfl
set_option maxRecDepth 20000 in
theorem wd_0_112 : Jvm.Cond.fieldLink "ChipMap$Layout" (83 : Nat) "ChipMap$Draft" "digit" "[I" ∈ GT := gt_in (in_t0 (List.mem_of_getElem? (i := 112) rfl)) rfl
set_option maxRecDepth 20000 in
theorem wd_0_116 : Jvm.Cond.fieldLink "ChipMap$Layout" (89 : Nat) "ChipMap$Draft" "fields" "I" ∈ GT := gt_in (in_t0 (List.mem_of_getElem? (i := 116) rfl)) rfl
set_option maxRecDepth 20000 in
theorem wd_0_120 : Jvm.Cond.fieldLink "ChipMap$Layout" (96 : Nat) "ChipMap$Draft" "name" "[I" ∈ GT := gt_in (in_t0 (List.mem_of_getElem? (i := 120) rfl)) rfl
set_option maxRecDepth 20000 in
theorem wd_0_127 : Jvm.Cond.fieldLink "ChipMap$Layout" (99 : Nat) "ChipMap$Draft" "home" "[I" ∈ GT := gt_in (in_t0 (List.mem_of_getElem? (i := 127) rfl)) rfl
set_option maxRecDepth 20000 in
theorem wd_0_131 : Jvm.Cond.fieldLink "ChipMap$Layout" (100 : Nat) "ChipMap$Draft" "access" "[I" ∈ GT := gt_in (in_t0 (List.mem_of_getElem? (i := 131) rfl)) rfl
set_option maxRecDepth 20000 in
theorem wd_0_136 : Jvm.Cond.fieldLink "ChipMap$Layout" (102 : Nat) "ChipMap$Draft" "high" "[I" ∈ GT := gt_in (in_t0 (List.mem_of_getElem? (i := 136) rfl)) rfl
set_option maxRecDepth 20000 in
theorem wd_0_137 : Jvm.Cond.fieldLink "ChipMap$Reader" (119 : Nat) "ChipMap$Draft" "high" "[I" ∈ GT := gt_in (in_t0 (List.mem_of_getElem? (i := 137) rfl)) rfl
set_option maxRecDepth 20000 in
theorem wd_0_139 : Jvm.Cond.fieldLink "ChipMap$Layout" (101 : Nat) "ChipMap$Draft" "low" "[I" ∈ GT := gt_in (in_t0 (List.mem_of_getElem? (i := 139) rfl)) rfl
set_option maxRecDepth 20000 in
theorem wd_0_141 : Jvm.Cond.fieldLink "ChipMap$Reader" (122 : Nat) "ChipMap$Draft" "low" "[I" ∈ GT := gt_in (in_t0 (List.mem_of_getElem? (i := 141) rfl)) rfl
set_option maxRecDepth 20000 in
theorem wd_0_143 : Jvm.Cond.fieldLink "ChipMap$Layout" (105 : Nat) "ChipMap$Draft" "value" "[I" ∈ GT := gt_in (in_t0 (List.mem_of_getElem? (i := 143) rfl)) rfl
set_option maxRecDepth 20000 in
theorem wd_0_145 : Jvm.Cond.fieldLink "ChipMap$Reader" (125 : Nat) "ChipMap$Draft" "value" "[I" ∈ GT := gt_in (in_t0 (List.mem_of_getElem? (i := 145) rfl)) rfl
set_option maxRecDepth 20000 in
theorem wd_0_147 : Jvm.Cond.fieldLink "ChipMap$Layout" (84 : Nat) "ChipMap$Draft" "rules" "LChipMap$Rules;" ∈ GT := gt_in (in_t0 (List.mem_of_getElem? (i := 147) rfl)) rfl
set_option maxRecDepth 20000 in
theorem wd_0_190 : Jvm.Cond.fieldLink "ChipMap" (84 : Nat) "ChipMap$Reader" "at" "I" ∈ GT := gt_in (in_t0 (List.mem_of_getElem? (i := 190) rfl)) rfl
set_option maxRecDepth 20000 in
theorem wd_0_228 : Jvm.Cond.instanceMethod ({ cls := "java/lang/String", name := "length", desc := "()I" } : Jvm.MethodName) ∈ GT := gt_in (in_t0 (List.mem_of_getElem? (i := 228) rfl)) rfl
set_option maxRecDepth 20000 in
theorem wd_0_229 : Jvm.Cond.selects "java/lang/String" ({ cls := "java/lang/String", name := "length", desc := "()I" } : Jvm.MethodName) ({ cls := "java/lang/String", name := "length", desc := "()I" } : Jvm.MethodName) ∈ GT := gt_in (in_t0 (List.mem_of_getElem? (i := 229) rfl)) rfl
set_option maxRecDepth 20000 in
theorem wd_0_230 : Jvm.Cond.code ({ cls := "java/lang/String", name := "length", desc := "()I" } : Jvm.MethodName) prog_23_method_54_code (1 : Nat) (Option.some Jvm.ClassFile.FieldType.int) ∈ GT := gt_in (in_t0 (List.mem_of_getElem? (i := 230) rfl)) rfl
set_option maxRecDepth 20000 in
theorem wd_0_231 : Jvm.Cond.methodLink "java/lang/String" (335 : Nat) ({ cls := "java/lang/String", name := "coder", desc := "()B" } : Jvm.MethodName) ∈ GT := gt_in (in_t0 (List.mem_of_getElem? (i := 231) rfl)) rfl
set_option maxRecDepth 20000 in
theorem wd_0_232 : Jvm.Cond.instanceMethod ({ cls := "java/lang/String", name := "coder", desc := "()B" } : Jvm.MethodName) ∈ GT := gt_in (in_t0 (List.mem_of_getElem? (i := 232) rfl)) rfl
set_option maxRecDepth 20000 in
theorem wd_0_233 : Jvm.Cond.selects "java/lang/String" ({ cls := "java/lang/String", name := "coder", desc := "()B" } : Jvm.MethodName) ({ cls := "java/lang/String", name := "coder", desc := "()B" } : Jvm.MethodName) ∈ GT := gt_in (in_t0 (List.mem_of_getElem? (i := 233) rfl)) rfl
set_option maxRecDepth 20000 in
theorem wd_0_234 : Jvm.Cond.code ({ cls := "java/lang/String", name := "coder", desc := "()B" } : Jvm.MethodName) prog_23_method_152_code (1 : Nat) (Option.some Jvm.ClassFile.FieldType.byte) ∈ GT := gt_in (in_t0 (List.mem_of_getElem? (i := 234) rfl)) rfl
set_option maxRecDepth 20000 in
theorem wd_0_235 : Jvm.Cond.fieldLink "java/lang/String" (38 : Nat) "java/lang/String" "COMPACT_STRINGS" "Z" ∈ GT := gt_in (in_t0 (List.mem_of_getElem? (i := 235) rfl)) rfl
set_option maxRecDepth 20000 in
theorem wd_1_1 : Jvm.Cond.methodLink "ChipMap$Layout" (62 : Nat) ({ cls := "java/util/Arrays", name := "fill", desc := "([II)V" } : Jvm.MethodName) ∈ GT := gt_in (in_t1 (List.mem_of_getElem? (i := 1) rfl)) rfl
set_option maxRecDepth 20000 in
theorem wd_1_4 : Jvm.Cond.fieldLink "ChipMap$Layout" (74 : Nat) "ChipMap$Layout" "registers" "I" ∈ GT := gt_in (in_t1 (List.mem_of_getElem? (i := 4) rfl)) rfl
set_option maxRecDepth 20000 in
theorem wd_1_8 : Jvm.Cond.fieldLink "ChipMap$Layout" (9 : Nat) "ChipMap$Layout" "offset" "[I" ∈ GT := gt_in (in_t1 (List.mem_of_getElem? (i := 8) rfl)) rfl
set_option maxRecDepth 20000 in
theorem wd_1_10 : Jvm.Cond.fieldLink "ChipMap$Layout" (15 : Nat) "ChipMap$Layout" "bank" "[I" ∈ GT := gt_in (in_t1 (List.mem_of_getElem? (i := 10) rfl)) rfl
set_option maxRecDepth 20000 in
theorem wd_1_13 : Jvm.Cond.fieldLink "ChipMap$Layout" (18 : Nat) "ChipMap$Layout" "digit" "[I" ∈ GT := gt_in (in_t1 (List.mem_of_getElem? (i := 13) rfl)) rfl
set_option maxRecDepth 20000 in
theorem wd_1_16 : Jvm.Cond.fieldLink "ChipMap$Layout" (21 : Nat) "ChipMap$Layout" "atReset" "[I" ∈ GT := gt_in (in_t1 (List.mem_of_getElem? (i := 16) rfl)) rfl
set_option maxRecDepth 20000 in
theorem wd_1_19 : Jvm.Cond.fieldLink "ChipMap$Layout" (24 : Nat) "ChipMap$Layout" "known" "[I" ∈ GT := gt_in (in_t1 (List.mem_of_getElem? (i := 19) rfl)) rfl
set_option maxRecDepth 20000 in
theorem wd_1_23 : Jvm.Cond.fieldLink "ChipMap$Layout" (37 : Nat) "ChipMap$Layout" "bits" "[[I" ∈ GT := gt_in (in_t1 (List.mem_of_getElem? (i := 23) rfl)) rfl
set_option maxRecDepth 20000 in
theorem wd_1_45 : Jvm.Cond.fieldLink "ChipMap$Layout" (58 : Nat) "ChipMap$Layout" "rules" "LChipMap$Rules;" ∈ GT := gt_in (in_t1 (List.mem_of_getElem? (i := 45) rfl)) rfl
set_option maxRecDepth 20000 in
theorem wd_2_17 : Jvm.Cond.fieldLink "ChipMap" (12 : Nat) "ChipMap" "draft" "LChipMap$Draft;" ∈ GT := gt_in (in_t2 (List.mem_of_getElem? (i := 17) rfl)) rfl
set_option maxRecDepth 20000 in
theorem wd_3_138 : Jvm.Cond.methodLink "ChipMap" (80 : Nat) ({ cls := "ChipMap$Reader", name := "readAll", desc := "()Z" } : Jvm.MethodName) ∈ GT := gt_in (in_t3 (List.mem_of_getElem? (i := 138) rfl)) rfl
set_option maxRecDepth 20000 in
theorem wd_3_139 : Jvm.Cond.instanceMethod ({ cls := "ChipMap$Reader", name := "readAll", desc := "()Z" } : Jvm.MethodName) ∈ GT := gt_in (in_t3 (List.mem_of_getElem? (i := 139) rfl)) rfl
set_option maxRecDepth 20000 in
theorem wd_3_140 : Jvm.Cond.selects "ChipMap$Reader" ({ cls := "ChipMap$Reader", name := "readAll", desc := "()Z" } : Jvm.MethodName) ({ cls := "ChipMap$Reader", name := "readAll", desc := "()Z" } : Jvm.MethodName) ∈ GT := gt_in (in_t3 (List.mem_of_getElem? (i := 140) rfl)) rfl
set_option maxRecDepth 20000 in
theorem wd_3_141 : Jvm.Cond.code ({ cls := "ChipMap$Reader", name := "readAll", desc := "()Z" } : Jvm.MethodName) prog_10_method_4_code (2 : Nat) (Option.some Jvm.ClassFile.FieldType.boolean) ∈ GT := gt_in (in_t3 (List.mem_of_getElem? (i := 141) rfl)) rfl
set_option maxRecDepth 20000 in
theorem wd_3_146 : Jvm.Cond.methodLink "ChipMap$Reader" (35 : Nat) ({ cls := "ChipMap$Reader", name := "readRegisters", desc := "()Z" } : Jvm.MethodName) ∈ GT := gt_in (in_t3 (List.mem_of_getElem? (i := 146) rfl)) rfl
set_option maxRecDepth 20000 in
theorem wd_3_148 : Jvm.Cond.instanceMethod ({ cls := "ChipMap$Reader", name := "readRegisters", desc := "()Z" } : Jvm.MethodName) ∈ GT := gt_in (in_t3 (List.mem_of_getElem? (i := 148) rfl)) rfl
set_option maxRecDepth 20000 in
theorem wd_3_149 : Jvm.Cond.code ({ cls := "ChipMap$Reader", name := "readRegisters", desc := "()Z" } : Jvm.MethodName) prog_10_method_5_code (2 : Nat) (Option.some Jvm.ClassFile.FieldType.boolean) ∈ GT := gt_in (in_t3 (List.mem_of_getElem? (i := 149) rfl)) rfl
set_option maxRecDepth 20000 in
theorem wd_3_154 : Jvm.Cond.methodLink "ChipMap$Reader" (46 : Nat) ({ cls := "ChipMap$Reader", name := "readRegister", desc := "(I)Z" } : Jvm.MethodName) ∈ GT := gt_in (in_t3 (List.mem_of_getElem? (i := 154) rfl)) rfl
set_option maxRecDepth 20000 in
theorem wd_3_156 : Jvm.Cond.instanceMethod ({ cls := "ChipMap$Reader", name := "readRegister", desc := "(I)Z" } : Jvm.MethodName) ∈ GT := gt_in (in_t3 (List.mem_of_getElem? (i := 156) rfl)) rfl
set_option maxRecDepth 20000 in
theorem wd_3_157 : Jvm.Cond.code ({ cls := "ChipMap$Reader", name := "readRegister", desc := "(I)Z" } : Jvm.MethodName) prog_10_method_7_code (3 : Nat) (Option.some Jvm.ClassFile.FieldType.boolean) ∈ GT := gt_in (in_t3 (List.mem_of_getElem? (i := 157) rfl)) rfl
set_option maxRecDepth 20000 in
theorem wd_3_177 : Jvm.Cond.methodLink "ChipMap$Reader" (83 : Nat) ({ cls := "ChipMap$Reader", name := "readField", desc := "(I)Z" } : Jvm.MethodName) ∈ GT := gt_in (in_t3 (List.mem_of_getElem? (i := 177) rfl)) rfl
set_option maxRecDepth 20000 in
theorem wd_3_179 : Jvm.Cond.instanceMethod ({ cls := "ChipMap$Reader", name := "readField", desc := "(I)Z" } : Jvm.MethodName) ∈ GT := gt_in (in_t3 (List.mem_of_getElem? (i := 179) rfl)) rfl
set_option maxRecDepth 20000 in
theorem wd_3_180 : Jvm.Cond.code ({ cls := "ChipMap$Reader", name := "readField", desc := "(I)Z" } : Jvm.MethodName) prog_10_method_9_code (3 : Nat) (Option.some Jvm.ClassFile.FieldType.boolean) ∈ GT := gt_in (in_t3 (List.mem_of_getElem? (i := 180) rfl)) rfl
set_option maxRecDepth 20000 in
theorem wd_3_182 : Jvm.Cond.methodLink "ChipMap$Reader" (115 : Nat) ({ cls := "ChipMap$Reader", name := "oneOf", desc := "(Ljava/lang/String;)I" } : Jvm.MethodName) ∈ GT := gt_in (in_t3 (List.mem_of_getElem? (i := 182) rfl)) rfl
set_option maxRecDepth 20000 in
theorem wd_3_184 : Jvm.Cond.instanceMethod ({ cls := "ChipMap$Reader", name := "oneOf", desc := "(Ljava/lang/String;)I" } : Jvm.MethodName) ∈ GT := gt_in (in_t3 (List.mem_of_getElem? (i := 184) rfl)) rfl
set_option maxRecDepth 20000 in
theorem wd_3_185 : Jvm.Cond.code ({ cls := "ChipMap$Reader", name := "oneOf", desc := "(Ljava/lang/String;)I" } : Jvm.MethodName) prog_10_method_15_code (3 : Nat) (Option.some Jvm.ClassFile.FieldType.int) ∈ GT := gt_in (in_t3 (List.mem_of_getElem? (i := 185) rfl)) rfl
set_option maxRecDepth 20000 in
theorem wd_3_186 : Jvm.Cond.methodLink "ChipMap$Reader" (149 : Nat) ({ cls := "java/lang/String", name := "indexOf", desc := "(I)I" } : Jvm.MethodName) ∈ GT := gt_in (in_t3 (List.mem_of_getElem? (i := 186) rfl)) rfl
set_option maxRecDepth 20000 in
theorem wd_3_187 : Jvm.Cond.instanceMethod ({ cls := "java/lang/String", name := "indexOf", desc := "(I)I" } : Jvm.MethodName) ∈ GT := gt_in (in_t3 (List.mem_of_getElem? (i := 187) rfl)) rfl
set_option maxRecDepth 20000 in
theorem wd_3_188 : Jvm.Cond.selects "java/lang/String" ({ cls := "java/lang/String", name := "indexOf", desc := "(I)I" } : Jvm.MethodName) ({ cls := "java/lang/String", name := "indexOf", desc := "(I)I" } : Jvm.MethodName) ∈ GT := gt_in (in_t3 (List.mem_of_getElem? (i := 188) rfl)) rfl
set_option maxRecDepth 20000 in
theorem wd_3_189 : Jvm.Cond.code ({ cls := "java/lang/String", name := "indexOf", desc := "(I)I" } : Jvm.MethodName) prog_23_method_79_code (2 : Nat) (Option.some Jvm.ClassFile.FieldType.int) ∈ GT := gt_in (in_t3 (List.mem_of_getElem? (i := 189) rfl)) rfl
set_option maxRecDepth 20000 in
theorem wd_3_190 : Jvm.Cond.methodLink "java/lang/String" (633 : Nat) ({ cls := "java/lang/String", name := "indexOf", desc := "(II)I" } : Jvm.MethodName) ∈ GT := gt_in (in_t3 (List.mem_of_getElem? (i := 190) rfl)) rfl
set_option maxRecDepth 20000 in
theorem wd_3_191 : Jvm.Cond.instanceMethod ({ cls := "java/lang/String", name := "indexOf", desc := "(II)I" } : Jvm.MethodName) ∈ GT := gt_in (in_t3 (List.mem_of_getElem? (i := 191) rfl)) rfl
set_option maxRecDepth 20000 in
theorem wd_3_192 : Jvm.Cond.selects "java/lang/String" ({ cls := "java/lang/String", name := "indexOf", desc := "(II)I" } : Jvm.MethodName) ({ cls := "java/lang/String", name := "indexOf", desc := "(II)I" } : Jvm.MethodName) ∈ GT := gt_in (in_t3 (List.mem_of_getElem? (i := 192) rfl)) rfl
set_option maxRecDepth 20000 in
theorem wd_3_193 : Jvm.Cond.code ({ cls := "java/lang/String", name := "indexOf", desc := "(II)I" } : Jvm.MethodName) prog_23_method_80_code (3 : Nat) (Option.some Jvm.ClassFile.FieldType.int) ∈ GT := gt_in (in_t3 (List.mem_of_getElem? (i := 193) rfl)) rfl
set_option maxRecDepth 20000 in
theorem wd_3_194 : Jvm.Cond.methodLink "java/lang/String" (492 : Nat) ({ cls := "java/lang/String", name := "isLatin1", desc := "()Z" } : Jvm.MethodName) ∈ GT := gt_in (in_t3 (List.mem_of_getElem? (i := 194) rfl)) rfl
set_option maxRecDepth 20000 in
theorem wd_3_195 : Jvm.Cond.instanceMethod ({ cls := "java/lang/String", name := "isLatin1", desc := "()Z" } : Jvm.MethodName) ∈ GT := gt_in (in_t3 (List.mem_of_getElem? (i := 195) rfl)) rfl
set_option maxRecDepth 20000 in
theorem wd_3_196 : Jvm.Cond.selects "java/lang/String" ({ cls := "java/lang/String", name := "isLatin1", desc := "()Z" } : Jvm.MethodName) ({ cls := "java/lang/String", name := "isLatin1", desc := "()Z" } : Jvm.MethodName) ∈ GT := gt_in (in_t3 (List.mem_of_getElem? (i := 196) rfl)) rfl
set_option maxRecDepth 20000 in
theorem wd_3_197 : Jvm.Cond.code ({ cls := "java/lang/String", name := "isLatin1", desc := "()Z" } : Jvm.MethodName) prog_23_method_154_code (1 : Nat) (Option.some Jvm.ClassFile.FieldType.boolean) ∈ GT := gt_in (in_t3 (List.mem_of_getElem? (i := 197) rfl)) rfl
set_option maxRecDepth 20000 in
theorem wd_3_198 : Jvm.Cond.methodLink "java/lang/String" (505 : Nat) ({ cls := "java/lang/String", name := "length", desc := "()I" } : Jvm.MethodName) ∈ GT := gt_in (in_t3 (List.mem_of_getElem? (i := 198) rfl)) rfl
set_option maxRecDepth 20000 in
theorem wd_3_199 : Jvm.Cond.methodLink "java/lang/String" (637 : Nat) ({ cls := "java/lang/StringLatin1", name := "indexOf", desc := "([BIII)I" } : Jvm.MethodName) ∈ GT := gt_in (in_t3 (List.mem_of_getElem? (i := 199) rfl)) rfl
set_option maxRecDepth 20000 in
theorem wd_3_200 : Jvm.Cond.static ({ cls := "java/lang/StringLatin1", name := "indexOf", desc := "([BIII)I" } : Jvm.MethodName) ∈ GT := gt_in (in_t3 (List.mem_of_getElem? (i := 200) rfl)) rfl
set_option maxRecDepth 20000 in
theorem wd_3_201 : Jvm.Cond.code ({ cls := "java/lang/StringLatin1", name := "indexOf", desc := "([BIII)I" } : Jvm.MethodName) prog_24_method_22_code (4 : Nat) (Option.some Jvm.ClassFile.FieldType.int) ∈ GT := gt_in (in_t3 (List.mem_of_getElem? (i := 201) rfl)) rfl
set_option maxRecDepth 20000 in
theorem wd_3_202 : Jvm.Cond.methodLink "java/lang/StringLatin1" (88 : Nat) ({ cls := "java/lang/StringLatin1", name := "canEncode", desc := "(I)Z" } : Jvm.MethodName) ∈ GT := gt_in (in_t3 (List.mem_of_getElem? (i := 202) rfl)) rfl
set_option maxRecDepth 20000 in
theorem wd_3_203 : Jvm.Cond.static ({ cls := "java/lang/StringLatin1", name := "canEncode", desc := "(I)Z" } : Jvm.MethodName) ∈ GT := gt_in (in_t3 (List.mem_of_getElem? (i := 203) rfl)) rfl
set_option maxRecDepth 20000 in
theorem wd_3_204 : Jvm.Cond.code ({ cls := "java/lang/StringLatin1", name := "canEncode", desc := "(I)Z" } : Jvm.MethodName) prog_24_method_4_code (1 : Nat) (Option.some Jvm.ClassFile.FieldType.boolean) ∈ GT := gt_in (in_t3 (List.mem_of_getElem? (i := 204) rfl)) rfl
set_option maxRecDepth 20000 in
theorem wd_3_205 : Jvm.Cond.methodLink "java/lang/StringLatin1" (92 : Nat) ({ cls := "java/lang/Math", name := "max", desc := "(II)I" } : Jvm.MethodName) ∈ GT := gt_in (in_t3 (List.mem_of_getElem? (i := 205) rfl)) rfl
set_option maxRecDepth 20000 in
theorem wd_3_206 : Jvm.Cond.static ({ cls := "java/lang/Math", name := "max", desc := "(II)I" } : Jvm.MethodName) ∈ GT := gt_in (in_t3 (List.mem_of_getElem? (i := 206) rfl)) rfl
set_option maxRecDepth 20000 in
theorem wd_3_207 : Jvm.Cond.code ({ cls := "java/lang/Math", name := "max", desc := "(II)I" } : Jvm.MethodName) prog_21_method_65_code (2 : Nat) (Option.some Jvm.ClassFile.FieldType.int) ∈ GT := gt_in (in_t3 (List.mem_of_getElem? (i := 207) rfl)) rfl
set_option maxRecDepth 20000 in
theorem wd_3_208 : Jvm.Cond.methodLink "java/lang/StringLatin1" (38 : Nat) ({ cls := "java/lang/Math", name := "min", desc := "(II)I" } : Jvm.MethodName) ∈ GT := gt_in (in_t3 (List.mem_of_getElem? (i := 208) rfl)) rfl
set_option maxRecDepth 20000 in
theorem wd_3_209 : Jvm.Cond.methodLink "java/lang/StringLatin1" (95 : Nat) ({ cls := "java/lang/StringLatin1", name := "indexOfChar", desc := "([BIII)I" } : Jvm.MethodName) ∈ GT := gt_in (in_t3 (List.mem_of_getElem? (i := 209) rfl)) rfl
set_option maxRecDepth 20000 in
theorem wd_3_210 : Jvm.Cond.static ({ cls := "java/lang/StringLatin1", name := "indexOfChar", desc := "([BIII)I" } : Jvm.MethodName) ∈ GT := gt_in (in_t3 (List.mem_of_getElem? (i := 210) rfl)) rfl
set_option maxRecDepth 20000 in
theorem wd_3_211 : Jvm.Cond.code ({ cls := "java/lang/StringLatin1", name := "indexOfChar", desc := "([BIII)I" } : Jvm.MethodName) prog_24_method_23_code (6 : Nat) (Option.some Jvm.ClassFile.FieldType.int) ∈ GT := gt_in (in_t3 (List.mem_of_getElem? (i := 211) rfl)) rfl
set_option maxRecDepth 20000 in
theorem wd_4_21 : Jvm.Cond.methodLink "ChipMap$Reader" (128 : Nat) ({ cls := "ChipMap$Reader", name := "numberBehindSign", desc := "()I" } : Jvm.MethodName) ∈ GT := gt_in (in_t4 (List.mem_of_getElem? (i := 21) rfl)) rfl
set_option maxRecDepth 20000 in
theorem wd_4_23 : Jvm.Cond.instanceMethod ({ cls := "ChipMap$Reader", name := "numberBehindSign", desc := "()I" } : Jvm.MethodName) ∈ GT := gt_in (in_t4 (List.mem_of_getElem? (i := 23) rfl)) rfl
set_option maxRecDepth 20000 in
theorem wd_4_24 : Jvm.Cond.code ({ cls := "ChipMap$Reader", name := "numberBehindSign", desc := "()I" } : Jvm.MethodName) prog_10_method_11_code (1 : Nat) (Option.some Jvm.ClassFile.FieldType.int) ∈ GT := gt_in (in_t4 (List.mem_of_getElem? (i := 24) rfl)) rfl
set_option maxRecDepth 20000 in
theorem wd_4_25 : Jvm.Cond.methodLink "ChipMap$Reader" (39 : Nat) ({ cls := "ChipMap$Reader", name := "readRules", desc := "()Z" } : Jvm.MethodName) ∈ GT := gt_in (in_t4 (List.mem_of_getElem? (i := 25) rfl)) rfl
set_option maxRecDepth 20000 in
theorem wd_4_27 : Jvm.Cond.instanceMethod ({ cls := "ChipMap$Reader", name := "readRules", desc := "()Z" } : Jvm.MethodName) ∈ GT := gt_in (in_t4 (List.mem_of_getElem? (i := 27) rfl)) rfl
set_option maxRecDepth 20000 in
theorem wd_4_28 : Jvm.Cond.code ({ cls := "ChipMap$Reader", name := "readRules", desc := "()Z" } : Jvm.MethodName) prog_10_method_6_code (2 : Nat) (Option.some Jvm.ClassFile.FieldType.boolean) ∈ GT := gt_in (in_t4 (List.mem_of_getElem? (i := 28) rfl)) rfl
set_option maxRecDepth 20000 in
theorem wd_4_29 : Jvm.Cond.methodLink "ChipMap$Reader" (53 : Nat) ({ cls := "ChipMap$Reader", name := "readRule", desc := "(I)Z" } : Jvm.MethodName) ∈ GT := gt_in (in_t4 (List.mem_of_getElem? (i := 29) rfl)) rfl
set_option maxRecDepth 20000 in
theorem wd_4_31 : Jvm.Cond.instanceMethod ({ cls := "ChipMap$Reader", name := "readRule", desc := "(I)Z" } : Jvm.MethodName) ∈ GT := gt_in (in_t4 (List.mem_of_getElem? (i := 31) rfl)) rfl
set_option maxRecDepth 20000 in
theorem wd_4_32 : Jvm.Cond.code ({ cls := "ChipMap$Reader", name := "readRule", desc := "(I)Z" } : Jvm.MethodName) prog_10_method_10_code (3 : Nat) (Option.some Jvm.ClassFile.FieldType.boolean) ∈ GT := gt_in (in_t4 (List.mem_of_getElem? (i := 32) rfl)) rfl
set_option maxRecDepth 20000 in
theorem wd_4_34 : Jvm.Cond.methodLink "ChipMap" (88 : Nat) ({ cls := "ChipMap$Judge", name := "decide", desc := "(ZI)V" } : Jvm.MethodName) ∈ GT := gt_in (in_t4 (List.mem_of_getElem? (i := 34) rfl)) rfl
set_option maxRecDepth 20000 in
theorem wd_4_35 : Jvm.Cond.instanceMethod ({ cls := "ChipMap$Judge", name := "decide", desc := "(ZI)V" } : Jvm.MethodName) ∈ GT := gt_in (in_t4 (List.mem_of_getElem? (i := 35) rfl)) rfl
set_option maxRecDepth 20000 in
theorem wd_4_36 : Jvm.Cond.selects "ChipMap$Judge" ({ cls := "ChipMap$Judge", name := "decide", desc := "(ZI)V" } : Jvm.MethodName) ({ cls := "ChipMap$Judge", name := "decide", desc := "(ZI)V" } : Jvm.MethodName) ∈ GT := gt_in (in_t4 (List.mem_of_getElem? (i := 36) rfl)) rfl
set_option maxRecDepth 20000 in
theorem wd_4_37 : Jvm.Cond.code ({ cls := "ChipMap$Judge", name := "decide", desc := "(ZI)V" } : Jvm.MethodName) prog_5_method_2_code (3 : Nat) (Option.none : Option Jvm.ClassFile.FieldType) ∈ GT := gt_in (in_t4 (List.mem_of_getElem? (i := 37) rfl)) rfl
set_option maxRecDepth 20000 in
theorem wd_4_141 : Jvm.Cond.methodLink "ChipMap" (98 : Nat) ({ cls := "ChipMap$Layout", name := "follow", desc := "(LChipMap$Draft;)V" } : Jvm.MethodName) ∈ GT := gt_in (in_t4 (List.mem_of_getElem? (i := 141) rfl)) rfl
set_option maxRecDepth 20000 in
theorem wd_4_142 : Jvm.Cond.instanceMethod ({ cls := "ChipMap$Layout", name := "follow", desc := "(LChipMap$Draft;)V" } : Jvm.MethodName) ∈ GT := gt_in (in_t4 (List.mem_of_getElem? (i := 142) rfl)) rfl
set_option maxRecDepth 20000 in
theorem wd_4_143 : Jvm.Cond.selects "ChipMap$Layout" ({ cls := "ChipMap$Layout", name := "follow", desc := "(LChipMap$Draft;)V" } : Jvm.MethodName) ({ cls := "ChipMap$Layout", name := "follow", desc := "(LChipMap$Draft;)V" } : Jvm.MethodName) ∈ GT := gt_in (in_t4 (List.mem_of_getElem? (i := 143) rfl)) rfl
set_option maxRecDepth 20000 in
theorem wd_4_144 : Jvm.Cond.code ({ cls := "ChipMap$Layout", name := "follow", desc := "(LChipMap$Draft;)V" } : Jvm.MethodName) prog_6_method_2_code (3 : Nat) (Option.none : Option Jvm.ClassFile.FieldType) ∈ GT := gt_in (in_t4 (List.mem_of_getElem? (i := 144) rfl)) rfl
set_option maxRecDepth 20000 in
theorem wd_4_145 : Jvm.Cond.methodLink "ChipMap$Layout" (76 : Nat) ({ cls := "java/lang/System", name := "arraycopy", desc := "(Ljava/lang/Object;ILjava/lang/Object;II)V" } : Jvm.MethodName) ∈ GT := gt_in (in_t4 (List.mem_of_getElem? (i := 145) rfl)) rfl
set_option maxRecDepth 20000 in
theorem wd_4_146 : Jvm.Cond.methodLink "ChipMap$Layout" (85 : Nat) ({ cls := "ChipMap$Rules", name := "copy", desc := "(LChipMap$Rules;)V" } : Jvm.MethodName) ∈ GT := gt_in (in_t4 (List.mem_of_getElem? (i := 146) rfl)) rfl
set_option maxRecDepth 20000 in
theorem wd_4_147 : Jvm.Cond.instanceMethod ({ cls := "ChipMap$Rules", name := "copy", desc := "(LChipMap$Rules;)V" } : Jvm.MethodName) ∈ GT := gt_in (in_t4 (List.mem_of_getElem? (i := 147) rfl)) rfl
set_option maxRecDepth 20000 in
theorem wd_4_148 : Jvm.Cond.selects "ChipMap$Rules" ({ cls := "ChipMap$Rules", name := "copy", desc := "(LChipMap$Rules;)V" } : Jvm.MethodName) ({ cls := "ChipMap$Rules", name := "copy", desc := "(LChipMap$Rules;)V" } : Jvm.MethodName) ∈ GT := gt_in (in_t4 (List.mem_of_getElem? (i := 148) rfl)) rfl
set_option maxRecDepth 20000 in
theorem wd_4_149 : Jvm.Cond.code ({ cls := "ChipMap$Rules", name := "copy", desc := "(LChipMap$Rules;)V" } : Jvm.MethodName) prog_11_method_2_code (2 : Nat) (Option.none : Option Jvm.ClassFile.FieldType) ∈ GT := gt_in (in_t4 (List.mem_of_getElem? (i := 149) rfl)) rfl
set_option maxRecDepth 20000 in
theorem wd_4_150 : Jvm.Cond.methodLink "ChipMap$Rules" (34 : Nat) ({ cls := "java/lang/System", name := "arraycopy", desc := "(Ljava/lang/Object;ILjava/lang/Object;II)V" } : Jvm.MethodName) ∈ GT := gt_in (in_t4 (List.mem_of_getElem? (i := 150) rfl)) rfl
set_option maxRecDepth 20000 in
theorem wd_4_151 : Jvm.Cond.methodLink "ChipMap$Layout" (92 : Nat) ({ cls := "ChipMap$Layout", name := "addField", desc := "(LChipMap$Draft;I)V" } : Jvm.MethodName) ∈ GT := gt_in (in_t4 (List.mem_of_getElem? (i := 151) rfl)) rfl
set_option maxRecDepth 20000 in
theorem wd_4_153 : Jvm.Cond.instanceMethod ({ cls := "ChipMap$Layout", name := "addField", desc := "(LChipMap$Draft;I)V" } : Jvm.MethodName) ∈ GT := gt_in (in_t4 (List.mem_of_getElem? (i := 153) rfl)) rfl
set_option maxRecDepth 20000 in
theorem wd_4_154 : Jvm.Cond.code ({ cls := "ChipMap$Layout", name := "addField", desc := "(LChipMap$Draft;I)V" } : Jvm.MethodName) prog_6_method_3_code (5 : Nat) (Option.none : Option Jvm.ClassFile.FieldType) ∈ GT := gt_in (in_t4 (List.mem_of_getElem? (i := 154) rfl)) rfl
set_option maxRecDepth 20000 in
theorem wd_4_155 : Jvm.Cond.methodLink "ChipMap$Layout" (108 : Nat) ({ cls := "ChipMap$Layout", name := "isKnown", desc := "(I)Z" } : Jvm.MethodName) ∈ GT := gt_in (in_t4 (List.mem_of_getElem? (i := 155) rfl)) rfl
set_option maxRecDepth 20000 in
theorem wd_7_0 : Jvm.Cond.fieldLink "java/lang/String" (9 : Nat) "java/lang/String" "value" "[B" ∈ GT := gt_in (in_t7 (List.mem_of_getElem? (i := 0) rfl)) rfl
set_option maxRecDepth 20000 in
theorem wd_7_1 : Jvm.Cond.fieldLink "java/lang/String" (15 : Nat) "java/lang/String" "coder" "B" ∈ GT := gt_in (in_t7 (List.mem_of_getElem? (i := 1) rfl)) rfl
set_option maxRecDepth 20000 in
theorem sl__ChipMap_Layout____ChipMap_Layout___addField____LChipMap_Draft_I_V_____ChipMap_Layout___addField____LChipMap_Draft_I_V__ : Cond.selects "ChipMap$Layout" ⟨"ChipMap$Layout", "addField", "(LChipMap$Draft;I)V"⟩ ⟨"ChipMap$Layout", "addField", "(LChipMap$Draft;I)V"⟩ ∈ GT := gt_in (List.mem_append_left _ (List.mem_map.mpr ⟨(⟨"ChipMap$Layout", "addField", "(LChipMap$Draft;I)V"⟩, 13), by decide +kernel, rfl⟩)) rfl
set_option maxRecDepth 20000 in
theorem sl__ChipMap_Reader____ChipMap_Reader___numberBehindSign_____I_____ChipMap_Reader___numberBehindSign_____I__ : Cond.selects "ChipMap$Reader" ⟨"ChipMap$Reader", "numberBehindSign", "()I"⟩ ⟨"ChipMap$Reader", "numberBehindSign", "()I"⟩ ∈ GT := gt_in (List.mem_append_left _ (List.mem_map.mpr ⟨(⟨"ChipMap$Reader", "numberBehindSign", "()I"⟩, 4), by decide +kernel, rfl⟩)) rfl
set_option maxRecDepth 20000 in
theorem sl__ChipMap_Reader____ChipMap_Reader___oneOf____Ljava_lang_String__I_____ChipMap_Reader___oneOf____Ljava_lang_String__I__ : Cond.selects "ChipMap$Reader" ⟨"ChipMap$Reader", "oneOf", "(Ljava/lang/String;)I"⟩ ⟨"ChipMap$Reader", "oneOf", "(Ljava/lang/String;)I"⟩ ∈ GT := gt_in (List.mem_append_left _ (List.mem_map.mpr ⟨(⟨"ChipMap$Reader", "oneOf", "(Ljava/lang/String;)I"⟩, 4), by decide +kernel, rfl⟩)) rfl
set_option maxRecDepth 20000 in
theorem sl__ChipMap_Reader____ChipMap_Reader___readField____I_Z_____ChipMap_Reader___readField____I_Z__ : Cond.selects "ChipMap$Reader" ⟨"ChipMap$Reader", "readField", "(I)Z"⟩ ⟨"ChipMap$Reader", "readField", "(I)Z"⟩ ∈ GT := gt_in (List.mem_append_left _ (List.mem_map.mpr ⟨(⟨"ChipMap$Reader", "readField", "(I)Z"⟩, 4), by decide +kernel, rfl⟩)) rfl
set_option maxRecDepth 20000 in
theorem sl__ChipMap_Reader____ChipMap_Reader___readRegister____I_Z_____ChipMap_Reader___readRegister____I_Z__ : Cond.selects "ChipMap$Reader" ⟨"ChipMap$Reader", "readRegister", "(I)Z"⟩ ⟨"ChipMap$Reader", "readRegister", "(I)Z"⟩ ∈ GT := gt_in (List.mem_append_left _ (List.mem_map.mpr ⟨(⟨"ChipMap$Reader", "readRegister", "(I)Z"⟩, 4), by decide +kernel, rfl⟩)) rfl
set_option maxRecDepth 20000 in
theorem sl__ChipMap_Reader____ChipMap_Reader___readRegisters_____Z_____ChipMap_Reader___readRegisters_____Z__ : Cond.selects "ChipMap$Reader" ⟨"ChipMap$Reader", "readRegisters", "()Z"⟩ ⟨"ChipMap$Reader", "readRegisters", "()Z"⟩ ∈ GT := gt_in (List.mem_append_left _ (List.mem_map.mpr ⟨(⟨"ChipMap$Reader", "readRegisters", "()Z"⟩, 4), by decide +kernel, rfl⟩)) rfl
set_option maxRecDepth 20000 in
theorem sl__ChipMap_Reader____ChipMap_Reader___readRule____I_Z_____ChipMap_Reader___readRule____I_Z__ : Cond.selects "ChipMap$Reader" ⟨"ChipMap$Reader", "readRule", "(I)Z"⟩ ⟨"ChipMap$Reader", "readRule", "(I)Z"⟩ ∈ GT := gt_in (List.mem_append_left _ (List.mem_map.mpr ⟨(⟨"ChipMap$Reader", "readRule", "(I)Z"⟩, 4), by decide +kernel, rfl⟩)) rfl
set_option maxRecDepth 20000 in
theorem sl__ChipMap_Reader____ChipMap_Reader___readRules_____Z_____ChipMap_Reader___readRules_____Z__ : Cond.selects "ChipMap$Reader" ⟨"ChipMap$Reader", "readRules", "()Z"⟩ ⟨"ChipMap$Reader", "readRules", "()Z"⟩ ∈ GT := gt_in (List.mem_append_left _ (List.mem_map.mpr ⟨(⟨"ChipMap$Reader", "readRules", "()Z"⟩, 4), by decide +kernel, rfl⟩)) rfl
