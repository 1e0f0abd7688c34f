theorem dJ0_coder_0 : decode cJ0_coder 0 = .ok (.getstatic 38, 3) := by decide +kernel
theorem dJ0_coder_3 : decode cJ0_coder 3 = .ok (.ifCond .eq 10, 3) := by decide +kernel
theorem dJ0_coder_6 : decode cJ0_coder 6 = .ok (.aload_n 0, 1) := by decide +kernel
theorem dJ0_coder_7 : decode cJ0_coder 7 = .ok (.getfield 15, 3) := by decide +kernel
theorem dJ0_coder_10 : decode cJ0_coder 10 = .ok (.goto 4, 3) := by decide +kernel
theorem dJ0_coder_14 : decode cJ0_coder 14 = .ok (.ireturn, 1) := by decide +kernel
theorem dJ0_indexOf_II_0 : decode cJ0_indexOf_II 0 = .ok (.aload_n 0, 1) := by decide +kernel
theorem dJ0_indexOf_II_1 : decode cJ0_indexOf_II 1 = .ok (.iload_n 1, 1) := by decide +kernel
theorem dJ0_indexOf_II_2 : decode cJ0_indexOf_II 2 = .ok (.iconst 0, 1) := by decide +kernel
theorem dJ0_indexOf_II_3 : decode cJ0_indexOf_II 3 = .ok (.invokevirtual 633, 3) := by decide +kernel
theorem dJ0_indexOf_II_6 : decode cJ0_indexOf_II 6 = .ok (.ireturn, 1) := by decide +kernel
theorem dJ0_indexOf_III_0 : decode cJ0_indexOf_III 0 = .ok (.aload_n 0, 1) := by decide +kernel
theorem dJ0_indexOf_III_1 : decode cJ0_indexOf_III 1 = .ok (.invokevirtual 492, 3) := by decide +kernel
theorem dJ0_indexOf_III_4 : decode cJ0_indexOf_III 4 = .ok (.ifCond .eq 19, 3) := by decide +kernel
theorem dJ0_indexOf_III_7 : decode cJ0_indexOf_III 7 = .ok (.aload_n 0, 1) := by decide +kernel
theorem dJ0_indexOf_III_8 : decode cJ0_indexOf_III 8 = .ok (.getfield 9, 3) := by decide +kernel
theorem dJ0_indexOf_III_11 : decode cJ0_indexOf_III 11 = .ok (.iload_n 1, 1) := by decide +kernel
theorem dJ0_indexOf_III_12 : decode cJ0_indexOf_III 12 = .ok (.iload_n 2, 1) := by decide +kernel
theorem dJ0_indexOf_III_13 : decode cJ0_indexOf_III 13 = .ok (.aload_n 0, 1) := by decide +kernel
theorem dJ0_indexOf_III_14 : decode cJ0_indexOf_III 14 = .ok (.invokevirtual 505, 3) := by decide +kernel
theorem dJ0_indexOf_III_17 : decode cJ0_indexOf_III 17 = .ok (.invokestatic 637, 3) := by decide +kernel
theorem dJ0_indexOf_III_20 : decode cJ0_indexOf_III 20 = .ok (.goto 16, 3) := by decide +kernel
theorem dJ0_indexOf_III_23 : decode cJ0_indexOf_III 23 = .ok (.aload_n 0, 1) := by decide +kernel
theorem dJ0_indexOf_III_24 : decode cJ0_indexOf_III 24 = .ok (.getfield 9, 3) := by decide +kernel
theorem dJ0_indexOf_III_27 : decode cJ0_indexOf_III 27 = .ok (.iload_n 1, 1) := by decide +kernel
theorem dJ0_indexOf_III_28 : decode cJ0_indexOf_III 28 = .ok (.iload_n 2, 1) := by decide +kernel
theorem dJ0_indexOf_III_29 : decode cJ0_indexOf_III 29 = .ok (.aload_n 0, 1) := by decide +kernel
theorem dJ0_indexOf_III_30 : decode cJ0_indexOf_III 30 = .ok (.invokevirtual 505, 3) := by decide +kernel
theorem dJ0_indexOf_III_33 : decode cJ0_indexOf_III 33 = .ok (.invokestatic 640, 3) := by decide +kernel
theorem dJ0_indexOf_III_36 : decode cJ0_indexOf_III 36 = .ok (.ireturn, 1) := by decide +kernel
theorem dJ0_isLatin1_0 : decode cJ0_isLatin1 0 = .ok (.getstatic 38, 3) := by decide +kernel
theorem dJ0_isLatin1_3 : decode cJ0_isLatin1 3 = .ok (.ifCond .eq 14, 3) := by decide +kernel
theorem dJ0_isLatin1_6 : decode cJ0_isLatin1 6 = .ok (.aload_n 0, 1) := by decide +kernel
theorem dJ0_isLatin1_7 : decode cJ0_isLatin1 7 = .ok (.getfield 15, 3) := by decide +kernel
theorem dJ0_isLatin1_10 : decode cJ0_isLatin1 10 = .ok (.ifCond .ne 7, 3) := by decide +kernel
theorem dJ0_isLatin1_13 : decode cJ0_isLatin1 13 = .ok (.iconst 1, 1) := by decide +kernel
theorem dJ0_isLatin1_14 : decode cJ0_isLatin1 14 = .ok (.goto 4, 3) := by decide +kernel
theorem dJ0_isLatin1_18 : decode cJ0_isLatin1 18 = .ok (.ireturn, 1) := by decide +kernel
theorem dJ0_length_0 : decode cJ0_length 0 = .ok (.aload_n 0, 1) := by decide +kernel
theorem dJ0_length_1 : decode cJ0_length 1 = .ok (.getfield 9, 3) := by decide +kernel
theorem dJ0_length_4 : decode cJ0_length 4 = .ok (.arraylength, 1) := by decide +kernel
theorem dJ0_length_5 : decode cJ0_length 5 = .ok (.aload_n 0, 1) := by decide +kernel
theorem dJ0_length_6 : decode cJ0_length 6 = .ok (.invokevirtual 335, 3) := by decide +kernel
theorem dJ0_length_9 : decode cJ0_length 9 = .ok (.ishr, 1) := by decide +kernel
theorem dJ0_length_10 : decode cJ0_length 10 = .ok (.ireturn, 1) := by decide +kernel
theorem dJ2_bitCount_0 : decode cJ2_bitCount 0 = .ok (.iload_n 0, 1) := by decide +kernel
theorem dJ2_bitCount_1 : decode cJ2_bitCount 1 = .ok (.iload_n 0, 1) := by decide +kernel
theorem dJ2_bitCount_2 : decode cJ2_bitCount 2 = .ok (.iconst 1, 1) := by decide +kernel
theorem dJ2_bitCount_3 : decode cJ2_bitCount 3 = .ok (.iushr, 1) := by decide +kernel
theorem dJ2_bitCount_4 : decode cJ2_bitCount 4 = .ok (.ldc_w 265, 3) := by decide +kernel
theorem dJ2_bitCount_7 : decode cJ2_bitCount 7 = .ok (.iand, 1) := by decide +kernel
theorem dJ2_bitCount_8 : decode cJ2_bitCount 8 = .ok (.isub, 1) := by decide +kernel
theorem dJ2_bitCount_9 : decode cJ2_bitCount 9 = .ok (.istore_n 0, 1) := by decide +kernel
theorem dJ2_bitCount_10 : decode cJ2_bitCount 10 = .ok (.iload_n 0, 1) := by decide +kernel
theorem dJ2_bitCount_11 : decode cJ2_bitCount 11 = .ok (.ldc_w 266, 3) := by decide +kernel
theorem dJ2_bitCount_14 : decode cJ2_bitCount 14 = .ok (.iand, 1) := by decide +kernel
theorem dJ2_bitCount_15 : decode cJ2_bitCount 15 = .ok (.iload_n 0, 1) := by decide +kernel
theorem dJ2_bitCount_16 : decode cJ2_bitCount 16 = .ok (.iconst 2, 1) := by decide +kernel
theorem dJ2_bitCount_17 : decode cJ2_bitCount 17 = .ok (.iushr, 1) := by decide +kernel
theorem dJ2_bitCount_18 : decode cJ2_bitCount 18 = .ok (.ldc_w 266, 3) := by decide +kernel
theorem dJ2_bitCount_21 : decode cJ2_bitCount 21 = .ok (.iand, 1) := by decide +kernel
theorem dJ2_bitCount_22 : decode cJ2_bitCount 22 = .ok (.iadd, 1) := by decide +kernel
theorem dJ2_bitCount_23 : decode cJ2_bitCount 23 = .ok (.istore_n 0, 1) := by decide +kernel
theorem dJ2_bitCount_24 : decode cJ2_bitCount 24 = .ok (.iload_n 0, 1) := by decide +kernel
theorem dJ2_bitCount_25 : decode cJ2_bitCount 25 = .ok (.iload_n 0, 1) := by decide +kernel
theorem dJ2_bitCount_26 : decode cJ2_bitCount 26 = .ok (.iconst 4, 1) := by decide +kernel
theorem dJ2_bitCount_27 : decode cJ2_bitCount 27 = .ok (.iushr, 1) := by decide +kernel
theorem dJ2_bitCount_28 : decode cJ2_bitCount 28 = .ok (.iadd, 1) := by decide +kernel
theorem dJ2_bitCount_29 : decode cJ2_bitCount 29 = .ok (.ldc_w 267, 3) := by decide +kernel
theorem dJ2_bitCount_32 : decode cJ2_bitCount 32 = .ok (.iand, 1) := by decide +kernel
theorem dJ2_bitCount_33 : decode cJ2_bitCount 33 = .ok (.istore_n 0, 1) := by decide +kernel
theorem dJ2_bitCount_34 : decode cJ2_bitCount 34 = .ok (.iload_n 0, 1) := by decide +kernel
theorem dJ2_bitCount_35 : decode cJ2_bitCount 35 = .ok (.iload_n 0, 1) := by decide +kernel
theorem dJ2_bitCount_36 : decode cJ2_bitCount 36 = .ok (.bipush 8, 2) := by decide +kernel
theorem dJ2_bitCount_38 : decode cJ2_bitCount 38 = .ok (.iushr, 1) := by decide +kernel
theorem dJ2_bitCount_39 : decode cJ2_bitCount 39 = .ok (.iadd, 1) := by decide +kernel
theorem dJ2_bitCount_40 : decode cJ2_bitCount 40 = .ok (.istore_n 0, 1) := by decide +kernel
theorem dJ2_bitCount_41 : decode cJ2_bitCount 41 = .ok (.iload_n 0, 1) := by decide +kernel
theorem dJ2_bitCount_42 : decode cJ2_bitCount 42 = .ok (.iload_n 0, 1) := by decide +kernel
theorem dJ2_bitCount_43 : decode cJ2_bitCount 43 = .ok (.bipush 16, 2) := by decide +kernel
theorem dJ2_bitCount_45 : decode cJ2_bitCount 45 = .ok (.iushr, 1) := by decide +kernel
theorem dJ2_bitCount_46 : decode cJ2_bitCount 46 = .ok (.iadd, 1) := by decide +kernel
theorem dJ2_bitCount_47 : decode cJ2_bitCount 47 = .ok (.istore_n 0, 1) := by decide +kernel
theorem dJ2_bitCount_48 : decode cJ2_bitCount 48 = .ok (.iload_n 0, 1) := by decide +kernel
theorem dJ2_bitCount_49 : decode cJ2_bitCount 49 = .ok (.bipush 63, 2) := by decide +kernel
theorem dJ2_bitCount_51 : decode cJ2_bitCount 51 = .ok (.iand, 1) := by decide +kernel
theorem dJ2_bitCount_52 : decode cJ2_bitCount 52 = .ok (.ireturn, 1) := by decide +kernel
theorem dJ2_numberOfTrailingZeros_0 : decode cJ2_numberOfTrailingZeros 0 = .ok (.iload_n 0, 1) := by decide +kernel
theorem dJ2_numberOfTrailingZeros_1 : decode cJ2_numberOfTrailingZeros 1 = .ok (.iconst (-1), 1) := by decide +kernel
theorem dJ2_numberOfTrailingZeros_2 : decode cJ2_numberOfTrailingZeros 2 = .ok (.ixor, 1) := by decide +kernel
theorem dJ2_numberOfTrailingZeros_3 : decode cJ2_numberOfTrailingZeros 3 = .ok (.iload_n 0, 1) := by decide +kernel
theorem dJ2_numberOfTrailingZeros_4 : decode cJ2_numberOfTrailingZeros 4 = .ok (.iconst 1, 1) := by decide +kernel
theorem dJ2_numberOfTrailingZeros_5 : decode cJ2_numberOfTrailingZeros 5 = .ok (.isub, 1) := by decide +kernel
theorem dJ2_numberOfTrailingZeros_6 : decode cJ2_numberOfTrailingZeros 6 = .ok (.iand, 1) := by decide +kernel
theorem dJ2_numberOfTrailingZeros_7 : decode cJ2_numberOfTrailingZeros 7 = .ok (.istore_n 0, 1) := by decide +kernel
theorem dJ2_numberOfTrailingZeros_8 : decode cJ2_numberOfTrailingZeros 8 = .ok (.iload_n 0, 1) := by decide +kernel
theorem dJ2_numberOfTrailingZeros_9 : decode cJ2_numberOfTrailingZeros 9 = .ok (.ifCond .gt 8, 3) := by decide +kernel
theorem dJ2_numberOfTrailingZeros_12 : decode cJ2_numberOfTrailingZeros 12 = .ok (.iload_n 0, 1) := by decide +kernel
theorem dJ2_numberOfTrailingZeros_13 : decode cJ2_numberOfTrailingZeros 13 = .ok (.bipush 32, 2) := by decide +kernel
theorem dJ2_numberOfTrailingZeros_15 : decode cJ2_numberOfTrailingZeros 15 = .ok (.iand, 1) := by decide +kernel
theorem dJ2_numberOfTrailingZeros_16 : decode cJ2_numberOfTrailingZeros 16 = .ok (.ireturn, 1) := by decide +kernel
theorem dJ2_numberOfTrailingZeros_17 : decode cJ2_numberOfTrailingZeros 17 = .ok (.iconst 1, 1) := by decide +kernel
theorem dJ2_numberOfTrailingZeros_18 : decode cJ2_numberOfTrailingZeros 18 = .ok (.istore_n 1, 1) := by decide +kernel
theorem dJ2_numberOfTrailingZeros_19 : decode cJ2_numberOfTrailingZeros 19 = .ok (.iload_n 0, 1) := by decide +kernel
theorem dJ2_numberOfTrailingZeros_20 : decode cJ2_numberOfTrailingZeros 20 = .ok (.ldc_w 264, 3) := by decide +kernel
theorem dJ2_numberOfTrailingZeros_23 : decode cJ2_numberOfTrailingZeros 23 = .ok (.if_icmp .le 11, 3) := by decide +kernel
theorem dJ2_numberOfTrailingZeros_26 : decode cJ2_numberOfTrailingZeros 26 = .ok (.iinc 1 16, 3) := by decide +kernel
theorem dJ2_numberOfTrailingZeros_29 : decode cJ2_numberOfTrailingZeros 29 = .ok (.iload_n 0, 1) := by decide +kernel
theorem dJ2_numberOfTrailingZeros_30 : decode cJ2_numberOfTrailingZeros 30 = .ok (.bipush 16, 2) := by decide +kernel
theorem dJ2_numberOfTrailingZeros_32 : decode cJ2_numberOfTrailingZeros 32 = .ok (.iushr, 1) := by decide +kernel
theorem dJ2_numberOfTrailingZeros_33 : decode cJ2_numberOfTrailingZeros 33 = .ok (.istore_n 0, 1) := by decide +kernel
theorem dJ2_numberOfTrailingZeros_34 : decode cJ2_numberOfTrailingZeros 34 = .ok (.iload_n 0, 1) := by decide +kernel
theorem dJ2_numberOfTrailingZeros_35 : decode cJ2_numberOfTrailingZeros 35 = .ok (.sipush 256, 3) := by decide +kernel
theorem dJ2_numberOfTrailingZeros_38 : decode cJ2_numberOfTrailingZeros 38 = .ok (.if_icmp .le 11, 3) := by decide +kernel
theorem dJ2_numberOfTrailingZeros_41 : decode cJ2_numberOfTrailingZeros 41 = .ok (.iinc 1 8, 3) := by decide +kernel
theorem dJ2_numberOfTrailingZeros_44 : decode cJ2_numberOfTrailingZeros 44 = .ok (.iload_n 0, 1) := by decide +kernel
theorem dJ2_numberOfTrailingZeros_45 : decode cJ2_numberOfTrailingZeros 45 = .ok (.bipush 8, 2) := by decide +kernel
theorem dJ2_numberOfTrailingZeros_47 : decode cJ2_numberOfTrailingZeros 47 = .ok (.iushr, 1) := by decide +kernel
theorem dJ2_numberOfTrailingZeros_48 : decode cJ2_numberOfTrailingZeros 48 = .ok (.istore_n 0, 1) := by decide +kernel
theorem dJ2_numberOfTrailingZeros_49 : decode cJ2_numberOfTrailingZeros 49 = .ok (.iload_n 0, 1) := by decide +kernel
theorem dJ2_numberOfTrailingZeros_50 : decode cJ2_numberOfTrailingZeros 50 = .ok (.bipush 16, 2) := by decide +kernel
theorem dJ2_numberOfTrailingZeros_52 : decode cJ2_numberOfTrailingZeros 52 = .ok (.if_icmp .le 10, 3) := by decide +kernel
theorem dJ2_numberOfTrailingZeros_55 : decode cJ2_numberOfTrailingZeros 55 = .ok (.iinc 1 4, 3) := by decide +kernel
theorem dJ2_numberOfTrailingZeros_58 : decode cJ2_numberOfTrailingZeros 58 = .ok (.iload_n 0, 1) := by decide +kernel
theorem dJ2_numberOfTrailingZeros_59 : decode cJ2_numberOfTrailingZeros 59 = .ok (.iconst 4, 1) := by decide +kernel
theorem dJ2_numberOfTrailingZeros_60 : decode cJ2_numberOfTrailingZeros 60 = .ok (.iushr, 1) := by decide +kernel
theorem dJ2_numberOfTrailingZeros_61 : decode cJ2_numberOfTrailingZeros 61 = .ok (.istore_n 0, 1) := by decide +kernel
theorem dJ2_numberOfTrailingZeros_62 : decode cJ2_numberOfTrailingZeros 62 = .ok (.iload_n 0, 1) := by decide +kernel
theorem dJ2_numberOfTrailingZeros_63 : decode cJ2_numberOfTrailingZeros 63 = .ok (.iconst 4, 1) := by decide +kernel
theorem dJ2_numberOfTrailingZeros_64 : decode cJ2_numberOfTrailingZeros 64 = .ok (.if_icmp .le 10, 3) := by decide +kernel
theorem dJ2_numberOfTrailingZeros_67 : decode cJ2_numberOfTrailingZeros 67 = .ok (.iinc 1 2, 3) := by decide +kernel
theorem dJ2_numberOfTrailingZeros_70 : decode cJ2_numberOfTrailingZeros 70 = .ok (.iload_n 0, 1) := by decide +kernel
theorem dJ2_numberOfTrailingZeros_71 : decode cJ2_numberOfTrailingZeros 71 = .ok (.iconst 2, 1) := by decide +kernel
theorem dJ2_numberOfTrailingZeros_72 : decode cJ2_numberOfTrailingZeros 72 = .ok (.iushr, 1) := by decide +kernel
theorem dJ2_numberOfTrailingZeros_73 : decode cJ2_numberOfTrailingZeros 73 = .ok (.istore_n 0, 1) := by decide +kernel
theorem dJ2_numberOfTrailingZeros_74 : decode cJ2_numberOfTrailingZeros 74 = .ok (.iload_n 1, 1) := by decide +kernel
theorem dJ2_numberOfTrailingZeros_75 : decode cJ2_numberOfTrailingZeros 75 = .ok (.iload_n 0, 1) := by decide +kernel
theorem dJ2_numberOfTrailingZeros_76 : decode cJ2_numberOfTrailingZeros 76 = .ok (.iconst 1, 1) := by decide +kernel
theorem dJ2_numberOfTrailingZeros_77 : decode cJ2_numberOfTrailingZeros 77 = .ok (.iushr, 1) := by decide +kernel
theorem dJ2_numberOfTrailingZeros_78 : decode cJ2_numberOfTrailingZeros 78 = .ok (.iadd, 1) := by decide +kernel
theorem dJ2_numberOfTrailingZeros_79 : decode cJ2_numberOfTrailingZeros 79 = .ok (.ireturn, 1) := by decide +kernel
theorem dJ3_canEncode_0 : decode cJ3_canEncode 0 = .ok (.iload_n 0, 1) := by decide +kernel
theorem dJ3_canEncode_1 : decode cJ3_canEncode 1 = .ok (.ifCond .lt 14, 3) := by decide +kernel
theorem dJ3_canEncode_4 : decode cJ3_canEncode 4 = .ok (.iload_n 0, 1) := by decide +kernel
theorem dJ3_canEncode_5 : decode cJ3_canEncode 5 = .ok (.sipush 255, 3) := by decide +kernel
theorem dJ3_canEncode_8 : decode cJ3_canEncode 8 = .ok (.if_icmp .gt 7, 3) := by decide +kernel
theorem dJ3_canEncode_11 : decode cJ3_canEncode 11 = .ok (.iconst 1, 1) := by decide +kernel
theorem dJ3_canEncode_12 : decode cJ3_canEncode 12 = .ok (.goto 4, 3) := by decide +kernel
theorem dJ3_canEncode_15 : decode cJ3_canEncode 15 = .ok (.iconst 0, 1) := by decide +kernel
theorem dJ3_canEncode_16 : decode cJ3_canEncode 16 = .ok (.ireturn, 1) := by decide +kernel
theorem dJ3_indexOfChar_0 : decode cJ3_indexOfChar 0 = .ok (.iload_n 1, 1) := by decide +kernel
theorem dJ3_indexOfChar_1 : decode cJ3_indexOfChar 1 = .ok (.i2b, 1) := by decide +kernel
theorem dJ3_indexOfChar_2 : decode cJ3_indexOfChar 2 = .ok (.istore 4, 2) := by decide +kernel
theorem dJ3_indexOfChar_4 : decode cJ3_indexOfChar 4 = .ok (.iload_n 2, 1) := by decide +kernel
theorem dJ3_indexOfChar_5 : decode cJ3_indexOfChar 5 = .ok (.istore 5, 2) := by decide +kernel
theorem dJ3_indexOfChar_7 : decode cJ3_indexOfChar 7 = .ok (.iload 5, 2) := by decide +kernel
theorem dJ3_indexOfChar_9 : decode cJ3_indexOfChar 9 = .ok (.iload_n 3, 1) := by decide +kernel
theorem dJ3_indexOfChar_10 : decode cJ3_indexOfChar 10 = .ok (.if_icmp .ge 21, 3) := by decide +kernel
theorem dJ3_indexOfChar_13 : decode cJ3_indexOfChar 13 = .ok (.aload_n 0, 1) := by decide +kernel
theorem dJ3_indexOfChar_14 : decode cJ3_indexOfChar 14 = .ok (.iload 5, 2) := by decide +kernel
theorem dJ3_indexOfChar_16 : decode cJ3_indexOfChar 16 = .ok (.baload, 1) := by decide +kernel
theorem dJ3_indexOfChar_17 : decode cJ3_indexOfChar 17 = .ok (.iload 4, 2) := by decide +kernel
theorem dJ3_indexOfChar_19 : decode cJ3_indexOfChar 19 = .ok (.if_icmp .ne 6, 3) := by decide +kernel
theorem dJ3_indexOfChar_22 : decode cJ3_indexOfChar 22 = .ok (.iload 5, 2) := by decide +kernel
theorem dJ3_indexOfChar_24 : decode cJ3_indexOfChar 24 = .ok (.ireturn, 1) := by decide +kernel
theorem dJ3_indexOfChar_25 : decode cJ3_indexOfChar 25 = .ok (.iinc 5 1, 3) := by decide +kernel
theorem dJ3_indexOfChar_28 : decode cJ3_indexOfChar 28 = .ok (.goto (-21), 3) := by decide +kernel
theorem dJ3_indexOfChar_31 : decode cJ3_indexOfChar 31 = .ok (.iconst (-1), 1) := by decide +kernel
theorem dJ3_indexOfChar_32 : decode cJ3_indexOfChar 32 = .ok (.ireturn, 1) := by decide +kernel
theorem dJ3_indexOf_BIIII_0 : decode cJ3_indexOf_BIIII 0 = .ok (.iload_n 1, 1) := by decide +kernel
theorem dJ3_indexOf_BIIII_1 : decode cJ3_indexOf_BIIII 1 = .ok (.invokestatic 88, 3) := by decide +kernel
theorem dJ3_indexOf_BIIII_4 : decode cJ3_indexOf_BIIII 4 = .ok (.ifCond .ne 5, 3) := by decide +kernel
theorem dJ3_indexOf_BIIII_7 : decode cJ3_indexOf_BIIII 7 = .ok (.iconst (-1), 1) := by decide +kernel
theorem dJ3_indexOf_BIIII_8 : decode cJ3_indexOf_BIIII 8 = .ok (.ireturn, 1) := by decide +kernel
theorem dJ3_indexOf_BIIII_9 : decode cJ3_indexOf_BIIII 9 = .ok (.iload_n 2, 1) := by decide +kernel
theorem dJ3_indexOf_BIIII_10 : decode cJ3_indexOf_BIIII 10 = .ok (.iconst 0, 1) := by decide +kernel
theorem dJ3_indexOf_BIIII_11 : decode cJ3_indexOf_BIIII 11 = .ok (.invokestatic 92, 3) := by decide +kernel
theorem dJ3_indexOf_BIIII_14 : decode cJ3_indexOf_BIIII 14 = .ok (.istore_n 2, 1) := by decide +kernel
theorem dJ3_indexOf_BIIII_15 : decode cJ3_indexOf_BIIII 15 = .ok (.iload_n 3, 1) := by decide +kernel
theorem dJ3_indexOf_BIIII_16 : decode cJ3_indexOf_BIIII 16 = .ok (.aload_n 0, 1) := by decide +kernel
theorem dJ3_indexOf_BIIII_17 : decode cJ3_indexOf_BIIII 17 = .ok (.arraylength, 1) := by decide +kernel
theorem dJ3_indexOf_BIIII_18 : decode cJ3_indexOf_BIIII 18 = .ok (.invokestatic 38, 3) := by decide +kernel
theorem dJ3_indexOf_BIIII_21 : decode cJ3_indexOf_BIIII 21 = .ok (.istore_n 3, 1) := by decide +kernel
theorem dJ3_indexOf_BIIII_22 : decode cJ3_indexOf_BIIII 22 = .ok (.iload_n 2, 1) := by decide +kernel
theorem dJ3_indexOf_BIIII_23 : decode cJ3_indexOf_BIIII 23 = .ok (.iload_n 3, 1) := by decide +kernel
theorem dJ3_indexOf_BIIII_24 : decode cJ3_indexOf_BIIII 24 = .ok (.if_icmp .lt 5, 3) := by decide +kernel
theorem dJ3_indexOf_BIIII_27 : decode cJ3_indexOf_BIIII 27 = .ok (.iconst (-1), 1) := by decide +kernel
theorem dJ3_indexOf_BIIII_28 : decode cJ3_indexOf_BIIII 28 = .ok (.ireturn, 1) := by decide +kernel
theorem dJ3_indexOf_BIIII_29 : decode cJ3_indexOf_BIIII 29 = .ok (.aload_n 0, 1) := by decide +kernel
theorem dJ3_indexOf_BIIII_30 : decode cJ3_indexOf_BIIII 30 = .ok (.iload_n 1, 1) := by decide +kernel
theorem dJ3_indexOf_BIIII_31 : decode cJ3_indexOf_BIIII 31 = .ok (.iload_n 2, 1) := by decide +kernel
theorem dJ3_indexOf_BIIII_32 : decode cJ3_indexOf_BIIII 32 = .ok (.iload_n 3, 1) := by decide +kernel
theorem dJ3_indexOf_BIIII_33 : decode cJ3_indexOf_BIIII 33 = .ok (.invokestatic 95, 3) := by decide +kernel
theorem dJ3_indexOf_BIIII_36 : decode cJ3_indexOf_BIIII 36 = .ok (.ireturn, 1) := by decide +kernel
theorem dJ7_fill_IIV_0 : decode cJ7_fill_IIV 0 = .ok (.iconst 0, 1) := by decide +kernel
theorem dJ7_fill_IIV_1 : decode cJ7_fill_IIV 1 = .ok (.istore_n 2, 1) := by decide +kernel
theorem dJ7_fill_IIV_2 : decode cJ7_fill_IIV 2 = .ok (.aload_n 0, 1) := by decide +kernel
theorem dJ7_fill_IIV_3 : decode cJ7_fill_IIV 3 = .ok (.arraylength, 1) := by decide +kernel
theorem dJ7_fill_IIV_4 : decode cJ7_fill_IIV 4 = .ok (.istore_n 3, 1) := by decide +kernel
theorem dJ7_fill_IIV_5 : decode cJ7_fill_IIV 5 = .ok (.iload_n 2, 1) := by decide +kernel
theorem dJ7_fill_IIV_6 : decode cJ7_fill_IIV 6 = .ok (.iload_n 3, 1) := by decide +kernel
theorem dJ7_fill_IIV_7 : decode cJ7_fill_IIV 7 = .ok (.if_icmp .ge 13, 3) := by decide +kernel
theorem dJ7_fill_IIV_10 : decode cJ7_fill_IIV 10 = .ok (.aload_n 0, 1) := by decide +kernel
theorem dJ7_fill_IIV_11 : decode cJ7_fill_IIV 11 = .ok (.iload_n 2, 1) := by decide +kernel
theorem dJ7_fill_IIV_12 : decode cJ7_fill_IIV 12 = .ok (.iload_n 1, 1) := by decide +kernel
theorem dJ7_fill_IIV_13 : decode cJ7_fill_IIV 13 = .ok (.iastore, 1) := by decide +kernel
theorem dJ7_fill_IIV_14 : decode cJ7_fill_IIV 14 = .ok (.iinc 2 1, 3) := by decide +kernel
theorem dJ7_fill_IIV_17 : decode cJ7_fill_IIV 17 = .ok (.goto (-12), 3) := by decide +kernel
theorem dJ7_fill_IIV_20 : decode cJ7_fill_IIV 20 = .ok (.return_, 1) := by decide +kernel
theorem dJ7_fill_JJV_0 : decode cJ7_fill_JJV 0 = .ok (.iconst 0, 1) := by decide +kernel
theorem dJ7_fill_JJV_1 : decode cJ7_fill_JJV 1 = .ok (.istore_n 3, 1) := by decide +kernel
theorem dJ7_fill_JJV_2 : decode cJ7_fill_JJV 2 = .ok (.aload_n 0, 1) := by decide +kernel
theorem dJ7_fill_JJV_3 : decode cJ7_fill_JJV 3 = .ok (.arraylength, 1) := by decide +kernel
theorem dJ7_fill_JJV_4 : decode cJ7_fill_JJV 4 = .ok (.istore 4, 2) := by decide +kernel
theorem dJ7_fill_JJV_6 : decode cJ7_fill_JJV 6 = .ok (.iload_n 3, 1) := by decide +kernel
theorem dJ7_fill_JJV_7 : decode cJ7_fill_JJV 7 = .ok (.iload 4, 2) := by decide +kernel
theorem dJ7_fill_JJV_9 : decode cJ7_fill_JJV 9 = .ok (.if_icmp .ge 13, 3) := by decide +kernel
theorem dJ7_fill_JJV_12 : decode cJ7_fill_JJV 12 = .ok (.aload_n 0, 1) := by decide +kernel
theorem dJ7_fill_JJV_13 : decode cJ7_fill_JJV 13 = .ok (.iload_n 3, 1) := by decide +kernel
theorem dJ7_fill_JJV_14 : decode cJ7_fill_JJV 14 = .ok (.lload_n 1, 1) := by decide +kernel
theorem dJ7_fill_JJV_15 : decode cJ7_fill_JJV 15 = .ok (.lastore, 1) := by decide +kernel
theorem dJ7_fill_JJV_16 : decode cJ7_fill_JJV 16 = .ok (.iinc 3 1, 3) := by decide +kernel
theorem dJ7_fill_JJV_19 : decode cJ7_fill_JJV 19 = .ok (.goto (-13), 3) := by decide +kernel
theorem dJ7_fill_JJV_22 : decode cJ7_fill_JJV 22 = .ok (.return_, 1) := by decide +kernel
theorem dX0_busRead_0 : decode cX0_busRead 0 = .ok (.aload_n 0, 1) := by decide +kernel
theorem dX0_busRead_1 : decode cX0_busRead 1 = .ok (.getfield 44, 3) := by decide +kernel
theorem dX0_busRead_4 : decode cX0_busRead 4 = .ok (.iload_n 1, 1) := by decide +kernel
theorem dX0_busRead_5 : decode cX0_busRead 5 = .ok (.invokevirtual 141, 3) := by decide +kernel
theorem dX0_busRead_8 : decode cX0_busRead 8 = .ok (.istore_n 2, 1) := by decide +kernel
theorem dX0_busRead_9 : decode cX0_busRead 9 = .ok (.iload_n 2, 1) := by decide +kernel
theorem dX0_busRead_10 : decode cX0_busRead 10 = .ok (.iconst (-1), 1) := by decide +kernel
theorem dX0_busRead_11 : decode cX0_busRead 11 = .ok (.if_icmp .ne 7, 3) := by decide +kernel
theorem dX0_busRead_14 : decode cX0_busRead 14 = .ok (.iconst (-1), 1) := by decide +kernel
theorem dX0_busRead_15 : decode cX0_busRead 15 = .ok (.goto 11, 3) := by decide +kernel
theorem dX0_busRead_18 : decode cX0_busRead 18 = .ok (.aload_n 0, 1) := by decide +kernel
theorem dX0_busRead_19 : decode cX0_busRead 19 = .ok (.getfield 44, 3) := by decide +kernel
theorem dX0_busRead_22 : decode cX0_busRead 22 = .ok (.iload_n 2, 1) := by decide +kernel
theorem dX0_busRead_23 : decode cX0_busRead 23 = .ok (.invokevirtual 169, 3) := by decide +kernel
theorem dX0_busRead_26 : decode cX0_busRead 26 = .ok (.ireturn, 1) := by decide +kernel
theorem dX0_busWrite_0 : decode cX0_busWrite 0 = .ok (.aload_n 0, 1) := by decide +kernel
theorem dX0_busWrite_1 : decode cX0_busWrite 1 = .ok (.getfield 44, 3) := by decide +kernel
theorem dX0_busWrite_4 : decode cX0_busWrite 4 = .ok (.iload_n 1, 1) := by decide +kernel
theorem dX0_busWrite_5 : decode cX0_busWrite 5 = .ok (.invokevirtual 141, 3) := by decide +kernel
theorem dX0_busWrite_8 : decode cX0_busWrite 8 = .ok (.istore_n 3, 1) := by decide +kernel
theorem dX0_busWrite_9 : decode cX0_busWrite 9 = .ok (.iload_n 3, 1) := by decide +kernel
theorem dX0_busWrite_10 : decode cX0_busWrite 10 = .ok (.iconst (-1), 1) := by decide +kernel
theorem dX0_busWrite_11 : decode cX0_busWrite 11 = .ok (.if_icmp .ne 5, 3) := by decide +kernel
theorem dX0_busWrite_14 : decode cX0_busWrite 14 = .ok (.iconst (-1), 1) := by decide +kernel
theorem dX0_busWrite_15 : decode cX0_busWrite 15 = .ok (.ireturn, 1) := by decide +kernel
theorem dX0_busWrite_16 : decode cX0_busWrite 16 = .ok (.aload_n 0, 1) := by decide +kernel
theorem dX0_busWrite_17 : decode cX0_busWrite 17 = .ok (.getfield 44, 3) := by decide +kernel
theorem dX0_busWrite_20 : decode cX0_busWrite 20 = .ok (.getfield 144, 3) := by decide +kernel
theorem dX0_busWrite_23 : decode cX0_busWrite 23 = .ok (.iload_n 3, 1) := by decide +kernel
theorem dX0_busWrite_24 : decode cX0_busWrite 24 = .ok (.iload_n 2, 1) := by decide +kernel
theorem dX0_busWrite_25 : decode cX0_busWrite 25 = .ok (.ldc 148, 2) := by decide +kernel
theorem dX0_busWrite_27 : decode cX0_busWrite 27 = .ok (.iand, 1) := by decide +kernel
theorem dX0_busWrite_28 : decode cX0_busWrite 28 = .ok (.invokevirtual 149, 3) := by decide +kernel
theorem dX0_busWrite_31 : decode cX0_busWrite 31 = .ok (.istore 4, 2) := by decide +kernel
theorem dX0_busWrite_33 : decode cX0_busWrite 33 = .ok (.aload_n 0, 1) := by decide +kernel
theorem dX0_busWrite_34 : decode cX0_busWrite 34 = .ok (.getfield 44, 3) := by decide +kernel
