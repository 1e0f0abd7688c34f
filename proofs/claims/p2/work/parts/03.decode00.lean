theorem dJ1_min_0 : decode cJ1_min 0 = .ok (.iload_n 0, 1) := by decide +kernel
theorem dJ1_min_1 : decode cJ1_min 1 = .ok (.iload_n 1, 1) := by decide +kernel
theorem dJ1_min_2 : decode cJ1_min 2 = .ok (.if_icmp .gt 7, 3) := by decide +kernel
theorem dJ1_min_5 : decode cJ1_min 5 = .ok (.iload_n 0, 1) := by decide +kernel
theorem dJ1_min_6 : decode cJ1_min 6 = .ok (.goto 4, 3) := by decide +kernel
theorem dJ1_min_9 : decode cJ1_min 9 = .ok (.iload_n 1, 1) := by decide +kernel
theorem dJ1_min_10 : decode cJ1_min 10 = .ok (.ireturn, 1) := by decide +kernel
theorem dJ2_bitCount_0 : decode cJ2_bitCount 0 = .ok (.iload_n 0, 1) := by decide +kernel
theorem dJ2_bitCount_1 : decode cJ2_bitCount 1 = .ok (.iload_n 0, 1) := by decide +kernel
theorem dJ2_bitCount_2 : decode cJ2_bitCount 2 = .ok (.iconst 1, 1) := by decide +kernel
theorem dJ2_bitCount_3 : decode cJ2_bitCount 3 = .ok (.iushr, 1) := by decide +kernel
theorem dJ2_bitCount_4 : decode cJ2_bitCount 4 = .ok (.ldc_w 265, 3) := by decide +kernel
theorem dJ2_bitCount_7 : decode cJ2_bitCount 7 = .ok (.iand, 1) := by decide +kernel
theorem dJ2_bitCount_8 : decode cJ2_bitCount 8 = .ok (.isub, 1) := by decide +kernel
theorem dJ2_bitCount_9 : decode cJ2_bitCount 9 = .ok (.istore_n 0, 1) := by decide +kernel
theorem dJ2_bitCount_10 : decode cJ2_bitCount 10 = .ok (.iload_n 0, 1) := by decide +kernel
theorem dJ2_bitCount_11 : decode cJ2_bitCount 11 = .ok (.ldc_w 266, 3) := by decide +kernel
theorem dJ2_bitCount_14 : decode cJ2_bitCount 14 = .ok (.iand, 1) := by decide +kernel
theorem dJ2_bitCount_15 : decode cJ2_bitCount 15 = .ok (.iload_n 0, 1) := by decide +kernel
theorem dJ2_bitCount_16 : decode cJ2_bitCount 16 = .ok (.iconst 2, 1) := by decide +kernel
theorem dJ2_bitCount_17 : decode cJ2_bitCount 17 = .ok (.iushr, 1) := by decide +kernel
theorem dJ2_bitCount_18 : decode cJ2_bitCount 18 = .ok (.ldc_w 266, 3) := by decide +kernel
theorem dJ2_bitCount_21 : decode cJ2_bitCount 21 = .ok (.iand, 1) := by decide +kernel
theorem dJ2_bitCount_22 : decode cJ2_bitCount 22 = .ok (.iadd, 1) := by decide +kernel
theorem dJ2_bitCount_23 : decode cJ2_bitCount 23 = .ok (.istore_n 0, 1) := by decide +kernel
theorem dJ2_bitCount_24 : decode cJ2_bitCount 24 = .ok (.iload_n 0, 1) := by decide +kernel
theorem dJ2_bitCount_25 : decode cJ2_bitCount 25 = .ok (.iload_n 0, 1) := by decide +kernel
theorem dJ2_bitCount_26 : decode cJ2_bitCount 26 = .ok (.iconst 4, 1) := by decide +kernel
theorem dJ2_bitCount_27 : decode cJ2_bitCount 27 = .ok (.iushr, 1) := by decide +kernel
theorem dJ2_bitCount_28 : decode cJ2_bitCount 28 = .ok (.iadd, 1) := by decide +kernel
theorem dJ2_bitCount_29 : decode cJ2_bitCount 29 = .ok (.ldc_w 267, 3) := by decide +kernel
theorem dJ2_bitCount_32 : decode cJ2_bitCount 32 = .ok (.iand, 1) := by decide +kernel
theorem dJ2_bitCount_33 : decode cJ2_bitCount 33 = .ok (.istore_n 0, 1) := by decide +kernel
theorem dJ2_bitCount_34 : decode cJ2_bitCount 34 = .ok (.iload_n 0, 1) := by decide +kernel
theorem dJ2_bitCount_35 : decode cJ2_bitCount 35 = .ok (.iload_n 0, 1) := by decide +kernel
theorem dJ2_bitCount_36 : decode cJ2_bitCount 36 = .ok (.bipush 8, 2) := by decide +kernel
theorem dJ2_bitCount_38 : decode cJ2_bitCount 38 = .ok (.iushr, 1) := by decide +kernel
theorem dJ2_bitCount_39 : decode cJ2_bitCount 39 = .ok (.iadd, 1) := by decide +kernel
theorem dJ2_bitCount_40 : decode cJ2_bitCount 40 = .ok (.istore_n 0, 1) := by decide +kernel
theorem dJ2_bitCount_41 : decode cJ2_bitCount 41 = .ok (.iload_n 0, 1) := by decide +kernel
theorem dJ2_bitCount_42 : decode cJ2_bitCount 42 = .ok (.iload_n 0, 1) := by decide +kernel
theorem dJ2_bitCount_43 : decode cJ2_bitCount 43 = .ok (.bipush 16, 2) := by decide +kernel
theorem dJ2_bitCount_45 : decode cJ2_bitCount 45 = .ok (.iushr, 1) := by decide +kernel
theorem dJ2_bitCount_46 : decode cJ2_bitCount 46 = .ok (.iadd, 1) := by decide +kernel
theorem dJ2_bitCount_47 : decode cJ2_bitCount 47 = .ok (.istore_n 0, 1) := by decide +kernel
theorem dJ2_bitCount_48 : decode cJ2_bitCount 48 = .ok (.iload_n 0, 1) := by decide +kernel
theorem dJ2_bitCount_49 : decode cJ2_bitCount 49 = .ok (.bipush 63, 2) := by decide +kernel
theorem dJ2_bitCount_51 : decode cJ2_bitCount 51 = .ok (.iand, 1) := by decide +kernel
theorem dJ2_bitCount_52 : decode cJ2_bitCount 52 = .ok (.ireturn, 1) := by decide +kernel
theorem dJ2_numberOfTrailingZeros_0 : decode cJ2_numberOfTrailingZeros 0 = .ok (.iload_n 0, 1) := by decide +kernel
theorem dJ2_numberOfTrailingZeros_1 : decode cJ2_numberOfTrailingZeros 1 = .ok (.iconst (-1), 1) := by decide +kernel
theorem dJ2_numberOfTrailingZeros_2 : decode cJ2_numberOfTrailingZeros 2 = .ok (.ixor, 1) := by decide +kernel
theorem dJ2_numberOfTrailingZeros_3 : decode cJ2_numberOfTrailingZeros 3 = .ok (.iload_n 0, 1) := by decide +kernel
theorem dJ2_numberOfTrailingZeros_4 : decode cJ2_numberOfTrailingZeros 4 = .ok (.iconst 1, 1) := by decide +kernel
theorem dJ2_numberOfTrailingZeros_5 : decode cJ2_numberOfTrailingZeros 5 = .ok (.isub, 1) := by decide +kernel
theorem dJ2_numberOfTrailingZeros_6 : decode cJ2_numberOfTrailingZeros 6 = .ok (.iand, 1) := by decide +kernel
theorem dJ2_numberOfTrailingZeros_7 : decode cJ2_numberOfTrailingZeros 7 = .ok (.istore_n 0, 1) := by decide +kernel
theorem dJ2_numberOfTrailingZeros_8 : decode cJ2_numberOfTrailingZeros 8 = .ok (.iload_n 0, 1) := by decide +kernel
theorem dJ2_numberOfTrailingZeros_9 : decode cJ2_numberOfTrailingZeros 9 = .ok (.ifCond .gt 8, 3) := by decide +kernel
theorem dJ2_numberOfTrailingZeros_12 : decode cJ2_numberOfTrailingZeros 12 = .ok (.iload_n 0, 1) := by decide +kernel
theorem dJ2_numberOfTrailingZeros_13 : decode cJ2_numberOfTrailingZeros 13 = .ok (.bipush 32, 2) := by decide +kernel
theorem dJ2_numberOfTrailingZeros_15 : decode cJ2_numberOfTrailingZeros 15 = .ok (.iand, 1) := by decide +kernel
theorem dJ2_numberOfTrailingZeros_16 : decode cJ2_numberOfTrailingZeros 16 = .ok (.ireturn, 1) := by decide +kernel
theorem dJ2_numberOfTrailingZeros_17 : decode cJ2_numberOfTrailingZeros 17 = .ok (.iconst 1, 1) := by decide +kernel
theorem dJ2_numberOfTrailingZeros_18 : decode cJ2_numberOfTrailingZeros 18 = .ok (.istore_n 1, 1) := by decide +kernel
theorem dJ2_numberOfTrailingZeros_19 : decode cJ2_numberOfTrailingZeros 19 = .ok (.iload_n 0, 1) := by decide +kernel
theorem dJ2_numberOfTrailingZeros_20 : decode cJ2_numberOfTrailingZeros 20 = .ok (.ldc_w 264, 3) := by decide +kernel
theorem dJ2_numberOfTrailingZeros_23 : decode cJ2_numberOfTrailingZeros 23 = .ok (.if_icmp .le 11, 3) := by decide +kernel
theorem dJ2_numberOfTrailingZeros_26 : decode cJ2_numberOfTrailingZeros 26 = .ok (.iinc 1 16, 3) := by decide +kernel
theorem dJ2_numberOfTrailingZeros_29 : decode cJ2_numberOfTrailingZeros 29 = .ok (.iload_n 0, 1) := by decide +kernel
theorem dJ2_numberOfTrailingZeros_30 : decode cJ2_numberOfTrailingZeros 30 = .ok (.bipush 16, 2) := by decide +kernel
theorem dJ2_numberOfTrailingZeros_32 : decode cJ2_numberOfTrailingZeros 32 = .ok (.iushr, 1) := by decide +kernel
theorem dJ2_numberOfTrailingZeros_33 : decode cJ2_numberOfTrailingZeros 33 = .ok (.istore_n 0, 1) := by decide +kernel
theorem dJ2_numberOfTrailingZeros_34 : decode cJ2_numberOfTrailingZeros 34 = .ok (.iload_n 0, 1) := by decide +kernel
theorem dJ2_numberOfTrailingZeros_35 : decode cJ2_numberOfTrailingZeros 35 = .ok (.sipush 256, 3) := by decide +kernel
theorem dJ2_numberOfTrailingZeros_38 : decode cJ2_numberOfTrailingZeros 38 = .ok (.if_icmp .le 11, 3) := by decide +kernel
theorem dJ2_numberOfTrailingZeros_41 : decode cJ2_numberOfTrailingZeros 41 = .ok (.iinc 1 8, 3) := by decide +kernel
theorem dJ2_numberOfTrailingZeros_44 : decode cJ2_numberOfTrailingZeros 44 = .ok (.iload_n 0, 1) := by decide +kernel
theorem dJ2_numberOfTrailingZeros_45 : decode cJ2_numberOfTrailingZeros 45 = .ok (.bipush 8, 2) := by decide +kernel
theorem dJ2_numberOfTrailingZeros_47 : decode cJ2_numberOfTrailingZeros 47 = .ok (.iushr, 1) := by decide +kernel
theorem dJ2_numberOfTrailingZeros_48 : decode cJ2_numberOfTrailingZeros 48 = .ok (.istore_n 0, 1) := by decide +kernel
theorem dJ2_numberOfTrailingZeros_49 : decode cJ2_numberOfTrailingZeros 49 = .ok (.iload_n 0, 1) := by decide +kernel
theorem dJ2_numberOfTrailingZeros_50 : decode cJ2_numberOfTrailingZeros 50 = .ok (.bipush 16, 2) := by decide +kernel
theorem dJ2_numberOfTrailingZeros_52 : decode cJ2_numberOfTrailingZeros 52 = .ok (.if_icmp .le 10, 3) := by decide +kernel
theorem dJ2_numberOfTrailingZeros_55 : decode cJ2_numberOfTrailingZeros 55 = .ok (.iinc 1 4, 3) := by decide +kernel
theorem dJ2_numberOfTrailingZeros_58 : decode cJ2_numberOfTrailingZeros 58 = .ok (.iload_n 0, 1) := by decide +kernel
theorem dJ2_numberOfTrailingZeros_59 : decode cJ2_numberOfTrailingZeros 59 = .ok (.iconst 4, 1) := by decide +kernel
theorem dJ2_numberOfTrailingZeros_60 : decode cJ2_numberOfTrailingZeros 60 = .ok (.iushr, 1) := by decide +kernel
theorem dJ2_numberOfTrailingZeros_61 : decode cJ2_numberOfTrailingZeros 61 = .ok (.istore_n 0, 1) := by decide +kernel
theorem dJ2_numberOfTrailingZeros_62 : decode cJ2_numberOfTrailingZeros 62 = .ok (.iload_n 0, 1) := by decide +kernel
theorem dJ2_numberOfTrailingZeros_63 : decode cJ2_numberOfTrailingZeros 63 = .ok (.iconst 4, 1) := by decide +kernel
theorem dJ2_numberOfTrailingZeros_64 : decode cJ2_numberOfTrailingZeros 64 = .ok (.if_icmp .le 10, 3) := by decide +kernel
theorem dJ2_numberOfTrailingZeros_67 : decode cJ2_numberOfTrailingZeros 67 = .ok (.iinc 1 2, 3) := by decide +kernel
theorem dJ2_numberOfTrailingZeros_70 : decode cJ2_numberOfTrailingZeros 70 = .ok (.iload_n 0, 1) := by decide +kernel
theorem dJ2_numberOfTrailingZeros_71 : decode cJ2_numberOfTrailingZeros 71 = .ok (.iconst 2, 1) := by decide +kernel
theorem dJ2_numberOfTrailingZeros_72 : decode cJ2_numberOfTrailingZeros 72 = .ok (.iushr, 1) := by decide +kernel
theorem dJ2_numberOfTrailingZeros_73 : decode cJ2_numberOfTrailingZeros 73 = .ok (.istore_n 0, 1) := by decide +kernel
theorem dJ2_numberOfTrailingZeros_74 : decode cJ2_numberOfTrailingZeros 74 = .ok (.iload_n 1, 1) := by decide +kernel
theorem dJ2_numberOfTrailingZeros_75 : decode cJ2_numberOfTrailingZeros 75 = .ok (.iload_n 0, 1) := by decide +kernel
theorem dJ2_numberOfTrailingZeros_76 : decode cJ2_numberOfTrailingZeros 76 = .ok (.iconst 1, 1) := by decide +kernel
theorem dJ2_numberOfTrailingZeros_77 : decode cJ2_numberOfTrailingZeros 77 = .ok (.iushr, 1) := by decide +kernel
theorem dJ2_numberOfTrailingZeros_78 : decode cJ2_numberOfTrailingZeros 78 = .ok (.iadd, 1) := by decide +kernel
theorem dJ2_numberOfTrailingZeros_79 : decode cJ2_numberOfTrailingZeros 79 = .ok (.ireturn, 1) := by decide +kernel
theorem dX0_add_0 : decode cX0_add 0 = .ok (.aload_n 0, 1) := by decide +kernel
theorem dX0_add_1 : decode cX0_add 1 = .ok (.getfield 44, 3) := by decide +kernel
theorem dX0_add_4 : decode cX0_add 4 = .ok (.sipush 1000, 3) := by decide +kernel
theorem dX0_add_7 : decode cX0_add 7 = .ok (.if_icmp .lt 9, 3) := by decide +kernel
theorem dX0_add_10 : decode cX0_add 10 = .ok (.aload_n 0, 1) := by decide +kernel
theorem dX0_add_11 : decode cX0_add 11 = .ok (.iconst 1, 1) := by decide +kernel
theorem dX0_add_12 : decode cX0_add 12 = .ok (.putfield 47, 3) := by decide +kernel
theorem dX0_add_15 : decode cX0_add 15 = .ok (.return_, 1) := by decide +kernel
theorem dX0_add_16 : decode cX0_add 16 = .ok (.aload_n 0, 1) := by decide +kernel
theorem dX0_add_17 : decode cX0_add 17 = .ok (.getfield 15, 3) := by decide +kernel
theorem dX0_add_20 : decode cX0_add 20 = .ok (.iconst 0, 1) := by decide +kernel
theorem dX0_add_21 : decode cX0_add 21 = .ok (.aload_n 0, 1) := by decide +kernel
theorem dX0_add_22 : decode cX0_add 22 = .ok (.getfield 11, 3) := by decide +kernel
theorem dX0_add_25 : decode cX0_add 25 = .ok (.aload_n 0, 1) := by decide +kernel
theorem dX0_add_26 : decode cX0_add 26 = .ok (.getfield 44, 3) := by decide +kernel
theorem dX0_add_29 : decode cX0_add 29 = .ok (.iconst 5, 1) := by decide +kernel
theorem dX0_add_30 : decode cX0_add 30 = .ok (.imul, 1) := by decide +kernel
theorem dX0_add_31 : decode cX0_add 31 = .ok (.iconst 5, 1) := by decide +kernel
theorem dX0_add_32 : decode cX0_add 32 = .ok (.invokestatic 138, 3) := by decide +kernel
theorem dX0_add_35 : decode cX0_add 35 = .ok (.aload_n 0, 1) := by decide +kernel
theorem dX0_add_36 : decode cX0_add 36 = .ok (.dup, 1) := by decide +kernel
theorem dX0_add_37 : decode cX0_add 37 = .ok (.getfield 44, 3) := by decide +kernel
theorem dX0_add_40 : decode cX0_add 40 = .ok (.iconst 1, 1) := by decide +kernel
theorem dX0_add_41 : decode cX0_add 41 = .ok (.iadd, 1) := by decide +kernel
theorem dX0_add_42 : decode cX0_add 42 = .ok (.putfield 44, 3) := by decide +kernel
theorem dX0_add_45 : decode cX0_add 45 = .ok (.aload_n 0, 1) := by decide +kernel
theorem dX0_add_46 : decode cX0_add 46 = .ok (.getfield 18, 3) := by decide +kernel
theorem dX0_add_49 : decode cX0_add 49 = .ok (.iload_n 1, 1) := by decide +kernel
theorem dX0_add_50 : decode cX0_add 50 = .ok (.aload_n 0, 1) := by decide +kernel
theorem dX0_add_51 : decode cX0_add 51 = .ok (.getfield 44, 3) := by decide +kernel
theorem dX0_add_54 : decode cX0_add 54 = .ok (.iastore, 1) := by decide +kernel
theorem dX0_add_55 : decode cX0_add 55 = .ok (.return_, 1) := by decide +kernel
theorem dX0_begin_0 : decode cX0_begin 0 = .ok (.aload_n 0, 1) := by decide +kernel
theorem dX0_begin_1 : decode cX0_begin 1 = .ok (.getfield 18, 3) := by decide +kernel
theorem dX0_begin_4 : decode cX0_begin 4 = .ok (.iconst 0, 1) := by decide +kernel
theorem dX0_begin_5 : decode cX0_begin 5 = .ok (.invokestatic 38, 3) := by decide +kernel
theorem dX0_begin_8 : decode cX0_begin 8 = .ok (.aload_n 0, 1) := by decide +kernel
theorem dX0_begin_9 : decode cX0_begin 9 = .ok (.iconst 0, 1) := by decide +kernel
theorem dX0_begin_10 : decode cX0_begin 10 = .ok (.putfield 44, 3) := by decide +kernel
theorem dX0_begin_13 : decode cX0_begin 13 = .ok (.aload_n 0, 1) := by decide +kernel
theorem dX0_begin_14 : decode cX0_begin 14 = .ok (.iconst 0, 1) := by decide +kernel
theorem dX0_begin_15 : decode cX0_begin 15 = .ok (.putfield 47, 3) := by decide +kernel
theorem dX0_begin_18 : decode cX0_begin 18 = .ok (.aload_n 0, 1) := by decide +kernel
theorem dX0_begin_19 : decode cX0_begin 19 = .ok (.iconst (-1), 1) := by decide +kernel
theorem dX0_begin_20 : decode cX0_begin 20 = .ok (.putfield 22, 3) := by decide +kernel
theorem dX0_begin_23 : decode cX0_begin 23 = .ok (.aload_n 0, 1) := by decide +kernel
theorem dX0_begin_24 : decode cX0_begin 24 = .ok (.iconst 0, 1) := by decide +kernel
theorem dX0_begin_25 : decode cX0_begin 25 = .ok (.putfield 51, 3) := by decide +kernel
theorem dX0_begin_28 : decode cX0_begin 28 = .ok (.aload_n 0, 1) := by decide +kernel
theorem dX0_begin_29 : decode cX0_begin 29 = .ok (.getfield 34, 3) := by decide +kernel
theorem dX0_begin_32 : decode cX0_begin 32 = .ok (.getfield 54, 3) := by decide +kernel
theorem dX0_begin_35 : decode cX0_begin 35 = .ok (.invokevirtual 60, 3) := by decide +kernel
theorem dX0_begin_38 : decode cX0_begin 38 = .ok (.aload_n 0, 1) := by decide +kernel
theorem dX0_begin_39 : decode cX0_begin 39 = .ok (.iconst 0, 1) := by decide +kernel
theorem dX0_begin_40 : decode cX0_begin 40 = .ok (.invokevirtual 65, 3) := by decide +kernel
theorem dX0_begin_43 : decode cX0_begin 43 = .ok (.return_, 1) := by decide +kernel
theorem dX0_hashOfKey_0 : decode cX0_hashOfKey 0 = .ok (.lconst 0, 1) := by decide +kernel
theorem dX0_hashOfKey_1 : decode cX0_hashOfKey 1 = .ok (.lstore_n 1, 1) := by decide +kernel
theorem dX0_hashOfKey_2 : decode cX0_hashOfKey 2 = .ok (.iconst 0, 1) := by decide +kernel
theorem dX0_hashOfKey_3 : decode cX0_hashOfKey 3 = .ok (.istore_n 3, 1) := by decide +kernel
theorem dX0_hashOfKey_4 : decode cX0_hashOfKey 4 = .ok (.iload_n 3, 1) := by decide +kernel
theorem dX0_hashOfKey_5 : decode cX0_hashOfKey 5 = .ok (.iconst 5, 1) := by decide +kernel
theorem dX0_hashOfKey_6 : decode cX0_hashOfKey 6 = .ok (.if_icmp .ge 29, 3) := by decide +kernel
theorem dX0_hashOfKey_9 : decode cX0_hashOfKey 9 = .ok (.lload_n 1, 1) := by decide +kernel
theorem dX0_hashOfKey_10 : decode cX0_hashOfKey 10 = .ok (.aload_n 0, 1) := by decide +kernel
theorem dX0_hashOfKey_11 : decode cX0_hashOfKey 11 = .ok (.getfield 15, 3) := by decide +kernel
theorem dX0_hashOfKey_14 : decode cX0_hashOfKey 14 = .ok (.iload_n 3, 1) := by decide +kernel
theorem dX0_hashOfKey_15 : decode cX0_hashOfKey 15 = .ok (.laload, 1) := by decide +kernel
theorem dX0_hashOfKey_16 : decode cX0_hashOfKey 16 = .ok (.lxor, 1) := by decide +kernel
theorem dX0_hashOfKey_17 : decode cX0_hashOfKey 17 = .ok (.ldc2_w 136, 3) := by decide +kernel
theorem dX0_hashOfKey_20 : decode cX0_hashOfKey 20 = .ok (.lmul, 1) := by decide +kernel
theorem dX0_hashOfKey_21 : decode cX0_hashOfKey 21 = .ok (.lstore_n 1, 1) := by decide +kernel
theorem dX0_hashOfKey_22 : decode cX0_hashOfKey 22 = .ok (.lload_n 1, 1) := by decide +kernel
theorem dX0_hashOfKey_23 : decode cX0_hashOfKey 23 = .ok (.lload_n 1, 1) := by decide +kernel
theorem dX0_hashOfKey_24 : decode cX0_hashOfKey 24 = .ok (.bipush 29, 2) := by decide +kernel
theorem dX0_hashOfKey_26 : decode cX0_hashOfKey 26 = .ok (.lushr, 1) := by decide +kernel
theorem dX0_hashOfKey_27 : decode cX0_hashOfKey 27 = .ok (.lxor, 1) := by decide +kernel
theorem dX0_hashOfKey_28 : decode cX0_hashOfKey 28 = .ok (.lstore_n 1, 1) := by decide +kernel
theorem dX0_hashOfKey_29 : decode cX0_hashOfKey 29 = .ok (.iinc 3 1, 3) := by decide +kernel
theorem dX0_hashOfKey_32 : decode cX0_hashOfKey 32 = .ok (.goto (-28), 3) := by decide +kernel
theorem dX0_hashOfKey_35 : decode cX0_hashOfKey 35 = .ok (.lload_n 1, 1) := by decide +kernel
theorem dX0_hashOfKey_36 : decode cX0_hashOfKey 36 = .ok (.bipush 32, 2) := by decide +kernel
theorem dX0_hashOfKey_38 : decode cX0_hashOfKey 38 = .ok (.lushr, 1) := by decide +kernel
theorem dX0_hashOfKey_39 : decode cX0_hashOfKey 39 = .ok (.l2i, 1) := by decide +kernel
theorem dX0_hashOfKey_40 : decode cX0_hashOfKey 40 = .ok (.sipush 2047, 3) := by decide +kernel
theorem dX0_hashOfKey_43 : decode cX0_hashOfKey 43 = .ok (.iand, 1) := by decide +kernel
theorem dX0_hashOfKey_44 : decode cX0_hashOfKey 44 = .ok (.ireturn, 1) := by decide +kernel
theorem dX0_isKey_0 : decode cX0_isKey 0 = .ok (.iconst 0, 1) := by decide +kernel
theorem dX0_isKey_1 : decode cX0_isKey 1 = .ok (.istore_n 2, 1) := by decide +kernel
theorem dX0_isKey_2 : decode cX0_isKey 2 = .ok (.iload_n 2, 1) := by decide +kernel
theorem dX0_isKey_3 : decode cX0_isKey 3 = .ok (.iconst 5, 1) := by decide +kernel
theorem dX0_isKey_4 : decode cX0_isKey 4 = .ok (.if_icmp .ge 29, 3) := by decide +kernel
theorem dX0_isKey_7 : decode cX0_isKey 7 = .ok (.aload_n 0, 1) := by decide +kernel
theorem dX0_isKey_8 : decode cX0_isKey 8 = .ok (.getfield 11, 3) := by decide +kernel
theorem dX0_isKey_11 : decode cX0_isKey 11 = .ok (.iload_n 1, 1) := by decide +kernel
theorem dX0_isKey_12 : decode cX0_isKey 12 = .ok (.iload_n 2, 1) := by decide +kernel
theorem dX0_isKey_13 : decode cX0_isKey 13 = .ok (.iadd, 1) := by decide +kernel
theorem dX0_isKey_14 : decode cX0_isKey 14 = .ok (.laload, 1) := by decide +kernel
theorem dX0_isKey_15 : decode cX0_isKey 15 = .ok (.aload_n 0, 1) := by decide +kernel
theorem dX0_isKey_16 : decode cX0_isKey 16 = .ok (.getfield 15, 3) := by decide +kernel
theorem dX0_isKey_19 : decode cX0_isKey 19 = .ok (.iload_n 2, 1) := by decide +kernel
theorem dX0_isKey_20 : decode cX0_isKey 20 = .ok (.laload, 1) := by decide +kernel
theorem dX0_isKey_21 : decode cX0_isKey 21 = .ok (.lcmp, 1) := by decide +kernel
theorem dX0_isKey_22 : decode cX0_isKey 22 = .ok (.ifCond .eq 5, 3) := by decide +kernel
theorem dX0_isKey_25 : decode cX0_isKey 25 = .ok (.iconst 0, 1) := by decide +kernel
theorem dX0_isKey_26 : decode cX0_isKey 26 = .ok (.ireturn, 1) := by decide +kernel
theorem dX0_isKey_27 : decode cX0_isKey 27 = .ok (.iinc 2 1, 3) := by decide +kernel
theorem dX0_isKey_30 : decode cX0_isKey 30 = .ok (.goto (-28), 3) := by decide +kernel
theorem dX0_isKey_33 : decode cX0_isKey 33 = .ok (.iconst 1, 1) := by decide +kernel
theorem dX0_isKey_34 : decode cX0_isKey 34 = .ok (.ireturn, 1) := by decide +kernel
theorem dX0_load_0 : decode cX0_load 0 = .ok (.iload_n 1, 1) := by decide +kernel
theorem dX0_load_1 : decode cX0_load 1 = .ok (.iconst 5, 1) := by decide +kernel
theorem dX0_load_2 : decode cX0_load 2 = .ok (.imul, 1) := by decide +kernel
theorem dX0_load_3 : decode cX0_load 3 = .ok (.istore_n 2, 1) := by decide +kernel
theorem dX0_load_4 : decode cX0_load 4 = .ok (.iconst 0, 1) := by decide +kernel
theorem dX0_load_5 : decode cX0_load 5 = .ok (.istore_n 3, 1) := by decide +kernel
theorem dX0_load_6 : decode cX0_load 6 = .ok (.iload_n 3, 1) := by decide +kernel
theorem dX0_load_7 : decode cX0_load 7 = .ok (.aload_n 0, 1) := by decide +kernel
theorem dX0_load_8 : decode cX0_load 8 = .ok (.getfield 26, 3) := by decide +kernel
theorem dX0_load_11 : decode cX0_load 11 = .ok (.getfield 101, 3) := by decide +kernel
theorem dX0_load_14 : decode cX0_load 14 = .ok (.if_icmp .ge 42, 3) := by decide +kernel
theorem dX0_load_17 : decode cX0_load 17 = .ok (.aload_n 0, 1) := by decide +kernel
theorem dX0_load_18 : decode cX0_load 18 = .ok (.getfield 34, 3) := by decide +kernel
theorem dX0_load_21 : decode cX0_load 21 = .ok (.getfield 54, 3) := by decide +kernel
theorem dX0_load_24 : decode cX0_load 24 = .ok (.getfield 106, 3) := by decide +kernel
theorem dX0_load_27 : decode cX0_load 27 = .ok (.iload_n 3, 1) := by decide +kernel
theorem dX0_load_28 : decode cX0_load 28 = .ok (.aload_n 0, 1) := by decide +kernel
theorem dX0_load_29 : decode cX0_load 29 = .ok (.getfield 11, 3) := by decide +kernel
theorem dX0_load_32 : decode cX0_load 32 = .ok (.iload_n 2, 1) := by decide +kernel
theorem dX0_load_33 : decode cX0_load 33 = .ok (.iload_n 3, 1) := by decide +kernel
theorem dX0_load_34 : decode cX0_load 34 = .ok (.iconst 2, 1) := by decide +kernel
theorem dX0_load_35 : decode cX0_load 35 = .ok (.ishr, 1) := by decide +kernel
theorem dX0_load_36 : decode cX0_load 36 = .ok (.iadd, 1) := by decide +kernel
theorem dX0_load_37 : decode cX0_load 37 = .ok (.laload, 1) := by decide +kernel
theorem dX0_load_38 : decode cX0_load 38 = .ok (.iload_n 3, 1) := by decide +kernel
theorem dX0_load_39 : decode cX0_load 39 = .ok (.iconst 3, 1) := by decide +kernel
theorem dX0_load_40 : decode cX0_load 40 = .ok (.iand, 1) := by decide +kernel
theorem dX0_load_41 : decode cX0_load 41 = .ok (.bipush 16, 2) := by decide +kernel
theorem dX0_load_43 : decode cX0_load 43 = .ok (.imul, 1) := by decide +kernel
theorem dX0_load_44 : decode cX0_load 44 = .ok (.lushr, 1) := by decide +kernel
theorem dX0_load_45 : decode cX0_load 45 = .ok (.l2i, 1) := by decide +kernel
theorem dX0_load_46 : decode cX0_load 46 = .ok (.ldc 109, 2) := by decide +kernel
theorem dX0_load_48 : decode cX0_load 48 = .ok (.iand, 1) := by decide +kernel
theorem dX0_load_49 : decode cX0_load 49 = .ok (.iastore, 1) := by decide +kernel
theorem dX0_load_50 : decode cX0_load 50 = .ok (.iinc 3 1, 3) := by decide +kernel
theorem dX0_load_53 : decode cX0_load 53 = .ok (.goto (-47), 3) := by decide +kernel
theorem dX0_load_56 : decode cX0_load 56 = .ok (.aload_n 0, 1) := by decide +kernel
theorem dX0_load_57 : decode cX0_load 57 = .ok (.getfield 11, 3) := by decide +kernel
theorem dX0_load_60 : decode cX0_load 60 = .ok (.iload_n 2, 1) := by decide +kernel
theorem dX0_load_61 : decode cX0_load 61 = .ok (.iconst 4, 1) := by decide +kernel
theorem dX0_load_62 : decode cX0_load 62 = .ok (.iadd, 1) := by decide +kernel
theorem dX0_load_63 : decode cX0_load 63 = .ok (.laload, 1) := by decide +kernel
theorem dX0_load_64 : decode cX0_load 64 = .ok (.lstore_n 3, 1) := by decide +kernel
theorem dX0_load_65 : decode cX0_load 65 = .ok (.aload_n 0, 1) := by decide +kernel
theorem dX0_load_66 : decode cX0_load 66 = .ok (.getfield 34, 3) := by decide +kernel
theorem dX0_load_69 : decode cX0_load 69 = .ok (.getfield 54, 3) := by decide +kernel
theorem dX0_load_72 : decode cX0_load 72 = .ok (.lload_n 3, 1) := by decide +kernel
