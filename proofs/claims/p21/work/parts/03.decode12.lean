theorem dX1_isStored_8 : decode cX1_isStored 8 = .ok (.if_icmp .eq 14, 3) := by decide +kernel
theorem dX1_isStored_11 : decode cX1_isStored 11 = .ok (.aload_n 0, 1) := by decide +kernel
theorem dX1_isStored_12 : decode cX1_isStored 12 = .ok (.getfield 80, 3) := by decide +kernel
theorem dX1_isStored_15 : decode cX1_isStored 15 = .ok (.iload_n 1, 1) := by decide +kernel
theorem dX1_isStored_16 : decode cX1_isStored 16 = .ok (.iaload, 1) := by decide +kernel
theorem dX1_isStored_17 : decode cX1_isStored 17 = .ok (.bipush 111, 2) := by decide +kernel
theorem dX1_isStored_19 : decode cX1_isStored 19 = .ok (.if_icmp .ne 7, 3) := by decide +kernel
theorem dX1_isStored_22 : decode cX1_isStored 22 = .ok (.iconst 1, 1) := by decide +kernel
theorem dX1_isStored_23 : decode cX1_isStored 23 = .ok (.goto 4, 3) := by decide +kernel
theorem dX1_isStored_26 : decode cX1_isStored 26 = .ok (.iconst 0, 1) := by decide +kernel
theorem dX1_isStored_27 : decode cX1_isStored 27 = .ok (.ireturn, 1) := by decide +kernel
theorem dX1_isThere_0 : decode cX1_isThere 0 = .ok (.aload_n 0, 1) := by decide +kernel
theorem dX1_isThere_1 : decode cX1_isThere 1 = .ok (.getfield 70, 3) := by decide +kernel
theorem dX1_isThere_4 : decode cX1_isThere 4 = .ok (.iload_n 1, 1) := by decide +kernel
theorem dX1_isThere_5 : decode cX1_isThere 5 = .ok (.iaload, 1) := by decide +kernel
theorem dX1_isThere_6 : decode cX1_isThere 6 = .ok (.iconst (-1), 1) := by decide +kernel
theorem dX1_isThere_7 : decode cX1_isThere 7 = .ok (.if_icmp .eq 23, 3) := by decide +kernel
theorem dX1_isThere_10 : decode cX1_isThere 10 = .ok (.aload_n 0, 1) := by decide +kernel
theorem dX1_isThere_11 : decode cX1_isThere 11 = .ok (.getfield 107, 3) := by decide +kernel
theorem dX1_isThere_14 : decode cX1_isThere 14 = .ok (.aload_n 0, 1) := by decide +kernel
theorem dX1_isThere_15 : decode cX1_isThere 15 = .ok (.getfield 70, 3) := by decide +kernel
theorem dX1_isThere_18 : decode cX1_isThere 18 = .ok (.iload_n 1, 1) := by decide +kernel
theorem dX1_isThere_19 : decode cX1_isThere 19 = .ok (.iaload, 1) := by decide +kernel
theorem dX1_isThere_20 : decode cX1_isThere 20 = .ok (.iaload, 1) := by decide +kernel
theorem dX1_isThere_21 : decode cX1_isThere 21 = .ok (.aload_n 0, 1) := by decide +kernel
theorem dX1_isThere_22 : decode cX1_isThere 22 = .ok (.getfield 73, 3) := by decide +kernel
theorem dX1_isThere_25 : decode cX1_isThere 25 = .ok (.iload_n 1, 1) := by decide +kernel
theorem dX1_isThere_26 : decode cX1_isThere 26 = .ok (.iaload, 1) := by decide +kernel
theorem dX1_isThere_27 : decode cX1_isThere 27 = .ok (.if_icmp .ne 7, 3) := by decide +kernel
theorem dX1_isThere_30 : decode cX1_isThere 30 = .ok (.iconst 1, 1) := by decide +kernel
theorem dX1_isThere_31 : decode cX1_isThere 31 = .ok (.goto 4, 3) := by decide +kernel
theorem dX1_isThere_34 : decode cX1_isThere 34 = .ok (.iconst 0, 1) := by decide +kernel
theorem dX1_isThere_35 : decode cX1_isThere 35 = .ok (.ireturn, 1) := by decide +kernel
theorem dX1_isWritten_0 : decode cX1_isWritten 0 = .ok (.aload_n 0, 1) := by decide +kernel
theorem dX1_isWritten_1 : decode cX1_isWritten 1 = .ok (.iload_n 1, 1) := by decide +kernel
theorem dX1_isWritten_2 : decode cX1_isWritten 2 = .ok (.iload_n 2, 1) := by decide +kernel
theorem dX1_isWritten_3 : decode cX1_isWritten 3 = .ok (.invokevirtual 291, 3) := by decide +kernel
theorem dX1_isWritten_6 : decode cX1_isWritten 6 = .ok (.ifCond .eq 25, 3) := by decide +kernel
theorem dX1_isWritten_9 : decode cX1_isWritten 9 = .ok (.aload_n 0, 1) := by decide +kernel
theorem dX1_isWritten_10 : decode cX1_isWritten 10 = .ok (.getfield 80, 3) := by decide +kernel
theorem dX1_isWritten_13 : decode cX1_isWritten 13 = .ok (.iload_n 1, 1) := by decide +kernel
theorem dX1_isWritten_14 : decode cX1_isWritten 14 = .ok (.iaload, 1) := by decide +kernel
theorem dX1_isWritten_15 : decode cX1_isWritten 15 = .ok (.bipush 114, 2) := by decide +kernel
theorem dX1_isWritten_17 : decode cX1_isWritten 17 = .ok (.if_icmp .eq 14, 3) := by decide +kernel
theorem dX1_isWritten_20 : decode cX1_isWritten 20 = .ok (.aload_n 0, 1) := by decide +kernel
theorem dX1_isWritten_21 : decode cX1_isWritten 21 = .ok (.getfield 80, 3) := by decide +kernel
theorem dX1_isWritten_24 : decode cX1_isWritten 24 = .ok (.iload_n 1, 1) := by decide +kernel
theorem dX1_isWritten_25 : decode cX1_isWritten 25 = .ok (.iaload, 1) := by decide +kernel
theorem dX1_isWritten_26 : decode cX1_isWritten 26 = .ok (.bipush 99, 2) := by decide +kernel
theorem dX1_isWritten_28 : decode cX1_isWritten 28 = .ok (.if_icmp .ne 5, 3) := by decide +kernel
theorem dX1_isWritten_31 : decode cX1_isWritten 31 = .ok (.iconst 0, 1) := by decide +kernel
theorem dX1_isWritten_32 : decode cX1_isWritten 32 = .ok (.ireturn, 1) := by decide +kernel
theorem dX1_isWritten_33 : decode cX1_isWritten 33 = .ok (.aload_n 0, 1) := by decide +kernel
theorem dX1_isWritten_34 : decode cX1_isWritten 34 = .ok (.iload_n 1, 1) := by decide +kernel
theorem dX1_isWritten_35 : decode cX1_isWritten 35 = .ok (.iload_n 3, 1) := by decide +kernel
theorem dX1_isWritten_36 : decode cX1_isWritten 36 = .ok (.invokevirtual 294, 3) := by decide +kernel
theorem dX1_isWritten_39 : decode cX1_isWritten 39 = .ok (.istore 4, 2) := by decide +kernel
theorem dX1_isWritten_41 : decode cX1_isWritten 41 = .ok (.aload_n 0, 1) := by decide +kernel
theorem dX1_isWritten_42 : decode cX1_isWritten 42 = .ok (.iload_n 1, 1) := by decide +kernel
theorem dX1_isWritten_43 : decode cX1_isWritten 43 = .ok (.invokevirtual 297, 3) := by decide +kernel
theorem dX1_isWritten_46 : decode cX1_isWritten 46 = .ok (.ifCond .eq 22, 3) := by decide +kernel
theorem dX1_isWritten_49 : decode cX1_isWritten 49 = .ok (.iload 4, 2) := by decide +kernel
theorem dX1_isWritten_51 : decode cX1_isWritten 51 = .ok (.aload_n 0, 1) := by decide +kernel
theorem dX1_isWritten_52 : decode cX1_isWritten 52 = .ok (.getfield 107, 3) := by decide +kernel
theorem dX1_isWritten_55 : decode cX1_isWritten 55 = .ok (.iload_n 1, 1) := by decide +kernel
theorem dX1_isWritten_56 : decode cX1_isWritten 56 = .ok (.iaload, 1) := by decide +kernel
theorem dX1_isWritten_57 : decode cX1_isWritten 57 = .ok (.if_icmp .eq 7, 3) := by decide +kernel
theorem dX1_isWritten_60 : decode cX1_isWritten 60 = .ok (.iconst 1, 1) := by decide +kernel
theorem dX1_isWritten_61 : decode cX1_isWritten 61 = .ok (.goto 17, 3) := by decide +kernel
theorem dX1_isWritten_64 : decode cX1_isWritten 64 = .ok (.iconst 0, 1) := by decide +kernel
theorem dX1_isWritten_65 : decode cX1_isWritten 65 = .ok (.goto 13, 3) := by decide +kernel
theorem dX1_isWritten_68 : decode cX1_isWritten 68 = .ok (.iload 4, 2) := by decide +kernel
theorem dX1_isWritten_70 : decode cX1_isWritten 70 = .ok (.ifCond .eq 7, 3) := by decide +kernel
theorem dX1_isWritten_73 : decode cX1_isWritten 73 = .ok (.iconst 1, 1) := by decide +kernel
theorem dX1_isWritten_74 : decode cX1_isWritten 74 = .ok (.goto 4, 3) := by decide +kernel
theorem dX1_isWritten_77 : decode cX1_isWritten 77 = .ok (.iconst 0, 1) := by decide +kernel
theorem dX1_isWritten_78 : decode cX1_isWritten 78 = .ok (.ireturn, 1) := by decide +kernel
theorem dX1_join_0 : decode cX1_join 0 = .ok (.aload_n 0, 1) := by decide +kernel
theorem dX1_join_1 : decode cX1_join 1 = .ok (.iconst 0, 1) := by decide +kernel
theorem dX1_join_2 : decode cX1_join 2 = .ok (.putfield 161, 3) := by decide +kernel
theorem dX1_join_5 : decode cX1_join 5 = .ok (.aload_n 0, 1) := by decide +kernel
theorem dX1_join_6 : decode cX1_join 6 = .ok (.iload_n 1, 1) := by decide +kernel
theorem dX1_join_7 : decode cX1_join 7 = .ok (.iload_n 2, 1) := by decide +kernel
theorem dX1_join_8 : decode cX1_join 8 = .ok (.invokevirtual 366, 3) := by decide +kernel
theorem dX1_join_11 : decode cX1_join 11 = .ok (.ifCond .eq 12, 3) := by decide +kernel
theorem dX1_join_14 : decode cX1_join 14 = .ok (.aload_n 0, 1) := by decide +kernel
theorem dX1_join_15 : decode cX1_join 15 = .ok (.getfield 288, 3) := by decide +kernel
theorem dX1_join_18 : decode cX1_join 18 = .ok (.bipush 8, 2) := by decide +kernel
theorem dX1_join_20 : decode cX1_join 20 = .ok (.if_icmp .ne 5, 3) := by decide +kernel
theorem dX1_join_23 : decode cX1_join 23 = .ok (.iconst (-1), 1) := by decide +kernel
theorem dX1_join_24 : decode cX1_join 24 = .ok (.ireturn, 1) := by decide +kernel
theorem dX1_join_25 : decode cX1_join 25 = .ok (.aload_n 0, 1) := by decide +kernel
theorem dX1_join_26 : decode cX1_join 26 = .ok (.getfield 128, 3) := by decide +kernel
theorem dX1_join_29 : decode cX1_join 29 = .ok (.aload_n 0, 1) := by decide +kernel
theorem dX1_join_30 : decode cX1_join 30 = .ok (.getfield 288, 3) := by decide +kernel
theorem dX1_join_33 : decode cX1_join 33 = .ok (.iload_n 1, 1) := by decide +kernel
theorem dX1_join_34 : decode cX1_join 34 = .ok (.iastore, 1) := by decide +kernel
theorem dX1_join_35 : decode cX1_join 35 = .ok (.aload_n 0, 1) := by decide +kernel
theorem dX1_join_36 : decode cX1_join 36 = .ok (.getfield 131, 3) := by decide +kernel
theorem dX1_join_39 : decode cX1_join 39 = .ok (.aload_n 0, 1) := by decide +kernel
theorem dX1_join_40 : decode cX1_join 40 = .ok (.getfield 288, 3) := by decide +kernel
theorem dX1_join_43 : decode cX1_join 43 = .ok (.iload_n 2, 1) := by decide +kernel
theorem dX1_join_44 : decode cX1_join 44 = .ok (.iastore, 1) := by decide +kernel
theorem dX1_join_45 : decode cX1_join 45 = .ok (.aload_n 0, 1) := by decide +kernel
theorem dX1_join_46 : decode cX1_join 46 = .ok (.dup, 1) := by decide +kernel
theorem dX1_join_47 : decode cX1_join 47 = .ok (.getfield 288, 3) := by decide +kernel
theorem dX1_join_50 : decode cX1_join 50 = .ok (.iconst 1, 1) := by decide +kernel
theorem dX1_join_51 : decode cX1_join 51 = .ok (.iadd, 1) := by decide +kernel
theorem dX1_join_52 : decode cX1_join 52 = .ok (.putfield 288, 3) := by decide +kernel
theorem dX1_join_55 : decode cX1_join 55 = .ok (.aload_n 0, 1) := by decide +kernel
theorem dX1_join_56 : decode cX1_join 56 = .ok (.getfield 288, 3) := by decide +kernel
theorem dX1_join_59 : decode cX1_join 59 = .ok (.ireturn, 1) := by decide +kernel
theorem dX1_meet_0 : decode cX1_meet 0 = .ok (.iload_n 1, 1) := by decide +kernel
theorem dX1_meet_1 : decode cX1_meet 1 = .ok (.aload_n 0, 1) := by decide +kernel
theorem dX1_meet_2 : decode cX1_meet 2 = .ok (.getfield 267, 3) := by decide +kernel
theorem dX1_meet_5 : decode cX1_meet 5 = .ok (.if_icmp .lt 8, 3) := by decide +kernel
theorem dX1_meet_8 : decode cX1_meet 8 = .ok (.bipush 40, 2) := by decide +kernel
theorem dX1_meet_10 : decode cX1_meet 10 = .ok (.goto 4, 3) := by decide +kernel
theorem dX1_meet_13 : decode cX1_meet 13 = .ok (.iload_n 1, 1) := by decide +kernel
theorem dX1_meet_14 : decode cX1_meet 14 = .ok (.istore_n 2, 1) := by decide +kernel
theorem dX1_meet_15 : decode cX1_meet 15 = .ok (.iconst 0, 1) := by decide +kernel
theorem dX1_meet_16 : decode cX1_meet 16 = .ok (.istore_n 3, 1) := by decide +kernel
theorem dX1_meet_17 : decode cX1_meet 17 = .ok (.iload_n 3, 1) := by decide +kernel
theorem dX1_meet_18 : decode cX1_meet 18 = .ok (.aload_n 0, 1) := by decide +kernel
theorem dX1_meet_19 : decode cX1_meet 19 = .ok (.getfield 390, 3) := by decide +kernel
theorem dX1_meet_22 : decode cX1_meet 22 = .ok (.if_icmp .ge 19, 3) := by decide +kernel
theorem dX1_meet_25 : decode cX1_meet 25 = .ok (.aload_n 0, 1) := by decide +kernel
theorem dX1_meet_26 : decode cX1_meet 26 = .ok (.iload_n 3, 1) := by decide +kernel
theorem dX1_meet_27 : decode cX1_meet 27 = .ok (.iload_n 2, 1) := by decide +kernel
theorem dX1_meet_28 : decode cX1_meet 28 = .ok (.invokevirtual 393, 3) := by decide +kernel
theorem dX1_meet_31 : decode cX1_meet 31 = .ok (.ifCond .eq 4, 3) := by decide +kernel
theorem dX1_meet_34 : decode cX1_meet 34 = .ok (.return_, 1) := by decide +kernel
theorem dX1_meet_35 : decode cX1_meet 35 = .ok (.iinc 3 1, 3) := by decide +kernel
theorem dX1_meet_38 : decode cX1_meet 38 = .ok (.goto (-21), 3) := by decide +kernel
theorem dX1_meet_41 : decode cX1_meet 41 = .ok (.aload_n 0, 1) := by decide +kernel
theorem dX1_meet_42 : decode cX1_meet 42 = .ok (.getfield 390, 3) := by decide +kernel
theorem dX1_meet_45 : decode cX1_meet 45 = .ok (.sipush 1000, 3) := by decide +kernel
theorem dX1_meet_48 : decode cX1_meet 48 = .ok (.if_icmp .ne 9, 3) := by decide +kernel
theorem dX1_meet_51 : decode cX1_meet 51 = .ok (.aload_n 0, 1) := by decide +kernel
theorem dX1_meet_52 : decode cX1_meet 52 = .ok (.iconst 1, 1) := by decide +kernel
theorem dX1_meet_53 : decode cX1_meet 53 = .ok (.putfield 396, 3) := by decide +kernel
theorem dX1_meet_56 : decode cX1_meet 56 = .ok (.return_, 1) := by decide +kernel
theorem dX1_meet_57 : decode cX1_meet 57 = .ok (.aload_n 0, 1) := by decide +kernel
theorem dX1_meet_58 : decode cX1_meet 58 = .ok (.getfield 143, 3) := by decide +kernel
theorem dX1_meet_61 : decode cX1_meet 61 = .ok (.aload_n 0, 1) := by decide +kernel
theorem dX1_meet_62 : decode cX1_meet 62 = .ok (.getfield 390, 3) := by decide +kernel
theorem dX1_meet_65 : decode cX1_meet 65 = .ok (.iload_n 2, 1) := by decide +kernel
theorem dX1_meet_66 : decode cX1_meet 66 = .ok (.iastore, 1) := by decide +kernel
theorem dX1_meet_67 : decode cX1_meet 67 = .ok (.aload_n 0, 1) := by decide +kernel
theorem dX1_meet_68 : decode cX1_meet 68 = .ok (.getfield 149, 3) := by decide +kernel
theorem dX1_meet_71 : decode cX1_meet 71 = .ok (.aload_n 0, 1) := by decide +kernel
theorem dX1_meet_72 : decode cX1_meet 72 = .ok (.getfield 390, 3) := by decide +kernel
theorem dX1_meet_75 : decode cX1_meet 75 = .ok (.aload_n 0, 1) := by decide +kernel
theorem dX1_meet_76 : decode cX1_meet 76 = .ok (.invokevirtual 387, 3) := by decide +kernel
theorem dX1_meet_79 : decode cX1_meet 79 = .ok (.iastore, 1) := by decide +kernel
theorem dX1_meet_80 : decode cX1_meet 80 = .ok (.iconst 0, 1) := by decide +kernel
theorem dX1_meet_81 : decode cX1_meet 81 = .ok (.istore_n 3, 1) := by decide +kernel
theorem dX1_meet_82 : decode cX1_meet 82 = .ok (.iload_n 3, 1) := by decide +kernel
theorem dX1_meet_83 : decode cX1_meet 83 = .ok (.bipush 26, 2) := by decide +kernel
theorem dX1_meet_85 : decode cX1_meet 85 = .ok (.if_icmp .ge 29, 3) := by decide +kernel
theorem dX1_meet_88 : decode cX1_meet 88 = .ok (.aload_n 0, 1) := by decide +kernel
theorem dX1_meet_89 : decode cX1_meet 89 = .ok (.getfield 146, 3) := by decide +kernel
theorem dX1_meet_92 : decode cX1_meet 92 = .ok (.bipush 26, 2) := by decide +kernel
theorem dX1_meet_94 : decode cX1_meet 94 = .ok (.aload_n 0, 1) := by decide +kernel
theorem dX1_meet_95 : decode cX1_meet 95 = .ok (.getfield 390, 3) := by decide +kernel
theorem dX1_meet_98 : decode cX1_meet 98 = .ok (.imul, 1) := by decide +kernel
theorem dX1_meet_99 : decode cX1_meet 99 = .ok (.iload_n 3, 1) := by decide +kernel
theorem dX1_meet_100 : decode cX1_meet 100 = .ok (.iadd, 1) := by decide +kernel
theorem dX1_meet_101 : decode cX1_meet 101 = .ok (.aload_n 0, 1) := by decide +kernel
theorem dX1_meet_102 : decode cX1_meet 102 = .ok (.getfield 107, 3) := by decide +kernel
theorem dX1_meet_105 : decode cX1_meet 105 = .ok (.iload_n 3, 1) := by decide +kernel
theorem dX1_meet_106 : decode cX1_meet 106 = .ok (.iaload, 1) := by decide +kernel
theorem dX1_meet_107 : decode cX1_meet 107 = .ok (.iastore, 1) := by decide +kernel
theorem dX1_meet_108 : decode cX1_meet 108 = .ok (.iinc 3 1, 3) := by decide +kernel
theorem dX1_meet_111 : decode cX1_meet 111 = .ok (.goto (-29), 3) := by decide +kernel
theorem dX1_meet_114 : decode cX1_meet 114 = .ok (.aload_n 0, 1) := by decide +kernel
theorem dX1_meet_115 : decode cX1_meet 115 = .ok (.dup, 1) := by decide +kernel
theorem dX1_meet_116 : decode cX1_meet 116 = .ok (.getfield 390, 3) := by decide +kernel
theorem dX1_meet_119 : decode cX1_meet 119 = .ok (.iconst 1, 1) := by decide +kernel
theorem dX1_meet_120 : decode cX1_meet 120 = .ok (.iadd, 1) := by decide +kernel
theorem dX1_meet_121 : decode cX1_meet 121 = .ok (.putfield 390, 3) := by decide +kernel
theorem dX1_meet_124 : decode cX1_meet 124 = .ok (.return_, 1) := by decide +kernel
theorem dX1_memoryWord_0 : decode cX1_memoryWord 0 = .ok (.iconst 0, 1) := by decide +kernel
theorem dX1_memoryWord_1 : decode cX1_memoryWord 1 = .ok (.istore_n 1, 1) := by decide +kernel
theorem dX1_memoryWord_2 : decode cX1_memoryWord 2 = .ok (.iconst 0, 1) := by decide +kernel
theorem dX1_memoryWord_3 : decode cX1_memoryWord 3 = .ok (.istore_n 2, 1) := by decide +kernel
theorem dX1_memoryWord_4 : decode cX1_memoryWord 4 = .ok (.iload_n 2, 1) := by decide +kernel
theorem dX1_memoryWord_5 : decode cX1_memoryWord 5 = .ok (.aload_n 0, 1) := by decide +kernel
theorem dX1_memoryWord_6 : decode cX1_memoryWord 6 = .ok (.getfield 264, 3) := by decide +kernel
theorem dX1_memoryWord_9 : decode cX1_memoryWord 9 = .ok (.if_icmp .ge 28, 3) := by decide +kernel
theorem dX1_memoryWord_12 : decode cX1_memoryWord 12 = .ok (.iload_n 1, 1) := by decide +kernel
theorem dX1_memoryWord_13 : decode cX1_memoryWord 13 = .ok (.aload_n 0, 1) := by decide +kernel
theorem dX1_memoryWord_14 : decode cX1_memoryWord 14 = .ok (.getfield 116, 3) := by decide +kernel
theorem dX1_memoryWord_17 : decode cX1_memoryWord 17 = .ok (.iload_n 2, 1) := by decide +kernel
theorem dX1_memoryWord_18 : decode cX1_memoryWord 18 = .ok (.baload, 1) := by decide +kernel
theorem dX1_memoryWord_19 : decode cX1_memoryWord 19 = .ok (.ifCond .eq 9, 3) := by decide +kernel
theorem dX1_memoryWord_22 : decode cX1_memoryWord 22 = .ok (.iconst 1, 1) := by decide +kernel
theorem dX1_memoryWord_23 : decode cX1_memoryWord 23 = .ok (.iload_n 2, 1) := by decide +kernel
theorem dX1_memoryWord_24 : decode cX1_memoryWord 24 = .ok (.ishl, 1) := by decide +kernel
theorem dX1_memoryWord_25 : decode cX1_memoryWord 25 = .ok (.goto 4, 3) := by decide +kernel
theorem dX1_memoryWord_28 : decode cX1_memoryWord 28 = .ok (.iconst 0, 1) := by decide +kernel
theorem dX1_memoryWord_29 : decode cX1_memoryWord 29 = .ok (.ior, 1) := by decide +kernel
theorem dX1_memoryWord_30 : decode cX1_memoryWord 30 = .ok (.istore_n 1, 1) := by decide +kernel
theorem dX1_memoryWord_31 : decode cX1_memoryWord 31 = .ok (.iinc 2 1, 3) := by decide +kernel
theorem dX1_memoryWord_34 : decode cX1_memoryWord 34 = .ok (.goto (-30), 3) := by decide +kernel
theorem dX1_memoryWord_37 : decode cX1_memoryWord 37 = .ok (.iload_n 1, 1) := by decide +kernel
theorem dX1_memoryWord_38 : decode cX1_memoryWord 38 = .ok (.ireturn, 1) := by decide +kernel
theorem dX1_named_0 : decode cX1_named 0 = .ok (.iconst 0, 1) := by decide +kernel
theorem dX1_named_1 : decode cX1_named 1 = .ok (.istore_n 3, 1) := by decide +kernel
theorem dX1_named_2 : decode cX1_named 2 = .ok (.iload_n 3, 1) := by decide +kernel
theorem dX1_named_3 : decode cX1_named 3 = .ok (.iload_n 2, 1) := by decide +kernel
theorem dX1_named_4 : decode cX1_named 4 = .ok (.if_icmp .ge 21, 3) := by decide +kernel
theorem dX1_named_7 : decode cX1_named 7 = .ok (.aload_n 0, 1) := by decide +kernel
theorem dX1_named_8 : decode cX1_named 8 = .ok (.getfield 28, 3) := by decide +kernel
theorem dX1_named_11 : decode cX1_named 11 = .ok (.iload_n 3, 1) := by decide +kernel
theorem dX1_named_12 : decode cX1_named 12 = .ok (.iaload, 1) := by decide +kernel
theorem dX1_named_13 : decode cX1_named 13 = .ok (.iload_n 1, 1) := by decide +kernel
theorem dX1_named_14 : decode cX1_named 14 = .ok (.if_icmp .ne 5, 3) := by decide +kernel
theorem dX1_named_17 : decode cX1_named 17 = .ok (.iload_n 3, 1) := by decide +kernel
theorem dX1_named_18 : decode cX1_named 18 = .ok (.ireturn, 1) := by decide +kernel
theorem dX1_named_19 : decode cX1_named 19 = .ok (.iinc 3 1, 3) := by decide +kernel
theorem dX1_named_22 : decode cX1_named 22 = .ok (.goto (-20), 3) := by decide +kernel
theorem dX1_named_25 : decode cX1_named 25 = .ok (.iconst (-1), 1) := by decide +kernel
theorem dX1_named_26 : decode cX1_named 26 = .ok (.ireturn, 1) := by decide +kernel
theorem dX1_operate_0 : decode cX1_operate 0 = .ok (.aload_n 0, 1) := by decide +kernel
theorem dX1_operate_1 : decode cX1_operate 1 = .ok (.getfield 337, 3) := by decide +kernel
theorem dX1_operate_4 : decode cX1_operate 4 = .ok (.ifCond .eq 4, 3) := by decide +kernel
theorem dX1_operate_7 : decode cX1_operate 7 = .ok (.return_, 1) := by decide +kernel
theorem dX1_operate_8 : decode cX1_operate 8 = .ok (.aload_n 0, 1) := by decide +kernel
theorem dX1_operate_9 : decode cX1_operate 9 = .ok (.iload_n 1, 1) := by decide +kernel
theorem dX1_operate_10 : decode cX1_operate 10 = .ok (.iload_n 2, 1) := by decide +kernel
theorem dX1_operate_11 : decode cX1_operate 11 = .ok (.invokevirtual 324, 3) := by decide +kernel
theorem dX1_operate_14 : decode cX1_operate 14 = .ok (.istore_n 3, 1) := by decide +kernel
theorem dX1_operate_15 : decode cX1_operate 15 = .ok (.iload_n 3, 1) := by decide +kernel
theorem dX1_operate_16 : decode cX1_operate 16 = .ok (.iconst (-1), 1) := by decide +kernel
theorem dX1_operate_17 : decode cX1_operate 17 = .ok (.if_icmp .eq 14, 3) := by decide +kernel
theorem dX1_operate_20 : decode cX1_operate 20 = .ok (.aload_n 0, 1) := by decide +kernel
theorem dX1_operate_21 : decode cX1_operate 21 = .ok (.iconst 1, 1) := by decide +kernel
theorem dX1_operate_22 : decode cX1_operate 22 = .ok (.putfield 337, 3) := by decide +kernel
theorem dX1_operate_25 : decode cX1_operate 25 = .ok (.aload_n 0, 1) := by decide +kernel
theorem dX1_operate_26 : decode cX1_operate 26 = .ok (.iload_n 3, 1) := by decide +kernel
theorem dX1_operate_27 : decode cX1_operate 27 = .ok (.putfield 340, 3) := by decide +kernel
theorem dX1_operate_30 : decode cX1_operate 30 = .ok (.return_, 1) := by decide +kernel
theorem dX1_operate_31 : decode cX1_operate 31 = .ok (.aload_n 0, 1) := by decide +kernel
theorem dX1_operate_32 : decode cX1_operate 32 = .ok (.iload_n 1, 1) := by decide +kernel
theorem dX1_operate_33 : decode cX1_operate 33 = .ok (.iload_n 2, 1) := by decide +kernel
theorem dX1_operate_34 : decode cX1_operate 34 = .ok (.invokevirtual 327, 3) := by decide +kernel
theorem dX1_operate_37 : decode cX1_operate 37 = .ok (.return_, 1) := by decide +kernel
theorem dX1_part_0 : decode cX1_part 0 = .ok (.iload_n 2, 1) := by decide +kernel
theorem dX1_part_1 : decode cX1_part 1 = .ok (.aload_n 0, 1) := by decide +kernel
theorem dX1_part_2 : decode cX1_part 2 = .ok (.getfield 86, 3) := by decide +kernel
theorem dX1_part_5 : decode cX1_part 5 = .ok (.iload_n 1, 1) := by decide +kernel
theorem dX1_part_6 : decode cX1_part 6 = .ok (.iaload, 1) := by decide +kernel
theorem dX1_part_7 : decode cX1_part 7 = .ok (.ishr, 1) := by decide +kernel
theorem dX1_part_8 : decode cX1_part 8 = .ok (.iconst 1, 1) := by decide +kernel
theorem dX1_part_9 : decode cX1_part 9 = .ok (.aload_n 0, 1) := by decide +kernel
theorem dX1_part_10 : decode cX1_part 10 = .ok (.getfield 89, 3) := by decide +kernel
theorem dX1_part_13 : decode cX1_part 13 = .ok (.iload_n 1, 1) := by decide +kernel
theorem dX1_part_14 : decode cX1_part 14 = .ok (.iaload, 1) := by decide +kernel
theorem dX1_part_15 : decode cX1_part 15 = .ok (.ishl, 1) := by decide +kernel
