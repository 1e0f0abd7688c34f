theorem dX7_add_0 : decode cX7_add 0 = .ok (.aload_n 0, 1) := by decide +kernel
theorem dX7_add_1 : decode cX7_add 1 = .ok (.getfield 21, 3) := by decide +kernel
theorem dX7_add_4 : decode cX7_add 4 = .ok (.bipush 64, 2) := by decide +kernel
theorem dX7_add_6 : decode cX7_add 6 = .ok (.irem, 1) := by decide +kernel
theorem dX7_add_7 : decode cX7_add 7 = .ok (.istore 4, 2) := by decide +kernel
theorem dX7_add_9 : decode cX7_add 9 = .ok (.aload_n 0, 1) := by decide +kernel
theorem dX7_add_10 : decode cX7_add 10 = .ok (.getfield 9, 3) := by decide +kernel
theorem dX7_add_13 : decode cX7_add 13 = .ok (.iload 4, 2) := by decide +kernel
theorem dX7_add_15 : decode cX7_add 15 = .ok (.iload_n 1, 1) := by decide +kernel
theorem dX7_add_16 : decode cX7_add 16 = .ok (.iastore, 1) := by decide +kernel
theorem dX7_add_17 : decode cX7_add 17 = .ok (.aload_n 0, 1) := by decide +kernel
theorem dX7_add_18 : decode cX7_add 18 = .ok (.getfield 15, 3) := by decide +kernel
theorem dX7_add_21 : decode cX7_add 21 = .ok (.iload 4, 2) := by decide +kernel
theorem dX7_add_23 : decode cX7_add 23 = .ok (.iload_n 2, 1) := by decide +kernel
theorem dX7_add_24 : decode cX7_add 24 = .ok (.iastore, 1) := by decide +kernel
theorem dX7_add_25 : decode cX7_add 25 = .ok (.aload_n 0, 1) := by decide +kernel
theorem dX7_add_26 : decode cX7_add 26 = .ok (.getfield 18, 3) := by decide +kernel
theorem dX7_add_29 : decode cX7_add 29 = .ok (.iload 4, 2) := by decide +kernel
theorem dX7_add_31 : decode cX7_add 31 = .ok (.iload_n 3, 1) := by decide +kernel
theorem dX7_add_32 : decode cX7_add 32 = .ok (.iastore, 1) := by decide +kernel
theorem dX7_add_33 : decode cX7_add 33 = .ok (.aload_n 0, 1) := by decide +kernel
theorem dX7_add_34 : decode cX7_add 34 = .ok (.dup, 1) := by decide +kernel
theorem dX7_add_35 : decode cX7_add 35 = .ok (.getfield 21, 3) := by decide +kernel
theorem dX7_add_38 : decode cX7_add 38 = .ok (.iconst 1, 1) := by decide +kernel
theorem dX7_add_39 : decode cX7_add 39 = .ok (.iadd, 1) := by decide +kernel
theorem dX7_add_40 : decode cX7_add 40 = .ok (.putfield 21, 3) := by decide +kernel
theorem dX7_add_43 : decode cX7_add 43 = .ok (.return_, 1) := by decide +kernel
theorem dX7_rowOf_0 : decode cX7_rowOf 0 = .ok (.iload_n 1, 1) := by decide +kernel
theorem dX7_rowOf_1 : decode cX7_rowOf 1 = .ok (.ifCond .lt 17, 3) := by decide +kernel
theorem dX7_rowOf_4 : decode cX7_rowOf 4 = .ok (.iload_n 1, 1) := by decide +kernel
theorem dX7_rowOf_5 : decode cX7_rowOf 5 = .ok (.bipush 64, 2) := by decide +kernel
theorem dX7_rowOf_7 : decode cX7_rowOf 7 = .ok (.if_icmp .ge 11, 3) := by decide +kernel
theorem dX7_rowOf_10 : decode cX7_rowOf 10 = .ok (.iload_n 1, 1) := by decide +kernel
theorem dX7_rowOf_11 : decode cX7_rowOf 11 = .ok (.aload_n 0, 1) := by decide +kernel
theorem dX7_rowOf_12 : decode cX7_rowOf 12 = .ok (.getfield 21, 3) := by decide +kernel
theorem dX7_rowOf_15 : decode cX7_rowOf 15 = .ok (.if_icmp .lt 5, 3) := by decide +kernel
theorem dX7_rowOf_18 : decode cX7_rowOf 18 = .ok (.iconst (-1), 1) := by decide +kernel
theorem dX7_rowOf_19 : decode cX7_rowOf 19 = .ok (.ireturn, 1) := by decide +kernel
theorem dX7_rowOf_20 : decode cX7_rowOf 20 = .ok (.aload_n 0, 1) := by decide +kernel
theorem dX7_rowOf_21 : decode cX7_rowOf 21 = .ok (.getfield 21, 3) := by decide +kernel
theorem dX7_rowOf_24 : decode cX7_rowOf 24 = .ok (.iconst 1, 1) := by decide +kernel
theorem dX7_rowOf_25 : decode cX7_rowOf 25 = .ok (.isub, 1) := by decide +kernel
theorem dX7_rowOf_26 : decode cX7_rowOf 26 = .ok (.iload_n 1, 1) := by decide +kernel
theorem dX7_rowOf_27 : decode cX7_rowOf 27 = .ok (.isub, 1) := by decide +kernel
theorem dX7_rowOf_28 : decode cX7_rowOf 28 = .ok (.bipush 64, 2) := by decide +kernel
theorem dX7_rowOf_30 : decode cX7_rowOf 30 = .ok (.irem, 1) := by decide +kernel
theorem dX7_rowOf_31 : decode cX7_rowOf 31 = .ok (.ireturn, 1) := by decide +kernel
theorem dX8_brokenBy_0 : decode cX8_brokenBy 0 = .ok (.aload_n 0, 1) := by decide +kernel
theorem dX8_brokenBy_1 : decode cX8_brokenBy 1 = .ok (.getfield 15, 3) := by decide +kernel
theorem dX8_brokenBy_4 : decode cX8_brokenBy 4 = .ok (.getfield 54, 3) := by decide +kernel
theorem dX8_brokenBy_7 : decode cX8_brokenBy 7 = .ok (.astore_n 3, 1) := by decide +kernel
theorem dX8_brokenBy_8 : decode cX8_brokenBy 8 = .ok (.iconst 0, 1) := by decide +kernel
theorem dX8_brokenBy_9 : decode cX8_brokenBy 9 = .ok (.istore 4, 2) := by decide +kernel
theorem dX8_brokenBy_11 : decode cX8_brokenBy 11 = .ok (.iconst 0, 1) := by decide +kernel
theorem dX8_brokenBy_12 : decode cX8_brokenBy 12 = .ok (.istore 5, 2) := by decide +kernel
theorem dX8_brokenBy_14 : decode cX8_brokenBy 14 = .ok (.iload 5, 2) := by decide +kernel
theorem dX8_brokenBy_16 : decode cX8_brokenBy 16 = .ok (.aload_n 3, 1) := by decide +kernel
theorem dX8_brokenBy_17 : decode cX8_brokenBy 17 = .ok (.getfield 58, 3) := by decide +kernel
theorem dX8_brokenBy_20 : decode cX8_brokenBy 20 = .ok (.if_icmp .ge 170, 3) := by decide +kernel
theorem dX8_brokenBy_23 : decode cX8_brokenBy 23 = .ok (.aload_n 0, 1) := by decide +kernel
theorem dX8_brokenBy_24 : decode cX8_brokenBy 24 = .ok (.getfield 25, 3) := by decide +kernel
theorem dX8_brokenBy_27 : decode cX8_brokenBy 27 = .ok (.iload 5, 2) := by decide +kernel
theorem dX8_brokenBy_29 : decode cX8_brokenBy 29 = .ok (.ishr, 1) := by decide +kernel
theorem dX8_brokenBy_30 : decode cX8_brokenBy 30 = .ok (.iconst 1, 1) := by decide +kernel
theorem dX8_brokenBy_31 : decode cX8_brokenBy 31 = .ok (.iand, 1) := by decide +kernel
theorem dX8_brokenBy_32 : decode cX8_brokenBy 32 = .ok (.iconst 1, 1) := by decide +kernel
theorem dX8_brokenBy_33 : decode cX8_brokenBy 33 = .ok (.if_icmp .ne 7, 3) := by decide +kernel
theorem dX8_brokenBy_36 : decode cX8_brokenBy 36 = .ok (.iconst 1, 1) := by decide +kernel
theorem dX8_brokenBy_37 : decode cX8_brokenBy 37 = .ok (.goto 4, 3) := by decide +kernel
theorem dX8_brokenBy_40 : decode cX8_brokenBy 40 = .ok (.iconst 0, 1) := by decide +kernel
theorem dX8_brokenBy_41 : decode cX8_brokenBy 41 = .ok (.istore 6, 2) := by decide +kernel
theorem dX8_brokenBy_43 : decode cX8_brokenBy 43 = .ok (.aload_n 3, 1) := by decide +kernel
theorem dX8_brokenBy_44 : decode cX8_brokenBy 44 = .ok (.getfield 63, 3) := by decide +kernel
theorem dX8_brokenBy_47 : decode cX8_brokenBy 47 = .ok (.iload 5, 2) := by decide +kernel
theorem dX8_brokenBy_49 : decode cX8_brokenBy 49 = .ok (.iaload, 1) := by decide +kernel
theorem dX8_brokenBy_50 : decode cX8_brokenBy 50 = .ok (.ifCond .ne 34, 3) := by decide +kernel
theorem dX8_brokenBy_53 : decode cX8_brokenBy 53 = .ok (.iload 6, 2) := by decide +kernel
theorem dX8_brokenBy_55 : decode cX8_brokenBy 55 = .ok (.ifCond .ne 23, 3) := by decide +kernel
theorem dX8_brokenBy_58 : decode cX8_brokenBy 58 = .ok (.aload_n 0, 1) := by decide +kernel
theorem dX8_brokenBy_59 : decode cX8_brokenBy 59 = .ok (.aload_n 3, 1) := by decide +kernel
theorem dX8_brokenBy_60 : decode cX8_brokenBy 60 = .ok (.getfield 66, 3) := by decide +kernel
theorem dX8_brokenBy_63 : decode cX8_brokenBy 63 = .ok (.iload 5, 2) := by decide +kernel
theorem dX8_brokenBy_65 : decode cX8_brokenBy 65 = .ok (.iaload, 1) := by decide +kernel
theorem dX8_brokenBy_66 : decode cX8_brokenBy 66 = .ok (.iload_n 1, 1) := by decide +kernel
theorem dX8_brokenBy_67 : decode cX8_brokenBy 67 = .ok (.iload_n 2, 1) := by decide +kernel
theorem dX8_brokenBy_68 : decode cX8_brokenBy 68 = .ok (.invokevirtual 69, 3) := by decide +kernel
theorem dX8_brokenBy_71 : decode cX8_brokenBy 71 = .ok (.ifCond .eq 7, 3) := by decide +kernel
theorem dX8_brokenBy_74 : decode cX8_brokenBy 74 = .ok (.iconst 1, 1) := by decide +kernel
theorem dX8_brokenBy_75 : decode cX8_brokenBy 75 = .ok (.goto 4, 3) := by decide +kernel
theorem dX8_brokenBy_78 : decode cX8_brokenBy 78 = .ok (.iconst 0, 1) := by decide +kernel
theorem dX8_brokenBy_79 : decode cX8_brokenBy 79 = .ok (.istore 7, 2) := by decide +kernel
theorem dX8_brokenBy_81 : decode cX8_brokenBy 81 = .ok (.goto 89, 3) := by decide +kernel
theorem dX8_brokenBy_84 : decode cX8_brokenBy 84 = .ok (.aload_n 3, 1) := by decide +kernel
theorem dX8_brokenBy_85 : decode cX8_brokenBy 85 = .ok (.getfield 63, 3) := by decide +kernel
theorem dX8_brokenBy_88 : decode cX8_brokenBy 88 = .ok (.iload 5, 2) := by decide +kernel
theorem dX8_brokenBy_90 : decode cX8_brokenBy 90 = .ok (.iaload, 1) := by decide +kernel
theorem dX8_brokenBy_91 : decode cX8_brokenBy 91 = .ok (.iconst 2, 1) := by decide +kernel
theorem dX8_brokenBy_92 : decode cX8_brokenBy 92 = .ok (.if_icmp .ne 34, 3) := by decide +kernel
theorem dX8_brokenBy_95 : decode cX8_brokenBy 95 = .ok (.iload 6, 2) := by decide +kernel
theorem dX8_brokenBy_97 : decode cX8_brokenBy 97 = .ok (.ifCond .eq 23, 3) := by decide +kernel
theorem dX8_brokenBy_100 : decode cX8_brokenBy 100 = .ok (.aload_n 0, 1) := by decide +kernel
theorem dX8_brokenBy_101 : decode cX8_brokenBy 101 = .ok (.aload_n 3, 1) := by decide +kernel
theorem dX8_brokenBy_102 : decode cX8_brokenBy 102 = .ok (.getfield 73, 3) := by decide +kernel
theorem dX8_brokenBy_105 : decode cX8_brokenBy 105 = .ok (.iload 5, 2) := by decide +kernel
theorem dX8_brokenBy_107 : decode cX8_brokenBy 107 = .ok (.iaload, 1) := by decide +kernel
theorem dX8_brokenBy_108 : decode cX8_brokenBy 108 = .ok (.iload_n 1, 1) := by decide +kernel
theorem dX8_brokenBy_109 : decode cX8_brokenBy 109 = .ok (.iload_n 2, 1) := by decide +kernel
theorem dX8_brokenBy_110 : decode cX8_brokenBy 110 = .ok (.invokevirtual 69, 3) := by decide +kernel
theorem dX8_brokenBy_113 : decode cX8_brokenBy 113 = .ok (.ifCond .eq 7, 3) := by decide +kernel
theorem dX8_brokenBy_116 : decode cX8_brokenBy 116 = .ok (.iconst 1, 1) := by decide +kernel
theorem dX8_brokenBy_117 : decode cX8_brokenBy 117 = .ok (.goto 4, 3) := by decide +kernel
theorem dX8_brokenBy_120 : decode cX8_brokenBy 120 = .ok (.iconst 0, 1) := by decide +kernel
theorem dX8_brokenBy_121 : decode cX8_brokenBy 121 = .ok (.istore 7, 2) := by decide +kernel
theorem dX8_brokenBy_123 : decode cX8_brokenBy 123 = .ok (.goto 47, 3) := by decide +kernel
theorem dX8_brokenBy_126 : decode cX8_brokenBy 126 = .ok (.aload_n 0, 1) := by decide +kernel
theorem dX8_brokenBy_127 : decode cX8_brokenBy 127 = .ok (.aload_n 3, 1) := by decide +kernel
theorem dX8_brokenBy_128 : decode cX8_brokenBy 128 = .ok (.getfield 73, 3) := by decide +kernel
theorem dX8_brokenBy_131 : decode cX8_brokenBy 131 = .ok (.iload 5, 2) := by decide +kernel
theorem dX8_brokenBy_133 : decode cX8_brokenBy 133 = .ok (.iaload, 1) := by decide +kernel
theorem dX8_brokenBy_134 : decode cX8_brokenBy 134 = .ok (.iload_n 1, 1) := by decide +kernel
theorem dX8_brokenBy_135 : decode cX8_brokenBy 135 = .ok (.iload_n 2, 1) := by decide +kernel
theorem dX8_brokenBy_136 : decode cX8_brokenBy 136 = .ok (.invokevirtual 69, 3) := by decide +kernel
theorem dX8_brokenBy_139 : decode cX8_brokenBy 139 = .ok (.ifCond .eq 28, 3) := by decide +kernel
theorem dX8_brokenBy_142 : decode cX8_brokenBy 142 = .ok (.aload_n 0, 1) := by decide +kernel
theorem dX8_brokenBy_143 : decode cX8_brokenBy 143 = .ok (.aload_n 3, 1) := by decide +kernel
theorem dX8_brokenBy_144 : decode cX8_brokenBy 144 = .ok (.getfield 66, 3) := by decide +kernel
theorem dX8_brokenBy_147 : decode cX8_brokenBy 147 = .ok (.iload 5, 2) := by decide +kernel
theorem dX8_brokenBy_149 : decode cX8_brokenBy 149 = .ok (.iaload, 1) := by decide +kernel
theorem dX8_brokenBy_150 : decode cX8_brokenBy 150 = .ok (.invokevirtual 38, 3) := by decide +kernel
theorem dX8_brokenBy_153 : decode cX8_brokenBy 153 = .ok (.aload_n 3, 1) := by decide +kernel
theorem dX8_brokenBy_154 : decode cX8_brokenBy 154 = .ok (.getfield 76, 3) := by decide +kernel
theorem dX8_brokenBy_157 : decode cX8_brokenBy 157 = .ok (.iload 5, 2) := by decide +kernel
theorem dX8_brokenBy_159 : decode cX8_brokenBy 159 = .ok (.iaload, 1) := by decide +kernel
theorem dX8_brokenBy_160 : decode cX8_brokenBy 160 = .ok (.if_icmp .eq 7, 3) := by decide +kernel
theorem dX8_brokenBy_163 : decode cX8_brokenBy 163 = .ok (.iconst 1, 1) := by decide +kernel
theorem dX8_brokenBy_164 : decode cX8_brokenBy 164 = .ok (.goto 4, 3) := by decide +kernel
theorem dX8_brokenBy_167 : decode cX8_brokenBy 167 = .ok (.iconst 0, 1) := by decide +kernel
theorem dX8_brokenBy_168 : decode cX8_brokenBy 168 = .ok (.istore 7, 2) := by decide +kernel
theorem dX8_brokenBy_170 : decode cX8_brokenBy 170 = .ok (.iload 7, 2) := by decide +kernel
theorem dX8_brokenBy_172 : decode cX8_brokenBy 172 = .ok (.ifCond .eq 12, 3) := by decide +kernel
theorem dX8_brokenBy_175 : decode cX8_brokenBy 175 = .ok (.iload 4, 2) := by decide +kernel
theorem dX8_brokenBy_177 : decode cX8_brokenBy 177 = .ok (.iconst 1, 1) := by decide +kernel
theorem dX8_brokenBy_178 : decode cX8_brokenBy 178 = .ok (.iload 5, 2) := by decide +kernel
theorem dX8_brokenBy_180 : decode cX8_brokenBy 180 = .ok (.ishl, 1) := by decide +kernel
theorem dX8_brokenBy_181 : decode cX8_brokenBy 181 = .ok (.ior, 1) := by decide +kernel
theorem dX8_brokenBy_182 : decode cX8_brokenBy 182 = .ok (.istore 4, 2) := by decide +kernel
theorem dX8_brokenBy_184 : decode cX8_brokenBy 184 = .ok (.iinc 5 1, 3) := by decide +kernel
theorem dX8_brokenBy_187 : decode cX8_brokenBy 187 = .ok (.goto (-173), 3) := by decide +kernel
theorem dX8_brokenBy_190 : decode cX8_brokenBy 190 = .ok (.iload 4, 2) := by decide +kernel
theorem dX8_brokenBy_192 : decode cX8_brokenBy 192 = .ok (.ireturn, 1) := by decide +kernel
theorem dX8_copy_0 : decode cX8_copy 0 = .ok (.aload_n 1, 1) := by decide +kernel
theorem dX8_copy_1 : decode cX8_copy 1 = .ok (.getfield 9, 3) := by decide +kernel
theorem dX8_copy_4 : decode cX8_copy 4 = .ok (.iconst 0, 1) := by decide +kernel
theorem dX8_copy_5 : decode cX8_copy 5 = .ok (.aload_n 0, 1) := by decide +kernel
theorem dX8_copy_6 : decode cX8_copy 6 = .ok (.getfield 9, 3) := by decide +kernel
theorem dX8_copy_9 : decode cX8_copy 9 = .ok (.iconst 0, 1) := by decide +kernel
theorem dX8_copy_10 : decode cX8_copy 10 = .ok (.bipush 16, 2) := by decide +kernel
theorem dX8_copy_12 : decode cX8_copy 12 = .ok (.invokestatic 29, 3) := by decide +kernel
theorem dX8_copy_15 : decode cX8_copy 15 = .ok (.aload_n 0, 1) := by decide +kernel
theorem dX8_copy_16 : decode cX8_copy 16 = .ok (.aload_n 1, 1) := by decide +kernel
theorem dX8_copy_17 : decode cX8_copy 17 = .ok (.getfield 25, 3) := by decide +kernel
theorem dX8_copy_20 : decode cX8_copy 20 = .ok (.putfield 25, 3) := by decide +kernel
theorem dX8_copy_23 : decode cX8_copy 23 = .ok (.return_, 1) := by decide +kernel
theorem dX8_isThere_0 : decode cX8_isThere 0 = .ok (.aload_n 0, 1) := by decide +kernel
theorem dX8_isThere_1 : decode cX8_isThere 1 = .ok (.getfield 15, 3) := by decide +kernel
theorem dX8_isThere_4 : decode cX8_isThere 4 = .ok (.getfield 35, 3) := by decide +kernel
theorem dX8_isThere_7 : decode cX8_isThere 7 = .ok (.iload_n 1, 1) := by decide +kernel
theorem dX8_isThere_8 : decode cX8_isThere 8 = .ok (.iaload, 1) := by decide +kernel
theorem dX8_isThere_9 : decode cX8_isThere 9 = .ok (.istore_n 2, 1) := by decide +kernel
theorem dX8_isThere_10 : decode cX8_isThere 10 = .ok (.iload_n 2, 1) := by decide +kernel
theorem dX8_isThere_11 : decode cX8_isThere 11 = .ok (.iconst (-1), 1) := by decide +kernel
theorem dX8_isThere_12 : decode cX8_isThere 12 = .ok (.if_icmp .eq 20, 3) := by decide +kernel
theorem dX8_isThere_15 : decode cX8_isThere 15 = .ok (.aload_n 0, 1) := by decide +kernel
theorem dX8_isThere_16 : decode cX8_isThere 16 = .ok (.iload_n 2, 1) := by decide +kernel
theorem dX8_isThere_17 : decode cX8_isThere 17 = .ok (.invokevirtual 38, 3) := by decide +kernel
theorem dX8_isThere_20 : decode cX8_isThere 20 = .ok (.aload_n 0, 1) := by decide +kernel
theorem dX8_isThere_21 : decode cX8_isThere 21 = .ok (.getfield 15, 3) := by decide +kernel
theorem dX8_isThere_24 : decode cX8_isThere 24 = .ok (.getfield 42, 3) := by decide +kernel
theorem dX8_isThere_27 : decode cX8_isThere 27 = .ok (.iload_n 1, 1) := by decide +kernel
theorem dX8_isThere_28 : decode cX8_isThere 28 = .ok (.iaload, 1) := by decide +kernel
theorem dX8_isThere_29 : decode cX8_isThere 29 = .ok (.if_icmp .ne 7, 3) := by decide +kernel
theorem dX8_isThere_32 : decode cX8_isThere 32 = .ok (.iconst 1, 1) := by decide +kernel
theorem dX8_isThere_33 : decode cX8_isThere 33 = .ok (.goto 4, 3) := by decide +kernel
theorem dX8_isThere_36 : decode cX8_isThere 36 = .ok (.iconst 0, 1) := by decide +kernel
theorem dX8_isThere_37 : decode cX8_isThere 37 = .ok (.ireturn, 1) := by decide +kernel
theorem dX8_isWritten_0 : decode cX8_isWritten 0 = .ok (.aload_n 0, 1) := by decide +kernel
theorem dX8_isWritten_1 : decode cX8_isWritten 1 = .ok (.getfield 15, 3) := by decide +kernel
theorem dX8_isWritten_4 : decode cX8_isWritten 4 = .ok (.getfield 45, 3) := by decide +kernel
theorem dX8_isWritten_7 : decode cX8_isWritten 7 = .ok (.iload_n 1, 1) := by decide +kernel
theorem dX8_isWritten_8 : decode cX8_isWritten 8 = .ok (.iaload, 1) := by decide +kernel
theorem dX8_isWritten_9 : decode cX8_isWritten 9 = .ok (.iload_n 2, 1) := by decide +kernel
theorem dX8_isWritten_10 : decode cX8_isWritten 10 = .ok (.if_icmp .eq 5, 3) := by decide +kernel
theorem dX8_isWritten_13 : decode cX8_isWritten 13 = .ok (.iconst 0, 1) := by decide +kernel
theorem dX8_isWritten_14 : decode cX8_isWritten 14 = .ok (.ireturn, 1) := by decide +kernel
theorem dX8_isWritten_15 : decode cX8_isWritten 15 = .ok (.iload_n 3, 1) := by decide +kernel
theorem dX8_isWritten_16 : decode cX8_isWritten 16 = .ok (.aload_n 0, 1) := by decide +kernel
theorem dX8_isWritten_17 : decode cX8_isWritten 17 = .ok (.getfield 9, 3) := by decide +kernel
theorem dX8_isWritten_20 : decode cX8_isWritten 20 = .ok (.iload_n 2, 1) := by decide +kernel
theorem dX8_isWritten_21 : decode cX8_isWritten 21 = .ok (.iaload, 1) := by decide +kernel
theorem dX8_isWritten_22 : decode cX8_isWritten 22 = .ok (.ixor, 1) := by decide +kernel
theorem dX8_isWritten_23 : decode cX8_isWritten 23 = .ok (.aload_n 0, 1) := by decide +kernel
theorem dX8_isWritten_24 : decode cX8_isWritten 24 = .ok (.getfield 15, 3) := by decide +kernel
theorem dX8_isWritten_27 : decode cX8_isWritten 27 = .ok (.getfield 48, 3) := by decide +kernel
theorem dX8_isWritten_30 : decode cX8_isWritten 30 = .ok (.iload_n 1, 1) := by decide +kernel
theorem dX8_isWritten_31 : decode cX8_isWritten 31 = .ok (.iaload, 1) := by decide +kernel
theorem dX8_isWritten_32 : decode cX8_isWritten 32 = .ok (.iand, 1) := by decide +kernel
theorem dX8_isWritten_33 : decode cX8_isWritten 33 = .ok (.ifCond .eq 7, 3) := by decide +kernel
theorem dX8_isWritten_36 : decode cX8_isWritten 36 = .ok (.iconst 1, 1) := by decide +kernel
theorem dX8_isWritten_37 : decode cX8_isWritten 37 = .ok (.goto 4, 3) := by decide +kernel
theorem dX8_isWritten_40 : decode cX8_isWritten 40 = .ok (.iconst 0, 1) := by decide +kernel
theorem dX8_isWritten_41 : decode cX8_isWritten 41 = .ok (.ireturn, 1) := by decide +kernel
theorem dX8_knownValue_0 : decode cX8_knownValue 0 = .ok (.aload_n 0, 1) := by decide +kernel
theorem dX8_knownValue_1 : decode cX8_knownValue 1 = .ok (.getfield 9, 3) := by decide +kernel
theorem dX8_knownValue_4 : decode cX8_knownValue 4 = .ok (.aload_n 0, 1) := by decide +kernel
theorem dX8_knownValue_5 : decode cX8_knownValue 5 = .ok (.getfield 15, 3) := by decide +kernel
theorem dX8_knownValue_8 : decode cX8_knownValue 8 = .ok (.getfield 45, 3) := by decide +kernel
theorem dX8_knownValue_11 : decode cX8_knownValue 11 = .ok (.iload_n 1, 1) := by decide +kernel
theorem dX8_knownValue_12 : decode cX8_knownValue 12 = .ok (.iaload, 1) := by decide +kernel
theorem dX8_knownValue_13 : decode cX8_knownValue 13 = .ok (.iaload, 1) := by decide +kernel
theorem dX8_knownValue_14 : decode cX8_knownValue 14 = .ok (.aload_n 0, 1) := by decide +kernel
theorem dX8_knownValue_15 : decode cX8_knownValue 15 = .ok (.getfield 15, 3) := by decide +kernel
theorem dX8_knownValue_18 : decode cX8_knownValue 18 = .ok (.getfield 48, 3) := by decide +kernel
theorem dX8_knownValue_21 : decode cX8_knownValue 21 = .ok (.iload_n 1, 1) := by decide +kernel
theorem dX8_knownValue_22 : decode cX8_knownValue 22 = .ok (.iaload, 1) := by decide +kernel
theorem dX8_knownValue_23 : decode cX8_knownValue 23 = .ok (.iand, 1) := by decide +kernel
theorem dX8_knownValue_24 : decode cX8_knownValue 24 = .ok (.aload_n 0, 1) := by decide +kernel
theorem dX8_knownValue_25 : decode cX8_knownValue 25 = .ok (.getfield 15, 3) := by decide +kernel
theorem dX8_knownValue_28 : decode cX8_knownValue 28 = .ok (.getfield 51, 3) := by decide +kernel
theorem dX8_knownValue_31 : decode cX8_knownValue 31 = .ok (.iload_n 1, 1) := by decide +kernel
theorem dX8_knownValue_32 : decode cX8_knownValue 32 = .ok (.iaload, 1) := by decide +kernel
theorem dX8_knownValue_33 : decode cX8_knownValue 33 = .ok (.ishr, 1) := by decide +kernel
theorem dX8_knownValue_34 : decode cX8_knownValue 34 = .ok (.ireturn, 1) := by decide +kernel
theorem dX8_restart_0 : decode cX8_restart 0 = .ok (.iconst 0, 1) := by decide +kernel
theorem dX8_restart_1 : decode cX8_restart 1 = .ok (.istore_n 1, 1) := by decide +kernel
theorem dX8_restart_2 : decode cX8_restart 2 = .ok (.iload_n 1, 1) := by decide +kernel
theorem dX8_restart_3 : decode cX8_restart 3 = .ok (.bipush 16, 2) := by decide +kernel
theorem dX8_restart_5 : decode cX8_restart 5 = .ok (.if_icmp .ge 34, 3) := by decide +kernel
theorem dX8_restart_8 : decode cX8_restart 8 = .ok (.aload_n 0, 1) := by decide +kernel
theorem dX8_restart_9 : decode cX8_restart 9 = .ok (.getfield 9, 3) := by decide +kernel
theorem dX8_restart_12 : decode cX8_restart 12 = .ok (.iload_n 1, 1) := by decide +kernel
theorem dX8_restart_13 : decode cX8_restart 13 = .ok (.aload_n 0, 1) := by decide +kernel
theorem dX8_restart_14 : decode cX8_restart 14 = .ok (.getfield 15, 3) := by decide +kernel
theorem dX8_restart_17 : decode cX8_restart 17 = .ok (.getfield 19, 3) := by decide +kernel
theorem dX8_restart_20 : decode cX8_restart 20 = .ok (.iload_n 1, 1) := by decide +kernel
theorem dX8_restart_21 : decode cX8_restart 21 = .ok (.iaload, 1) := by decide +kernel
theorem dX8_restart_22 : decode cX8_restart 22 = .ok (.aload_n 0, 1) := by decide +kernel
theorem dX8_restart_23 : decode cX8_restart 23 = .ok (.getfield 15, 3) := by decide +kernel
theorem dX8_restart_26 : decode cX8_restart 26 = .ok (.getfield 24, 3) := by decide +kernel
theorem dX8_restart_29 : decode cX8_restart 29 = .ok (.iload_n 1, 1) := by decide +kernel
theorem dX8_restart_30 : decode cX8_restart 30 = .ok (.iaload, 1) := by decide +kernel
theorem dX8_restart_31 : decode cX8_restart 31 = .ok (.iand, 1) := by decide +kernel
theorem dX8_restart_32 : decode cX8_restart 32 = .ok (.iastore, 1) := by decide +kernel
theorem dX8_restart_33 : decode cX8_restart 33 = .ok (.iinc 1 1, 3) := by decide +kernel
theorem dX8_restart_36 : decode cX8_restart 36 = .ok (.goto (-34), 3) := by decide +kernel
theorem dX8_restart_39 : decode cX8_restart 39 = .ok (.aload_n 0, 1) := by decide +kernel
theorem dX8_restart_40 : decode cX8_restart 40 = .ok (.iconst 0, 1) := by decide +kernel
theorem dX8_restart_41 : decode cX8_restart 41 = .ok (.putfield 25, 3) := by decide +kernel
theorem dX8_restart_44 : decode cX8_restart 44 = .ok (.return_, 1) := by decide +kernel
theorem dX8_write_0 : decode cX8_write 0 = .ok (.aload_n 0, 1) := by decide +kernel
theorem dX8_write_1 : decode cX8_write 1 = .ok (.getfield 15, 3) := by decide +kernel
