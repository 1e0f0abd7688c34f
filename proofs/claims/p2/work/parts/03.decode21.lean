theorem dX4_has_11 : decode cX4_has 11 = .ok (.getfield 40, 3) := by decide +kernel
theorem dX4_has_14 : decode cX4_has 14 = .ok (.iload_n 1, 1) := by decide +kernel
theorem dX4_has_15 : decode cX4_has 15 = .ok (.iaload, 1) := by decide +kernel
theorem dX4_has_16 : decode cX4_has 16 = .ok (.iconst (-1), 1) := by decide +kernel
theorem dX4_has_17 : decode cX4_has 17 = .ok (.if_icmp .eq 7, 3) := by decide +kernel
theorem dX4_has_20 : decode cX4_has 20 = .ok (.iconst 1, 1) := by decide +kernel
theorem dX4_has_21 : decode cX4_has 21 = .ok (.goto 4, 3) := by decide +kernel
theorem dX4_has_24 : decode cX4_has 24 = .ok (.iconst 0, 1) := by decide +kernel
theorem dX4_has_25 : decode cX4_has 25 = .ok (.ireturn, 1) := by decide +kernel
theorem dX4_isKnown_0 : decode cX4_isKnown 0 = .ok (.aload_n 0, 1) := by decide +kernel
theorem dX4_isKnown_1 : decode cX4_isKnown 1 = .ok (.getfield 43, 3) := by decide +kernel
theorem dX4_isKnown_4 : decode cX4_isKnown 4 = .ok (.iload_n 1, 1) := by decide +kernel
theorem dX4_isKnown_5 : decode cX4_isKnown 5 = .ok (.iaload, 1) := by decide +kernel
theorem dX4_isKnown_6 : decode cX4_isKnown 6 = .ok (.ifCond .eq 13, 3) := by decide +kernel
theorem dX4_isKnown_9 : decode cX4_isKnown 9 = .ok (.aload_n 0, 1) := by decide +kernel
theorem dX4_isKnown_10 : decode cX4_isKnown 10 = .ok (.getfield 43, 3) := by decide +kernel
theorem dX4_isKnown_13 : decode cX4_isKnown 13 = .ok (.iload_n 1, 1) := by decide +kernel
theorem dX4_isKnown_14 : decode cX4_isKnown 14 = .ok (.iaload, 1) := by decide +kernel
theorem dX4_isKnown_15 : decode cX4_isKnown 15 = .ok (.iconst 2, 1) := by decide +kernel
theorem dX4_isKnown_16 : decode cX4_isKnown 16 = .ok (.if_icmp .ne 7, 3) := by decide +kernel
theorem dX4_isKnown_19 : decode cX4_isKnown 19 = .ok (.iconst 1, 1) := by decide +kernel
theorem dX4_isKnown_20 : decode cX4_isKnown 20 = .ok (.goto 4, 3) := by decide +kernel
theorem dX4_isKnown_23 : decode cX4_isKnown 23 = .ok (.iconst 0, 1) := by decide +kernel
theorem dX4_isKnown_24 : decode cX4_isKnown 24 = .ok (.ireturn, 1) := by decide +kernel
theorem dX5_add_0 : decode cX5_add 0 = .ok (.aload_n 0, 1) := by decide +kernel
theorem dX5_add_1 : decode cX5_add 1 = .ok (.getfield 21, 3) := by decide +kernel
theorem dX5_add_4 : decode cX5_add 4 = .ok (.bipush 64, 2) := by decide +kernel
theorem dX5_add_6 : decode cX5_add 6 = .ok (.irem, 1) := by decide +kernel
theorem dX5_add_7 : decode cX5_add 7 = .ok (.istore 4, 2) := by decide +kernel
theorem dX5_add_9 : decode cX5_add 9 = .ok (.aload_n 0, 1) := by decide +kernel
theorem dX5_add_10 : decode cX5_add 10 = .ok (.getfield 9, 3) := by decide +kernel
theorem dX5_add_13 : decode cX5_add 13 = .ok (.iload 4, 2) := by decide +kernel
theorem dX5_add_15 : decode cX5_add 15 = .ok (.iload_n 1, 1) := by decide +kernel
theorem dX5_add_16 : decode cX5_add 16 = .ok (.iastore, 1) := by decide +kernel
theorem dX5_add_17 : decode cX5_add 17 = .ok (.aload_n 0, 1) := by decide +kernel
theorem dX5_add_18 : decode cX5_add 18 = .ok (.getfield 15, 3) := by decide +kernel
theorem dX5_add_21 : decode cX5_add 21 = .ok (.iload 4, 2) := by decide +kernel
theorem dX5_add_23 : decode cX5_add 23 = .ok (.iload_n 2, 1) := by decide +kernel
theorem dX5_add_24 : decode cX5_add 24 = .ok (.iastore, 1) := by decide +kernel
theorem dX5_add_25 : decode cX5_add 25 = .ok (.aload_n 0, 1) := by decide +kernel
theorem dX5_add_26 : decode cX5_add 26 = .ok (.getfield 18, 3) := by decide +kernel
theorem dX5_add_29 : decode cX5_add 29 = .ok (.iload 4, 2) := by decide +kernel
theorem dX5_add_31 : decode cX5_add 31 = .ok (.iload_n 3, 1) := by decide +kernel
theorem dX5_add_32 : decode cX5_add 32 = .ok (.iastore, 1) := by decide +kernel
theorem dX5_add_33 : decode cX5_add 33 = .ok (.aload_n 0, 1) := by decide +kernel
theorem dX5_add_34 : decode cX5_add 34 = .ok (.dup, 1) := by decide +kernel
theorem dX5_add_35 : decode cX5_add 35 = .ok (.getfield 21, 3) := by decide +kernel
theorem dX5_add_38 : decode cX5_add 38 = .ok (.iconst 1, 1) := by decide +kernel
theorem dX5_add_39 : decode cX5_add 39 = .ok (.iadd, 1) := by decide +kernel
theorem dX5_add_40 : decode cX5_add 40 = .ok (.putfield 21, 3) := by decide +kernel
theorem dX5_add_43 : decode cX5_add 43 = .ok (.return_, 1) := by decide +kernel
theorem dX5_rowOf_0 : decode cX5_rowOf 0 = .ok (.iload_n 1, 1) := by decide +kernel
theorem dX5_rowOf_1 : decode cX5_rowOf 1 = .ok (.ifCond .lt 17, 3) := by decide +kernel
theorem dX5_rowOf_4 : decode cX5_rowOf 4 = .ok (.iload_n 1, 1) := by decide +kernel
theorem dX5_rowOf_5 : decode cX5_rowOf 5 = .ok (.bipush 64, 2) := by decide +kernel
theorem dX5_rowOf_7 : decode cX5_rowOf 7 = .ok (.if_icmp .ge 11, 3) := by decide +kernel
theorem dX5_rowOf_10 : decode cX5_rowOf 10 = .ok (.iload_n 1, 1) := by decide +kernel
theorem dX5_rowOf_11 : decode cX5_rowOf 11 = .ok (.aload_n 0, 1) := by decide +kernel
theorem dX5_rowOf_12 : decode cX5_rowOf 12 = .ok (.getfield 21, 3) := by decide +kernel
theorem dX5_rowOf_15 : decode cX5_rowOf 15 = .ok (.if_icmp .lt 5, 3) := by decide +kernel
theorem dX5_rowOf_18 : decode cX5_rowOf 18 = .ok (.iconst (-1), 1) := by decide +kernel
theorem dX5_rowOf_19 : decode cX5_rowOf 19 = .ok (.ireturn, 1) := by decide +kernel
theorem dX5_rowOf_20 : decode cX5_rowOf 20 = .ok (.aload_n 0, 1) := by decide +kernel
theorem dX5_rowOf_21 : decode cX5_rowOf 21 = .ok (.getfield 21, 3) := by decide +kernel
theorem dX5_rowOf_24 : decode cX5_rowOf 24 = .ok (.iconst 1, 1) := by decide +kernel
theorem dX5_rowOf_25 : decode cX5_rowOf 25 = .ok (.isub, 1) := by decide +kernel
theorem dX5_rowOf_26 : decode cX5_rowOf 26 = .ok (.iload_n 1, 1) := by decide +kernel
theorem dX5_rowOf_27 : decode cX5_rowOf 27 = .ok (.isub, 1) := by decide +kernel
theorem dX5_rowOf_28 : decode cX5_rowOf 28 = .ok (.bipush 64, 2) := by decide +kernel
theorem dX5_rowOf_30 : decode cX5_rowOf 30 = .ok (.irem, 1) := by decide +kernel
theorem dX5_rowOf_31 : decode cX5_rowOf 31 = .ok (.ireturn, 1) := by decide +kernel
theorem dX6_brokenBy_0 : decode cX6_brokenBy 0 = .ok (.aload_n 0, 1) := by decide +kernel
theorem dX6_brokenBy_1 : decode cX6_brokenBy 1 = .ok (.getfield 15, 3) := by decide +kernel
theorem dX6_brokenBy_4 : decode cX6_brokenBy 4 = .ok (.getfield 54, 3) := by decide +kernel
theorem dX6_brokenBy_7 : decode cX6_brokenBy 7 = .ok (.astore_n 3, 1) := by decide +kernel
theorem dX6_brokenBy_8 : decode cX6_brokenBy 8 = .ok (.iconst 0, 1) := by decide +kernel
theorem dX6_brokenBy_9 : decode cX6_brokenBy 9 = .ok (.istore 4, 2) := by decide +kernel
theorem dX6_brokenBy_11 : decode cX6_brokenBy 11 = .ok (.iconst 0, 1) := by decide +kernel
theorem dX6_brokenBy_12 : decode cX6_brokenBy 12 = .ok (.istore 5, 2) := by decide +kernel
theorem dX6_brokenBy_14 : decode cX6_brokenBy 14 = .ok (.iload 5, 2) := by decide +kernel
theorem dX6_brokenBy_16 : decode cX6_brokenBy 16 = .ok (.aload_n 3, 1) := by decide +kernel
theorem dX6_brokenBy_17 : decode cX6_brokenBy 17 = .ok (.getfield 58, 3) := by decide +kernel
theorem dX6_brokenBy_20 : decode cX6_brokenBy 20 = .ok (.if_icmp .ge 170, 3) := by decide +kernel
theorem dX6_brokenBy_23 : decode cX6_brokenBy 23 = .ok (.aload_n 0, 1) := by decide +kernel
theorem dX6_brokenBy_24 : decode cX6_brokenBy 24 = .ok (.getfield 25, 3) := by decide +kernel
theorem dX6_brokenBy_27 : decode cX6_brokenBy 27 = .ok (.iload 5, 2) := by decide +kernel
theorem dX6_brokenBy_29 : decode cX6_brokenBy 29 = .ok (.ishr, 1) := by decide +kernel
theorem dX6_brokenBy_30 : decode cX6_brokenBy 30 = .ok (.iconst 1, 1) := by decide +kernel
theorem dX6_brokenBy_31 : decode cX6_brokenBy 31 = .ok (.iand, 1) := by decide +kernel
theorem dX6_brokenBy_32 : decode cX6_brokenBy 32 = .ok (.iconst 1, 1) := by decide +kernel
theorem dX6_brokenBy_33 : decode cX6_brokenBy 33 = .ok (.if_icmp .ne 7, 3) := by decide +kernel
theorem dX6_brokenBy_36 : decode cX6_brokenBy 36 = .ok (.iconst 1, 1) := by decide +kernel
theorem dX6_brokenBy_37 : decode cX6_brokenBy 37 = .ok (.goto 4, 3) := by decide +kernel
theorem dX6_brokenBy_40 : decode cX6_brokenBy 40 = .ok (.iconst 0, 1) := by decide +kernel
theorem dX6_brokenBy_41 : decode cX6_brokenBy 41 = .ok (.istore 6, 2) := by decide +kernel
theorem dX6_brokenBy_43 : decode cX6_brokenBy 43 = .ok (.aload_n 3, 1) := by decide +kernel
theorem dX6_brokenBy_44 : decode cX6_brokenBy 44 = .ok (.getfield 63, 3) := by decide +kernel
theorem dX6_brokenBy_47 : decode cX6_brokenBy 47 = .ok (.iload 5, 2) := by decide +kernel
theorem dX6_brokenBy_49 : decode cX6_brokenBy 49 = .ok (.iaload, 1) := by decide +kernel
theorem dX6_brokenBy_50 : decode cX6_brokenBy 50 = .ok (.ifCond .ne 34, 3) := by decide +kernel
theorem dX6_brokenBy_53 : decode cX6_brokenBy 53 = .ok (.iload 6, 2) := by decide +kernel
theorem dX6_brokenBy_55 : decode cX6_brokenBy 55 = .ok (.ifCond .ne 23, 3) := by decide +kernel
theorem dX6_brokenBy_58 : decode cX6_brokenBy 58 = .ok (.aload_n 0, 1) := by decide +kernel
theorem dX6_brokenBy_59 : decode cX6_brokenBy 59 = .ok (.aload_n 3, 1) := by decide +kernel
theorem dX6_brokenBy_60 : decode cX6_brokenBy 60 = .ok (.getfield 66, 3) := by decide +kernel
theorem dX6_brokenBy_63 : decode cX6_brokenBy 63 = .ok (.iload 5, 2) := by decide +kernel
theorem dX6_brokenBy_65 : decode cX6_brokenBy 65 = .ok (.iaload, 1) := by decide +kernel
theorem dX6_brokenBy_66 : decode cX6_brokenBy 66 = .ok (.iload_n 1, 1) := by decide +kernel
theorem dX6_brokenBy_67 : decode cX6_brokenBy 67 = .ok (.iload_n 2, 1) := by decide +kernel
theorem dX6_brokenBy_68 : decode cX6_brokenBy 68 = .ok (.invokevirtual 69, 3) := by decide +kernel
theorem dX6_brokenBy_71 : decode cX6_brokenBy 71 = .ok (.ifCond .eq 7, 3) := by decide +kernel
theorem dX6_brokenBy_74 : decode cX6_brokenBy 74 = .ok (.iconst 1, 1) := by decide +kernel
theorem dX6_brokenBy_75 : decode cX6_brokenBy 75 = .ok (.goto 4, 3) := by decide +kernel
theorem dX6_brokenBy_78 : decode cX6_brokenBy 78 = .ok (.iconst 0, 1) := by decide +kernel
theorem dX6_brokenBy_79 : decode cX6_brokenBy 79 = .ok (.istore 7, 2) := by decide +kernel
theorem dX6_brokenBy_81 : decode cX6_brokenBy 81 = .ok (.goto 89, 3) := by decide +kernel
theorem dX6_brokenBy_84 : decode cX6_brokenBy 84 = .ok (.aload_n 3, 1) := by decide +kernel
theorem dX6_brokenBy_85 : decode cX6_brokenBy 85 = .ok (.getfield 63, 3) := by decide +kernel
theorem dX6_brokenBy_88 : decode cX6_brokenBy 88 = .ok (.iload 5, 2) := by decide +kernel
theorem dX6_brokenBy_90 : decode cX6_brokenBy 90 = .ok (.iaload, 1) := by decide +kernel
theorem dX6_brokenBy_91 : decode cX6_brokenBy 91 = .ok (.iconst 2, 1) := by decide +kernel
theorem dX6_brokenBy_92 : decode cX6_brokenBy 92 = .ok (.if_icmp .ne 34, 3) := by decide +kernel
theorem dX6_brokenBy_95 : decode cX6_brokenBy 95 = .ok (.iload 6, 2) := by decide +kernel
theorem dX6_brokenBy_97 : decode cX6_brokenBy 97 = .ok (.ifCond .eq 23, 3) := by decide +kernel
theorem dX6_brokenBy_100 : decode cX6_brokenBy 100 = .ok (.aload_n 0, 1) := by decide +kernel
theorem dX6_brokenBy_101 : decode cX6_brokenBy 101 = .ok (.aload_n 3, 1) := by decide +kernel
theorem dX6_brokenBy_102 : decode cX6_brokenBy 102 = .ok (.getfield 73, 3) := by decide +kernel
theorem dX6_brokenBy_105 : decode cX6_brokenBy 105 = .ok (.iload 5, 2) := by decide +kernel
theorem dX6_brokenBy_107 : decode cX6_brokenBy 107 = .ok (.iaload, 1) := by decide +kernel
theorem dX6_brokenBy_108 : decode cX6_brokenBy 108 = .ok (.iload_n 1, 1) := by decide +kernel
theorem dX6_brokenBy_109 : decode cX6_brokenBy 109 = .ok (.iload_n 2, 1) := by decide +kernel
theorem dX6_brokenBy_110 : decode cX6_brokenBy 110 = .ok (.invokevirtual 69, 3) := by decide +kernel
theorem dX6_brokenBy_113 : decode cX6_brokenBy 113 = .ok (.ifCond .eq 7, 3) := by decide +kernel
theorem dX6_brokenBy_116 : decode cX6_brokenBy 116 = .ok (.iconst 1, 1) := by decide +kernel
theorem dX6_brokenBy_117 : decode cX6_brokenBy 117 = .ok (.goto 4, 3) := by decide +kernel
theorem dX6_brokenBy_120 : decode cX6_brokenBy 120 = .ok (.iconst 0, 1) := by decide +kernel
theorem dX6_brokenBy_121 : decode cX6_brokenBy 121 = .ok (.istore 7, 2) := by decide +kernel
theorem dX6_brokenBy_123 : decode cX6_brokenBy 123 = .ok (.goto 47, 3) := by decide +kernel
theorem dX6_brokenBy_126 : decode cX6_brokenBy 126 = .ok (.aload_n 0, 1) := by decide +kernel
theorem dX6_brokenBy_127 : decode cX6_brokenBy 127 = .ok (.aload_n 3, 1) := by decide +kernel
theorem dX6_brokenBy_128 : decode cX6_brokenBy 128 = .ok (.getfield 73, 3) := by decide +kernel
theorem dX6_brokenBy_131 : decode cX6_brokenBy 131 = .ok (.iload 5, 2) := by decide +kernel
theorem dX6_brokenBy_133 : decode cX6_brokenBy 133 = .ok (.iaload, 1) := by decide +kernel
theorem dX6_brokenBy_134 : decode cX6_brokenBy 134 = .ok (.iload_n 1, 1) := by decide +kernel
theorem dX6_brokenBy_135 : decode cX6_brokenBy 135 = .ok (.iload_n 2, 1) := by decide +kernel
theorem dX6_brokenBy_136 : decode cX6_brokenBy 136 = .ok (.invokevirtual 69, 3) := by decide +kernel
theorem dX6_brokenBy_139 : decode cX6_brokenBy 139 = .ok (.ifCond .eq 28, 3) := by decide +kernel
theorem dX6_brokenBy_142 : decode cX6_brokenBy 142 = .ok (.aload_n 0, 1) := by decide +kernel
theorem dX6_brokenBy_143 : decode cX6_brokenBy 143 = .ok (.aload_n 3, 1) := by decide +kernel
theorem dX6_brokenBy_144 : decode cX6_brokenBy 144 = .ok (.getfield 66, 3) := by decide +kernel
theorem dX6_brokenBy_147 : decode cX6_brokenBy 147 = .ok (.iload 5, 2) := by decide +kernel
theorem dX6_brokenBy_149 : decode cX6_brokenBy 149 = .ok (.iaload, 1) := by decide +kernel
theorem dX6_brokenBy_150 : decode cX6_brokenBy 150 = .ok (.invokevirtual 38, 3) := by decide +kernel
theorem dX6_brokenBy_153 : decode cX6_brokenBy 153 = .ok (.aload_n 3, 1) := by decide +kernel
theorem dX6_brokenBy_154 : decode cX6_brokenBy 154 = .ok (.getfield 76, 3) := by decide +kernel
theorem dX6_brokenBy_157 : decode cX6_brokenBy 157 = .ok (.iload 5, 2) := by decide +kernel
theorem dX6_brokenBy_159 : decode cX6_brokenBy 159 = .ok (.iaload, 1) := by decide +kernel
theorem dX6_brokenBy_160 : decode cX6_brokenBy 160 = .ok (.if_icmp .eq 7, 3) := by decide +kernel
theorem dX6_brokenBy_163 : decode cX6_brokenBy 163 = .ok (.iconst 1, 1) := by decide +kernel
theorem dX6_brokenBy_164 : decode cX6_brokenBy 164 = .ok (.goto 4, 3) := by decide +kernel
theorem dX6_brokenBy_167 : decode cX6_brokenBy 167 = .ok (.iconst 0, 1) := by decide +kernel
theorem dX6_brokenBy_168 : decode cX6_brokenBy 168 = .ok (.istore 7, 2) := by decide +kernel
theorem dX6_brokenBy_170 : decode cX6_brokenBy 170 = .ok (.iload 7, 2) := by decide +kernel
theorem dX6_brokenBy_172 : decode cX6_brokenBy 172 = .ok (.ifCond .eq 12, 3) := by decide +kernel
theorem dX6_brokenBy_175 : decode cX6_brokenBy 175 = .ok (.iload 4, 2) := by decide +kernel
theorem dX6_brokenBy_177 : decode cX6_brokenBy 177 = .ok (.iconst 1, 1) := by decide +kernel
theorem dX6_brokenBy_178 : decode cX6_brokenBy 178 = .ok (.iload 5, 2) := by decide +kernel
theorem dX6_brokenBy_180 : decode cX6_brokenBy 180 = .ok (.ishl, 1) := by decide +kernel
theorem dX6_brokenBy_181 : decode cX6_brokenBy 181 = .ok (.ior, 1) := by decide +kernel
theorem dX6_brokenBy_182 : decode cX6_brokenBy 182 = .ok (.istore 4, 2) := by decide +kernel
theorem dX6_brokenBy_184 : decode cX6_brokenBy 184 = .ok (.iinc 5 1, 3) := by decide +kernel
theorem dX6_brokenBy_187 : decode cX6_brokenBy 187 = .ok (.goto (-173), 3) := by decide +kernel
theorem dX6_brokenBy_190 : decode cX6_brokenBy 190 = .ok (.iload 4, 2) := by decide +kernel
theorem dX6_brokenBy_192 : decode cX6_brokenBy 192 = .ok (.ireturn, 1) := by decide +kernel
theorem dX6_copy_0 : decode cX6_copy 0 = .ok (.aload_n 1, 1) := by decide +kernel
theorem dX6_copy_1 : decode cX6_copy 1 = .ok (.getfield 9, 3) := by decide +kernel
theorem dX6_copy_4 : decode cX6_copy 4 = .ok (.iconst 0, 1) := by decide +kernel
theorem dX6_copy_5 : decode cX6_copy 5 = .ok (.aload_n 0, 1) := by decide +kernel
theorem dX6_copy_6 : decode cX6_copy 6 = .ok (.getfield 9, 3) := by decide +kernel
theorem dX6_copy_9 : decode cX6_copy 9 = .ok (.iconst 0, 1) := by decide +kernel
theorem dX6_copy_10 : decode cX6_copy 10 = .ok (.bipush 16, 2) := by decide +kernel
theorem dX6_copy_12 : decode cX6_copy 12 = .ok (.invokestatic 29, 3) := by decide +kernel
theorem dX6_copy_15 : decode cX6_copy 15 = .ok (.aload_n 0, 1) := by decide +kernel
theorem dX6_copy_16 : decode cX6_copy 16 = .ok (.aload_n 1, 1) := by decide +kernel
theorem dX6_copy_17 : decode cX6_copy 17 = .ok (.getfield 25, 3) := by decide +kernel
theorem dX6_copy_20 : decode cX6_copy 20 = .ok (.putfield 25, 3) := by decide +kernel
theorem dX6_copy_23 : decode cX6_copy 23 = .ok (.return_, 1) := by decide +kernel
theorem dX6_isThere_0 : decode cX6_isThere 0 = .ok (.aload_n 0, 1) := by decide +kernel
theorem dX6_isThere_1 : decode cX6_isThere 1 = .ok (.getfield 15, 3) := by decide +kernel
theorem dX6_isThere_4 : decode cX6_isThere 4 = .ok (.getfield 35, 3) := by decide +kernel
theorem dX6_isThere_7 : decode cX6_isThere 7 = .ok (.iload_n 1, 1) := by decide +kernel
theorem dX6_isThere_8 : decode cX6_isThere 8 = .ok (.iaload, 1) := by decide +kernel
theorem dX6_isThere_9 : decode cX6_isThere 9 = .ok (.istore_n 2, 1) := by decide +kernel
theorem dX6_isThere_10 : decode cX6_isThere 10 = .ok (.iload_n 2, 1) := by decide +kernel
theorem dX6_isThere_11 : decode cX6_isThere 11 = .ok (.iconst (-1), 1) := by decide +kernel
theorem dX6_isThere_12 : decode cX6_isThere 12 = .ok (.if_icmp .eq 20, 3) := by decide +kernel
theorem dX6_isThere_15 : decode cX6_isThere 15 = .ok (.aload_n 0, 1) := by decide +kernel
theorem dX6_isThere_16 : decode cX6_isThere 16 = .ok (.iload_n 2, 1) := by decide +kernel
theorem dX6_isThere_17 : decode cX6_isThere 17 = .ok (.invokevirtual 38, 3) := by decide +kernel
theorem dX6_isThere_20 : decode cX6_isThere 20 = .ok (.aload_n 0, 1) := by decide +kernel
theorem dX6_isThere_21 : decode cX6_isThere 21 = .ok (.getfield 15, 3) := by decide +kernel
theorem dX6_isThere_24 : decode cX6_isThere 24 = .ok (.getfield 42, 3) := by decide +kernel
theorem dX6_isThere_27 : decode cX6_isThere 27 = .ok (.iload_n 1, 1) := by decide +kernel
theorem dX6_isThere_28 : decode cX6_isThere 28 = .ok (.iaload, 1) := by decide +kernel
theorem dX6_isThere_29 : decode cX6_isThere 29 = .ok (.if_icmp .ne 7, 3) := by decide +kernel
theorem dX6_isThere_32 : decode cX6_isThere 32 = .ok (.iconst 1, 1) := by decide +kernel
theorem dX6_isThere_33 : decode cX6_isThere 33 = .ok (.goto 4, 3) := by decide +kernel
theorem dX6_isThere_36 : decode cX6_isThere 36 = .ok (.iconst 0, 1) := by decide +kernel
theorem dX6_isThere_37 : decode cX6_isThere 37 = .ok (.ireturn, 1) := by decide +kernel
theorem dX6_isWritten_0 : decode cX6_isWritten 0 = .ok (.aload_n 0, 1) := by decide +kernel
theorem dX6_isWritten_1 : decode cX6_isWritten 1 = .ok (.getfield 15, 3) := by decide +kernel
theorem dX6_isWritten_4 : decode cX6_isWritten 4 = .ok (.getfield 45, 3) := by decide +kernel
theorem dX6_isWritten_7 : decode cX6_isWritten 7 = .ok (.iload_n 1, 1) := by decide +kernel
theorem dX6_isWritten_8 : decode cX6_isWritten 8 = .ok (.iaload, 1) := by decide +kernel
theorem dX6_isWritten_9 : decode cX6_isWritten 9 = .ok (.iload_n 2, 1) := by decide +kernel
theorem dX6_isWritten_10 : decode cX6_isWritten 10 = .ok (.if_icmp .eq 5, 3) := by decide +kernel
theorem dX6_isWritten_13 : decode cX6_isWritten 13 = .ok (.iconst 0, 1) := by decide +kernel
theorem dX6_isWritten_14 : decode cX6_isWritten 14 = .ok (.ireturn, 1) := by decide +kernel
theorem dX6_isWritten_15 : decode cX6_isWritten 15 = .ok (.iload_n 3, 1) := by decide +kernel
theorem dX6_isWritten_16 : decode cX6_isWritten 16 = .ok (.aload_n 0, 1) := by decide +kernel
theorem dX6_isWritten_17 : decode cX6_isWritten 17 = .ok (.getfield 9, 3) := by decide +kernel
theorem dX6_isWritten_20 : decode cX6_isWritten 20 = .ok (.iload_n 2, 1) := by decide +kernel
theorem dX6_isWritten_21 : decode cX6_isWritten 21 = .ok (.iaload, 1) := by decide +kernel
theorem dX6_isWritten_22 : decode cX6_isWritten 22 = .ok (.ixor, 1) := by decide +kernel
theorem dX6_isWritten_23 : decode cX6_isWritten 23 = .ok (.aload_n 0, 1) := by decide +kernel
theorem dX6_isWritten_24 : decode cX6_isWritten 24 = .ok (.getfield 15, 3) := by decide +kernel
theorem dX6_isWritten_27 : decode cX6_isWritten 27 = .ok (.getfield 48, 3) := by decide +kernel
theorem dX6_isWritten_30 : decode cX6_isWritten 30 = .ok (.iload_n 1, 1) := by decide +kernel
theorem dX6_isWritten_31 : decode cX6_isWritten 31 = .ok (.iaload, 1) := by decide +kernel
theorem dX6_isWritten_32 : decode cX6_isWritten 32 = .ok (.iand, 1) := by decide +kernel
theorem dX6_isWritten_33 : decode cX6_isWritten 33 = .ok (.ifCond .eq 7, 3) := by decide +kernel
theorem dX6_isWritten_36 : decode cX6_isWritten 36 = .ok (.iconst 1, 1) := by decide +kernel
theorem dX6_isWritten_37 : decode cX6_isWritten 37 = .ok (.goto 4, 3) := by decide +kernel
theorem dX6_isWritten_40 : decode cX6_isWritten 40 = .ok (.iconst 0, 1) := by decide +kernel
theorem dX6_isWritten_41 : decode cX6_isWritten 41 = .ok (.ireturn, 1) := by decide +kernel
theorem dX6_knownValue_0 : decode cX6_knownValue 0 = .ok (.aload_n 0, 1) := by decide +kernel
theorem dX6_knownValue_1 : decode cX6_knownValue 1 = .ok (.getfield 9, 3) := by decide +kernel
theorem dX6_knownValue_4 : decode cX6_knownValue 4 = .ok (.aload_n 0, 1) := by decide +kernel
theorem dX6_knownValue_5 : decode cX6_knownValue 5 = .ok (.getfield 15, 3) := by decide +kernel
theorem dX6_knownValue_8 : decode cX6_knownValue 8 = .ok (.getfield 45, 3) := by decide +kernel
theorem dX6_knownValue_11 : decode cX6_knownValue 11 = .ok (.iload_n 1, 1) := by decide +kernel
theorem dX6_knownValue_12 : decode cX6_knownValue 12 = .ok (.iaload, 1) := by decide +kernel
theorem dX6_knownValue_13 : decode cX6_knownValue 13 = .ok (.iaload, 1) := by decide +kernel
theorem dX6_knownValue_14 : decode cX6_knownValue 14 = .ok (.aload_n 0, 1) := by decide +kernel
theorem dX6_knownValue_15 : decode cX6_knownValue 15 = .ok (.getfield 15, 3) := by decide +kernel
theorem dX6_knownValue_18 : decode cX6_knownValue 18 = .ok (.getfield 48, 3) := by decide +kernel
theorem dX6_knownValue_21 : decode cX6_knownValue 21 = .ok (.iload_n 1, 1) := by decide +kernel
theorem dX6_knownValue_22 : decode cX6_knownValue 22 = .ok (.iaload, 1) := by decide +kernel
theorem dX6_knownValue_23 : decode cX6_knownValue 23 = .ok (.iand, 1) := by decide +kernel
theorem dX6_knownValue_24 : decode cX6_knownValue 24 = .ok (.aload_n 0, 1) := by decide +kernel
theorem dX6_knownValue_25 : decode cX6_knownValue 25 = .ok (.getfield 15, 3) := by decide +kernel
theorem dX6_knownValue_28 : decode cX6_knownValue 28 = .ok (.getfield 51, 3) := by decide +kernel
theorem dX6_knownValue_31 : decode cX6_knownValue 31 = .ok (.iload_n 1, 1) := by decide +kernel
theorem dX6_knownValue_32 : decode cX6_knownValue 32 = .ok (.iaload, 1) := by decide +kernel
theorem dX6_knownValue_33 : decode cX6_knownValue 33 = .ok (.ishr, 1) := by decide +kernel
theorem dX6_knownValue_34 : decode cX6_knownValue 34 = .ok (.ireturn, 1) := by decide +kernel
theorem dX6_restart_0 : decode cX6_restart 0 = .ok (.iconst 0, 1) := by decide +kernel
theorem dX6_restart_1 : decode cX6_restart 1 = .ok (.istore_n 1, 1) := by decide +kernel
theorem dX6_restart_2 : decode cX6_restart 2 = .ok (.iload_n 1, 1) := by decide +kernel
theorem dX6_restart_3 : decode cX6_restart 3 = .ok (.bipush 16, 2) := by decide +kernel
