theorem dX1_flush_21 : decode cX1_flush 21 = .ok (.iconst 0, 1) := by decide +kernel
theorem dX1_flush_22 : decode cX1_flush 22 = .ok (.istore_n 3, 1) := by decide +kernel
theorem dX1_flush_23 : decode cX1_flush 23 = .ok (.iload_n 3, 1) := by decide +kernel
theorem dX1_flush_24 : decode cX1_flush 24 = .ok (.iload_n 1, 1) := by decide +kernel
theorem dX1_flush_25 : decode cX1_flush 25 = .ok (.if_icmp .ge 44, 3) := by decide +kernel
theorem dX1_flush_28 : decode cX1_flush 28 = .ok (.iload_n 2, 1) := by decide +kernel
theorem dX1_flush_29 : decode cX1_flush 29 = .ok (.ifCond .ne 28, 3) := by decide +kernel
theorem dX1_flush_32 : decode cX1_flush 32 = .ok (.aload_n 0, 1) := by decide +kernel
theorem dX1_flush_33 : decode cX1_flush 33 = .ok (.getfield 83, 3) := by decide +kernel
theorem dX1_flush_36 : decode cX1_flush 36 = .ok (.aload_n 0, 1) := by decide +kernel
theorem dX1_flush_37 : decode cX1_flush 37 = .ok (.getfield 128, 3) := by decide +kernel
theorem dX1_flush_40 : decode cX1_flush 40 = .ok (.iload_n 3, 1) := by decide +kernel
theorem dX1_flush_41 : decode cX1_flush 41 = .ok (.iaload, 1) := by decide +kernel
theorem dX1_flush_42 : decode cX1_flush 42 = .ok (.iaload, 1) := by decide +kernel
theorem dX1_flush_43 : decode cX1_flush 43 = .ok (.aload_n 0, 1) := by decide +kernel
theorem dX1_flush_44 : decode cX1_flush 44 = .ok (.getfield 83, 3) := by decide +kernel
theorem dX1_flush_47 : decode cX1_flush 47 = .ok (.aload_n 0, 1) := by decide +kernel
theorem dX1_flush_48 : decode cX1_flush 48 = .ok (.getfield 128, 3) := by decide +kernel
theorem dX1_flush_51 : decode cX1_flush 51 = .ok (.iload_n 1, 1) := by decide +kernel
theorem dX1_flush_52 : decode cX1_flush 52 = .ok (.iaload, 1) := by decide +kernel
theorem dX1_flush_53 : decode cX1_flush 53 = .ok (.iaload, 1) := by decide +kernel
theorem dX1_flush_54 : decode cX1_flush 54 = .ok (.if_icmp .ne 7, 3) := by decide +kernel
theorem dX1_flush_57 : decode cX1_flush 57 = .ok (.iconst 1, 1) := by decide +kernel
theorem dX1_flush_58 : decode cX1_flush 58 = .ok (.goto 4, 3) := by decide +kernel
theorem dX1_flush_61 : decode cX1_flush 61 = .ok (.iconst 0, 1) := by decide +kernel
theorem dX1_flush_62 : decode cX1_flush 62 = .ok (.istore_n 2, 1) := by decide +kernel
theorem dX1_flush_63 : decode cX1_flush 63 = .ok (.iinc 3 1, 3) := by decide +kernel
theorem dX1_flush_66 : decode cX1_flush 66 = .ok (.goto (-43), 3) := by decide +kernel
theorem dX1_flush_69 : decode cX1_flush 69 = .ok (.iload_n 2, 1) := by decide +kernel
theorem dX1_flush_70 : decode cX1_flush 70 = .ok (.ifCond .ne 18, 3) := by decide +kernel
theorem dX1_flush_73 : decode cX1_flush 73 = .ok (.aload_n 0, 1) := by decide +kernel
theorem dX1_flush_74 : decode cX1_flush 74 = .ok (.aload_n 0, 1) := by decide +kernel
theorem dX1_flush_75 : decode cX1_flush 75 = .ok (.getfield 83, 3) := by decide +kernel
theorem dX1_flush_78 : decode cX1_flush 78 = .ok (.aload_n 0, 1) := by decide +kernel
theorem dX1_flush_79 : decode cX1_flush 79 = .ok (.getfield 128, 3) := by decide +kernel
theorem dX1_flush_82 : decode cX1_flush 82 = .ok (.iload_n 1, 1) := by decide +kernel
theorem dX1_flush_83 : decode cX1_flush 83 = .ok (.iaload, 1) := by decide +kernel
theorem dX1_flush_84 : decode cX1_flush 84 = .ok (.iaload, 1) := by decide +kernel
theorem dX1_flush_85 : decode cX1_flush 85 = .ok (.invokevirtual 384, 3) := by decide +kernel
theorem dX1_flush_88 : decode cX1_flush 88 = .ok (.iinc 1 1, 3) := by decide +kernel
theorem dX1_flush_91 : decode cX1_flush 91 = .ok (.goto (-80), 3) := by decide +kernel
theorem dX1_flush_94 : decode cX1_flush 94 = .ok (.aload_n 0, 1) := by decide +kernel
theorem dX1_flush_95 : decode cX1_flush 95 = .ok (.invokevirtual 375, 3) := by decide +kernel
theorem dX1_flush_98 : decode cX1_flush 98 = .ok (.istore_n 1, 1) := by decide +kernel
theorem dX1_flush_99 : decode cX1_flush 99 = .ok (.iload_n 1, 1) := by decide +kernel
theorem dX1_flush_100 : decode cX1_flush 100 = .ok (.bipush (-2), 2) := by decide +kernel
theorem dX1_flush_102 : decode cX1_flush 102 = .ok (.if_icmp .eq 8, 3) := by decide +kernel
theorem dX1_flush_105 : decode cX1_flush 105 = .ok (.aload_n 0, 1) := by decide +kernel
theorem dX1_flush_106 : decode cX1_flush 106 = .ok (.iconst 0, 1) := by decide +kernel
theorem dX1_flush_107 : decode cX1_flush 107 = .ok (.putfield 288, 3) := by decide +kernel
theorem dX1_flush_110 : decode cX1_flush 110 = .ok (.iload_n 1, 1) := by decide +kernel
theorem dX1_flush_111 : decode cX1_flush 111 = .ok (.ireturn, 1) := by decide +kernel
theorem dX1_flushRegister_0 : decode cX1_flushRegister 0 = .ok (.iconst 0, 1) := by decide +kernel
theorem dX1_flushRegister_1 : decode cX1_flushRegister 1 = .ok (.istore_n 2, 1) := by decide +kernel
theorem dX1_flushRegister_2 : decode cX1_flushRegister 2 = .ok (.iconst 0, 1) := by decide +kernel
theorem dX1_flushRegister_3 : decode cX1_flushRegister 3 = .ok (.istore_n 3, 1) := by decide +kernel
theorem dX1_flushRegister_4 : decode cX1_flushRegister 4 = .ok (.iload_n 3, 1) := by decide +kernel
theorem dX1_flushRegister_5 : decode cX1_flushRegister 5 = .ok (.bipush 26, 2) := by decide +kernel
theorem dX1_flushRegister_7 : decode cX1_flushRegister 7 = .ok (.if_icmp .ge 100, 3) := by decide +kernel
theorem dX1_flushRegister_10 : decode cX1_flushRegister 10 = .ok (.iconst (-1), 1) := by decide +kernel
theorem dX1_flushRegister_11 : decode cX1_flushRegister 11 = .ok (.istore 4, 2) := by decide +kernel
theorem dX1_flushRegister_13 : decode cX1_flushRegister 13 = .ok (.iconst 0, 1) := by decide +kernel
theorem dX1_flushRegister_14 : decode cX1_flushRegister 14 = .ok (.istore 5, 2) := by decide +kernel
theorem dX1_flushRegister_16 : decode cX1_flushRegister 16 = .ok (.iload 5, 2) := by decide +kernel
theorem dX1_flushRegister_18 : decode cX1_flushRegister 18 = .ok (.aload_n 0, 1) := by decide +kernel
theorem dX1_flushRegister_19 : decode cX1_flushRegister 19 = .ok (.getfield 288, 3) := by decide +kernel
theorem dX1_flushRegister_22 : decode cX1_flushRegister 22 = .ok (.if_icmp .ge 29, 3) := by decide +kernel
theorem dX1_flushRegister_25 : decode cX1_flushRegister 25 = .ok (.aload_n 0, 1) := by decide +kernel
theorem dX1_flushRegister_26 : decode cX1_flushRegister 26 = .ok (.getfield 128, 3) := by decide +kernel
theorem dX1_flushRegister_29 : decode cX1_flushRegister 29 = .ok (.iload 5, 2) := by decide +kernel
theorem dX1_flushRegister_31 : decode cX1_flushRegister 31 = .ok (.iaload, 1) := by decide +kernel
theorem dX1_flushRegister_32 : decode cX1_flushRegister 32 = .ok (.iload_n 3, 1) := by decide +kernel
theorem dX1_flushRegister_33 : decode cX1_flushRegister 33 = .ok (.if_icmp .ne 8, 3) := by decide +kernel
theorem dX1_flushRegister_36 : decode cX1_flushRegister 36 = .ok (.iload 5, 2) := by decide +kernel
theorem dX1_flushRegister_38 : decode cX1_flushRegister 38 = .ok (.goto 5, 3) := by decide +kernel
theorem dX1_flushRegister_41 : decode cX1_flushRegister 41 = .ok (.iload 4, 2) := by decide +kernel
theorem dX1_flushRegister_43 : decode cX1_flushRegister 43 = .ok (.istore 4, 2) := by decide +kernel
theorem dX1_flushRegister_45 : decode cX1_flushRegister 45 = .ok (.iinc 5 1, 3) := by decide +kernel
theorem dX1_flushRegister_48 : decode cX1_flushRegister 48 = .ok (.goto (-32), 3) := by decide +kernel
theorem dX1_flushRegister_51 : decode cX1_flushRegister 51 = .ok (.iload 4, 2) := by decide +kernel
theorem dX1_flushRegister_53 : decode cX1_flushRegister 53 = .ok (.iconst (-1), 1) := by decide +kernel
theorem dX1_flushRegister_54 : decode cX1_flushRegister 54 = .ok (.if_icmp .eq 47, 3) := by decide +kernel
theorem dX1_flushRegister_57 : decode cX1_flushRegister 57 = .ok (.aload_n 0, 1) := by decide +kernel
theorem dX1_flushRegister_58 : decode cX1_flushRegister 58 = .ok (.getfield 83, 3) := by decide +kernel
theorem dX1_flushRegister_61 : decode cX1_flushRegister 61 = .ok (.iload_n 3, 1) := by decide +kernel
theorem dX1_flushRegister_62 : decode cX1_flushRegister 62 = .ok (.iaload, 1) := by decide +kernel
theorem dX1_flushRegister_63 : decode cX1_flushRegister 63 = .ok (.iload_n 1, 1) := by decide +kernel
theorem dX1_flushRegister_64 : decode cX1_flushRegister 64 = .ok (.if_icmp .ne 37, 3) := by decide +kernel
theorem dX1_flushRegister_67 : decode cX1_flushRegister 67 = .ok (.iload_n 2, 1) := by decide +kernel
theorem dX1_flushRegister_68 : decode cX1_flushRegister 68 = .ok (.ifCond .ne 27, 3) := by decide +kernel
theorem dX1_flushRegister_71 : decode cX1_flushRegister 71 = .ok (.aload_n 0, 1) := by decide +kernel
theorem dX1_flushRegister_72 : decode cX1_flushRegister 72 = .ok (.iload_n 3, 1) := by decide +kernel
theorem dX1_flushRegister_73 : decode cX1_flushRegister 73 = .ok (.invokevirtual 297, 3) := by decide +kernel
theorem dX1_flushRegister_76 : decode cX1_flushRegister 76 = .ok (.ifCond .eq 19, 3) := by decide +kernel
theorem dX1_flushRegister_79 : decode cX1_flushRegister 79 = .ok (.aload_n 0, 1) := by decide +kernel
theorem dX1_flushRegister_80 : decode cX1_flushRegister 80 = .ok (.getfield 107, 3) := by decide +kernel
theorem dX1_flushRegister_83 : decode cX1_flushRegister 83 = .ok (.iload_n 3, 1) := by decide +kernel
theorem dX1_flushRegister_84 : decode cX1_flushRegister 84 = .ok (.iaload, 1) := by decide +kernel
theorem dX1_flushRegister_85 : decode cX1_flushRegister 85 = .ok (.aload_n 0, 1) := by decide +kernel
theorem dX1_flushRegister_86 : decode cX1_flushRegister 86 = .ok (.getfield 131, 3) := by decide +kernel
theorem dX1_flushRegister_89 : decode cX1_flushRegister 89 = .ok (.iload 4, 2) := by decide +kernel
theorem dX1_flushRegister_91 : decode cX1_flushRegister 91 = .ok (.iaload, 1) := by decide +kernel
theorem dX1_flushRegister_92 : decode cX1_flushRegister 92 = .ok (.if_icmp .eq 7, 3) := by decide +kernel
theorem dX1_flushRegister_95 : decode cX1_flushRegister 95 = .ok (.iconst 1, 1) := by decide +kernel
theorem dX1_flushRegister_96 : decode cX1_flushRegister 96 = .ok (.goto 4, 3) := by decide +kernel
theorem dX1_flushRegister_99 : decode cX1_flushRegister 99 = .ok (.iconst 0, 1) := by decide +kernel
theorem dX1_flushRegister_100 : decode cX1_flushRegister 100 = .ok (.istore_n 2, 1) := by decide +kernel
theorem dX1_flushRegister_101 : decode cX1_flushRegister 101 = .ok (.iinc 3 1, 3) := by decide +kernel
theorem dX1_flushRegister_104 : decode cX1_flushRegister 104 = .ok (.goto (-100), 3) := by decide +kernel
theorem dX1_flushRegister_107 : decode cX1_flushRegister 107 = .ok (.iload_n 2, 1) := by decide +kernel
theorem dX1_flushRegister_108 : decode cX1_flushRegister 108 = .ok (.ifCond .ne 4, 3) := by decide +kernel
theorem dX1_flushRegister_111 : decode cX1_flushRegister 111 = .ok (.return_, 1) := by decide +kernel
theorem dX1_flushRegister_112 : decode cX1_flushRegister 112 = .ok (.aload_n 0, 1) := by decide +kernel
theorem dX1_flushRegister_113 : decode cX1_flushRegister 113 = .ok (.iload_n 1, 1) := by decide +kernel
theorem dX1_flushRegister_114 : decode cX1_flushRegister 114 = .ok (.invokevirtual 353, 3) := by decide +kernel
theorem dX1_flushRegister_117 : decode cX1_flushRegister 117 = .ok (.aload_n 0, 1) := by decide +kernel
theorem dX1_flushRegister_118 : decode cX1_flushRegister 118 = .ok (.iload_n 1, 1) := by decide +kernel
theorem dX1_flushRegister_119 : decode cX1_flushRegister 119 = .ok (.invokevirtual 343, 3) := by decide +kernel
theorem dX1_flushRegister_122 : decode cX1_flushRegister 122 = .ok (.istore_n 3, 1) := by decide +kernel
theorem dX1_flushRegister_123 : decode cX1_flushRegister 123 = .ok (.iconst 0, 1) := by decide +kernel
theorem dX1_flushRegister_124 : decode cX1_flushRegister 124 = .ok (.istore 4, 2) := by decide +kernel
theorem dX1_flushRegister_126 : decode cX1_flushRegister 126 = .ok (.iload 4, 2) := by decide +kernel
theorem dX1_flushRegister_128 : decode cX1_flushRegister 128 = .ok (.aload_n 0, 1) := by decide +kernel
theorem dX1_flushRegister_129 : decode cX1_flushRegister 129 = .ok (.getfield 288, 3) := by decide +kernel
theorem dX1_flushRegister_132 : decode cX1_flushRegister 132 = .ok (.if_icmp .ge 74, 3) := by decide +kernel
theorem dX1_flushRegister_135 : decode cX1_flushRegister 135 = .ok (.aload_n 0, 1) := by decide +kernel
theorem dX1_flushRegister_136 : decode cX1_flushRegister 136 = .ok (.getfield 128, 3) := by decide +kernel
theorem dX1_flushRegister_139 : decode cX1_flushRegister 139 = .ok (.iload 4, 2) := by decide +kernel
theorem dX1_flushRegister_141 : decode cX1_flushRegister 141 = .ok (.iaload, 1) := by decide +kernel
theorem dX1_flushRegister_142 : decode cX1_flushRegister 142 = .ok (.istore 5, 2) := by decide +kernel
theorem dX1_flushRegister_144 : decode cX1_flushRegister 144 = .ok (.aload_n 0, 1) := by decide +kernel
theorem dX1_flushRegister_145 : decode cX1_flushRegister 145 = .ok (.getfield 83, 3) := by decide +kernel
theorem dX1_flushRegister_148 : decode cX1_flushRegister 148 = .ok (.iload 5, 2) := by decide +kernel
theorem dX1_flushRegister_150 : decode cX1_flushRegister 150 = .ok (.iaload, 1) := by decide +kernel
theorem dX1_flushRegister_151 : decode cX1_flushRegister 151 = .ok (.iload_n 1, 1) := by decide +kernel
theorem dX1_flushRegister_152 : decode cX1_flushRegister 152 = .ok (.if_icmp .eq 6, 3) := by decide +kernel
theorem dX1_flushRegister_155 : decode cX1_flushRegister 155 = .ok (.goto 45, 3) := by decide +kernel
theorem dX1_flushRegister_158 : decode cX1_flushRegister 158 = .ok (.aload_n 0, 1) := by decide +kernel
theorem dX1_flushRegister_159 : decode cX1_flushRegister 159 = .ok (.iload_n 3, 1) := by decide +kernel
theorem dX1_flushRegister_160 : decode cX1_flushRegister 160 = .ok (.iload 5, 2) := by decide +kernel
theorem dX1_flushRegister_162 : decode cX1_flushRegister 162 = .ok (.aload_n 0, 1) := by decide +kernel
theorem dX1_flushRegister_163 : decode cX1_flushRegister 163 = .ok (.iload 5, 2) := by decide +kernel
theorem dX1_flushRegister_165 : decode cX1_flushRegister 165 = .ok (.invokevirtual 297, 3) := by decide +kernel
theorem dX1_flushRegister_168 : decode cX1_flushRegister 168 = .ok (.ifCond .eq 13, 3) := by decide +kernel
theorem dX1_flushRegister_171 : decode cX1_flushRegister 171 = .ok (.aload_n 0, 1) := by decide +kernel
theorem dX1_flushRegister_172 : decode cX1_flushRegister 172 = .ok (.getfield 131, 3) := by decide +kernel
theorem dX1_flushRegister_175 : decode cX1_flushRegister 175 = .ok (.iload 4, 2) := by decide +kernel
theorem dX1_flushRegister_177 : decode cX1_flushRegister 177 = .ok (.iaload, 1) := by decide +kernel
theorem dX1_flushRegister_178 : decode cX1_flushRegister 178 = .ok (.goto 18, 3) := by decide +kernel
theorem dX1_flushRegister_181 : decode cX1_flushRegister 181 = .ok (.aload_n 0, 1) := by decide +kernel
theorem dX1_flushRegister_182 : decode cX1_flushRegister 182 = .ok (.iload 5, 2) := by decide +kernel
theorem dX1_flushRegister_184 : decode cX1_flushRegister 184 = .ok (.iload_n 3, 1) := by decide +kernel
theorem dX1_flushRegister_185 : decode cX1_flushRegister 185 = .ok (.invokevirtual 294, 3) := by decide +kernel
theorem dX1_flushRegister_188 : decode cX1_flushRegister 188 = .ok (.aload_n 0, 1) := by decide +kernel
theorem dX1_flushRegister_189 : decode cX1_flushRegister 189 = .ok (.getfield 131, 3) := by decide +kernel
theorem dX1_flushRegister_192 : decode cX1_flushRegister 192 = .ok (.iload 4, 2) := by decide +kernel
theorem dX1_flushRegister_194 : decode cX1_flushRegister 194 = .ok (.iaload, 1) := by decide +kernel
theorem dX1_flushRegister_195 : decode cX1_flushRegister 195 = .ok (.ior, 1) := by decide +kernel
theorem dX1_flushRegister_196 : decode cX1_flushRegister 196 = .ok (.invokevirtual 346, 3) := by decide +kernel
theorem dX1_flushRegister_199 : decode cX1_flushRegister 199 = .ok (.istore_n 3, 1) := by decide +kernel
theorem dX1_flushRegister_200 : decode cX1_flushRegister 200 = .ok (.iinc 4 1, 3) := by decide +kernel
theorem dX1_flushRegister_203 : decode cX1_flushRegister 203 = .ok (.goto (-77), 3) := by decide +kernel
theorem dX1_flushRegister_206 : decode cX1_flushRegister 206 = .ok (.aload_n 0, 1) := by decide +kernel
theorem dX1_flushRegister_207 : decode cX1_flushRegister 207 = .ok (.iload_n 1, 1) := by decide +kernel
theorem dX1_flushRegister_208 : decode cX1_flushRegister 208 = .ok (.iload_n 3, 1) := by decide +kernel
theorem dX1_flushRegister_209 : decode cX1_flushRegister 209 = .ok (.invokevirtual 350, 3) := by decide +kernel
theorem dX1_flushRegister_212 : decode cX1_flushRegister 212 = .ok (.return_, 1) := by decide +kernel
theorem dX1_found_0 : decode cX1_found 0 = .ok (.aload_n 0, 1) := by decide +kernel
theorem dX1_found_1 : decode cX1_found 1 = .ok (.iconst 0, 1) := by decide +kernel
theorem dX1_found_2 : decode cX1_found 2 = .ok (.putfield 161, 3) := by decide +kernel
theorem dX1_found_5 : decode cX1_found 5 = .ok (.iload_n 1, 1) := by decide +kernel
theorem dX1_found_6 : decode cX1_found 6 = .ok (.ifCond .ne 10, 3) := by decide +kernel
theorem dX1_found_9 : decode cX1_found 9 = .ok (.aload_n 0, 1) := by decide +kernel
theorem dX1_found_10 : decode cX1_found 10 = .ok (.getfield 270, 3) := by decide +kernel
theorem dX1_found_13 : decode cX1_found 13 = .ok (.goto 16, 3) := by decide +kernel
theorem dX1_found_16 : decode cX1_found 16 = .ok (.iload_n 1, 1) := by decide +kernel
theorem dX1_found_17 : decode cX1_found 17 = .ok (.iconst 1, 1) := by decide +kernel
theorem dX1_found_18 : decode cX1_found 18 = .ok (.if_icmp .ne 10, 3) := by decide +kernel
theorem dX1_found_21 : decode cX1_found 21 = .ok (.aload_n 0, 1) := by decide +kernel
theorem dX1_found_22 : decode cX1_found 22 = .ok (.getfield 273, 3) := by decide +kernel
theorem dX1_found_25 : decode cX1_found 25 = .ok (.goto 4, 3) := by decide +kernel
theorem dX1_found_28 : decode cX1_found 28 = .ok (.iconst (-1), 1) := by decide +kernel
theorem dX1_found_29 : decode cX1_found 29 = .ok (.ireturn, 1) := by decide +kernel
theorem dX1_goOn_0 : decode cX1_goOn 0 = .ok (.aload_n 0, 1) := by decide +kernel
theorem dX1_goOn_1 : decode cX1_goOn 1 = .ok (.getfield 143, 3) := by decide +kernel
theorem dX1_goOn_4 : decode cX1_goOn 4 = .ok (.iload_n 1, 1) := by decide +kernel
theorem dX1_goOn_5 : decode cX1_goOn 5 = .ok (.iaload, 1) := by decide +kernel
theorem dX1_goOn_6 : decode cX1_goOn 6 = .ok (.istore_n 2, 1) := by decide +kernel
theorem dX1_goOn_7 : decode cX1_goOn 7 = .ok (.iload_n 2, 1) := by decide +kernel
theorem dX1_goOn_8 : decode cX1_goOn 8 = .ok (.bipush 40, 2) := by decide +kernel
theorem dX1_goOn_10 : decode cX1_goOn 10 = .ok (.if_icmp .eq 13, 3) := by decide +kernel
theorem dX1_goOn_13 : decode cX1_goOn 13 = .ok (.aload_n 0, 1) := by decide +kernel
theorem dX1_goOn_14 : decode cX1_goOn 14 = .ok (.getfield 134, 3) := by decide +kernel
theorem dX1_goOn_17 : decode cX1_goOn 17 = .ok (.iload_n 2, 1) := by decide +kernel
theorem dX1_goOn_18 : decode cX1_goOn 18 = .ok (.iaload, 1) := by decide +kernel
theorem dX1_goOn_19 : decode cX1_goOn 19 = .ok (.iconst 3, 1) := by decide +kernel
theorem dX1_goOn_20 : decode cX1_goOn 20 = .ok (.if_icmp .ne 21, 3) := by decide +kernel
theorem dX1_goOn_23 : decode cX1_goOn 23 = .ok (.aload_n 0, 1) := by decide +kernel
theorem dX1_goOn_24 : decode cX1_goOn 24 = .ok (.iload_n 1, 1) := by decide +kernel
theorem dX1_goOn_25 : decode cX1_goOn 25 = .ok (.invokevirtual 399, 3) := by decide +kernel
theorem dX1_goOn_28 : decode cX1_goOn 28 = .ok (.iload_n 2, 1) := by decide +kernel
theorem dX1_goOn_29 : decode cX1_goOn 29 = .ok (.bipush 40, 2) := by decide +kernel
theorem dX1_goOn_31 : decode cX1_goOn 31 = .ok (.if_icmp .eq 9, 3) := by decide +kernel
theorem dX1_goOn_34 : decode cX1_goOn 34 = .ok (.aload_n 0, 1) := by decide +kernel
theorem dX1_goOn_35 : decode cX1_goOn 35 = .ok (.bipush 40, 2) := by decide +kernel
theorem dX1_goOn_37 : decode cX1_goOn 37 = .ok (.invokevirtual 402, 3) := by decide +kernel
theorem dX1_goOn_40 : decode cX1_goOn 40 = .ok (.return_, 1) := by decide +kernel
theorem dX1_goOn_41 : decode cX1_goOn 41 = .ok (.aload_n 0, 1) := by decide +kernel
theorem dX1_goOn_42 : decode cX1_goOn 42 = .ok (.iload_n 1, 1) := by decide +kernel
theorem dX1_goOn_43 : decode cX1_goOn 43 = .ok (.invokevirtual 399, 3) := by decide +kernel
theorem dX1_goOn_46 : decode cX1_goOn 46 = .ok (.aload_n 0, 1) := by decide +kernel
theorem dX1_goOn_47 : decode cX1_goOn 47 = .ok (.getfield 134, 3) := by decide +kernel
theorem dX1_goOn_50 : decode cX1_goOn 50 = .ok (.iload_n 2, 1) := by decide +kernel
theorem dX1_goOn_51 : decode cX1_goOn 51 = .ok (.iaload, 1) := by decide +kernel
theorem dX1_goOn_52 : decode cX1_goOn 52 = .ok (.iconst 2, 1) := by decide +kernel
theorem dX1_goOn_53 : decode cX1_goOn 53 = .ok (.if_icmp .ne 21, 3) := by decide +kernel
theorem dX1_goOn_56 : decode cX1_goOn 56 = .ok (.aload_n 0, 1) := by decide +kernel
theorem dX1_goOn_57 : decode cX1_goOn 57 = .ok (.aload_n 0, 1) := by decide +kernel
theorem dX1_goOn_58 : decode cX1_goOn 58 = .ok (.getfield 140, 3) := by decide +kernel
theorem dX1_goOn_61 : decode cX1_goOn 61 = .ok (.iload_n 2, 1) := by decide +kernel
theorem dX1_goOn_62 : decode cX1_goOn 62 = .ok (.iaload, 1) := by decide +kernel
theorem dX1_goOn_63 : decode cX1_goOn 63 = .ok (.invokevirtual 402, 3) := by decide +kernel
theorem dX1_goOn_66 : decode cX1_goOn 66 = .ok (.aload_n 0, 1) := by decide +kernel
theorem dX1_goOn_67 : decode cX1_goOn 67 = .ok (.iload_n 2, 1) := by decide +kernel
theorem dX1_goOn_68 : decode cX1_goOn 68 = .ok (.iconst 1, 1) := by decide +kernel
theorem dX1_goOn_69 : decode cX1_goOn 69 = .ok (.iadd, 1) := by decide +kernel
theorem dX1_goOn_70 : decode cX1_goOn 70 = .ok (.invokevirtual 402, 3) := by decide +kernel
theorem dX1_goOn_73 : decode cX1_goOn 73 = .ok (.return_, 1) := by decide +kernel
theorem dX1_goOn_74 : decode cX1_goOn 74 = .ok (.aload_n 0, 1) := by decide +kernel
theorem dX1_goOn_75 : decode cX1_goOn 75 = .ok (.iconst 0, 1) := by decide +kernel
theorem dX1_goOn_76 : decode cX1_goOn 76 = .ok (.putfield 337, 3) := by decide +kernel
theorem dX1_goOn_79 : decode cX1_goOn 79 = .ok (.aload_n 0, 1) := by decide +kernel
theorem dX1_goOn_80 : decode cX1_goOn 80 = .ok (.getfield 134, 3) := by decide +kernel
theorem dX1_goOn_83 : decode cX1_goOn 83 = .ok (.iload_n 2, 1) := by decide +kernel
theorem dX1_goOn_84 : decode cX1_goOn 84 = .ok (.iaload, 1) := by decide +kernel
theorem dX1_goOn_85 : decode cX1_goOn 85 = .ok (.ifCond .ne 22, 3) := by decide +kernel
theorem dX1_goOn_88 : decode cX1_goOn 88 = .ok (.aload_n 0, 1) := by decide +kernel
theorem dX1_goOn_89 : decode cX1_goOn 89 = .ok (.aload_n 0, 1) := by decide +kernel
theorem dX1_goOn_90 : decode cX1_goOn 90 = .ok (.getfield 137, 3) := by decide +kernel
theorem dX1_goOn_93 : decode cX1_goOn 93 = .ok (.iload_n 2, 1) := by decide +kernel
theorem dX1_goOn_94 : decode cX1_goOn 94 = .ok (.iaload, 1) := by decide +kernel
theorem dX1_goOn_95 : decode cX1_goOn 95 = .ok (.aload_n 0, 1) := by decide +kernel
theorem dX1_goOn_96 : decode cX1_goOn 96 = .ok (.getfield 140, 3) := by decide +kernel
theorem dX1_goOn_99 : decode cX1_goOn 99 = .ok (.iload_n 2, 1) := by decide +kernel
theorem dX1_goOn_100 : decode cX1_goOn 100 = .ok (.iaload, 1) := by decide +kernel
theorem dX1_goOn_101 : decode cX1_goOn 101 = .ok (.invokevirtual 372, 3) := by decide +kernel
theorem dX1_goOn_104 : decode cX1_goOn 104 = .ok (.goto 13, 3) := by decide +kernel
theorem dX1_goOn_107 : decode cX1_goOn 107 = .ok (.aload_n 0, 1) := by decide +kernel
theorem dX1_goOn_108 : decode cX1_goOn 108 = .ok (.aload_n 0, 1) := by decide +kernel
theorem dX1_goOn_109 : decode cX1_goOn 109 = .ok (.getfield 137, 3) := by decide +kernel
theorem dX1_goOn_112 : decode cX1_goOn 112 = .ok (.iload_n 2, 1) := by decide +kernel
theorem dX1_goOn_113 : decode cX1_goOn 113 = .ok (.iaload, 1) := by decide +kernel
theorem dX1_goOn_114 : decode cX1_goOn 114 = .ok (.invokevirtual 381, 3) := by decide +kernel
theorem dX1_goOn_117 : decode cX1_goOn 117 = .ok (.aload_n 0, 1) := by decide +kernel
theorem dX1_goOn_118 : decode cX1_goOn 118 = .ok (.getfield 337, 3) := by decide +kernel
theorem dX1_goOn_121 : decode cX1_goOn 121 = .ok (.ifCond .ne 13, 3) := by decide +kernel
theorem dX1_goOn_124 : decode cX1_goOn 124 = .ok (.aload_n 0, 1) := by decide +kernel
theorem dX1_goOn_125 : decode cX1_goOn 125 = .ok (.iload_n 2, 1) := by decide +kernel
theorem dX1_goOn_126 : decode cX1_goOn 126 = .ok (.iconst 1, 1) := by decide +kernel
theorem dX1_goOn_127 : decode cX1_goOn 127 = .ok (.iadd, 1) := by decide +kernel
