theorem dX12_write_33 : decode cX12_write 33 = .ok (.invokevirtual 300, 3) := by decide +kernel
theorem dX12_write_36 : decode cX12_write 36 = .ok (.istore 5, 2) := by decide +kernel
theorem dX12_write_38 : decode cX12_write 38 = .ok (.aload_n 0, 1) := by decide +kernel
theorem dX12_write_39 : decode cX12_write 39 = .ok (.getfield 95, 3) := by decide +kernel
theorem dX12_write_42 : decode cX12_write 42 = .ok (.iload_n 3, 1) := by decide +kernel
theorem dX12_write_43 : decode cX12_write 43 = .ok (.iaload, 1) := by decide +kernel
theorem dX12_write_44 : decode cX12_write 44 = .ok (.bipush 60, 2) := by decide +kernel
theorem dX12_write_46 : decode cX12_write 46 = .ok (.if_icmp .ne 28, 3) := by decide +kernel
theorem dX12_write_49 : decode cX12_write 49 = .ok (.aload_n 0, 1) := by decide +kernel
theorem dX12_write_50 : decode cX12_write 50 = .ok (.getfield 116, 3) := by decide +kernel
theorem dX12_write_53 : decode cX12_write 53 = .ok (.iload_n 3, 1) := by decide +kernel
theorem dX12_write_54 : decode cX12_write 54 = .ok (.aload_n 0, 1) := by decide +kernel
theorem dX12_write_55 : decode cX12_write 55 = .ok (.getfield 116, 3) := by decide +kernel
theorem dX12_write_58 : decode cX12_write 58 = .ok (.iload_n 3, 1) := by decide +kernel
theorem dX12_write_59 : decode cX12_write 59 = .ok (.baload, 1) := by decide +kernel
theorem dX12_write_60 : decode cX12_write 60 = .ok (.ifCond .ne 8, 3) := by decide +kernel
theorem dX12_write_63 : decode cX12_write 63 = .ok (.iload 4, 2) := by decide +kernel
theorem dX12_write_65 : decode cX12_write 65 = .ok (.ifCond .eq 7, 3) := by decide +kernel
theorem dX12_write_68 : decode cX12_write 68 = .ok (.iconst 1, 1) := by decide +kernel
theorem dX12_write_69 : decode cX12_write 69 = .ok (.goto 4, 3) := by decide +kernel
theorem dX12_write_72 : decode cX12_write 72 = .ok (.iconst 0, 1) := by decide +kernel
theorem dX12_write_73 : decode cX12_write 73 = .ok (.bastore, 1) := by decide +kernel
theorem dX12_write_74 : decode cX12_write 74 = .ok (.aload_n 0, 1) := by decide +kernel
theorem dX12_write_75 : decode cX12_write 75 = .ok (.getfield 95, 3) := by decide +kernel
theorem dX12_write_78 : decode cX12_write 78 = .ok (.iload_n 3, 1) := by decide +kernel
theorem dX12_write_79 : decode cX12_write 79 = .ok (.iaload, 1) := by decide +kernel
theorem dX12_write_80 : decode cX12_write 80 = .ok (.bipush 33, 2) := by decide +kernel
theorem dX12_write_82 : decode cX12_write 82 = .ok (.if_icmp .ne 46, 3) := by decide +kernel
theorem dX12_write_85 : decode cX12_write 85 = .ok (.aload_n 0, 1) := by decide +kernel
theorem dX12_write_86 : decode cX12_write 86 = .ok (.getfield 116, 3) := by decide +kernel
theorem dX12_write_89 : decode cX12_write 89 = .ok (.iload_n 3, 1) := by decide +kernel
theorem dX12_write_90 : decode cX12_write 90 = .ok (.iload 4, 2) := by decide +kernel
theorem dX12_write_92 : decode cX12_write 92 = .ok (.ifCond .eq 16, 3) := by decide +kernel
theorem dX12_write_95 : decode cX12_write 95 = .ok (.iload 5, 2) := by decide +kernel
theorem dX12_write_97 : decode cX12_write 97 = .ok (.ifCond .ne 7, 3) := by decide +kernel
theorem dX12_write_100 : decode cX12_write 100 = .ok (.iconst 1, 1) := by decide +kernel
theorem dX12_write_101 : decode cX12_write 101 = .ok (.goto 26, 3) := by decide +kernel
theorem dX12_write_104 : decode cX12_write 104 = .ok (.iconst 0, 1) := by decide +kernel
theorem dX12_write_105 : decode cX12_write 105 = .ok (.goto 22, 3) := by decide +kernel
theorem dX12_write_108 : decode cX12_write 108 = .ok (.aload_n 0, 1) := by decide +kernel
theorem dX12_write_109 : decode cX12_write 109 = .ok (.getfield 116, 3) := by decide +kernel
theorem dX12_write_112 : decode cX12_write 112 = .ok (.iload_n 3, 1) := by decide +kernel
theorem dX12_write_113 : decode cX12_write 113 = .ok (.baload, 1) := by decide +kernel
theorem dX12_write_114 : decode cX12_write 114 = .ok (.ifCond .eq 12, 3) := by decide +kernel
theorem dX12_write_117 : decode cX12_write 117 = .ok (.iload 5, 2) := by decide +kernel
theorem dX12_write_119 : decode cX12_write 119 = .ok (.ifCond .ne 7, 3) := by decide +kernel
theorem dX12_write_122 : decode cX12_write 122 = .ok (.iconst 1, 1) := by decide +kernel
theorem dX12_write_123 : decode cX12_write 123 = .ok (.goto 4, 3) := by decide +kernel
theorem dX12_write_126 : decode cX12_write 126 = .ok (.iconst 0, 1) := by decide +kernel
theorem dX12_write_127 : decode cX12_write 127 = .ok (.bastore, 1) := by decide +kernel
theorem dX12_write_128 : decode cX12_write 128 = .ok (.iinc 3 1, 3) := by decide +kernel
theorem dX12_write_131 : decode cX12_write 131 = .ok (.goto (-129), 3) := by decide +kernel
theorem dX12_write_134 : decode cX12_write 134 = .ok (.iconst 0, 1) := by decide +kernel
theorem dX12_write_135 : decode cX12_write 135 = .ok (.istore_n 3, 1) := by decide +kernel
theorem dX12_write_136 : decode cX12_write 136 = .ok (.iload_n 3, 1) := by decide +kernel
theorem dX12_write_137 : decode cX12_write 137 = .ok (.bipush 26, 2) := by decide +kernel
theorem dX12_write_139 : decode cX12_write 139 = .ok (.if_icmp .ge 122, 3) := by decide +kernel
theorem dX12_write_142 : decode cX12_write 142 = .ok (.aload_n 0, 1) := by decide +kernel
theorem dX12_write_143 : decode cX12_write 143 = .ok (.iload_n 3, 1) := by decide +kernel
theorem dX12_write_144 : decode cX12_write 144 = .ok (.iload_n 1, 1) := by decide +kernel
theorem dX12_write_145 : decode cX12_write 145 = .ok (.invokevirtual 291, 3) := by decide +kernel
theorem dX12_write_148 : decode cX12_write 148 = .ok (.ifCond .ne 6, 3) := by decide +kernel
theorem dX12_write_151 : decode cX12_write 151 = .ok (.goto 104, 3) := by decide +kernel
theorem dX12_write_154 : decode cX12_write 154 = .ok (.aload_n 0, 1) := by decide +kernel
theorem dX12_write_155 : decode cX12_write 155 = .ok (.iload_n 3, 1) := by decide +kernel
theorem dX12_write_156 : decode cX12_write 156 = .ok (.iload_n 2, 1) := by decide +kernel
theorem dX12_write_157 : decode cX12_write 157 = .ok (.invokevirtual 294, 3) := by decide +kernel
theorem dX12_write_160 : decode cX12_write 160 = .ok (.istore 4, 2) := by decide +kernel
theorem dX12_write_162 : decode cX12_write 162 = .ok (.aload_n 0, 1) := by decide +kernel
theorem dX12_write_163 : decode cX12_write 163 = .ok (.iload_n 3, 1) := by decide +kernel
theorem dX12_write_164 : decode cX12_write 164 = .ok (.invokevirtual 297, 3) := by decide +kernel
theorem dX12_write_167 : decode cX12_write 167 = .ok (.ifCond .eq 11, 3) := by decide +kernel
theorem dX12_write_170 : decode cX12_write 170 = .ok (.aload_n 0, 1) := by decide +kernel
theorem dX12_write_171 : decode cX12_write 171 = .ok (.getfield 107, 3) := by decide +kernel
theorem dX12_write_174 : decode cX12_write 174 = .ok (.iload_n 3, 1) := by decide +kernel
theorem dX12_write_175 : decode cX12_write 175 = .ok (.iload 4, 2) := by decide +kernel
theorem dX12_write_177 : decode cX12_write 177 = .ok (.iastore, 1) := by decide +kernel
theorem dX12_write_178 : decode cX12_write 178 = .ok (.aload_n 0, 1) := by decide +kernel
theorem dX12_write_179 : decode cX12_write 179 = .ok (.getfield 80, 3) := by decide +kernel
theorem dX12_write_182 : decode cX12_write 182 = .ok (.iload_n 3, 1) := by decide +kernel
theorem dX12_write_183 : decode cX12_write 183 = .ok (.iaload, 1) := by decide +kernel
theorem dX12_write_184 : decode cX12_write 184 = .ok (.bipush 116, 2) := by decide +kernel
theorem dX12_write_186 : decode cX12_write 186 = .ok (.if_icmp .ne 16, 3) := by decide +kernel
theorem dX12_write_189 : decode cX12_write 189 = .ok (.aload_n 0, 1) := by decide +kernel
theorem dX12_write_190 : decode cX12_write 190 = .ok (.getfield 107, 3) := by decide +kernel
theorem dX12_write_193 : decode cX12_write 193 = .ok (.iload_n 3, 1) := by decide +kernel
theorem dX12_write_194 : decode cX12_write 194 = .ok (.dup2, 1) := by decide +kernel
theorem dX12_write_195 : decode cX12_write 195 = .ok (.iaload, 1) := by decide +kernel
theorem dX12_write_196 : decode cX12_write 196 = .ok (.iload 4, 2) := by decide +kernel
theorem dX12_write_198 : decode cX12_write 198 = .ok (.iconst (-1), 1) := by decide +kernel
theorem dX12_write_199 : decode cX12_write 199 = .ok (.ixor, 1) := by decide +kernel
theorem dX12_write_200 : decode cX12_write 200 = .ok (.iand, 1) := by decide +kernel
theorem dX12_write_201 : decode cX12_write 201 = .ok (.iastore, 1) := by decide +kernel
theorem dX12_write_202 : decode cX12_write 202 = .ok (.aload_n 0, 1) := by decide +kernel
theorem dX12_write_203 : decode cX12_write 203 = .ok (.getfield 80, 3) := by decide +kernel
theorem dX12_write_206 : decode cX12_write 206 = .ok (.iload_n 3, 1) := by decide +kernel
theorem dX12_write_207 : decode cX12_write 207 = .ok (.iaload, 1) := by decide +kernel
theorem dX12_write_208 : decode cX12_write 208 = .ok (.bipush 115, 2) := by decide +kernel
theorem dX12_write_210 : decode cX12_write 210 = .ok (.if_icmp .ne 14, 3) := by decide +kernel
theorem dX12_write_213 : decode cX12_write 213 = .ok (.aload_n 0, 1) := by decide +kernel
theorem dX12_write_214 : decode cX12_write 214 = .ok (.getfield 107, 3) := by decide +kernel
theorem dX12_write_217 : decode cX12_write 217 = .ok (.iload_n 3, 1) := by decide +kernel
theorem dX12_write_218 : decode cX12_write 218 = .ok (.dup2, 1) := by decide +kernel
theorem dX12_write_219 : decode cX12_write 219 = .ok (.iaload, 1) := by decide +kernel
theorem dX12_write_220 : decode cX12_write 220 = .ok (.iload 4, 2) := by decide +kernel
theorem dX12_write_222 : decode cX12_write 222 = .ok (.ior, 1) := by decide +kernel
theorem dX12_write_223 : decode cX12_write 223 = .ok (.iastore, 1) := by decide +kernel
theorem dX12_write_224 : decode cX12_write 224 = .ok (.aload_n 0, 1) := by decide +kernel
theorem dX12_write_225 : decode cX12_write 225 = .ok (.getfield 80, 3) := by decide +kernel
theorem dX12_write_228 : decode cX12_write 228 = .ok (.iload_n 3, 1) := by decide +kernel
theorem dX12_write_229 : decode cX12_write 229 = .ok (.iaload, 1) := by decide +kernel
theorem dX12_write_230 : decode cX12_write 230 = .ok (.bipush 112, 2) := by decide +kernel
theorem dX12_write_232 : decode cX12_write 232 = .ok (.if_icmp .ne 23, 3) := by decide +kernel
theorem dX12_write_235 : decode cX12_write 235 = .ok (.iload 4, 2) := by decide +kernel
theorem dX12_write_237 : decode cX12_write 237 = .ok (.ifCond .eq 18, 3) := by decide +kernel
theorem dX12_write_240 : decode cX12_write 240 = .ok (.aload_n 0, 1) := by decide +kernel
theorem dX12_write_241 : decode cX12_write 241 = .ok (.getfield 107, 3) := by decide +kernel
theorem dX12_write_244 : decode cX12_write 244 = .ok (.iload_n 3, 1) := by decide +kernel
theorem dX12_write_245 : decode cX12_write 245 = .ok (.iload 4, 2) := by decide +kernel
theorem dX12_write_247 : decode cX12_write 247 = .ok (.iastore, 1) := by decide +kernel
theorem dX12_write_248 : decode cX12_write 248 = .ok (.aload_n 0, 1) := by decide +kernel
theorem dX12_write_249 : decode cX12_write 249 = .ok (.getfield 110, 3) := by decide +kernel
theorem dX12_write_252 : decode cX12_write 252 = .ok (.iload_n 3, 1) := by decide +kernel
theorem dX12_write_253 : decode cX12_write 253 = .ok (.iconst 2, 1) := by decide +kernel
theorem dX12_write_254 : decode cX12_write 254 = .ok (.iastore, 1) := by decide +kernel
theorem dX12_write_255 : decode cX12_write 255 = .ok (.iinc 3 1, 3) := by decide +kernel
theorem dX12_write_258 : decode cX12_write 258 = .ok (.goto (-122), 3) := by decide +kernel
theorem dX12_write_261 : decode cX12_write 261 = .ok (.aload_n 0, 1) := by decide +kernel
theorem dX12_write_262 : decode cX12_write 262 = .ok (.iconst 1, 1) := by decide +kernel
theorem dX12_write_263 : decode cX12_write 263 = .ok (.iload_n 1, 1) := by decide +kernel
theorem dX12_write_264 : decode cX12_write 264 = .ok (.iload_n 2, 1) := by decide +kernel
theorem dX12_write_265 : decode cX12_write 265 = .ok (.invokevirtual 310, 3) := by decide +kernel
theorem dX12_write_268 : decode cX12_write 268 = .ok (.return_, 1) := by decide +kernel
theorem dX12_wrong_0 : decode cX12_wrong 0 = .ok (.aload_n 0, 1) := by decide +kernel
theorem dX12_wrong_1 : decode cX12_wrong 1 = .ok (.iload_n 1, 1) := by decide +kernel
theorem dX12_wrong_2 : decode cX12_wrong 2 = .ok (.putfield 173, 3) := by decide +kernel
theorem dX12_wrong_5 : decode cX12_wrong 5 = .ok (.aload_n 0, 1) := by decide +kernel
theorem dX12_wrong_6 : decode cX12_wrong 6 = .ok (.iload_n 2, 1) := by decide +kernel
theorem dX12_wrong_7 : decode cX12_wrong 7 = .ok (.putfield 176, 3) := by decide +kernel
theorem dX12_wrong_10 : decode cX12_wrong 10 = .ok (.iconst 0, 1) := by decide +kernel
theorem dX12_wrong_11 : decode cX12_wrong 11 = .ok (.ireturn, 1) := by decide +kernel
theorem dX1_countPulses_0 : decode cX1_countPulses 0 = .ok (.iconst 0, 1) := by decide +kernel
theorem dX1_countPulses_1 : decode cX1_countPulses 1 = .ok (.istore_n 2, 1) := by decide +kernel
theorem dX1_countPulses_2 : decode cX1_countPulses 2 = .ok (.iload_n 2, 1) := by decide +kernel
theorem dX1_countPulses_3 : decode cX1_countPulses 3 = .ok (.bipush 26, 2) := by decide +kernel
theorem dX1_countPulses_5 : decode cX1_countPulses 5 = .ok (.if_icmp .ge 56, 3) := by decide +kernel
theorem dX1_countPulses_8 : decode cX1_countPulses 8 = .ok (.aload_n 0, 1) := by decide +kernel
theorem dX1_countPulses_9 : decode cX1_countPulses 9 = .ok (.getfield 28, 3) := by decide +kernel
theorem dX1_countPulses_12 : decode cX1_countPulses 12 = .ok (.getfield 75, 3) := by decide +kernel
theorem dX1_countPulses_15 : decode cX1_countPulses 15 = .ok (.iload_n 2, 1) := by decide +kernel
theorem dX1_countPulses_16 : decode cX1_countPulses 16 = .ok (.iaload, 1) := by decide +kernel
theorem dX1_countPulses_17 : decode cX1_countPulses 17 = .ok (.iload_n 1, 1) := by decide +kernel
theorem dX1_countPulses_18 : decode cX1_countPulses 18 = .ok (.if_icmp .ne 37, 3) := by decide +kernel
theorem dX1_countPulses_21 : decode cX1_countPulses 21 = .ok (.aload_n 0, 1) := by decide +kernel
theorem dX1_countPulses_22 : decode cX1_countPulses 22 = .ok (.getfield 25, 3) := by decide +kernel
theorem dX1_countPulses_25 : decode cX1_countPulses 25 = .ok (.iload_n 2, 1) := by decide +kernel
theorem dX1_countPulses_26 : decode cX1_countPulses 26 = .ok (.iaload, 1) := by decide +kernel
theorem dX1_countPulses_27 : decode cX1_countPulses 27 = .ok (.ifCond .le 28, 3) := by decide +kernel
theorem dX1_countPulses_30 : decode cX1_countPulses 30 = .ok (.aload_n 0, 1) := by decide +kernel
theorem dX1_countPulses_31 : decode cX1_countPulses 31 = .ok (.getfield 25, 3) := by decide +kernel
theorem dX1_countPulses_34 : decode cX1_countPulses 34 = .ok (.iload_n 2, 1) := by decide +kernel
theorem dX1_countPulses_35 : decode cX1_countPulses 35 = .ok (.dup2, 1) := by decide +kernel
theorem dX1_countPulses_36 : decode cX1_countPulses 36 = .ok (.iaload, 1) := by decide +kernel
theorem dX1_countPulses_37 : decode cX1_countPulses 37 = .ok (.iconst 1, 1) := by decide +kernel
theorem dX1_countPulses_38 : decode cX1_countPulses 38 = .ok (.isub, 1) := by decide +kernel
theorem dX1_countPulses_39 : decode cX1_countPulses 39 = .ok (.iastore, 1) := by decide +kernel
theorem dX1_countPulses_40 : decode cX1_countPulses 40 = .ok (.aload_n 0, 1) := by decide +kernel
theorem dX1_countPulses_41 : decode cX1_countPulses 41 = .ok (.getfield 25, 3) := by decide +kernel
theorem dX1_countPulses_44 : decode cX1_countPulses 44 = .ok (.iload_n 2, 1) := by decide +kernel
theorem dX1_countPulses_45 : decode cX1_countPulses 45 = .ok (.iaload, 1) := by decide +kernel
theorem dX1_countPulses_46 : decode cX1_countPulses 46 = .ok (.ifCond .ne 9, 3) := by decide +kernel
theorem dX1_countPulses_49 : decode cX1_countPulses 49 = .ok (.aload_n 0, 1) := by decide +kernel
theorem dX1_countPulses_50 : decode cX1_countPulses 50 = .ok (.iload_n 2, 1) := by decide +kernel
theorem dX1_countPulses_51 : decode cX1_countPulses 51 = .ok (.iconst 0, 1) := by decide +kernel
theorem dX1_countPulses_52 : decode cX1_countPulses 52 = .ok (.invokevirtual 107, 3) := by decide +kernel
theorem dX1_countPulses_55 : decode cX1_countPulses 55 = .ok (.iinc 2 1, 3) := by decide +kernel
theorem dX1_countPulses_58 : decode cX1_countPulses 58 = .ok (.goto (-56), 3) := by decide +kernel
theorem dX1_countPulses_61 : decode cX1_countPulses 61 = .ok (.return_, 1) := by decide +kernel
theorem dX1_read_0 : decode cX1_read 0 = .ok (.aload_n 0, 1) := by decide +kernel
theorem dX1_read_1 : decode cX1_read 1 = .ok (.getfield 37, 3) := by decide +kernel
theorem dX1_read_4 : decode cX1_read 4 = .ok (.getfield 78, 3) := by decide +kernel
theorem dX1_read_7 : decode cX1_read 7 = .ok (.iload_n 1, 1) := by decide +kernel
theorem dX1_read_8 : decode cX1_read 8 = .ok (.iaload, 1) := by decide +kernel
theorem dX1_read_9 : decode cX1_read 9 = .ok (.aload_n 0, 1) := by decide +kernel
theorem dX1_read_10 : decode cX1_read 10 = .ok (.getfield 28, 3) := by decide +kernel
theorem dX1_read_13 : decode cX1_read 13 = .ok (.getfield 97, 3) := by decide +kernel
theorem dX1_read_16 : decode cX1_read 16 = .ok (.iconst 2, 1) := by decide +kernel
theorem dX1_read_17 : decode cX1_read 17 = .ok (.aaload, 1) := by decide +kernel
theorem dX1_read_18 : decode cX1_read 18 = .ok (.iload_n 1, 1) := by decide +kernel
theorem dX1_read_19 : decode cX1_read 19 = .ok (.iaload, 1) := by decide +kernel
theorem dX1_read_20 : decode cX1_read 20 = .ok (.iconst (-1), 1) := by decide +kernel
theorem dX1_read_21 : decode cX1_read 21 = .ok (.ixor, 1) := by decide +kernel
theorem dX1_read_22 : decode cX1_read 22 = .ok (.iand, 1) := by decide +kernel
theorem dX1_read_23 : decode cX1_read 23 = .ok (.aload_n 0, 1) := by decide +kernel
theorem dX1_read_24 : decode cX1_read 24 = .ok (.getfield 18, 3) := by decide +kernel
theorem dX1_read_27 : decode cX1_read 27 = .ok (.iload_n 1, 1) := by decide +kernel
theorem dX1_read_28 : decode cX1_read 28 = .ok (.iaload, 1) := by decide +kernel
theorem dX1_read_29 : decode cX1_read 29 = .ok (.ior, 1) := by decide +kernel
theorem dX1_read_30 : decode cX1_read 30 = .ok (.istore_n 2, 1) := by decide +kernel
theorem dX1_read_31 : decode cX1_read 31 = .ok (.aload_n 0, 1) := by decide +kernel
theorem dX1_read_32 : decode cX1_read 32 = .ok (.getfield 12, 3) := by decide +kernel
theorem dX1_read_35 : decode cX1_read 35 = .ok (.iconst 0, 1) := by decide +kernel
theorem dX1_read_36 : decode cX1_read 36 = .ok (.aload_n 0, 1) := by decide +kernel
theorem dX1_read_37 : decode cX1_read 37 = .ok (.getfield 28, 3) := by decide +kernel
theorem dX1_read_40 : decode cX1_read 40 = .ok (.getfield 68, 3) := by decide +kernel
theorem dX1_read_43 : decode cX1_read 43 = .ok (.iload_n 1, 1) := by decide +kernel
theorem dX1_read_44 : decode cX1_read 44 = .ok (.iaload, 1) := by decide +kernel
theorem dX1_read_45 : decode cX1_read 45 = .ok (.iload_n 2, 1) := by decide +kernel
theorem dX1_read_46 : decode cX1_read 46 = .ok (.invokevirtual 89, 3) := by decide +kernel
theorem dX1_read_49 : decode cX1_read 49 = .ok (.aload_n 0, 1) := by decide +kernel
theorem dX1_read_50 : decode cX1_read 50 = .ok (.getfield 22, 3) := by decide +kernel
theorem dX1_read_53 : decode cX1_read 53 = .ok (.iload_n 1, 1) := by decide +kernel
theorem dX1_read_54 : decode cX1_read 54 = .ok (.dup2, 1) := by decide +kernel
theorem dX1_read_55 : decode cX1_read 55 = .ok (.iaload, 1) := by decide +kernel
theorem dX1_read_56 : decode cX1_read 56 = .ok (.aload_n 0, 1) := by decide +kernel
theorem dX1_read_57 : decode cX1_read 57 = .ok (.getfield 18, 3) := by decide +kernel
theorem dX1_read_60 : decode cX1_read 60 = .ok (.iload_n 1, 1) := by decide +kernel
theorem dX1_read_61 : decode cX1_read 61 = .ok (.iaload, 1) := by decide +kernel
theorem dX1_read_62 : decode cX1_read 62 = .ok (.aload_n 0, 1) := by decide +kernel
theorem dX1_read_63 : decode cX1_read 63 = .ok (.getfield 28, 3) := by decide +kernel
theorem dX1_read_66 : decode cX1_read 66 = .ok (.getfield 97, 3) := by decide +kernel
theorem dX1_read_69 : decode cX1_read 69 = .ok (.iconst 3, 1) := by decide +kernel
theorem dX1_read_70 : decode cX1_read 70 = .ok (.aaload, 1) := by decide +kernel
theorem dX1_read_71 : decode cX1_read 71 = .ok (.iload_n 1, 1) := by decide +kernel
theorem dX1_read_72 : decode cX1_read 72 = .ok (.iaload, 1) := by decide +kernel
theorem dX1_read_73 : decode cX1_read 73 = .ok (.iand, 1) := by decide +kernel
theorem dX1_read_74 : decode cX1_read 74 = .ok (.ior, 1) := by decide +kernel
theorem dX1_read_75 : decode cX1_read 75 = .ok (.iastore, 1) := by decide +kernel
theorem dX1_read_76 : decode cX1_read 76 = .ok (.aload_n 0, 1) := by decide +kernel
theorem dX1_read_77 : decode cX1_read 77 = .ok (.getfield 18, 3) := by decide +kernel
theorem dX1_read_80 : decode cX1_read 80 = .ok (.iload_n 1, 1) := by decide +kernel
theorem dX1_read_81 : decode cX1_read 81 = .ok (.dup2, 1) := by decide +kernel
theorem dX1_read_82 : decode cX1_read 82 = .ok (.iaload, 1) := by decide +kernel
theorem dX1_read_83 : decode cX1_read 83 = .ok (.aload_n 0, 1) := by decide +kernel
theorem dX1_read_84 : decode cX1_read 84 = .ok (.getfield 28, 3) := by decide +kernel
theorem dX1_read_87 : decode cX1_read 87 = .ok (.getfield 97, 3) := by decide +kernel
theorem dX1_read_90 : decode cX1_read 90 = .ok (.iconst 3, 1) := by decide +kernel
theorem dX1_read_91 : decode cX1_read 91 = .ok (.aaload, 1) := by decide +kernel
theorem dX1_read_92 : decode cX1_read 92 = .ok (.iload_n 1, 1) := by decide +kernel
theorem dX1_read_93 : decode cX1_read 93 = .ok (.iaload, 1) := by decide +kernel
theorem dX1_read_94 : decode cX1_read 94 = .ok (.iconst (-1), 1) := by decide +kernel
theorem dX1_read_95 : decode cX1_read 95 = .ok (.ixor, 1) := by decide +kernel
theorem dX1_read_96 : decode cX1_read 96 = .ok (.iand, 1) := by decide +kernel
theorem dX1_read_97 : decode cX1_read 97 = .ok (.iastore, 1) := by decide +kernel
theorem dX1_read_98 : decode cX1_read 98 = .ok (.aload_n 0, 1) := by decide +kernel
theorem dX1_read_99 : decode cX1_read 99 = .ok (.getfield 28, 3) := by decide +kernel
theorem dX1_read_102 : decode cX1_read 102 = .ok (.getfield 97, 3) := by decide +kernel
theorem dX1_read_105 : decode cX1_read 105 = .ok (.bipush 6, 2) := by decide +kernel
theorem dX1_read_107 : decode cX1_read 107 = .ok (.aaload, 1) := by decide +kernel
theorem dX1_read_108 : decode cX1_read 108 = .ok (.iload_n 1, 1) := by decide +kernel
theorem dX1_read_109 : decode cX1_read 109 = .ok (.iaload, 1) := by decide +kernel
theorem dX1_read_110 : decode cX1_read 110 = .ok (.ifCond .eq 8, 3) := by decide +kernel
theorem dX1_read_113 : decode cX1_read 113 = .ok (.aload_n 0, 1) := by decide +kernel
theorem dX1_read_114 : decode cX1_read 114 = .ok (.iload_n 1, 1) := by decide +kernel
theorem dX1_read_115 : decode cX1_read 115 = .ok (.invokevirtual 110, 3) := by decide +kernel
theorem dX1_read_118 : decode cX1_read 118 = .ok (.iload_n 2, 1) := by decide +kernel
theorem dX1_read_119 : decode cX1_read 119 = .ok (.ireturn, 1) := by decide +kernel
theorem dX1_registerAt_0 : decode cX1_registerAt 0 = .ok (.iconst 0, 1) := by decide +kernel
theorem dX1_registerAt_1 : decode cX1_registerAt 1 = .ok (.istore_n 2, 1) := by decide +kernel
theorem dX1_registerAt_2 : decode cX1_registerAt 2 = .ok (.iload_n 2, 1) := by decide +kernel
