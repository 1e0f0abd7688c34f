theorem dX1_write_148 : decode cX1_write 148 = .ok (.ifCond .ne 6, 3) := by decide +kernel
theorem dX1_write_151 : decode cX1_write 151 = .ok (.goto 104, 3) := by decide +kernel
theorem dX1_write_154 : decode cX1_write 154 = .ok (.aload_n 0, 1) := by decide +kernel
theorem dX1_write_155 : decode cX1_write 155 = .ok (.iload_n 3, 1) := by decide +kernel
theorem dX1_write_156 : decode cX1_write 156 = .ok (.iload_n 2, 1) := by decide +kernel
theorem dX1_write_157 : decode cX1_write 157 = .ok (.invokevirtual 294, 3) := by decide +kernel
theorem dX1_write_160 : decode cX1_write 160 = .ok (.istore 4, 2) := by decide +kernel
theorem dX1_write_162 : decode cX1_write 162 = .ok (.aload_n 0, 1) := by decide +kernel
theorem dX1_write_163 : decode cX1_write 163 = .ok (.iload_n 3, 1) := by decide +kernel
theorem dX1_write_164 : decode cX1_write 164 = .ok (.invokevirtual 297, 3) := by decide +kernel
theorem dX1_write_167 : decode cX1_write 167 = .ok (.ifCond .eq 11, 3) := by decide +kernel
theorem dX1_write_170 : decode cX1_write 170 = .ok (.aload_n 0, 1) := by decide +kernel
theorem dX1_write_171 : decode cX1_write 171 = .ok (.getfield 107, 3) := by decide +kernel
theorem dX1_write_174 : decode cX1_write 174 = .ok (.iload_n 3, 1) := by decide +kernel
theorem dX1_write_175 : decode cX1_write 175 = .ok (.iload 4, 2) := by decide +kernel
theorem dX1_write_177 : decode cX1_write 177 = .ok (.iastore, 1) := by decide +kernel
theorem dX1_write_178 : decode cX1_write 178 = .ok (.aload_n 0, 1) := by decide +kernel
theorem dX1_write_179 : decode cX1_write 179 = .ok (.getfield 80, 3) := by decide +kernel
theorem dX1_write_182 : decode cX1_write 182 = .ok (.iload_n 3, 1) := by decide +kernel
theorem dX1_write_183 : decode cX1_write 183 = .ok (.iaload, 1) := by decide +kernel
theorem dX1_write_184 : decode cX1_write 184 = .ok (.bipush 116, 2) := by decide +kernel
theorem dX1_write_186 : decode cX1_write 186 = .ok (.if_icmp .ne 16, 3) := by decide +kernel
theorem dX1_write_189 : decode cX1_write 189 = .ok (.aload_n 0, 1) := by decide +kernel
theorem dX1_write_190 : decode cX1_write 190 = .ok (.getfield 107, 3) := by decide +kernel
theorem dX1_write_193 : decode cX1_write 193 = .ok (.iload_n 3, 1) := by decide +kernel
theorem dX1_write_194 : decode cX1_write 194 = .ok (.dup2, 1) := by decide +kernel
theorem dX1_write_195 : decode cX1_write 195 = .ok (.iaload, 1) := by decide +kernel
theorem dX1_write_196 : decode cX1_write 196 = .ok (.iload 4, 2) := by decide +kernel
theorem dX1_write_198 : decode cX1_write 198 = .ok (.iconst (-1), 1) := by decide +kernel
theorem dX1_write_199 : decode cX1_write 199 = .ok (.ixor, 1) := by decide +kernel
theorem dX1_write_200 : decode cX1_write 200 = .ok (.iand, 1) := by decide +kernel
theorem dX1_write_201 : decode cX1_write 201 = .ok (.iastore, 1) := by decide +kernel
theorem dX1_write_202 : decode cX1_write 202 = .ok (.aload_n 0, 1) := by decide +kernel
theorem dX1_write_203 : decode cX1_write 203 = .ok (.getfield 80, 3) := by decide +kernel
theorem dX1_write_206 : decode cX1_write 206 = .ok (.iload_n 3, 1) := by decide +kernel
theorem dX1_write_207 : decode cX1_write 207 = .ok (.iaload, 1) := by decide +kernel
theorem dX1_write_208 : decode cX1_write 208 = .ok (.bipush 115, 2) := by decide +kernel
theorem dX1_write_210 : decode cX1_write 210 = .ok (.if_icmp .ne 14, 3) := by decide +kernel
theorem dX1_write_213 : decode cX1_write 213 = .ok (.aload_n 0, 1) := by decide +kernel
theorem dX1_write_214 : decode cX1_write 214 = .ok (.getfield 107, 3) := by decide +kernel
theorem dX1_write_217 : decode cX1_write 217 = .ok (.iload_n 3, 1) := by decide +kernel
theorem dX1_write_218 : decode cX1_write 218 = .ok (.dup2, 1) := by decide +kernel
theorem dX1_write_219 : decode cX1_write 219 = .ok (.iaload, 1) := by decide +kernel
theorem dX1_write_220 : decode cX1_write 220 = .ok (.iload 4, 2) := by decide +kernel
theorem dX1_write_222 : decode cX1_write 222 = .ok (.ior, 1) := by decide +kernel
theorem dX1_write_223 : decode cX1_write 223 = .ok (.iastore, 1) := by decide +kernel
theorem dX1_write_224 : decode cX1_write 224 = .ok (.aload_n 0, 1) := by decide +kernel
theorem dX1_write_225 : decode cX1_write 225 = .ok (.getfield 80, 3) := by decide +kernel
theorem dX1_write_228 : decode cX1_write 228 = .ok (.iload_n 3, 1) := by decide +kernel
theorem dX1_write_229 : decode cX1_write 229 = .ok (.iaload, 1) := by decide +kernel
theorem dX1_write_230 : decode cX1_write 230 = .ok (.bipush 112, 2) := by decide +kernel
theorem dX1_write_232 : decode cX1_write 232 = .ok (.if_icmp .ne 23, 3) := by decide +kernel
theorem dX1_write_235 : decode cX1_write 235 = .ok (.iload 4, 2) := by decide +kernel
theorem dX1_write_237 : decode cX1_write 237 = .ok (.ifCond .eq 18, 3) := by decide +kernel
theorem dX1_write_240 : decode cX1_write 240 = .ok (.aload_n 0, 1) := by decide +kernel
theorem dX1_write_241 : decode cX1_write 241 = .ok (.getfield 107, 3) := by decide +kernel
theorem dX1_write_244 : decode cX1_write 244 = .ok (.iload_n 3, 1) := by decide +kernel
theorem dX1_write_245 : decode cX1_write 245 = .ok (.iload 4, 2) := by decide +kernel
theorem dX1_write_247 : decode cX1_write 247 = .ok (.iastore, 1) := by decide +kernel
theorem dX1_write_248 : decode cX1_write 248 = .ok (.aload_n 0, 1) := by decide +kernel
theorem dX1_write_249 : decode cX1_write 249 = .ok (.getfield 110, 3) := by decide +kernel
theorem dX1_write_252 : decode cX1_write 252 = .ok (.iload_n 3, 1) := by decide +kernel
theorem dX1_write_253 : decode cX1_write 253 = .ok (.iconst 2, 1) := by decide +kernel
theorem dX1_write_254 : decode cX1_write 254 = .ok (.iastore, 1) := by decide +kernel
theorem dX1_write_255 : decode cX1_write 255 = .ok (.iinc 3 1, 3) := by decide +kernel
theorem dX1_write_258 : decode cX1_write 258 = .ok (.goto (-122), 3) := by decide +kernel
theorem dX1_write_261 : decode cX1_write 261 = .ok (.aload_n 0, 1) := by decide +kernel
theorem dX1_write_262 : decode cX1_write 262 = .ok (.iconst 1, 1) := by decide +kernel
theorem dX1_write_263 : decode cX1_write 263 = .ok (.iload_n 1, 1) := by decide +kernel
theorem dX1_write_264 : decode cX1_write 264 = .ok (.iload_n 2, 1) := by decide +kernel
theorem dX1_write_265 : decode cX1_write 265 = .ok (.invokevirtual 310, 3) := by decide +kernel
theorem dX1_write_268 : decode cX1_write 268 = .ok (.return_, 1) := by decide +kernel
theorem dX1_wrong_0 : decode cX1_wrong 0 = .ok (.aload_n 0, 1) := by decide +kernel
theorem dX1_wrong_1 : decode cX1_wrong 1 = .ok (.iload_n 1, 1) := by decide +kernel
theorem dX1_wrong_2 : decode cX1_wrong 2 = .ok (.putfield 173, 3) := by decide +kernel
theorem dX1_wrong_5 : decode cX1_wrong 5 = .ok (.aload_n 0, 1) := by decide +kernel
theorem dX1_wrong_6 : decode cX1_wrong 6 = .ok (.iload_n 2, 1) := by decide +kernel
theorem dX1_wrong_7 : decode cX1_wrong 7 = .ok (.putfield 176, 3) := by decide +kernel
theorem dX1_wrong_10 : decode cX1_wrong 10 = .ok (.iconst 0, 1) := by decide +kernel
theorem dX1_wrong_11 : decode cX1_wrong 11 = .ok (.ireturn, 1) := by decide +kernel
theorem dX2_add_0 : decode cX2_add 0 = .ok (.aload_n 0, 1) := by decide +kernel
theorem dX2_add_1 : decode cX2_add 1 = .ok (.getfield 44, 3) := by decide +kernel
theorem dX2_add_4 : decode cX2_add 4 = .ok (.sipush 1000, 3) := by decide +kernel
theorem dX2_add_7 : decode cX2_add 7 = .ok (.if_icmp .lt 9, 3) := by decide +kernel
theorem dX2_add_10 : decode cX2_add 10 = .ok (.aload_n 0, 1) := by decide +kernel
theorem dX2_add_11 : decode cX2_add 11 = .ok (.iconst 1, 1) := by decide +kernel
theorem dX2_add_12 : decode cX2_add 12 = .ok (.putfield 47, 3) := by decide +kernel
theorem dX2_add_15 : decode cX2_add 15 = .ok (.return_, 1) := by decide +kernel
theorem dX2_add_16 : decode cX2_add 16 = .ok (.aload_n 0, 1) := by decide +kernel
theorem dX2_add_17 : decode cX2_add 17 = .ok (.getfield 15, 3) := by decide +kernel
theorem dX2_add_20 : decode cX2_add 20 = .ok (.iconst 0, 1) := by decide +kernel
theorem dX2_add_21 : decode cX2_add 21 = .ok (.aload_n 0, 1) := by decide +kernel
theorem dX2_add_22 : decode cX2_add 22 = .ok (.getfield 11, 3) := by decide +kernel
theorem dX2_add_25 : decode cX2_add 25 = .ok (.aload_n 0, 1) := by decide +kernel
theorem dX2_add_26 : decode cX2_add 26 = .ok (.getfield 44, 3) := by decide +kernel
theorem dX2_add_29 : decode cX2_add 29 = .ok (.iconst 5, 1) := by decide +kernel
theorem dX2_add_30 : decode cX2_add 30 = .ok (.imul, 1) := by decide +kernel
theorem dX2_add_31 : decode cX2_add 31 = .ok (.iconst 5, 1) := by decide +kernel
theorem dX2_add_32 : decode cX2_add 32 = .ok (.invokestatic 138, 3) := by decide +kernel
theorem dX2_add_35 : decode cX2_add 35 = .ok (.aload_n 0, 1) := by decide +kernel
theorem dX2_add_36 : decode cX2_add 36 = .ok (.dup, 1) := by decide +kernel
theorem dX2_add_37 : decode cX2_add 37 = .ok (.getfield 44, 3) := by decide +kernel
theorem dX2_add_40 : decode cX2_add 40 = .ok (.iconst 1, 1) := by decide +kernel
theorem dX2_add_41 : decode cX2_add 41 = .ok (.iadd, 1) := by decide +kernel
theorem dX2_add_42 : decode cX2_add 42 = .ok (.putfield 44, 3) := by decide +kernel
theorem dX2_add_45 : decode cX2_add 45 = .ok (.aload_n 0, 1) := by decide +kernel
theorem dX2_add_46 : decode cX2_add 46 = .ok (.getfield 18, 3) := by decide +kernel
theorem dX2_add_49 : decode cX2_add 49 = .ok (.iload_n 1, 1) := by decide +kernel
theorem dX2_add_50 : decode cX2_add 50 = .ok (.aload_n 0, 1) := by decide +kernel
theorem dX2_add_51 : decode cX2_add 51 = .ok (.getfield 44, 3) := by decide +kernel
theorem dX2_add_54 : decode cX2_add 54 = .ok (.iastore, 1) := by decide +kernel
theorem dX2_add_55 : decode cX2_add 55 = .ok (.return_, 1) := by decide +kernel
theorem dX2_begin_0 : decode cX2_begin 0 = .ok (.aload_n 0, 1) := by decide +kernel
theorem dX2_begin_1 : decode cX2_begin 1 = .ok (.getfield 18, 3) := by decide +kernel
theorem dX2_begin_4 : decode cX2_begin 4 = .ok (.iconst 0, 1) := by decide +kernel
theorem dX2_begin_5 : decode cX2_begin 5 = .ok (.invokestatic 38, 3) := by decide +kernel
theorem dX2_begin_8 : decode cX2_begin 8 = .ok (.aload_n 0, 1) := by decide +kernel
theorem dX2_begin_9 : decode cX2_begin 9 = .ok (.iconst 0, 1) := by decide +kernel
theorem dX2_begin_10 : decode cX2_begin 10 = .ok (.putfield 44, 3) := by decide +kernel
theorem dX2_begin_13 : decode cX2_begin 13 = .ok (.aload_n 0, 1) := by decide +kernel
theorem dX2_begin_14 : decode cX2_begin 14 = .ok (.iconst 0, 1) := by decide +kernel
theorem dX2_begin_15 : decode cX2_begin 15 = .ok (.putfield 47, 3) := by decide +kernel
theorem dX2_begin_18 : decode cX2_begin 18 = .ok (.aload_n 0, 1) := by decide +kernel
theorem dX2_begin_19 : decode cX2_begin 19 = .ok (.iconst (-1), 1) := by decide +kernel
theorem dX2_begin_20 : decode cX2_begin 20 = .ok (.putfield 22, 3) := by decide +kernel
theorem dX2_begin_23 : decode cX2_begin 23 = .ok (.aload_n 0, 1) := by decide +kernel
theorem dX2_begin_24 : decode cX2_begin 24 = .ok (.iconst 0, 1) := by decide +kernel
theorem dX2_begin_25 : decode cX2_begin 25 = .ok (.putfield 51, 3) := by decide +kernel
theorem dX2_begin_28 : decode cX2_begin 28 = .ok (.aload_n 0, 1) := by decide +kernel
theorem dX2_begin_29 : decode cX2_begin 29 = .ok (.getfield 34, 3) := by decide +kernel
theorem dX2_begin_32 : decode cX2_begin 32 = .ok (.getfield 54, 3) := by decide +kernel
theorem dX2_begin_35 : decode cX2_begin 35 = .ok (.invokevirtual 60, 3) := by decide +kernel
theorem dX2_begin_38 : decode cX2_begin 38 = .ok (.aload_n 0, 1) := by decide +kernel
theorem dX2_begin_39 : decode cX2_begin 39 = .ok (.iconst 0, 1) := by decide +kernel
theorem dX2_begin_40 : decode cX2_begin 40 = .ok (.invokevirtual 65, 3) := by decide +kernel
theorem dX2_begin_43 : decode cX2_begin 43 = .ok (.return_, 1) := by decide +kernel
theorem dX2_hashOfKey_0 : decode cX2_hashOfKey 0 = .ok (.lconst 0, 1) := by decide +kernel
theorem dX2_hashOfKey_1 : decode cX2_hashOfKey 1 = .ok (.lstore_n 1, 1) := by decide +kernel
theorem dX2_hashOfKey_2 : decode cX2_hashOfKey 2 = .ok (.iconst 0, 1) := by decide +kernel
theorem dX2_hashOfKey_3 : decode cX2_hashOfKey 3 = .ok (.istore_n 3, 1) := by decide +kernel
theorem dX2_hashOfKey_4 : decode cX2_hashOfKey 4 = .ok (.iload_n 3, 1) := by decide +kernel
theorem dX2_hashOfKey_5 : decode cX2_hashOfKey 5 = .ok (.iconst 5, 1) := by decide +kernel
theorem dX2_hashOfKey_6 : decode cX2_hashOfKey 6 = .ok (.if_icmp .ge 29, 3) := by decide +kernel
theorem dX2_hashOfKey_9 : decode cX2_hashOfKey 9 = .ok (.lload_n 1, 1) := by decide +kernel
theorem dX2_hashOfKey_10 : decode cX2_hashOfKey 10 = .ok (.aload_n 0, 1) := by decide +kernel
theorem dX2_hashOfKey_11 : decode cX2_hashOfKey 11 = .ok (.getfield 15, 3) := by decide +kernel
theorem dX2_hashOfKey_14 : decode cX2_hashOfKey 14 = .ok (.iload_n 3, 1) := by decide +kernel
theorem dX2_hashOfKey_15 : decode cX2_hashOfKey 15 = .ok (.laload, 1) := by decide +kernel
theorem dX2_hashOfKey_16 : decode cX2_hashOfKey 16 = .ok (.lxor, 1) := by decide +kernel
theorem dX2_hashOfKey_17 : decode cX2_hashOfKey 17 = .ok (.ldc2_w 136, 3) := by decide +kernel
theorem dX2_hashOfKey_20 : decode cX2_hashOfKey 20 = .ok (.lmul, 1) := by decide +kernel
theorem dX2_hashOfKey_21 : decode cX2_hashOfKey 21 = .ok (.lstore_n 1, 1) := by decide +kernel
theorem dX2_hashOfKey_22 : decode cX2_hashOfKey 22 = .ok (.lload_n 1, 1) := by decide +kernel
theorem dX2_hashOfKey_23 : decode cX2_hashOfKey 23 = .ok (.lload_n 1, 1) := by decide +kernel
theorem dX2_hashOfKey_24 : decode cX2_hashOfKey 24 = .ok (.bipush 29, 2) := by decide +kernel
theorem dX2_hashOfKey_26 : decode cX2_hashOfKey 26 = .ok (.lushr, 1) := by decide +kernel
theorem dX2_hashOfKey_27 : decode cX2_hashOfKey 27 = .ok (.lxor, 1) := by decide +kernel
theorem dX2_hashOfKey_28 : decode cX2_hashOfKey 28 = .ok (.lstore_n 1, 1) := by decide +kernel
theorem dX2_hashOfKey_29 : decode cX2_hashOfKey 29 = .ok (.iinc 3 1, 3) := by decide +kernel
theorem dX2_hashOfKey_32 : decode cX2_hashOfKey 32 = .ok (.goto (-28), 3) := by decide +kernel
theorem dX2_hashOfKey_35 : decode cX2_hashOfKey 35 = .ok (.lload_n 1, 1) := by decide +kernel
theorem dX2_hashOfKey_36 : decode cX2_hashOfKey 36 = .ok (.bipush 32, 2) := by decide +kernel
theorem dX2_hashOfKey_38 : decode cX2_hashOfKey 38 = .ok (.lushr, 1) := by decide +kernel
theorem dX2_hashOfKey_39 : decode cX2_hashOfKey 39 = .ok (.l2i, 1) := by decide +kernel
theorem dX2_hashOfKey_40 : decode cX2_hashOfKey 40 = .ok (.sipush 2047, 3) := by decide +kernel
theorem dX2_hashOfKey_43 : decode cX2_hashOfKey 43 = .ok (.iand, 1) := by decide +kernel
theorem dX2_hashOfKey_44 : decode cX2_hashOfKey 44 = .ok (.ireturn, 1) := by decide +kernel
theorem dX2_isKey_0 : decode cX2_isKey 0 = .ok (.iconst 0, 1) := by decide +kernel
theorem dX2_isKey_1 : decode cX2_isKey 1 = .ok (.istore_n 2, 1) := by decide +kernel
theorem dX2_isKey_2 : decode cX2_isKey 2 = .ok (.iload_n 2, 1) := by decide +kernel
theorem dX2_isKey_3 : decode cX2_isKey 3 = .ok (.iconst 5, 1) := by decide +kernel
theorem dX2_isKey_4 : decode cX2_isKey 4 = .ok (.if_icmp .ge 29, 3) := by decide +kernel
theorem dX2_isKey_7 : decode cX2_isKey 7 = .ok (.aload_n 0, 1) := by decide +kernel
theorem dX2_isKey_8 : decode cX2_isKey 8 = .ok (.getfield 11, 3) := by decide +kernel
theorem dX2_isKey_11 : decode cX2_isKey 11 = .ok (.iload_n 1, 1) := by decide +kernel
theorem dX2_isKey_12 : decode cX2_isKey 12 = .ok (.iload_n 2, 1) := by decide +kernel
theorem dX2_isKey_13 : decode cX2_isKey 13 = .ok (.iadd, 1) := by decide +kernel
theorem dX2_isKey_14 : decode cX2_isKey 14 = .ok (.laload, 1) := by decide +kernel
theorem dX2_isKey_15 : decode cX2_isKey 15 = .ok (.aload_n 0, 1) := by decide +kernel
theorem dX2_isKey_16 : decode cX2_isKey 16 = .ok (.getfield 15, 3) := by decide +kernel
theorem dX2_isKey_19 : decode cX2_isKey 19 = .ok (.iload_n 2, 1) := by decide +kernel
theorem dX2_isKey_20 : decode cX2_isKey 20 = .ok (.laload, 1) := by decide +kernel
theorem dX2_isKey_21 : decode cX2_isKey 21 = .ok (.lcmp, 1) := by decide +kernel
theorem dX2_isKey_22 : decode cX2_isKey 22 = .ok (.ifCond .eq 5, 3) := by decide +kernel
theorem dX2_isKey_25 : decode cX2_isKey 25 = .ok (.iconst 0, 1) := by decide +kernel
theorem dX2_isKey_26 : decode cX2_isKey 26 = .ok (.ireturn, 1) := by decide +kernel
theorem dX2_isKey_27 : decode cX2_isKey 27 = .ok (.iinc 2 1, 3) := by decide +kernel
theorem dX2_isKey_30 : decode cX2_isKey 30 = .ok (.goto (-28), 3) := by decide +kernel
theorem dX2_isKey_33 : decode cX2_isKey 33 = .ok (.iconst 1, 1) := by decide +kernel
theorem dX2_isKey_34 : decode cX2_isKey 34 = .ok (.ireturn, 1) := by decide +kernel
theorem dX2_load_0 : decode cX2_load 0 = .ok (.iload_n 1, 1) := by decide +kernel
theorem dX2_load_1 : decode cX2_load 1 = .ok (.iconst 5, 1) := by decide +kernel
theorem dX2_load_2 : decode cX2_load 2 = .ok (.imul, 1) := by decide +kernel
theorem dX2_load_3 : decode cX2_load 3 = .ok (.istore_n 2, 1) := by decide +kernel
theorem dX2_load_4 : decode cX2_load 4 = .ok (.iconst 0, 1) := by decide +kernel
theorem dX2_load_5 : decode cX2_load 5 = .ok (.istore_n 3, 1) := by decide +kernel
theorem dX2_load_6 : decode cX2_load 6 = .ok (.iload_n 3, 1) := by decide +kernel
theorem dX2_load_7 : decode cX2_load 7 = .ok (.aload_n 0, 1) := by decide +kernel
theorem dX2_load_8 : decode cX2_load 8 = .ok (.getfield 26, 3) := by decide +kernel
theorem dX2_load_11 : decode cX2_load 11 = .ok (.getfield 101, 3) := by decide +kernel
theorem dX2_load_14 : decode cX2_load 14 = .ok (.if_icmp .ge 42, 3) := by decide +kernel
theorem dX2_load_17 : decode cX2_load 17 = .ok (.aload_n 0, 1) := by decide +kernel
theorem dX2_load_18 : decode cX2_load 18 = .ok (.getfield 34, 3) := by decide +kernel
theorem dX2_load_21 : decode cX2_load 21 = .ok (.getfield 54, 3) := by decide +kernel
theorem dX2_load_24 : decode cX2_load 24 = .ok (.getfield 106, 3) := by decide +kernel
theorem dX2_load_27 : decode cX2_load 27 = .ok (.iload_n 3, 1) := by decide +kernel
theorem dX2_load_28 : decode cX2_load 28 = .ok (.aload_n 0, 1) := by decide +kernel
theorem dX2_load_29 : decode cX2_load 29 = .ok (.getfield 11, 3) := by decide +kernel
theorem dX2_load_32 : decode cX2_load 32 = .ok (.iload_n 2, 1) := by decide +kernel
theorem dX2_load_33 : decode cX2_load 33 = .ok (.iload_n 3, 1) := by decide +kernel
theorem dX2_load_34 : decode cX2_load 34 = .ok (.iconst 2, 1) := by decide +kernel
theorem dX2_load_35 : decode cX2_load 35 = .ok (.ishr, 1) := by decide +kernel
theorem dX2_load_36 : decode cX2_load 36 = .ok (.iadd, 1) := by decide +kernel
theorem dX2_load_37 : decode cX2_load 37 = .ok (.laload, 1) := by decide +kernel
theorem dX2_load_38 : decode cX2_load 38 = .ok (.iload_n 3, 1) := by decide +kernel
theorem dX2_load_39 : decode cX2_load 39 = .ok (.iconst 3, 1) := by decide +kernel
theorem dX2_load_40 : decode cX2_load 40 = .ok (.iand, 1) := by decide +kernel
theorem dX2_load_41 : decode cX2_load 41 = .ok (.bipush 16, 2) := by decide +kernel
theorem dX2_load_43 : decode cX2_load 43 = .ok (.imul, 1) := by decide +kernel
theorem dX2_load_44 : decode cX2_load 44 = .ok (.lushr, 1) := by decide +kernel
theorem dX2_load_45 : decode cX2_load 45 = .ok (.l2i, 1) := by decide +kernel
theorem dX2_load_46 : decode cX2_load 46 = .ok (.ldc 109, 2) := by decide +kernel
theorem dX2_load_48 : decode cX2_load 48 = .ok (.iand, 1) := by decide +kernel
theorem dX2_load_49 : decode cX2_load 49 = .ok (.iastore, 1) := by decide +kernel
theorem dX2_load_50 : decode cX2_load 50 = .ok (.iinc 3 1, 3) := by decide +kernel
theorem dX2_load_53 : decode cX2_load 53 = .ok (.goto (-47), 3) := by decide +kernel
theorem dX2_load_56 : decode cX2_load 56 = .ok (.aload_n 0, 1) := by decide +kernel
theorem dX2_load_57 : decode cX2_load 57 = .ok (.getfield 11, 3) := by decide +kernel
theorem dX2_load_60 : decode cX2_load 60 = .ok (.iload_n 2, 1) := by decide +kernel
theorem dX2_load_61 : decode cX2_load 61 = .ok (.iconst 4, 1) := by decide +kernel
theorem dX2_load_62 : decode cX2_load 62 = .ok (.iadd, 1) := by decide +kernel
theorem dX2_load_63 : decode cX2_load 63 = .ok (.laload, 1) := by decide +kernel
theorem dX2_load_64 : decode cX2_load 64 = .ok (.lstore_n 3, 1) := by decide +kernel
theorem dX2_load_65 : decode cX2_load 65 = .ok (.aload_n 0, 1) := by decide +kernel
theorem dX2_load_66 : decode cX2_load 66 = .ok (.getfield 34, 3) := by decide +kernel
theorem dX2_load_69 : decode cX2_load 69 = .ok (.getfield 54, 3) := by decide +kernel
theorem dX2_load_72 : decode cX2_load 72 = .ok (.lload_n 3, 1) := by decide +kernel
theorem dX2_load_73 : decode cX2_load 73 = .ok (.bipush 8, 2) := by decide +kernel
theorem dX2_load_75 : decode cX2_load 75 = .ok (.lushr, 1) := by decide +kernel
theorem dX2_load_76 : decode cX2_load 76 = .ok (.l2i, 1) := by decide +kernel
theorem dX2_load_77 : decode cX2_load 77 = .ok (.putfield 110, 3) := by decide +kernel
theorem dX2_load_80 : decode cX2_load 80 = .ok (.lload_n 3, 1) := by decide +kernel
theorem dX2_load_81 : decode cX2_load 81 = .ok (.l2i, 1) := by decide +kernel
theorem dX2_load_82 : decode cX2_load 82 = .ok (.sipush 255, 3) := by decide +kernel
theorem dX2_load_85 : decode cX2_load 85 = .ok (.iand, 1) := by decide +kernel
theorem dX2_load_86 : decode cX2_load 86 = .ok (.ireturn, 1) := by decide +kernel
theorem dX2_makeKey_0 : decode cX2_makeKey 0 = .ok (.aload_n 0, 1) := by decide +kernel
theorem dX2_makeKey_1 : decode cX2_makeKey 1 = .ok (.getfield 15, 3) := by decide +kernel
theorem dX2_makeKey_4 : decode cX2_makeKey 4 = .ok (.lconst 0, 1) := by decide +kernel
theorem dX2_makeKey_5 : decode cX2_makeKey 5 = .ok (.invokestatic 133, 3) := by decide +kernel
theorem dX2_makeKey_8 : decode cX2_makeKey 8 = .ok (.iconst 0, 1) := by decide +kernel
theorem dX2_makeKey_9 : decode cX2_makeKey 9 = .ok (.istore_n 2, 1) := by decide +kernel
theorem dX2_makeKey_10 : decode cX2_makeKey 10 = .ok (.iload_n 2, 1) := by decide +kernel
theorem dX2_makeKey_11 : decode cX2_makeKey 11 = .ok (.aload_n 0, 1) := by decide +kernel
theorem dX2_makeKey_12 : decode cX2_makeKey 12 = .ok (.getfield 26, 3) := by decide +kernel
theorem dX2_makeKey_15 : decode cX2_makeKey 15 = .ok (.getfield 101, 3) := by decide +kernel
theorem dX2_makeKey_18 : decode cX2_makeKey 18 = .ok (.if_icmp .ge 40, 3) := by decide +kernel
theorem dX2_makeKey_21 : decode cX2_makeKey 21 = .ok (.aload_n 0, 1) := by decide +kernel
theorem dX2_makeKey_22 : decode cX2_makeKey 22 = .ok (.getfield 15, 3) := by decide +kernel
theorem dX2_makeKey_25 : decode cX2_makeKey 25 = .ok (.iload_n 2, 1) := by decide +kernel
