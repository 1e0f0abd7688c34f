theorem dX12_compile_174 : decode cX12_compile 174 = .ok (.aload_n 0, 1) := by decide +kernel
theorem dX12_compile_175 : decode cX12_compile 175 = .ok (.getfield 37, 3) := by decide +kernel
theorem dX12_compile_178 : decode cX12_compile 178 = .ok (.iload_n 2, 1) := by decide +kernel
theorem dX12_compile_179 : decode cX12_compile 179 = .ok (.iaload, 1) := by decide +kernel
theorem dX12_compile_180 : decode cX12_compile 180 = .ok (.iastore, 1) := by decide +kernel
theorem dX12_compile_181 : decode cX12_compile 181 = .ok (.aload_n 0, 1) := by decide +kernel
theorem dX12_compile_182 : decode cX12_compile 182 = .ok (.getfield 89, 3) := by decide +kernel
theorem dX12_compile_185 : decode cX12_compile 185 = .ok (.iload_n 3, 1) := by decide +kernel
theorem dX12_compile_186 : decode cX12_compile 186 = .ok (.aload_n 0, 1) := by decide +kernel
theorem dX12_compile_187 : decode cX12_compile 187 = .ok (.getfield 34, 3) := by decide +kernel
theorem dX12_compile_190 : decode cX12_compile 190 = .ok (.iload_n 2, 1) := by decide +kernel
theorem dX12_compile_191 : decode cX12_compile 191 = .ok (.iaload, 1) := by decide +kernel
theorem dX12_compile_192 : decode cX12_compile 192 = .ok (.aload_n 0, 1) := by decide +kernel
theorem dX12_compile_193 : decode cX12_compile 193 = .ok (.getfield 37, 3) := by decide +kernel
theorem dX12_compile_196 : decode cX12_compile 196 = .ok (.iload_n 2, 1) := by decide +kernel
theorem dX12_compile_197 : decode cX12_compile 197 = .ok (.iaload, 1) := by decide +kernel
theorem dX12_compile_198 : decode cX12_compile 198 = .ok (.isub, 1) := by decide +kernel
theorem dX12_compile_199 : decode cX12_compile 199 = .ok (.iconst 1, 1) := by decide +kernel
theorem dX12_compile_200 : decode cX12_compile 200 = .ok (.iadd, 1) := by decide +kernel
theorem dX12_compile_201 : decode cX12_compile 201 = .ok (.iastore, 1) := by decide +kernel
theorem dX12_compile_202 : decode cX12_compile 202 = .ok (.aload_n 0, 1) := by decide +kernel
theorem dX12_compile_203 : decode cX12_compile 203 = .ok (.getfield 92, 3) := by decide +kernel
theorem dX12_compile_206 : decode cX12_compile 206 = .ok (.iload_n 3, 1) := by decide +kernel
theorem dX12_compile_207 : decode cX12_compile 207 = .ok (.aload_n 0, 1) := by decide +kernel
theorem dX12_compile_208 : decode cX12_compile 208 = .ok (.getfield 40, 3) := by decide +kernel
theorem dX12_compile_211 : decode cX12_compile 211 = .ok (.iload_n 2, 1) := by decide +kernel
theorem dX12_compile_212 : decode cX12_compile 212 = .ok (.iaload, 1) := by decide +kernel
theorem dX12_compile_213 : decode cX12_compile 213 = .ok (.iastore, 1) := by decide +kernel
theorem dX12_compile_214 : decode cX12_compile 214 = .ok (.iinc 2 1, 3) := by decide +kernel
theorem dX12_compile_217 : decode cX12_compile 217 = .ok (.goto (-94), 3) := by decide +kernel
theorem dX12_compile_220 : decode cX12_compile 220 = .ok (.aload_n 0, 1) := by decide +kernel
theorem dX12_compile_221 : decode cX12_compile 221 = .ok (.aload_n 0, 1) := by decide +kernel
theorem dX12_compile_222 : decode cX12_compile 222 = .ok (.getfield 223, 3) := by decide +kernel
theorem dX12_compile_225 : decode cX12_compile 225 = .ok (.putfield 264, 3) := by decide +kernel
theorem dX12_compile_228 : decode cX12_compile 228 = .ok (.iconst 0, 1) := by decide +kernel
theorem dX12_compile_229 : decode cX12_compile 229 = .ok (.istore_n 2, 1) := by decide +kernel
theorem dX12_compile_230 : decode cX12_compile 230 = .ok (.iload_n 2, 1) := by decide +kernel
theorem dX12_compile_231 : decode cX12_compile 231 = .ok (.aload_n 0, 1) := by decide +kernel
theorem dX12_compile_232 : decode cX12_compile 232 = .ok (.getfield 264, 3) := by decide +kernel
theorem dX12_compile_235 : decode cX12_compile 235 = .ok (.if_icmp .ge 57, 3) := by decide +kernel
theorem dX12_compile_238 : decode cX12_compile 238 = .ok (.aload_n 0, 1) := by decide +kernel
theorem dX12_compile_239 : decode cX12_compile 239 = .ok (.getfield 95, 3) := by decide +kernel
theorem dX12_compile_242 : decode cX12_compile 242 = .ok (.iload_n 2, 1) := by decide +kernel
theorem dX12_compile_243 : decode cX12_compile 243 = .ok (.aload_n 0, 1) := by decide +kernel
theorem dX12_compile_244 : decode cX12_compile 244 = .ok (.getfield 49, 3) := by decide +kernel
theorem dX12_compile_247 : decode cX12_compile 247 = .ok (.iload_n 2, 1) := by decide +kernel
theorem dX12_compile_248 : decode cX12_compile 248 = .ok (.iaload, 1) := by decide +kernel
theorem dX12_compile_249 : decode cX12_compile 249 = .ok (.iastore, 1) := by decide +kernel
theorem dX12_compile_250 : decode cX12_compile 250 = .ok (.aload_n 0, 1) := by decide +kernel
theorem dX12_compile_251 : decode cX12_compile 251 = .ok (.getfield 98, 3) := by decide +kernel
theorem dX12_compile_254 : decode cX12_compile 254 = .ok (.iload_n 2, 1) := by decide +kernel
theorem dX12_compile_255 : decode cX12_compile 255 = .ok (.aload_n 0, 1) := by decide +kernel
theorem dX12_compile_256 : decode cX12_compile 256 = .ok (.getfield 52, 3) := by decide +kernel
theorem dX12_compile_259 : decode cX12_compile 259 = .ok (.iload_n 2, 1) := by decide +kernel
theorem dX12_compile_260 : decode cX12_compile 260 = .ok (.iaload, 1) := by decide +kernel
theorem dX12_compile_261 : decode cX12_compile 261 = .ok (.iastore, 1) := by decide +kernel
theorem dX12_compile_262 : decode cX12_compile 262 = .ok (.aload_n 0, 1) := by decide +kernel
theorem dX12_compile_263 : decode cX12_compile 263 = .ok (.getfield 101, 3) := by decide +kernel
theorem dX12_compile_266 : decode cX12_compile 266 = .ok (.iload_n 2, 1) := by decide +kernel
theorem dX12_compile_267 : decode cX12_compile 267 = .ok (.aload_n 0, 1) := by decide +kernel
theorem dX12_compile_268 : decode cX12_compile 268 = .ok (.getfield 55, 3) := by decide +kernel
theorem dX12_compile_271 : decode cX12_compile 271 = .ok (.iload_n 2, 1) := by decide +kernel
theorem dX12_compile_272 : decode cX12_compile 272 = .ok (.iaload, 1) := by decide +kernel
theorem dX12_compile_273 : decode cX12_compile 273 = .ok (.iastore, 1) := by decide +kernel
theorem dX12_compile_274 : decode cX12_compile 274 = .ok (.aload_n 0, 1) := by decide +kernel
theorem dX12_compile_275 : decode cX12_compile 275 = .ok (.getfield 104, 3) := by decide +kernel
theorem dX12_compile_278 : decode cX12_compile 278 = .ok (.iload_n 2, 1) := by decide +kernel
theorem dX12_compile_279 : decode cX12_compile 279 = .ok (.aload_n 0, 1) := by decide +kernel
theorem dX12_compile_280 : decode cX12_compile 280 = .ok (.getfield 58, 3) := by decide +kernel
theorem dX12_compile_283 : decode cX12_compile 283 = .ok (.iload_n 2, 1) := by decide +kernel
theorem dX12_compile_284 : decode cX12_compile 284 = .ok (.iaload, 1) := by decide +kernel
theorem dX12_compile_285 : decode cX12_compile 285 = .ok (.iastore, 1) := by decide +kernel
theorem dX12_compile_286 : decode cX12_compile 286 = .ok (.iinc 2 1, 3) := by decide +kernel
theorem dX12_compile_289 : decode cX12_compile 289 = .ok (.goto (-59), 3) := by decide +kernel
theorem dX12_compile_292 : decode cX12_compile 292 = .ok (.aload_n 0, 1) := by decide +kernel
theorem dX12_compile_293 : decode cX12_compile 293 = .ok (.iconst 0, 1) := by decide +kernel
theorem dX12_compile_294 : decode cX12_compile 294 = .ok (.putfield 267, 3) := by decide +kernel
theorem dX12_compile_297 : decode cX12_compile 297 = .ok (.aload_n 0, 1) := by decide +kernel
theorem dX12_compile_298 : decode cX12_compile 298 = .ok (.iconst 0, 1) := by decide +kernel
theorem dX12_compile_299 : decode cX12_compile 299 = .ok (.putfield 270, 3) := by decide +kernel
theorem dX12_compile_302 : decode cX12_compile 302 = .ok (.aload_n 0, 1) := by decide +kernel
theorem dX12_compile_303 : decode cX12_compile 303 = .ok (.iconst 0, 1) := by decide +kernel
theorem dX12_compile_304 : decode cX12_compile 304 = .ok (.putfield 273, 3) := by decide +kernel
theorem dX12_compile_307 : decode cX12_compile 307 = .ok (.aload_n 0, 1) := by decide +kernel
theorem dX12_compile_308 : decode cX12_compile 308 = .ok (.invokevirtual 276, 3) := by decide +kernel
theorem dX12_compile_311 : decode cX12_compile 311 = .ok (.aload_n 0, 1) := by decide +kernel
theorem dX12_compile_312 : decode cX12_compile 312 = .ok (.getfield 261, 3) := by decide +kernel
theorem dX12_compile_315 : decode cX12_compile 315 = .ok (.ireturn, 1) := by decide +kernel
theorem dX12_copyDevice_0 : decode cX12_copyDevice 0 = .ok (.iconst 0, 1) := by decide +kernel
theorem dX12_copyDevice_1 : decode cX12_copyDevice 1 = .ok (.istore_n 3, 1) := by decide +kernel
theorem dX12_copyDevice_2 : decode cX12_copyDevice 2 = .ok (.iload_n 3, 1) := by decide +kernel
theorem dX12_copyDevice_3 : decode cX12_copyDevice 3 = .ok (.bipush 26, 2) := by decide +kernel
theorem dX12_copyDevice_5 : decode cX12_copyDevice 5 = .ok (.if_icmp .ge 75, 3) := by decide +kernel
theorem dX12_copyDevice_8 : decode cX12_copyDevice 8 = .ok (.aload_n 0, 1) := by decide +kernel
theorem dX12_copyDevice_9 : decode cX12_copyDevice 9 = .ok (.getfield 107, 3) := by decide +kernel
theorem dX12_copyDevice_12 : decode cX12_copyDevice 12 = .ok (.bipush 26, 2) := by decide +kernel
theorem dX12_copyDevice_14 : decode cX12_copyDevice 14 = .ok (.iload_n 2, 1) := by decide +kernel
theorem dX12_copyDevice_15 : decode cX12_copyDevice 15 = .ok (.imul, 1) := by decide +kernel
theorem dX12_copyDevice_16 : decode cX12_copyDevice 16 = .ok (.iload_n 3, 1) := by decide +kernel
theorem dX12_copyDevice_17 : decode cX12_copyDevice 17 = .ok (.iadd, 1) := by decide +kernel
theorem dX12_copyDevice_18 : decode cX12_copyDevice 18 = .ok (.aload_n 0, 1) := by decide +kernel
theorem dX12_copyDevice_19 : decode cX12_copyDevice 19 = .ok (.getfield 107, 3) := by decide +kernel
theorem dX12_copyDevice_22 : decode cX12_copyDevice 22 = .ok (.bipush 26, 2) := by decide +kernel
theorem dX12_copyDevice_24 : decode cX12_copyDevice 24 = .ok (.iload_n 1, 1) := by decide +kernel
theorem dX12_copyDevice_25 : decode cX12_copyDevice 25 = .ok (.imul, 1) := by decide +kernel
theorem dX12_copyDevice_26 : decode cX12_copyDevice 26 = .ok (.iload_n 3, 1) := by decide +kernel
theorem dX12_copyDevice_27 : decode cX12_copyDevice 27 = .ok (.iadd, 1) := by decide +kernel
theorem dX12_copyDevice_28 : decode cX12_copyDevice 28 = .ok (.iaload, 1) := by decide +kernel
theorem dX12_copyDevice_29 : decode cX12_copyDevice 29 = .ok (.iastore, 1) := by decide +kernel
theorem dX12_copyDevice_30 : decode cX12_copyDevice 30 = .ok (.aload_n 0, 1) := by decide +kernel
theorem dX12_copyDevice_31 : decode cX12_copyDevice 31 = .ok (.getfield 110, 3) := by decide +kernel
theorem dX12_copyDevice_34 : decode cX12_copyDevice 34 = .ok (.bipush 26, 2) := by decide +kernel
theorem dX12_copyDevice_36 : decode cX12_copyDevice 36 = .ok (.iload_n 2, 1) := by decide +kernel
theorem dX12_copyDevice_37 : decode cX12_copyDevice 37 = .ok (.imul, 1) := by decide +kernel
theorem dX12_copyDevice_38 : decode cX12_copyDevice 38 = .ok (.iload_n 3, 1) := by decide +kernel
theorem dX12_copyDevice_39 : decode cX12_copyDevice 39 = .ok (.iadd, 1) := by decide +kernel
theorem dX12_copyDevice_40 : decode cX12_copyDevice 40 = .ok (.aload_n 0, 1) := by decide +kernel
theorem dX12_copyDevice_41 : decode cX12_copyDevice 41 = .ok (.getfield 110, 3) := by decide +kernel
theorem dX12_copyDevice_44 : decode cX12_copyDevice 44 = .ok (.bipush 26, 2) := by decide +kernel
theorem dX12_copyDevice_46 : decode cX12_copyDevice 46 = .ok (.iload_n 1, 1) := by decide +kernel
theorem dX12_copyDevice_47 : decode cX12_copyDevice 47 = .ok (.imul, 1) := by decide +kernel
theorem dX12_copyDevice_48 : decode cX12_copyDevice 48 = .ok (.iload_n 3, 1) := by decide +kernel
theorem dX12_copyDevice_49 : decode cX12_copyDevice 49 = .ok (.iadd, 1) := by decide +kernel
theorem dX12_copyDevice_50 : decode cX12_copyDevice 50 = .ok (.iaload, 1) := by decide +kernel
theorem dX12_copyDevice_51 : decode cX12_copyDevice 51 = .ok (.iastore, 1) := by decide +kernel
theorem dX12_copyDevice_52 : decode cX12_copyDevice 52 = .ok (.aload_n 0, 1) := by decide +kernel
theorem dX12_copyDevice_53 : decode cX12_copyDevice 53 = .ok (.getfield 113, 3) := by decide +kernel
theorem dX12_copyDevice_56 : decode cX12_copyDevice 56 = .ok (.bipush 26, 2) := by decide +kernel
theorem dX12_copyDevice_58 : decode cX12_copyDevice 58 = .ok (.iload_n 2, 1) := by decide +kernel
theorem dX12_copyDevice_59 : decode cX12_copyDevice 59 = .ok (.imul, 1) := by decide +kernel
theorem dX12_copyDevice_60 : decode cX12_copyDevice 60 = .ok (.iload_n 3, 1) := by decide +kernel
theorem dX12_copyDevice_61 : decode cX12_copyDevice 61 = .ok (.iadd, 1) := by decide +kernel
theorem dX12_copyDevice_62 : decode cX12_copyDevice 62 = .ok (.aload_n 0, 1) := by decide +kernel
theorem dX12_copyDevice_63 : decode cX12_copyDevice 63 = .ok (.getfield 113, 3) := by decide +kernel
theorem dX12_copyDevice_66 : decode cX12_copyDevice 66 = .ok (.bipush 26, 2) := by decide +kernel
theorem dX12_copyDevice_68 : decode cX12_copyDevice 68 = .ok (.iload_n 1, 1) := by decide +kernel
theorem dX12_copyDevice_69 : decode cX12_copyDevice 69 = .ok (.imul, 1) := by decide +kernel
theorem dX12_copyDevice_70 : decode cX12_copyDevice 70 = .ok (.iload_n 3, 1) := by decide +kernel
theorem dX12_copyDevice_71 : decode cX12_copyDevice 71 = .ok (.iadd, 1) := by decide +kernel
theorem dX12_copyDevice_72 : decode cX12_copyDevice 72 = .ok (.iaload, 1) := by decide +kernel
theorem dX12_copyDevice_73 : decode cX12_copyDevice 73 = .ok (.iastore, 1) := by decide +kernel
theorem dX12_copyDevice_74 : decode cX12_copyDevice 74 = .ok (.iinc 3 1, 3) := by decide +kernel
theorem dX12_copyDevice_77 : decode cX12_copyDevice 77 = .ok (.goto (-75), 3) := by decide +kernel
theorem dX12_copyDevice_80 : decode cX12_copyDevice 80 = .ok (.iconst 0, 1) := by decide +kernel
theorem dX12_copyDevice_81 : decode cX12_copyDevice 81 = .ok (.istore_n 3, 1) := by decide +kernel
theorem dX12_copyDevice_82 : decode cX12_copyDevice 82 = .ok (.iload_n 3, 1) := by decide +kernel
theorem dX12_copyDevice_83 : decode cX12_copyDevice 83 = .ok (.bipush 12, 2) := by decide +kernel
theorem dX12_copyDevice_85 : decode cX12_copyDevice 85 = .ok (.if_icmp .ge 31, 3) := by decide +kernel
theorem dX12_copyDevice_88 : decode cX12_copyDevice 88 = .ok (.aload_n 0, 1) := by decide +kernel
theorem dX12_copyDevice_89 : decode cX12_copyDevice 89 = .ok (.getfield 116, 3) := by decide +kernel
theorem dX12_copyDevice_92 : decode cX12_copyDevice 92 = .ok (.bipush 12, 2) := by decide +kernel
theorem dX12_copyDevice_94 : decode cX12_copyDevice 94 = .ok (.iload_n 2, 1) := by decide +kernel
theorem dX12_copyDevice_95 : decode cX12_copyDevice 95 = .ok (.imul, 1) := by decide +kernel
theorem dX12_copyDevice_96 : decode cX12_copyDevice 96 = .ok (.iload_n 3, 1) := by decide +kernel
theorem dX12_copyDevice_97 : decode cX12_copyDevice 97 = .ok (.iadd, 1) := by decide +kernel
theorem dX12_copyDevice_98 : decode cX12_copyDevice 98 = .ok (.aload_n 0, 1) := by decide +kernel
theorem dX12_copyDevice_99 : decode cX12_copyDevice 99 = .ok (.getfield 116, 3) := by decide +kernel
theorem dX12_copyDevice_102 : decode cX12_copyDevice 102 = .ok (.bipush 12, 2) := by decide +kernel
theorem dX12_copyDevice_104 : decode cX12_copyDevice 104 = .ok (.iload_n 1, 1) := by decide +kernel
theorem dX12_copyDevice_105 : decode cX12_copyDevice 105 = .ok (.imul, 1) := by decide +kernel
theorem dX12_copyDevice_106 : decode cX12_copyDevice 106 = .ok (.iload_n 3, 1) := by decide +kernel
theorem dX12_copyDevice_107 : decode cX12_copyDevice 107 = .ok (.iadd, 1) := by decide +kernel
theorem dX12_copyDevice_108 : decode cX12_copyDevice 108 = .ok (.baload, 1) := by decide +kernel
theorem dX12_copyDevice_109 : decode cX12_copyDevice 109 = .ok (.bastore, 1) := by decide +kernel
theorem dX12_copyDevice_110 : decode cX12_copyDevice 110 = .ok (.iinc 3 1, 3) := by decide +kernel
theorem dX12_copyDevice_113 : decode cX12_copyDevice 113 = .ok (.goto (-31), 3) := by decide +kernel
theorem dX12_copyDevice_116 : decode cX12_copyDevice 116 = .ok (.return_, 1) := by decide +kernel
theorem dX12_doFetch_0 : decode cX12_doFetch 0 = .ok (.aload_n 0, 1) := by decide +kernel
theorem dX12_doFetch_1 : decode cX12_doFetch 1 = .ok (.aload_n 0, 1) := by decide +kernel
theorem dX12_doFetch_2 : decode cX12_doFetch 2 = .ok (.getfield 107, 3) := by decide +kernel
theorem dX12_doFetch_5 : decode cX12_doFetch 5 = .ok (.iload_n 1, 1) := by decide +kernel
theorem dX12_doFetch_6 : decode cX12_doFetch 6 = .ok (.iaload, 1) := by decide +kernel
theorem dX12_doFetch_7 : decode cX12_doFetch 7 = .ok (.putfield 357, 3) := by decide +kernel
theorem dX12_doFetch_10 : decode cX12_doFetch 10 = .ok (.aload_n 0, 1) := by decide +kernel
theorem dX12_doFetch_11 : decode cX12_doFetch 11 = .ok (.getfield 80, 3) := by decide +kernel
theorem dX12_doFetch_14 : decode cX12_doFetch 14 = .ok (.iload_n 1, 1) := by decide +kernel
theorem dX12_doFetch_15 : decode cX12_doFetch 15 = .ok (.iaload, 1) := by decide +kernel
theorem dX12_doFetch_16 : decode cX12_doFetch 16 = .ok (.bipush 119, 2) := by decide +kernel
theorem dX12_doFetch_18 : decode cX12_doFetch 18 = .ok (.if_icmp .ne 4, 3) := by decide +kernel
theorem dX12_doFetch_21 : decode cX12_doFetch 21 = .ok (.return_, 1) := by decide +kernel
theorem dX12_doFetch_22 : decode cX12_doFetch 22 = .ok (.aload_n 0, 1) := by decide +kernel
theorem dX12_doFetch_23 : decode cX12_doFetch 23 = .ok (.aload_n 0, 1) := by decide +kernel
theorem dX12_doFetch_24 : decode cX12_doFetch 24 = .ok (.getfield 83, 3) := by decide +kernel
theorem dX12_doFetch_27 : decode cX12_doFetch 27 = .ok (.iload_n 1, 1) := by decide +kernel
theorem dX12_doFetch_28 : decode cX12_doFetch 28 = .ok (.iaload, 1) := by decide +kernel
theorem dX12_doFetch_29 : decode cX12_doFetch 29 = .ok (.invokevirtual 353, 3) := by decide +kernel
theorem dX12_doFetch_32 : decode cX12_doFetch 32 = .ok (.aload_n 0, 1) := by decide +kernel
theorem dX12_doFetch_33 : decode cX12_doFetch 33 = .ok (.getfield 337, 3) := by decide +kernel
theorem dX12_doFetch_36 : decode cX12_doFetch 36 = .ok (.ifCond .eq 4, 3) := by decide +kernel
theorem dX12_doFetch_39 : decode cX12_doFetch 39 = .ok (.return_, 1) := by decide +kernel
theorem dX12_doFetch_40 : decode cX12_doFetch 40 = .ok (.aload_n 0, 1) := by decide +kernel
theorem dX12_doFetch_41 : decode cX12_doFetch 41 = .ok (.aload_n 0, 1) := by decide +kernel
theorem dX12_doFetch_42 : decode cX12_doFetch 42 = .ok (.getfield 107, 3) := by decide +kernel
theorem dX12_doFetch_45 : decode cX12_doFetch 45 = .ok (.iload_n 1, 1) := by decide +kernel
theorem dX12_doFetch_46 : decode cX12_doFetch 46 = .ok (.iaload, 1) := by decide +kernel
theorem dX12_doFetch_47 : decode cX12_doFetch 47 = .ok (.putfield 357, 3) := by decide +kernel
theorem dX12_doFetch_50 : decode cX12_doFetch 50 = .ok (.aload_n 0, 1) := by decide +kernel
theorem dX12_doFetch_51 : decode cX12_doFetch 51 = .ok (.aload_n 0, 1) := by decide +kernel
theorem dX12_doFetch_52 : decode cX12_doFetch 52 = .ok (.getfield 83, 3) := by decide +kernel
theorem dX12_doFetch_55 : decode cX12_doFetch 55 = .ok (.iload_n 1, 1) := by decide +kernel
theorem dX12_doFetch_56 : decode cX12_doFetch 56 = .ok (.iaload, 1) := by decide +kernel
theorem dX12_doFetch_57 : decode cX12_doFetch 57 = .ok (.invokevirtual 331, 3) := by decide +kernel
theorem dX12_doFetch_60 : decode cX12_doFetch 60 = .ok (.pop, 1) := by decide +kernel
theorem dX12_doFetch_61 : decode cX12_doFetch 61 = .ok (.aload_n 0, 1) := by decide +kernel
theorem dX12_doFetch_62 : decode cX12_doFetch 62 = .ok (.getfield 80, 3) := by decide +kernel
theorem dX12_doFetch_65 : decode cX12_doFetch 65 = .ok (.iload_n 1, 1) := by decide +kernel
theorem dX12_doFetch_66 : decode cX12_doFetch 66 = .ok (.iaload, 1) := by decide +kernel
theorem dX12_doFetch_67 : decode cX12_doFetch 67 = .ok (.bipush 99, 2) := by decide +kernel
theorem dX12_doFetch_69 : decode cX12_doFetch 69 = .ok (.if_icmp .ne 20, 3) := by decide +kernel
theorem dX12_doFetch_72 : decode cX12_doFetch 72 = .ok (.aload_n 0, 1) := by decide +kernel
theorem dX12_doFetch_73 : decode cX12_doFetch 73 = .ok (.aload_n 0, 1) := by decide +kernel
theorem dX12_doFetch_74 : decode cX12_doFetch 74 = .ok (.getfield 113, 3) := by decide +kernel
theorem dX12_doFetch_77 : decode cX12_doFetch 77 = .ok (.iload_n 1, 1) := by decide +kernel
theorem dX12_doFetch_78 : decode cX12_doFetch 78 = .ok (.iaload, 1) := by decide +kernel
theorem dX12_doFetch_79 : decode cX12_doFetch 79 = .ok (.putfield 357, 3) := by decide +kernel
theorem dX12_doFetch_82 : decode cX12_doFetch 82 = .ok (.aload_n 0, 1) := by decide +kernel
theorem dX12_doFetch_83 : decode cX12_doFetch 83 = .ok (.getfield 113, 3) := by decide +kernel
theorem dX12_doFetch_86 : decode cX12_doFetch 86 = .ok (.iload_n 1, 1) := by decide +kernel
theorem dX12_doFetch_87 : decode cX12_doFetch 87 = .ok (.iconst 0, 1) := by decide +kernel
theorem dX12_doFetch_88 : decode cX12_doFetch 88 = .ok (.iastore, 1) := by decide +kernel
theorem dX12_doFetch_89 : decode cX12_doFetch 89 = .ok (.return_, 1) := by decide +kernel
theorem dX12_doPut_0 : decode cX12_doPut 0 = .ok (.aload_n 0, 1) := by decide +kernel
theorem dX12_doPut_1 : decode cX12_doPut 1 = .ok (.iload_n 1, 1) := by decide +kernel
theorem dX12_doPut_2 : decode cX12_doPut 2 = .ok (.invokevirtual 297, 3) := by decide +kernel
theorem dX12_doPut_5 : decode cX12_doPut 5 = .ok (.ifCond .eq 14, 3) := by decide +kernel
theorem dX12_doPut_8 : decode cX12_doPut 8 = .ok (.aload_n 0, 1) := by decide +kernel
theorem dX12_doPut_9 : decode cX12_doPut 9 = .ok (.getfield 107, 3) := by decide +kernel
theorem dX12_doPut_12 : decode cX12_doPut 12 = .ok (.iload_n 1, 1) := by decide +kernel
theorem dX12_doPut_13 : decode cX12_doPut 13 = .ok (.iaload, 1) := by decide +kernel
theorem dX12_doPut_14 : decode cX12_doPut 14 = .ok (.iload_n 2, 1) := by decide +kernel
theorem dX12_doPut_15 : decode cX12_doPut 15 = .ok (.if_icmp .ne 4, 3) := by decide +kernel
theorem dX12_doPut_18 : decode cX12_doPut 18 = .ok (.return_, 1) := by decide +kernel
theorem dX12_doPut_19 : decode cX12_doPut 19 = .ok (.aload_n 0, 1) := by decide +kernel
theorem dX12_doPut_20 : decode cX12_doPut 20 = .ok (.aload_n 0, 1) := by decide +kernel
theorem dX12_doPut_21 : decode cX12_doPut 21 = .ok (.getfield 83, 3) := by decide +kernel
theorem dX12_doPut_24 : decode cX12_doPut 24 = .ok (.iload_n 1, 1) := by decide +kernel
theorem dX12_doPut_25 : decode cX12_doPut 25 = .ok (.iaload, 1) := by decide +kernel
theorem dX12_doPut_26 : decode cX12_doPut 26 = .ok (.invokevirtual 353, 3) := by decide +kernel
theorem dX12_doPut_29 : decode cX12_doPut 29 = .ok (.aload_n 0, 1) := by decide +kernel
theorem dX12_doPut_30 : decode cX12_doPut 30 = .ok (.aload_n 0, 1) := by decide +kernel
theorem dX12_doPut_31 : decode cX12_doPut 31 = .ok (.getfield 83, 3) := by decide +kernel
theorem dX12_doPut_34 : decode cX12_doPut 34 = .ok (.iload_n 1, 1) := by decide +kernel
theorem dX12_doPut_35 : decode cX12_doPut 35 = .ok (.iaload, 1) := by decide +kernel
theorem dX12_doPut_36 : decode cX12_doPut 36 = .ok (.aload_n 0, 1) := by decide +kernel
theorem dX12_doPut_37 : decode cX12_doPut 37 = .ok (.aload_n 0, 1) := by decide +kernel
theorem dX12_doPut_38 : decode cX12_doPut 38 = .ok (.aload_n 0, 1) := by decide +kernel
theorem dX12_doPut_39 : decode cX12_doPut 39 = .ok (.getfield 83, 3) := by decide +kernel
theorem dX12_doPut_42 : decode cX12_doPut 42 = .ok (.iload_n 1, 1) := by decide +kernel
theorem dX12_doPut_43 : decode cX12_doPut 43 = .ok (.iaload, 1) := by decide +kernel
theorem dX12_doPut_44 : decode cX12_doPut 44 = .ok (.invokevirtual 343, 3) := by decide +kernel
theorem dX12_doPut_47 : decode cX12_doPut 47 = .ok (.iload_n 1, 1) := by decide +kernel
theorem dX12_doPut_48 : decode cX12_doPut 48 = .ok (.iload_n 2, 1) := by decide +kernel
theorem dX12_doPut_49 : decode cX12_doPut 49 = .ok (.invokevirtual 346, 3) := by decide +kernel
theorem dX12_doPut_52 : decode cX12_doPut 52 = .ok (.invokevirtual 350, 3) := by decide +kernel
theorem dX12_doPut_55 : decode cX12_doPut 55 = .ok (.return_, 1) := by decide +kernel
theorem dX12_drop_0 : decode cX12_drop 0 = .ok (.aload_n 0, 1) := by decide +kernel
theorem dX12_drop_1 : decode cX12_drop 1 = .ok (.iconst 0, 1) := by decide +kernel
theorem dX12_drop_2 : decode cX12_drop 2 = .ok (.putfield 161, 3) := by decide +kernel
theorem dX12_drop_5 : decode cX12_drop 5 = .ok (.aload_n 0, 1) := by decide +kernel
theorem dX12_drop_6 : decode cX12_drop 6 = .ok (.getfield 288, 3) := by decide +kernel
