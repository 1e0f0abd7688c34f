theorem dX12_init_151 : decode cX12_init 151 = .ok (.newarray .int, 2) := by decide +kernel
theorem dX12_init_153 : decode cX12_init 153 = .ok (.putfield 61, 3) := by decide +kernel
theorem dX12_init_156 : decode cX12_init 156 = .ok (.aload_n 0, 1) := by decide +kernel
theorem dX12_init_157 : decode cX12_init 157 = .ok (.bipush 13, 2) := by decide +kernel
theorem dX12_init_159 : decode cX12_init 159 = .ok (.newarray .int, 2) := by decide +kernel
theorem dX12_init_161 : decode cX12_init 161 = .ok (.putfield 64, 3) := by decide +kernel
theorem dX12_init_164 : decode cX12_init 164 = .ok (.aload_n 0, 1) := by decide +kernel
theorem dX12_init_165 : decode cX12_init 165 = .ok (.bipush 16, 2) := by decide +kernel
theorem dX12_init_167 : decode cX12_init 167 = .ok (.newarray .int, 2) := by decide +kernel
theorem dX12_init_169 : decode cX12_init 169 = .ok (.putfield 67, 3) := by decide +kernel
theorem dX12_init_172 : decode cX12_init 172 = .ok (.aload_n 0, 1) := by decide +kernel
theorem dX12_init_173 : decode cX12_init 173 = .ok (.bipush 16, 2) := by decide +kernel
theorem dX12_init_175 : decode cX12_init 175 = .ok (.newarray .int, 2) := by decide +kernel
theorem dX12_init_177 : decode cX12_init 177 = .ok (.putfield 70, 3) := by decide +kernel
theorem dX12_init_180 : decode cX12_init 180 = .ok (.aload_n 0, 1) := by decide +kernel
theorem dX12_init_181 : decode cX12_init 181 = .ok (.bipush 16, 2) := by decide +kernel
theorem dX12_init_183 : decode cX12_init 183 = .ok (.newarray .int, 2) := by decide +kernel
theorem dX12_init_185 : decode cX12_init 185 = .ok (.putfield 73, 3) := by decide +kernel
theorem dX12_init_188 : decode cX12_init 188 = .ok (.aload_n 0, 1) := by decide +kernel
theorem dX12_init_189 : decode cX12_init 189 = .ok (.bipush 26, 2) := by decide +kernel
theorem dX12_init_191 : decode cX12_init 191 = .ok (.newarray .boolean, 2) := by decide +kernel
theorem dX12_init_193 : decode cX12_init 193 = .ok (.putfield 76, 3) := by decide +kernel
theorem dX12_init_196 : decode cX12_init 196 = .ok (.aload_n 0, 1) := by decide +kernel
theorem dX12_init_197 : decode cX12_init 197 = .ok (.bipush 26, 2) := by decide +kernel
theorem dX12_init_199 : decode cX12_init 199 = .ok (.newarray .int, 2) := by decide +kernel
theorem dX12_init_201 : decode cX12_init 201 = .ok (.putfield 80, 3) := by decide +kernel
theorem dX12_init_204 : decode cX12_init 204 = .ok (.aload_n 0, 1) := by decide +kernel
theorem dX12_init_205 : decode cX12_init 205 = .ok (.bipush 26, 2) := by decide +kernel
theorem dX12_init_207 : decode cX12_init 207 = .ok (.newarray .int, 2) := by decide +kernel
theorem dX12_init_209 : decode cX12_init 209 = .ok (.putfield 83, 3) := by decide +kernel
theorem dX12_init_212 : decode cX12_init 212 = .ok (.aload_n 0, 1) := by decide +kernel
theorem dX12_init_213 : decode cX12_init 213 = .ok (.bipush 26, 2) := by decide +kernel
theorem dX12_init_215 : decode cX12_init 215 = .ok (.newarray .int, 2) := by decide +kernel
theorem dX12_init_217 : decode cX12_init 217 = .ok (.putfield 86, 3) := by decide +kernel
theorem dX12_init_220 : decode cX12_init 220 = .ok (.aload_n 0, 1) := by decide +kernel
theorem dX12_init_221 : decode cX12_init 221 = .ok (.bipush 26, 2) := by decide +kernel
theorem dX12_init_223 : decode cX12_init 223 = .ok (.newarray .int, 2) := by decide +kernel
theorem dX12_init_225 : decode cX12_init 225 = .ok (.putfield 89, 3) := by decide +kernel
theorem dX12_init_228 : decode cX12_init 228 = .ok (.aload_n 0, 1) := by decide +kernel
theorem dX12_init_229 : decode cX12_init 229 = .ok (.bipush 26, 2) := by decide +kernel
theorem dX12_init_231 : decode cX12_init 231 = .ok (.newarray .int, 2) := by decide +kernel
theorem dX12_init_233 : decode cX12_init 233 = .ok (.putfield 92, 3) := by decide +kernel
theorem dX12_init_236 : decode cX12_init 236 = .ok (.aload_n 0, 1) := by decide +kernel
theorem dX12_init_237 : decode cX12_init 237 = .ok (.bipush 12, 2) := by decide +kernel
theorem dX12_init_239 : decode cX12_init 239 = .ok (.newarray .int, 2) := by decide +kernel
theorem dX12_init_241 : decode cX12_init 241 = .ok (.putfield 95, 3) := by decide +kernel
theorem dX12_init_244 : decode cX12_init 244 = .ok (.aload_n 0, 1) := by decide +kernel
theorem dX12_init_245 : decode cX12_init 245 = .ok (.bipush 12, 2) := by decide +kernel
theorem dX12_init_247 : decode cX12_init 247 = .ok (.newarray .int, 2) := by decide +kernel
theorem dX12_init_249 : decode cX12_init 249 = .ok (.putfield 98, 3) := by decide +kernel
theorem dX12_init_252 : decode cX12_init 252 = .ok (.aload_n 0, 1) := by decide +kernel
theorem dX12_init_253 : decode cX12_init 253 = .ok (.bipush 12, 2) := by decide +kernel
theorem dX12_init_255 : decode cX12_init 255 = .ok (.newarray .int, 2) := by decide +kernel
theorem dX12_init_257 : decode cX12_init 257 = .ok (.putfield 101, 3) := by decide +kernel
theorem dX12_init_260 : decode cX12_init 260 = .ok (.aload_n 0, 1) := by decide +kernel
theorem dX12_init_261 : decode cX12_init 261 = .ok (.bipush 12, 2) := by decide +kernel
theorem dX12_init_263 : decode cX12_init 263 = .ok (.newarray .int, 2) := by decide +kernel
theorem dX12_init_265 : decode cX12_init 265 = .ok (.putfield 104, 3) := by decide +kernel
theorem dX12_init_268 : decode cX12_init 268 = .ok (.aload_n 0, 1) := by decide +kernel
theorem dX12_init_269 : decode cX12_init 269 = .ok (.bipush 78, 2) := by decide +kernel
theorem dX12_init_271 : decode cX12_init 271 = .ok (.newarray .int, 2) := by decide +kernel
theorem dX12_init_273 : decode cX12_init 273 = .ok (.putfield 107, 3) := by decide +kernel
theorem dX12_init_276 : decode cX12_init 276 = .ok (.aload_n 0, 1) := by decide +kernel
theorem dX12_init_277 : decode cX12_init 277 = .ok (.bipush 78, 2) := by decide +kernel
theorem dX12_init_279 : decode cX12_init 279 = .ok (.newarray .int, 2) := by decide +kernel
theorem dX12_init_281 : decode cX12_init 281 = .ok (.putfield 110, 3) := by decide +kernel
theorem dX12_init_284 : decode cX12_init 284 = .ok (.aload_n 0, 1) := by decide +kernel
theorem dX12_init_285 : decode cX12_init 285 = .ok (.bipush 78, 2) := by decide +kernel
theorem dX12_init_287 : decode cX12_init 287 = .ok (.newarray .int, 2) := by decide +kernel
theorem dX12_init_289 : decode cX12_init 289 = .ok (.putfield 113, 3) := by decide +kernel
theorem dX12_init_292 : decode cX12_init 292 = .ok (.aload_n 0, 1) := by decide +kernel
theorem dX12_init_293 : decode cX12_init 293 = .ok (.bipush 36, 2) := by decide +kernel
theorem dX12_init_295 : decode cX12_init 295 = .ok (.newarray .boolean, 2) := by decide +kernel
theorem dX12_init_297 : decode cX12_init 297 = .ok (.putfield 116, 3) := by decide +kernel
theorem dX12_init_300 : decode cX12_init 300 = .ok (.aload_n 0, 1) := by decide +kernel
theorem dX12_init_301 : decode cX12_init 301 = .ok (.bipush 64, 2) := by decide +kernel
theorem dX12_init_303 : decode cX12_init 303 = .ok (.newarray .int, 2) := by decide +kernel
theorem dX12_init_305 : decode cX12_init 305 = .ok (.putfield 119, 3) := by decide +kernel
theorem dX12_init_308 : decode cX12_init 308 = .ok (.aload_n 0, 1) := by decide +kernel
theorem dX12_init_309 : decode cX12_init 309 = .ok (.bipush 64, 2) := by decide +kernel
theorem dX12_init_311 : decode cX12_init 311 = .ok (.newarray .int, 2) := by decide +kernel
theorem dX12_init_313 : decode cX12_init 313 = .ok (.putfield 122, 3) := by decide +kernel
theorem dX12_init_316 : decode cX12_init 316 = .ok (.aload_n 0, 1) := by decide +kernel
theorem dX12_init_317 : decode cX12_init 317 = .ok (.bipush 64, 2) := by decide +kernel
theorem dX12_init_319 : decode cX12_init 319 = .ok (.newarray .int, 2) := by decide +kernel
theorem dX12_init_321 : decode cX12_init 321 = .ok (.putfield 125, 3) := by decide +kernel
theorem dX12_init_324 : decode cX12_init 324 = .ok (.aload_n 0, 1) := by decide +kernel
theorem dX12_init_325 : decode cX12_init 325 = .ok (.bipush 8, 2) := by decide +kernel
theorem dX12_init_327 : decode cX12_init 327 = .ok (.newarray .int, 2) := by decide +kernel
theorem dX12_init_329 : decode cX12_init 329 = .ok (.putfield 128, 3) := by decide +kernel
theorem dX12_init_332 : decode cX12_init 332 = .ok (.aload_n 0, 1) := by decide +kernel
theorem dX12_init_333 : decode cX12_init 333 = .ok (.bipush 8, 2) := by decide +kernel
theorem dX12_init_335 : decode cX12_init 335 = .ok (.newarray .int, 2) := by decide +kernel
theorem dX12_init_337 : decode cX12_init 337 = .ok (.putfield 131, 3) := by decide +kernel
theorem dX12_init_340 : decode cX12_init 340 = .ok (.aload_n 0, 1) := by decide +kernel
theorem dX12_init_341 : decode cX12_init 341 = .ok (.bipush 40, 2) := by decide +kernel
theorem dX12_init_343 : decode cX12_init 343 = .ok (.newarray .int, 2) := by decide +kernel
theorem dX12_init_345 : decode cX12_init 345 = .ok (.putfield 134, 3) := by decide +kernel
theorem dX12_init_348 : decode cX12_init 348 = .ok (.aload_n 0, 1) := by decide +kernel
theorem dX12_init_349 : decode cX12_init 349 = .ok (.bipush 40, 2) := by decide +kernel
theorem dX12_init_351 : decode cX12_init 351 = .ok (.newarray .int, 2) := by decide +kernel
theorem dX12_init_353 : decode cX12_init 353 = .ok (.putfield 137, 3) := by decide +kernel
theorem dX12_init_356 : decode cX12_init 356 = .ok (.aload_n 0, 1) := by decide +kernel
theorem dX12_init_357 : decode cX12_init 357 = .ok (.bipush 40, 2) := by decide +kernel
theorem dX12_init_359 : decode cX12_init 359 = .ok (.newarray .int, 2) := by decide +kernel
theorem dX12_init_361 : decode cX12_init 361 = .ok (.putfield 140, 3) := by decide +kernel
theorem dX12_init_364 : decode cX12_init 364 = .ok (.aload_n 0, 1) := by decide +kernel
theorem dX12_init_365 : decode cX12_init 365 = .ok (.sipush 1001, 3) := by decide +kernel
theorem dX12_init_368 : decode cX12_init 368 = .ok (.newarray .int, 2) := by decide +kernel
theorem dX12_init_370 : decode cX12_init 370 = .ok (.putfield 143, 3) := by decide +kernel
theorem dX12_init_373 : decode cX12_init 373 = .ok (.aload_n 0, 1) := by decide +kernel
theorem dX12_init_374 : decode cX12_init 374 = .ok (.sipush 26026, 3) := by decide +kernel
theorem dX12_init_377 : decode cX12_init 377 = .ok (.newarray .int, 2) := by decide +kernel
theorem dX12_init_379 : decode cX12_init 379 = .ok (.putfield 146, 3) := by decide +kernel
theorem dX12_init_382 : decode cX12_init 382 = .ok (.aload_n 0, 1) := by decide +kernel
theorem dX12_init_383 : decode cX12_init 383 = .ok (.sipush 1001, 3) := by decide +kernel
theorem dX12_init_386 : decode cX12_init 386 = .ok (.newarray .int, 2) := by decide +kernel
theorem dX12_init_388 : decode cX12_init 388 = .ok (.putfield 149, 3) := by decide +kernel
theorem dX12_init_391 : decode cX12_init 391 = .ok (.aload_n 0, 1) := by decide +kernel
theorem dX12_init_392 : decode cX12_init 392 = .ok (.bipush 64, 2) := by decide +kernel
theorem dX12_init_394 : decode cX12_init 394 = .ok (.newarray .int, 2) := by decide +kernel
theorem dX12_init_396 : decode cX12_init 396 = .ok (.putfield 152, 3) := by decide +kernel
theorem dX12_init_399 : decode cX12_init 399 = .ok (.aload_n 0, 1) := by decide +kernel
theorem dX12_init_400 : decode cX12_init 400 = .ok (.bipush 64, 2) := by decide +kernel
theorem dX12_init_402 : decode cX12_init 402 = .ok (.newarray .int, 2) := by decide +kernel
theorem dX12_init_404 : decode cX12_init 404 = .ok (.putfield 155, 3) := by decide +kernel
theorem dX12_init_407 : decode cX12_init 407 = .ok (.aload_n 0, 1) := by decide +kernel
theorem dX12_init_408 : decode cX12_init 408 = .ok (.bipush 64, 2) := by decide +kernel
theorem dX12_init_410 : decode cX12_init 410 = .ok (.newarray .int, 2) := by decide +kernel
theorem dX12_init_412 : decode cX12_init 412 = .ok (.putfield 158, 3) := by decide +kernel
theorem dX12_init_415 : decode cX12_init 415 = .ok (.return_, 1) := by decide +kernel
theorem dX12_isFetch_0 : decode cX12_isFetch 0 = .ok (.aload_n 0, 1) := by decide +kernel
theorem dX12_isFetch_1 : decode cX12_isFetch 1 = .ok (.iload_n 1, 1) := by decide +kernel
theorem dX12_isFetch_2 : decode cX12_isFetch 2 = .ok (.invokevirtual 317, 3) := by decide +kernel
theorem dX12_isFetch_5 : decode cX12_isFetch 5 = .ok (.ifCond .eq 18, 3) := by decide +kernel
theorem dX12_isFetch_23 : decode cX12_isFetch 23 = .ok (.iconst 0, 1) := by decide +kernel
theorem dX12_isFetch_24 : decode cX12_isFetch 24 = .ok (.ireturn, 1) := by decide +kernel
theorem dX12_isField_0 : decode cX12_isField 0 = .ok (.aload_n 0, 1) := by decide +kernel
theorem dX12_isField_1 : decode cX12_isField 1 = .ok (.getfield 257, 3) := by decide +kernel
theorem dX12_isField_4 : decode cX12_isField 4 = .ok (.ifCond .eq 26, 3) := by decide +kernel
theorem dX12_isField_30 : decode cX12_isField 30 = .ok (.iconst 0, 1) := by decide +kernel
theorem dX12_isField_31 : decode cX12_isField 31 = .ok (.ireturn, 1) := by decide +kernel
theorem dX12_isPut_0 : decode cX12_isPut 0 = .ok (.aload_n 0, 1) := by decide +kernel
theorem dX12_isPut_1 : decode cX12_isPut 1 = .ok (.iload_n 1, 1) := by decide +kernel
theorem dX12_isPut_2 : decode cX12_isPut 2 = .ok (.invokevirtual 317, 3) := by decide +kernel
theorem dX12_isPut_5 : decode cX12_isPut 5 = .ok (.ifCond .eq 38, 3) := by decide +kernel
theorem dX12_isPut_43 : decode cX12_isPut 43 = .ok (.iconst 0, 1) := by decide +kernel
theorem dX12_isPut_44 : decode cX12_isPut 44 = .ok (.ireturn, 1) := by decide +kernel
theorem dX12_join_0 : decode cX12_join 0 = .ok (.aload_n 0, 1) := by decide +kernel
theorem dX12_join_1 : decode cX12_join 1 = .ok (.iconst 0, 1) := by decide +kernel
theorem dX12_join_2 : decode cX12_join 2 = .ok (.putfield 161, 3) := by decide +kernel
theorem dX12_join_5 : decode cX12_join 5 = .ok (.aload_n 0, 1) := by decide +kernel
theorem dX12_join_6 : decode cX12_join 6 = .ok (.iload_n 1, 1) := by decide +kernel
theorem dX12_join_7 : decode cX12_join 7 = .ok (.iload_n 2, 1) := by decide +kernel
theorem dX12_join_8 : decode cX12_join 8 = .ok (.invokevirtual 366, 3) := by decide +kernel
theorem dX12_join_11 : decode cX12_join 11 = .ok (.ifCond .eq 12, 3) := by decide +kernel
theorem dX12_join_23 : decode cX12_join 23 = .ok (.iconst (-1), 1) := by decide +kernel
theorem dX12_join_24 : decode cX12_join 24 = .ok (.ireturn, 1) := by decide +kernel
theorem dX12_poke_0 : decode cX12_poke 0 = .ok (.aload_n 0, 1) := by decide +kernel
theorem dX12_poke_1 : decode cX12_poke 1 = .ok (.iconst 0, 1) := by decide +kernel
theorem dX12_poke_2 : decode cX12_poke 2 = .ok (.putfield 161, 3) := by decide +kernel
theorem dX12_poke_5 : decode cX12_poke 5 = .ok (.aload_n 0, 1) := by decide +kernel
theorem dX12_poke_6 : decode cX12_poke 6 = .ok (.iload_n 1, 1) := by decide +kernel
theorem dX12_poke_7 : decode cX12_poke 7 = .ok (.invokevirtual 317, 3) := by decide +kernel
theorem dX12_poke_10 : decode cX12_poke 10 = .ok (.ifCond .eq 45, 3) := by decide +kernel
theorem dX12_poke_55 : decode cX12_poke 55 = .ok (.iconst 0, 1) := by decide +kernel
theorem dX12_poke_56 : decode cX12_poke 56 = .ok (.ireturn, 1) := by decide +kernel
theorem dX12_put_0 : decode cX12_put 0 = .ok (.aload_n 0, 1) := by decide +kernel
theorem dX12_put_1 : decode cX12_put 1 = .ok (.iconst 0, 1) := by decide +kernel
theorem dX12_put_2 : decode cX12_put 2 = .ok (.putfield 161, 3) := by decide +kernel
theorem dX12_put_5 : decode cX12_put 5 = .ok (.aload_n 0, 1) := by decide +kernel
theorem dX12_put_6 : decode cX12_put 6 = .ok (.iload_n 1, 1) := by decide +kernel
theorem dX12_put_7 : decode cX12_put 7 = .ok (.iload_n 2, 1) := by decide +kernel
theorem dX12_put_8 : decode cX12_put 8 = .ok (.invokevirtual 366, 3) := by decide +kernel
theorem dX12_put_11 : decode cX12_put 11 = .ok (.ifCond .eq 10, 3) := by decide +kernel
theorem dX12_put_21 : decode cX12_put 21 = .ok (.iconst (-1), 1) := by decide +kernel
theorem dX12_put_22 : decode cX12_put 22 = .ok (.ireturn, 1) := by decide +kernel
theorem dX12_raise_0 : decode cX12_raise 0 = .ok (.aload_n 0, 1) := by decide +kernel
theorem dX12_raise_1 : decode cX12_raise 1 = .ok (.iload_n 1, 1) := by decide +kernel
theorem dX12_raise_2 : decode cX12_raise 2 = .ok (.putfield 161, 3) := by decide +kernel
theorem dX12_raise_5 : decode cX12_raise 5 = .ok (.iconst 0, 1) := by decide +kernel
theorem dX12_raise_6 : decode cX12_raise 6 = .ok (.ireturn, 1) := by decide +kernel
theorem dX12_readAll_0 : decode cX12_readAll 0 = .ok (.aload_n 0, 1) := by decide +kernel
theorem dX12_readAll_1 : decode cX12_readAll 1 = .ok (.iconst 0, 1) := by decide +kernel
theorem dX12_readAll_2 : decode cX12_readAll 2 = .ok (.putfield 170, 3) := by decide +kernel
theorem dX12_readAll_5 : decode cX12_readAll 5 = .ok (.aload_n 0, 1) := by decide +kernel
theorem dX12_readAll_6 : decode cX12_readAll 6 = .ok (.iconst 0, 1) := by decide +kernel
theorem dX12_readAll_7 : decode cX12_readAll 7 = .ok (.putfield 201, 3) := by decide +kernel
theorem dX12_readAll_10 : decode cX12_readAll 10 = .ok (.aload_n 0, 1) := by decide +kernel
theorem dX12_readAll_11 : decode cX12_readAll 11 = .ok (.iconst 0, 1) := by decide +kernel
theorem dX12_readAll_12 : decode cX12_readAll 12 = .ok (.putfield 198, 3) := by decide +kernel
theorem dX12_readAll_15 : decode cX12_readAll 15 = .ok (.aload_n 0, 1) := by decide +kernel
theorem dX12_readAll_16 : decode cX12_readAll 16 = .ok (.iconst 0, 1) := by decide +kernel
theorem dX12_readAll_17 : decode cX12_readAll 17 = .ok (.putfield 223, 3) := by decide +kernel
theorem dX12_readAll_20 : decode cX12_readAll 20 = .ok (.aload_n 0, 1) := by decide +kernel
theorem dX12_readAll_21 : decode cX12_readAll 21 = .ok (.invokevirtual 236, 3) := by decide +kernel
theorem dX12_readAll_24 : decode cX12_readAll 24 = .ok (.ifCond .ne 5, 3) := by decide +kernel
theorem dX12_readAll_27 : decode cX12_readAll 27 = .ok (.iconst 0, 1) := by decide +kernel
theorem dX12_readAll_28 : decode cX12_readAll 28 = .ok (.ireturn, 1) := by decide +kernel
theorem dX12_readRegister_0 : decode cX12_readRegister 0 = .ok (.aload_n 0, 1) := by decide +kernel
theorem dX12_readRegister_1 : decode cX12_readRegister 1 = .ok (.getfield 201, 3) := by decide +kernel
theorem dX12_readRegister_4 : decode cX12_readRegister 4 = .ok (.istore_n 1, 1) := by decide +kernel
theorem dX12_readRegister_5 : decode cX12_readRegister 5 = .ok (.aload_n 0, 1) := by decide +kernel
theorem dX12_readRegister_6 : decode cX12_readRegister 6 = .ok (.getfield 22, 3) := by decide +kernel
theorem dX12_readRegister_9 : decode cX12_readRegister 9 = .ok (.iload_n 1, 1) := by decide +kernel
theorem dX12_readRegister_10 : decode cX12_readRegister 10 = .ok (.aload_n 0, 1) := by decide +kernel
theorem dX12_readRegister_11 : decode cX12_readRegister 11 = .ok (.getfield 170, 3) := by decide +kernel
theorem dX12_readRegister_14 : decode cX12_readRegister 14 = .ok (.iastore, 1) := by decide +kernel
theorem dX12_readRegister_15 : decode cX12_readRegister 15 = .ok (.iload_n 1, 1) := by decide +kernel
theorem dX12_readRegister_16 : decode cX12_readRegister 16 = .ok (.bipush 16, 2) := by decide +kernel
theorem dX12_readRegister_18 : decode cX12_readRegister 18 = .ok (.if_icmp .ne 13, 3) := by decide +kernel
theorem dX12_readRegister_31 : decode cX12_readRegister 31 = .ok (.aload_n 0, 1) := by decide +kernel
theorem dX12_readRegister_32 : decode cX12_readRegister 32 = .ok (.bipush 64, 2) := by decide +kernel
theorem dX12_readRegister_34 : decode cX12_readRegister 34 = .ok (.invokevirtual 214, 3) := by decide +kernel
theorem dX12_readRegister_37 : decode cX12_readRegister 37 = .ok (.ifCond .eq 12, 3) := by decide +kernel
theorem dX12_readRegister_49 : decode cX12_readRegister 49 = .ok (.iconst 0, 1) := by decide +kernel
theorem dX12_readRegister_50 : decode cX12_readRegister 50 = .ok (.ireturn, 1) := by decide +kernel
theorem dX12_reset_0 : decode cX12_reset 0 = .ok (.aload_n 0, 1) := by decide +kernel
theorem dX12_reset_1 : decode cX12_reset 1 = .ok (.iconst 0, 1) := by decide +kernel
theorem dX12_reset_2 : decode cX12_reset 2 = .ok (.putfield 161, 3) := by decide +kernel
theorem dX12_reset_5 : decode cX12_reset 5 = .ok (.aload_n 0, 1) := by decide +kernel
theorem dX12_reset_6 : decode cX12_reset 6 = .ok (.getfield 257, 3) := by decide +kernel
theorem dX12_reset_9 : decode cX12_reset 9 = .ok (.ifCond .ne 5, 3) := by decide +kernel
theorem dX12_reset_12 : decode cX12_reset 12 = .ok (.iconst 0, 1) := by decide +kernel
theorem dX12_reset_13 : decode cX12_reset 13 = .ok (.ireturn, 1) := by decide +kernel
theorem dX12_run_0 : decode cX12_run 0 = .ok (.aload_n 0, 1) := by decide +kernel
theorem dX12_run_1 : decode cX12_run 1 = .ok (.iconst 0, 1) := by decide +kernel
theorem dX12_run_2 : decode cX12_run 2 = .ok (.putfield 161, 3) := by decide +kernel
theorem dX12_run_5 : decode cX12_run 5 = .ok (.aload_n 0, 1) := by decide +kernel
theorem dX12_run_6 : decode cX12_run 6 = .ok (.getfield 257, 3) := by decide +kernel
theorem dX12_run_9 : decode cX12_run 9 = .ok (.ifCond .eq 10, 3) := by decide +kernel
theorem dX12_run_19 : decode cX12_run 19 = .ok (.iconst (-1), 1) := by decide +kernel
theorem dX12_run_20 : decode cX12_run 20 = .ok (.ireturn, 1) := by decide +kernel
theorem dX12_state_0 : decode cX12_state 0 = .ok (.aload_n 0, 1) := by decide +kernel
theorem dX12_state_1 : decode cX12_state 1 = .ok (.iconst 0, 1) := by decide +kernel
theorem dX12_state_2 : decode cX12_state 2 = .ok (.putfield 161, 3) := by decide +kernel
theorem dX12_state_5 : decode cX12_state 5 = .ok (.iload_n 1, 1) := by decide +kernel
theorem dX12_state_6 : decode cX12_state 6 = .ok (.ifCond .ne 10, 3) := by decide +kernel
theorem dX12_state_9 : decode cX12_state 9 = .ok (.aload_n 0, 1) := by decide +kernel
theorem dX12_state_10 : decode cX12_state 10 = .ok (.getfield 282, 3) := by decide +kernel
theorem dX12_state_13 : decode cX12_state 13 = .ok (.goto 52, 3) := by decide +kernel
theorem dX12_state_16 : decode cX12_state 16 = .ok (.iload_n 1, 1) := by decide +kernel
theorem dX12_state_17 : decode cX12_state 17 = .ok (.iconst 1, 1) := by decide +kernel
theorem dX12_state_18 : decode cX12_state 18 = .ok (.if_icmp .ne 10, 3) := by decide +kernel
theorem dX12_state_21 : decode cX12_state 21 = .ok (.aload_n 0, 1) := by decide +kernel
theorem dX12_state_22 : decode cX12_state 22 = .ok (.getfield 285, 3) := by decide +kernel
theorem dX12_state_25 : decode cX12_state 25 = .ok (.goto 40, 3) := by decide +kernel
theorem dX12_state_28 : decode cX12_state 28 = .ok (.iload_n 1, 1) := by decide +kernel
theorem dX12_state_29 : decode cX12_state 29 = .ok (.iconst 2, 1) := by decide +kernel
theorem dX12_state_30 : decode cX12_state 30 = .ok (.if_icmp .ne 10, 3) := by decide +kernel
theorem dX12_state_33 : decode cX12_state 33 = .ok (.aload_n 0, 1) := by decide +kernel
theorem dX12_state_34 : decode cX12_state 34 = .ok (.getfield 288, 3) := by decide +kernel
theorem dX12_state_37 : decode cX12_state 37 = .ok (.goto 28, 3) := by decide +kernel
theorem dX12_state_40 : decode cX12_state 40 = .ok (.iload_n 1, 1) := by decide +kernel
theorem dX12_state_41 : decode cX12_state 41 = .ok (.iconst 3, 1) := by decide +kernel
theorem dX12_state_42 : decode cX12_state 42 = .ok (.if_icmp .ne 10, 3) := by decide +kernel
theorem dX12_state_45 : decode cX12_state 45 = .ok (.aload_n 0, 1) := by decide +kernel
theorem dX12_state_46 : decode cX12_state 46 = .ok (.getfield 267, 3) := by decide +kernel
theorem dX12_state_49 : decode cX12_state 49 = .ok (.goto 16, 3) := by decide +kernel
theorem dX12_state_52 : decode cX12_state 52 = .ok (.iload_n 1, 1) := by decide +kernel
