theorem dX1_compile_271 : decode cX1_compile 271 = .ok (.iload_n 2, 1) := by decide +kernel
theorem dX1_compile_272 : decode cX1_compile 272 = .ok (.iaload, 1) := by decide +kernel
theorem dX1_compile_273 : decode cX1_compile 273 = .ok (.iastore, 1) := by decide +kernel
theorem dX1_compile_274 : decode cX1_compile 274 = .ok (.aload_n 0, 1) := by decide +kernel
theorem dX1_compile_275 : decode cX1_compile 275 = .ok (.getfield 104, 3) := by decide +kernel
theorem dX1_compile_278 : decode cX1_compile 278 = .ok (.iload_n 2, 1) := by decide +kernel
theorem dX1_compile_279 : decode cX1_compile 279 = .ok (.aload_n 0, 1) := by decide +kernel
theorem dX1_compile_280 : decode cX1_compile 280 = .ok (.getfield 58, 3) := by decide +kernel
theorem dX1_compile_283 : decode cX1_compile 283 = .ok (.iload_n 2, 1) := by decide +kernel
theorem dX1_compile_284 : decode cX1_compile 284 = .ok (.iaload, 1) := by decide +kernel
theorem dX1_compile_285 : decode cX1_compile 285 = .ok (.iastore, 1) := by decide +kernel
theorem dX1_compile_286 : decode cX1_compile 286 = .ok (.iinc 2 1, 3) := by decide +kernel
theorem dX1_compile_289 : decode cX1_compile 289 = .ok (.goto (-59), 3) := by decide +kernel
theorem dX1_compile_292 : decode cX1_compile 292 = .ok (.aload_n 0, 1) := by decide +kernel
theorem dX1_compile_293 : decode cX1_compile 293 = .ok (.iconst 0, 1) := by decide +kernel
theorem dX1_compile_294 : decode cX1_compile 294 = .ok (.putfield 267, 3) := by decide +kernel
theorem dX1_compile_297 : decode cX1_compile 297 = .ok (.aload_n 0, 1) := by decide +kernel
theorem dX1_compile_298 : decode cX1_compile 298 = .ok (.iconst 0, 1) := by decide +kernel
theorem dX1_compile_299 : decode cX1_compile 299 = .ok (.putfield 270, 3) := by decide +kernel
theorem dX1_compile_302 : decode cX1_compile 302 = .ok (.aload_n 0, 1) := by decide +kernel
theorem dX1_compile_303 : decode cX1_compile 303 = .ok (.iconst 0, 1) := by decide +kernel
theorem dX1_compile_304 : decode cX1_compile 304 = .ok (.putfield 273, 3) := by decide +kernel
theorem dX1_compile_307 : decode cX1_compile 307 = .ok (.aload_n 0, 1) := by decide +kernel
theorem dX1_compile_308 : decode cX1_compile 308 = .ok (.invokevirtual 276, 3) := by decide +kernel
theorem dX1_compile_311 : decode cX1_compile 311 = .ok (.aload_n 0, 1) := by decide +kernel
theorem dX1_compile_312 : decode cX1_compile 312 = .ok (.getfield 261, 3) := by decide +kernel
theorem dX1_compile_315 : decode cX1_compile 315 = .ok (.ireturn, 1) := by decide +kernel
theorem dX1_copyDevice_0 : decode cX1_copyDevice 0 = .ok (.iconst 0, 1) := by decide +kernel
theorem dX1_copyDevice_1 : decode cX1_copyDevice 1 = .ok (.istore_n 3, 1) := by decide +kernel
theorem dX1_copyDevice_2 : decode cX1_copyDevice 2 = .ok (.iload_n 3, 1) := by decide +kernel
theorem dX1_copyDevice_3 : decode cX1_copyDevice 3 = .ok (.bipush 26, 2) := by decide +kernel
theorem dX1_copyDevice_5 : decode cX1_copyDevice 5 = .ok (.if_icmp .ge 75, 3) := by decide +kernel
theorem dX1_copyDevice_8 : decode cX1_copyDevice 8 = .ok (.aload_n 0, 1) := by decide +kernel
theorem dX1_copyDevice_9 : decode cX1_copyDevice 9 = .ok (.getfield 107, 3) := by decide +kernel
theorem dX1_copyDevice_12 : decode cX1_copyDevice 12 = .ok (.bipush 26, 2) := by decide +kernel
theorem dX1_copyDevice_14 : decode cX1_copyDevice 14 = .ok (.iload_n 2, 1) := by decide +kernel
theorem dX1_copyDevice_15 : decode cX1_copyDevice 15 = .ok (.imul, 1) := by decide +kernel
theorem dX1_copyDevice_16 : decode cX1_copyDevice 16 = .ok (.iload_n 3, 1) := by decide +kernel
theorem dX1_copyDevice_17 : decode cX1_copyDevice 17 = .ok (.iadd, 1) := by decide +kernel
theorem dX1_copyDevice_18 : decode cX1_copyDevice 18 = .ok (.aload_n 0, 1) := by decide +kernel
theorem dX1_copyDevice_19 : decode cX1_copyDevice 19 = .ok (.getfield 107, 3) := by decide +kernel
theorem dX1_copyDevice_22 : decode cX1_copyDevice 22 = .ok (.bipush 26, 2) := by decide +kernel
theorem dX1_copyDevice_24 : decode cX1_copyDevice 24 = .ok (.iload_n 1, 1) := by decide +kernel
theorem dX1_copyDevice_25 : decode cX1_copyDevice 25 = .ok (.imul, 1) := by decide +kernel
theorem dX1_copyDevice_26 : decode cX1_copyDevice 26 = .ok (.iload_n 3, 1) := by decide +kernel
theorem dX1_copyDevice_27 : decode cX1_copyDevice 27 = .ok (.iadd, 1) := by decide +kernel
theorem dX1_copyDevice_28 : decode cX1_copyDevice 28 = .ok (.iaload, 1) := by decide +kernel
theorem dX1_copyDevice_29 : decode cX1_copyDevice 29 = .ok (.iastore, 1) := by decide +kernel
theorem dX1_copyDevice_30 : decode cX1_copyDevice 30 = .ok (.aload_n 0, 1) := by decide +kernel
theorem dX1_copyDevice_31 : decode cX1_copyDevice 31 = .ok (.getfield 110, 3) := by decide +kernel
theorem dX1_copyDevice_34 : decode cX1_copyDevice 34 = .ok (.bipush 26, 2) := by decide +kernel
theorem dX1_copyDevice_36 : decode cX1_copyDevice 36 = .ok (.iload_n 2, 1) := by decide +kernel
theorem dX1_copyDevice_37 : decode cX1_copyDevice 37 = .ok (.imul, 1) := by decide +kernel
theorem dX1_copyDevice_38 : decode cX1_copyDevice 38 = .ok (.iload_n 3, 1) := by decide +kernel
theorem dX1_copyDevice_39 : decode cX1_copyDevice 39 = .ok (.iadd, 1) := by decide +kernel
theorem dX1_copyDevice_40 : decode cX1_copyDevice 40 = .ok (.aload_n 0, 1) := by decide +kernel
theorem dX1_copyDevice_41 : decode cX1_copyDevice 41 = .ok (.getfield 110, 3) := by decide +kernel
theorem dX1_copyDevice_44 : decode cX1_copyDevice 44 = .ok (.bipush 26, 2) := by decide +kernel
theorem dX1_copyDevice_46 : decode cX1_copyDevice 46 = .ok (.iload_n 1, 1) := by decide +kernel
theorem dX1_copyDevice_47 : decode cX1_copyDevice 47 = .ok (.imul, 1) := by decide +kernel
theorem dX1_copyDevice_48 : decode cX1_copyDevice 48 = .ok (.iload_n 3, 1) := by decide +kernel
theorem dX1_copyDevice_49 : decode cX1_copyDevice 49 = .ok (.iadd, 1) := by decide +kernel
theorem dX1_copyDevice_50 : decode cX1_copyDevice 50 = .ok (.iaload, 1) := by decide +kernel
theorem dX1_copyDevice_51 : decode cX1_copyDevice 51 = .ok (.iastore, 1) := by decide +kernel
theorem dX1_copyDevice_52 : decode cX1_copyDevice 52 = .ok (.aload_n 0, 1) := by decide +kernel
theorem dX1_copyDevice_53 : decode cX1_copyDevice 53 = .ok (.getfield 113, 3) := by decide +kernel
theorem dX1_copyDevice_56 : decode cX1_copyDevice 56 = .ok (.bipush 26, 2) := by decide +kernel
theorem dX1_copyDevice_58 : decode cX1_copyDevice 58 = .ok (.iload_n 2, 1) := by decide +kernel
theorem dX1_copyDevice_59 : decode cX1_copyDevice 59 = .ok (.imul, 1) := by decide +kernel
theorem dX1_copyDevice_60 : decode cX1_copyDevice 60 = .ok (.iload_n 3, 1) := by decide +kernel
theorem dX1_copyDevice_61 : decode cX1_copyDevice 61 = .ok (.iadd, 1) := by decide +kernel
theorem dX1_copyDevice_62 : decode cX1_copyDevice 62 = .ok (.aload_n 0, 1) := by decide +kernel
theorem dX1_copyDevice_63 : decode cX1_copyDevice 63 = .ok (.getfield 113, 3) := by decide +kernel
theorem dX1_copyDevice_66 : decode cX1_copyDevice 66 = .ok (.bipush 26, 2) := by decide +kernel
theorem dX1_copyDevice_68 : decode cX1_copyDevice 68 = .ok (.iload_n 1, 1) := by decide +kernel
theorem dX1_copyDevice_69 : decode cX1_copyDevice 69 = .ok (.imul, 1) := by decide +kernel
theorem dX1_copyDevice_70 : decode cX1_copyDevice 70 = .ok (.iload_n 3, 1) := by decide +kernel
theorem dX1_copyDevice_71 : decode cX1_copyDevice 71 = .ok (.iadd, 1) := by decide +kernel
theorem dX1_copyDevice_72 : decode cX1_copyDevice 72 = .ok (.iaload, 1) := by decide +kernel
theorem dX1_copyDevice_73 : decode cX1_copyDevice 73 = .ok (.iastore, 1) := by decide +kernel
theorem dX1_copyDevice_74 : decode cX1_copyDevice 74 = .ok (.iinc 3 1, 3) := by decide +kernel
theorem dX1_copyDevice_77 : decode cX1_copyDevice 77 = .ok (.goto (-75), 3) := by decide +kernel
theorem dX1_copyDevice_80 : decode cX1_copyDevice 80 = .ok (.iconst 0, 1) := by decide +kernel
theorem dX1_copyDevice_81 : decode cX1_copyDevice 81 = .ok (.istore_n 3, 1) := by decide +kernel
theorem dX1_copyDevice_82 : decode cX1_copyDevice 82 = .ok (.iload_n 3, 1) := by decide +kernel
theorem dX1_copyDevice_83 : decode cX1_copyDevice 83 = .ok (.bipush 12, 2) := by decide +kernel
theorem dX1_copyDevice_85 : decode cX1_copyDevice 85 = .ok (.if_icmp .ge 31, 3) := by decide +kernel
theorem dX1_copyDevice_88 : decode cX1_copyDevice 88 = .ok (.aload_n 0, 1) := by decide +kernel
theorem dX1_copyDevice_89 : decode cX1_copyDevice 89 = .ok (.getfield 116, 3) := by decide +kernel
theorem dX1_copyDevice_92 : decode cX1_copyDevice 92 = .ok (.bipush 12, 2) := by decide +kernel
theorem dX1_copyDevice_94 : decode cX1_copyDevice 94 = .ok (.iload_n 2, 1) := by decide +kernel
theorem dX1_copyDevice_95 : decode cX1_copyDevice 95 = .ok (.imul, 1) := by decide +kernel
theorem dX1_copyDevice_96 : decode cX1_copyDevice 96 = .ok (.iload_n 3, 1) := by decide +kernel
theorem dX1_copyDevice_97 : decode cX1_copyDevice 97 = .ok (.iadd, 1) := by decide +kernel
theorem dX1_copyDevice_98 : decode cX1_copyDevice 98 = .ok (.aload_n 0, 1) := by decide +kernel
theorem dX1_copyDevice_99 : decode cX1_copyDevice 99 = .ok (.getfield 116, 3) := by decide +kernel
theorem dX1_copyDevice_102 : decode cX1_copyDevice 102 = .ok (.bipush 12, 2) := by decide +kernel
theorem dX1_copyDevice_104 : decode cX1_copyDevice 104 = .ok (.iload_n 1, 1) := by decide +kernel
theorem dX1_copyDevice_105 : decode cX1_copyDevice 105 = .ok (.imul, 1) := by decide +kernel
theorem dX1_copyDevice_106 : decode cX1_copyDevice 106 = .ok (.iload_n 3, 1) := by decide +kernel
theorem dX1_copyDevice_107 : decode cX1_copyDevice 107 = .ok (.iadd, 1) := by decide +kernel
theorem dX1_copyDevice_108 : decode cX1_copyDevice 108 = .ok (.baload, 1) := by decide +kernel
theorem dX1_copyDevice_109 : decode cX1_copyDevice 109 = .ok (.bastore, 1) := by decide +kernel
theorem dX1_copyDevice_110 : decode cX1_copyDevice 110 = .ok (.iinc 3 1, 3) := by decide +kernel
theorem dX1_copyDevice_113 : decode cX1_copyDevice 113 = .ok (.goto (-31), 3) := by decide +kernel
theorem dX1_copyDevice_116 : decode cX1_copyDevice 116 = .ok (.return_, 1) := by decide +kernel
theorem dX1_doFetch_0 : decode cX1_doFetch 0 = .ok (.aload_n 0, 1) := by decide +kernel
theorem dX1_doFetch_1 : decode cX1_doFetch 1 = .ok (.aload_n 0, 1) := by decide +kernel
theorem dX1_doFetch_2 : decode cX1_doFetch 2 = .ok (.getfield 107, 3) := by decide +kernel
theorem dX1_doFetch_5 : decode cX1_doFetch 5 = .ok (.iload_n 1, 1) := by decide +kernel
theorem dX1_doFetch_6 : decode cX1_doFetch 6 = .ok (.iaload, 1) := by decide +kernel
theorem dX1_doFetch_7 : decode cX1_doFetch 7 = .ok (.putfield 357, 3) := by decide +kernel
theorem dX1_doFetch_10 : decode cX1_doFetch 10 = .ok (.aload_n 0, 1) := by decide +kernel
theorem dX1_doFetch_11 : decode cX1_doFetch 11 = .ok (.getfield 80, 3) := by decide +kernel
theorem dX1_doFetch_14 : decode cX1_doFetch 14 = .ok (.iload_n 1, 1) := by decide +kernel
theorem dX1_doFetch_15 : decode cX1_doFetch 15 = .ok (.iaload, 1) := by decide +kernel
theorem dX1_doFetch_16 : decode cX1_doFetch 16 = .ok (.bipush 119, 2) := by decide +kernel
theorem dX1_doFetch_18 : decode cX1_doFetch 18 = .ok (.if_icmp .ne 4, 3) := by decide +kernel
theorem dX1_doFetch_21 : decode cX1_doFetch 21 = .ok (.return_, 1) := by decide +kernel
theorem dX1_doFetch_22 : decode cX1_doFetch 22 = .ok (.aload_n 0, 1) := by decide +kernel
theorem dX1_doFetch_23 : decode cX1_doFetch 23 = .ok (.aload_n 0, 1) := by decide +kernel
theorem dX1_doFetch_24 : decode cX1_doFetch 24 = .ok (.getfield 83, 3) := by decide +kernel
theorem dX1_doFetch_27 : decode cX1_doFetch 27 = .ok (.iload_n 1, 1) := by decide +kernel
theorem dX1_doFetch_28 : decode cX1_doFetch 28 = .ok (.iaload, 1) := by decide +kernel
theorem dX1_doFetch_29 : decode cX1_doFetch 29 = .ok (.invokevirtual 353, 3) := by decide +kernel
theorem dX1_doFetch_32 : decode cX1_doFetch 32 = .ok (.aload_n 0, 1) := by decide +kernel
theorem dX1_doFetch_33 : decode cX1_doFetch 33 = .ok (.getfield 337, 3) := by decide +kernel
theorem dX1_doFetch_36 : decode cX1_doFetch 36 = .ok (.ifCond .eq 4, 3) := by decide +kernel
theorem dX1_doFetch_39 : decode cX1_doFetch 39 = .ok (.return_, 1) := by decide +kernel
theorem dX1_doFetch_40 : decode cX1_doFetch 40 = .ok (.aload_n 0, 1) := by decide +kernel
theorem dX1_doFetch_41 : decode cX1_doFetch 41 = .ok (.aload_n 0, 1) := by decide +kernel
theorem dX1_doFetch_42 : decode cX1_doFetch 42 = .ok (.getfield 107, 3) := by decide +kernel
theorem dX1_doFetch_45 : decode cX1_doFetch 45 = .ok (.iload_n 1, 1) := by decide +kernel
theorem dX1_doFetch_46 : decode cX1_doFetch 46 = .ok (.iaload, 1) := by decide +kernel
theorem dX1_doFetch_47 : decode cX1_doFetch 47 = .ok (.putfield 357, 3) := by decide +kernel
theorem dX1_doFetch_50 : decode cX1_doFetch 50 = .ok (.aload_n 0, 1) := by decide +kernel
theorem dX1_doFetch_51 : decode cX1_doFetch 51 = .ok (.aload_n 0, 1) := by decide +kernel
theorem dX1_doFetch_52 : decode cX1_doFetch 52 = .ok (.getfield 83, 3) := by decide +kernel
theorem dX1_doFetch_55 : decode cX1_doFetch 55 = .ok (.iload_n 1, 1) := by decide +kernel
theorem dX1_doFetch_56 : decode cX1_doFetch 56 = .ok (.iaload, 1) := by decide +kernel
theorem dX1_doFetch_57 : decode cX1_doFetch 57 = .ok (.invokevirtual 331, 3) := by decide +kernel
theorem dX1_doFetch_60 : decode cX1_doFetch 60 = .ok (.pop, 1) := by decide +kernel
theorem dX1_doFetch_61 : decode cX1_doFetch 61 = .ok (.aload_n 0, 1) := by decide +kernel
theorem dX1_doFetch_62 : decode cX1_doFetch 62 = .ok (.getfield 80, 3) := by decide +kernel
theorem dX1_doFetch_65 : decode cX1_doFetch 65 = .ok (.iload_n 1, 1) := by decide +kernel
theorem dX1_doFetch_66 : decode cX1_doFetch 66 = .ok (.iaload, 1) := by decide +kernel
theorem dX1_doFetch_67 : decode cX1_doFetch 67 = .ok (.bipush 99, 2) := by decide +kernel
theorem dX1_doFetch_69 : decode cX1_doFetch 69 = .ok (.if_icmp .ne 20, 3) := by decide +kernel
theorem dX1_doFetch_72 : decode cX1_doFetch 72 = .ok (.aload_n 0, 1) := by decide +kernel
theorem dX1_doFetch_73 : decode cX1_doFetch 73 = .ok (.aload_n 0, 1) := by decide +kernel
theorem dX1_doFetch_74 : decode cX1_doFetch 74 = .ok (.getfield 113, 3) := by decide +kernel
theorem dX1_doFetch_77 : decode cX1_doFetch 77 = .ok (.iload_n 1, 1) := by decide +kernel
theorem dX1_doFetch_78 : decode cX1_doFetch 78 = .ok (.iaload, 1) := by decide +kernel
theorem dX1_doFetch_79 : decode cX1_doFetch 79 = .ok (.putfield 357, 3) := by decide +kernel
theorem dX1_doFetch_82 : decode cX1_doFetch 82 = .ok (.aload_n 0, 1) := by decide +kernel
theorem dX1_doFetch_83 : decode cX1_doFetch 83 = .ok (.getfield 113, 3) := by decide +kernel
theorem dX1_doFetch_86 : decode cX1_doFetch 86 = .ok (.iload_n 1, 1) := by decide +kernel
theorem dX1_doFetch_87 : decode cX1_doFetch 87 = .ok (.iconst 0, 1) := by decide +kernel
theorem dX1_doFetch_88 : decode cX1_doFetch 88 = .ok (.iastore, 1) := by decide +kernel
theorem dX1_doFetch_89 : decode cX1_doFetch 89 = .ok (.return_, 1) := by decide +kernel
theorem dX1_doPut_0 : decode cX1_doPut 0 = .ok (.aload_n 0, 1) := by decide +kernel
theorem dX1_doPut_1 : decode cX1_doPut 1 = .ok (.iload_n 1, 1) := by decide +kernel
theorem dX1_doPut_2 : decode cX1_doPut 2 = .ok (.invokevirtual 297, 3) := by decide +kernel
theorem dX1_doPut_5 : decode cX1_doPut 5 = .ok (.ifCond .eq 14, 3) := by decide +kernel
theorem dX1_doPut_8 : decode cX1_doPut 8 = .ok (.aload_n 0, 1) := by decide +kernel
theorem dX1_doPut_9 : decode cX1_doPut 9 = .ok (.getfield 107, 3) := by decide +kernel
theorem dX1_doPut_12 : decode cX1_doPut 12 = .ok (.iload_n 1, 1) := by decide +kernel
theorem dX1_doPut_13 : decode cX1_doPut 13 = .ok (.iaload, 1) := by decide +kernel
theorem dX1_doPut_14 : decode cX1_doPut 14 = .ok (.iload_n 2, 1) := by decide +kernel
theorem dX1_doPut_15 : decode cX1_doPut 15 = .ok (.if_icmp .ne 4, 3) := by decide +kernel
theorem dX1_doPut_18 : decode cX1_doPut 18 = .ok (.return_, 1) := by decide +kernel
theorem dX1_doPut_19 : decode cX1_doPut 19 = .ok (.aload_n 0, 1) := by decide +kernel
theorem dX1_doPut_20 : decode cX1_doPut 20 = .ok (.aload_n 0, 1) := by decide +kernel
theorem dX1_doPut_21 : decode cX1_doPut 21 = .ok (.getfield 83, 3) := by decide +kernel
theorem dX1_doPut_24 : decode cX1_doPut 24 = .ok (.iload_n 1, 1) := by decide +kernel
theorem dX1_doPut_25 : decode cX1_doPut 25 = .ok (.iaload, 1) := by decide +kernel
theorem dX1_doPut_26 : decode cX1_doPut 26 = .ok (.invokevirtual 353, 3) := by decide +kernel
theorem dX1_doPut_29 : decode cX1_doPut 29 = .ok (.aload_n 0, 1) := by decide +kernel
theorem dX1_doPut_30 : decode cX1_doPut 30 = .ok (.aload_n 0, 1) := by decide +kernel
theorem dX1_doPut_31 : decode cX1_doPut 31 = .ok (.getfield 83, 3) := by decide +kernel
theorem dX1_doPut_34 : decode cX1_doPut 34 = .ok (.iload_n 1, 1) := by decide +kernel
theorem dX1_doPut_35 : decode cX1_doPut 35 = .ok (.iaload, 1) := by decide +kernel
theorem dX1_doPut_36 : decode cX1_doPut 36 = .ok (.aload_n 0, 1) := by decide +kernel
theorem dX1_doPut_37 : decode cX1_doPut 37 = .ok (.aload_n 0, 1) := by decide +kernel
theorem dX1_doPut_38 : decode cX1_doPut 38 = .ok (.aload_n 0, 1) := by decide +kernel
theorem dX1_doPut_39 : decode cX1_doPut 39 = .ok (.getfield 83, 3) := by decide +kernel
theorem dX1_doPut_42 : decode cX1_doPut 42 = .ok (.iload_n 1, 1) := by decide +kernel
theorem dX1_doPut_43 : decode cX1_doPut 43 = .ok (.iaload, 1) := by decide +kernel
theorem dX1_doPut_44 : decode cX1_doPut 44 = .ok (.invokevirtual 343, 3) := by decide +kernel
theorem dX1_doPut_47 : decode cX1_doPut 47 = .ok (.iload_n 1, 1) := by decide +kernel
theorem dX1_doPut_48 : decode cX1_doPut 48 = .ok (.iload_n 2, 1) := by decide +kernel
theorem dX1_doPut_49 : decode cX1_doPut 49 = .ok (.invokevirtual 346, 3) := by decide +kernel
theorem dX1_doPut_52 : decode cX1_doPut 52 = .ok (.invokevirtual 350, 3) := by decide +kernel
theorem dX1_doPut_55 : decode cX1_doPut 55 = .ok (.return_, 1) := by decide +kernel
theorem dX1_drop_0 : decode cX1_drop 0 = .ok (.aload_n 0, 1) := by decide +kernel
theorem dX1_drop_1 : decode cX1_drop 1 = .ok (.iconst 0, 1) := by decide +kernel
theorem dX1_drop_2 : decode cX1_drop 2 = .ok (.putfield 161, 3) := by decide +kernel
theorem dX1_drop_5 : decode cX1_drop 5 = .ok (.aload_n 0, 1) := by decide +kernel
theorem dX1_drop_6 : decode cX1_drop 6 = .ok (.getfield 288, 3) := by decide +kernel
theorem dX1_drop_9 : decode cX1_drop 9 = .ok (.istore_n 1, 1) := by decide +kernel
theorem dX1_drop_10 : decode cX1_drop 10 = .ok (.aload_n 0, 1) := by decide +kernel
theorem dX1_drop_11 : decode cX1_drop 11 = .ok (.iconst 0, 1) := by decide +kernel
theorem dX1_drop_12 : decode cX1_drop 12 = .ok (.putfield 288, 3) := by decide +kernel
theorem dX1_drop_15 : decode cX1_drop 15 = .ok (.iload_n 1, 1) := by decide +kernel
theorem dX1_drop_16 : decode cX1_drop 16 = .ok (.ireturn, 1) := by decide +kernel
theorem dX1_end_0 : decode cX1_end 0 = .ok (.aload_n 0, 1) := by decide +kernel
theorem dX1_end_1 : decode cX1_end 1 = .ok (.getfield 337, 3) := by decide +kernel
theorem dX1_end_4 : decode cX1_end 4 = .ok (.ifCond .ne 13, 3) := by decide +kernel
theorem dX1_end_7 : decode cX1_end 7 = .ok (.aload_n 0, 1) := by decide +kernel
theorem dX1_end_8 : decode cX1_end 8 = .ok (.getfield 282, 3) := by decide +kernel
theorem dX1_end_11 : decode cX1_end 11 = .ok (.aload_n 0, 1) := by decide +kernel
theorem dX1_end_12 : decode cX1_end 12 = .ok (.getfield 363, 3) := by decide +kernel
theorem dX1_end_15 : decode cX1_end 15 = .ok (.isub, 1) := by decide +kernel
theorem dX1_end_16 : decode cX1_end 16 = .ok (.ireturn, 1) := by decide +kernel
theorem dX1_end_17 : decode cX1_end 17 = .ok (.aload_n 0, 1) := by decide +kernel
theorem dX1_end_18 : decode cX1_end 18 = .ok (.iconst 1, 1) := by decide +kernel
theorem dX1_end_19 : decode cX1_end 19 = .ok (.iconst 0, 1) := by decide +kernel
theorem dX1_end_20 : decode cX1_end 20 = .ok (.invokevirtual 360, 3) := by decide +kernel
theorem dX1_end_23 : decode cX1_end 23 = .ok (.aload_n 0, 1) := by decide +kernel
theorem dX1_end_24 : decode cX1_end 24 = .ok (.aload_n 0, 1) := by decide +kernel
theorem dX1_end_25 : decode cX1_end 25 = .ok (.getfield 363, 3) := by decide +kernel
theorem dX1_end_28 : decode cX1_end 28 = .ok (.putfield 282, 3) := by decide +kernel
theorem dX1_end_31 : decode cX1_end 31 = .ok (.iconst 0, 1) := by decide +kernel
theorem dX1_end_32 : decode cX1_end 32 = .ok (.istore_n 1, 1) := by decide +kernel
theorem dX1_end_33 : decode cX1_end 33 = .ok (.iload_n 1, 1) := by decide +kernel
theorem dX1_end_34 : decode cX1_end 34 = .ok (.bipush 64, 2) := by decide +kernel
theorem dX1_end_36 : decode cX1_end 36 = .ok (.if_icmp .ge 45, 3) := by decide +kernel
theorem dX1_end_39 : decode cX1_end 39 = .ok (.aload_n 0, 1) := by decide +kernel
theorem dX1_end_40 : decode cX1_end 40 = .ok (.getfield 119, 3) := by decide +kernel
theorem dX1_end_43 : decode cX1_end 43 = .ok (.iload_n 1, 1) := by decide +kernel
theorem dX1_end_44 : decode cX1_end 44 = .ok (.aload_n 0, 1) := by decide +kernel
theorem dX1_end_45 : decode cX1_end 45 = .ok (.getfield 152, 3) := by decide +kernel
theorem dX1_end_48 : decode cX1_end 48 = .ok (.iload_n 1, 1) := by decide +kernel
theorem dX1_end_49 : decode cX1_end 49 = .ok (.iaload, 1) := by decide +kernel
theorem dX1_end_50 : decode cX1_end 50 = .ok (.iastore, 1) := by decide +kernel
theorem dX1_end_51 : decode cX1_end 51 = .ok (.aload_n 0, 1) := by decide +kernel
theorem dX1_end_52 : decode cX1_end 52 = .ok (.getfield 122, 3) := by decide +kernel
theorem dX1_end_55 : decode cX1_end 55 = .ok (.iload_n 1, 1) := by decide +kernel
theorem dX1_end_56 : decode cX1_end 56 = .ok (.aload_n 0, 1) := by decide +kernel
theorem dX1_end_57 : decode cX1_end 57 = .ok (.getfield 155, 3) := by decide +kernel
theorem dX1_end_60 : decode cX1_end 60 = .ok (.iload_n 1, 1) := by decide +kernel
theorem dX1_end_61 : decode cX1_end 61 = .ok (.iaload, 1) := by decide +kernel
theorem dX1_end_62 : decode cX1_end 62 = .ok (.iastore, 1) := by decide +kernel
theorem dX1_end_63 : decode cX1_end 63 = .ok (.aload_n 0, 1) := by decide +kernel
theorem dX1_end_64 : decode cX1_end 64 = .ok (.getfield 125, 3) := by decide +kernel
theorem dX1_end_67 : decode cX1_end 67 = .ok (.iload_n 1, 1) := by decide +kernel
theorem dX1_end_68 : decode cX1_end 68 = .ok (.aload_n 0, 1) := by decide +kernel
theorem dX1_end_69 : decode cX1_end 69 = .ok (.getfield 158, 3) := by decide +kernel
theorem dX1_end_72 : decode cX1_end 72 = .ok (.iload_n 1, 1) := by decide +kernel
theorem dX1_end_73 : decode cX1_end 73 = .ok (.iaload, 1) := by decide +kernel
theorem dX1_end_74 : decode cX1_end 74 = .ok (.iastore, 1) := by decide +kernel
theorem dX1_end_75 : decode cX1_end 75 = .ok (.iinc 1 1, 3) := by decide +kernel
theorem dX1_end_78 : decode cX1_end 78 = .ok (.goto (-45), 3) := by decide +kernel
theorem dX1_end_81 : decode cX1_end 81 = .ok (.bipush (-2), 2) := by decide +kernel
theorem dX1_end_83 : decode cX1_end 83 = .ok (.ireturn, 1) := by decide +kernel
theorem dX1_erase_0 : decode cX1_erase 0 = .ok (.aload_n 0, 1) := by decide +kernel
theorem dX1_erase_1 : decode cX1_erase 1 = .ok (.iconst 0, 1) := by decide +kernel
theorem dX1_erase_2 : decode cX1_erase 2 = .ok (.putfield 161, 3) := by decide +kernel
theorem dX1_erase_5 : decode cX1_erase 5 = .ok (.aload_n 0, 1) := by decide +kernel
theorem dX1_erase_6 : decode cX1_erase 6 = .ok (.getfield 267, 3) := by decide +kernel
