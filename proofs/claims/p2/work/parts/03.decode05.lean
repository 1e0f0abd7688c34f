theorem dX12_breaks_111 : decode cX12_breaks 111 = .ok (.baload, 1) := by decide +kernel
theorem dX12_breaks_112 : decode cX12_breaks 112 = .ok (.ifCond .eq 7, 3) := by decide +kernel
theorem dX12_breaks_115 : decode cX12_breaks 115 = .ok (.iconst 1, 1) := by decide +kernel
theorem dX12_breaks_116 : decode cX12_breaks 116 = .ok (.goto 4, 3) := by decide +kernel
theorem dX12_breaks_119 : decode cX12_breaks 119 = .ok (.iconst 0, 1) := by decide +kernel
theorem dX12_breaks_120 : decode cX12_breaks 120 = .ok (.ireturn, 1) := by decide +kernel
theorem dX12_busRead_0 : decode cX12_busRead 0 = .ok (.aload_n 0, 1) := by decide +kernel
theorem dX12_busRead_1 : decode cX12_busRead 1 = .ok (.iconst 0, 1) := by decide +kernel
theorem dX12_busRead_2 : decode cX12_busRead 2 = .ok (.putfield 161, 3) := by decide +kernel
theorem dX12_busRead_5 : decode cX12_busRead 5 = .ok (.aload_n 0, 1) := by decide +kernel
theorem dX12_busRead_6 : decode cX12_busRead 6 = .ok (.getfield 257, 3) := by decide +kernel
theorem dX12_busRead_9 : decode cX12_busRead 9 = .ok (.ifCond .eq 11, 3) := by decide +kernel
theorem dX12_busRead_12 : decode cX12_busRead 12 = .ok (.aload_n 0, 1) := by decide +kernel
theorem dX12_busRead_13 : decode cX12_busRead 13 = .ok (.iload_n 1, 1) := by decide +kernel
theorem dX12_busRead_14 : decode cX12_busRead 14 = .ok (.invokevirtual 320, 3) := by decide +kernel
theorem dX12_busRead_17 : decode cX12_busRead 17 = .ok (.goto 4, 3) := by decide +kernel
theorem dX12_busRead_20 : decode cX12_busRead 20 = .ok (.iconst (-1), 1) := by decide +kernel
theorem dX12_busRead_21 : decode cX12_busRead 21 = .ok (.istore_n 2, 1) := by decide +kernel
theorem dX12_busRead_22 : decode cX12_busRead 22 = .ok (.iload_n 2, 1) := by decide +kernel
theorem dX12_busRead_23 : decode cX12_busRead 23 = .ok (.iconst (-1), 1) := by decide +kernel
theorem dX12_busRead_24 : decode cX12_busRead 24 = .ok (.if_icmp .ne 7, 3) := by decide +kernel
theorem dX12_busRead_27 : decode cX12_busRead 27 = .ok (.iconst (-1), 1) := by decide +kernel
theorem dX12_busRead_28 : decode cX12_busRead 28 = .ok (.goto 8, 3) := by decide +kernel
theorem dX12_busRead_31 : decode cX12_busRead 31 = .ok (.aload_n 0, 1) := by decide +kernel
theorem dX12_busRead_32 : decode cX12_busRead 32 = .ok (.iload_n 2, 1) := by decide +kernel
theorem dX12_busRead_33 : decode cX12_busRead 33 = .ok (.invokevirtual 331, 3) := by decide +kernel
theorem dX12_busRead_36 : decode cX12_busRead 36 = .ok (.ireturn, 1) := by decide +kernel
theorem dX12_busWrite_0 : decode cX12_busWrite 0 = .ok (.aload_n 0, 1) := by decide +kernel
theorem dX12_busWrite_1 : decode cX12_busWrite 1 = .ok (.iconst 0, 1) := by decide +kernel
theorem dX12_busWrite_2 : decode cX12_busWrite 2 = .ok (.putfield 161, 3) := by decide +kernel
theorem dX12_busWrite_5 : decode cX12_busWrite 5 = .ok (.aload_n 0, 1) := by decide +kernel
theorem dX12_busWrite_6 : decode cX12_busWrite 6 = .ok (.getfield 257, 3) := by decide +kernel
theorem dX12_busWrite_9 : decode cX12_busWrite 9 = .ok (.ifCond .eq 11, 3) := by decide +kernel
theorem dX12_busWrite_12 : decode cX12_busWrite 12 = .ok (.aload_n 0, 1) := by decide +kernel
theorem dX12_busWrite_13 : decode cX12_busWrite 13 = .ok (.iload_n 1, 1) := by decide +kernel
theorem dX12_busWrite_14 : decode cX12_busWrite 14 = .ok (.invokevirtual 320, 3) := by decide +kernel
theorem dX12_busWrite_17 : decode cX12_busWrite 17 = .ok (.goto 4, 3) := by decide +kernel
theorem dX12_busWrite_20 : decode cX12_busWrite 20 = .ok (.iconst (-1), 1) := by decide +kernel
theorem dX12_busWrite_21 : decode cX12_busWrite 21 = .ok (.istore_n 3, 1) := by decide +kernel
theorem dX12_busWrite_22 : decode cX12_busWrite 22 = .ok (.iload_n 3, 1) := by decide +kernel
theorem dX12_busWrite_23 : decode cX12_busWrite 23 = .ok (.iconst (-1), 1) := by decide +kernel
theorem dX12_busWrite_24 : decode cX12_busWrite 24 = .ok (.if_icmp .ne 5, 3) := by decide +kernel
theorem dX12_busWrite_27 : decode cX12_busWrite 27 = .ok (.iconst (-1), 1) := by decide +kernel
theorem dX12_busWrite_28 : decode cX12_busWrite 28 = .ok (.ireturn, 1) := by decide +kernel
theorem dX12_busWrite_29 : decode cX12_busWrite 29 = .ok (.iload_n 2, 1) := by decide +kernel
theorem dX12_busWrite_30 : decode cX12_busWrite 30 = .ok (.ldc_w 323, 3) := by decide +kernel
theorem dX12_busWrite_33 : decode cX12_busWrite 33 = .ok (.iand, 1) := by decide +kernel
theorem dX12_busWrite_34 : decode cX12_busWrite 34 = .ok (.istore 4, 2) := by decide +kernel
theorem dX12_busWrite_36 : decode cX12_busWrite 36 = .ok (.aload_n 0, 1) := by decide +kernel
theorem dX12_busWrite_37 : decode cX12_busWrite 37 = .ok (.iload_n 3, 1) := by decide +kernel
theorem dX12_busWrite_38 : decode cX12_busWrite 38 = .ok (.iload 4, 2) := by decide +kernel
theorem dX12_busWrite_40 : decode cX12_busWrite 40 = .ok (.invokevirtual 324, 3) := by decide +kernel
theorem dX12_busWrite_43 : decode cX12_busWrite 43 = .ok (.istore 5, 2) := by decide +kernel
theorem dX12_busWrite_45 : decode cX12_busWrite 45 = .ok (.iconst 0, 1) := by decide +kernel
theorem dX12_busWrite_46 : decode cX12_busWrite 46 = .ok (.istore 6, 2) := by decide +kernel
theorem dX12_busWrite_48 : decode cX12_busWrite 48 = .ok (.iload 6, 2) := by decide +kernel
theorem dX12_busWrite_50 : decode cX12_busWrite 50 = .ok (.aload_n 0, 1) := by decide +kernel
theorem dX12_busWrite_51 : decode cX12_busWrite 51 = .ok (.getfield 264, 3) := by decide +kernel
theorem dX12_busWrite_54 : decode cX12_busWrite 54 = .ok (.if_icmp .ge 35, 3) := by decide +kernel
theorem dX12_busWrite_57 : decode cX12_busWrite 57 = .ok (.aload_n 0, 1) := by decide +kernel
theorem dX12_busWrite_58 : decode cX12_busWrite 58 = .ok (.dup, 1) := by decide +kernel
theorem dX12_busWrite_59 : decode cX12_busWrite 59 = .ok (.getfield 285, 3) := by decide +kernel
theorem dX12_busWrite_62 : decode cX12_busWrite 62 = .ok (.aload_n 0, 1) := by decide +kernel
theorem dX12_busWrite_63 : decode cX12_busWrite 63 = .ok (.iload 6, 2) := by decide +kernel
theorem dX12_busWrite_65 : decode cX12_busWrite 65 = .ok (.iload_n 3, 1) := by decide +kernel
theorem dX12_busWrite_66 : decode cX12_busWrite 66 = .ok (.iload 4, 2) := by decide +kernel
theorem dX12_busWrite_68 : decode cX12_busWrite 68 = .ok (.invokevirtual 304, 3) := by decide +kernel
theorem dX12_busWrite_71 : decode cX12_busWrite 71 = .ok (.ifCond .eq 7, 3) := by decide +kernel
theorem dX12_busWrite_74 : decode cX12_busWrite 74 = .ok (.iconst 1, 1) := by decide +kernel
theorem dX12_busWrite_75 : decode cX12_busWrite 75 = .ok (.goto 4, 3) := by decide +kernel
theorem dX12_busWrite_78 : decode cX12_busWrite 78 = .ok (.iconst 0, 1) := by decide +kernel
theorem dX12_busWrite_79 : decode cX12_busWrite 79 = .ok (.iadd, 1) := by decide +kernel
theorem dX12_busWrite_80 : decode cX12_busWrite 80 = .ok (.putfield 285, 3) := by decide +kernel
theorem dX12_busWrite_83 : decode cX12_busWrite 83 = .ok (.iinc 6 1, 3) := by decide +kernel
theorem dX12_busWrite_86 : decode cX12_busWrite 86 = .ok (.goto (-38), 3) := by decide +kernel
theorem dX12_busWrite_89 : decode cX12_busWrite 89 = .ok (.aload_n 0, 1) := by decide +kernel
theorem dX12_busWrite_90 : decode cX12_busWrite 90 = .ok (.iload_n 3, 1) := by decide +kernel
theorem dX12_busWrite_91 : decode cX12_busWrite 91 = .ok (.iload 4, 2) := by decide +kernel
theorem dX12_busWrite_93 : decode cX12_busWrite 93 = .ok (.invokevirtual 327, 3) := by decide +kernel
theorem dX12_busWrite_96 : decode cX12_busWrite 96 = .ok (.iload 5, 2) := by decide +kernel
theorem dX12_busWrite_98 : decode cX12_busWrite 98 = .ok (.iconst 1, 1) := by decide +kernel
theorem dX12_busWrite_99 : decode cX12_busWrite 99 = .ok (.iadd, 1) := by decide +kernel
theorem dX12_busWrite_100 : decode cX12_busWrite 100 = .ok (.ireturn, 1) := by decide +kernel
theorem dX12_check_0 : decode cX12_check 0 = .ok (.aload_n 0, 1) := by decide +kernel
theorem dX12_check_1 : decode cX12_check 1 = .ok (.iconst 0, 1) := by decide +kernel
theorem dX12_check_2 : decode cX12_check 2 = .ok (.putfield 161, 3) := by decide +kernel
theorem dX12_check_5 : decode cX12_check 5 = .ok (.aload_n 0, 1) := by decide +kernel
theorem dX12_check_6 : decode cX12_check 6 = .ok (.getfield 257, 3) := by decide +kernel
theorem dX12_check_9 : decode cX12_check 9 = .ok (.ifCond .ne 5, 3) := by decide +kernel
theorem dX12_check_12 : decode cX12_check 12 = .ok (.iconst (-1), 1) := by decide +kernel
theorem dX12_check_13 : decode cX12_check 13 = .ok (.ireturn, 1) := by decide +kernel
theorem dX12_check_14 : decode cX12_check 14 = .ok (.aload_n 0, 1) := by decide +kernel
theorem dX12_check_15 : decode cX12_check 15 = .ok (.iconst 0, 1) := by decide +kernel
theorem dX12_check_16 : decode cX12_check 16 = .ok (.iconst 2, 1) := by decide +kernel
theorem dX12_check_17 : decode cX12_check 17 = .ok (.invokevirtual 360, 3) := by decide +kernel
theorem dX12_check_20 : decode cX12_check 20 = .ok (.aload_n 0, 1) := by decide +kernel
theorem dX12_check_21 : decode cX12_check 21 = .ok (.iconst 1, 1) := by decide +kernel
theorem dX12_check_22 : decode cX12_check 22 = .ok (.putfield 307, 3) := by decide +kernel
theorem dX12_check_25 : decode cX12_check 25 = .ok (.aload_n 0, 1) := by decide +kernel
theorem dX12_check_26 : decode cX12_check 26 = .ok (.invokevirtual 279, 3) := by decide +kernel
theorem dX12_check_29 : decode cX12_check 29 = .ok (.aload_n 0, 1) := by decide +kernel
theorem dX12_check_30 : decode cX12_check 30 = .ok (.iconst 0, 1) := by decide +kernel
theorem dX12_check_31 : decode cX12_check 31 = .ok (.putfield 390, 3) := by decide +kernel
theorem dX12_check_34 : decode cX12_check 34 = .ok (.aload_n 0, 1) := by decide +kernel
theorem dX12_check_35 : decode cX12_check 35 = .ok (.iconst 0, 1) := by decide +kernel
theorem dX12_check_36 : decode cX12_check 36 = .ok (.putfield 396, 3) := by decide +kernel
theorem dX12_check_39 : decode cX12_check 39 = .ok (.aload_n 0, 1) := by decide +kernel
theorem dX12_check_40 : decode cX12_check 40 = .ok (.iconst (-1), 1) := by decide +kernel
theorem dX12_check_41 : decode cX12_check 41 = .ok (.putfield 405, 3) := by decide +kernel
theorem dX12_check_44 : decode cX12_check 44 = .ok (.aload_n 0, 1) := by decide +kernel
theorem dX12_check_45 : decode cX12_check 45 = .ok (.iconst 0, 1) := by decide +kernel
theorem dX12_check_46 : decode cX12_check 46 = .ok (.putfield 273, 3) := by decide +kernel
theorem dX12_check_49 : decode cX12_check 49 = .ok (.aload_n 0, 1) := by decide +kernel
theorem dX12_check_50 : decode cX12_check 50 = .ok (.iconst 0, 1) := by decide +kernel
theorem dX12_check_51 : decode cX12_check 51 = .ok (.invokevirtual 402, 3) := by decide +kernel
theorem dX12_check_54 : decode cX12_check 54 = .ok (.iconst 0, 1) := by decide +kernel
theorem dX12_check_55 : decode cX12_check 55 = .ok (.istore_n 1, 1) := by decide +kernel
theorem dX12_check_56 : decode cX12_check 56 = .ok (.iload_n 1, 1) := by decide +kernel
theorem dX12_check_57 : decode cX12_check 57 = .ok (.aload_n 0, 1) := by decide +kernel
theorem dX12_check_58 : decode cX12_check 58 = .ok (.getfield 390, 3) := by decide +kernel
theorem dX12_check_61 : decode cX12_check 61 = .ok (.if_icmp .ge 21, 3) := by decide +kernel
theorem dX12_check_64 : decode cX12_check 64 = .ok (.aload_n 0, 1) := by decide +kernel
theorem dX12_check_65 : decode cX12_check 65 = .ok (.getfield 396, 3) := by decide +kernel
theorem dX12_check_68 : decode cX12_check 68 = .ok (.ifCond .ne 14, 3) := by decide +kernel
theorem dX12_check_71 : decode cX12_check 71 = .ok (.aload_n 0, 1) := by decide +kernel
theorem dX12_check_72 : decode cX12_check 72 = .ok (.iload_n 1, 1) := by decide +kernel
theorem dX12_check_73 : decode cX12_check 73 = .ok (.invokevirtual 408, 3) := by decide +kernel
theorem dX12_check_76 : decode cX12_check 76 = .ok (.iinc 1 1, 3) := by decide +kernel
theorem dX12_check_79 : decode cX12_check 79 = .ok (.goto (-23), 3) := by decide +kernel
theorem dX12_check_82 : decode cX12_check 82 = .ok (.aload_n 0, 1) := by decide +kernel
theorem dX12_check_83 : decode cX12_check 83 = .ok (.iconst 0, 1) := by decide +kernel
theorem dX12_check_84 : decode cX12_check 84 = .ok (.putfield 307, 3) := by decide +kernel
theorem dX12_check_87 : decode cX12_check 87 = .ok (.aload_n 0, 1) := by decide +kernel
theorem dX12_check_88 : decode cX12_check 88 = .ok (.iconst 2, 1) := by decide +kernel
theorem dX12_check_89 : decode cX12_check 89 = .ok (.iconst 0, 1) := by decide +kernel
theorem dX12_check_90 : decode cX12_check 90 = .ok (.invokevirtual 360, 3) := by decide +kernel
theorem dX12_check_93 : decode cX12_check 93 = .ok (.aload_n 0, 1) := by decide +kernel
theorem dX12_check_94 : decode cX12_check 94 = .ok (.aload_n 0, 1) := by decide +kernel
theorem dX12_check_95 : decode cX12_check 95 = .ok (.getfield 390, 3) := by decide +kernel
theorem dX12_check_98 : decode cX12_check 98 = .ok (.putfield 270, 3) := by decide +kernel
theorem dX12_check_101 : decode cX12_check 101 = .ok (.aload_n 0, 1) := by decide +kernel
theorem dX12_check_102 : decode cX12_check 102 = .ok (.getfield 396, 3) := by decide +kernel
theorem dX12_check_105 : decode cX12_check 105 = .ok (.ifCond .eq 11, 3) := by decide +kernel
theorem dX12_check_108 : decode cX12_check 108 = .ok (.aload_n 0, 1) := by decide +kernel
theorem dX12_check_109 : decode cX12_check 109 = .ok (.iconst 0, 1) := by decide +kernel
theorem dX12_check_110 : decode cX12_check 110 = .ok (.putfield 273, 3) := by decide +kernel
theorem dX12_check_113 : decode cX12_check 113 = .ok (.bipush (-2), 2) := by decide +kernel
theorem dX12_check_115 : decode cX12_check 115 = .ok (.ireturn, 1) := by decide +kernel
theorem dX12_check_116 : decode cX12_check 116 = .ok (.aload_n 0, 1) := by decide +kernel
theorem dX12_check_117 : decode cX12_check 117 = .ok (.getfield 405, 3) := by decide +kernel
theorem dX12_check_120 : decode cX12_check 120 = .ok (.iconst 1, 1) := by decide +kernel
theorem dX12_check_121 : decode cX12_check 121 = .ok (.iadd, 1) := by decide +kernel
theorem dX12_check_122 : decode cX12_check 122 = .ok (.ireturn, 1) := by decide +kernel
theorem dX12_compile_0 : decode cX12_compile 0 = .ok (.aload_n 0, 1) := by decide +kernel
theorem dX12_compile_1 : decode cX12_compile 1 = .ok (.iconst 0, 1) := by decide +kernel
theorem dX12_compile_2 : decode cX12_compile 2 = .ok (.putfield 173, 3) := by decide +kernel
theorem dX12_compile_5 : decode cX12_compile 5 = .ok (.aload_n 0, 1) := by decide +kernel
theorem dX12_compile_6 : decode cX12_compile 6 = .ok (.iconst 0, 1) := by decide +kernel
theorem dX12_compile_7 : decode cX12_compile 7 = .ok (.putfield 176, 3) := by decide +kernel
theorem dX12_compile_10 : decode cX12_compile 10 = .ok (.aload_n 0, 1) := by decide +kernel
theorem dX12_compile_11 : decode cX12_compile 11 = .ok (.invokevirtual 251, 3) := by decide +kernel
theorem dX12_compile_14 : decode cX12_compile 14 = .ok (.istore_n 1, 1) := by decide +kernel
theorem dX12_compile_15 : decode cX12_compile 15 = .ok (.aload_n 0, 1) := by decide +kernel
theorem dX12_compile_16 : decode cX12_compile 16 = .ok (.iconst 0, 1) := by decide +kernel
theorem dX12_compile_17 : decode cX12_compile 17 = .ok (.putfield 165, 3) := by decide +kernel
theorem dX12_compile_20 : decode cX12_compile 20 = .ok (.iload_n 1, 1) := by decide +kernel
theorem dX12_compile_21 : decode cX12_compile 21 = .ok (.ifCond .ne 9, 3) := by decide +kernel
theorem dX12_compile_24 : decode cX12_compile 24 = .ok (.aload_n 0, 1) := by decide +kernel
theorem dX12_compile_25 : decode cX12_compile 25 = .ok (.iconst 1, 1) := by decide +kernel
theorem dX12_compile_26 : decode cX12_compile 26 = .ok (.invokevirtual 254, 3) := by decide +kernel
theorem dX12_compile_29 : decode cX12_compile 29 = .ok (.ireturn, 1) := by decide +kernel
theorem dX12_compile_30 : decode cX12_compile 30 = .ok (.aload_n 0, 1) := by decide +kernel
theorem dX12_compile_31 : decode cX12_compile 31 = .ok (.iconst 0, 1) := by decide +kernel
theorem dX12_compile_32 : decode cX12_compile 32 = .ok (.putfield 161, 3) := by decide +kernel
theorem dX12_compile_35 : decode cX12_compile 35 = .ok (.aload_n 0, 1) := by decide +kernel
theorem dX12_compile_36 : decode cX12_compile 36 = .ok (.iconst 1, 1) := by decide +kernel
theorem dX12_compile_37 : decode cX12_compile 37 = .ok (.putfield 257, 3) := by decide +kernel
theorem dX12_compile_40 : decode cX12_compile 40 = .ok (.aload_n 0, 1) := by decide +kernel
theorem dX12_compile_41 : decode cX12_compile 41 = .ok (.aload_n 0, 1) := by decide +kernel
theorem dX12_compile_42 : decode cX12_compile 42 = .ok (.getfield 201, 3) := by decide +kernel
theorem dX12_compile_45 : decode cX12_compile 45 = .ok (.putfield 261, 3) := by decide +kernel
theorem dX12_compile_48 : decode cX12_compile 48 = .ok (.iconst 0, 1) := by decide +kernel
theorem dX12_compile_49 : decode cX12_compile 49 = .ok (.istore_n 2, 1) := by decide +kernel
theorem dX12_compile_50 : decode cX12_compile 50 = .ok (.iload_n 2, 1) := by decide +kernel
theorem dX12_compile_51 : decode cX12_compile 51 = .ok (.aload_n 0, 1) := by decide +kernel
theorem dX12_compile_52 : decode cX12_compile 52 = .ok (.getfield 261, 3) := by decide +kernel
theorem dX12_compile_55 : decode cX12_compile 55 = .ok (.if_icmp .ge 45, 3) := by decide +kernel
theorem dX12_compile_58 : decode cX12_compile 58 = .ok (.aload_n 0, 1) := by decide +kernel
theorem dX12_compile_59 : decode cX12_compile 59 = .ok (.getfield 67, 3) := by decide +kernel
theorem dX12_compile_62 : decode cX12_compile 62 = .ok (.iload_n 2, 1) := by decide +kernel
theorem dX12_compile_63 : decode cX12_compile 63 = .ok (.aload_n 0, 1) := by decide +kernel
theorem dX12_compile_64 : decode cX12_compile 64 = .ok (.getfield 13, 3) := by decide +kernel
theorem dX12_compile_67 : decode cX12_compile 67 = .ok (.iload_n 2, 1) := by decide +kernel
theorem dX12_compile_68 : decode cX12_compile 68 = .ok (.iaload, 1) := by decide +kernel
theorem dX12_compile_69 : decode cX12_compile 69 = .ok (.iastore, 1) := by decide +kernel
theorem dX12_compile_70 : decode cX12_compile 70 = .ok (.aload_n 0, 1) := by decide +kernel
theorem dX12_compile_71 : decode cX12_compile 71 = .ok (.getfield 70, 3) := by decide +kernel
theorem dX12_compile_74 : decode cX12_compile 74 = .ok (.iload_n 2, 1) := by decide +kernel
theorem dX12_compile_75 : decode cX12_compile 75 = .ok (.aload_n 0, 1) := by decide +kernel
theorem dX12_compile_76 : decode cX12_compile 76 = .ok (.getfield 16, 3) := by decide +kernel
theorem dX12_compile_79 : decode cX12_compile 79 = .ok (.iload_n 2, 1) := by decide +kernel
theorem dX12_compile_80 : decode cX12_compile 80 = .ok (.iaload, 1) := by decide +kernel
theorem dX12_compile_81 : decode cX12_compile 81 = .ok (.iastore, 1) := by decide +kernel
theorem dX12_compile_82 : decode cX12_compile 82 = .ok (.aload_n 0, 1) := by decide +kernel
theorem dX12_compile_83 : decode cX12_compile 83 = .ok (.getfield 73, 3) := by decide +kernel
theorem dX12_compile_86 : decode cX12_compile 86 = .ok (.iload_n 2, 1) := by decide +kernel
theorem dX12_compile_87 : decode cX12_compile 87 = .ok (.aload_n 0, 1) := by decide +kernel
theorem dX12_compile_88 : decode cX12_compile 88 = .ok (.getfield 19, 3) := by decide +kernel
theorem dX12_compile_91 : decode cX12_compile 91 = .ok (.iload_n 2, 1) := by decide +kernel
theorem dX12_compile_92 : decode cX12_compile 92 = .ok (.iaload, 1) := by decide +kernel
theorem dX12_compile_93 : decode cX12_compile 93 = .ok (.iastore, 1) := by decide +kernel
theorem dX12_compile_94 : decode cX12_compile 94 = .ok (.iinc 2 1, 3) := by decide +kernel
theorem dX12_compile_97 : decode cX12_compile 97 = .ok (.goto (-47), 3) := by decide +kernel
theorem dX12_compile_100 : decode cX12_compile 100 = .ok (.iconst 0, 1) := by decide +kernel
theorem dX12_compile_101 : decode cX12_compile 101 = .ok (.istore_n 2, 1) := by decide +kernel
theorem dX12_compile_102 : decode cX12_compile 102 = .ok (.iload_n 2, 1) := by decide +kernel
theorem dX12_compile_103 : decode cX12_compile 103 = .ok (.bipush 26, 2) := by decide +kernel
theorem dX12_compile_105 : decode cX12_compile 105 = .ok (.if_icmp .ge 16, 3) := by decide +kernel
theorem dX12_compile_108 : decode cX12_compile 108 = .ok (.aload_n 0, 1) := by decide +kernel
theorem dX12_compile_109 : decode cX12_compile 109 = .ok (.getfield 76, 3) := by decide +kernel
theorem dX12_compile_112 : decode cX12_compile 112 = .ok (.iload_n 2, 1) := by decide +kernel
theorem dX12_compile_113 : decode cX12_compile 113 = .ok (.iconst 0, 1) := by decide +kernel
theorem dX12_compile_114 : decode cX12_compile 114 = .ok (.bastore, 1) := by decide +kernel
theorem dX12_compile_115 : decode cX12_compile 115 = .ok (.iinc 2 1, 3) := by decide +kernel
theorem dX12_compile_118 : decode cX12_compile 118 = .ok (.goto (-16), 3) := by decide +kernel
theorem dX12_compile_121 : decode cX12_compile 121 = .ok (.iconst 0, 1) := by decide +kernel
theorem dX12_compile_122 : decode cX12_compile 122 = .ok (.istore_n 2, 1) := by decide +kernel
theorem dX12_compile_123 : decode cX12_compile 123 = .ok (.iload_n 2, 1) := by decide +kernel
theorem dX12_compile_124 : decode cX12_compile 124 = .ok (.aload_n 0, 1) := by decide +kernel
theorem dX12_compile_125 : decode cX12_compile 125 = .ok (.getfield 198, 3) := by decide +kernel
theorem dX12_compile_128 : decode cX12_compile 128 = .ok (.if_icmp .ge 92, 3) := by decide +kernel
theorem dX12_compile_131 : decode cX12_compile 131 = .ok (.aload_n 0, 1) := by decide +kernel
theorem dX12_compile_132 : decode cX12_compile 132 = .ok (.getfield 28, 3) := by decide +kernel
theorem dX12_compile_135 : decode cX12_compile 135 = .ok (.iload_n 2, 1) := by decide +kernel
theorem dX12_compile_136 : decode cX12_compile 136 = .ok (.iaload, 1) := by decide +kernel
theorem dX12_compile_137 : decode cX12_compile 137 = .ok (.istore_n 3, 1) := by decide +kernel
theorem dX12_compile_138 : decode cX12_compile 138 = .ok (.aload_n 0, 1) := by decide +kernel
theorem dX12_compile_139 : decode cX12_compile 139 = .ok (.getfield 76, 3) := by decide +kernel
theorem dX12_compile_142 : decode cX12_compile 142 = .ok (.iload_n 3, 1) := by decide +kernel
theorem dX12_compile_143 : decode cX12_compile 143 = .ok (.iconst 1, 1) := by decide +kernel
theorem dX12_compile_144 : decode cX12_compile 144 = .ok (.bastore, 1) := by decide +kernel
theorem dX12_compile_145 : decode cX12_compile 145 = .ok (.aload_n 0, 1) := by decide +kernel
theorem dX12_compile_146 : decode cX12_compile 146 = .ok (.getfield 80, 3) := by decide +kernel
theorem dX12_compile_149 : decode cX12_compile 149 = .ok (.iload_n 3, 1) := by decide +kernel
theorem dX12_compile_150 : decode cX12_compile 150 = .ok (.aload_n 0, 1) := by decide +kernel
theorem dX12_compile_151 : decode cX12_compile 151 = .ok (.getfield 31, 3) := by decide +kernel
theorem dX12_compile_154 : decode cX12_compile 154 = .ok (.iload_n 2, 1) := by decide +kernel
theorem dX12_compile_155 : decode cX12_compile 155 = .ok (.iaload, 1) := by decide +kernel
theorem dX12_compile_156 : decode cX12_compile 156 = .ok (.iastore, 1) := by decide +kernel
theorem dX12_compile_157 : decode cX12_compile 157 = .ok (.aload_n 0, 1) := by decide +kernel
theorem dX12_compile_158 : decode cX12_compile 158 = .ok (.getfield 83, 3) := by decide +kernel
theorem dX12_compile_161 : decode cX12_compile 161 = .ok (.iload_n 3, 1) := by decide +kernel
theorem dX12_compile_162 : decode cX12_compile 162 = .ok (.aload_n 0, 1) := by decide +kernel
theorem dX12_compile_163 : decode cX12_compile 163 = .ok (.getfield 43, 3) := by decide +kernel
theorem dX12_compile_166 : decode cX12_compile 166 = .ok (.iload_n 2, 1) := by decide +kernel
theorem dX12_compile_167 : decode cX12_compile 167 = .ok (.iaload, 1) := by decide +kernel
theorem dX12_compile_168 : decode cX12_compile 168 = .ok (.iastore, 1) := by decide +kernel
theorem dX12_compile_169 : decode cX12_compile 169 = .ok (.aload_n 0, 1) := by decide +kernel
theorem dX12_compile_170 : decode cX12_compile 170 = .ok (.getfield 86, 3) := by decide +kernel
theorem dX12_compile_173 : decode cX12_compile 173 = .ok (.iload_n 3, 1) := by decide +kernel
