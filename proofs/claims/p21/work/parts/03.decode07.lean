theorem dX1_busWrite_59 : decode cX1_busWrite 59 = .ok (.getfield 285, 3) := by decide +kernel
theorem dX1_busWrite_62 : decode cX1_busWrite 62 = .ok (.aload_n 0, 1) := by decide +kernel
theorem dX1_busWrite_63 : decode cX1_busWrite 63 = .ok (.iload 6, 2) := by decide +kernel
theorem dX1_busWrite_65 : decode cX1_busWrite 65 = .ok (.iload_n 3, 1) := by decide +kernel
theorem dX1_busWrite_66 : decode cX1_busWrite 66 = .ok (.iload 4, 2) := by decide +kernel
theorem dX1_busWrite_68 : decode cX1_busWrite 68 = .ok (.invokevirtual 304, 3) := by decide +kernel
theorem dX1_busWrite_71 : decode cX1_busWrite 71 = .ok (.ifCond .eq 7, 3) := by decide +kernel
theorem dX1_busWrite_74 : decode cX1_busWrite 74 = .ok (.iconst 1, 1) := by decide +kernel
theorem dX1_busWrite_75 : decode cX1_busWrite 75 = .ok (.goto 4, 3) := by decide +kernel
theorem dX1_busWrite_78 : decode cX1_busWrite 78 = .ok (.iconst 0, 1) := by decide +kernel
theorem dX1_busWrite_79 : decode cX1_busWrite 79 = .ok (.iadd, 1) := by decide +kernel
theorem dX1_busWrite_80 : decode cX1_busWrite 80 = .ok (.putfield 285, 3) := by decide +kernel
theorem dX1_busWrite_83 : decode cX1_busWrite 83 = .ok (.iinc 6 1, 3) := by decide +kernel
theorem dX1_busWrite_86 : decode cX1_busWrite 86 = .ok (.goto (-38), 3) := by decide +kernel
theorem dX1_busWrite_89 : decode cX1_busWrite 89 = .ok (.aload_n 0, 1) := by decide +kernel
theorem dX1_busWrite_90 : decode cX1_busWrite 90 = .ok (.iload_n 3, 1) := by decide +kernel
theorem dX1_busWrite_91 : decode cX1_busWrite 91 = .ok (.iload 4, 2) := by decide +kernel
theorem dX1_busWrite_93 : decode cX1_busWrite 93 = .ok (.invokevirtual 327, 3) := by decide +kernel
theorem dX1_busWrite_96 : decode cX1_busWrite 96 = .ok (.iload 5, 2) := by decide +kernel
theorem dX1_busWrite_98 : decode cX1_busWrite 98 = .ok (.iconst 1, 1) := by decide +kernel
theorem dX1_busWrite_99 : decode cX1_busWrite 99 = .ok (.iadd, 1) := by decide +kernel
theorem dX1_busWrite_100 : decode cX1_busWrite 100 = .ok (.ireturn, 1) := by decide +kernel
theorem dX1_check_0 : decode cX1_check 0 = .ok (.aload_n 0, 1) := by decide +kernel
theorem dX1_check_1 : decode cX1_check 1 = .ok (.iconst 0, 1) := by decide +kernel
theorem dX1_check_2 : decode cX1_check 2 = .ok (.putfield 161, 3) := by decide +kernel
theorem dX1_check_5 : decode cX1_check 5 = .ok (.aload_n 0, 1) := by decide +kernel
theorem dX1_check_6 : decode cX1_check 6 = .ok (.getfield 257, 3) := by decide +kernel
theorem dX1_check_9 : decode cX1_check 9 = .ok (.ifCond .ne 5, 3) := by decide +kernel
theorem dX1_check_12 : decode cX1_check 12 = .ok (.iconst (-1), 1) := by decide +kernel
theorem dX1_check_13 : decode cX1_check 13 = .ok (.ireturn, 1) := by decide +kernel
theorem dX1_check_14 : decode cX1_check 14 = .ok (.aload_n 0, 1) := by decide +kernel
theorem dX1_check_15 : decode cX1_check 15 = .ok (.iconst 0, 1) := by decide +kernel
theorem dX1_check_16 : decode cX1_check 16 = .ok (.iconst 2, 1) := by decide +kernel
theorem dX1_check_17 : decode cX1_check 17 = .ok (.invokevirtual 360, 3) := by decide +kernel
theorem dX1_check_20 : decode cX1_check 20 = .ok (.aload_n 0, 1) := by decide +kernel
theorem dX1_check_21 : decode cX1_check 21 = .ok (.iconst 1, 1) := by decide +kernel
theorem dX1_check_22 : decode cX1_check 22 = .ok (.putfield 307, 3) := by decide +kernel
theorem dX1_check_25 : decode cX1_check 25 = .ok (.aload_n 0, 1) := by decide +kernel
theorem dX1_check_26 : decode cX1_check 26 = .ok (.invokevirtual 279, 3) := by decide +kernel
theorem dX1_check_29 : decode cX1_check 29 = .ok (.aload_n 0, 1) := by decide +kernel
theorem dX1_check_30 : decode cX1_check 30 = .ok (.iconst 0, 1) := by decide +kernel
theorem dX1_check_31 : decode cX1_check 31 = .ok (.putfield 390, 3) := by decide +kernel
theorem dX1_check_34 : decode cX1_check 34 = .ok (.aload_n 0, 1) := by decide +kernel
theorem dX1_check_35 : decode cX1_check 35 = .ok (.iconst 0, 1) := by decide +kernel
theorem dX1_check_36 : decode cX1_check 36 = .ok (.putfield 396, 3) := by decide +kernel
theorem dX1_check_39 : decode cX1_check 39 = .ok (.aload_n 0, 1) := by decide +kernel
theorem dX1_check_40 : decode cX1_check 40 = .ok (.iconst (-1), 1) := by decide +kernel
theorem dX1_check_41 : decode cX1_check 41 = .ok (.putfield 405, 3) := by decide +kernel
theorem dX1_check_44 : decode cX1_check 44 = .ok (.aload_n 0, 1) := by decide +kernel
theorem dX1_check_45 : decode cX1_check 45 = .ok (.iconst 0, 1) := by decide +kernel
theorem dX1_check_46 : decode cX1_check 46 = .ok (.putfield 273, 3) := by decide +kernel
theorem dX1_check_49 : decode cX1_check 49 = .ok (.aload_n 0, 1) := by decide +kernel
theorem dX1_check_50 : decode cX1_check 50 = .ok (.iconst 0, 1) := by decide +kernel
theorem dX1_check_51 : decode cX1_check 51 = .ok (.invokevirtual 402, 3) := by decide +kernel
theorem dX1_check_54 : decode cX1_check 54 = .ok (.iconst 0, 1) := by decide +kernel
theorem dX1_check_55 : decode cX1_check 55 = .ok (.istore_n 1, 1) := by decide +kernel
theorem dX1_check_56 : decode cX1_check 56 = .ok (.iload_n 1, 1) := by decide +kernel
theorem dX1_check_57 : decode cX1_check 57 = .ok (.aload_n 0, 1) := by decide +kernel
theorem dX1_check_58 : decode cX1_check 58 = .ok (.getfield 390, 3) := by decide +kernel
theorem dX1_check_61 : decode cX1_check 61 = .ok (.if_icmp .ge 21, 3) := by decide +kernel
theorem dX1_check_64 : decode cX1_check 64 = .ok (.aload_n 0, 1) := by decide +kernel
theorem dX1_check_65 : decode cX1_check 65 = .ok (.getfield 396, 3) := by decide +kernel
theorem dX1_check_68 : decode cX1_check 68 = .ok (.ifCond .ne 14, 3) := by decide +kernel
theorem dX1_check_71 : decode cX1_check 71 = .ok (.aload_n 0, 1) := by decide +kernel
theorem dX1_check_72 : decode cX1_check 72 = .ok (.iload_n 1, 1) := by decide +kernel
theorem dX1_check_73 : decode cX1_check 73 = .ok (.invokevirtual 408, 3) := by decide +kernel
theorem dX1_check_76 : decode cX1_check 76 = .ok (.iinc 1 1, 3) := by decide +kernel
theorem dX1_check_79 : decode cX1_check 79 = .ok (.goto (-23), 3) := by decide +kernel
theorem dX1_check_82 : decode cX1_check 82 = .ok (.aload_n 0, 1) := by decide +kernel
theorem dX1_check_83 : decode cX1_check 83 = .ok (.iconst 0, 1) := by decide +kernel
theorem dX1_check_84 : decode cX1_check 84 = .ok (.putfield 307, 3) := by decide +kernel
theorem dX1_check_87 : decode cX1_check 87 = .ok (.aload_n 0, 1) := by decide +kernel
theorem dX1_check_88 : decode cX1_check 88 = .ok (.iconst 2, 1) := by decide +kernel
theorem dX1_check_89 : decode cX1_check 89 = .ok (.iconst 0, 1) := by decide +kernel
theorem dX1_check_90 : decode cX1_check 90 = .ok (.invokevirtual 360, 3) := by decide +kernel
theorem dX1_check_93 : decode cX1_check 93 = .ok (.aload_n 0, 1) := by decide +kernel
theorem dX1_check_94 : decode cX1_check 94 = .ok (.aload_n 0, 1) := by decide +kernel
theorem dX1_check_95 : decode cX1_check 95 = .ok (.getfield 390, 3) := by decide +kernel
theorem dX1_check_98 : decode cX1_check 98 = .ok (.putfield 270, 3) := by decide +kernel
theorem dX1_check_101 : decode cX1_check 101 = .ok (.aload_n 0, 1) := by decide +kernel
theorem dX1_check_102 : decode cX1_check 102 = .ok (.getfield 396, 3) := by decide +kernel
theorem dX1_check_105 : decode cX1_check 105 = .ok (.ifCond .eq 11, 3) := by decide +kernel
theorem dX1_check_108 : decode cX1_check 108 = .ok (.aload_n 0, 1) := by decide +kernel
theorem dX1_check_109 : decode cX1_check 109 = .ok (.iconst 0, 1) := by decide +kernel
theorem dX1_check_110 : decode cX1_check 110 = .ok (.putfield 273, 3) := by decide +kernel
theorem dX1_check_113 : decode cX1_check 113 = .ok (.bipush (-2), 2) := by decide +kernel
theorem dX1_check_115 : decode cX1_check 115 = .ok (.ireturn, 1) := by decide +kernel
theorem dX1_check_116 : decode cX1_check 116 = .ok (.aload_n 0, 1) := by decide +kernel
theorem dX1_check_117 : decode cX1_check 117 = .ok (.getfield 405, 3) := by decide +kernel
theorem dX1_check_120 : decode cX1_check 120 = .ok (.iconst 1, 1) := by decide +kernel
theorem dX1_check_121 : decode cX1_check 121 = .ok (.iadd, 1) := by decide +kernel
theorem dX1_check_122 : decode cX1_check 122 = .ok (.ireturn, 1) := by decide +kernel
theorem dX1_compile_0 : decode cX1_compile 0 = .ok (.aload_n 0, 1) := by decide +kernel
theorem dX1_compile_1 : decode cX1_compile 1 = .ok (.iconst 0, 1) := by decide +kernel
theorem dX1_compile_2 : decode cX1_compile 2 = .ok (.putfield 173, 3) := by decide +kernel
theorem dX1_compile_5 : decode cX1_compile 5 = .ok (.aload_n 0, 1) := by decide +kernel
theorem dX1_compile_6 : decode cX1_compile 6 = .ok (.iconst 0, 1) := by decide +kernel
theorem dX1_compile_7 : decode cX1_compile 7 = .ok (.putfield 176, 3) := by decide +kernel
theorem dX1_compile_10 : decode cX1_compile 10 = .ok (.aload_n 0, 1) := by decide +kernel
theorem dX1_compile_11 : decode cX1_compile 11 = .ok (.invokevirtual 251, 3) := by decide +kernel
theorem dX1_compile_14 : decode cX1_compile 14 = .ok (.istore_n 1, 1) := by decide +kernel
theorem dX1_compile_15 : decode cX1_compile 15 = .ok (.aload_n 0, 1) := by decide +kernel
theorem dX1_compile_16 : decode cX1_compile 16 = .ok (.iconst 0, 1) := by decide +kernel
theorem dX1_compile_17 : decode cX1_compile 17 = .ok (.putfield 165, 3) := by decide +kernel
theorem dX1_compile_20 : decode cX1_compile 20 = .ok (.iload_n 1, 1) := by decide +kernel
theorem dX1_compile_21 : decode cX1_compile 21 = .ok (.ifCond .ne 9, 3) := by decide +kernel
theorem dX1_compile_24 : decode cX1_compile 24 = .ok (.aload_n 0, 1) := by decide +kernel
theorem dX1_compile_25 : decode cX1_compile 25 = .ok (.iconst 1, 1) := by decide +kernel
theorem dX1_compile_26 : decode cX1_compile 26 = .ok (.invokevirtual 254, 3) := by decide +kernel
theorem dX1_compile_29 : decode cX1_compile 29 = .ok (.ireturn, 1) := by decide +kernel
theorem dX1_compile_30 : decode cX1_compile 30 = .ok (.aload_n 0, 1) := by decide +kernel
theorem dX1_compile_31 : decode cX1_compile 31 = .ok (.iconst 0, 1) := by decide +kernel
theorem dX1_compile_32 : decode cX1_compile 32 = .ok (.putfield 161, 3) := by decide +kernel
theorem dX1_compile_35 : decode cX1_compile 35 = .ok (.aload_n 0, 1) := by decide +kernel
theorem dX1_compile_36 : decode cX1_compile 36 = .ok (.iconst 1, 1) := by decide +kernel
theorem dX1_compile_37 : decode cX1_compile 37 = .ok (.putfield 257, 3) := by decide +kernel
theorem dX1_compile_40 : decode cX1_compile 40 = .ok (.aload_n 0, 1) := by decide +kernel
theorem dX1_compile_41 : decode cX1_compile 41 = .ok (.aload_n 0, 1) := by decide +kernel
theorem dX1_compile_42 : decode cX1_compile 42 = .ok (.getfield 201, 3) := by decide +kernel
theorem dX1_compile_45 : decode cX1_compile 45 = .ok (.putfield 261, 3) := by decide +kernel
theorem dX1_compile_48 : decode cX1_compile 48 = .ok (.iconst 0, 1) := by decide +kernel
theorem dX1_compile_49 : decode cX1_compile 49 = .ok (.istore_n 2, 1) := by decide +kernel
theorem dX1_compile_50 : decode cX1_compile 50 = .ok (.iload_n 2, 1) := by decide +kernel
theorem dX1_compile_51 : decode cX1_compile 51 = .ok (.aload_n 0, 1) := by decide +kernel
theorem dX1_compile_52 : decode cX1_compile 52 = .ok (.getfield 261, 3) := by decide +kernel
theorem dX1_compile_55 : decode cX1_compile 55 = .ok (.if_icmp .ge 45, 3) := by decide +kernel
theorem dX1_compile_58 : decode cX1_compile 58 = .ok (.aload_n 0, 1) := by decide +kernel
theorem dX1_compile_59 : decode cX1_compile 59 = .ok (.getfield 67, 3) := by decide +kernel
theorem dX1_compile_62 : decode cX1_compile 62 = .ok (.iload_n 2, 1) := by decide +kernel
theorem dX1_compile_63 : decode cX1_compile 63 = .ok (.aload_n 0, 1) := by decide +kernel
theorem dX1_compile_64 : decode cX1_compile 64 = .ok (.getfield 13, 3) := by decide +kernel
theorem dX1_compile_67 : decode cX1_compile 67 = .ok (.iload_n 2, 1) := by decide +kernel
theorem dX1_compile_68 : decode cX1_compile 68 = .ok (.iaload, 1) := by decide +kernel
theorem dX1_compile_69 : decode cX1_compile 69 = .ok (.iastore, 1) := by decide +kernel
theorem dX1_compile_70 : decode cX1_compile 70 = .ok (.aload_n 0, 1) := by decide +kernel
theorem dX1_compile_71 : decode cX1_compile 71 = .ok (.getfield 70, 3) := by decide +kernel
theorem dX1_compile_74 : decode cX1_compile 74 = .ok (.iload_n 2, 1) := by decide +kernel
theorem dX1_compile_75 : decode cX1_compile 75 = .ok (.aload_n 0, 1) := by decide +kernel
theorem dX1_compile_76 : decode cX1_compile 76 = .ok (.getfield 16, 3) := by decide +kernel
theorem dX1_compile_79 : decode cX1_compile 79 = .ok (.iload_n 2, 1) := by decide +kernel
theorem dX1_compile_80 : decode cX1_compile 80 = .ok (.iaload, 1) := by decide +kernel
theorem dX1_compile_81 : decode cX1_compile 81 = .ok (.iastore, 1) := by decide +kernel
theorem dX1_compile_82 : decode cX1_compile 82 = .ok (.aload_n 0, 1) := by decide +kernel
theorem dX1_compile_83 : decode cX1_compile 83 = .ok (.getfield 73, 3) := by decide +kernel
theorem dX1_compile_86 : decode cX1_compile 86 = .ok (.iload_n 2, 1) := by decide +kernel
theorem dX1_compile_87 : decode cX1_compile 87 = .ok (.aload_n 0, 1) := by decide +kernel
theorem dX1_compile_88 : decode cX1_compile 88 = .ok (.getfield 19, 3) := by decide +kernel
theorem dX1_compile_91 : decode cX1_compile 91 = .ok (.iload_n 2, 1) := by decide +kernel
theorem dX1_compile_92 : decode cX1_compile 92 = .ok (.iaload, 1) := by decide +kernel
theorem dX1_compile_93 : decode cX1_compile 93 = .ok (.iastore, 1) := by decide +kernel
theorem dX1_compile_94 : decode cX1_compile 94 = .ok (.iinc 2 1, 3) := by decide +kernel
theorem dX1_compile_97 : decode cX1_compile 97 = .ok (.goto (-47), 3) := by decide +kernel
theorem dX1_compile_100 : decode cX1_compile 100 = .ok (.iconst 0, 1) := by decide +kernel
theorem dX1_compile_101 : decode cX1_compile 101 = .ok (.istore_n 2, 1) := by decide +kernel
theorem dX1_compile_102 : decode cX1_compile 102 = .ok (.iload_n 2, 1) := by decide +kernel
theorem dX1_compile_103 : decode cX1_compile 103 = .ok (.bipush 26, 2) := by decide +kernel
theorem dX1_compile_105 : decode cX1_compile 105 = .ok (.if_icmp .ge 16, 3) := by decide +kernel
theorem dX1_compile_108 : decode cX1_compile 108 = .ok (.aload_n 0, 1) := by decide +kernel
theorem dX1_compile_109 : decode cX1_compile 109 = .ok (.getfield 76, 3) := by decide +kernel
theorem dX1_compile_112 : decode cX1_compile 112 = .ok (.iload_n 2, 1) := by decide +kernel
theorem dX1_compile_113 : decode cX1_compile 113 = .ok (.iconst 0, 1) := by decide +kernel
theorem dX1_compile_114 : decode cX1_compile 114 = .ok (.bastore, 1) := by decide +kernel
theorem dX1_compile_115 : decode cX1_compile 115 = .ok (.iinc 2 1, 3) := by decide +kernel
theorem dX1_compile_118 : decode cX1_compile 118 = .ok (.goto (-16), 3) := by decide +kernel
theorem dX1_compile_121 : decode cX1_compile 121 = .ok (.iconst 0, 1) := by decide +kernel
theorem dX1_compile_122 : decode cX1_compile 122 = .ok (.istore_n 2, 1) := by decide +kernel
theorem dX1_compile_123 : decode cX1_compile 123 = .ok (.iload_n 2, 1) := by decide +kernel
theorem dX1_compile_124 : decode cX1_compile 124 = .ok (.aload_n 0, 1) := by decide +kernel
theorem dX1_compile_125 : decode cX1_compile 125 = .ok (.getfield 198, 3) := by decide +kernel
theorem dX1_compile_128 : decode cX1_compile 128 = .ok (.if_icmp .ge 92, 3) := by decide +kernel
theorem dX1_compile_131 : decode cX1_compile 131 = .ok (.aload_n 0, 1) := by decide +kernel
theorem dX1_compile_132 : decode cX1_compile 132 = .ok (.getfield 28, 3) := by decide +kernel
theorem dX1_compile_135 : decode cX1_compile 135 = .ok (.iload_n 2, 1) := by decide +kernel
theorem dX1_compile_136 : decode cX1_compile 136 = .ok (.iaload, 1) := by decide +kernel
theorem dX1_compile_137 : decode cX1_compile 137 = .ok (.istore_n 3, 1) := by decide +kernel
theorem dX1_compile_138 : decode cX1_compile 138 = .ok (.aload_n 0, 1) := by decide +kernel
theorem dX1_compile_139 : decode cX1_compile 139 = .ok (.getfield 76, 3) := by decide +kernel
theorem dX1_compile_142 : decode cX1_compile 142 = .ok (.iload_n 3, 1) := by decide +kernel
theorem dX1_compile_143 : decode cX1_compile 143 = .ok (.iconst 1, 1) := by decide +kernel
theorem dX1_compile_144 : decode cX1_compile 144 = .ok (.bastore, 1) := by decide +kernel
theorem dX1_compile_145 : decode cX1_compile 145 = .ok (.aload_n 0, 1) := by decide +kernel
theorem dX1_compile_146 : decode cX1_compile 146 = .ok (.getfield 80, 3) := by decide +kernel
theorem dX1_compile_149 : decode cX1_compile 149 = .ok (.iload_n 3, 1) := by decide +kernel
theorem dX1_compile_150 : decode cX1_compile 150 = .ok (.aload_n 0, 1) := by decide +kernel
theorem dX1_compile_151 : decode cX1_compile 151 = .ok (.getfield 31, 3) := by decide +kernel
theorem dX1_compile_154 : decode cX1_compile 154 = .ok (.iload_n 2, 1) := by decide +kernel
theorem dX1_compile_155 : decode cX1_compile 155 = .ok (.iaload, 1) := by decide +kernel
theorem dX1_compile_156 : decode cX1_compile 156 = .ok (.iastore, 1) := by decide +kernel
theorem dX1_compile_157 : decode cX1_compile 157 = .ok (.aload_n 0, 1) := by decide +kernel
theorem dX1_compile_158 : decode cX1_compile 158 = .ok (.getfield 83, 3) := by decide +kernel
theorem dX1_compile_161 : decode cX1_compile 161 = .ok (.iload_n 3, 1) := by decide +kernel
theorem dX1_compile_162 : decode cX1_compile 162 = .ok (.aload_n 0, 1) := by decide +kernel
theorem dX1_compile_163 : decode cX1_compile 163 = .ok (.getfield 43, 3) := by decide +kernel
theorem dX1_compile_166 : decode cX1_compile 166 = .ok (.iload_n 2, 1) := by decide +kernel
theorem dX1_compile_167 : decode cX1_compile 167 = .ok (.iaload, 1) := by decide +kernel
theorem dX1_compile_168 : decode cX1_compile 168 = .ok (.iastore, 1) := by decide +kernel
theorem dX1_compile_169 : decode cX1_compile 169 = .ok (.aload_n 0, 1) := by decide +kernel
theorem dX1_compile_170 : decode cX1_compile 170 = .ok (.getfield 86, 3) := by decide +kernel
theorem dX1_compile_173 : decode cX1_compile 173 = .ok (.iload_n 3, 1) := by decide +kernel
theorem dX1_compile_174 : decode cX1_compile 174 = .ok (.aload_n 0, 1) := by decide +kernel
theorem dX1_compile_175 : decode cX1_compile 175 = .ok (.getfield 37, 3) := by decide +kernel
theorem dX1_compile_178 : decode cX1_compile 178 = .ok (.iload_n 2, 1) := by decide +kernel
theorem dX1_compile_179 : decode cX1_compile 179 = .ok (.iaload, 1) := by decide +kernel
theorem dX1_compile_180 : decode cX1_compile 180 = .ok (.iastore, 1) := by decide +kernel
theorem dX1_compile_181 : decode cX1_compile 181 = .ok (.aload_n 0, 1) := by decide +kernel
theorem dX1_compile_182 : decode cX1_compile 182 = .ok (.getfield 89, 3) := by decide +kernel
theorem dX1_compile_185 : decode cX1_compile 185 = .ok (.iload_n 3, 1) := by decide +kernel
theorem dX1_compile_186 : decode cX1_compile 186 = .ok (.aload_n 0, 1) := by decide +kernel
theorem dX1_compile_187 : decode cX1_compile 187 = .ok (.getfield 34, 3) := by decide +kernel
theorem dX1_compile_190 : decode cX1_compile 190 = .ok (.iload_n 2, 1) := by decide +kernel
theorem dX1_compile_191 : decode cX1_compile 191 = .ok (.iaload, 1) := by decide +kernel
theorem dX1_compile_192 : decode cX1_compile 192 = .ok (.aload_n 0, 1) := by decide +kernel
theorem dX1_compile_193 : decode cX1_compile 193 = .ok (.getfield 37, 3) := by decide +kernel
theorem dX1_compile_196 : decode cX1_compile 196 = .ok (.iload_n 2, 1) := by decide +kernel
theorem dX1_compile_197 : decode cX1_compile 197 = .ok (.iaload, 1) := by decide +kernel
theorem dX1_compile_198 : decode cX1_compile 198 = .ok (.isub, 1) := by decide +kernel
theorem dX1_compile_199 : decode cX1_compile 199 = .ok (.iconst 1, 1) := by decide +kernel
theorem dX1_compile_200 : decode cX1_compile 200 = .ok (.iadd, 1) := by decide +kernel
theorem dX1_compile_201 : decode cX1_compile 201 = .ok (.iastore, 1) := by decide +kernel
theorem dX1_compile_202 : decode cX1_compile 202 = .ok (.aload_n 0, 1) := by decide +kernel
theorem dX1_compile_203 : decode cX1_compile 203 = .ok (.getfield 92, 3) := by decide +kernel
theorem dX1_compile_206 : decode cX1_compile 206 = .ok (.iload_n 3, 1) := by decide +kernel
theorem dX1_compile_207 : decode cX1_compile 207 = .ok (.aload_n 0, 1) := by decide +kernel
theorem dX1_compile_208 : decode cX1_compile 208 = .ok (.getfield 40, 3) := by decide +kernel
theorem dX1_compile_211 : decode cX1_compile 211 = .ok (.iload_n 2, 1) := by decide +kernel
theorem dX1_compile_212 : decode cX1_compile 212 = .ok (.iaload, 1) := by decide +kernel
theorem dX1_compile_213 : decode cX1_compile 213 = .ok (.iastore, 1) := by decide +kernel
theorem dX1_compile_214 : decode cX1_compile 214 = .ok (.iinc 2 1, 3) := by decide +kernel
theorem dX1_compile_217 : decode cX1_compile 217 = .ok (.goto (-94), 3) := by decide +kernel
theorem dX1_compile_220 : decode cX1_compile 220 = .ok (.aload_n 0, 1) := by decide +kernel
theorem dX1_compile_221 : decode cX1_compile 221 = .ok (.aload_n 0, 1) := by decide +kernel
theorem dX1_compile_222 : decode cX1_compile 222 = .ok (.getfield 223, 3) := by decide +kernel
theorem dX1_compile_225 : decode cX1_compile 225 = .ok (.putfield 264, 3) := by decide +kernel
theorem dX1_compile_228 : decode cX1_compile 228 = .ok (.iconst 0, 1) := by decide +kernel
theorem dX1_compile_229 : decode cX1_compile 229 = .ok (.istore_n 2, 1) := by decide +kernel
theorem dX1_compile_230 : decode cX1_compile 230 = .ok (.iload_n 2, 1) := by decide +kernel
theorem dX1_compile_231 : decode cX1_compile 231 = .ok (.aload_n 0, 1) := by decide +kernel
theorem dX1_compile_232 : decode cX1_compile 232 = .ok (.getfield 264, 3) := by decide +kernel
theorem dX1_compile_235 : decode cX1_compile 235 = .ok (.if_icmp .ge 57, 3) := by decide +kernel
theorem dX1_compile_238 : decode cX1_compile 238 = .ok (.aload_n 0, 1) := by decide +kernel
theorem dX1_compile_239 : decode cX1_compile 239 = .ok (.getfield 95, 3) := by decide +kernel
theorem dX1_compile_242 : decode cX1_compile 242 = .ok (.iload_n 2, 1) := by decide +kernel
theorem dX1_compile_243 : decode cX1_compile 243 = .ok (.aload_n 0, 1) := by decide +kernel
theorem dX1_compile_244 : decode cX1_compile 244 = .ok (.getfield 49, 3) := by decide +kernel
theorem dX1_compile_247 : decode cX1_compile 247 = .ok (.iload_n 2, 1) := by decide +kernel
theorem dX1_compile_248 : decode cX1_compile 248 = .ok (.iaload, 1) := by decide +kernel
theorem dX1_compile_249 : decode cX1_compile 249 = .ok (.iastore, 1) := by decide +kernel
theorem dX1_compile_250 : decode cX1_compile 250 = .ok (.aload_n 0, 1) := by decide +kernel
theorem dX1_compile_251 : decode cX1_compile 251 = .ok (.getfield 98, 3) := by decide +kernel
theorem dX1_compile_254 : decode cX1_compile 254 = .ok (.iload_n 2, 1) := by decide +kernel
theorem dX1_compile_255 : decode cX1_compile 255 = .ok (.aload_n 0, 1) := by decide +kernel
theorem dX1_compile_256 : decode cX1_compile 256 = .ok (.getfield 52, 3) := by decide +kernel
theorem dX1_compile_259 : decode cX1_compile 259 = .ok (.iload_n 2, 1) := by decide +kernel
theorem dX1_compile_260 : decode cX1_compile 260 = .ok (.iaload, 1) := by decide +kernel
theorem dX1_compile_261 : decode cX1_compile 261 = .ok (.iastore, 1) := by decide +kernel
theorem dX1_compile_262 : decode cX1_compile 262 = .ok (.aload_n 0, 1) := by decide +kernel
theorem dX1_compile_263 : decode cX1_compile 263 = .ok (.getfield 101, 3) := by decide +kernel
theorem dX1_compile_266 : decode cX1_compile 266 = .ok (.iload_n 2, 1) := by decide +kernel
theorem dX1_compile_267 : decode cX1_compile 267 = .ok (.aload_n 0, 1) := by decide +kernel
theorem dX1_compile_268 : decode cX1_compile 268 = .ok (.getfield 55, 3) := by decide +kernel
