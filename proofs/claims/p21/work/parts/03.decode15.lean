theorem dX1_readRule_90 : decode cX1_readRule 90 = .ok (.aload_n 0, 1) := by decide +kernel
theorem dX1_readRule_91 : decode cX1_readRule 91 = .ok (.iconst 1, 1) := by decide +kernel
theorem dX1_readRule_92 : decode cX1_readRule 92 = .ok (.aload_n 0, 1) := by decide +kernel
theorem dX1_readRule_93 : decode cX1_readRule 93 = .ok (.getfield 170, 3) := by decide +kernel
theorem dX1_readRule_96 : decode cX1_readRule 96 = .ok (.invokevirtual 183, 3) := by decide +kernel
theorem dX1_readRule_99 : decode cX1_readRule 99 = .ok (.ireturn, 1) := by decide +kernel
theorem dX1_readRule_100 : decode cX1_readRule 100 = .ok (.aload_n 0, 1) := by decide +kernel
theorem dX1_readRule_101 : decode cX1_readRule 101 = .ok (.dup, 1) := by decide +kernel
theorem dX1_readRule_102 : decode cX1_readRule 102 = .ok (.getfield 170, 3) := by decide +kernel
theorem dX1_readRule_105 : decode cX1_readRule 105 = .ok (.iconst 1, 1) := by decide +kernel
theorem dX1_readRule_106 : decode cX1_readRule 106 = .ok (.iadd, 1) := by decide +kernel
theorem dX1_readRule_107 : decode cX1_readRule 107 = .ok (.putfield 170, 3) := by decide +kernel
theorem dX1_readRule_110 : decode cX1_readRule 110 = .ok (.aload_n 0, 1) := by decide +kernel
theorem dX1_readRule_111 : decode cX1_readRule 111 = .ok (.getfield 64, 3) := by decide +kernel
theorem dX1_readRule_114 : decode cX1_readRule 114 = .ok (.iload_n 1, 1) := by decide +kernel
theorem dX1_readRule_115 : decode cX1_readRule 115 = .ok (.aload_n 0, 1) := by decide +kernel
theorem dX1_readRule_116 : decode cX1_readRule 116 = .ok (.getfield 170, 3) := by decide +kernel
theorem dX1_readRule_119 : decode cX1_readRule 119 = .ok (.iastore, 1) := by decide +kernel
theorem dX1_readRule_120 : decode cX1_readRule 120 = .ok (.aload_n 0, 1) := by decide +kernel
theorem dX1_readRule_121 : decode cX1_readRule 121 = .ok (.getfield 55, 3) := by decide +kernel
theorem dX1_readRule_124 : decode cX1_readRule 124 = .ok (.iload_n 1, 1) := by decide +kernel
theorem dX1_readRule_125 : decode cX1_readRule 125 = .ok (.aload_n 0, 1) := by decide +kernel
theorem dX1_readRule_126 : decode cX1_readRule 126 = .ok (.invokevirtual 179, 3) := by decide +kernel
theorem dX1_readRule_129 : decode cX1_readRule 129 = .ok (.bipush 65, 2) := by decide +kernel
theorem dX1_readRule_131 : decode cX1_readRule 131 = .ok (.isub, 1) := by decide +kernel
theorem dX1_readRule_132 : decode cX1_readRule 132 = .ok (.iastore, 1) := by decide +kernel
theorem dX1_readRule_133 : decode cX1_readRule 133 = .ok (.aload_n 0, 1) := by decide +kernel
theorem dX1_readRule_134 : decode cX1_readRule 134 = .ok (.invokevirtual 204, 3) := by decide +kernel
theorem dX1_readRule_137 : decode cX1_readRule 137 = .ok (.ifCond .ne 5, 3) := by decide +kernel
theorem dX1_readRule_140 : decode cX1_readRule 140 = .ok (.iconst 0, 1) := by decide +kernel
theorem dX1_readRule_141 : decode cX1_readRule 141 = .ok (.ireturn, 1) := by decide +kernel
theorem dX1_readRule_142 : decode cX1_readRule 142 = .ok (.aload_n 0, 1) := by decide +kernel
theorem dX1_readRule_143 : decode cX1_readRule 143 = .ok (.getfield 58, 3) := by decide +kernel
theorem dX1_readRule_146 : decode cX1_readRule 146 = .ok (.iload_n 1, 1) := by decide +kernel
theorem dX1_readRule_147 : decode cX1_readRule 147 = .ok (.iconst 0, 1) := by decide +kernel
theorem dX1_readRule_148 : decode cX1_readRule 148 = .ok (.iastore, 1) := by decide +kernel
theorem dX1_readRule_149 : decode cX1_readRule 149 = .ok (.aload_n 0, 1) := by decide +kernel
theorem dX1_readRule_150 : decode cX1_readRule 150 = .ok (.getfield 49, 3) := by decide +kernel
theorem dX1_readRule_153 : decode cX1_readRule 153 = .ok (.iload_n 1, 1) := by decide +kernel
theorem dX1_readRule_154 : decode cX1_readRule 154 = .ok (.iaload, 1) := by decide +kernel
theorem dX1_readRule_155 : decode cX1_readRule 155 = .ok (.bipush 38, 2) := by decide +kernel
theorem dX1_readRule_157 : decode cX1_readRule 157 = .ok (.if_icmp .ne 33, 3) := by decide +kernel
theorem dX1_readRule_160 : decode cX1_readRule 160 = .ok (.aload_n 0, 1) := by decide +kernel
theorem dX1_readRule_161 : decode cX1_readRule 161 = .ok (.bipush 61, 2) := by decide +kernel
theorem dX1_readRule_163 : decode cX1_readRule 163 = .ok (.invokevirtual 214, 3) := by decide +kernel
theorem dX1_readRule_166 : decode cX1_readRule 166 = .ok (.ifCond .eq 12, 3) := by decide +kernel
theorem dX1_readRule_169 : decode cX1_readRule 169 = .ok (.aload_n 0, 1) := by decide +kernel
theorem dX1_readRule_170 : decode cX1_readRule 170 = .ok (.iconst 1, 1) := by decide +kernel
theorem dX1_readRule_171 : decode cX1_readRule 171 = .ok (.iconst 4, 1) := by decide +kernel
theorem dX1_readRule_172 : decode cX1_readRule 172 = .ok (.invokevirtual 217, 3) := by decide +kernel
theorem dX1_readRule_175 : decode cX1_readRule 175 = .ok (.ifCond .ne 5, 3) := by decide +kernel
theorem dX1_readRule_178 : decode cX1_readRule 178 = .ok (.iconst 0, 1) := by decide +kernel
theorem dX1_readRule_179 : decode cX1_readRule 179 = .ok (.ireturn, 1) := by decide +kernel
theorem dX1_readRule_180 : decode cX1_readRule 180 = .ok (.aload_n 0, 1) := by decide +kernel
theorem dX1_readRule_181 : decode cX1_readRule 181 = .ok (.getfield 58, 3) := by decide +kernel
theorem dX1_readRule_184 : decode cX1_readRule 184 = .ok (.iload_n 1, 1) := by decide +kernel
theorem dX1_readRule_185 : decode cX1_readRule 185 = .ok (.aload_n 0, 1) := by decide +kernel
theorem dX1_readRule_186 : decode cX1_readRule 186 = .ok (.getfield 191, 3) := by decide +kernel
theorem dX1_readRule_189 : decode cX1_readRule 189 = .ok (.iastore, 1) := by decide +kernel
theorem dX1_readRule_190 : decode cX1_readRule 190 = .ok (.aload_n 0, 1) := by decide +kernel
theorem dX1_readRule_191 : decode cX1_readRule 191 = .ok (.dup, 1) := by decide +kernel
theorem dX1_readRule_192 : decode cX1_readRule 192 = .ok (.getfield 223, 3) := by decide +kernel
theorem dX1_readRule_195 : decode cX1_readRule 195 = .ok (.iconst 1, 1) := by decide +kernel
theorem dX1_readRule_196 : decode cX1_readRule 196 = .ok (.iadd, 1) := by decide +kernel
theorem dX1_readRule_197 : decode cX1_readRule 197 = .ok (.putfield 223, 3) := by decide +kernel
theorem dX1_readRule_200 : decode cX1_readRule 200 = .ok (.aload_n 0, 1) := by decide +kernel
theorem dX1_readRule_201 : decode cX1_readRule 201 = .ok (.bipush 59, 2) := by decide +kernel
theorem dX1_readRule_203 : decode cX1_readRule 203 = .ok (.invokevirtual 214, 3) := by decide +kernel
theorem dX1_readRule_206 : decode cX1_readRule 206 = .ok (.ireturn, 1) := by decide +kernel
theorem dX1_registerAt_0 : decode cX1_registerAt 0 = .ok (.iconst 0, 1) := by decide +kernel
theorem dX1_registerAt_1 : decode cX1_registerAt 1 = .ok (.istore_n 2, 1) := by decide +kernel
theorem dX1_registerAt_2 : decode cX1_registerAt 2 = .ok (.iload_n 2, 1) := by decide +kernel
theorem dX1_registerAt_3 : decode cX1_registerAt 3 = .ok (.aload_n 0, 1) := by decide +kernel
theorem dX1_registerAt_4 : decode cX1_registerAt 4 = .ok (.getfield 261, 3) := by decide +kernel
theorem dX1_registerAt_7 : decode cX1_registerAt 7 = .ok (.if_icmp .ge 29, 3) := by decide +kernel
theorem dX1_registerAt_10 : decode cX1_registerAt 10 = .ok (.aload_n 0, 1) := by decide +kernel
theorem dX1_registerAt_11 : decode cX1_registerAt 11 = .ok (.getfield 67, 3) := by decide +kernel
theorem dX1_registerAt_14 : decode cX1_registerAt 14 = .ok (.iload_n 2, 1) := by decide +kernel
theorem dX1_registerAt_15 : decode cX1_registerAt 15 = .ok (.iaload, 1) := by decide +kernel
theorem dX1_registerAt_16 : decode cX1_registerAt 16 = .ok (.iload_n 1, 1) := by decide +kernel
theorem dX1_registerAt_17 : decode cX1_registerAt 17 = .ok (.if_icmp .ne 13, 3) := by decide +kernel
theorem dX1_registerAt_20 : decode cX1_registerAt 20 = .ok (.aload_n 0, 1) := by decide +kernel
theorem dX1_registerAt_21 : decode cX1_registerAt 21 = .ok (.iload_n 2, 1) := by decide +kernel
theorem dX1_registerAt_22 : decode cX1_registerAt 22 = .ok (.invokevirtual 314, 3) := by decide +kernel
theorem dX1_registerAt_25 : decode cX1_registerAt 25 = .ok (.ifCond .eq 5, 3) := by decide +kernel
theorem dX1_registerAt_28 : decode cX1_registerAt 28 = .ok (.iload_n 2, 1) := by decide +kernel
theorem dX1_registerAt_29 : decode cX1_registerAt 29 = .ok (.ireturn, 1) := by decide +kernel
theorem dX1_registerAt_30 : decode cX1_registerAt 30 = .ok (.iinc 2 1, 3) := by decide +kernel
theorem dX1_registerAt_33 : decode cX1_registerAt 33 = .ok (.goto (-31), 3) := by decide +kernel
theorem dX1_registerAt_36 : decode cX1_registerAt 36 = .ok (.iconst (-1), 1) := by decide +kernel
theorem dX1_registerAt_37 : decode cX1_registerAt 37 = .ok (.ireturn, 1) := by decide +kernel
theorem dX1_registersRight_0 : decode cX1_registersRight 0 = .ok (.iconst 0, 1) := by decide +kernel
theorem dX1_registersRight_1 : decode cX1_registersRight 1 = .ok (.istore_n 1, 1) := by decide +kernel
theorem dX1_registersRight_2 : decode cX1_registersRight 2 = .ok (.iload_n 1, 1) := by decide +kernel
theorem dX1_registersRight_3 : decode cX1_registersRight 3 = .ok (.aload_n 0, 1) := by decide +kernel
theorem dX1_registersRight_4 : decode cX1_registersRight 4 = .ok (.getfield 201, 3) := by decide +kernel
theorem dX1_registersRight_7 : decode cX1_registersRight 7 = .ok (.if_icmp .ge 94, 3) := by decide +kernel
theorem dX1_registersRight_10 : decode cX1_registersRight 10 = .ok (.aload_n 0, 1) := by decide +kernel
theorem dX1_registersRight_11 : decode cX1_registersRight 11 = .ok (.getfield 16, 3) := by decide +kernel
theorem dX1_registersRight_14 : decode cX1_registersRight 14 = .ok (.iload_n 1, 1) := by decide +kernel
theorem dX1_registersRight_15 : decode cX1_registersRight 15 = .ok (.iaload, 1) := by decide +kernel
theorem dX1_registersRight_16 : decode cX1_registersRight 16 = .ok (.iconst (-1), 1) := by decide +kernel
theorem dX1_registersRight_17 : decode cX1_registersRight 17 = .ok (.if_icmp .ne 6, 3) := by decide +kernel
theorem dX1_registersRight_20 : decode cX1_registersRight 20 = .ok (.goto 75, 3) := by decide +kernel
theorem dX1_registersRight_23 : decode cX1_registersRight 23 = .ok (.aload_n 0, 1) := by decide +kernel
theorem dX1_registersRight_24 : decode cX1_registersRight 24 = .ok (.aload_n 0, 1) := by decide +kernel
theorem dX1_registersRight_25 : decode cX1_registersRight 25 = .ok (.getfield 16, 3) := by decide +kernel
theorem dX1_registersRight_28 : decode cX1_registersRight 28 = .ok (.iload_n 1, 1) := by decide +kernel
theorem dX1_registersRight_29 : decode cX1_registersRight 29 = .ok (.iaload, 1) := by decide +kernel
theorem dX1_registersRight_30 : decode cX1_registersRight 30 = .ok (.aload_n 0, 1) := by decide +kernel
theorem dX1_registersRight_31 : decode cX1_registersRight 31 = .ok (.getfield 198, 3) := by decide +kernel
theorem dX1_registersRight_34 : decode cX1_registersRight 34 = .ok (.invokevirtual 226, 3) := by decide +kernel
theorem dX1_registersRight_37 : decode cX1_registersRight 37 = .ok (.istore_n 2, 1) := by decide +kernel
theorem dX1_registersRight_38 : decode cX1_registersRight 38 = .ok (.iload_n 2, 1) := by decide +kernel
theorem dX1_registersRight_39 : decode cX1_registersRight 39 = .ok (.iconst (-1), 1) := by decide +kernel
theorem dX1_registersRight_40 : decode cX1_registersRight 40 = .ok (.if_icmp .eq 43, 3) := by decide +kernel
theorem dX1_registersRight_43 : decode cX1_registersRight 43 = .ok (.aload_n 0, 1) := by decide +kernel
theorem dX1_registersRight_44 : decode cX1_registersRight 44 = .ok (.getfield 31, 3) := by decide +kernel
theorem dX1_registersRight_47 : decode cX1_registersRight 47 = .ok (.iload_n 2, 1) := by decide +kernel
theorem dX1_registersRight_48 : decode cX1_registersRight 48 = .ok (.iaload, 1) := by decide +kernel
theorem dX1_registersRight_49 : decode cX1_registersRight 49 = .ok (.bipush 119, 2) := by decide +kernel
theorem dX1_registersRight_51 : decode cX1_registersRight 51 = .ok (.if_icmp .ne 32, 3) := by decide +kernel
theorem dX1_registersRight_54 : decode cX1_registersRight 54 = .ok (.aload_n 0, 1) := by decide +kernel
theorem dX1_registersRight_55 : decode cX1_registersRight 55 = .ok (.getfield 16, 3) := by decide +kernel
theorem dX1_registersRight_58 : decode cX1_registersRight 58 = .ok (.aload_n 0, 1) := by decide +kernel
theorem dX1_registersRight_59 : decode cX1_registersRight 59 = .ok (.getfield 43, 3) := by decide +kernel
theorem dX1_registersRight_62 : decode cX1_registersRight 62 = .ok (.iload_n 2, 1) := by decide +kernel
theorem dX1_registersRight_63 : decode cX1_registersRight 63 = .ok (.iaload, 1) := by decide +kernel
theorem dX1_registersRight_64 : decode cX1_registersRight 64 = .ok (.iaload, 1) := by decide +kernel
theorem dX1_registersRight_65 : decode cX1_registersRight 65 = .ok (.iconst (-1), 1) := by decide +kernel
theorem dX1_registersRight_66 : decode cX1_registersRight 66 = .ok (.if_icmp .ne 17, 3) := by decide +kernel
theorem dX1_registersRight_69 : decode cX1_registersRight 69 = .ok (.aload_n 0, 1) := by decide +kernel
theorem dX1_registersRight_70 : decode cX1_registersRight 70 = .ok (.iload_n 2, 1) := by decide +kernel
theorem dX1_registersRight_71 : decode cX1_registersRight 71 = .ok (.aload_n 0, 1) := by decide +kernel
theorem dX1_registersRight_72 : decode cX1_registersRight 72 = .ok (.getfield 19, 3) := by decide +kernel
theorem dX1_registersRight_75 : decode cX1_registersRight 75 = .ok (.iload_n 1, 1) := by decide +kernel
theorem dX1_registersRight_76 : decode cX1_registersRight 76 = .ok (.iaload, 1) := by decide +kernel
theorem dX1_registersRight_77 : decode cX1_registersRight 77 = .ok (.invokevirtual 230, 3) := by decide +kernel
theorem dX1_registersRight_80 : decode cX1_registersRight 80 = .ok (.ifCond .ne 15, 3) := by decide +kernel
theorem dX1_registersRight_83 : decode cX1_registersRight 83 = .ok (.aload_n 0, 1) := by decide +kernel
theorem dX1_registersRight_84 : decode cX1_registersRight 84 = .ok (.iconst 3, 1) := by decide +kernel
theorem dX1_registersRight_85 : decode cX1_registersRight 85 = .ok (.aload_n 0, 1) := by decide +kernel
theorem dX1_registersRight_86 : decode cX1_registersRight 86 = .ok (.getfield 25, 3) := by decide +kernel
theorem dX1_registersRight_89 : decode cX1_registersRight 89 = .ok (.iload_n 1, 1) := by decide +kernel
theorem dX1_registersRight_90 : decode cX1_registersRight 90 = .ok (.iaload, 1) := by decide +kernel
theorem dX1_registersRight_91 : decode cX1_registersRight 91 = .ok (.invokevirtual 183, 3) := by decide +kernel
theorem dX1_registersRight_94 : decode cX1_registersRight 94 = .ok (.ireturn, 1) := by decide +kernel
theorem dX1_registersRight_95 : decode cX1_registersRight 95 = .ok (.iinc 1 1, 3) := by decide +kernel
theorem dX1_registersRight_98 : decode cX1_registersRight 98 = .ok (.goto (-96), 3) := by decide +kernel
theorem dX1_registersRight_101 : decode cX1_registersRight 101 = .ok (.iconst 0, 1) := by decide +kernel
theorem dX1_registersRight_102 : decode cX1_registersRight 102 = .ok (.istore_n 1, 1) := by decide +kernel
theorem dX1_registersRight_103 : decode cX1_registersRight 103 = .ok (.iload_n 1, 1) := by decide +kernel
theorem dX1_registersRight_104 : decode cX1_registersRight 104 = .ok (.aload_n 0, 1) := by decide +kernel
theorem dX1_registersRight_105 : decode cX1_registersRight 105 = .ok (.getfield 201, 3) := by decide +kernel
theorem dX1_registersRight_108 : decode cX1_registersRight 108 = .ok (.if_icmp .ge 99, 3) := by decide +kernel
theorem dX1_registersRight_111 : decode cX1_registersRight 111 = .ok (.iconst 0, 1) := by decide +kernel
theorem dX1_registersRight_112 : decode cX1_registersRight 112 = .ok (.istore_n 2, 1) := by decide +kernel
theorem dX1_registersRight_113 : decode cX1_registersRight 113 = .ok (.iload_n 2, 1) := by decide +kernel
theorem dX1_registersRight_114 : decode cX1_registersRight 114 = .ok (.iload_n 1, 1) := by decide +kernel
theorem dX1_registersRight_115 : decode cX1_registersRight 115 = .ok (.if_icmp .ge 86, 3) := by decide +kernel
theorem dX1_registersRight_118 : decode cX1_registersRight 118 = .ok (.aload_n 0, 1) := by decide +kernel
theorem dX1_registersRight_119 : decode cX1_registersRight 119 = .ok (.getfield 16, 3) := by decide +kernel
theorem dX1_registersRight_122 : decode cX1_registersRight 122 = .ok (.iload_n 1, 1) := by decide +kernel
theorem dX1_registersRight_123 : decode cX1_registersRight 123 = .ok (.iaload, 1) := by decide +kernel
theorem dX1_registersRight_124 : decode cX1_registersRight 124 = .ok (.iconst (-1), 1) := by decide +kernel
theorem dX1_registersRight_125 : decode cX1_registersRight 125 = .ok (.if_icmp .eq 37, 3) := by decide +kernel
theorem dX1_registersRight_128 : decode cX1_registersRight 128 = .ok (.aload_n 0, 1) := by decide +kernel
theorem dX1_registersRight_129 : decode cX1_registersRight 129 = .ok (.getfield 16, 3) := by decide +kernel
theorem dX1_registersRight_132 : decode cX1_registersRight 132 = .ok (.iload_n 2, 1) := by decide +kernel
theorem dX1_registersRight_133 : decode cX1_registersRight 133 = .ok (.iaload, 1) := by decide +kernel
theorem dX1_registersRight_134 : decode cX1_registersRight 134 = .ok (.aload_n 0, 1) := by decide +kernel
theorem dX1_registersRight_135 : decode cX1_registersRight 135 = .ok (.getfield 16, 3) := by decide +kernel
theorem dX1_registersRight_138 : decode cX1_registersRight 138 = .ok (.iload_n 1, 1) := by decide +kernel
theorem dX1_registersRight_139 : decode cX1_registersRight 139 = .ok (.iaload, 1) := by decide +kernel
theorem dX1_registersRight_140 : decode cX1_registersRight 140 = .ok (.if_icmp .ne 22, 3) := by decide +kernel
theorem dX1_registersRight_143 : decode cX1_registersRight 143 = .ok (.aload_n 0, 1) := by decide +kernel
theorem dX1_registersRight_144 : decode cX1_registersRight 144 = .ok (.getfield 19, 3) := by decide +kernel
theorem dX1_registersRight_147 : decode cX1_registersRight 147 = .ok (.iload_n 2, 1) := by decide +kernel
theorem dX1_registersRight_148 : decode cX1_registersRight 148 = .ok (.iaload, 1) := by decide +kernel
theorem dX1_registersRight_149 : decode cX1_registersRight 149 = .ok (.aload_n 0, 1) := by decide +kernel
theorem dX1_registersRight_150 : decode cX1_registersRight 150 = .ok (.getfield 19, 3) := by decide +kernel
theorem dX1_registersRight_153 : decode cX1_registersRight 153 = .ok (.iload_n 1, 1) := by decide +kernel
theorem dX1_registersRight_154 : decode cX1_registersRight 154 = .ok (.iaload, 1) := by decide +kernel
theorem dX1_registersRight_155 : decode cX1_registersRight 155 = .ok (.if_icmp .eq 7, 3) := by decide +kernel
theorem dX1_registersRight_158 : decode cX1_registersRight 158 = .ok (.iconst 1, 1) := by decide +kernel
theorem dX1_registersRight_159 : decode cX1_registersRight 159 = .ok (.goto 4, 3) := by decide +kernel
theorem dX1_registersRight_162 : decode cX1_registersRight 162 = .ok (.iconst 0, 1) := by decide +kernel
theorem dX1_registersRight_163 : decode cX1_registersRight 163 = .ok (.istore_n 3, 1) := by decide +kernel
theorem dX1_registersRight_164 : decode cX1_registersRight 164 = .ok (.aload_n 0, 1) := by decide +kernel
theorem dX1_registersRight_165 : decode cX1_registersRight 165 = .ok (.getfield 13, 3) := by decide +kernel
theorem dX1_registersRight_168 : decode cX1_registersRight 168 = .ok (.iload_n 2, 1) := by decide +kernel
theorem dX1_registersRight_169 : decode cX1_registersRight 169 = .ok (.iaload, 1) := by decide +kernel
theorem dX1_registersRight_170 : decode cX1_registersRight 170 = .ok (.aload_n 0, 1) := by decide +kernel
theorem dX1_registersRight_171 : decode cX1_registersRight 171 = .ok (.getfield 13, 3) := by decide +kernel
theorem dX1_registersRight_174 : decode cX1_registersRight 174 = .ok (.iload_n 1, 1) := by decide +kernel
theorem dX1_registersRight_175 : decode cX1_registersRight 175 = .ok (.iaload, 1) := by decide +kernel
theorem dX1_registersRight_176 : decode cX1_registersRight 176 = .ok (.if_icmp .ne 19, 3) := by decide +kernel
theorem dX1_registersRight_179 : decode cX1_registersRight 179 = .ok (.iload_n 3, 1) := by decide +kernel
theorem dX1_registersRight_180 : decode cX1_registersRight 180 = .ok (.ifCond .ne 15, 3) := by decide +kernel
theorem dX1_registersRight_183 : decode cX1_registersRight 183 = .ok (.aload_n 0, 1) := by decide +kernel
theorem dX1_registersRight_184 : decode cX1_registersRight 184 = .ok (.iconst 3, 1) := by decide +kernel
theorem dX1_registersRight_185 : decode cX1_registersRight 185 = .ok (.aload_n 0, 1) := by decide +kernel
theorem dX1_registersRight_186 : decode cX1_registersRight 186 = .ok (.getfield 22, 3) := by decide +kernel
theorem dX1_registersRight_189 : decode cX1_registersRight 189 = .ok (.iload_n 1, 1) := by decide +kernel
theorem dX1_registersRight_190 : decode cX1_registersRight 190 = .ok (.iaload, 1) := by decide +kernel
theorem dX1_registersRight_191 : decode cX1_registersRight 191 = .ok (.invokevirtual 183, 3) := by decide +kernel
theorem dX1_registersRight_194 : decode cX1_registersRight 194 = .ok (.ireturn, 1) := by decide +kernel
theorem dX1_registersRight_195 : decode cX1_registersRight 195 = .ok (.iinc 2 1, 3) := by decide +kernel
theorem dX1_registersRight_198 : decode cX1_registersRight 198 = .ok (.goto (-85), 3) := by decide +kernel
theorem dX1_registersRight_201 : decode cX1_registersRight 201 = .ok (.iinc 1 1, 3) := by decide +kernel
theorem dX1_registersRight_204 : decode cX1_registersRight 204 = .ok (.goto (-101), 3) := by decide +kernel
theorem dX1_registersRight_207 : decode cX1_registersRight 207 = .ok (.iconst 1, 1) := by decide +kernel
theorem dX1_registersRight_208 : decode cX1_registersRight 208 = .ok (.ireturn, 1) := by decide +kernel
theorem dX1_reset_0 : decode cX1_reset 0 = .ok (.aload_n 0, 1) := by decide +kernel
theorem dX1_reset_1 : decode cX1_reset 1 = .ok (.iconst 0, 1) := by decide +kernel
theorem dX1_reset_2 : decode cX1_reset 2 = .ok (.putfield 161, 3) := by decide +kernel
theorem dX1_reset_5 : decode cX1_reset 5 = .ok (.aload_n 0, 1) := by decide +kernel
theorem dX1_reset_6 : decode cX1_reset 6 = .ok (.getfield 257, 3) := by decide +kernel
theorem dX1_reset_9 : decode cX1_reset 9 = .ok (.ifCond .ne 5, 3) := by decide +kernel
theorem dX1_reset_12 : decode cX1_reset 12 = .ok (.iconst 0, 1) := by decide +kernel
theorem dX1_reset_13 : decode cX1_reset 13 = .ok (.ireturn, 1) := by decide +kernel
theorem dX1_reset_14 : decode cX1_reset 14 = .ok (.aload_n 0, 1) := by decide +kernel
theorem dX1_reset_15 : decode cX1_reset 15 = .ok (.invokevirtual 276, 3) := by decide +kernel
theorem dX1_reset_18 : decode cX1_reset 18 = .ok (.iconst 1, 1) := by decide +kernel
theorem dX1_reset_19 : decode cX1_reset 19 = .ok (.ireturn, 1) := by decide +kernel
theorem dX1_resetAll_0 : decode cX1_resetAll 0 = .ok (.aload_n 0, 1) := by decide +kernel
theorem dX1_resetAll_1 : decode cX1_resetAll 1 = .ok (.invokevirtual 279, 3) := by decide +kernel
theorem dX1_resetAll_4 : decode cX1_resetAll 4 = .ok (.aload_n 0, 1) := by decide +kernel
theorem dX1_resetAll_5 : decode cX1_resetAll 5 = .ok (.iconst 0, 1) := by decide +kernel
theorem dX1_resetAll_6 : decode cX1_resetAll 6 = .ok (.putfield 282, 3) := by decide +kernel
theorem dX1_resetAll_9 : decode cX1_resetAll 9 = .ok (.aload_n 0, 1) := by decide +kernel
theorem dX1_resetAll_10 : decode cX1_resetAll 10 = .ok (.iconst 0, 1) := by decide +kernel
theorem dX1_resetAll_11 : decode cX1_resetAll 11 = .ok (.putfield 285, 3) := by decide +kernel
theorem dX1_resetAll_14 : decode cX1_resetAll 14 = .ok (.aload_n 0, 1) := by decide +kernel
theorem dX1_resetAll_15 : decode cX1_resetAll 15 = .ok (.iconst 0, 1) := by decide +kernel
theorem dX1_resetAll_16 : decode cX1_resetAll 16 = .ok (.putfield 288, 3) := by decide +kernel
theorem dX1_resetAll_19 : decode cX1_resetAll 19 = .ok (.return_, 1) := by decide +kernel
theorem dX1_resetDevice_0 : decode cX1_resetDevice 0 = .ok (.iconst 0, 1) := by decide +kernel
theorem dX1_resetDevice_1 : decode cX1_resetDevice 1 = .ok (.istore_n 1, 1) := by decide +kernel
theorem dX1_resetDevice_2 : decode cX1_resetDevice 2 = .ok (.iload_n 1, 1) := by decide +kernel
theorem dX1_resetDevice_3 : decode cX1_resetDevice 3 = .ok (.bipush 26, 2) := by decide +kernel
theorem dX1_resetDevice_5 : decode cX1_resetDevice 5 = .ok (.if_icmp .ge 48, 3) := by decide +kernel
theorem dX1_resetDevice_8 : decode cX1_resetDevice 8 = .ok (.aload_n 0, 1) := by decide +kernel
theorem dX1_resetDevice_9 : decode cX1_resetDevice 9 = .ok (.getfield 107, 3) := by decide +kernel
theorem dX1_resetDevice_12 : decode cX1_resetDevice 12 = .ok (.iload_n 1, 1) := by decide +kernel
theorem dX1_resetDevice_13 : decode cX1_resetDevice 13 = .ok (.aload_n 0, 1) := by decide +kernel
theorem dX1_resetDevice_14 : decode cX1_resetDevice 14 = .ok (.getfield 76, 3) := by decide +kernel
theorem dX1_resetDevice_17 : decode cX1_resetDevice 17 = .ok (.iload_n 1, 1) := by decide +kernel
theorem dX1_resetDevice_18 : decode cX1_resetDevice 18 = .ok (.baload, 1) := by decide +kernel
theorem dX1_resetDevice_19 : decode cX1_resetDevice 19 = .ok (.ifCond .eq 12, 3) := by decide +kernel
theorem dX1_resetDevice_22 : decode cX1_resetDevice 22 = .ok (.aload_n 0, 1) := by decide +kernel
theorem dX1_resetDevice_23 : decode cX1_resetDevice 23 = .ok (.getfield 92, 3) := by decide +kernel
theorem dX1_resetDevice_26 : decode cX1_resetDevice 26 = .ok (.iload_n 1, 1) := by decide +kernel
theorem dX1_resetDevice_27 : decode cX1_resetDevice 27 = .ok (.iaload, 1) := by decide +kernel
theorem dX1_resetDevice_28 : decode cX1_resetDevice 28 = .ok (.goto 4, 3) := by decide +kernel
theorem dX1_resetDevice_31 : decode cX1_resetDevice 31 = .ok (.iconst 0, 1) := by decide +kernel
theorem dX1_resetDevice_32 : decode cX1_resetDevice 32 = .ok (.iastore, 1) := by decide +kernel
theorem dX1_resetDevice_33 : decode cX1_resetDevice 33 = .ok (.aload_n 0, 1) := by decide +kernel
theorem dX1_resetDevice_34 : decode cX1_resetDevice 34 = .ok (.getfield 110, 3) := by decide +kernel
theorem dX1_resetDevice_37 : decode cX1_resetDevice 37 = .ok (.iload_n 1, 1) := by decide +kernel
