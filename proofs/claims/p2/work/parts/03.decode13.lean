theorem dX12_readRegister_203 : decode cX12_readRegister 203 = .ok (.istore_n 3, 1) := by decide +kernel
theorem dX12_readRegister_204 : decode cX12_readRegister 204 = .ok (.goto (-39), 3) := by decide +kernel
theorem dX12_readRegister_207 : decode cX12_readRegister 207 = .ok (.aload_n 0, 1) := by decide +kernel
theorem dX12_readRegister_208 : decode cX12_readRegister 208 = .ok (.dup, 1) := by decide +kernel
theorem dX12_readRegister_209 : decode cX12_readRegister 209 = .ok (.getfield 201, 3) := by decide +kernel
theorem dX12_readRegister_212 : decode cX12_readRegister 212 = .ok (.iconst 1, 1) := by decide +kernel
theorem dX12_readRegister_213 : decode cX12_readRegister 213 = .ok (.iadd, 1) := by decide +kernel
theorem dX12_readRegister_214 : decode cX12_readRegister 214 = .ok (.putfield 201, 3) := by decide +kernel
theorem dX12_readRegister_217 : decode cX12_readRegister 217 = .ok (.aload_n 0, 1) := by decide +kernel
theorem dX12_readRegister_218 : decode cX12_readRegister 218 = .ok (.bipush 125, 2) := by decide +kernel
theorem dX12_readRegister_220 : decode cX12_readRegister 220 = .ok (.invokevirtual 214, 3) := by decide +kernel
theorem dX12_readRegister_223 : decode cX12_readRegister 223 = .ok (.ireturn, 1) := by decide +kernel
theorem dX12_readRule_0 : decode cX12_readRule 0 = .ok (.aload_n 0, 1) := by decide +kernel
theorem dX12_readRule_1 : decode cX12_readRule 1 = .ok (.getfield 223, 3) := by decide +kernel
theorem dX12_readRule_4 : decode cX12_readRule 4 = .ok (.istore_n 1, 1) := by decide +kernel
theorem dX12_readRule_5 : decode cX12_readRule 5 = .ok (.iload_n 1, 1) := by decide +kernel
theorem dX12_readRule_6 : decode cX12_readRule 6 = .ok (.bipush 12, 2) := by decide +kernel
theorem dX12_readRule_8 : decode cX12_readRule 8 = .ok (.if_icmp .ne 13, 3) := by decide +kernel
theorem dX12_readRule_11 : decode cX12_readRule 11 = .ok (.aload_n 0, 1) := by decide +kernel
theorem dX12_readRule_12 : decode cX12_readRule 12 = .ok (.iconst 1, 1) := by decide +kernel
theorem dX12_readRule_13 : decode cX12_readRule 13 = .ok (.aload_n 0, 1) := by decide +kernel
theorem dX12_readRule_14 : decode cX12_readRule 14 = .ok (.getfield 170, 3) := by decide +kernel
theorem dX12_readRule_17 : decode cX12_readRule 17 = .ok (.invokevirtual 183, 3) := by decide +kernel
theorem dX12_readRule_20 : decode cX12_readRule 20 = .ok (.ireturn, 1) := by decide +kernel
theorem dX12_readRule_21 : decode cX12_readRule 21 = .ok (.aload_n 0, 1) := by decide +kernel
theorem dX12_readRule_22 : decode cX12_readRule 22 = .ok (.getfield 61, 3) := by decide +kernel
theorem dX12_readRule_25 : decode cX12_readRule 25 = .ok (.iload_n 1, 1) := by decide +kernel
theorem dX12_readRule_26 : decode cX12_readRule 26 = .ok (.aload_n 0, 1) := by decide +kernel
theorem dX12_readRule_27 : decode cX12_readRule 27 = .ok (.getfield 170, 3) := by decide +kernel
theorem dX12_readRule_30 : decode cX12_readRule 30 = .ok (.iastore, 1) := by decide +kernel
theorem dX12_readRule_31 : decode cX12_readRule 31 = .ok (.aload_n 0, 1) := by decide +kernel
theorem dX12_readRule_32 : decode cX12_readRule 32 = .ok (.getfield 52, 3) := by decide +kernel
theorem dX12_readRule_35 : decode cX12_readRule 35 = .ok (.iload_n 1, 1) := by decide +kernel
theorem dX12_readRule_36 : decode cX12_readRule 36 = .ok (.aload_n 0, 1) := by decide +kernel
theorem dX12_readRule_37 : decode cX12_readRule 37 = .ok (.invokevirtual 179, 3) := by decide +kernel
theorem dX12_readRule_40 : decode cX12_readRule 40 = .ok (.bipush 65, 2) := by decide +kernel
theorem dX12_readRule_42 : decode cX12_readRule 42 = .ok (.isub, 1) := by decide +kernel
theorem dX12_readRule_43 : decode cX12_readRule 43 = .ok (.iastore, 1) := by decide +kernel
theorem dX12_readRule_44 : decode cX12_readRule 44 = .ok (.aload_n 0, 1) := by decide +kernel
theorem dX12_readRule_45 : decode cX12_readRule 45 = .ok (.invokevirtual 204, 3) := by decide +kernel
theorem dX12_readRule_48 : decode cX12_readRule 48 = .ok (.ifCond .ne 5, 3) := by decide +kernel
theorem dX12_readRule_51 : decode cX12_readRule 51 = .ok (.iconst 0, 1) := by decide +kernel
theorem dX12_readRule_52 : decode cX12_readRule 52 = .ok (.ireturn, 1) := by decide +kernel
theorem dX12_readRule_53 : decode cX12_readRule 53 = .ok (.aload_n 0, 1) := by decide +kernel
theorem dX12_readRule_54 : decode cX12_readRule 54 = .ok (.getfield 49, 3) := by decide +kernel
theorem dX12_readRule_57 : decode cX12_readRule 57 = .ok (.iload_n 1, 1) := by decide +kernel
theorem dX12_readRule_58 : decode cX12_readRule 58 = .ok (.aload_n 0, 1) := by decide +kernel
theorem dX12_readRule_59 : decode cX12_readRule 59 = .ok (.invokevirtual 179, 3) := by decide +kernel
theorem dX12_readRule_62 : decode cX12_readRule 62 = .ok (.iastore, 1) := by decide +kernel
theorem dX12_readRule_63 : decode cX12_readRule 63 = .ok (.aload_n 0, 1) := by decide +kernel
theorem dX12_readRule_64 : decode cX12_readRule 64 = .ok (.invokevirtual 179, 3) := by decide +kernel
theorem dX12_readRule_67 : decode cX12_readRule 67 = .ok (.bipush 60, 2) := by decide +kernel
theorem dX12_readRule_69 : decode cX12_readRule 69 = .ok (.if_icmp .eq 31, 3) := by decide +kernel
theorem dX12_readRule_72 : decode cX12_readRule 72 = .ok (.aload_n 0, 1) := by decide +kernel
theorem dX12_readRule_73 : decode cX12_readRule 73 = .ok (.invokevirtual 179, 3) := by decide +kernel
theorem dX12_readRule_76 : decode cX12_readRule 76 = .ok (.bipush 38, 2) := by decide +kernel
theorem dX12_readRule_78 : decode cX12_readRule 78 = .ok (.if_icmp .eq 22, 3) := by decide +kernel
theorem dX12_readRule_81 : decode cX12_readRule 81 = .ok (.aload_n 0, 1) := by decide +kernel
theorem dX12_readRule_82 : decode cX12_readRule 82 = .ok (.invokevirtual 179, 3) := by decide +kernel
theorem dX12_readRule_85 : decode cX12_readRule 85 = .ok (.bipush 33, 2) := by decide +kernel
theorem dX12_readRule_87 : decode cX12_readRule 87 = .ok (.if_icmp .eq 13, 3) := by decide +kernel
theorem dX12_readRule_90 : decode cX12_readRule 90 = .ok (.aload_n 0, 1) := by decide +kernel
theorem dX12_readRule_91 : decode cX12_readRule 91 = .ok (.iconst 1, 1) := by decide +kernel
theorem dX12_readRule_92 : decode cX12_readRule 92 = .ok (.aload_n 0, 1) := by decide +kernel
theorem dX12_readRule_93 : decode cX12_readRule 93 = .ok (.getfield 170, 3) := by decide +kernel
theorem dX12_readRule_96 : decode cX12_readRule 96 = .ok (.invokevirtual 183, 3) := by decide +kernel
theorem dX12_readRule_99 : decode cX12_readRule 99 = .ok (.ireturn, 1) := by decide +kernel
theorem dX12_readRule_100 : decode cX12_readRule 100 = .ok (.aload_n 0, 1) := by decide +kernel
theorem dX12_readRule_101 : decode cX12_readRule 101 = .ok (.dup, 1) := by decide +kernel
theorem dX12_readRule_102 : decode cX12_readRule 102 = .ok (.getfield 170, 3) := by decide +kernel
theorem dX12_readRule_105 : decode cX12_readRule 105 = .ok (.iconst 1, 1) := by decide +kernel
theorem dX12_readRule_106 : decode cX12_readRule 106 = .ok (.iadd, 1) := by decide +kernel
theorem dX12_readRule_107 : decode cX12_readRule 107 = .ok (.putfield 170, 3) := by decide +kernel
theorem dX12_readRule_110 : decode cX12_readRule 110 = .ok (.aload_n 0, 1) := by decide +kernel
theorem dX12_readRule_111 : decode cX12_readRule 111 = .ok (.getfield 64, 3) := by decide +kernel
theorem dX12_readRule_114 : decode cX12_readRule 114 = .ok (.iload_n 1, 1) := by decide +kernel
theorem dX12_readRule_115 : decode cX12_readRule 115 = .ok (.aload_n 0, 1) := by decide +kernel
theorem dX12_readRule_116 : decode cX12_readRule 116 = .ok (.getfield 170, 3) := by decide +kernel
theorem dX12_readRule_119 : decode cX12_readRule 119 = .ok (.iastore, 1) := by decide +kernel
theorem dX12_readRule_120 : decode cX12_readRule 120 = .ok (.aload_n 0, 1) := by decide +kernel
theorem dX12_readRule_121 : decode cX12_readRule 121 = .ok (.getfield 55, 3) := by decide +kernel
theorem dX12_readRule_124 : decode cX12_readRule 124 = .ok (.iload_n 1, 1) := by decide +kernel
theorem dX12_readRule_125 : decode cX12_readRule 125 = .ok (.aload_n 0, 1) := by decide +kernel
theorem dX12_readRule_126 : decode cX12_readRule 126 = .ok (.invokevirtual 179, 3) := by decide +kernel
theorem dX12_readRule_129 : decode cX12_readRule 129 = .ok (.bipush 65, 2) := by decide +kernel
theorem dX12_readRule_131 : decode cX12_readRule 131 = .ok (.isub, 1) := by decide +kernel
theorem dX12_readRule_132 : decode cX12_readRule 132 = .ok (.iastore, 1) := by decide +kernel
theorem dX12_readRule_133 : decode cX12_readRule 133 = .ok (.aload_n 0, 1) := by decide +kernel
theorem dX12_readRule_134 : decode cX12_readRule 134 = .ok (.invokevirtual 204, 3) := by decide +kernel
theorem dX12_readRule_137 : decode cX12_readRule 137 = .ok (.ifCond .ne 5, 3) := by decide +kernel
theorem dX12_readRule_140 : decode cX12_readRule 140 = .ok (.iconst 0, 1) := by decide +kernel
theorem dX12_readRule_141 : decode cX12_readRule 141 = .ok (.ireturn, 1) := by decide +kernel
theorem dX12_readRule_142 : decode cX12_readRule 142 = .ok (.aload_n 0, 1) := by decide +kernel
theorem dX12_readRule_143 : decode cX12_readRule 143 = .ok (.getfield 58, 3) := by decide +kernel
theorem dX12_readRule_146 : decode cX12_readRule 146 = .ok (.iload_n 1, 1) := by decide +kernel
theorem dX12_readRule_147 : decode cX12_readRule 147 = .ok (.iconst 0, 1) := by decide +kernel
theorem dX12_readRule_148 : decode cX12_readRule 148 = .ok (.iastore, 1) := by decide +kernel
theorem dX12_readRule_149 : decode cX12_readRule 149 = .ok (.aload_n 0, 1) := by decide +kernel
theorem dX12_readRule_150 : decode cX12_readRule 150 = .ok (.getfield 49, 3) := by decide +kernel
theorem dX12_readRule_153 : decode cX12_readRule 153 = .ok (.iload_n 1, 1) := by decide +kernel
theorem dX12_readRule_154 : decode cX12_readRule 154 = .ok (.iaload, 1) := by decide +kernel
theorem dX12_readRule_155 : decode cX12_readRule 155 = .ok (.bipush 38, 2) := by decide +kernel
theorem dX12_readRule_157 : decode cX12_readRule 157 = .ok (.if_icmp .ne 33, 3) := by decide +kernel
theorem dX12_readRule_160 : decode cX12_readRule 160 = .ok (.aload_n 0, 1) := by decide +kernel
theorem dX12_readRule_161 : decode cX12_readRule 161 = .ok (.bipush 61, 2) := by decide +kernel
theorem dX12_readRule_163 : decode cX12_readRule 163 = .ok (.invokevirtual 214, 3) := by decide +kernel
theorem dX12_readRule_166 : decode cX12_readRule 166 = .ok (.ifCond .eq 12, 3) := by decide +kernel
theorem dX12_readRule_169 : decode cX12_readRule 169 = .ok (.aload_n 0, 1) := by decide +kernel
theorem dX12_readRule_170 : decode cX12_readRule 170 = .ok (.iconst 1, 1) := by decide +kernel
theorem dX12_readRule_171 : decode cX12_readRule 171 = .ok (.iconst 4, 1) := by decide +kernel
theorem dX12_readRule_172 : decode cX12_readRule 172 = .ok (.invokevirtual 217, 3) := by decide +kernel
theorem dX12_readRule_175 : decode cX12_readRule 175 = .ok (.ifCond .ne 5, 3) := by decide +kernel
theorem dX12_readRule_178 : decode cX12_readRule 178 = .ok (.iconst 0, 1) := by decide +kernel
theorem dX12_readRule_179 : decode cX12_readRule 179 = .ok (.ireturn, 1) := by decide +kernel
theorem dX12_readRule_180 : decode cX12_readRule 180 = .ok (.aload_n 0, 1) := by decide +kernel
theorem dX12_readRule_181 : decode cX12_readRule 181 = .ok (.getfield 58, 3) := by decide +kernel
theorem dX12_readRule_184 : decode cX12_readRule 184 = .ok (.iload_n 1, 1) := by decide +kernel
theorem dX12_readRule_185 : decode cX12_readRule 185 = .ok (.aload_n 0, 1) := by decide +kernel
theorem dX12_readRule_186 : decode cX12_readRule 186 = .ok (.getfield 191, 3) := by decide +kernel
theorem dX12_readRule_189 : decode cX12_readRule 189 = .ok (.iastore, 1) := by decide +kernel
theorem dX12_readRule_190 : decode cX12_readRule 190 = .ok (.aload_n 0, 1) := by decide +kernel
theorem dX12_readRule_191 : decode cX12_readRule 191 = .ok (.dup, 1) := by decide +kernel
theorem dX12_readRule_192 : decode cX12_readRule 192 = .ok (.getfield 223, 3) := by decide +kernel
theorem dX12_readRule_195 : decode cX12_readRule 195 = .ok (.iconst 1, 1) := by decide +kernel
theorem dX12_readRule_196 : decode cX12_readRule 196 = .ok (.iadd, 1) := by decide +kernel
theorem dX12_readRule_197 : decode cX12_readRule 197 = .ok (.putfield 223, 3) := by decide +kernel
theorem dX12_readRule_200 : decode cX12_readRule 200 = .ok (.aload_n 0, 1) := by decide +kernel
theorem dX12_readRule_201 : decode cX12_readRule 201 = .ok (.bipush 59, 2) := by decide +kernel
theorem dX12_readRule_203 : decode cX12_readRule 203 = .ok (.invokevirtual 214, 3) := by decide +kernel
theorem dX12_readRule_206 : decode cX12_readRule 206 = .ok (.ireturn, 1) := by decide +kernel
theorem dX12_registerAt_0 : decode cX12_registerAt 0 = .ok (.iconst 0, 1) := by decide +kernel
theorem dX12_registerAt_1 : decode cX12_registerAt 1 = .ok (.istore_n 2, 1) := by decide +kernel
theorem dX12_registerAt_2 : decode cX12_registerAt 2 = .ok (.iload_n 2, 1) := by decide +kernel
theorem dX12_registerAt_3 : decode cX12_registerAt 3 = .ok (.aload_n 0, 1) := by decide +kernel
theorem dX12_registerAt_4 : decode cX12_registerAt 4 = .ok (.getfield 261, 3) := by decide +kernel
theorem dX12_registerAt_7 : decode cX12_registerAt 7 = .ok (.if_icmp .ge 29, 3) := by decide +kernel
theorem dX12_registerAt_10 : decode cX12_registerAt 10 = .ok (.aload_n 0, 1) := by decide +kernel
theorem dX12_registerAt_11 : decode cX12_registerAt 11 = .ok (.getfield 67, 3) := by decide +kernel
theorem dX12_registerAt_14 : decode cX12_registerAt 14 = .ok (.iload_n 2, 1) := by decide +kernel
theorem dX12_registerAt_15 : decode cX12_registerAt 15 = .ok (.iaload, 1) := by decide +kernel
theorem dX12_registerAt_16 : decode cX12_registerAt 16 = .ok (.iload_n 1, 1) := by decide +kernel
theorem dX12_registerAt_17 : decode cX12_registerAt 17 = .ok (.if_icmp .ne 13, 3) := by decide +kernel
theorem dX12_registerAt_20 : decode cX12_registerAt 20 = .ok (.aload_n 0, 1) := by decide +kernel
theorem dX12_registerAt_21 : decode cX12_registerAt 21 = .ok (.iload_n 2, 1) := by decide +kernel
theorem dX12_registerAt_22 : decode cX12_registerAt 22 = .ok (.invokevirtual 314, 3) := by decide +kernel
theorem dX12_registerAt_25 : decode cX12_registerAt 25 = .ok (.ifCond .eq 5, 3) := by decide +kernel
theorem dX12_registerAt_28 : decode cX12_registerAt 28 = .ok (.iload_n 2, 1) := by decide +kernel
theorem dX12_registerAt_29 : decode cX12_registerAt 29 = .ok (.ireturn, 1) := by decide +kernel
theorem dX12_registerAt_30 : decode cX12_registerAt 30 = .ok (.iinc 2 1, 3) := by decide +kernel
theorem dX12_registerAt_33 : decode cX12_registerAt 33 = .ok (.goto (-31), 3) := by decide +kernel
theorem dX12_registerAt_36 : decode cX12_registerAt 36 = .ok (.iconst (-1), 1) := by decide +kernel
theorem dX12_registerAt_37 : decode cX12_registerAt 37 = .ok (.ireturn, 1) := by decide +kernel
theorem dX12_registersRight_0 : decode cX12_registersRight 0 = .ok (.iconst 0, 1) := by decide +kernel
theorem dX12_registersRight_1 : decode cX12_registersRight 1 = .ok (.istore_n 1, 1) := by decide +kernel
theorem dX12_registersRight_2 : decode cX12_registersRight 2 = .ok (.iload_n 1, 1) := by decide +kernel
theorem dX12_registersRight_3 : decode cX12_registersRight 3 = .ok (.aload_n 0, 1) := by decide +kernel
theorem dX12_registersRight_4 : decode cX12_registersRight 4 = .ok (.getfield 201, 3) := by decide +kernel
theorem dX12_registersRight_7 : decode cX12_registersRight 7 = .ok (.if_icmp .ge 94, 3) := by decide +kernel
theorem dX12_registersRight_10 : decode cX12_registersRight 10 = .ok (.aload_n 0, 1) := by decide +kernel
theorem dX12_registersRight_11 : decode cX12_registersRight 11 = .ok (.getfield 16, 3) := by decide +kernel
theorem dX12_registersRight_14 : decode cX12_registersRight 14 = .ok (.iload_n 1, 1) := by decide +kernel
theorem dX12_registersRight_15 : decode cX12_registersRight 15 = .ok (.iaload, 1) := by decide +kernel
theorem dX12_registersRight_16 : decode cX12_registersRight 16 = .ok (.iconst (-1), 1) := by decide +kernel
theorem dX12_registersRight_17 : decode cX12_registersRight 17 = .ok (.if_icmp .ne 6, 3) := by decide +kernel
theorem dX12_registersRight_20 : decode cX12_registersRight 20 = .ok (.goto 75, 3) := by decide +kernel
theorem dX12_registersRight_23 : decode cX12_registersRight 23 = .ok (.aload_n 0, 1) := by decide +kernel
theorem dX12_registersRight_24 : decode cX12_registersRight 24 = .ok (.aload_n 0, 1) := by decide +kernel
theorem dX12_registersRight_25 : decode cX12_registersRight 25 = .ok (.getfield 16, 3) := by decide +kernel
theorem dX12_registersRight_28 : decode cX12_registersRight 28 = .ok (.iload_n 1, 1) := by decide +kernel
theorem dX12_registersRight_29 : decode cX12_registersRight 29 = .ok (.iaload, 1) := by decide +kernel
theorem dX12_registersRight_30 : decode cX12_registersRight 30 = .ok (.aload_n 0, 1) := by decide +kernel
theorem dX12_registersRight_31 : decode cX12_registersRight 31 = .ok (.getfield 198, 3) := by decide +kernel
theorem dX12_registersRight_34 : decode cX12_registersRight 34 = .ok (.invokevirtual 226, 3) := by decide +kernel
theorem dX12_registersRight_37 : decode cX12_registersRight 37 = .ok (.istore_n 2, 1) := by decide +kernel
theorem dX12_registersRight_38 : decode cX12_registersRight 38 = .ok (.iload_n 2, 1) := by decide +kernel
theorem dX12_registersRight_39 : decode cX12_registersRight 39 = .ok (.iconst (-1), 1) := by decide +kernel
theorem dX12_registersRight_40 : decode cX12_registersRight 40 = .ok (.if_icmp .eq 43, 3) := by decide +kernel
theorem dX12_registersRight_43 : decode cX12_registersRight 43 = .ok (.aload_n 0, 1) := by decide +kernel
theorem dX12_registersRight_44 : decode cX12_registersRight 44 = .ok (.getfield 31, 3) := by decide +kernel
theorem dX12_registersRight_47 : decode cX12_registersRight 47 = .ok (.iload_n 2, 1) := by decide +kernel
theorem dX12_registersRight_48 : decode cX12_registersRight 48 = .ok (.iaload, 1) := by decide +kernel
theorem dX12_registersRight_49 : decode cX12_registersRight 49 = .ok (.bipush 119, 2) := by decide +kernel
theorem dX12_registersRight_51 : decode cX12_registersRight 51 = .ok (.if_icmp .ne 32, 3) := by decide +kernel
theorem dX12_registersRight_54 : decode cX12_registersRight 54 = .ok (.aload_n 0, 1) := by decide +kernel
theorem dX12_registersRight_55 : decode cX12_registersRight 55 = .ok (.getfield 16, 3) := by decide +kernel
theorem dX12_registersRight_58 : decode cX12_registersRight 58 = .ok (.aload_n 0, 1) := by decide +kernel
theorem dX12_registersRight_59 : decode cX12_registersRight 59 = .ok (.getfield 43, 3) := by decide +kernel
theorem dX12_registersRight_62 : decode cX12_registersRight 62 = .ok (.iload_n 2, 1) := by decide +kernel
theorem dX12_registersRight_63 : decode cX12_registersRight 63 = .ok (.iaload, 1) := by decide +kernel
theorem dX12_registersRight_64 : decode cX12_registersRight 64 = .ok (.iaload, 1) := by decide +kernel
theorem dX12_registersRight_65 : decode cX12_registersRight 65 = .ok (.iconst (-1), 1) := by decide +kernel
theorem dX12_registersRight_66 : decode cX12_registersRight 66 = .ok (.if_icmp .ne 17, 3) := by decide +kernel
theorem dX12_registersRight_69 : decode cX12_registersRight 69 = .ok (.aload_n 0, 1) := by decide +kernel
theorem dX12_registersRight_70 : decode cX12_registersRight 70 = .ok (.iload_n 2, 1) := by decide +kernel
theorem dX12_registersRight_71 : decode cX12_registersRight 71 = .ok (.aload_n 0, 1) := by decide +kernel
theorem dX12_registersRight_72 : decode cX12_registersRight 72 = .ok (.getfield 19, 3) := by decide +kernel
theorem dX12_registersRight_75 : decode cX12_registersRight 75 = .ok (.iload_n 1, 1) := by decide +kernel
theorem dX12_registersRight_76 : decode cX12_registersRight 76 = .ok (.iaload, 1) := by decide +kernel
theorem dX12_registersRight_77 : decode cX12_registersRight 77 = .ok (.invokevirtual 230, 3) := by decide +kernel
theorem dX12_registersRight_80 : decode cX12_registersRight 80 = .ok (.ifCond .ne 15, 3) := by decide +kernel
theorem dX12_registersRight_83 : decode cX12_registersRight 83 = .ok (.aload_n 0, 1) := by decide +kernel
theorem dX12_registersRight_84 : decode cX12_registersRight 84 = .ok (.iconst 3, 1) := by decide +kernel
theorem dX12_registersRight_85 : decode cX12_registersRight 85 = .ok (.aload_n 0, 1) := by decide +kernel
theorem dX12_registersRight_86 : decode cX12_registersRight 86 = .ok (.getfield 25, 3) := by decide +kernel
theorem dX12_registersRight_89 : decode cX12_registersRight 89 = .ok (.iload_n 1, 1) := by decide +kernel
theorem dX12_registersRight_90 : decode cX12_registersRight 90 = .ok (.iaload, 1) := by decide +kernel
theorem dX12_registersRight_91 : decode cX12_registersRight 91 = .ok (.invokevirtual 183, 3) := by decide +kernel
theorem dX12_registersRight_94 : decode cX12_registersRight 94 = .ok (.ireturn, 1) := by decide +kernel
theorem dX12_registersRight_95 : decode cX12_registersRight 95 = .ok (.iinc 1 1, 3) := by decide +kernel
theorem dX12_registersRight_98 : decode cX12_registersRight 98 = .ok (.goto (-96), 3) := by decide +kernel
theorem dX12_registersRight_101 : decode cX12_registersRight 101 = .ok (.iconst 0, 1) := by decide +kernel
theorem dX12_registersRight_102 : decode cX12_registersRight 102 = .ok (.istore_n 1, 1) := by decide +kernel
theorem dX12_registersRight_103 : decode cX12_registersRight 103 = .ok (.iload_n 1, 1) := by decide +kernel
theorem dX12_registersRight_104 : decode cX12_registersRight 104 = .ok (.aload_n 0, 1) := by decide +kernel
theorem dX12_registersRight_105 : decode cX12_registersRight 105 = .ok (.getfield 201, 3) := by decide +kernel
theorem dX12_registersRight_108 : decode cX12_registersRight 108 = .ok (.if_icmp .ge 99, 3) := by decide +kernel
theorem dX12_registersRight_111 : decode cX12_registersRight 111 = .ok (.iconst 0, 1) := by decide +kernel
theorem dX12_registersRight_112 : decode cX12_registersRight 112 = .ok (.istore_n 2, 1) := by decide +kernel
theorem dX12_registersRight_113 : decode cX12_registersRight 113 = .ok (.iload_n 2, 1) := by decide +kernel
theorem dX12_registersRight_114 : decode cX12_registersRight 114 = .ok (.iload_n 1, 1) := by decide +kernel
theorem dX12_registersRight_115 : decode cX12_registersRight 115 = .ok (.if_icmp .ge 86, 3) := by decide +kernel
theorem dX12_registersRight_118 : decode cX12_registersRight 118 = .ok (.aload_n 0, 1) := by decide +kernel
theorem dX12_registersRight_119 : decode cX12_registersRight 119 = .ok (.getfield 16, 3) := by decide +kernel
theorem dX12_registersRight_122 : decode cX12_registersRight 122 = .ok (.iload_n 1, 1) := by decide +kernel
theorem dX12_registersRight_123 : decode cX12_registersRight 123 = .ok (.iaload, 1) := by decide +kernel
theorem dX12_registersRight_124 : decode cX12_registersRight 124 = .ok (.iconst (-1), 1) := by decide +kernel
theorem dX12_registersRight_125 : decode cX12_registersRight 125 = .ok (.if_icmp .eq 37, 3) := by decide +kernel
theorem dX12_registersRight_128 : decode cX12_registersRight 128 = .ok (.aload_n 0, 1) := by decide +kernel
theorem dX12_registersRight_129 : decode cX12_registersRight 129 = .ok (.getfield 16, 3) := by decide +kernel
theorem dX12_registersRight_132 : decode cX12_registersRight 132 = .ok (.iload_n 2, 1) := by decide +kernel
theorem dX12_registersRight_133 : decode cX12_registersRight 133 = .ok (.iaload, 1) := by decide +kernel
theorem dX12_registersRight_134 : decode cX12_registersRight 134 = .ok (.aload_n 0, 1) := by decide +kernel
theorem dX12_registersRight_135 : decode cX12_registersRight 135 = .ok (.getfield 16, 3) := by decide +kernel
theorem dX12_registersRight_138 : decode cX12_registersRight 138 = .ok (.iload_n 1, 1) := by decide +kernel
theorem dX12_registersRight_139 : decode cX12_registersRight 139 = .ok (.iaload, 1) := by decide +kernel
theorem dX12_registersRight_140 : decode cX12_registersRight 140 = .ok (.if_icmp .ne 22, 3) := by decide +kernel
theorem dX12_registersRight_143 : decode cX12_registersRight 143 = .ok (.aload_n 0, 1) := by decide +kernel
theorem dX12_registersRight_144 : decode cX12_registersRight 144 = .ok (.getfield 19, 3) := by decide +kernel
theorem dX12_registersRight_147 : decode cX12_registersRight 147 = .ok (.iload_n 2, 1) := by decide +kernel
theorem dX12_registersRight_148 : decode cX12_registersRight 148 = .ok (.iaload, 1) := by decide +kernel
theorem dX12_registersRight_149 : decode cX12_registersRight 149 = .ok (.aload_n 0, 1) := by decide +kernel
theorem dX12_registersRight_150 : decode cX12_registersRight 150 = .ok (.getfield 19, 3) := by decide +kernel
theorem dX12_registersRight_153 : decode cX12_registersRight 153 = .ok (.iload_n 1, 1) := by decide +kernel
theorem dX12_registersRight_154 : decode cX12_registersRight 154 = .ok (.iaload, 1) := by decide +kernel
theorem dX12_registersRight_155 : decode cX12_registersRight 155 = .ok (.if_icmp .eq 7, 3) := by decide +kernel
theorem dX12_registersRight_158 : decode cX12_registersRight 158 = .ok (.iconst 1, 1) := by decide +kernel
theorem dX12_registersRight_159 : decode cX12_registersRight 159 = .ok (.goto 4, 3) := by decide +kernel
theorem dX12_registersRight_162 : decode cX12_registersRight 162 = .ok (.iconst 0, 1) := by decide +kernel
theorem dX12_registersRight_163 : decode cX12_registersRight 163 = .ok (.istore_n 3, 1) := by decide +kernel
theorem dX12_registersRight_164 : decode cX12_registersRight 164 = .ok (.aload_n 0, 1) := by decide +kernel
theorem dX12_registersRight_165 : decode cX12_registersRight 165 = .ok (.getfield 13, 3) := by decide +kernel
theorem dX12_registersRight_168 : decode cX12_registersRight 168 = .ok (.iload_n 2, 1) := by decide +kernel
theorem dX12_registersRight_169 : decode cX12_registersRight 169 = .ok (.iaload, 1) := by decide +kernel
theorem dX12_registersRight_170 : decode cX12_registersRight 170 = .ok (.aload_n 0, 1) := by decide +kernel
theorem dX12_registersRight_171 : decode cX12_registersRight 171 = .ok (.getfield 13, 3) := by decide +kernel
theorem dX12_registersRight_174 : decode cX12_registersRight 174 = .ok (.iload_n 1, 1) := by decide +kernel
theorem dX12_registersRight_175 : decode cX12_registersRight 175 = .ok (.iaload, 1) := by decide +kernel
theorem dX12_registersRight_176 : decode cX12_registersRight 176 = .ok (.if_icmp .ne 19, 3) := by decide +kernel
theorem dX12_registersRight_179 : decode cX12_registersRight 179 = .ok (.iload_n 3, 1) := by decide +kernel
theorem dX12_registersRight_180 : decode cX12_registersRight 180 = .ok (.ifCond .ne 15, 3) := by decide +kernel
