theorem dX10_readField_134 : decode cX10_readField 134 = .ok (.getfield 122, 3) := by decide +kernel
theorem dX10_readField_137 : decode cX10_readField 137 = .ok (.iload_n 2, 1) := by decide +kernel
theorem dX10_readField_138 : decode cX10_readField 138 = .ok (.aload_n 0, 1) := by decide +kernel
theorem dX10_readField_139 : decode cX10_readField 139 = .ok (.bipush 10, 2) := by decide +kernel
theorem dX10_readField_141 : decode cX10_readField 141 = .ok (.iconst 1, 1) := by decide +kernel
theorem dX10_readField_142 : decode cX10_readField 142 = .ok (.iconst 2, 1) := by decide +kernel
theorem dX10_readField_143 : decode cX10_readField 143 = .ok (.invokevirtual 76, 3) := by decide +kernel
theorem dX10_readField_146 : decode cX10_readField 146 = .ok (.iastore, 1) := by decide +kernel
theorem dX10_readField_147 : decode cX10_readField 147 = .ok (.aload_n 0, 1) := by decide +kernel
theorem dX10_readField_148 : decode cX10_readField 148 = .ok (.getfield 15, 3) := by decide +kernel
theorem dX10_readField_151 : decode cX10_readField 151 = .ok (.getfield 122, 3) := by decide +kernel
theorem dX10_readField_154 : decode cX10_readField 154 = .ok (.iload_n 2, 1) := by decide +kernel
theorem dX10_readField_155 : decode cX10_readField 155 = .ok (.iaload, 1) := by decide +kernel
theorem dX10_readField_156 : decode cX10_readField 156 = .ok (.iconst (-1), 1) := by decide +kernel
theorem dX10_readField_157 : decode cX10_readField 157 = .ok (.if_icmp .ne 5, 3) := by decide +kernel
theorem dX10_readField_160 : decode cX10_readField 160 = .ok (.iconst 0, 1) := by decide +kernel
theorem dX10_readField_161 : decode cX10_readField 161 = .ok (.ireturn, 1) := by decide +kernel
theorem dX10_readField_162 : decode cX10_readField 162 = .ok (.aload_n 0, 1) := by decide +kernel
theorem dX10_readField_163 : decode cX10_readField 163 = .ok (.getfield 15, 3) := by decide +kernel
theorem dX10_readField_166 : decode cX10_readField 166 = .ok (.getfield 125, 3) := by decide +kernel
theorem dX10_readField_169 : decode cX10_readField 169 = .ok (.iload_n 2, 1) := by decide +kernel
theorem dX10_readField_170 : decode cX10_readField 170 = .ok (.aload_n 0, 1) := by decide +kernel
theorem dX10_readField_171 : decode cX10_readField 171 = .ok (.invokevirtual 42, 3) := by decide +kernel
theorem dX10_readField_174 : decode cX10_readField 174 = .ok (.bipush 61, 2) := by decide +kernel
theorem dX10_readField_176 : decode cX10_readField 176 = .ok (.if_icmp .ne 10, 3) := by decide +kernel
theorem dX10_readField_179 : decode cX10_readField 179 = .ok (.aload_n 0, 1) := by decide +kernel
theorem dX10_readField_180 : decode cX10_readField 180 = .ok (.invokevirtual 128, 3) := by decide +kernel
theorem dX10_readField_183 : decode cX10_readField 183 = .ok (.goto 4, 3) := by decide +kernel
theorem dX10_readField_186 : decode cX10_readField 186 = .ok (.iconst 0, 1) := by decide +kernel
theorem dX10_readField_187 : decode cX10_readField 187 = .ok (.iastore, 1) := by decide +kernel
theorem dX10_readField_188 : decode cX10_readField 188 = .ok (.aload_n 0, 1) := by decide +kernel
theorem dX10_readField_189 : decode cX10_readField 189 = .ok (.getfield 15, 3) := by decide +kernel
theorem dX10_readField_192 : decode cX10_readField 192 = .ok (.iload_n 2, 1) := by decide +kernel
theorem dX10_readField_193 : decode cX10_readField 193 = .ok (.iconst 1, 1) := by decide +kernel
theorem dX10_readField_194 : decode cX10_readField 194 = .ok (.iadd, 1) := by decide +kernel
theorem dX10_readField_195 : decode cX10_readField 195 = .ok (.putfield 99, 3) := by decide +kernel
theorem dX10_readField_198 : decode cX10_readField 198 = .ok (.aload_n 0, 1) := by decide +kernel
theorem dX10_readField_199 : decode cX10_readField 199 = .ok (.getfield 15, 3) := by decide +kernel
theorem dX10_readField_202 : decode cX10_readField 202 = .ok (.getfield 125, 3) := by decide +kernel
theorem dX10_readField_205 : decode cX10_readField 205 = .ok (.iload_n 2, 1) := by decide +kernel
theorem dX10_readField_206 : decode cX10_readField 206 = .ok (.iaload, 1) := by decide +kernel
theorem dX10_readField_207 : decode cX10_readField 207 = .ok (.iconst (-1), 1) := by decide +kernel
theorem dX10_readField_208 : decode cX10_readField 208 = .ok (.if_icmp .eq 16, 3) := by decide +kernel
theorem dX10_readField_211 : decode cX10_readField 211 = .ok (.aload_n 0, 1) := by decide +kernel
theorem dX10_readField_212 : decode cX10_readField 212 = .ok (.bipush 59, 2) := by decide +kernel
theorem dX10_readField_214 : decode cX10_readField 214 = .ok (.invokevirtual 69, 3) := by decide +kernel
theorem dX10_readField_217 : decode cX10_readField 217 = .ok (.ifCond .eq 7, 3) := by decide +kernel
theorem dX10_readField_220 : decode cX10_readField 220 = .ok (.iconst 1, 1) := by decide +kernel
theorem dX10_readField_221 : decode cX10_readField 221 = .ok (.goto 4, 3) := by decide +kernel
theorem dX10_readField_224 : decode cX10_readField 224 = .ok (.iconst 0, 1) := by decide +kernel
theorem dX10_readField_225 : decode cX10_readField 225 = .ok (.ireturn, 1) := by decide +kernel
theorem dX10_readRegister_0 : decode cX10_readRegister 0 = .ok (.aload_n 0, 1) := by decide +kernel
theorem dX10_readRegister_1 : decode cX10_readRegister 1 = .ok (.getfield 15, 3) := by decide +kernel
theorem dX10_readRegister_4 : decode cX10_readRegister 4 = .ok (.getfield 65, 3) := by decide +kernel
theorem dX10_readRegister_7 : decode cX10_readRegister 7 = .ok (.iload_n 1, 1) := by decide +kernel
theorem dX10_readRegister_8 : decode cX10_readRegister 8 = .ok (.aload_n 0, 1) := by decide +kernel
theorem dX10_readRegister_9 : decode cX10_readRegister 9 = .ok (.getfield 32, 3) := by decide +kernel
theorem dX10_readRegister_12 : decode cX10_readRegister 12 = .ok (.iastore, 1) := by decide +kernel
theorem dX10_readRegister_13 : decode cX10_readRegister 13 = .ok (.aload_n 0, 1) := by decide +kernel
theorem dX10_readRegister_14 : decode cX10_readRegister 14 = .ok (.bipush 64, 2) := by decide +kernel
theorem dX10_readRegister_16 : decode cX10_readRegister 16 = .ok (.invokevirtual 69, 3) := by decide +kernel
theorem dX10_readRegister_19 : decode cX10_readRegister 19 = .ok (.ifCond .ne 5, 3) := by decide +kernel
theorem dX10_readRegister_22 : decode cX10_readRegister 22 = .ok (.iconst 0, 1) := by decide +kernel
theorem dX10_readRegister_23 : decode cX10_readRegister 23 = .ok (.ireturn, 1) := by decide +kernel
theorem dX10_readRegister_24 : decode cX10_readRegister 24 = .ok (.aload_n 0, 1) := by decide +kernel
theorem dX10_readRegister_25 : decode cX10_readRegister 25 = .ok (.getfield 15, 3) := by decide +kernel
theorem dX10_readRegister_28 : decode cX10_readRegister 28 = .ok (.getfield 73, 3) := by decide +kernel
theorem dX10_readRegister_31 : decode cX10_readRegister 31 = .ok (.iload_n 1, 1) := by decide +kernel
theorem dX10_readRegister_32 : decode cX10_readRegister 32 = .ok (.aload_n 0, 1) := by decide +kernel
theorem dX10_readRegister_33 : decode cX10_readRegister 33 = .ok (.bipush 16, 2) := by decide +kernel
theorem dX10_readRegister_35 : decode cX10_readRegister 35 = .ok (.iconst 2, 1) := by decide +kernel
theorem dX10_readRegister_36 : decode cX10_readRegister 36 = .ok (.iconst 2, 1) := by decide +kernel
theorem dX10_readRegister_37 : decode cX10_readRegister 37 = .ok (.invokevirtual 76, 3) := by decide +kernel
theorem dX10_readRegister_40 : decode cX10_readRegister 40 = .ok (.iastore, 1) := by decide +kernel
theorem dX10_readRegister_41 : decode cX10_readRegister 41 = .ok (.aload_n 0, 1) := by decide +kernel
theorem dX10_readRegister_42 : decode cX10_readRegister 42 = .ok (.getfield 15, 3) := by decide +kernel
theorem dX10_readRegister_45 : decode cX10_readRegister 45 = .ok (.getfield 73, 3) := by decide +kernel
theorem dX10_readRegister_48 : decode cX10_readRegister 48 = .ok (.iload_n 1, 1) := by decide +kernel
theorem dX10_readRegister_49 : decode cX10_readRegister 49 = .ok (.iaload, 1) := by decide +kernel
theorem dX10_readRegister_50 : decode cX10_readRegister 50 = .ok (.iconst (-1), 1) := by decide +kernel
theorem dX10_readRegister_51 : decode cX10_readRegister 51 = .ok (.if_icmp .eq 20, 3) := by decide +kernel
theorem dX10_readRegister_54 : decode cX10_readRegister 54 = .ok (.aload_n 0, 1) := by decide +kernel
theorem dX10_readRegister_55 : decode cX10_readRegister 55 = .ok (.iload_n 1, 1) := by decide +kernel
theorem dX10_readRegister_56 : decode cX10_readRegister 56 = .ok (.invokevirtual 80, 3) := by decide +kernel
theorem dX10_readRegister_59 : decode cX10_readRegister 59 = .ok (.ifCond .eq 12, 3) := by decide +kernel
theorem dX10_readRegister_62 : decode cX10_readRegister 62 = .ok (.aload_n 0, 1) := by decide +kernel
theorem dX10_readRegister_63 : decode cX10_readRegister 63 = .ok (.bipush 123, 2) := by decide +kernel
theorem dX10_readRegister_65 : decode cX10_readRegister 65 = .ok (.invokevirtual 69, 3) := by decide +kernel
theorem dX10_readRegister_68 : decode cX10_readRegister 68 = .ok (.ifCond .ne 5, 3) := by decide +kernel
theorem dX10_readRegister_71 : decode cX10_readRegister 71 = .ok (.iconst 0, 1) := by decide +kernel
theorem dX10_readRegister_72 : decode cX10_readRegister 72 = .ok (.ireturn, 1) := by decide +kernel
theorem dX10_readRegister_73 : decode cX10_readRegister 73 = .ok (.iconst 0, 1) := by decide +kernel
theorem dX10_readRegister_74 : decode cX10_readRegister 74 = .ok (.istore_n 2, 1) := by decide +kernel
theorem dX10_readRegister_75 : decode cX10_readRegister 75 = .ok (.iload_n 2, 1) := by decide +kernel
theorem dX10_readRegister_76 : decode cX10_readRegister 76 = .ok (.bipush 8, 2) := by decide +kernel
theorem dX10_readRegister_78 : decode cX10_readRegister 78 = .ok (.if_icmp .ge 35, 3) := by decide +kernel
theorem dX10_readRegister_81 : decode cX10_readRegister 81 = .ok (.iload_n 2, 1) := by decide +kernel
theorem dX10_readRegister_82 : decode cX10_readRegister 82 = .ok (.ifCond .le 15, 3) := by decide +kernel
theorem dX10_readRegister_85 : decode cX10_readRegister 85 = .ok (.aload_n 0, 1) := by decide +kernel
theorem dX10_readRegister_86 : decode cX10_readRegister 86 = .ok (.invokevirtual 42, 3) := by decide +kernel
theorem dX10_readRegister_89 : decode cX10_readRegister 89 = .ok (.bipush 125, 2) := by decide +kernel
theorem dX10_readRegister_91 : decode cX10_readRegister 91 = .ok (.if_icmp .ne 6, 3) := by decide +kernel
theorem dX10_readRegister_94 : decode cX10_readRegister 94 = .ok (.goto 19, 3) := by decide +kernel
theorem dX10_readRegister_97 : decode cX10_readRegister 97 = .ok (.aload_n 0, 1) := by decide +kernel
theorem dX10_readRegister_98 : decode cX10_readRegister 98 = .ok (.iload_n 1, 1) := by decide +kernel
theorem dX10_readRegister_99 : decode cX10_readRegister 99 = .ok (.invokevirtual 83, 3) := by decide +kernel
theorem dX10_readRegister_102 : decode cX10_readRegister 102 = .ok (.ifCond .ne 5, 3) := by decide +kernel
theorem dX10_readRegister_105 : decode cX10_readRegister 105 = .ok (.iconst 0, 1) := by decide +kernel
theorem dX10_readRegister_106 : decode cX10_readRegister 106 = .ok (.ireturn, 1) := by decide +kernel
theorem dX10_readRegister_107 : decode cX10_readRegister 107 = .ok (.iinc 2 1, 3) := by decide +kernel
theorem dX10_readRegister_110 : decode cX10_readRegister 110 = .ok (.goto (-35), 3) := by decide +kernel
theorem dX10_readRegister_113 : decode cX10_readRegister 113 = .ok (.aload_n 0, 1) := by decide +kernel
theorem dX10_readRegister_114 : decode cX10_readRegister 114 = .ok (.bipush 125, 2) := by decide +kernel
theorem dX10_readRegister_116 : decode cX10_readRegister 116 = .ok (.invokevirtual 69, 3) := by decide +kernel
theorem dX10_readRegister_119 : decode cX10_readRegister 119 = .ok (.ireturn, 1) := by decide +kernel
theorem dX10_readRegisters_0 : decode cX10_readRegisters 0 = .ok (.iconst 0, 1) := by decide +kernel
theorem dX10_readRegisters_1 : decode cX10_readRegisters 1 = .ok (.istore_n 1, 1) := by decide +kernel
theorem dX10_readRegisters_2 : decode cX10_readRegisters 2 = .ok (.iload_n 1, 1) := by decide +kernel
theorem dX10_readRegisters_3 : decode cX10_readRegisters 3 = .ok (.bipush 16, 2) := by decide +kernel
theorem dX10_readRegisters_5 : decode cX10_readRegisters 5 = .ok (.if_icmp .ge 45, 3) := by decide +kernel
theorem dX10_readRegisters_8 : decode cX10_readRegisters 8 = .ok (.iload_n 1, 1) := by decide +kernel
theorem dX10_readRegisters_9 : decode cX10_readRegisters 9 = .ok (.ifCond .le 15, 3) := by decide +kernel
theorem dX10_readRegisters_12 : decode cX10_readRegisters 12 = .ok (.aload_n 0, 1) := by decide +kernel
theorem dX10_readRegisters_13 : decode cX10_readRegisters 13 = .ok (.invokevirtual 42, 3) := by decide +kernel
theorem dX10_readRegisters_16 : decode cX10_readRegisters 16 = .ok (.bipush 64, 2) := by decide +kernel
theorem dX10_readRegisters_18 : decode cX10_readRegisters 18 = .ok (.if_icmp .eq 6, 3) := by decide +kernel
theorem dX10_readRegisters_21 : decode cX10_readRegisters 21 = .ok (.goto 29, 3) := by decide +kernel
theorem dX10_readRegisters_24 : decode cX10_readRegisters 24 = .ok (.aload_n 0, 1) := by decide +kernel
theorem dX10_readRegisters_25 : decode cX10_readRegisters 25 = .ok (.iload_n 1, 1) := by decide +kernel
theorem dX10_readRegisters_26 : decode cX10_readRegisters 26 = .ok (.invokevirtual 46, 3) := by decide +kernel
theorem dX10_readRegisters_29 : decode cX10_readRegisters 29 = .ok (.ifCond .ne 5, 3) := by decide +kernel
theorem dX10_readRegisters_32 : decode cX10_readRegisters 32 = .ok (.iconst 0, 1) := by decide +kernel
theorem dX10_readRegisters_33 : decode cX10_readRegisters 33 = .ok (.ireturn, 1) := by decide +kernel
theorem dX10_readRegisters_34 : decode cX10_readRegisters 34 = .ok (.aload_n 0, 1) := by decide +kernel
theorem dX10_readRegisters_35 : decode cX10_readRegisters 35 = .ok (.getfield 15, 3) := by decide +kernel
theorem dX10_readRegisters_38 : decode cX10_readRegisters 38 = .ok (.iload_n 1, 1) := by decide +kernel
theorem dX10_readRegisters_39 : decode cX10_readRegisters 39 = .ok (.iconst 1, 1) := by decide +kernel
theorem dX10_readRegisters_40 : decode cX10_readRegisters 40 = .ok (.iadd, 1) := by decide +kernel
theorem dX10_readRegisters_41 : decode cX10_readRegisters 41 = .ok (.putfield 50, 3) := by decide +kernel
theorem dX10_readRegisters_44 : decode cX10_readRegisters 44 = .ok (.iinc 1 1, 3) := by decide +kernel
theorem dX10_readRegisters_47 : decode cX10_readRegisters 47 = .ok (.goto (-45), 3) := by decide +kernel
theorem dX10_readRegisters_50 : decode cX10_readRegisters 50 = .ok (.iconst 1, 1) := by decide +kernel
theorem dX10_readRegisters_51 : decode cX10_readRegisters 51 = .ok (.ireturn, 1) := by decide +kernel
theorem dX10_readRule_0 : decode cX10_readRule 0 = .ok (.aload_n 0, 1) := by decide +kernel
theorem dX10_readRule_1 : decode cX10_readRule 1 = .ok (.getfield 15, 3) := by decide +kernel
theorem dX10_readRule_4 : decode cX10_readRule 4 = .ok (.getfield 56, 3) := by decide +kernel
theorem dX10_readRule_7 : decode cX10_readRule 7 = .ok (.astore_n 2, 1) := by decide +kernel
theorem dX10_readRule_8 : decode cX10_readRule 8 = .ok (.aload_n 2, 1) := by decide +kernel
theorem dX10_readRule_9 : decode cX10_readRule 9 = .ok (.getfield 131, 3) := by decide +kernel
theorem dX10_readRule_12 : decode cX10_readRule 12 = .ok (.iload_n 1, 1) := by decide +kernel
theorem dX10_readRule_13 : decode cX10_readRule 13 = .ok (.aload_n 0, 1) := by decide +kernel
theorem dX10_readRule_14 : decode cX10_readRule 14 = .ok (.getfield 32, 3) := by decide +kernel
theorem dX10_readRule_17 : decode cX10_readRule 17 = .ok (.iastore, 1) := by decide +kernel
theorem dX10_readRule_18 : decode cX10_readRule 18 = .ok (.aload_n 2, 1) := by decide +kernel
theorem dX10_readRule_19 : decode cX10_readRule 19 = .ok (.getfield 134, 3) := by decide +kernel
theorem dX10_readRule_22 : decode cX10_readRule 22 = .ok (.iload_n 1, 1) := by decide +kernel
theorem dX10_readRule_23 : decode cX10_readRule 23 = .ok (.aload_n 0, 1) := by decide +kernel
theorem dX10_readRule_24 : decode cX10_readRule 24 = .ok (.invokevirtual 92, 3) := by decide +kernel
theorem dX10_readRule_27 : decode cX10_readRule 27 = .ok (.iastore, 1) := by decide +kernel
theorem dX10_readRule_28 : decode cX10_readRule 28 = .ok (.aload_n 2, 1) := by decide +kernel
theorem dX10_readRule_29 : decode cX10_readRule 29 = .ok (.getfield 134, 3) := by decide +kernel
theorem dX10_readRule_32 : decode cX10_readRule 32 = .ok (.iload_n 1, 1) := by decide +kernel
theorem dX10_readRule_33 : decode cX10_readRule 33 = .ok (.iaload, 1) := by decide +kernel
theorem dX10_readRule_34 : decode cX10_readRule 34 = .ok (.iconst (-1), 1) := by decide +kernel
theorem dX10_readRule_35 : decode cX10_readRule 35 = .ok (.if_icmp .ne 5, 3) := by decide +kernel
theorem dX10_readRule_38 : decode cX10_readRule 38 = .ok (.iconst 0, 1) := by decide +kernel
theorem dX10_readRule_39 : decode cX10_readRule 39 = .ok (.ireturn, 1) := by decide +kernel
theorem dX10_readRule_40 : decode cX10_readRule 40 = .ok (.aload_n 2, 1) := by decide +kernel
theorem dX10_readRule_41 : decode cX10_readRule 41 = .ok (.getfield 137, 3) := by decide +kernel
theorem dX10_readRule_44 : decode cX10_readRule 44 = .ok (.iload_n 1, 1) := by decide +kernel
theorem dX10_readRule_45 : decode cX10_readRule 45 = .ok (.aload_n 0, 1) := by decide +kernel
theorem dX10_readRule_46 : decode cX10_readRule 46 = .ok (.ldc 140, 2) := by decide +kernel
theorem dX10_readRule_48 : decode cX10_readRule 48 = .ok (.invokevirtual 115, 3) := by decide +kernel
theorem dX10_readRule_51 : decode cX10_readRule 51 = .ok (.iastore, 1) := by decide +kernel
theorem dX10_readRule_52 : decode cX10_readRule 52 = .ok (.aload_n 2, 1) := by decide +kernel
theorem dX10_readRule_53 : decode cX10_readRule 53 = .ok (.getfield 137, 3) := by decide +kernel
theorem dX10_readRule_56 : decode cX10_readRule 56 = .ok (.iload_n 1, 1) := by decide +kernel
theorem dX10_readRule_57 : decode cX10_readRule 57 = .ok (.iaload, 1) := by decide +kernel
theorem dX10_readRule_58 : decode cX10_readRule 58 = .ok (.iconst (-1), 1) := by decide +kernel
theorem dX10_readRule_59 : decode cX10_readRule 59 = .ok (.if_icmp .ne 5, 3) := by decide +kernel
theorem dX10_readRule_62 : decode cX10_readRule 62 = .ok (.iconst 0, 1) := by decide +kernel
theorem dX10_readRule_63 : decode cX10_readRule 63 = .ok (.ireturn, 1) := by decide +kernel
theorem dX10_readRule_64 : decode cX10_readRule 64 = .ok (.aload_n 2, 1) := by decide +kernel
theorem dX10_readRule_65 : decode cX10_readRule 65 = .ok (.getfield 142, 3) := by decide +kernel
theorem dX10_readRule_68 : decode cX10_readRule 68 = .ok (.iload_n 1, 1) := by decide +kernel
theorem dX10_readRule_69 : decode cX10_readRule 69 = .ok (.aload_n 0, 1) := by decide +kernel
theorem dX10_readRule_70 : decode cX10_readRule 70 = .ok (.getfield 32, 3) := by decide +kernel
theorem dX10_readRule_73 : decode cX10_readRule 73 = .ok (.iastore, 1) := by decide +kernel
theorem dX10_readRule_74 : decode cX10_readRule 74 = .ok (.aload_n 2, 1) := by decide +kernel
theorem dX10_readRule_75 : decode cX10_readRule 75 = .ok (.getfield 145, 3) := by decide +kernel
theorem dX10_readRule_78 : decode cX10_readRule 78 = .ok (.iload_n 1, 1) := by decide +kernel
theorem dX10_readRule_79 : decode cX10_readRule 79 = .ok (.aload_n 0, 1) := by decide +kernel
theorem dX10_readRule_80 : decode cX10_readRule 80 = .ok (.invokevirtual 92, 3) := by decide +kernel
theorem dX10_readRule_83 : decode cX10_readRule 83 = .ok (.iastore, 1) := by decide +kernel
theorem dX10_readRule_84 : decode cX10_readRule 84 = .ok (.aload_n 2, 1) := by decide +kernel
theorem dX10_readRule_85 : decode cX10_readRule 85 = .ok (.getfield 145, 3) := by decide +kernel
theorem dX10_readRule_88 : decode cX10_readRule 88 = .ok (.iload_n 1, 1) := by decide +kernel
theorem dX10_readRule_89 : decode cX10_readRule 89 = .ok (.iaload, 1) := by decide +kernel
theorem dX10_readRule_90 : decode cX10_readRule 90 = .ok (.iconst (-1), 1) := by decide +kernel
theorem dX10_readRule_91 : decode cX10_readRule 91 = .ok (.if_icmp .ne 5, 3) := by decide +kernel
theorem dX10_readRule_94 : decode cX10_readRule 94 = .ok (.iconst 0, 1) := by decide +kernel
theorem dX10_readRule_95 : decode cX10_readRule 95 = .ok (.ireturn, 1) := by decide +kernel
theorem dX10_readRule_96 : decode cX10_readRule 96 = .ok (.aload_n 2, 1) := by decide +kernel
theorem dX10_readRule_97 : decode cX10_readRule 97 = .ok (.getfield 148, 3) := by decide +kernel
theorem dX10_readRule_100 : decode cX10_readRule 100 = .ok (.iload_n 1, 1) := by decide +kernel
theorem dX10_readRule_101 : decode cX10_readRule 101 = .ok (.aload_n 2, 1) := by decide +kernel
theorem dX10_readRule_102 : decode cX10_readRule 102 = .ok (.getfield 137, 3) := by decide +kernel
theorem dX10_readRule_105 : decode cX10_readRule 105 = .ok (.iload_n 1, 1) := by decide +kernel
theorem dX10_readRule_106 : decode cX10_readRule 106 = .ok (.iaload, 1) := by decide +kernel
theorem dX10_readRule_107 : decode cX10_readRule 107 = .ok (.iconst 1, 1) := by decide +kernel
theorem dX10_readRule_108 : decode cX10_readRule 108 = .ok (.if_icmp .ne 10, 3) := by decide +kernel
theorem dX10_readRule_111 : decode cX10_readRule 111 = .ok (.aload_n 0, 1) := by decide +kernel
theorem dX10_readRule_112 : decode cX10_readRule 112 = .ok (.invokevirtual 128, 3) := by decide +kernel
theorem dX10_readRule_115 : decode cX10_readRule 115 = .ok (.goto 4, 3) := by decide +kernel
theorem dX10_readRule_118 : decode cX10_readRule 118 = .ok (.iconst 0, 1) := by decide +kernel
theorem dX10_readRule_119 : decode cX10_readRule 119 = .ok (.iastore, 1) := by decide +kernel
theorem dX10_readRule_120 : decode cX10_readRule 120 = .ok (.aload_n 2, 1) := by decide +kernel
theorem dX10_readRule_121 : decode cX10_readRule 121 = .ok (.getfield 148, 3) := by decide +kernel
theorem dX10_readRule_124 : decode cX10_readRule 124 = .ok (.iload_n 1, 1) := by decide +kernel
theorem dX10_readRule_125 : decode cX10_readRule 125 = .ok (.iaload, 1) := by decide +kernel
theorem dX10_readRule_126 : decode cX10_readRule 126 = .ok (.iconst (-1), 1) := by decide +kernel
theorem dX10_readRule_127 : decode cX10_readRule 127 = .ok (.if_icmp .eq 16, 3) := by decide +kernel
theorem dX10_readRule_130 : decode cX10_readRule 130 = .ok (.aload_n 0, 1) := by decide +kernel
theorem dX10_readRule_131 : decode cX10_readRule 131 = .ok (.bipush 59, 2) := by decide +kernel
theorem dX10_readRule_133 : decode cX10_readRule 133 = .ok (.invokevirtual 69, 3) := by decide +kernel
theorem dX10_readRule_136 : decode cX10_readRule 136 = .ok (.ifCond .eq 7, 3) := by decide +kernel
theorem dX10_readRule_139 : decode cX10_readRule 139 = .ok (.iconst 1, 1) := by decide +kernel
theorem dX10_readRule_140 : decode cX10_readRule 140 = .ok (.goto 4, 3) := by decide +kernel
theorem dX10_readRule_143 : decode cX10_readRule 143 = .ok (.iconst 0, 1) := by decide +kernel
theorem dX10_readRule_144 : decode cX10_readRule 144 = .ok (.ireturn, 1) := by decide +kernel
theorem dX10_readRules_0 : decode cX10_readRules 0 = .ok (.iconst 0, 1) := by decide +kernel
theorem dX10_readRules_1 : decode cX10_readRules 1 = .ok (.istore_n 1, 1) := by decide +kernel
theorem dX10_readRules_2 : decode cX10_readRules 2 = .ok (.iload_n 1, 1) := by decide +kernel
theorem dX10_readRules_3 : decode cX10_readRules 3 = .ok (.bipush 12, 2) := by decide +kernel
theorem dX10_readRules_5 : decode cX10_readRules 5 = .ok (.if_icmp .ge 46, 3) := by decide +kernel
theorem dX10_readRules_8 : decode cX10_readRules 8 = .ok (.aload_n 0, 1) := by decide +kernel
theorem dX10_readRules_9 : decode cX10_readRules 9 = .ok (.getfield 32, 3) := by decide +kernel
theorem dX10_readRules_12 : decode cX10_readRules 12 = .ok (.aload_n 0, 1) := by decide +kernel
theorem dX10_readRules_13 : decode cX10_readRules 13 = .ok (.getfield 19, 3) := by decide +kernel
theorem dX10_readRules_16 : decode cX10_readRules 16 = .ok (.if_icmp .lt 6, 3) := by decide +kernel
theorem dX10_readRules_19 : decode cX10_readRules 19 = .ok (.goto 32, 3) := by decide +kernel
theorem dX10_readRules_22 : decode cX10_readRules 22 = .ok (.aload_n 0, 1) := by decide +kernel
theorem dX10_readRules_23 : decode cX10_readRules 23 = .ok (.iload_n 1, 1) := by decide +kernel
theorem dX10_readRules_24 : decode cX10_readRules 24 = .ok (.invokevirtual 53, 3) := by decide +kernel
theorem dX10_readRules_27 : decode cX10_readRules 27 = .ok (.ifCond .ne 5, 3) := by decide +kernel
theorem dX10_readRules_30 : decode cX10_readRules 30 = .ok (.iconst 0, 1) := by decide +kernel
theorem dX10_readRules_31 : decode cX10_readRules 31 = .ok (.ireturn, 1) := by decide +kernel
theorem dX10_readRules_32 : decode cX10_readRules 32 = .ok (.aload_n 0, 1) := by decide +kernel
theorem dX10_readRules_33 : decode cX10_readRules 33 = .ok (.getfield 15, 3) := by decide +kernel
theorem dX10_readRules_36 : decode cX10_readRules 36 = .ok (.getfield 56, 3) := by decide +kernel
theorem dX10_readRules_39 : decode cX10_readRules 39 = .ok (.iload_n 1, 1) := by decide +kernel
theorem dX10_readRules_40 : decode cX10_readRules 40 = .ok (.iconst 1, 1) := by decide +kernel
theorem dX10_readRules_41 : decode cX10_readRules 41 = .ok (.iadd, 1) := by decide +kernel
theorem dX10_readRules_42 : decode cX10_readRules 42 = .ok (.putfield 60, 3) := by decide +kernel
theorem dX10_readRules_45 : decode cX10_readRules 45 = .ok (.iinc 1 1, 3) := by decide +kernel
theorem dX10_readRules_48 : decode cX10_readRules 48 = .ok (.goto (-46), 3) := by decide +kernel
theorem dX10_readRules_51 : decode cX10_readRules 51 = .ok (.iconst 1, 1) := by decide +kernel
theorem dX10_readRules_52 : decode cX10_readRules 52 = .ok (.ireturn, 1) := by decide +kernel
theorem dX10_take_0 : decode cX10_take 0 = .ok (.aload_n 0, 1) := by decide +kernel
theorem dX10_take_1 : decode cX10_take 1 = .ok (.invokevirtual 42, 3) := by decide +kernel
