theorem dX1_readField_51 : decode cX1_readField 51 = .ok (.iload_n 1, 1) := by decide +kernel
theorem dX1_readField_52 : decode cX1_readField 52 = .ok (.aload_n 0, 1) := by decide +kernel
theorem dX1_readField_53 : decode cX1_readField 53 = .ok (.invokevirtual 179, 3) := by decide +kernel
theorem dX1_readField_56 : decode cX1_readField 56 = .ok (.iastore, 1) := by decide +kernel
theorem dX1_readField_57 : decode cX1_readField 57 = .ok (.aload_n 0, 1) := by decide +kernel
theorem dX1_readField_58 : decode cX1_readField 58 = .ok (.invokevirtual 179, 3) := by decide +kernel
theorem dX1_readField_61 : decode cX1_readField 61 = .ok (.invokestatic 208, 3) := by decide +kernel
theorem dX1_readField_64 : decode cX1_readField 64 = .ok (.ifCond .ne 13, 3) := by decide +kernel
theorem dX1_readField_67 : decode cX1_readField 67 = .ok (.aload_n 0, 1) := by decide +kernel
theorem dX1_readField_68 : decode cX1_readField 68 = .ok (.iconst 1, 1) := by decide +kernel
theorem dX1_readField_69 : decode cX1_readField 69 = .ok (.aload_n 0, 1) := by decide +kernel
theorem dX1_readField_70 : decode cX1_readField 70 = .ok (.getfield 170, 3) := by decide +kernel
theorem dX1_readField_73 : decode cX1_readField 73 = .ok (.invokevirtual 183, 3) := by decide +kernel
theorem dX1_readField_76 : decode cX1_readField 76 = .ok (.ireturn, 1) := by decide +kernel
theorem dX1_readField_77 : decode cX1_readField 77 = .ok (.aload_n 0, 1) := by decide +kernel
theorem dX1_readField_78 : decode cX1_readField 78 = .ok (.dup, 1) := by decide +kernel
theorem dX1_readField_79 : decode cX1_readField 79 = .ok (.getfield 170, 3) := by decide +kernel
theorem dX1_readField_82 : decode cX1_readField 82 = .ok (.iconst 1, 1) := by decide +kernel
theorem dX1_readField_83 : decode cX1_readField 83 = .ok (.iadd, 1) := by decide +kernel
theorem dX1_readField_84 : decode cX1_readField 84 = .ok (.putfield 170, 3) := by decide +kernel
theorem dX1_readField_87 : decode cX1_readField 87 = .ok (.aload_n 0, 1) := by decide +kernel
theorem dX1_readField_88 : decode cX1_readField 88 = .ok (.invokevirtual 211, 3) := by decide +kernel
theorem dX1_readField_91 : decode cX1_readField 91 = .ok (.ifCond .ne 5, 3) := by decide +kernel
theorem dX1_readField_94 : decode cX1_readField 94 = .ok (.iconst 0, 1) := by decide +kernel
theorem dX1_readField_95 : decode cX1_readField 95 = .ok (.ireturn, 1) := by decide +kernel
theorem dX1_readField_96 : decode cX1_readField 96 = .ok (.aload_n 0, 1) := by decide +kernel
theorem dX1_readField_97 : decode cX1_readField 97 = .ok (.getfield 34, 3) := by decide +kernel
theorem dX1_readField_100 : decode cX1_readField 100 = .ok (.iload_n 1, 1) := by decide +kernel
theorem dX1_readField_101 : decode cX1_readField 101 = .ok (.aload_n 0, 1) := by decide +kernel
theorem dX1_readField_102 : decode cX1_readField 102 = .ok (.getfield 191, 3) := by decide +kernel
theorem dX1_readField_105 : decode cX1_readField 105 = .ok (.iastore, 1) := by decide +kernel
theorem dX1_readField_106 : decode cX1_readField 106 = .ok (.aload_n 0, 1) := by decide +kernel
theorem dX1_readField_107 : decode cX1_readField 107 = .ok (.bipush 58, 2) := by decide +kernel
theorem dX1_readField_109 : decode cX1_readField 109 = .ok (.invokevirtual 214, 3) := by decide +kernel
theorem dX1_readField_112 : decode cX1_readField 112 = .ok (.ifCond .eq 10, 3) := by decide +kernel
theorem dX1_readField_115 : decode cX1_readField 115 = .ok (.aload_n 0, 1) := by decide +kernel
theorem dX1_readField_116 : decode cX1_readField 116 = .ok (.invokevirtual 211, 3) := by decide +kernel
theorem dX1_readField_119 : decode cX1_readField 119 = .ok (.ifCond .ne 5, 3) := by decide +kernel
theorem dX1_readField_122 : decode cX1_readField 122 = .ok (.iconst 0, 1) := by decide +kernel
theorem dX1_readField_123 : decode cX1_readField 123 = .ok (.ireturn, 1) := by decide +kernel
theorem dX1_readField_124 : decode cX1_readField 124 = .ok (.aload_n 0, 1) := by decide +kernel
theorem dX1_readField_125 : decode cX1_readField 125 = .ok (.getfield 37, 3) := by decide +kernel
theorem dX1_readField_128 : decode cX1_readField 128 = .ok (.iload_n 1, 1) := by decide +kernel
theorem dX1_readField_129 : decode cX1_readField 129 = .ok (.aload_n 0, 1) := by decide +kernel
theorem dX1_readField_130 : decode cX1_readField 130 = .ok (.getfield 191, 3) := by decide +kernel
theorem dX1_readField_133 : decode cX1_readField 133 = .ok (.iastore, 1) := by decide +kernel
theorem dX1_readField_134 : decode cX1_readField 134 = .ok (.aload_n 0, 1) := by decide +kernel
theorem dX1_readField_135 : decode cX1_readField 135 = .ok (.getfield 40, 3) := by decide +kernel
theorem dX1_readField_138 : decode cX1_readField 138 = .ok (.iload_n 1, 1) := by decide +kernel
theorem dX1_readField_139 : decode cX1_readField 139 = .ok (.iconst 0, 1) := by decide +kernel
theorem dX1_readField_140 : decode cX1_readField 140 = .ok (.iastore, 1) := by decide +kernel
theorem dX1_readField_141 : decode cX1_readField 141 = .ok (.aload_n 0, 1) := by decide +kernel
theorem dX1_readField_142 : decode cX1_readField 142 = .ok (.invokevirtual 179, 3) := by decide +kernel
theorem dX1_readField_145 : decode cX1_readField 145 = .ok (.bipush 61, 2) := by decide +kernel
theorem dX1_readField_147 : decode cX1_readField 147 = .ok (.if_icmp .ne 34, 3) := by decide +kernel
theorem dX1_readField_150 : decode cX1_readField 150 = .ok (.aload_n 0, 1) := by decide +kernel
theorem dX1_readField_151 : decode cX1_readField 151 = .ok (.dup, 1) := by decide +kernel
theorem dX1_readField_152 : decode cX1_readField 152 = .ok (.getfield 170, 3) := by decide +kernel
theorem dX1_readField_155 : decode cX1_readField 155 = .ok (.iconst 1, 1) := by decide +kernel
theorem dX1_readField_156 : decode cX1_readField 156 = .ok (.iadd, 1) := by decide +kernel
theorem dX1_readField_157 : decode cX1_readField 157 = .ok (.putfield 170, 3) := by decide +kernel
theorem dX1_readField_160 : decode cX1_readField 160 = .ok (.aload_n 0, 1) := by decide +kernel
theorem dX1_readField_161 : decode cX1_readField 161 = .ok (.iconst 1, 1) := by decide +kernel
theorem dX1_readField_162 : decode cX1_readField 162 = .ok (.iconst 4, 1) := by decide +kernel
theorem dX1_readField_163 : decode cX1_readField 163 = .ok (.invokevirtual 217, 3) := by decide +kernel
theorem dX1_readField_166 : decode cX1_readField 166 = .ok (.ifCond .ne 5, 3) := by decide +kernel
theorem dX1_readField_169 : decode cX1_readField 169 = .ok (.iconst 0, 1) := by decide +kernel
theorem dX1_readField_170 : decode cX1_readField 170 = .ok (.ireturn, 1) := by decide +kernel
theorem dX1_readField_171 : decode cX1_readField 171 = .ok (.aload_n 0, 1) := by decide +kernel
theorem dX1_readField_172 : decode cX1_readField 172 = .ok (.getfield 40, 3) := by decide +kernel
theorem dX1_readField_175 : decode cX1_readField 175 = .ok (.iload_n 1, 1) := by decide +kernel
theorem dX1_readField_176 : decode cX1_readField 176 = .ok (.aload_n 0, 1) := by decide +kernel
theorem dX1_readField_177 : decode cX1_readField 177 = .ok (.getfield 191, 3) := by decide +kernel
theorem dX1_readField_180 : decode cX1_readField 180 = .ok (.iastore, 1) := by decide +kernel
theorem dX1_readField_181 : decode cX1_readField 181 = .ok (.aload_n 0, 1) := by decide +kernel
theorem dX1_readField_182 : decode cX1_readField 182 = .ok (.dup, 1) := by decide +kernel
theorem dX1_readField_183 : decode cX1_readField 183 = .ok (.getfield 198, 3) := by decide +kernel
theorem dX1_readField_186 : decode cX1_readField 186 = .ok (.iconst 1, 1) := by decide +kernel
theorem dX1_readField_187 : decode cX1_readField 187 = .ok (.iadd, 1) := by decide +kernel
theorem dX1_readField_188 : decode cX1_readField 188 = .ok (.putfield 198, 3) := by decide +kernel
theorem dX1_readField_191 : decode cX1_readField 191 = .ok (.aload_n 0, 1) := by decide +kernel
theorem dX1_readField_192 : decode cX1_readField 192 = .ok (.bipush 59, 2) := by decide +kernel
theorem dX1_readField_194 : decode cX1_readField 194 = .ok (.invokevirtual 214, 3) := by decide +kernel
theorem dX1_readField_197 : decode cX1_readField 197 = .ok (.ireturn, 1) := by decide +kernel
theorem dX1_readRegister_0 : decode cX1_readRegister 0 = .ok (.aload_n 0, 1) := by decide +kernel
theorem dX1_readRegister_1 : decode cX1_readRegister 1 = .ok (.getfield 201, 3) := by decide +kernel
theorem dX1_readRegister_4 : decode cX1_readRegister 4 = .ok (.istore_n 1, 1) := by decide +kernel
theorem dX1_readRegister_5 : decode cX1_readRegister 5 = .ok (.aload_n 0, 1) := by decide +kernel
theorem dX1_readRegister_6 : decode cX1_readRegister 6 = .ok (.getfield 22, 3) := by decide +kernel
theorem dX1_readRegister_9 : decode cX1_readRegister 9 = .ok (.iload_n 1, 1) := by decide +kernel
theorem dX1_readRegister_10 : decode cX1_readRegister 10 = .ok (.aload_n 0, 1) := by decide +kernel
theorem dX1_readRegister_11 : decode cX1_readRegister 11 = .ok (.getfield 170, 3) := by decide +kernel
theorem dX1_readRegister_14 : decode cX1_readRegister 14 = .ok (.iastore, 1) := by decide +kernel
theorem dX1_readRegister_15 : decode cX1_readRegister 15 = .ok (.iload_n 1, 1) := by decide +kernel
theorem dX1_readRegister_16 : decode cX1_readRegister 16 = .ok (.bipush 16, 2) := by decide +kernel
theorem dX1_readRegister_18 : decode cX1_readRegister 18 = .ok (.if_icmp .ne 13, 3) := by decide +kernel
theorem dX1_readRegister_21 : decode cX1_readRegister 21 = .ok (.aload_n 0, 1) := by decide +kernel
theorem dX1_readRegister_22 : decode cX1_readRegister 22 = .ok (.iconst 1, 1) := by decide +kernel
theorem dX1_readRegister_23 : decode cX1_readRegister 23 = .ok (.aload_n 0, 1) := by decide +kernel
theorem dX1_readRegister_24 : decode cX1_readRegister 24 = .ok (.getfield 170, 3) := by decide +kernel
theorem dX1_readRegister_27 : decode cX1_readRegister 27 = .ok (.invokevirtual 183, 3) := by decide +kernel
theorem dX1_readRegister_30 : decode cX1_readRegister 30 = .ok (.ireturn, 1) := by decide +kernel
theorem dX1_readRegister_31 : decode cX1_readRegister 31 = .ok (.aload_n 0, 1) := by decide +kernel
theorem dX1_readRegister_32 : decode cX1_readRegister 32 = .ok (.bipush 64, 2) := by decide +kernel
theorem dX1_readRegister_34 : decode cX1_readRegister 34 = .ok (.invokevirtual 214, 3) := by decide +kernel
theorem dX1_readRegister_37 : decode cX1_readRegister 37 = .ok (.ifCond .eq 12, 3) := by decide +kernel
theorem dX1_readRegister_40 : decode cX1_readRegister 40 = .ok (.aload_n 0, 1) := by decide +kernel
theorem dX1_readRegister_41 : decode cX1_readRegister 41 = .ok (.iconst 2, 1) := by decide +kernel
theorem dX1_readRegister_42 : decode cX1_readRegister 42 = .ok (.iconst 2, 1) := by decide +kernel
theorem dX1_readRegister_43 : decode cX1_readRegister 43 = .ok (.invokevirtual 217, 3) := by decide +kernel
theorem dX1_readRegister_46 : decode cX1_readRegister 46 = .ok (.ifCond .ne 5, 3) := by decide +kernel
theorem dX1_readRegister_49 : decode cX1_readRegister 49 = .ok (.iconst 0, 1) := by decide +kernel
theorem dX1_readRegister_50 : decode cX1_readRegister 50 = .ok (.ireturn, 1) := by decide +kernel
theorem dX1_readRegister_51 : decode cX1_readRegister 51 = .ok (.aload_n 0, 1) := by decide +kernel
theorem dX1_readRegister_52 : decode cX1_readRegister 52 = .ok (.getfield 13, 3) := by decide +kernel
theorem dX1_readRegister_55 : decode cX1_readRegister 55 = .ok (.iload_n 1, 1) := by decide +kernel
theorem dX1_readRegister_56 : decode cX1_readRegister 56 = .ok (.aload_n 0, 1) := by decide +kernel
theorem dX1_readRegister_57 : decode cX1_readRegister 57 = .ok (.getfield 191, 3) := by decide +kernel
theorem dX1_readRegister_60 : decode cX1_readRegister 60 = .ok (.iastore, 1) := by decide +kernel
theorem dX1_readRegister_61 : decode cX1_readRegister 61 = .ok (.aload_n 0, 1) := by decide +kernel
theorem dX1_readRegister_62 : decode cX1_readRegister 62 = .ok (.getfield 16, 3) := by decide +kernel
theorem dX1_readRegister_65 : decode cX1_readRegister 65 = .ok (.iload_n 1, 1) := by decide +kernel
theorem dX1_readRegister_66 : decode cX1_readRegister 66 = .ok (.iconst (-1), 1) := by decide +kernel
theorem dX1_readRegister_67 : decode cX1_readRegister 67 = .ok (.iastore, 1) := by decide +kernel
theorem dX1_readRegister_68 : decode cX1_readRegister 68 = .ok (.aload_n 0, 1) := by decide +kernel
theorem dX1_readRegister_69 : decode cX1_readRegister 69 = .ok (.invokevirtual 179, 3) := by decide +kernel
theorem dX1_readRegister_72 : decode cX1_readRegister 72 = .ok (.bipush 63, 2) := by decide +kernel
theorem dX1_readRegister_74 : decode cX1_readRegister 74 = .ok (.if_icmp .ne 73, 3) := by decide +kernel
theorem dX1_readRegister_77 : decode cX1_readRegister 77 = .ok (.aload_n 0, 1) := by decide +kernel
theorem dX1_readRegister_78 : decode cX1_readRegister 78 = .ok (.dup, 1) := by decide +kernel
theorem dX1_readRegister_79 : decode cX1_readRegister 79 = .ok (.getfield 170, 3) := by decide +kernel
theorem dX1_readRegister_82 : decode cX1_readRegister 82 = .ok (.iconst 1, 1) := by decide +kernel
theorem dX1_readRegister_83 : decode cX1_readRegister 83 = .ok (.iadd, 1) := by decide +kernel
theorem dX1_readRegister_84 : decode cX1_readRegister 84 = .ok (.putfield 170, 3) := by decide +kernel
theorem dX1_readRegister_87 : decode cX1_readRegister 87 = .ok (.aload_n 0, 1) := by decide +kernel
theorem dX1_readRegister_88 : decode cX1_readRegister 88 = .ok (.getfield 25, 3) := by decide +kernel
theorem dX1_readRegister_91 : decode cX1_readRegister 91 = .ok (.iload_n 1, 1) := by decide +kernel
theorem dX1_readRegister_92 : decode cX1_readRegister 92 = .ok (.aload_n 0, 1) := by decide +kernel
theorem dX1_readRegister_93 : decode cX1_readRegister 93 = .ok (.getfield 170, 3) := by decide +kernel
theorem dX1_readRegister_96 : decode cX1_readRegister 96 = .ok (.iastore, 1) := by decide +kernel
theorem dX1_readRegister_97 : decode cX1_readRegister 97 = .ok (.aload_n 0, 1) := by decide +kernel
theorem dX1_readRegister_98 : decode cX1_readRegister 98 = .ok (.getfield 16, 3) := by decide +kernel
theorem dX1_readRegister_101 : decode cX1_readRegister 101 = .ok (.iload_n 1, 1) := by decide +kernel
theorem dX1_readRegister_102 : decode cX1_readRegister 102 = .ok (.aload_n 0, 1) := by decide +kernel
theorem dX1_readRegister_103 : decode cX1_readRegister 103 = .ok (.invokevirtual 179, 3) := by decide +kernel
theorem dX1_readRegister_106 : decode cX1_readRegister 106 = .ok (.bipush 65, 2) := by decide +kernel
theorem dX1_readRegister_108 : decode cX1_readRegister 108 = .ok (.isub, 1) := by decide +kernel
theorem dX1_readRegister_109 : decode cX1_readRegister 109 = .ok (.iastore, 1) := by decide +kernel
theorem dX1_readRegister_110 : decode cX1_readRegister 110 = .ok (.aload_n 0, 1) := by decide +kernel
theorem dX1_readRegister_111 : decode cX1_readRegister 111 = .ok (.invokevirtual 204, 3) := by decide +kernel
theorem dX1_readRegister_114 : decode cX1_readRegister 114 = .ok (.ifCond .eq 21, 3) := by decide +kernel
theorem dX1_readRegister_117 : decode cX1_readRegister 117 = .ok (.aload_n 0, 1) := by decide +kernel
theorem dX1_readRegister_118 : decode cX1_readRegister 118 = .ok (.bipush 61, 2) := by decide +kernel
theorem dX1_readRegister_120 : decode cX1_readRegister 120 = .ok (.invokevirtual 214, 3) := by decide +kernel
theorem dX1_readRegister_123 : decode cX1_readRegister 123 = .ok (.ifCond .eq 12, 3) := by decide +kernel
theorem dX1_readRegister_126 : decode cX1_readRegister 126 = .ok (.aload_n 0, 1) := by decide +kernel
theorem dX1_readRegister_127 : decode cX1_readRegister 127 = .ok (.iconst 1, 1) := by decide +kernel
theorem dX1_readRegister_128 : decode cX1_readRegister 128 = .ok (.iconst 1, 1) := by decide +kernel
theorem dX1_readRegister_129 : decode cX1_readRegister 129 = .ok (.invokevirtual 217, 3) := by decide +kernel
theorem dX1_readRegister_132 : decode cX1_readRegister 132 = .ok (.ifCond .ne 5, 3) := by decide +kernel
theorem dX1_readRegister_135 : decode cX1_readRegister 135 = .ok (.iconst 0, 1) := by decide +kernel
theorem dX1_readRegister_136 : decode cX1_readRegister 136 = .ok (.ireturn, 1) := by decide +kernel
theorem dX1_readRegister_137 : decode cX1_readRegister 137 = .ok (.aload_n 0, 1) := by decide +kernel
theorem dX1_readRegister_138 : decode cX1_readRegister 138 = .ok (.getfield 19, 3) := by decide +kernel
theorem dX1_readRegister_141 : decode cX1_readRegister 141 = .ok (.iload_n 1, 1) := by decide +kernel
theorem dX1_readRegister_142 : decode cX1_readRegister 142 = .ok (.aload_n 0, 1) := by decide +kernel
theorem dX1_readRegister_143 : decode cX1_readRegister 143 = .ok (.getfield 191, 3) := by decide +kernel
theorem dX1_readRegister_146 : decode cX1_readRegister 146 = .ok (.iastore, 1) := by decide +kernel
theorem dX1_readRegister_147 : decode cX1_readRegister 147 = .ok (.aload_n 0, 1) := by decide +kernel
theorem dX1_readRegister_148 : decode cX1_readRegister 148 = .ok (.bipush 123, 2) := by decide +kernel
theorem dX1_readRegister_150 : decode cX1_readRegister 150 = .ok (.invokevirtual 214, 3) := by decide +kernel
theorem dX1_readRegister_153 : decode cX1_readRegister 153 = .ok (.ifCond .ne 5, 3) := by decide +kernel
theorem dX1_readRegister_156 : decode cX1_readRegister 156 = .ok (.iconst 0, 1) := by decide +kernel
theorem dX1_readRegister_157 : decode cX1_readRegister 157 = .ok (.ireturn, 1) := by decide +kernel
theorem dX1_readRegister_158 : decode cX1_readRegister 158 = .ok (.aload_n 0, 1) := by decide +kernel
theorem dX1_readRegister_159 : decode cX1_readRegister 159 = .ok (.getfield 198, 3) := by decide +kernel
theorem dX1_readRegister_162 : decode cX1_readRegister 162 = .ok (.istore_n 2, 1) := by decide +kernel
theorem dX1_readRegister_163 : decode cX1_readRegister 163 = .ok (.iconst 1, 1) := by decide +kernel
theorem dX1_readRegister_164 : decode cX1_readRegister 164 = .ok (.istore_n 3, 1) := by decide +kernel
theorem dX1_readRegister_165 : decode cX1_readRegister 165 = .ok (.iload_n 3, 1) := by decide +kernel
theorem dX1_readRegister_166 : decode cX1_readRegister 166 = .ok (.ifCond .eq 41, 3) := by decide +kernel
theorem dX1_readRegister_169 : decode cX1_readRegister 169 = .ok (.aload_n 0, 1) := by decide +kernel
theorem dX1_readRegister_170 : decode cX1_readRegister 170 = .ok (.invokevirtual 220, 3) := by decide +kernel
theorem dX1_readRegister_173 : decode cX1_readRegister 173 = .ok (.ifCond .ne 5, 3) := by decide +kernel
theorem dX1_readRegister_176 : decode cX1_readRegister 176 = .ok (.iconst 0, 1) := by decide +kernel
theorem dX1_readRegister_177 : decode cX1_readRegister 177 = .ok (.ireturn, 1) := by decide +kernel
theorem dX1_readRegister_178 : decode cX1_readRegister 178 = .ok (.aload_n 0, 1) := by decide +kernel
theorem dX1_readRegister_179 : decode cX1_readRegister 179 = .ok (.invokevirtual 179, 3) := by decide +kernel
theorem dX1_readRegister_182 : decode cX1_readRegister 182 = .ok (.bipush 125, 2) := by decide +kernel
theorem dX1_readRegister_184 : decode cX1_readRegister 184 = .ok (.if_icmp .eq 18, 3) := by decide +kernel
theorem dX1_readRegister_187 : decode cX1_readRegister 187 = .ok (.aload_n 0, 1) := by decide +kernel
theorem dX1_readRegister_188 : decode cX1_readRegister 188 = .ok (.getfield 198, 3) := by decide +kernel
theorem dX1_readRegister_191 : decode cX1_readRegister 191 = .ok (.iload_n 2, 1) := by decide +kernel
theorem dX1_readRegister_192 : decode cX1_readRegister 192 = .ok (.isub, 1) := by decide +kernel
theorem dX1_readRegister_193 : decode cX1_readRegister 193 = .ok (.bipush 8, 2) := by decide +kernel
theorem dX1_readRegister_195 : decode cX1_readRegister 195 = .ok (.if_icmp .ge 7, 3) := by decide +kernel
theorem dX1_readRegister_198 : decode cX1_readRegister 198 = .ok (.iconst 1, 1) := by decide +kernel
theorem dX1_readRegister_199 : decode cX1_readRegister 199 = .ok (.goto 4, 3) := by decide +kernel
theorem dX1_readRegister_202 : decode cX1_readRegister 202 = .ok (.iconst 0, 1) := by decide +kernel
theorem dX1_readRegister_203 : decode cX1_readRegister 203 = .ok (.istore_n 3, 1) := by decide +kernel
theorem dX1_readRegister_204 : decode cX1_readRegister 204 = .ok (.goto (-39), 3) := by decide +kernel
theorem dX1_readRegister_207 : decode cX1_readRegister 207 = .ok (.aload_n 0, 1) := by decide +kernel
theorem dX1_readRegister_208 : decode cX1_readRegister 208 = .ok (.dup, 1) := by decide +kernel
theorem dX1_readRegister_209 : decode cX1_readRegister 209 = .ok (.getfield 201, 3) := by decide +kernel
theorem dX1_readRegister_212 : decode cX1_readRegister 212 = .ok (.iconst 1, 1) := by decide +kernel
theorem dX1_readRegister_213 : decode cX1_readRegister 213 = .ok (.iadd, 1) := by decide +kernel
theorem dX1_readRegister_214 : decode cX1_readRegister 214 = .ok (.putfield 201, 3) := by decide +kernel
theorem dX1_readRegister_217 : decode cX1_readRegister 217 = .ok (.aload_n 0, 1) := by decide +kernel
theorem dX1_readRegister_218 : decode cX1_readRegister 218 = .ok (.bipush 125, 2) := by decide +kernel
theorem dX1_readRegister_220 : decode cX1_readRegister 220 = .ok (.invokevirtual 214, 3) := by decide +kernel
theorem dX1_readRegister_223 : decode cX1_readRegister 223 = .ok (.ireturn, 1) := by decide +kernel
theorem dX1_readRule_0 : decode cX1_readRule 0 = .ok (.aload_n 0, 1) := by decide +kernel
theorem dX1_readRule_1 : decode cX1_readRule 1 = .ok (.getfield 223, 3) := by decide +kernel
theorem dX1_readRule_4 : decode cX1_readRule 4 = .ok (.istore_n 1, 1) := by decide +kernel
theorem dX1_readRule_5 : decode cX1_readRule 5 = .ok (.iload_n 1, 1) := by decide +kernel
theorem dX1_readRule_6 : decode cX1_readRule 6 = .ok (.bipush 12, 2) := by decide +kernel
theorem dX1_readRule_8 : decode cX1_readRule 8 = .ok (.if_icmp .ne 13, 3) := by decide +kernel
theorem dX1_readRule_11 : decode cX1_readRule 11 = .ok (.aload_n 0, 1) := by decide +kernel
theorem dX1_readRule_12 : decode cX1_readRule 12 = .ok (.iconst 1, 1) := by decide +kernel
theorem dX1_readRule_13 : decode cX1_readRule 13 = .ok (.aload_n 0, 1) := by decide +kernel
theorem dX1_readRule_14 : decode cX1_readRule 14 = .ok (.getfield 170, 3) := by decide +kernel
theorem dX1_readRule_17 : decode cX1_readRule 17 = .ok (.invokevirtual 183, 3) := by decide +kernel
theorem dX1_readRule_20 : decode cX1_readRule 20 = .ok (.ireturn, 1) := by decide +kernel
theorem dX1_readRule_21 : decode cX1_readRule 21 = .ok (.aload_n 0, 1) := by decide +kernel
theorem dX1_readRule_22 : decode cX1_readRule 22 = .ok (.getfield 61, 3) := by decide +kernel
theorem dX1_readRule_25 : decode cX1_readRule 25 = .ok (.iload_n 1, 1) := by decide +kernel
theorem dX1_readRule_26 : decode cX1_readRule 26 = .ok (.aload_n 0, 1) := by decide +kernel
theorem dX1_readRule_27 : decode cX1_readRule 27 = .ok (.getfield 170, 3) := by decide +kernel
theorem dX1_readRule_30 : decode cX1_readRule 30 = .ok (.iastore, 1) := by decide +kernel
theorem dX1_readRule_31 : decode cX1_readRule 31 = .ok (.aload_n 0, 1) := by decide +kernel
theorem dX1_readRule_32 : decode cX1_readRule 32 = .ok (.getfield 52, 3) := by decide +kernel
theorem dX1_readRule_35 : decode cX1_readRule 35 = .ok (.iload_n 1, 1) := by decide +kernel
theorem dX1_readRule_36 : decode cX1_readRule 36 = .ok (.aload_n 0, 1) := by decide +kernel
theorem dX1_readRule_37 : decode cX1_readRule 37 = .ok (.invokevirtual 179, 3) := by decide +kernel
theorem dX1_readRule_40 : decode cX1_readRule 40 = .ok (.bipush 65, 2) := by decide +kernel
theorem dX1_readRule_42 : decode cX1_readRule 42 = .ok (.isub, 1) := by decide +kernel
theorem dX1_readRule_43 : decode cX1_readRule 43 = .ok (.iastore, 1) := by decide +kernel
theorem dX1_readRule_44 : decode cX1_readRule 44 = .ok (.aload_n 0, 1) := by decide +kernel
theorem dX1_readRule_45 : decode cX1_readRule 45 = .ok (.invokevirtual 204, 3) := by decide +kernel
theorem dX1_readRule_48 : decode cX1_readRule 48 = .ok (.ifCond .ne 5, 3) := by decide +kernel
theorem dX1_readRule_51 : decode cX1_readRule 51 = .ok (.iconst 0, 1) := by decide +kernel
theorem dX1_readRule_52 : decode cX1_readRule 52 = .ok (.ireturn, 1) := by decide +kernel
theorem dX1_readRule_53 : decode cX1_readRule 53 = .ok (.aload_n 0, 1) := by decide +kernel
theorem dX1_readRule_54 : decode cX1_readRule 54 = .ok (.getfield 49, 3) := by decide +kernel
theorem dX1_readRule_57 : decode cX1_readRule 57 = .ok (.iload_n 1, 1) := by decide +kernel
theorem dX1_readRule_58 : decode cX1_readRule 58 = .ok (.aload_n 0, 1) := by decide +kernel
theorem dX1_readRule_59 : decode cX1_readRule 59 = .ok (.invokevirtual 179, 3) := by decide +kernel
theorem dX1_readRule_62 : decode cX1_readRule 62 = .ok (.iastore, 1) := by decide +kernel
theorem dX1_readRule_63 : decode cX1_readRule 63 = .ok (.aload_n 0, 1) := by decide +kernel
theorem dX1_readRule_64 : decode cX1_readRule 64 = .ok (.invokevirtual 179, 3) := by decide +kernel
theorem dX1_readRule_67 : decode cX1_readRule 67 = .ok (.bipush 60, 2) := by decide +kernel
theorem dX1_readRule_69 : decode cX1_readRule 69 = .ok (.if_icmp .eq 31, 3) := by decide +kernel
theorem dX1_readRule_72 : decode cX1_readRule 72 = .ok (.aload_n 0, 1) := by decide +kernel
theorem dX1_readRule_73 : decode cX1_readRule 73 = .ok (.invokevirtual 179, 3) := by decide +kernel
theorem dX1_readRule_76 : decode cX1_readRule 76 = .ok (.bipush 38, 2) := by decide +kernel
theorem dX1_readRule_78 : decode cX1_readRule 78 = .ok (.if_icmp .eq 22, 3) := by decide +kernel
theorem dX1_readRule_81 : decode cX1_readRule 81 = .ok (.aload_n 0, 1) := by decide +kernel
theorem dX1_readRule_82 : decode cX1_readRule 82 = .ok (.invokevirtual 179, 3) := by decide +kernel
theorem dX1_readRule_85 : decode cX1_readRule 85 = .ok (.bipush 33, 2) := by decide +kernel
theorem dX1_readRule_87 : decode cX1_readRule 87 = .ok (.if_icmp .eq 13, 3) := by decide +kernel
