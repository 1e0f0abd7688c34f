theorem dX12_readAll_21 : decode cX12_readAll 21 = .ok (.invokevirtual 236, 3) := by decide +kernel
theorem dX12_readAll_24 : decode cX12_readAll 24 = .ok (.ifCond .ne 5, 3) := by decide +kernel
theorem dX12_readAll_27 : decode cX12_readAll 27 = .ok (.iconst 0, 1) := by decide +kernel
theorem dX12_readAll_28 : decode cX12_readAll 28 = .ok (.ireturn, 1) := by decide +kernel
theorem dX12_readAll_29 : decode cX12_readAll 29 = .ok (.aload_n 0, 1) := by decide +kernel
theorem dX12_readAll_30 : decode cX12_readAll 30 = .ok (.invokevirtual 179, 3) := by decide +kernel
theorem dX12_readAll_33 : decode cX12_readAll 33 = .ok (.bipush 64, 2) := by decide +kernel
theorem dX12_readAll_35 : decode cX12_readAll 35 = .ok (.if_icmp .eq (-15), 3) := by decide +kernel
theorem dX12_readAll_38 : decode cX12_readAll 38 = .ok (.aload_n 0, 1) := by decide +kernel
theorem dX12_readAll_39 : decode cX12_readAll 39 = .ok (.getfield 170, 3) := by decide +kernel
theorem dX12_readAll_42 : decode cX12_readAll 42 = .ok (.aload_n 0, 1) := by decide +kernel
theorem dX12_readAll_43 : decode cX12_readAll 43 = .ok (.getfield 165, 3) := by decide +kernel
theorem dX12_readAll_46 : decode cX12_readAll 46 = .ok (.if_icmp .ge 12, 3) := by decide +kernel
theorem dX12_readAll_49 : decode cX12_readAll 49 = .ok (.aload_n 0, 1) := by decide +kernel
theorem dX12_readAll_50 : decode cX12_readAll 50 = .ok (.invokevirtual 239, 3) := by decide +kernel
theorem dX12_readAll_53 : decode cX12_readAll 53 = .ok (.ifCond .ne (-15), 3) := by decide +kernel
theorem dX12_readAll_56 : decode cX12_readAll 56 = .ok (.iconst 0, 1) := by decide +kernel
theorem dX12_readAll_57 : decode cX12_readAll 57 = .ok (.ireturn, 1) := by decide +kernel
theorem dX12_readAll_58 : decode cX12_readAll 58 = .ok (.aload_n 0, 1) := by decide +kernel
theorem dX12_readAll_59 : decode cX12_readAll 59 = .ok (.invokevirtual 242, 3) := by decide +kernel
theorem dX12_readAll_62 : decode cX12_readAll 62 = .ok (.ifCond .eq 21, 3) := by decide +kernel
theorem dX12_readAll_65 : decode cX12_readAll 65 = .ok (.aload_n 0, 1) := by decide +kernel
theorem dX12_readAll_66 : decode cX12_readAll 66 = .ok (.invokevirtual 245, 3) := by decide +kernel
theorem dX12_readAll_69 : decode cX12_readAll 69 = .ok (.ifCond .eq 14, 3) := by decide +kernel
theorem dX12_readAll_72 : decode cX12_readAll 72 = .ok (.aload_n 0, 1) := by decide +kernel
theorem dX12_readAll_73 : decode cX12_readAll 73 = .ok (.invokevirtual 248, 3) := by decide +kernel
theorem dX12_readAll_76 : decode cX12_readAll 76 = .ok (.ifCond .eq 7, 3) := by decide +kernel
theorem dX12_readAll_79 : decode cX12_readAll 79 = .ok (.iconst 1, 1) := by decide +kernel
theorem dX12_readAll_80 : decode cX12_readAll 80 = .ok (.goto 4, 3) := by decide +kernel
theorem dX12_readAll_83 : decode cX12_readAll 83 = .ok (.iconst 0, 1) := by decide +kernel
theorem dX12_readAll_84 : decode cX12_readAll 84 = .ok (.ireturn, 1) := by decide +kernel
theorem dX12_readField_0 : decode cX12_readField 0 = .ok (.aload_n 0, 1) := by decide +kernel
theorem dX12_readField_1 : decode cX12_readField 1 = .ok (.getfield 198, 3) := by decide +kernel
theorem dX12_readField_4 : decode cX12_readField 4 = .ok (.istore_n 1, 1) := by decide +kernel
theorem dX12_readField_5 : decode cX12_readField 5 = .ok (.aload_n 0, 1) := by decide +kernel
theorem dX12_readField_6 : decode cX12_readField 6 = .ok (.getfield 46, 3) := by decide +kernel
theorem dX12_readField_9 : decode cX12_readField 9 = .ok (.iload_n 1, 1) := by decide +kernel
theorem dX12_readField_10 : decode cX12_readField 10 = .ok (.aload_n 0, 1) := by decide +kernel
theorem dX12_readField_11 : decode cX12_readField 11 = .ok (.getfield 170, 3) := by decide +kernel
theorem dX12_readField_14 : decode cX12_readField 14 = .ok (.iastore, 1) := by decide +kernel
theorem dX12_readField_15 : decode cX12_readField 15 = .ok (.aload_n 0, 1) := by decide +kernel
theorem dX12_readField_16 : decode cX12_readField 16 = .ok (.getfield 28, 3) := by decide +kernel
theorem dX12_readField_19 : decode cX12_readField 19 = .ok (.iload_n 1, 1) := by decide +kernel
theorem dX12_readField_20 : decode cX12_readField 20 = .ok (.aload_n 0, 1) := by decide +kernel
theorem dX12_readField_21 : decode cX12_readField 21 = .ok (.invokevirtual 179, 3) := by decide +kernel
theorem dX12_readField_24 : decode cX12_readField 24 = .ok (.bipush 65, 2) := by decide +kernel
theorem dX12_readField_26 : decode cX12_readField 26 = .ok (.isub, 1) := by decide +kernel
theorem dX12_readField_27 : decode cX12_readField 27 = .ok (.iastore, 1) := by decide +kernel
theorem dX12_readField_28 : decode cX12_readField 28 = .ok (.aload_n 0, 1) := by decide +kernel
theorem dX12_readField_29 : decode cX12_readField 29 = .ok (.getfield 43, 3) := by decide +kernel
theorem dX12_readField_32 : decode cX12_readField 32 = .ok (.iload_n 1, 1) := by decide +kernel
theorem dX12_readField_33 : decode cX12_readField 33 = .ok (.aload_n 0, 1) := by decide +kernel
theorem dX12_readField_34 : decode cX12_readField 34 = .ok (.getfield 201, 3) := by decide +kernel
theorem dX12_readField_37 : decode cX12_readField 37 = .ok (.iastore, 1) := by decide +kernel
theorem dX12_readField_38 : decode cX12_readField 38 = .ok (.aload_n 0, 1) := by decide +kernel
theorem dX12_readField_39 : decode cX12_readField 39 = .ok (.invokevirtual 204, 3) := by decide +kernel
theorem dX12_readField_42 : decode cX12_readField 42 = .ok (.ifCond .ne 5, 3) := by decide +kernel
theorem dX12_readField_45 : decode cX12_readField 45 = .ok (.iconst 0, 1) := by decide +kernel
theorem dX12_readField_46 : decode cX12_readField 46 = .ok (.ireturn, 1) := by decide +kernel
theorem dX12_readField_47 : decode cX12_readField 47 = .ok (.aload_n 0, 1) := by decide +kernel
theorem dX12_readField_48 : decode cX12_readField 48 = .ok (.getfield 31, 3) := by decide +kernel
theorem dX12_readField_51 : decode cX12_readField 51 = .ok (.iload_n 1, 1) := by decide +kernel
theorem dX12_readField_52 : decode cX12_readField 52 = .ok (.aload_n 0, 1) := by decide +kernel
theorem dX12_readField_53 : decode cX12_readField 53 = .ok (.invokevirtual 179, 3) := by decide +kernel
theorem dX12_readField_56 : decode cX12_readField 56 = .ok (.iastore, 1) := by decide +kernel
theorem dX12_readField_57 : decode cX12_readField 57 = .ok (.aload_n 0, 1) := by decide +kernel
theorem dX12_readField_58 : decode cX12_readField 58 = .ok (.invokevirtual 179, 3) := by decide +kernel
theorem dX12_readField_61 : decode cX12_readField 61 = .ok (.invokestatic 208, 3) := by decide +kernel
theorem dX12_readField_64 : decode cX12_readField 64 = .ok (.ifCond .ne 13, 3) := by decide +kernel
theorem dX12_readField_67 : decode cX12_readField 67 = .ok (.aload_n 0, 1) := by decide +kernel
theorem dX12_readField_68 : decode cX12_readField 68 = .ok (.iconst 1, 1) := by decide +kernel
theorem dX12_readField_69 : decode cX12_readField 69 = .ok (.aload_n 0, 1) := by decide +kernel
theorem dX12_readField_70 : decode cX12_readField 70 = .ok (.getfield 170, 3) := by decide +kernel
theorem dX12_readField_73 : decode cX12_readField 73 = .ok (.invokevirtual 183, 3) := by decide +kernel
theorem dX12_readField_76 : decode cX12_readField 76 = .ok (.ireturn, 1) := by decide +kernel
theorem dX12_readField_77 : decode cX12_readField 77 = .ok (.aload_n 0, 1) := by decide +kernel
theorem dX12_readField_78 : decode cX12_readField 78 = .ok (.dup, 1) := by decide +kernel
theorem dX12_readField_79 : decode cX12_readField 79 = .ok (.getfield 170, 3) := by decide +kernel
theorem dX12_readField_82 : decode cX12_readField 82 = .ok (.iconst 1, 1) := by decide +kernel
theorem dX12_readField_83 : decode cX12_readField 83 = .ok (.iadd, 1) := by decide +kernel
theorem dX12_readField_84 : decode cX12_readField 84 = .ok (.putfield 170, 3) := by decide +kernel
theorem dX12_readField_87 : decode cX12_readField 87 = .ok (.aload_n 0, 1) := by decide +kernel
theorem dX12_readField_88 : decode cX12_readField 88 = .ok (.invokevirtual 211, 3) := by decide +kernel
theorem dX12_readField_91 : decode cX12_readField 91 = .ok (.ifCond .ne 5, 3) := by decide +kernel
theorem dX12_readField_94 : decode cX12_readField 94 = .ok (.iconst 0, 1) := by decide +kernel
theorem dX12_readField_95 : decode cX12_readField 95 = .ok (.ireturn, 1) := by decide +kernel
theorem dX12_readField_96 : decode cX12_readField 96 = .ok (.aload_n 0, 1) := by decide +kernel
theorem dX12_readField_97 : decode cX12_readField 97 = .ok (.getfield 34, 3) := by decide +kernel
theorem dX12_readField_100 : decode cX12_readField 100 = .ok (.iload_n 1, 1) := by decide +kernel
theorem dX12_readField_101 : decode cX12_readField 101 = .ok (.aload_n 0, 1) := by decide +kernel
theorem dX12_readField_102 : decode cX12_readField 102 = .ok (.getfield 191, 3) := by decide +kernel
theorem dX12_readField_105 : decode cX12_readField 105 = .ok (.iastore, 1) := by decide +kernel
theorem dX12_readField_106 : decode cX12_readField 106 = .ok (.aload_n 0, 1) := by decide +kernel
theorem dX12_readField_107 : decode cX12_readField 107 = .ok (.bipush 58, 2) := by decide +kernel
theorem dX12_readField_109 : decode cX12_readField 109 = .ok (.invokevirtual 214, 3) := by decide +kernel
theorem dX12_readField_112 : decode cX12_readField 112 = .ok (.ifCond .eq 10, 3) := by decide +kernel
theorem dX12_readField_115 : decode cX12_readField 115 = .ok (.aload_n 0, 1) := by decide +kernel
theorem dX12_readField_116 : decode cX12_readField 116 = .ok (.invokevirtual 211, 3) := by decide +kernel
theorem dX12_readField_119 : decode cX12_readField 119 = .ok (.ifCond .ne 5, 3) := by decide +kernel
theorem dX12_readField_122 : decode cX12_readField 122 = .ok (.iconst 0, 1) := by decide +kernel
theorem dX12_readField_123 : decode cX12_readField 123 = .ok (.ireturn, 1) := by decide +kernel
theorem dX12_readField_124 : decode cX12_readField 124 = .ok (.aload_n 0, 1) := by decide +kernel
theorem dX12_readField_125 : decode cX12_readField 125 = .ok (.getfield 37, 3) := by decide +kernel
theorem dX12_readField_128 : decode cX12_readField 128 = .ok (.iload_n 1, 1) := by decide +kernel
theorem dX12_readField_129 : decode cX12_readField 129 = .ok (.aload_n 0, 1) := by decide +kernel
theorem dX12_readField_130 : decode cX12_readField 130 = .ok (.getfield 191, 3) := by decide +kernel
theorem dX12_readField_133 : decode cX12_readField 133 = .ok (.iastore, 1) := by decide +kernel
theorem dX12_readField_134 : decode cX12_readField 134 = .ok (.aload_n 0, 1) := by decide +kernel
theorem dX12_readField_135 : decode cX12_readField 135 = .ok (.getfield 40, 3) := by decide +kernel
theorem dX12_readField_138 : decode cX12_readField 138 = .ok (.iload_n 1, 1) := by decide +kernel
theorem dX12_readField_139 : decode cX12_readField 139 = .ok (.iconst 0, 1) := by decide +kernel
theorem dX12_readField_140 : decode cX12_readField 140 = .ok (.iastore, 1) := by decide +kernel
theorem dX12_readField_141 : decode cX12_readField 141 = .ok (.aload_n 0, 1) := by decide +kernel
theorem dX12_readField_142 : decode cX12_readField 142 = .ok (.invokevirtual 179, 3) := by decide +kernel
theorem dX12_readField_145 : decode cX12_readField 145 = .ok (.bipush 61, 2) := by decide +kernel
theorem dX12_readField_147 : decode cX12_readField 147 = .ok (.if_icmp .ne 34, 3) := by decide +kernel
theorem dX12_readField_150 : decode cX12_readField 150 = .ok (.aload_n 0, 1) := by decide +kernel
theorem dX12_readField_151 : decode cX12_readField 151 = .ok (.dup, 1) := by decide +kernel
theorem dX12_readField_152 : decode cX12_readField 152 = .ok (.getfield 170, 3) := by decide +kernel
theorem dX12_readField_155 : decode cX12_readField 155 = .ok (.iconst 1, 1) := by decide +kernel
theorem dX12_readField_156 : decode cX12_readField 156 = .ok (.iadd, 1) := by decide +kernel
theorem dX12_readField_157 : decode cX12_readField 157 = .ok (.putfield 170, 3) := by decide +kernel
theorem dX12_readField_160 : decode cX12_readField 160 = .ok (.aload_n 0, 1) := by decide +kernel
theorem dX12_readField_161 : decode cX12_readField 161 = .ok (.iconst 1, 1) := by decide +kernel
theorem dX12_readField_162 : decode cX12_readField 162 = .ok (.iconst 4, 1) := by decide +kernel
theorem dX12_readField_163 : decode cX12_readField 163 = .ok (.invokevirtual 217, 3) := by decide +kernel
theorem dX12_readField_166 : decode cX12_readField 166 = .ok (.ifCond .ne 5, 3) := by decide +kernel
theorem dX12_readField_169 : decode cX12_readField 169 = .ok (.iconst 0, 1) := by decide +kernel
theorem dX12_readField_170 : decode cX12_readField 170 = .ok (.ireturn, 1) := by decide +kernel
theorem dX12_readField_171 : decode cX12_readField 171 = .ok (.aload_n 0, 1) := by decide +kernel
theorem dX12_readField_172 : decode cX12_readField 172 = .ok (.getfield 40, 3) := by decide +kernel
theorem dX12_readField_175 : decode cX12_readField 175 = .ok (.iload_n 1, 1) := by decide +kernel
theorem dX12_readField_176 : decode cX12_readField 176 = .ok (.aload_n 0, 1) := by decide +kernel
theorem dX12_readField_177 : decode cX12_readField 177 = .ok (.getfield 191, 3) := by decide +kernel
theorem dX12_readField_180 : decode cX12_readField 180 = .ok (.iastore, 1) := by decide +kernel
theorem dX12_readField_181 : decode cX12_readField 181 = .ok (.aload_n 0, 1) := by decide +kernel
theorem dX12_readField_182 : decode cX12_readField 182 = .ok (.dup, 1) := by decide +kernel
theorem dX12_readField_183 : decode cX12_readField 183 = .ok (.getfield 198, 3) := by decide +kernel
theorem dX12_readField_186 : decode cX12_readField 186 = .ok (.iconst 1, 1) := by decide +kernel
theorem dX12_readField_187 : decode cX12_readField 187 = .ok (.iadd, 1) := by decide +kernel
theorem dX12_readField_188 : decode cX12_readField 188 = .ok (.putfield 198, 3) := by decide +kernel
theorem dX12_readField_191 : decode cX12_readField 191 = .ok (.aload_n 0, 1) := by decide +kernel
theorem dX12_readField_192 : decode cX12_readField 192 = .ok (.bipush 59, 2) := by decide +kernel
theorem dX12_readField_194 : decode cX12_readField 194 = .ok (.invokevirtual 214, 3) := by decide +kernel
theorem dX12_readField_197 : decode cX12_readField 197 = .ok (.ireturn, 1) := by decide +kernel
theorem dX12_readRegister_0 : decode cX12_readRegister 0 = .ok (.aload_n 0, 1) := by decide +kernel
theorem dX12_readRegister_1 : decode cX12_readRegister 1 = .ok (.getfield 201, 3) := by decide +kernel
theorem dX12_readRegister_4 : decode cX12_readRegister 4 = .ok (.istore_n 1, 1) := by decide +kernel
theorem dX12_readRegister_5 : decode cX12_readRegister 5 = .ok (.aload_n 0, 1) := by decide +kernel
theorem dX12_readRegister_6 : decode cX12_readRegister 6 = .ok (.getfield 22, 3) := by decide +kernel
theorem dX12_readRegister_9 : decode cX12_readRegister 9 = .ok (.iload_n 1, 1) := by decide +kernel
theorem dX12_readRegister_10 : decode cX12_readRegister 10 = .ok (.aload_n 0, 1) := by decide +kernel
theorem dX12_readRegister_11 : decode cX12_readRegister 11 = .ok (.getfield 170, 3) := by decide +kernel
theorem dX12_readRegister_14 : decode cX12_readRegister 14 = .ok (.iastore, 1) := by decide +kernel
theorem dX12_readRegister_15 : decode cX12_readRegister 15 = .ok (.iload_n 1, 1) := by decide +kernel
theorem dX12_readRegister_16 : decode cX12_readRegister 16 = .ok (.bipush 16, 2) := by decide +kernel
theorem dX12_readRegister_18 : decode cX12_readRegister 18 = .ok (.if_icmp .ne 13, 3) := by decide +kernel
theorem dX12_readRegister_21 : decode cX12_readRegister 21 = .ok (.aload_n 0, 1) := by decide +kernel
theorem dX12_readRegister_22 : decode cX12_readRegister 22 = .ok (.iconst 1, 1) := by decide +kernel
theorem dX12_readRegister_23 : decode cX12_readRegister 23 = .ok (.aload_n 0, 1) := by decide +kernel
theorem dX12_readRegister_24 : decode cX12_readRegister 24 = .ok (.getfield 170, 3) := by decide +kernel
theorem dX12_readRegister_27 : decode cX12_readRegister 27 = .ok (.invokevirtual 183, 3) := by decide +kernel
theorem dX12_readRegister_30 : decode cX12_readRegister 30 = .ok (.ireturn, 1) := by decide +kernel
theorem dX12_readRegister_31 : decode cX12_readRegister 31 = .ok (.aload_n 0, 1) := by decide +kernel
theorem dX12_readRegister_32 : decode cX12_readRegister 32 = .ok (.bipush 64, 2) := by decide +kernel
theorem dX12_readRegister_34 : decode cX12_readRegister 34 = .ok (.invokevirtual 214, 3) := by decide +kernel
theorem dX12_readRegister_37 : decode cX12_readRegister 37 = .ok (.ifCond .eq 12, 3) := by decide +kernel
theorem dX12_readRegister_40 : decode cX12_readRegister 40 = .ok (.aload_n 0, 1) := by decide +kernel
theorem dX12_readRegister_41 : decode cX12_readRegister 41 = .ok (.iconst 2, 1) := by decide +kernel
theorem dX12_readRegister_42 : decode cX12_readRegister 42 = .ok (.iconst 2, 1) := by decide +kernel
theorem dX12_readRegister_43 : decode cX12_readRegister 43 = .ok (.invokevirtual 217, 3) := by decide +kernel
theorem dX12_readRegister_46 : decode cX12_readRegister 46 = .ok (.ifCond .ne 5, 3) := by decide +kernel
theorem dX12_readRegister_49 : decode cX12_readRegister 49 = .ok (.iconst 0, 1) := by decide +kernel
theorem dX12_readRegister_50 : decode cX12_readRegister 50 = .ok (.ireturn, 1) := by decide +kernel
theorem dX12_readRegister_51 : decode cX12_readRegister 51 = .ok (.aload_n 0, 1) := by decide +kernel
theorem dX12_readRegister_52 : decode cX12_readRegister 52 = .ok (.getfield 13, 3) := by decide +kernel
theorem dX12_readRegister_55 : decode cX12_readRegister 55 = .ok (.iload_n 1, 1) := by decide +kernel
theorem dX12_readRegister_56 : decode cX12_readRegister 56 = .ok (.aload_n 0, 1) := by decide +kernel
theorem dX12_readRegister_57 : decode cX12_readRegister 57 = .ok (.getfield 191, 3) := by decide +kernel
theorem dX12_readRegister_60 : decode cX12_readRegister 60 = .ok (.iastore, 1) := by decide +kernel
theorem dX12_readRegister_61 : decode cX12_readRegister 61 = .ok (.aload_n 0, 1) := by decide +kernel
theorem dX12_readRegister_62 : decode cX12_readRegister 62 = .ok (.getfield 16, 3) := by decide +kernel
theorem dX12_readRegister_65 : decode cX12_readRegister 65 = .ok (.iload_n 1, 1) := by decide +kernel
theorem dX12_readRegister_66 : decode cX12_readRegister 66 = .ok (.iconst (-1), 1) := by decide +kernel
theorem dX12_readRegister_67 : decode cX12_readRegister 67 = .ok (.iastore, 1) := by decide +kernel
theorem dX12_readRegister_68 : decode cX12_readRegister 68 = .ok (.aload_n 0, 1) := by decide +kernel
theorem dX12_readRegister_69 : decode cX12_readRegister 69 = .ok (.invokevirtual 179, 3) := by decide +kernel
theorem dX12_readRegister_72 : decode cX12_readRegister 72 = .ok (.bipush 63, 2) := by decide +kernel
theorem dX12_readRegister_74 : decode cX12_readRegister 74 = .ok (.if_icmp .ne 73, 3) := by decide +kernel
theorem dX12_readRegister_77 : decode cX12_readRegister 77 = .ok (.aload_n 0, 1) := by decide +kernel
theorem dX12_readRegister_78 : decode cX12_readRegister 78 = .ok (.dup, 1) := by decide +kernel
theorem dX12_readRegister_79 : decode cX12_readRegister 79 = .ok (.getfield 170, 3) := by decide +kernel
theorem dX12_readRegister_82 : decode cX12_readRegister 82 = .ok (.iconst 1, 1) := by decide +kernel
theorem dX12_readRegister_83 : decode cX12_readRegister 83 = .ok (.iadd, 1) := by decide +kernel
theorem dX12_readRegister_84 : decode cX12_readRegister 84 = .ok (.putfield 170, 3) := by decide +kernel
theorem dX12_readRegister_87 : decode cX12_readRegister 87 = .ok (.aload_n 0, 1) := by decide +kernel
theorem dX12_readRegister_88 : decode cX12_readRegister 88 = .ok (.getfield 25, 3) := by decide +kernel
theorem dX12_readRegister_91 : decode cX12_readRegister 91 = .ok (.iload_n 1, 1) := by decide +kernel
theorem dX12_readRegister_92 : decode cX12_readRegister 92 = .ok (.aload_n 0, 1) := by decide +kernel
theorem dX12_readRegister_93 : decode cX12_readRegister 93 = .ok (.getfield 170, 3) := by decide +kernel
theorem dX12_readRegister_96 : decode cX12_readRegister 96 = .ok (.iastore, 1) := by decide +kernel
theorem dX12_readRegister_97 : decode cX12_readRegister 97 = .ok (.aload_n 0, 1) := by decide +kernel
theorem dX12_readRegister_98 : decode cX12_readRegister 98 = .ok (.getfield 16, 3) := by decide +kernel
theorem dX12_readRegister_101 : decode cX12_readRegister 101 = .ok (.iload_n 1, 1) := by decide +kernel
theorem dX12_readRegister_102 : decode cX12_readRegister 102 = .ok (.aload_n 0, 1) := by decide +kernel
theorem dX12_readRegister_103 : decode cX12_readRegister 103 = .ok (.invokevirtual 179, 3) := by decide +kernel
theorem dX12_readRegister_106 : decode cX12_readRegister 106 = .ok (.bipush 65, 2) := by decide +kernel
theorem dX12_readRegister_108 : decode cX12_readRegister 108 = .ok (.isub, 1) := by decide +kernel
theorem dX12_readRegister_109 : decode cX12_readRegister 109 = .ok (.iastore, 1) := by decide +kernel
theorem dX12_readRegister_110 : decode cX12_readRegister 110 = .ok (.aload_n 0, 1) := by decide +kernel
theorem dX12_readRegister_111 : decode cX12_readRegister 111 = .ok (.invokevirtual 204, 3) := by decide +kernel
theorem dX12_readRegister_114 : decode cX12_readRegister 114 = .ok (.ifCond .eq 21, 3) := by decide +kernel
theorem dX12_readRegister_117 : decode cX12_readRegister 117 = .ok (.aload_n 0, 1) := by decide +kernel
theorem dX12_readRegister_118 : decode cX12_readRegister 118 = .ok (.bipush 61, 2) := by decide +kernel
theorem dX12_readRegister_120 : decode cX12_readRegister 120 = .ok (.invokevirtual 214, 3) := by decide +kernel
theorem dX12_readRegister_123 : decode cX12_readRegister 123 = .ok (.ifCond .eq 12, 3) := by decide +kernel
theorem dX12_readRegister_126 : decode cX12_readRegister 126 = .ok (.aload_n 0, 1) := by decide +kernel
theorem dX12_readRegister_127 : decode cX12_readRegister 127 = .ok (.iconst 1, 1) := by decide +kernel
theorem dX12_readRegister_128 : decode cX12_readRegister 128 = .ok (.iconst 1, 1) := by decide +kernel
theorem dX12_readRegister_129 : decode cX12_readRegister 129 = .ok (.invokevirtual 217, 3) := by decide +kernel
theorem dX12_readRegister_132 : decode cX12_readRegister 132 = .ok (.ifCond .ne 5, 3) := by decide +kernel
theorem dX12_readRegister_135 : decode cX12_readRegister 135 = .ok (.iconst 0, 1) := by decide +kernel
theorem dX12_readRegister_136 : decode cX12_readRegister 136 = .ok (.ireturn, 1) := by decide +kernel
theorem dX12_readRegister_137 : decode cX12_readRegister 137 = .ok (.aload_n 0, 1) := by decide +kernel
theorem dX12_readRegister_138 : decode cX12_readRegister 138 = .ok (.getfield 19, 3) := by decide +kernel
theorem dX12_readRegister_141 : decode cX12_readRegister 141 = .ok (.iload_n 1, 1) := by decide +kernel
theorem dX12_readRegister_142 : decode cX12_readRegister 142 = .ok (.aload_n 0, 1) := by decide +kernel
theorem dX12_readRegister_143 : decode cX12_readRegister 143 = .ok (.getfield 191, 3) := by decide +kernel
theorem dX12_readRegister_146 : decode cX12_readRegister 146 = .ok (.iastore, 1) := by decide +kernel
theorem dX12_readRegister_147 : decode cX12_readRegister 147 = .ok (.aload_n 0, 1) := by decide +kernel
theorem dX12_readRegister_148 : decode cX12_readRegister 148 = .ok (.bipush 123, 2) := by decide +kernel
theorem dX12_readRegister_150 : decode cX12_readRegister 150 = .ok (.invokevirtual 214, 3) := by decide +kernel
theorem dX12_readRegister_153 : decode cX12_readRegister 153 = .ok (.ifCond .ne 5, 3) := by decide +kernel
theorem dX12_readRegister_156 : decode cX12_readRegister 156 = .ok (.iconst 0, 1) := by decide +kernel
theorem dX12_readRegister_157 : decode cX12_readRegister 157 = .ok (.ireturn, 1) := by decide +kernel
theorem dX12_readRegister_158 : decode cX12_readRegister 158 = .ok (.aload_n 0, 1) := by decide +kernel
theorem dX12_readRegister_159 : decode cX12_readRegister 159 = .ok (.getfield 198, 3) := by decide +kernel
theorem dX12_readRegister_162 : decode cX12_readRegister 162 = .ok (.istore_n 2, 1) := by decide +kernel
theorem dX12_readRegister_163 : decode cX12_readRegister 163 = .ok (.iconst 1, 1) := by decide +kernel
theorem dX12_readRegister_164 : decode cX12_readRegister 164 = .ok (.istore_n 3, 1) := by decide +kernel
theorem dX12_readRegister_165 : decode cX12_readRegister 165 = .ok (.iload_n 3, 1) := by decide +kernel
theorem dX12_readRegister_166 : decode cX12_readRegister 166 = .ok (.ifCond .eq 41, 3) := by decide +kernel
theorem dX12_readRegister_169 : decode cX12_readRegister 169 = .ok (.aload_n 0, 1) := by decide +kernel
theorem dX12_readRegister_170 : decode cX12_readRegister 170 = .ok (.invokevirtual 220, 3) := by decide +kernel
theorem dX12_readRegister_173 : decode cX12_readRegister 173 = .ok (.ifCond .ne 5, 3) := by decide +kernel
theorem dX12_readRegister_176 : decode cX12_readRegister 176 = .ok (.iconst 0, 1) := by decide +kernel
theorem dX12_readRegister_177 : decode cX12_readRegister 177 = .ok (.ireturn, 1) := by decide +kernel
theorem dX12_readRegister_178 : decode cX12_readRegister 178 = .ok (.aload_n 0, 1) := by decide +kernel
theorem dX12_readRegister_179 : decode cX12_readRegister 179 = .ok (.invokevirtual 179, 3) := by decide +kernel
theorem dX12_readRegister_182 : decode cX12_readRegister 182 = .ok (.bipush 125, 2) := by decide +kernel
theorem dX12_readRegister_184 : decode cX12_readRegister 184 = .ok (.if_icmp .eq 18, 3) := by decide +kernel
theorem dX12_readRegister_187 : decode cX12_readRegister 187 = .ok (.aload_n 0, 1) := by decide +kernel
theorem dX12_readRegister_188 : decode cX12_readRegister 188 = .ok (.getfield 198, 3) := by decide +kernel
theorem dX12_readRegister_191 : decode cX12_readRegister 191 = .ok (.iload_n 2, 1) := by decide +kernel
theorem dX12_readRegister_192 : decode cX12_readRegister 192 = .ok (.isub, 1) := by decide +kernel
theorem dX12_readRegister_193 : decode cX12_readRegister 193 = .ok (.bipush 8, 2) := by decide +kernel
theorem dX12_readRegister_195 : decode cX12_readRegister 195 = .ok (.if_icmp .ge 7, 3) := by decide +kernel
theorem dX12_readRegister_198 : decode cX12_readRegister 198 = .ok (.iconst 1, 1) := by decide +kernel
theorem dX12_readRegister_199 : decode cX12_readRegister 199 = .ok (.goto 4, 3) := by decide +kernel
theorem dX12_readRegister_202 : decode cX12_readRegister 202 = .ok (.iconst 0, 1) := by decide +kernel
