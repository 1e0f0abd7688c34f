theorem dX9_addRegister_112 : decode cX9_addRegister 112 = .ok (.getfield 18, 3) := by decide +kernel
theorem dX9_addRegister_115 : decode cX9_addRegister 115 = .ok (.getfield 94, 3) := by decide +kernel
theorem dX9_addRegister_118 : decode cX9_addRegister 118 = .ok (.iload_n 2, 1) := by decide +kernel
theorem dX9_addRegister_119 : decode cX9_addRegister 119 = .ok (.iaload, 1) := by decide +kernel
theorem dX9_addRegister_120 : decode cX9_addRegister 120 = .ok (.iconst (-1), 1) := by decide +kernel
theorem dX9_addRegister_121 : decode cX9_addRegister 121 = .ok (.ixor, 1) := by decide +kernel
theorem dX9_addRegister_122 : decode cX9_addRegister 122 = .ok (.iand, 1) := by decide +kernel
theorem dX9_addRegister_123 : decode cX9_addRegister 123 = .ok (.ifCond .ne 7, 3) := by decide +kernel
theorem dX9_addRegister_126 : decode cX9_addRegister 126 = .ok (.iconst 1, 1) := by decide +kernel
theorem dX9_addRegister_127 : decode cX9_addRegister 127 = .ok (.goto 4, 3) := by decide +kernel
theorem dX9_addRegister_130 : decode cX9_addRegister 130 = .ok (.iconst 0, 1) := by decide +kernel
theorem dX9_addRegister_131 : decode cX9_addRegister 131 = .ok (.istore 5, 2) := by decide +kernel
theorem dX9_addRegister_133 : decode cX9_addRegister 133 = .ok (.iload 5, 2) := by decide +kernel
theorem dX9_addRegister_135 : decode cX9_addRegister 135 = .ok (.ifCond .eq 20, 3) := by decide +kernel
theorem dX9_addRegister_138 : decode cX9_addRegister 138 = .ok (.aload_n 0, 1) := by decide +kernel
theorem dX9_addRegister_139 : decode cX9_addRegister 139 = .ok (.getfield 27, 3) := by decide +kernel
theorem dX9_addRegister_142 : decode cX9_addRegister 142 = .ok (.getfield 97, 3) := by decide +kernel
theorem dX9_addRegister_145 : decode cX9_addRegister 145 = .ok (.iload_n 2, 1) := by decide +kernel
theorem dX9_addRegister_146 : decode cX9_addRegister 146 = .ok (.iaload, 1) := by decide +kernel
theorem dX9_addRegister_147 : decode cX9_addRegister 147 = .ok (.iload_n 3, 1) := by decide +kernel
theorem dX9_addRegister_148 : decode cX9_addRegister 148 = .ok (.iand, 1) := by decide +kernel
theorem dX9_addRegister_149 : decode cX9_addRegister 149 = .ok (.iload 4, 2) := by decide +kernel
theorem dX9_addRegister_151 : decode cX9_addRegister 151 = .ok (.if_icmp .ne 4, 3) := by decide +kernel
theorem dX9_addRegister_154 : decode cX9_addRegister 154 = .ok (.return_, 1) := by decide +kernel
theorem dX9_addRegister_155 : decode cX9_addRegister 155 = .ok (.aload_n 0, 1) := by decide +kernel
theorem dX9_addRegister_156 : decode cX9_addRegister 156 = .ok (.iload_n 2, 1) := by decide +kernel
theorem dX9_addRegister_157 : decode cX9_addRegister 157 = .ok (.invokevirtual 58, 3) := by decide +kernel
theorem dX9_addRegister_160 : decode cX9_addRegister 160 = .ok (.aload_n 0, 1) := by decide +kernel
theorem dX9_addRegister_161 : decode cX9_addRegister 161 = .ok (.iload_n 2, 1) := by decide +kernel
theorem dX9_addRegister_162 : decode cX9_addRegister 162 = .ok (.iload_n 3, 1) := by decide +kernel
theorem dX9_addRegister_163 : decode cX9_addRegister 163 = .ok (.iload 4, 2) := by decide +kernel
theorem dX9_addRegister_165 : decode cX9_addRegister 165 = .ok (.invokevirtual 68, 3) := by decide +kernel
theorem dX9_addRegister_168 : decode cX9_addRegister 168 = .ok (.return_, 1) := by decide +kernel
theorem dX9_addTold_0 : decode cX9_addTold 0 = .ok (.aload_n 0, 1) := by decide +kernel
theorem dX9_addTold_1 : decode cX9_addTold 1 = .ok (.getfield 42, 3) := by decide +kernel
theorem dX9_addTold_4 : decode cX9_addTold 4 = .ok (.ifCond .ne 12, 3) := by decide +kernel
theorem dX9_addTold_7 : decode cX9_addTold 7 = .ok (.aload_n 0, 1) := by decide +kernel
theorem dX9_addTold_8 : decode cX9_addTold 8 = .ok (.getfield 38, 3) := by decide +kernel
theorem dX9_addTold_11 : decode cX9_addTold 11 = .ok (.bipush 16, 2) := by decide +kernel
theorem dX9_addTold_13 : decode cX9_addTold 13 = .ok (.if_icmp .lt 4, 3) := by decide +kernel
theorem dX9_addTold_16 : decode cX9_addTold 16 = .ok (.return_, 1) := by decide +kernel
theorem dX9_addTold_17 : decode cX9_addTold 17 = .ok (.aload_n 0, 1) := by decide +kernel
theorem dX9_addTold_18 : decode cX9_addTold 18 = .ok (.getfield 27, 3) := by decide +kernel
theorem dX9_addTold_21 : decode cX9_addTold 21 = .ok (.getfield 97, 3) := by decide +kernel
theorem dX9_addTold_24 : decode cX9_addTold 24 = .ok (.iload_n 1, 1) := by decide +kernel
theorem dX9_addTold_25 : decode cX9_addTold 25 = .ok (.iaload, 1) := by decide +kernel
theorem dX9_addTold_26 : decode cX9_addTold 26 = .ok (.iload_n 2, 1) := by decide +kernel
theorem dX9_addTold_27 : decode cX9_addTold 27 = .ok (.iconst (-1), 1) := by decide +kernel
theorem dX9_addTold_28 : decode cX9_addTold 28 = .ok (.ixor, 1) := by decide +kernel
theorem dX9_addTold_29 : decode cX9_addTold 29 = .ok (.iand, 1) := by decide +kernel
theorem dX9_addTold_30 : decode cX9_addTold 30 = .ok (.iload_n 3, 1) := by decide +kernel
theorem dX9_addTold_31 : decode cX9_addTold 31 = .ok (.ior, 1) := by decide +kernel
theorem dX9_addTold_32 : decode cX9_addTold 32 = .ok (.istore 4, 2) := by decide +kernel
theorem dX9_addTold_34 : decode cX9_addTold 34 = .ok (.aload_n 0, 1) := by decide +kernel
theorem dX9_addTold_35 : decode cX9_addTold 35 = .ok (.getfield 27, 3) := by decide +kernel
theorem dX9_addTold_38 : decode cX9_addTold 38 = .ok (.iload_n 1, 1) := by decide +kernel
theorem dX9_addTold_39 : decode cX9_addTold 39 = .ok (.iload 4, 2) := by decide +kernel
theorem dX9_addTold_41 : decode cX9_addTold 41 = .ok (.invokevirtual 107, 3) := by decide +kernel
theorem dX9_addTold_44 : decode cX9_addTold 44 = .ok (.istore 5, 2) := by decide +kernel
theorem dX9_addTold_46 : decode cX9_addTold 46 = .ok (.iload 5, 2) := by decide +kernel
theorem dX9_addTold_48 : decode cX9_addTold 48 = .ok (.ifCond .eq 15, 3) := by decide +kernel
theorem dX9_addTold_51 : decode cX9_addTold 51 = .ok (.aload_n 0, 1) := by decide +kernel
theorem dX9_addTold_52 : decode cX9_addTold 52 = .ok (.iconst 1, 1) := by decide +kernel
theorem dX9_addTold_53 : decode cX9_addTold 53 = .ok (.iload 5, 2) := by decide +kernel
theorem dX9_addTold_55 : decode cX9_addTold 55 = .ok (.invokestatic 111, 3) := by decide +kernel
theorem dX9_addTold_58 : decode cX9_addTold 58 = .ok (.iadd, 1) := by decide +kernel
theorem dX9_addTold_59 : decode cX9_addTold 59 = .ok (.putfield 42, 3) := by decide +kernel
theorem dX9_addTold_62 : decode cX9_addTold 62 = .ok (.return_, 1) := by decide +kernel
theorem dX9_addTold_63 : decode cX9_addTold 63 = .ok (.aload_n 0, 1) := by decide +kernel
theorem dX9_addTold_64 : decode cX9_addTold 64 = .ok (.getfield 27, 3) := by decide +kernel
theorem dX9_addTold_67 : decode cX9_addTold 67 = .ok (.iload_n 1, 1) := by decide +kernel
theorem dX9_addTold_68 : decode cX9_addTold 68 = .ok (.iload 4, 2) := by decide +kernel
theorem dX9_addTold_70 : decode cX9_addTold 70 = .ok (.invokevirtual 116, 3) := by decide +kernel
theorem dX9_addTold_73 : decode cX9_addTold 73 = .ok (.aload_n 0, 1) := by decide +kernel
theorem dX9_addTold_74 : decode cX9_addTold 74 = .ok (.getfield 11, 3) := by decide +kernel
theorem dX9_addTold_77 : decode cX9_addTold 77 = .ok (.aload_n 0, 1) := by decide +kernel
theorem dX9_addTold_78 : decode cX9_addTold 78 = .ok (.getfield 38, 3) := by decide +kernel
theorem dX9_addTold_81 : decode cX9_addTold 81 = .ok (.iload_n 1, 1) := by decide +kernel
theorem dX9_addTold_82 : decode cX9_addTold 82 = .ok (.iastore, 1) := by decide +kernel
theorem dX9_addTold_83 : decode cX9_addTold 83 = .ok (.aload_n 0, 1) := by decide +kernel
theorem dX9_addTold_84 : decode cX9_addTold 84 = .ok (.getfield 15, 3) := by decide +kernel
theorem dX9_addTold_87 : decode cX9_addTold 87 = .ok (.aload_n 0, 1) := by decide +kernel
theorem dX9_addTold_88 : decode cX9_addTold 88 = .ok (.getfield 38, 3) := by decide +kernel
theorem dX9_addTold_91 : decode cX9_addTold 91 = .ok (.iload 4, 2) := by decide +kernel
theorem dX9_addTold_93 : decode cX9_addTold 93 = .ok (.iastore, 1) := by decide +kernel
theorem dX9_addTold_94 : decode cX9_addTold 94 = .ok (.aload_n 0, 1) := by decide +kernel
theorem dX9_addTold_95 : decode cX9_addTold 95 = .ok (.dup, 1) := by decide +kernel
theorem dX9_addTold_96 : decode cX9_addTold 96 = .ok (.getfield 38, 3) := by decide +kernel
theorem dX9_addTold_99 : decode cX9_addTold 99 = .ok (.iconst 1, 1) := by decide +kernel
theorem dX9_addTold_100 : decode cX9_addTold 100 = .ok (.iadd, 1) := by decide +kernel
theorem dX9_addTold_101 : decode cX9_addTold 101 = .ok (.putfield 38, 3) := by decide +kernel
theorem dX9_addTold_104 : decode cX9_addTold 104 = .ok (.return_, 1) := by decide +kernel
theorem dX9_begin_0 : decode cX9_begin 0 = .ok (.aload_n 0, 1) := by decide +kernel
theorem dX9_begin_1 : decode cX9_begin 1 = .ok (.getfield 27, 3) := by decide +kernel
theorem dX9_begin_4 : decode cX9_begin 4 = .ok (.aload_n 1, 1) := by decide +kernel
theorem dX9_begin_5 : decode cX9_begin 5 = .ok (.invokevirtual 31, 3) := by decide +kernel
theorem dX9_begin_8 : decode cX9_begin 8 = .ok (.aload_n 0, 1) := by decide +kernel
theorem dX9_begin_9 : decode cX9_begin 9 = .ok (.invokevirtual 35, 3) := by decide +kernel
theorem dX9_begin_12 : decode cX9_begin 12 = .ok (.return_, 1) := by decide +kernel
theorem dX9_beginHere_0 : decode cX9_beginHere 0 = .ok (.aload_n 0, 1) := by decide +kernel
theorem dX9_beginHere_1 : decode cX9_beginHere 1 = .ok (.iconst 0, 1) := by decide +kernel
theorem dX9_beginHere_2 : decode cX9_beginHere 2 = .ok (.putfield 38, 3) := by decide +kernel
theorem dX9_beginHere_5 : decode cX9_beginHere 5 = .ok (.aload_n 0, 1) := by decide +kernel
theorem dX9_beginHere_6 : decode cX9_beginHere 6 = .ok (.iconst 0, 1) := by decide +kernel
theorem dX9_beginHere_7 : decode cX9_beginHere 7 = .ok (.putfield 42, 3) := by decide +kernel
theorem dX9_beginHere_10 : decode cX9_beginHere 10 = .ok (.return_, 1) := by decide +kernel
theorem dX9_isFirstOfRegister_0 : decode cX9_isFirstOfRegister 0 = .ok (.aload_n 0, 1) := by decide +kernel
theorem dX9_isFirstOfRegister_1 : decode cX9_isFirstOfRegister 1 = .ok (.getfield 18, 3) := by decide +kernel
theorem dX9_isFirstOfRegister_4 : decode cX9_isFirstOfRegister 4 = .ok (.getfield 55, 3) := by decide +kernel
theorem dX9_isFirstOfRegister_7 : decode cX9_isFirstOfRegister 7 = .ok (.aload_n 1, 1) := by decide +kernel
theorem dX9_isFirstOfRegister_8 : decode cX9_isFirstOfRegister 8 = .ok (.getfield 84, 3) := by decide +kernel
theorem dX9_isFirstOfRegister_11 : decode cX9_isFirstOfRegister 11 = .ok (.iload_n 2, 1) := by decide +kernel
theorem dX9_isFirstOfRegister_12 : decode cX9_isFirstOfRegister 12 = .ok (.iaload, 1) := by decide +kernel
theorem dX9_isFirstOfRegister_13 : decode cX9_isFirstOfRegister 13 = .ok (.iaload, 1) := by decide +kernel
theorem dX9_isFirstOfRegister_14 : decode cX9_isFirstOfRegister 14 = .ok (.istore_n 3, 1) := by decide +kernel
theorem dX9_isFirstOfRegister_15 : decode cX9_isFirstOfRegister 15 = .ok (.iconst 0, 1) := by decide +kernel
theorem dX9_isFirstOfRegister_16 : decode cX9_isFirstOfRegister 16 = .ok (.istore 4, 2) := by decide +kernel
theorem dX9_isFirstOfRegister_18 : decode cX9_isFirstOfRegister 18 = .ok (.iload 4, 2) := by decide +kernel
theorem dX9_isFirstOfRegister_20 : decode cX9_isFirstOfRegister 20 = .ok (.iload_n 2, 1) := by decide +kernel
theorem dX9_isFirstOfRegister_21 : decode cX9_isFirstOfRegister 21 = .ok (.if_icmp .ge 30, 3) := by decide +kernel
theorem dX9_isFirstOfRegister_24 : decode cX9_isFirstOfRegister 24 = .ok (.aload_n 0, 1) := by decide +kernel
theorem dX9_isFirstOfRegister_25 : decode cX9_isFirstOfRegister 25 = .ok (.getfield 18, 3) := by decide +kernel
theorem dX9_isFirstOfRegister_28 : decode cX9_isFirstOfRegister 28 = .ok (.getfield 55, 3) := by decide +kernel
theorem dX9_isFirstOfRegister_31 : decode cX9_isFirstOfRegister 31 = .ok (.aload_n 1, 1) := by decide +kernel
theorem dX9_isFirstOfRegister_32 : decode cX9_isFirstOfRegister 32 = .ok (.getfield 84, 3) := by decide +kernel
theorem dX9_isFirstOfRegister_35 : decode cX9_isFirstOfRegister 35 = .ok (.iload 4, 2) := by decide +kernel
theorem dX9_isFirstOfRegister_37 : decode cX9_isFirstOfRegister 37 = .ok (.iaload, 1) := by decide +kernel
theorem dX9_isFirstOfRegister_38 : decode cX9_isFirstOfRegister 38 = .ok (.iaload, 1) := by decide +kernel
theorem dX9_isFirstOfRegister_39 : decode cX9_isFirstOfRegister 39 = .ok (.iload_n 3, 1) := by decide +kernel
theorem dX9_isFirstOfRegister_40 : decode cX9_isFirstOfRegister 40 = .ok (.if_icmp .ne 5, 3) := by decide +kernel
theorem dX9_isFirstOfRegister_43 : decode cX9_isFirstOfRegister 43 = .ok (.iconst 0, 1) := by decide +kernel
theorem dX9_isFirstOfRegister_44 : decode cX9_isFirstOfRegister 44 = .ok (.ireturn, 1) := by decide +kernel
theorem dX9_isFirstOfRegister_45 : decode cX9_isFirstOfRegister 45 = .ok (.iinc 4 1, 3) := by decide +kernel
theorem dX9_isFirstOfRegister_48 : decode cX9_isFirstOfRegister 48 = .ok (.goto (-30), 3) := by decide +kernel
theorem dX9_isFirstOfRegister_51 : decode cX9_isFirstOfRegister 51 = .ok (.iconst 1, 1) := by decide +kernel
theorem dX9_isFirstOfRegister_52 : decode cX9_isFirstOfRegister 52 = .ok (.ireturn, 1) := by decide +kernel
