theorem dX7_addRegister_72 : decode cX7_addRegister 72 = .ok (.ixor, 1) := by decide +kernel
theorem dX7_addRegister_73 : decode cX7_addRegister 73 = .ok (.iand, 1) := by decide +kernel
theorem dX7_addRegister_74 : decode cX7_addRegister 74 = .ok (.istore 4, 2) := by decide +kernel
theorem dX7_addRegister_76 : decode cX7_addRegister 76 = .ok (.iload_n 3, 1) := by decide +kernel
theorem dX7_addRegister_77 : decode cX7_addRegister 77 = .ok (.iload 7, 2) := by decide +kernel
theorem dX7_addRegister_79 : decode cX7_addRegister 79 = .ok (.ior, 1) := by decide +kernel
theorem dX7_addRegister_80 : decode cX7_addRegister 80 = .ok (.istore_n 3, 1) := by decide +kernel
theorem dX7_addRegister_81 : decode cX7_addRegister 81 = .ok (.iload 4, 2) := by decide +kernel
theorem dX7_addRegister_83 : decode cX7_addRegister 83 = .ok (.aload_n 1, 1) := by decide +kernel
theorem dX7_addRegister_84 : decode cX7_addRegister 84 = .ok (.getfield 91, 3) := by decide +kernel
theorem dX7_addRegister_87 : decode cX7_addRegister 87 = .ok (.iload 5, 2) := by decide +kernel
theorem dX7_addRegister_89 : decode cX7_addRegister 89 = .ok (.iaload, 1) := by decide +kernel
theorem dX7_addRegister_90 : decode cX7_addRegister 90 = .ok (.aload_n 0, 1) := by decide +kernel
theorem dX7_addRegister_91 : decode cX7_addRegister 91 = .ok (.getfield 18, 3) := by decide +kernel
theorem dX7_addRegister_94 : decode cX7_addRegister 94 = .ok (.getfield 65, 3) := by decide +kernel
theorem dX7_addRegister_97 : decode cX7_addRegister 97 = .ok (.iload 6, 2) := by decide +kernel
theorem dX7_addRegister_99 : decode cX7_addRegister 99 = .ok (.iaload, 1) := by decide +kernel
theorem dX7_addRegister_100 : decode cX7_addRegister 100 = .ok (.ishl, 1) := by decide +kernel
theorem dX7_addRegister_101 : decode cX7_addRegister 101 = .ok (.ior, 1) := by decide +kernel
theorem dX7_addRegister_102 : decode cX7_addRegister 102 = .ok (.istore 4, 2) := by decide +kernel
theorem dX7_addRegister_104 : decode cX7_addRegister 104 = .ok (.iinc 5 1, 3) := by decide +kernel
theorem dX7_addRegister_107 : decode cX7_addRegister 107 = .ok (.goto (-99), 3) := by decide +kernel
theorem dX7_addRegister_110 : decode cX7_addRegister 110 = .ok (.iload_n 3, 1) := by decide +kernel
theorem dX7_addRegister_111 : decode cX7_addRegister 111 = .ok (.aload_n 0, 1) := by decide +kernel
theorem dX7_addRegister_112 : decode cX7_addRegister 112 = .ok (.getfield 18, 3) := by decide +kernel
theorem dX7_addRegister_115 : decode cX7_addRegister 115 = .ok (.getfield 94, 3) := by decide +kernel
theorem dX7_addRegister_118 : decode cX7_addRegister 118 = .ok (.iload_n 2, 1) := by decide +kernel
theorem dX7_addRegister_119 : decode cX7_addRegister 119 = .ok (.iaload, 1) := by decide +kernel
theorem dX7_addRegister_120 : decode cX7_addRegister 120 = .ok (.iconst (-1), 1) := by decide +kernel
theorem dX7_addRegister_121 : decode cX7_addRegister 121 = .ok (.ixor, 1) := by decide +kernel
theorem dX7_addRegister_122 : decode cX7_addRegister 122 = .ok (.iand, 1) := by decide +kernel
theorem dX7_addRegister_123 : decode cX7_addRegister 123 = .ok (.ifCond .ne 7, 3) := by decide +kernel
theorem dX7_addRegister_126 : decode cX7_addRegister 126 = .ok (.iconst 1, 1) := by decide +kernel
theorem dX7_addRegister_127 : decode cX7_addRegister 127 = .ok (.goto 4, 3) := by decide +kernel
theorem dX7_addRegister_130 : decode cX7_addRegister 130 = .ok (.iconst 0, 1) := by decide +kernel
theorem dX7_addRegister_131 : decode cX7_addRegister 131 = .ok (.istore 5, 2) := by decide +kernel
theorem dX7_addRegister_133 : decode cX7_addRegister 133 = .ok (.iload 5, 2) := by decide +kernel
theorem dX7_addRegister_135 : decode cX7_addRegister 135 = .ok (.ifCond .eq 20, 3) := by decide +kernel
theorem dX7_addRegister_138 : decode cX7_addRegister 138 = .ok (.aload_n 0, 1) := by decide +kernel
theorem dX7_addRegister_139 : decode cX7_addRegister 139 = .ok (.getfield 27, 3) := by decide +kernel
theorem dX7_addRegister_142 : decode cX7_addRegister 142 = .ok (.getfield 97, 3) := by decide +kernel
theorem dX7_addRegister_145 : decode cX7_addRegister 145 = .ok (.iload_n 2, 1) := by decide +kernel
theorem dX7_addRegister_146 : decode cX7_addRegister 146 = .ok (.iaload, 1) := by decide +kernel
theorem dX7_addRegister_147 : decode cX7_addRegister 147 = .ok (.iload_n 3, 1) := by decide +kernel
theorem dX7_addRegister_148 : decode cX7_addRegister 148 = .ok (.iand, 1) := by decide +kernel
theorem dX7_addRegister_149 : decode cX7_addRegister 149 = .ok (.iload 4, 2) := by decide +kernel
theorem dX7_addRegister_151 : decode cX7_addRegister 151 = .ok (.if_icmp .ne 4, 3) := by decide +kernel
theorem dX7_addRegister_154 : decode cX7_addRegister 154 = .ok (.return_, 1) := by decide +kernel
theorem dX7_addRegister_155 : decode cX7_addRegister 155 = .ok (.aload_n 0, 1) := by decide +kernel
theorem dX7_addRegister_156 : decode cX7_addRegister 156 = .ok (.iload_n 2, 1) := by decide +kernel
theorem dX7_addRegister_157 : decode cX7_addRegister 157 = .ok (.invokevirtual 58, 3) := by decide +kernel
theorem dX7_addRegister_160 : decode cX7_addRegister 160 = .ok (.aload_n 0, 1) := by decide +kernel
theorem dX7_addRegister_161 : decode cX7_addRegister 161 = .ok (.iload_n 2, 1) := by decide +kernel
theorem dX7_addRegister_162 : decode cX7_addRegister 162 = .ok (.iload_n 3, 1) := by decide +kernel
theorem dX7_addRegister_163 : decode cX7_addRegister 163 = .ok (.iload 4, 2) := by decide +kernel
theorem dX7_addRegister_165 : decode cX7_addRegister 165 = .ok (.invokevirtual 68, 3) := by decide +kernel
theorem dX7_addRegister_168 : decode cX7_addRegister 168 = .ok (.return_, 1) := by decide +kernel
theorem dX7_addTold_0 : decode cX7_addTold 0 = .ok (.aload_n 0, 1) := by decide +kernel
theorem dX7_addTold_1 : decode cX7_addTold 1 = .ok (.getfield 42, 3) := by decide +kernel
theorem dX7_addTold_4 : decode cX7_addTold 4 = .ok (.ifCond .ne 12, 3) := by decide +kernel
theorem dX7_addTold_7 : decode cX7_addTold 7 = .ok (.aload_n 0, 1) := by decide +kernel
theorem dX7_addTold_8 : decode cX7_addTold 8 = .ok (.getfield 38, 3) := by decide +kernel
theorem dX7_addTold_11 : decode cX7_addTold 11 = .ok (.bipush 16, 2) := by decide +kernel
theorem dX7_addTold_13 : decode cX7_addTold 13 = .ok (.if_icmp .lt 4, 3) := by decide +kernel
theorem dX7_addTold_16 : decode cX7_addTold 16 = .ok (.return_, 1) := by decide +kernel
theorem dX7_addTold_17 : decode cX7_addTold 17 = .ok (.aload_n 0, 1) := by decide +kernel
theorem dX7_addTold_18 : decode cX7_addTold 18 = .ok (.getfield 27, 3) := by decide +kernel
theorem dX7_addTold_21 : decode cX7_addTold 21 = .ok (.getfield 97, 3) := by decide +kernel
theorem dX7_addTold_24 : decode cX7_addTold 24 = .ok (.iload_n 1, 1) := by decide +kernel
theorem dX7_addTold_25 : decode cX7_addTold 25 = .ok (.iaload, 1) := by decide +kernel
theorem dX7_addTold_26 : decode cX7_addTold 26 = .ok (.iload_n 2, 1) := by decide +kernel
theorem dX7_addTold_27 : decode cX7_addTold 27 = .ok (.iconst (-1), 1) := by decide +kernel
theorem dX7_addTold_28 : decode cX7_addTold 28 = .ok (.ixor, 1) := by decide +kernel
theorem dX7_addTold_29 : decode cX7_addTold 29 = .ok (.iand, 1) := by decide +kernel
theorem dX7_addTold_30 : decode cX7_addTold 30 = .ok (.iload_n 3, 1) := by decide +kernel
theorem dX7_addTold_31 : decode cX7_addTold 31 = .ok (.ior, 1) := by decide +kernel
theorem dX7_addTold_32 : decode cX7_addTold 32 = .ok (.istore 4, 2) := by decide +kernel
theorem dX7_addTold_34 : decode cX7_addTold 34 = .ok (.aload_n 0, 1) := by decide +kernel
theorem dX7_addTold_35 : decode cX7_addTold 35 = .ok (.getfield 27, 3) := by decide +kernel
theorem dX7_addTold_38 : decode cX7_addTold 38 = .ok (.iload_n 1, 1) := by decide +kernel
theorem dX7_addTold_39 : decode cX7_addTold 39 = .ok (.iload 4, 2) := by decide +kernel
theorem dX7_addTold_41 : decode cX7_addTold 41 = .ok (.invokevirtual 107, 3) := by decide +kernel
theorem dX7_addTold_44 : decode cX7_addTold 44 = .ok (.istore 5, 2) := by decide +kernel
theorem dX7_addTold_46 : decode cX7_addTold 46 = .ok (.iload 5, 2) := by decide +kernel
theorem dX7_addTold_48 : decode cX7_addTold 48 = .ok (.ifCond .eq 15, 3) := by decide +kernel
theorem dX7_addTold_51 : decode cX7_addTold 51 = .ok (.aload_n 0, 1) := by decide +kernel
theorem dX7_addTold_52 : decode cX7_addTold 52 = .ok (.iconst 1, 1) := by decide +kernel
theorem dX7_addTold_53 : decode cX7_addTold 53 = .ok (.iload 5, 2) := by decide +kernel
theorem dX7_addTold_55 : decode cX7_addTold 55 = .ok (.invokestatic 111, 3) := by decide +kernel
theorem dX7_addTold_58 : decode cX7_addTold 58 = .ok (.iadd, 1) := by decide +kernel
theorem dX7_addTold_59 : decode cX7_addTold 59 = .ok (.putfield 42, 3) := by decide +kernel
theorem dX7_addTold_62 : decode cX7_addTold 62 = .ok (.return_, 1) := by decide +kernel
theorem dX7_addTold_63 : decode cX7_addTold 63 = .ok (.aload_n 0, 1) := by decide +kernel
theorem dX7_addTold_64 : decode cX7_addTold 64 = .ok (.getfield 27, 3) := by decide +kernel
theorem dX7_addTold_67 : decode cX7_addTold 67 = .ok (.iload_n 1, 1) := by decide +kernel
theorem dX7_addTold_68 : decode cX7_addTold 68 = .ok (.iload 4, 2) := by decide +kernel
theorem dX7_addTold_70 : decode cX7_addTold 70 = .ok (.invokevirtual 116, 3) := by decide +kernel
theorem dX7_addTold_73 : decode cX7_addTold 73 = .ok (.aload_n 0, 1) := by decide +kernel
theorem dX7_addTold_74 : decode cX7_addTold 74 = .ok (.getfield 11, 3) := by decide +kernel
theorem dX7_addTold_77 : decode cX7_addTold 77 = .ok (.aload_n 0, 1) := by decide +kernel
theorem dX7_addTold_78 : decode cX7_addTold 78 = .ok (.getfield 38, 3) := by decide +kernel
theorem dX7_addTold_81 : decode cX7_addTold 81 = .ok (.iload_n 1, 1) := by decide +kernel
theorem dX7_addTold_82 : decode cX7_addTold 82 = .ok (.iastore, 1) := by decide +kernel
theorem dX7_addTold_83 : decode cX7_addTold 83 = .ok (.aload_n 0, 1) := by decide +kernel
theorem dX7_addTold_84 : decode cX7_addTold 84 = .ok (.getfield 15, 3) := by decide +kernel
theorem dX7_addTold_87 : decode cX7_addTold 87 = .ok (.aload_n 0, 1) := by decide +kernel
theorem dX7_addTold_88 : decode cX7_addTold 88 = .ok (.getfield 38, 3) := by decide +kernel
theorem dX7_addTold_91 : decode cX7_addTold 91 = .ok (.iload 4, 2) := by decide +kernel
theorem dX7_addTold_93 : decode cX7_addTold 93 = .ok (.iastore, 1) := by decide +kernel
theorem dX7_addTold_94 : decode cX7_addTold 94 = .ok (.aload_n 0, 1) := by decide +kernel
theorem dX7_addTold_95 : decode cX7_addTold 95 = .ok (.dup, 1) := by decide +kernel
theorem dX7_addTold_96 : decode cX7_addTold 96 = .ok (.getfield 38, 3) := by decide +kernel
theorem dX7_addTold_99 : decode cX7_addTold 99 = .ok (.iconst 1, 1) := by decide +kernel
theorem dX7_addTold_100 : decode cX7_addTold 100 = .ok (.iadd, 1) := by decide +kernel
theorem dX7_addTold_101 : decode cX7_addTold 101 = .ok (.putfield 38, 3) := by decide +kernel
theorem dX7_addTold_104 : decode cX7_addTold 104 = .ok (.return_, 1) := by decide +kernel
theorem dX7_begin_0 : decode cX7_begin 0 = .ok (.aload_n 0, 1) := by decide +kernel
theorem dX7_begin_1 : decode cX7_begin 1 = .ok (.getfield 27, 3) := by decide +kernel
theorem dX7_begin_4 : decode cX7_begin 4 = .ok (.aload_n 1, 1) := by decide +kernel
theorem dX7_begin_5 : decode cX7_begin 5 = .ok (.invokevirtual 31, 3) := by decide +kernel
theorem dX7_begin_8 : decode cX7_begin 8 = .ok (.aload_n 0, 1) := by decide +kernel
theorem dX7_begin_9 : decode cX7_begin 9 = .ok (.invokevirtual 35, 3) := by decide +kernel
theorem dX7_begin_12 : decode cX7_begin 12 = .ok (.return_, 1) := by decide +kernel
theorem dX7_beginHere_0 : decode cX7_beginHere 0 = .ok (.aload_n 0, 1) := by decide +kernel
theorem dX7_beginHere_1 : decode cX7_beginHere 1 = .ok (.iconst 0, 1) := by decide +kernel
theorem dX7_beginHere_2 : decode cX7_beginHere 2 = .ok (.putfield 38, 3) := by decide +kernel
theorem dX7_beginHere_5 : decode cX7_beginHere 5 = .ok (.aload_n 0, 1) := by decide +kernel
theorem dX7_beginHere_6 : decode cX7_beginHere 6 = .ok (.iconst 0, 1) := by decide +kernel
theorem dX7_beginHere_7 : decode cX7_beginHere 7 = .ok (.putfield 42, 3) := by decide +kernel
theorem dX7_beginHere_10 : decode cX7_beginHere 10 = .ok (.return_, 1) := by decide +kernel
theorem dX7_isFirstOfRegister_0 : decode cX7_isFirstOfRegister 0 = .ok (.aload_n 0, 1) := by decide +kernel
theorem dX7_isFirstOfRegister_1 : decode cX7_isFirstOfRegister 1 = .ok (.getfield 18, 3) := by decide +kernel
theorem dX7_isFirstOfRegister_4 : decode cX7_isFirstOfRegister 4 = .ok (.getfield 55, 3) := by decide +kernel
theorem dX7_isFirstOfRegister_7 : decode cX7_isFirstOfRegister 7 = .ok (.aload_n 1, 1) := by decide +kernel
theorem dX7_isFirstOfRegister_8 : decode cX7_isFirstOfRegister 8 = .ok (.getfield 84, 3) := by decide +kernel
theorem dX7_isFirstOfRegister_11 : decode cX7_isFirstOfRegister 11 = .ok (.iload_n 2, 1) := by decide +kernel
theorem dX7_isFirstOfRegister_12 : decode cX7_isFirstOfRegister 12 = .ok (.iaload, 1) := by decide +kernel
theorem dX7_isFirstOfRegister_13 : decode cX7_isFirstOfRegister 13 = .ok (.iaload, 1) := by decide +kernel
theorem dX7_isFirstOfRegister_14 : decode cX7_isFirstOfRegister 14 = .ok (.istore_n 3, 1) := by decide +kernel
theorem dX7_isFirstOfRegister_15 : decode cX7_isFirstOfRegister 15 = .ok (.iconst 0, 1) := by decide +kernel
theorem dX7_isFirstOfRegister_16 : decode cX7_isFirstOfRegister 16 = .ok (.istore 4, 2) := by decide +kernel
theorem dX7_isFirstOfRegister_18 : decode cX7_isFirstOfRegister 18 = .ok (.iload 4, 2) := by decide +kernel
theorem dX7_isFirstOfRegister_20 : decode cX7_isFirstOfRegister 20 = .ok (.iload_n 2, 1) := by decide +kernel
theorem dX7_isFirstOfRegister_21 : decode cX7_isFirstOfRegister 21 = .ok (.if_icmp .ge 30, 3) := by decide +kernel
theorem dX7_isFirstOfRegister_24 : decode cX7_isFirstOfRegister 24 = .ok (.aload_n 0, 1) := by decide +kernel
theorem dX7_isFirstOfRegister_25 : decode cX7_isFirstOfRegister 25 = .ok (.getfield 18, 3) := by decide +kernel
theorem dX7_isFirstOfRegister_28 : decode cX7_isFirstOfRegister 28 = .ok (.getfield 55, 3) := by decide +kernel
theorem dX7_isFirstOfRegister_31 : decode cX7_isFirstOfRegister 31 = .ok (.aload_n 1, 1) := by decide +kernel
theorem dX7_isFirstOfRegister_32 : decode cX7_isFirstOfRegister 32 = .ok (.getfield 84, 3) := by decide +kernel
theorem dX7_isFirstOfRegister_35 : decode cX7_isFirstOfRegister 35 = .ok (.iload 4, 2) := by decide +kernel
theorem dX7_isFirstOfRegister_37 : decode cX7_isFirstOfRegister 37 = .ok (.iaload, 1) := by decide +kernel
theorem dX7_isFirstOfRegister_38 : decode cX7_isFirstOfRegister 38 = .ok (.iaload, 1) := by decide +kernel
theorem dX7_isFirstOfRegister_39 : decode cX7_isFirstOfRegister 39 = .ok (.iload_n 3, 1) := by decide +kernel
theorem dX7_isFirstOfRegister_40 : decode cX7_isFirstOfRegister 40 = .ok (.if_icmp .ne 5, 3) := by decide +kernel
theorem dX7_isFirstOfRegister_43 : decode cX7_isFirstOfRegister 43 = .ok (.iconst 0, 1) := by decide +kernel
theorem dX7_isFirstOfRegister_44 : decode cX7_isFirstOfRegister 44 = .ok (.ireturn, 1) := by decide +kernel
theorem dX7_isFirstOfRegister_45 : decode cX7_isFirstOfRegister 45 = .ok (.iinc 4 1, 3) := by decide +kernel
theorem dX7_isFirstOfRegister_48 : decode cX7_isFirstOfRegister 48 = .ok (.goto (-30), 3) := by decide +kernel
theorem dX7_isFirstOfRegister_51 : decode cX7_isFirstOfRegister 51 = .ok (.iconst 1, 1) := by decide +kernel
theorem dX7_isFirstOfRegister_52 : decode cX7_isFirstOfRegister 52 = .ok (.ireturn, 1) := by decide +kernel
theorem dX8_append_0 : decode cX8_append 0 = .ok (.iload_n 3, 1) := by decide +kernel
theorem dX8_append_1 : decode cX8_append 1 = .ok (.iconst 1, 1) := by decide +kernel
theorem dX8_append_2 : decode cX8_append 2 = .ok (.if_icmp .lt 21, 3) := by decide +kernel
theorem dX8_append_5 : decode cX8_append 5 = .ok (.iload_n 3, 1) := by decide +kernel
theorem dX8_append_6 : decode cX8_append 6 = .ok (.bipush 8, 2) := by decide +kernel
theorem dX8_append_8 : decode cX8_append 8 = .ok (.if_icmp .gt 15, 3) := by decide +kernel
theorem dX8_append_11 : decode cX8_append 11 = .ok (.aload_n 0, 1) := by decide +kernel
theorem dX8_append_12 : decode cX8_append 12 = .ok (.getfield 19, 3) := by decide +kernel
theorem dX8_append_15 : decode cX8_append 15 = .ok (.iload_n 3, 1) := by decide +kernel
theorem dX8_append_16 : decode cX8_append 16 = .ok (.iadd, 1) := by decide +kernel
theorem dX8_append_17 : decode cX8_append 17 = .ok (.sipush 480, 3) := by decide +kernel
theorem dX8_append_20 : decode cX8_append 20 = .ok (.if_icmp .le 5, 3) := by decide +kernel
theorem dX8_append_23 : decode cX8_append 23 = .ok (.iconst 0, 1) := by decide +kernel
theorem dX8_append_24 : decode cX8_append 24 = .ok (.ireturn, 1) := by decide +kernel
theorem dX8_append_25 : decode cX8_append 25 = .ok (.iconst 0, 1) := by decide +kernel
theorem dX8_append_26 : decode cX8_append 26 = .ok (.istore 4, 2) := by decide +kernel
theorem dX8_append_28 : decode cX8_append 28 = .ok (.iload 4, 2) := by decide +kernel
theorem dX8_append_30 : decode cX8_append 30 = .ok (.iload_n 3, 1) := by decide +kernel
theorem dX8_append_31 : decode cX8_append 31 = .ok (.if_icmp .ge 33, 3) := by decide +kernel
theorem dX8_append_34 : decode cX8_append 34 = .ok (.lload_n 1, 1) := by decide +kernel
theorem dX8_append_35 : decode cX8_append 35 = .ok (.iload 4, 2) := by decide +kernel
theorem dX8_append_37 : decode cX8_append 37 = .ok (.invokestatic 23, 3) := by decide +kernel
theorem dX8_append_40 : decode cX8_append 40 = .ok (.istore 5, 2) := by decide +kernel
theorem dX8_append_42 : decode cX8_append 42 = .ok (.iload 5, 2) := by decide +kernel
theorem dX8_append_44 : decode cX8_append 44 = .ok (.bipush 33, 2) := by decide +kernel
theorem dX8_append_46 : decode cX8_append 46 = .ok (.if_icmp .lt 10, 3) := by decide +kernel
theorem dX8_append_49 : decode cX8_append 49 = .ok (.iload 5, 2) := by decide +kernel
theorem dX8_append_51 : decode cX8_append 51 = .ok (.bipush 126, 2) := by decide +kernel
theorem dX8_append_53 : decode cX8_append 53 = .ok (.if_icmp .le 5, 3) := by decide +kernel
theorem dX8_append_56 : decode cX8_append 56 = .ok (.iconst 0, 1) := by decide +kernel
theorem dX8_append_57 : decode cX8_append 57 = .ok (.ireturn, 1) := by decide +kernel
theorem dX8_append_58 : decode cX8_append 58 = .ok (.iinc 4 1, 3) := by decide +kernel
theorem dX8_append_61 : decode cX8_append 61 = .ok (.goto (-33), 3) := by decide +kernel
theorem dX8_append_64 : decode cX8_append 64 = .ok (.iload_n 3, 1) := by decide +kernel
theorem dX8_append_65 : decode cX8_append 65 = .ok (.iconst 1, 1) := by decide +kernel
theorem dX8_append_66 : decode cX8_append 66 = .ok (.isub, 1) := by decide +kernel
theorem dX8_append_67 : decode cX8_append 67 = .ok (.istore 4, 2) := by decide +kernel
theorem dX8_append_69 : decode cX8_append 69 = .ok (.iload 4, 2) := by decide +kernel
theorem dX8_append_71 : decode cX8_append 71 = .ok (.ifCond .lt 35, 3) := by decide +kernel
theorem dX8_append_74 : decode cX8_append 74 = .ok (.aload_n 0, 1) := by decide +kernel
theorem dX8_append_75 : decode cX8_append 75 = .ok (.getfield 9, 3) := by decide +kernel
theorem dX8_append_78 : decode cX8_append 78 = .ok (.aload_n 0, 1) := by decide +kernel
theorem dX8_append_79 : decode cX8_append 79 = .ok (.getfield 19, 3) := by decide +kernel
theorem dX8_append_82 : decode cX8_append 82 = .ok (.lload_n 1, 1) := by decide +kernel
theorem dX8_append_83 : decode cX8_append 83 = .ok (.iload 4, 2) := by decide +kernel
theorem dX8_append_85 : decode cX8_append 85 = .ok (.invokestatic 23, 3) := by decide +kernel
theorem dX8_append_88 : decode cX8_append 88 = .ok (.i2c, 1) := by decide +kernel
theorem dX8_append_89 : decode cX8_append 89 = .ok (.castore, 1) := by decide +kernel
theorem dX8_append_90 : decode cX8_append 90 = .ok (.aload_n 0, 1) := by decide +kernel
theorem dX8_append_91 : decode cX8_append 91 = .ok (.dup, 1) := by decide +kernel
theorem dX8_append_92 : decode cX8_append 92 = .ok (.getfield 19, 3) := by decide +kernel
theorem dX8_append_95 : decode cX8_append 95 = .ok (.iconst 1, 1) := by decide +kernel
theorem dX8_append_96 : decode cX8_append 96 = .ok (.iadd, 1) := by decide +kernel
theorem dX8_append_97 : decode cX8_append 97 = .ok (.putfield 19, 3) := by decide +kernel
theorem dX8_append_100 : decode cX8_append 100 = .ok (.iinc 4 (-1), 3) := by decide +kernel
theorem dX8_append_103 : decode cX8_append 103 = .ok (.goto (-34), 3) := by decide +kernel
theorem dX8_append_106 : decode cX8_append 106 = .ok (.iconst 1, 1) := by decide +kernel
theorem dX8_append_107 : decode cX8_append 107 = .ok (.ireturn, 1) := by decide +kernel
theorem dX8_byteOf_0 : decode cX8_byteOf 0 = .ok (.lload_n 0, 1) := by decide +kernel
theorem dX8_byteOf_1 : decode cX8_byteOf 1 = .ok (.bipush 8, 2) := by decide +kernel
theorem dX8_byteOf_3 : decode cX8_byteOf 3 = .ok (.iload_n 2, 1) := by decide +kernel
theorem dX8_byteOf_4 : decode cX8_byteOf 4 = .ok (.imul, 1) := by decide +kernel
theorem dX8_byteOf_5 : decode cX8_byteOf 5 = .ok (.lushr, 1) := by decide +kernel
theorem dX8_byteOf_6 : decode cX8_byteOf 6 = .ok (.l2i, 1) := by decide +kernel
theorem dX8_byteOf_7 : decode cX8_byteOf 7 = .ok (.sipush 255, 3) := by decide +kernel
theorem dX8_byteOf_10 : decode cX8_byteOf 10 = .ok (.iand, 1) := by decide +kernel
theorem dX8_byteOf_11 : decode cX8_byteOf 11 = .ok (.ireturn, 1) := by decide +kernel
theorem dX8_digitOf_0 : decode cX8_digitOf 0 = .ok (.iload_n 0, 1) := by decide +kernel
theorem dX8_digitOf_1 : decode cX8_digitOf 1 = .ok (.bipush 48, 2) := by decide +kernel
theorem dX8_digitOf_3 : decode cX8_digitOf 3 = .ok (.if_icmp .lt 14, 3) := by decide +kernel
theorem dX8_digitOf_6 : decode cX8_digitOf 6 = .ok (.iload_n 0, 1) := by decide +kernel
theorem dX8_digitOf_7 : decode cX8_digitOf 7 = .ok (.bipush 57, 2) := by decide +kernel
theorem dX8_digitOf_9 : decode cX8_digitOf 9 = .ok (.if_icmp .gt 8, 3) := by decide +kernel
theorem dX8_digitOf_12 : decode cX8_digitOf 12 = .ok (.iload_n 0, 1) := by decide +kernel
theorem dX8_digitOf_13 : decode cX8_digitOf 13 = .ok (.bipush 48, 2) := by decide +kernel
theorem dX8_digitOf_15 : decode cX8_digitOf 15 = .ok (.isub, 1) := by decide +kernel
theorem dX8_digitOf_16 : decode cX8_digitOf 16 = .ok (.ireturn, 1) := by decide +kernel
theorem dX8_digitOf_17 : decode cX8_digitOf 17 = .ok (.iload_n 0, 1) := by decide +kernel
theorem dX8_digitOf_18 : decode cX8_digitOf 18 = .ok (.bipush 97, 2) := by decide +kernel
theorem dX8_digitOf_20 : decode cX8_digitOf 20 = .ok (.if_icmp .lt 19, 3) := by decide +kernel
theorem dX8_digitOf_23 : decode cX8_digitOf 23 = .ok (.iload_n 0, 1) := by decide +kernel
theorem dX8_digitOf_24 : decode cX8_digitOf 24 = .ok (.bipush 102, 2) := by decide +kernel
theorem dX8_digitOf_26 : decode cX8_digitOf 26 = .ok (.if_icmp .gt 13, 3) := by decide +kernel
theorem dX8_digitOf_29 : decode cX8_digitOf 29 = .ok (.iload_n 0, 1) := by decide +kernel
theorem dX8_digitOf_30 : decode cX8_digitOf 30 = .ok (.bipush 97, 2) := by decide +kernel
theorem dX8_digitOf_32 : decode cX8_digitOf 32 = .ok (.isub, 1) := by decide +kernel
theorem dX8_digitOf_33 : decode cX8_digitOf 33 = .ok (.bipush 10, 2) := by decide +kernel
theorem dX8_digitOf_35 : decode cX8_digitOf 35 = .ok (.iadd, 1) := by decide +kernel
theorem dX8_digitOf_36 : decode cX8_digitOf 36 = .ok (.goto 4, 3) := by decide +kernel
theorem dX8_digitOf_39 : decode cX8_digitOf 39 = .ok (.iconst (-1), 1) := by decide +kernel
theorem dX8_digitOf_40 : decode cX8_digitOf 40 = .ok (.ireturn, 1) := by decide +kernel
theorem dX8_name_0 : decode cX8_name 0 = .ok (.aload_n 0, 1) := by decide +kernel
theorem dX8_name_1 : decode cX8_name 1 = .ok (.invokevirtual 42, 3) := by decide +kernel
theorem dX8_name_4 : decode cX8_name 4 = .ok (.istore_n 1, 1) := by decide +kernel
theorem dX8_name_5 : decode cX8_name 5 = .ok (.iload_n 1, 1) := by decide +kernel
theorem dX8_name_6 : decode cX8_name 6 = .ok (.bipush 65, 2) := by decide +kernel
theorem dX8_name_8 : decode cX8_name 8 = .ok (.if_icmp .lt 9, 3) := by decide +kernel
theorem dX8_name_11 : decode cX8_name 11 = .ok (.iload_n 1, 1) := by decide +kernel
theorem dX8_name_12 : decode cX8_name 12 = .ok (.bipush 90, 2) := by decide +kernel
theorem dX8_name_14 : decode cX8_name 14 = .ok (.if_icmp .le 5, 3) := by decide +kernel
