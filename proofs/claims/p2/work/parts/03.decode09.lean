theorem dX12_goOn_25 : decode cX12_goOn 25 = .ok (.invokevirtual 399, 3) := by decide +kernel
theorem dX12_goOn_28 : decode cX12_goOn 28 = .ok (.iload_n 2, 1) := by decide +kernel
theorem dX12_goOn_29 : decode cX12_goOn 29 = .ok (.bipush 40, 2) := by decide +kernel
theorem dX12_goOn_31 : decode cX12_goOn 31 = .ok (.if_icmp .eq 9, 3) := by decide +kernel
theorem dX12_goOn_34 : decode cX12_goOn 34 = .ok (.aload_n 0, 1) := by decide +kernel
theorem dX12_goOn_35 : decode cX12_goOn 35 = .ok (.bipush 40, 2) := by decide +kernel
theorem dX12_goOn_37 : decode cX12_goOn 37 = .ok (.invokevirtual 402, 3) := by decide +kernel
theorem dX12_goOn_40 : decode cX12_goOn 40 = .ok (.return_, 1) := by decide +kernel
theorem dX12_goOn_41 : decode cX12_goOn 41 = .ok (.aload_n 0, 1) := by decide +kernel
theorem dX12_goOn_42 : decode cX12_goOn 42 = .ok (.iload_n 1, 1) := by decide +kernel
theorem dX12_goOn_43 : decode cX12_goOn 43 = .ok (.invokevirtual 399, 3) := by decide +kernel
theorem dX12_goOn_46 : decode cX12_goOn 46 = .ok (.aload_n 0, 1) := by decide +kernel
theorem dX12_goOn_47 : decode cX12_goOn 47 = .ok (.getfield 134, 3) := by decide +kernel
theorem dX12_goOn_50 : decode cX12_goOn 50 = .ok (.iload_n 2, 1) := by decide +kernel
theorem dX12_goOn_51 : decode cX12_goOn 51 = .ok (.iaload, 1) := by decide +kernel
theorem dX12_goOn_52 : decode cX12_goOn 52 = .ok (.iconst 2, 1) := by decide +kernel
theorem dX12_goOn_53 : decode cX12_goOn 53 = .ok (.if_icmp .ne 21, 3) := by decide +kernel
theorem dX12_goOn_56 : decode cX12_goOn 56 = .ok (.aload_n 0, 1) := by decide +kernel
theorem dX12_goOn_57 : decode cX12_goOn 57 = .ok (.aload_n 0, 1) := by decide +kernel
theorem dX12_goOn_58 : decode cX12_goOn 58 = .ok (.getfield 140, 3) := by decide +kernel
theorem dX12_goOn_61 : decode cX12_goOn 61 = .ok (.iload_n 2, 1) := by decide +kernel
theorem dX12_goOn_62 : decode cX12_goOn 62 = .ok (.iaload, 1) := by decide +kernel
theorem dX12_goOn_63 : decode cX12_goOn 63 = .ok (.invokevirtual 402, 3) := by decide +kernel
theorem dX12_goOn_66 : decode cX12_goOn 66 = .ok (.aload_n 0, 1) := by decide +kernel
theorem dX12_goOn_67 : decode cX12_goOn 67 = .ok (.iload_n 2, 1) := by decide +kernel
theorem dX12_goOn_68 : decode cX12_goOn 68 = .ok (.iconst 1, 1) := by decide +kernel
theorem dX12_goOn_69 : decode cX12_goOn 69 = .ok (.iadd, 1) := by decide +kernel
theorem dX12_goOn_70 : decode cX12_goOn 70 = .ok (.invokevirtual 402, 3) := by decide +kernel
theorem dX12_goOn_73 : decode cX12_goOn 73 = .ok (.return_, 1) := by decide +kernel
theorem dX12_goOn_74 : decode cX12_goOn 74 = .ok (.aload_n 0, 1) := by decide +kernel
theorem dX12_goOn_75 : decode cX12_goOn 75 = .ok (.iconst 0, 1) := by decide +kernel
theorem dX12_goOn_76 : decode cX12_goOn 76 = .ok (.putfield 337, 3) := by decide +kernel
theorem dX12_goOn_79 : decode cX12_goOn 79 = .ok (.aload_n 0, 1) := by decide +kernel
theorem dX12_goOn_80 : decode cX12_goOn 80 = .ok (.getfield 134, 3) := by decide +kernel
theorem dX12_goOn_83 : decode cX12_goOn 83 = .ok (.iload_n 2, 1) := by decide +kernel
theorem dX12_goOn_84 : decode cX12_goOn 84 = .ok (.iaload, 1) := by decide +kernel
theorem dX12_goOn_85 : decode cX12_goOn 85 = .ok (.ifCond .ne 22, 3) := by decide +kernel
theorem dX12_goOn_88 : decode cX12_goOn 88 = .ok (.aload_n 0, 1) := by decide +kernel
theorem dX12_goOn_89 : decode cX12_goOn 89 = .ok (.aload_n 0, 1) := by decide +kernel
theorem dX12_goOn_90 : decode cX12_goOn 90 = .ok (.getfield 137, 3) := by decide +kernel
theorem dX12_goOn_93 : decode cX12_goOn 93 = .ok (.iload_n 2, 1) := by decide +kernel
theorem dX12_goOn_94 : decode cX12_goOn 94 = .ok (.iaload, 1) := by decide +kernel
theorem dX12_goOn_95 : decode cX12_goOn 95 = .ok (.aload_n 0, 1) := by decide +kernel
theorem dX12_goOn_96 : decode cX12_goOn 96 = .ok (.getfield 140, 3) := by decide +kernel
theorem dX12_goOn_99 : decode cX12_goOn 99 = .ok (.iload_n 2, 1) := by decide +kernel
theorem dX12_goOn_100 : decode cX12_goOn 100 = .ok (.iaload, 1) := by decide +kernel
theorem dX12_goOn_101 : decode cX12_goOn 101 = .ok (.invokevirtual 372, 3) := by decide +kernel
theorem dX12_goOn_104 : decode cX12_goOn 104 = .ok (.goto 13, 3) := by decide +kernel
theorem dX12_goOn_107 : decode cX12_goOn 107 = .ok (.aload_n 0, 1) := by decide +kernel
theorem dX12_goOn_108 : decode cX12_goOn 108 = .ok (.aload_n 0, 1) := by decide +kernel
theorem dX12_goOn_109 : decode cX12_goOn 109 = .ok (.getfield 137, 3) := by decide +kernel
theorem dX12_goOn_112 : decode cX12_goOn 112 = .ok (.iload_n 2, 1) := by decide +kernel
theorem dX12_goOn_113 : decode cX12_goOn 113 = .ok (.iaload, 1) := by decide +kernel
theorem dX12_goOn_114 : decode cX12_goOn 114 = .ok (.invokevirtual 381, 3) := by decide +kernel
theorem dX12_goOn_117 : decode cX12_goOn 117 = .ok (.aload_n 0, 1) := by decide +kernel
theorem dX12_goOn_118 : decode cX12_goOn 118 = .ok (.getfield 337, 3) := by decide +kernel
theorem dX12_goOn_121 : decode cX12_goOn 121 = .ok (.ifCond .ne 13, 3) := by decide +kernel
theorem dX12_goOn_124 : decode cX12_goOn 124 = .ok (.aload_n 0, 1) := by decide +kernel
theorem dX12_goOn_125 : decode cX12_goOn 125 = .ok (.iload_n 2, 1) := by decide +kernel
theorem dX12_goOn_126 : decode cX12_goOn 126 = .ok (.iconst 1, 1) := by decide +kernel
theorem dX12_goOn_127 : decode cX12_goOn 127 = .ok (.iadd, 1) := by decide +kernel
theorem dX12_goOn_128 : decode cX12_goOn 128 = .ok (.invokevirtual 402, 3) := by decide +kernel
theorem dX12_goOn_131 : decode cX12_goOn 131 = .ok (.goto 55, 3) := by decide +kernel
theorem dX12_goOn_134 : decode cX12_goOn 134 = .ok (.aload_n 0, 1) := by decide +kernel
theorem dX12_goOn_135 : decode cX12_goOn 135 = .ok (.getfield 405, 3) := by decide +kernel
theorem dX12_goOn_138 : decode cX12_goOn 138 = .ok (.iconst (-1), 1) := by decide +kernel
theorem dX12_goOn_139 : decode cX12_goOn 139 = .ok (.if_icmp .eq 32, 3) := by decide +kernel
theorem dX12_goOn_142 : decode cX12_goOn 142 = .ok (.iload_n 2, 1) := by decide +kernel
theorem dX12_goOn_143 : decode cX12_goOn 143 = .ok (.aload_n 0, 1) := by decide +kernel
theorem dX12_goOn_144 : decode cX12_goOn 144 = .ok (.getfield 405, 3) := by decide +kernel
theorem dX12_goOn_147 : decode cX12_goOn 147 = .ok (.if_icmp .lt 24, 3) := by decide +kernel
theorem dX12_goOn_150 : decode cX12_goOn 150 = .ok (.iload_n 2, 1) := by decide +kernel
theorem dX12_goOn_151 : decode cX12_goOn 151 = .ok (.aload_n 0, 1) := by decide +kernel
theorem dX12_goOn_152 : decode cX12_goOn 152 = .ok (.getfield 405, 3) := by decide +kernel
theorem dX12_goOn_155 : decode cX12_goOn 155 = .ok (.if_icmp .ne 31, 3) := by decide +kernel
theorem dX12_goOn_158 : decode cX12_goOn 158 = .ok (.aload_n 0, 1) := by decide +kernel
theorem dX12_goOn_159 : decode cX12_goOn 159 = .ok (.getfield 340, 3) := by decide +kernel
theorem dX12_goOn_162 : decode cX12_goOn 162 = .ok (.aload_n 0, 1) := by decide +kernel
theorem dX12_goOn_163 : decode cX12_goOn 163 = .ok (.getfield 273, 3) := by decide +kernel
theorem dX12_goOn_166 : decode cX12_goOn 166 = .ok (.iconst 1, 1) := by decide +kernel
theorem dX12_goOn_167 : decode cX12_goOn 167 = .ok (.isub, 1) := by decide +kernel
theorem dX12_goOn_168 : decode cX12_goOn 168 = .ok (.if_icmp .ge 18, 3) := by decide +kernel
theorem dX12_goOn_171 : decode cX12_goOn 171 = .ok (.aload_n 0, 1) := by decide +kernel
theorem dX12_goOn_172 : decode cX12_goOn 172 = .ok (.iload_n 2, 1) := by decide +kernel
theorem dX12_goOn_173 : decode cX12_goOn 173 = .ok (.putfield 405, 3) := by decide +kernel
theorem dX12_goOn_176 : decode cX12_goOn 176 = .ok (.aload_n 0, 1) := by decide +kernel
theorem dX12_goOn_177 : decode cX12_goOn 177 = .ok (.aload_n 0, 1) := by decide +kernel
theorem dX12_goOn_178 : decode cX12_goOn 178 = .ok (.getfield 340, 3) := by decide +kernel
theorem dX12_goOn_181 : decode cX12_goOn 181 = .ok (.iconst 1, 1) := by decide +kernel
theorem dX12_goOn_182 : decode cX12_goOn 182 = .ok (.iadd, 1) := by decide +kernel
theorem dX12_goOn_183 : decode cX12_goOn 183 = .ok (.putfield 273, 3) := by decide +kernel
theorem dX12_goOn_186 : decode cX12_goOn 186 = .ok (.return_, 1) := by decide +kernel
theorem dX12_here_0 : decode cX12_here 0 = .ok (.aload_n 0, 1) := by decide +kernel
theorem dX12_here_1 : decode cX12_here 1 = .ok (.getfield 170, 3) := by decide +kernel
theorem dX12_here_4 : decode cX12_here 4 = .ok (.aload_n 0, 1) := by decide +kernel
theorem dX12_here_5 : decode cX12_here 5 = .ok (.getfield 165, 3) := by decide +kernel
theorem dX12_here_8 : decode cX12_here 8 = .ok (.if_icmp .ge 15, 3) := by decide +kernel
theorem dX12_here_11 : decode cX12_here 11 = .ok (.aload_n 0, 1) := by decide +kernel
theorem dX12_here_12 : decode cX12_here 12 = .ok (.getfield 7, 3) := by decide +kernel
theorem dX12_here_15 : decode cX12_here 15 = .ok (.aload_n 0, 1) := by decide +kernel
theorem dX12_here_16 : decode cX12_here 16 = .ok (.getfield 170, 3) := by decide +kernel
theorem dX12_here_19 : decode cX12_here 19 = .ok (.iaload, 1) := by decide +kernel
theorem dX12_here_20 : decode cX12_here 20 = .ok (.goto 4, 3) := by decide +kernel
theorem dX12_here_23 : decode cX12_here 23 = .ok (.iconst 0, 1) := by decide +kernel
theorem dX12_here_24 : decode cX12_here 24 = .ok (.ireturn, 1) := by decide +kernel
theorem dX12_hex_0 : decode cX12_hex 0 = .ok (.iload_n 0, 1) := by decide +kernel
theorem dX12_hex_1 : decode cX12_hex 1 = .ok (.bipush 48, 2) := by decide +kernel
theorem dX12_hex_3 : decode cX12_hex 3 = .ok (.if_icmp .lt 16, 3) := by decide +kernel
theorem dX12_hex_6 : decode cX12_hex 6 = .ok (.iload_n 0, 1) := by decide +kernel
theorem dX12_hex_7 : decode cX12_hex 7 = .ok (.bipush 57, 2) := by decide +kernel
theorem dX12_hex_9 : decode cX12_hex 9 = .ok (.if_icmp .gt 10, 3) := by decide +kernel
theorem dX12_hex_12 : decode cX12_hex 12 = .ok (.iload_n 0, 1) := by decide +kernel
theorem dX12_hex_13 : decode cX12_hex 13 = .ok (.bipush 48, 2) := by decide +kernel
theorem dX12_hex_15 : decode cX12_hex 15 = .ok (.isub, 1) := by decide +kernel
theorem dX12_hex_16 : decode cX12_hex 16 = .ok (.goto 26, 3) := by decide +kernel
theorem dX12_hex_19 : decode cX12_hex 19 = .ok (.iload_n 0, 1) := by decide +kernel
theorem dX12_hex_20 : decode cX12_hex 20 = .ok (.bipush 97, 2) := by decide +kernel
theorem dX12_hex_22 : decode cX12_hex 22 = .ok (.if_icmp .lt 19, 3) := by decide +kernel
theorem dX12_hex_25 : decode cX12_hex 25 = .ok (.iload_n 0, 1) := by decide +kernel
theorem dX12_hex_26 : decode cX12_hex 26 = .ok (.bipush 102, 2) := by decide +kernel
theorem dX12_hex_28 : decode cX12_hex 28 = .ok (.if_icmp .gt 13, 3) := by decide +kernel
theorem dX12_hex_31 : decode cX12_hex 31 = .ok (.iload_n 0, 1) := by decide +kernel
theorem dX12_hex_32 : decode cX12_hex 32 = .ok (.bipush 97, 2) := by decide +kernel
theorem dX12_hex_34 : decode cX12_hex 34 = .ok (.isub, 1) := by decide +kernel
theorem dX12_hex_35 : decode cX12_hex 35 = .ok (.bipush 10, 2) := by decide +kernel
theorem dX12_hex_37 : decode cX12_hex 37 = .ok (.iadd, 1) := by decide +kernel
theorem dX12_hex_38 : decode cX12_hex 38 = .ok (.goto 4, 3) := by decide +kernel
theorem dX12_hex_41 : decode cX12_hex 41 = .ok (.iconst (-1), 1) := by decide +kernel
theorem dX12_hex_42 : decode cX12_hex 42 = .ok (.ireturn, 1) := by decide +kernel
theorem dX12_isAccess_0 : decode cX12_isAccess 0 = .ok (.iload_n 0, 1) := by decide +kernel
theorem dX12_isAccess_1 : decode cX12_isAccess 1 = .ok (.bipush 119, 2) := by decide +kernel
theorem dX12_isAccess_3 : decode cX12_isAccess 3 = .ok (.if_icmp .eq 39, 3) := by decide +kernel
theorem dX12_isAccess_6 : decode cX12_isAccess 6 = .ok (.iload_n 0, 1) := by decide +kernel
theorem dX12_isAccess_7 : decode cX12_isAccess 7 = .ok (.bipush 114, 2) := by decide +kernel
theorem dX12_isAccess_9 : decode cX12_isAccess 9 = .ok (.if_icmp .eq 33, 3) := by decide +kernel
theorem dX12_isAccess_12 : decode cX12_isAccess 12 = .ok (.iload_n 0, 1) := by decide +kernel
theorem dX12_isAccess_13 : decode cX12_isAccess 13 = .ok (.bipush 111, 2) := by decide +kernel
theorem dX12_isAccess_15 : decode cX12_isAccess 15 = .ok (.if_icmp .eq 27, 3) := by decide +kernel
theorem dX12_isAccess_18 : decode cX12_isAccess 18 = .ok (.iload_n 0, 1) := by decide +kernel
theorem dX12_isAccess_19 : decode cX12_isAccess 19 = .ok (.bipush 99, 2) := by decide +kernel
theorem dX12_isAccess_21 : decode cX12_isAccess 21 = .ok (.if_icmp .eq 21, 3) := by decide +kernel
theorem dX12_isAccess_24 : decode cX12_isAccess 24 = .ok (.iload_n 0, 1) := by decide +kernel
theorem dX12_isAccess_25 : decode cX12_isAccess 25 = .ok (.bipush 116, 2) := by decide +kernel
theorem dX12_isAccess_27 : decode cX12_isAccess 27 = .ok (.if_icmp .eq 15, 3) := by decide +kernel
theorem dX12_isAccess_30 : decode cX12_isAccess 30 = .ok (.iload_n 0, 1) := by decide +kernel
theorem dX12_isAccess_31 : decode cX12_isAccess 31 = .ok (.bipush 115, 2) := by decide +kernel
theorem dX12_isAccess_33 : decode cX12_isAccess 33 = .ok (.if_icmp .eq 9, 3) := by decide +kernel
theorem dX12_isAccess_36 : decode cX12_isAccess 36 = .ok (.iload_n 0, 1) := by decide +kernel
theorem dX12_isAccess_37 : decode cX12_isAccess 37 = .ok (.bipush 112, 2) := by decide +kernel
theorem dX12_isAccess_39 : decode cX12_isAccess 39 = .ok (.if_icmp .ne 7, 3) := by decide +kernel
theorem dX12_isAccess_42 : decode cX12_isAccess 42 = .ok (.iconst 1, 1) := by decide +kernel
theorem dX12_isAccess_43 : decode cX12_isAccess 43 = .ok (.goto 4, 3) := by decide +kernel
theorem dX12_isAccess_46 : decode cX12_isAccess 46 = .ok (.iconst 0, 1) := by decide +kernel
theorem dX12_isAccess_47 : decode cX12_isAccess 47 = .ok (.ireturn, 1) := by decide +kernel
theorem dX12_isFetch_0 : decode cX12_isFetch 0 = .ok (.aload_n 0, 1) := by decide +kernel
theorem dX12_isFetch_1 : decode cX12_isFetch 1 = .ok (.iload_n 1, 1) := by decide +kernel
theorem dX12_isFetch_2 : decode cX12_isFetch 2 = .ok (.invokevirtual 317, 3) := by decide +kernel
theorem dX12_isFetch_5 : decode cX12_isFetch 5 = .ok (.ifCond .eq 18, 3) := by decide +kernel
theorem dX12_isFetch_8 : decode cX12_isFetch 8 = .ok (.aload_n 0, 1) := by decide +kernel
theorem dX12_isFetch_9 : decode cX12_isFetch 9 = .ok (.getfield 80, 3) := by decide +kernel
theorem dX12_isFetch_12 : decode cX12_isFetch 12 = .ok (.iload_n 1, 1) := by decide +kernel
theorem dX12_isFetch_13 : decode cX12_isFetch 13 = .ok (.iaload, 1) := by decide +kernel
theorem dX12_isFetch_14 : decode cX12_isFetch 14 = .ok (.bipush 111, 2) := by decide +kernel
theorem dX12_isFetch_16 : decode cX12_isFetch 16 = .ok (.if_icmp .eq 7, 3) := by decide +kernel
theorem dX12_isFetch_19 : decode cX12_isFetch 19 = .ok (.iconst 1, 1) := by decide +kernel
theorem dX12_isFetch_20 : decode cX12_isFetch 20 = .ok (.goto 4, 3) := by decide +kernel
theorem dX12_isFetch_23 : decode cX12_isFetch 23 = .ok (.iconst 0, 1) := by decide +kernel
theorem dX12_isFetch_24 : decode cX12_isFetch 24 = .ok (.ireturn, 1) := by decide +kernel
theorem dX12_isField_0 : decode cX12_isField 0 = .ok (.aload_n 0, 1) := by decide +kernel
theorem dX12_isField_1 : decode cX12_isField 1 = .ok (.getfield 257, 3) := by decide +kernel
theorem dX12_isField_4 : decode cX12_isField 4 = .ok (.ifCond .eq 26, 3) := by decide +kernel
theorem dX12_isField_7 : decode cX12_isField 7 = .ok (.iload_n 1, 1) := by decide +kernel
theorem dX12_isField_8 : decode cX12_isField 8 = .ok (.ifCond .lt 22, 3) := by decide +kernel
theorem dX12_isField_11 : decode cX12_isField 11 = .ok (.iload_n 1, 1) := by decide +kernel
theorem dX12_isField_12 : decode cX12_isField 12 = .ok (.bipush 26, 2) := by decide +kernel
theorem dX12_isField_14 : decode cX12_isField 14 = .ok (.if_icmp .ge 16, 3) := by decide +kernel
theorem dX12_isField_17 : decode cX12_isField 17 = .ok (.aload_n 0, 1) := by decide +kernel
theorem dX12_isField_18 : decode cX12_isField 18 = .ok (.getfield 76, 3) := by decide +kernel
theorem dX12_isField_21 : decode cX12_isField 21 = .ok (.iload_n 1, 1) := by decide +kernel
theorem dX12_isField_22 : decode cX12_isField 22 = .ok (.baload, 1) := by decide +kernel
theorem dX12_isField_23 : decode cX12_isField 23 = .ok (.ifCond .eq 7, 3) := by decide +kernel
theorem dX12_isField_26 : decode cX12_isField 26 = .ok (.iconst 1, 1) := by decide +kernel
theorem dX12_isField_27 : decode cX12_isField 27 = .ok (.goto 4, 3) := by decide +kernel
theorem dX12_isField_30 : decode cX12_isField 30 = .ok (.iconst 0, 1) := by decide +kernel
theorem dX12_isField_31 : decode cX12_isField 31 = .ok (.ireturn, 1) := by decide +kernel
theorem dX12_isFit_0 : decode cX12_isFit 0 = .ok (.iload_n 2, 1) := by decide +kernel
theorem dX12_isFit_1 : decode cX12_isFit 1 = .ok (.ifCond .lt 19, 3) := by decide +kernel
theorem dX12_isFit_4 : decode cX12_isFit 4 = .ok (.iload_n 2, 1) := by decide +kernel
theorem dX12_isFit_5 : decode cX12_isFit 5 = .ok (.iconst 1, 1) := by decide +kernel
theorem dX12_isFit_6 : decode cX12_isFit 6 = .ok (.aload_n 0, 1) := by decide +kernel
theorem dX12_isFit_7 : decode cX12_isFit 7 = .ok (.getfield 89, 3) := by decide +kernel
theorem dX12_isFit_10 : decode cX12_isFit 10 = .ok (.iload_n 1, 1) := by decide +kernel
theorem dX12_isFit_11 : decode cX12_isFit 11 = .ok (.iaload, 1) := by decide +kernel
theorem dX12_isFit_12 : decode cX12_isFit 12 = .ok (.ishl, 1) := by decide +kernel
theorem dX12_isFit_13 : decode cX12_isFit 13 = .ok (.if_icmp .ge 7, 3) := by decide +kernel
theorem dX12_isFit_16 : decode cX12_isFit 16 = .ok (.iconst 1, 1) := by decide +kernel
theorem dX12_isFit_17 : decode cX12_isFit 17 = .ok (.goto 4, 3) := by decide +kernel
theorem dX12_isFit_20 : decode cX12_isFit 20 = .ok (.iconst 0, 1) := by decide +kernel
theorem dX12_isFit_21 : decode cX12_isFit 21 = .ok (.ireturn, 1) := by decide +kernel
theorem dX12_isIn_0 : decode cX12_isIn 0 = .ok (.aload_n 0, 1) := by decide +kernel
theorem dX12_isIn_1 : decode cX12_isIn 1 = .ok (.getfield 76, 3) := by decide +kernel
theorem dX12_isIn_4 : decode cX12_isIn 4 = .ok (.iload_n 1, 1) := by decide +kernel
theorem dX12_isIn_5 : decode cX12_isIn 5 = .ok (.baload, 1) := by decide +kernel
theorem dX12_isIn_6 : decode cX12_isIn 6 = .ok (.ifCond .eq 17, 3) := by decide +kernel
theorem dX12_isIn_9 : decode cX12_isIn 9 = .ok (.aload_n 0, 1) := by decide +kernel
theorem dX12_isIn_10 : decode cX12_isIn 10 = .ok (.getfield 83, 3) := by decide +kernel
theorem dX12_isIn_13 : decode cX12_isIn 13 = .ok (.iload_n 1, 1) := by decide +kernel
theorem dX12_isIn_14 : decode cX12_isIn 14 = .ok (.iaload, 1) := by decide +kernel
theorem dX12_isIn_15 : decode cX12_isIn 15 = .ok (.iload_n 2, 1) := by decide +kernel
theorem dX12_isIn_16 : decode cX12_isIn 16 = .ok (.if_icmp .ne 7, 3) := by decide +kernel
theorem dX12_isIn_19 : decode cX12_isIn 19 = .ok (.iconst 1, 1) := by decide +kernel
theorem dX12_isIn_20 : decode cX12_isIn 20 = .ok (.goto 4, 3) := by decide +kernel
theorem dX12_isIn_23 : decode cX12_isIn 23 = .ok (.iconst 0, 1) := by decide +kernel
theorem dX12_isIn_24 : decode cX12_isIn 24 = .ok (.ireturn, 1) := by decide +kernel
theorem dX12_isLooked_0 : decode cX12_isLooked 0 = .ok (.iload_n 1, 1) := by decide +kernel
theorem dX12_isLooked_1 : decode cX12_isLooked 1 = .ok (.iconst (-1), 1) := by decide +kernel
theorem dX12_isLooked_2 : decode cX12_isLooked 2 = .ok (.if_icmp .eq 29, 3) := by decide +kernel
theorem dX12_isLooked_5 : decode cX12_isLooked 5 = .ok (.aload_n 0, 1) := by decide +kernel
theorem dX12_isLooked_6 : decode cX12_isLooked 6 = .ok (.getfield 31, 3) := by decide +kernel
theorem dX12_isLooked_9 : decode cX12_isLooked 9 = .ok (.iload_n 1, 1) := by decide +kernel
theorem dX12_isLooked_10 : decode cX12_isLooked 10 = .ok (.iaload, 1) := by decide +kernel
theorem dX12_isLooked_11 : decode cX12_isLooked 11 = .ok (.bipush 114, 2) := by decide +kernel
theorem dX12_isLooked_13 : decode cX12_isLooked 13 = .ok (.if_icmp .eq 18, 3) := by decide +kernel
theorem dX12_isLooked_16 : decode cX12_isLooked 16 = .ok (.aload_n 0, 1) := by decide +kernel
theorem dX12_isLooked_17 : decode cX12_isLooked 17 = .ok (.getfield 31, 3) := by decide +kernel
theorem dX12_isLooked_20 : decode cX12_isLooked 20 = .ok (.iload_n 1, 1) := by decide +kernel
theorem dX12_isLooked_21 : decode cX12_isLooked 21 = .ok (.iaload, 1) := by decide +kernel
theorem dX12_isLooked_22 : decode cX12_isLooked 22 = .ok (.bipush 99, 2) := by decide +kernel
theorem dX12_isLooked_24 : decode cX12_isLooked 24 = .ok (.if_icmp .eq 7, 3) := by decide +kernel
theorem dX12_isLooked_27 : decode cX12_isLooked 27 = .ok (.iconst 1, 1) := by decide +kernel
theorem dX12_isLooked_28 : decode cX12_isLooked 28 = .ok (.goto 4, 3) := by decide +kernel
theorem dX12_isLooked_31 : decode cX12_isLooked 31 = .ok (.iconst 0, 1) := by decide +kernel
theorem dX12_isLooked_32 : decode cX12_isLooked 32 = .ok (.ireturn, 1) := by decide +kernel
theorem dX12_isName_0 : decode cX12_isName 0 = .ok (.iload_n 0, 1) := by decide +kernel
theorem dX12_isName_1 : decode cX12_isName 1 = .ok (.bipush 65, 2) := by decide +kernel
theorem dX12_isName_3 : decode cX12_isName 3 = .ok (.if_icmp .lt 13, 3) := by decide +kernel
theorem dX12_isName_6 : decode cX12_isName 6 = .ok (.iload_n 0, 1) := by decide +kernel
theorem dX12_isName_7 : decode cX12_isName 7 = .ok (.bipush 90, 2) := by decide +kernel
theorem dX12_isName_9 : decode cX12_isName 9 = .ok (.if_icmp .gt 7, 3) := by decide +kernel
theorem dX12_isName_12 : decode cX12_isName 12 = .ok (.iconst 1, 1) := by decide +kernel
theorem dX12_isName_13 : decode cX12_isName 13 = .ok (.goto 4, 3) := by decide +kernel
theorem dX12_isName_16 : decode cX12_isName 16 = .ok (.iconst 0, 1) := by decide +kernel
theorem dX12_isName_17 : decode cX12_isName 17 = .ok (.ireturn, 1) := by decide +kernel
theorem dX12_isPut_0 : decode cX12_isPut 0 = .ok (.aload_n 0, 1) := by decide +kernel
theorem dX12_isPut_1 : decode cX12_isPut 1 = .ok (.iload_n 1, 1) := by decide +kernel
theorem dX12_isPut_2 : decode cX12_isPut 2 = .ok (.invokevirtual 317, 3) := by decide +kernel
theorem dX12_isPut_5 : decode cX12_isPut 5 = .ok (.ifCond .eq 38, 3) := by decide +kernel
theorem dX12_isPut_8 : decode cX12_isPut 8 = .ok (.aload_n 0, 1) := by decide +kernel
theorem dX12_isPut_9 : decode cX12_isPut 9 = .ok (.getfield 80, 3) := by decide +kernel
theorem dX12_isPut_12 : decode cX12_isPut 12 = .ok (.iload_n 1, 1) := by decide +kernel
theorem dX12_isPut_13 : decode cX12_isPut 13 = .ok (.iaload, 1) := by decide +kernel
theorem dX12_isPut_14 : decode cX12_isPut 14 = .ok (.bipush 114, 2) := by decide +kernel
theorem dX12_isPut_16 : decode cX12_isPut 16 = .ok (.if_icmp .eq 27, 3) := by decide +kernel
theorem dX12_isPut_19 : decode cX12_isPut 19 = .ok (.aload_n 0, 1) := by decide +kernel
theorem dX12_isPut_20 : decode cX12_isPut 20 = .ok (.getfield 80, 3) := by decide +kernel
theorem dX12_isPut_23 : decode cX12_isPut 23 = .ok (.iload_n 1, 1) := by decide +kernel
theorem dX12_isPut_24 : decode cX12_isPut 24 = .ok (.iaload, 1) := by decide +kernel
theorem dX12_isPut_25 : decode cX12_isPut 25 = .ok (.bipush 99, 2) := by decide +kernel
theorem dX12_isPut_27 : decode cX12_isPut 27 = .ok (.if_icmp .eq 16, 3) := by decide +kernel
theorem dX12_isPut_30 : decode cX12_isPut 30 = .ok (.aload_n 0, 1) := by decide +kernel
