theorem dX1_goOn_128 : decode cX1_goOn 128 = .ok (.invokevirtual 402, 3) := by decide +kernel
theorem dX1_goOn_131 : decode cX1_goOn 131 = .ok (.goto 55, 3) := by decide +kernel
theorem dX1_goOn_134 : decode cX1_goOn 134 = .ok (.aload_n 0, 1) := by decide +kernel
theorem dX1_goOn_135 : decode cX1_goOn 135 = .ok (.getfield 405, 3) := by decide +kernel
theorem dX1_goOn_138 : decode cX1_goOn 138 = .ok (.iconst (-1), 1) := by decide +kernel
theorem dX1_goOn_139 : decode cX1_goOn 139 = .ok (.if_icmp .eq 32, 3) := by decide +kernel
theorem dX1_goOn_142 : decode cX1_goOn 142 = .ok (.iload_n 2, 1) := by decide +kernel
theorem dX1_goOn_143 : decode cX1_goOn 143 = .ok (.aload_n 0, 1) := by decide +kernel
theorem dX1_goOn_144 : decode cX1_goOn 144 = .ok (.getfield 405, 3) := by decide +kernel
theorem dX1_goOn_147 : decode cX1_goOn 147 = .ok (.if_icmp .lt 24, 3) := by decide +kernel
theorem dX1_goOn_150 : decode cX1_goOn 150 = .ok (.iload_n 2, 1) := by decide +kernel
theorem dX1_goOn_151 : decode cX1_goOn 151 = .ok (.aload_n 0, 1) := by decide +kernel
theorem dX1_goOn_152 : decode cX1_goOn 152 = .ok (.getfield 405, 3) := by decide +kernel
theorem dX1_goOn_155 : decode cX1_goOn 155 = .ok (.if_icmp .ne 31, 3) := by decide +kernel
theorem dX1_goOn_158 : decode cX1_goOn 158 = .ok (.aload_n 0, 1) := by decide +kernel
theorem dX1_goOn_159 : decode cX1_goOn 159 = .ok (.getfield 340, 3) := by decide +kernel
theorem dX1_goOn_162 : decode cX1_goOn 162 = .ok (.aload_n 0, 1) := by decide +kernel
theorem dX1_goOn_163 : decode cX1_goOn 163 = .ok (.getfield 273, 3) := by decide +kernel
theorem dX1_goOn_166 : decode cX1_goOn 166 = .ok (.iconst 1, 1) := by decide +kernel
theorem dX1_goOn_167 : decode cX1_goOn 167 = .ok (.isub, 1) := by decide +kernel
theorem dX1_goOn_168 : decode cX1_goOn 168 = .ok (.if_icmp .ge 18, 3) := by decide +kernel
theorem dX1_goOn_171 : decode cX1_goOn 171 = .ok (.aload_n 0, 1) := by decide +kernel
theorem dX1_goOn_172 : decode cX1_goOn 172 = .ok (.iload_n 2, 1) := by decide +kernel
theorem dX1_goOn_173 : decode cX1_goOn 173 = .ok (.putfield 405, 3) := by decide +kernel
theorem dX1_goOn_176 : decode cX1_goOn 176 = .ok (.aload_n 0, 1) := by decide +kernel
theorem dX1_goOn_177 : decode cX1_goOn 177 = .ok (.aload_n 0, 1) := by decide +kernel
theorem dX1_goOn_178 : decode cX1_goOn 178 = .ok (.getfield 340, 3) := by decide +kernel
theorem dX1_goOn_181 : decode cX1_goOn 181 = .ok (.iconst 1, 1) := by decide +kernel
theorem dX1_goOn_182 : decode cX1_goOn 182 = .ok (.iadd, 1) := by decide +kernel
theorem dX1_goOn_183 : decode cX1_goOn 183 = .ok (.putfield 273, 3) := by decide +kernel
theorem dX1_goOn_186 : decode cX1_goOn 186 = .ok (.return_, 1) := by decide +kernel
theorem dX1_here_0 : decode cX1_here 0 = .ok (.aload_n 0, 1) := by decide +kernel
theorem dX1_here_1 : decode cX1_here 1 = .ok (.getfield 170, 3) := by decide +kernel
theorem dX1_here_4 : decode cX1_here 4 = .ok (.aload_n 0, 1) := by decide +kernel
theorem dX1_here_5 : decode cX1_here 5 = .ok (.getfield 165, 3) := by decide +kernel
theorem dX1_here_8 : decode cX1_here 8 = .ok (.if_icmp .ge 15, 3) := by decide +kernel
theorem dX1_here_11 : decode cX1_here 11 = .ok (.aload_n 0, 1) := by decide +kernel
theorem dX1_here_12 : decode cX1_here 12 = .ok (.getfield 7, 3) := by decide +kernel
theorem dX1_here_15 : decode cX1_here 15 = .ok (.aload_n 0, 1) := by decide +kernel
theorem dX1_here_16 : decode cX1_here 16 = .ok (.getfield 170, 3) := by decide +kernel
theorem dX1_here_19 : decode cX1_here 19 = .ok (.iaload, 1) := by decide +kernel
theorem dX1_here_20 : decode cX1_here 20 = .ok (.goto 4, 3) := by decide +kernel
theorem dX1_here_23 : decode cX1_here 23 = .ok (.iconst 0, 1) := by decide +kernel
theorem dX1_here_24 : decode cX1_here 24 = .ok (.ireturn, 1) := by decide +kernel
theorem dX1_hex_0 : decode cX1_hex 0 = .ok (.iload_n 0, 1) := by decide +kernel
theorem dX1_hex_1 : decode cX1_hex 1 = .ok (.bipush 48, 2) := by decide +kernel
theorem dX1_hex_3 : decode cX1_hex 3 = .ok (.if_icmp .lt 16, 3) := by decide +kernel
theorem dX1_hex_6 : decode cX1_hex 6 = .ok (.iload_n 0, 1) := by decide +kernel
theorem dX1_hex_7 : decode cX1_hex 7 = .ok (.bipush 57, 2) := by decide +kernel
theorem dX1_hex_9 : decode cX1_hex 9 = .ok (.if_icmp .gt 10, 3) := by decide +kernel
theorem dX1_hex_12 : decode cX1_hex 12 = .ok (.iload_n 0, 1) := by decide +kernel
theorem dX1_hex_13 : decode cX1_hex 13 = .ok (.bipush 48, 2) := by decide +kernel
theorem dX1_hex_15 : decode cX1_hex 15 = .ok (.isub, 1) := by decide +kernel
theorem dX1_hex_16 : decode cX1_hex 16 = .ok (.goto 26, 3) := by decide +kernel
theorem dX1_hex_19 : decode cX1_hex 19 = .ok (.iload_n 0, 1) := by decide +kernel
theorem dX1_hex_20 : decode cX1_hex 20 = .ok (.bipush 97, 2) := by decide +kernel
theorem dX1_hex_22 : decode cX1_hex 22 = .ok (.if_icmp .lt 19, 3) := by decide +kernel
theorem dX1_hex_25 : decode cX1_hex 25 = .ok (.iload_n 0, 1) := by decide +kernel
theorem dX1_hex_26 : decode cX1_hex 26 = .ok (.bipush 102, 2) := by decide +kernel
theorem dX1_hex_28 : decode cX1_hex 28 = .ok (.if_icmp .gt 13, 3) := by decide +kernel
theorem dX1_hex_31 : decode cX1_hex 31 = .ok (.iload_n 0, 1) := by decide +kernel
theorem dX1_hex_32 : decode cX1_hex 32 = .ok (.bipush 97, 2) := by decide +kernel
theorem dX1_hex_34 : decode cX1_hex 34 = .ok (.isub, 1) := by decide +kernel
theorem dX1_hex_35 : decode cX1_hex 35 = .ok (.bipush 10, 2) := by decide +kernel
theorem dX1_hex_37 : decode cX1_hex 37 = .ok (.iadd, 1) := by decide +kernel
theorem dX1_hex_38 : decode cX1_hex 38 = .ok (.goto 4, 3) := by decide +kernel
theorem dX1_hex_41 : decode cX1_hex 41 = .ok (.iconst (-1), 1) := by decide +kernel
theorem dX1_hex_42 : decode cX1_hex 42 = .ok (.ireturn, 1) := by decide +kernel
theorem dX1_isAccess_0 : decode cX1_isAccess 0 = .ok (.iload_n 0, 1) := by decide +kernel
theorem dX1_isAccess_1 : decode cX1_isAccess 1 = .ok (.bipush 119, 2) := by decide +kernel
theorem dX1_isAccess_3 : decode cX1_isAccess 3 = .ok (.if_icmp .eq 39, 3) := by decide +kernel
theorem dX1_isAccess_6 : decode cX1_isAccess 6 = .ok (.iload_n 0, 1) := by decide +kernel
theorem dX1_isAccess_7 : decode cX1_isAccess 7 = .ok (.bipush 114, 2) := by decide +kernel
theorem dX1_isAccess_9 : decode cX1_isAccess 9 = .ok (.if_icmp .eq 33, 3) := by decide +kernel
theorem dX1_isAccess_12 : decode cX1_isAccess 12 = .ok (.iload_n 0, 1) := by decide +kernel
theorem dX1_isAccess_13 : decode cX1_isAccess 13 = .ok (.bipush 111, 2) := by decide +kernel
theorem dX1_isAccess_15 : decode cX1_isAccess 15 = .ok (.if_icmp .eq 27, 3) := by decide +kernel
theorem dX1_isAccess_18 : decode cX1_isAccess 18 = .ok (.iload_n 0, 1) := by decide +kernel
theorem dX1_isAccess_19 : decode cX1_isAccess 19 = .ok (.bipush 99, 2) := by decide +kernel
theorem dX1_isAccess_21 : decode cX1_isAccess 21 = .ok (.if_icmp .eq 21, 3) := by decide +kernel
theorem dX1_isAccess_24 : decode cX1_isAccess 24 = .ok (.iload_n 0, 1) := by decide +kernel
theorem dX1_isAccess_25 : decode cX1_isAccess 25 = .ok (.bipush 116, 2) := by decide +kernel
theorem dX1_isAccess_27 : decode cX1_isAccess 27 = .ok (.if_icmp .eq 15, 3) := by decide +kernel
theorem dX1_isAccess_30 : decode cX1_isAccess 30 = .ok (.iload_n 0, 1) := by decide +kernel
theorem dX1_isAccess_31 : decode cX1_isAccess 31 = .ok (.bipush 115, 2) := by decide +kernel
theorem dX1_isAccess_33 : decode cX1_isAccess 33 = .ok (.if_icmp .eq 9, 3) := by decide +kernel
theorem dX1_isAccess_36 : decode cX1_isAccess 36 = .ok (.iload_n 0, 1) := by decide +kernel
theorem dX1_isAccess_37 : decode cX1_isAccess 37 = .ok (.bipush 112, 2) := by decide +kernel
theorem dX1_isAccess_39 : decode cX1_isAccess 39 = .ok (.if_icmp .ne 7, 3) := by decide +kernel
theorem dX1_isAccess_42 : decode cX1_isAccess 42 = .ok (.iconst 1, 1) := by decide +kernel
theorem dX1_isAccess_43 : decode cX1_isAccess 43 = .ok (.goto 4, 3) := by decide +kernel
theorem dX1_isAccess_46 : decode cX1_isAccess 46 = .ok (.iconst 0, 1) := by decide +kernel
theorem dX1_isAccess_47 : decode cX1_isAccess 47 = .ok (.ireturn, 1) := by decide +kernel
theorem dX1_isFetch_0 : decode cX1_isFetch 0 = .ok (.aload_n 0, 1) := by decide +kernel
theorem dX1_isFetch_1 : decode cX1_isFetch 1 = .ok (.iload_n 1, 1) := by decide +kernel
theorem dX1_isFetch_2 : decode cX1_isFetch 2 = .ok (.invokevirtual 317, 3) := by decide +kernel
theorem dX1_isFetch_5 : decode cX1_isFetch 5 = .ok (.ifCond .eq 18, 3) := by decide +kernel
theorem dX1_isFetch_8 : decode cX1_isFetch 8 = .ok (.aload_n 0, 1) := by decide +kernel
theorem dX1_isFetch_9 : decode cX1_isFetch 9 = .ok (.getfield 80, 3) := by decide +kernel
theorem dX1_isFetch_12 : decode cX1_isFetch 12 = .ok (.iload_n 1, 1) := by decide +kernel
theorem dX1_isFetch_13 : decode cX1_isFetch 13 = .ok (.iaload, 1) := by decide +kernel
theorem dX1_isFetch_14 : decode cX1_isFetch 14 = .ok (.bipush 111, 2) := by decide +kernel
theorem dX1_isFetch_16 : decode cX1_isFetch 16 = .ok (.if_icmp .eq 7, 3) := by decide +kernel
theorem dX1_isFetch_19 : decode cX1_isFetch 19 = .ok (.iconst 1, 1) := by decide +kernel
theorem dX1_isFetch_20 : decode cX1_isFetch 20 = .ok (.goto 4, 3) := by decide +kernel
theorem dX1_isFetch_23 : decode cX1_isFetch 23 = .ok (.iconst 0, 1) := by decide +kernel
theorem dX1_isFetch_24 : decode cX1_isFetch 24 = .ok (.ireturn, 1) := by decide +kernel
theorem dX1_isField_0 : decode cX1_isField 0 = .ok (.aload_n 0, 1) := by decide +kernel
theorem dX1_isField_1 : decode cX1_isField 1 = .ok (.getfield 257, 3) := by decide +kernel
theorem dX1_isField_4 : decode cX1_isField 4 = .ok (.ifCond .eq 26, 3) := by decide +kernel
theorem dX1_isField_7 : decode cX1_isField 7 = .ok (.iload_n 1, 1) := by decide +kernel
theorem dX1_isField_8 : decode cX1_isField 8 = .ok (.ifCond .lt 22, 3) := by decide +kernel
theorem dX1_isField_11 : decode cX1_isField 11 = .ok (.iload_n 1, 1) := by decide +kernel
theorem dX1_isField_12 : decode cX1_isField 12 = .ok (.bipush 26, 2) := by decide +kernel
theorem dX1_isField_14 : decode cX1_isField 14 = .ok (.if_icmp .ge 16, 3) := by decide +kernel
theorem dX1_isField_17 : decode cX1_isField 17 = .ok (.aload_n 0, 1) := by decide +kernel
theorem dX1_isField_18 : decode cX1_isField 18 = .ok (.getfield 76, 3) := by decide +kernel
theorem dX1_isField_21 : decode cX1_isField 21 = .ok (.iload_n 1, 1) := by decide +kernel
theorem dX1_isField_22 : decode cX1_isField 22 = .ok (.baload, 1) := by decide +kernel
theorem dX1_isField_23 : decode cX1_isField 23 = .ok (.ifCond .eq 7, 3) := by decide +kernel
theorem dX1_isField_26 : decode cX1_isField 26 = .ok (.iconst 1, 1) := by decide +kernel
theorem dX1_isField_27 : decode cX1_isField 27 = .ok (.goto 4, 3) := by decide +kernel
theorem dX1_isField_30 : decode cX1_isField 30 = .ok (.iconst 0, 1) := by decide +kernel
theorem dX1_isField_31 : decode cX1_isField 31 = .ok (.ireturn, 1) := by decide +kernel
theorem dX1_isFit_0 : decode cX1_isFit 0 = .ok (.iload_n 2, 1) := by decide +kernel
theorem dX1_isFit_1 : decode cX1_isFit 1 = .ok (.ifCond .lt 19, 3) := by decide +kernel
theorem dX1_isFit_4 : decode cX1_isFit 4 = .ok (.iload_n 2, 1) := by decide +kernel
theorem dX1_isFit_5 : decode cX1_isFit 5 = .ok (.iconst 1, 1) := by decide +kernel
theorem dX1_isFit_6 : decode cX1_isFit 6 = .ok (.aload_n 0, 1) := by decide +kernel
theorem dX1_isFit_7 : decode cX1_isFit 7 = .ok (.getfield 89, 3) := by decide +kernel
theorem dX1_isFit_10 : decode cX1_isFit 10 = .ok (.iload_n 1, 1) := by decide +kernel
theorem dX1_isFit_11 : decode cX1_isFit 11 = .ok (.iaload, 1) := by decide +kernel
theorem dX1_isFit_12 : decode cX1_isFit 12 = .ok (.ishl, 1) := by decide +kernel
theorem dX1_isFit_13 : decode cX1_isFit 13 = .ok (.if_icmp .ge 7, 3) := by decide +kernel
theorem dX1_isFit_16 : decode cX1_isFit 16 = .ok (.iconst 1, 1) := by decide +kernel
theorem dX1_isFit_17 : decode cX1_isFit 17 = .ok (.goto 4, 3) := by decide +kernel
theorem dX1_isFit_20 : decode cX1_isFit 20 = .ok (.iconst 0, 1) := by decide +kernel
theorem dX1_isFit_21 : decode cX1_isFit 21 = .ok (.ireturn, 1) := by decide +kernel
theorem dX1_isIn_0 : decode cX1_isIn 0 = .ok (.aload_n 0, 1) := by decide +kernel
theorem dX1_isIn_1 : decode cX1_isIn 1 = .ok (.getfield 76, 3) := by decide +kernel
theorem dX1_isIn_4 : decode cX1_isIn 4 = .ok (.iload_n 1, 1) := by decide +kernel
theorem dX1_isIn_5 : decode cX1_isIn 5 = .ok (.baload, 1) := by decide +kernel
theorem dX1_isIn_6 : decode cX1_isIn 6 = .ok (.ifCond .eq 17, 3) := by decide +kernel
theorem dX1_isIn_9 : decode cX1_isIn 9 = .ok (.aload_n 0, 1) := by decide +kernel
theorem dX1_isIn_10 : decode cX1_isIn 10 = .ok (.getfield 83, 3) := by decide +kernel
theorem dX1_isIn_13 : decode cX1_isIn 13 = .ok (.iload_n 1, 1) := by decide +kernel
theorem dX1_isIn_14 : decode cX1_isIn 14 = .ok (.iaload, 1) := by decide +kernel
theorem dX1_isIn_15 : decode cX1_isIn 15 = .ok (.iload_n 2, 1) := by decide +kernel
theorem dX1_isIn_16 : decode cX1_isIn 16 = .ok (.if_icmp .ne 7, 3) := by decide +kernel
theorem dX1_isIn_19 : decode cX1_isIn 19 = .ok (.iconst 1, 1) := by decide +kernel
theorem dX1_isIn_20 : decode cX1_isIn 20 = .ok (.goto 4, 3) := by decide +kernel
theorem dX1_isIn_23 : decode cX1_isIn 23 = .ok (.iconst 0, 1) := by decide +kernel
theorem dX1_isIn_24 : decode cX1_isIn 24 = .ok (.ireturn, 1) := by decide +kernel
theorem dX1_isLooked_0 : decode cX1_isLooked 0 = .ok (.iload_n 1, 1) := by decide +kernel
theorem dX1_isLooked_1 : decode cX1_isLooked 1 = .ok (.iconst (-1), 1) := by decide +kernel
theorem dX1_isLooked_2 : decode cX1_isLooked 2 = .ok (.if_icmp .eq 29, 3) := by decide +kernel
theorem dX1_isLooked_5 : decode cX1_isLooked 5 = .ok (.aload_n 0, 1) := by decide +kernel
theorem dX1_isLooked_6 : decode cX1_isLooked 6 = .ok (.getfield 31, 3) := by decide +kernel
theorem dX1_isLooked_9 : decode cX1_isLooked 9 = .ok (.iload_n 1, 1) := by decide +kernel
theorem dX1_isLooked_10 : decode cX1_isLooked 10 = .ok (.iaload, 1) := by decide +kernel
theorem dX1_isLooked_11 : decode cX1_isLooked 11 = .ok (.bipush 114, 2) := by decide +kernel
theorem dX1_isLooked_13 : decode cX1_isLooked 13 = .ok (.if_icmp .eq 18, 3) := by decide +kernel
theorem dX1_isLooked_16 : decode cX1_isLooked 16 = .ok (.aload_n 0, 1) := by decide +kernel
theorem dX1_isLooked_17 : decode cX1_isLooked 17 = .ok (.getfield 31, 3) := by decide +kernel
theorem dX1_isLooked_20 : decode cX1_isLooked 20 = .ok (.iload_n 1, 1) := by decide +kernel
theorem dX1_isLooked_21 : decode cX1_isLooked 21 = .ok (.iaload, 1) := by decide +kernel
theorem dX1_isLooked_22 : decode cX1_isLooked 22 = .ok (.bipush 99, 2) := by decide +kernel
theorem dX1_isLooked_24 : decode cX1_isLooked 24 = .ok (.if_icmp .eq 7, 3) := by decide +kernel
theorem dX1_isLooked_27 : decode cX1_isLooked 27 = .ok (.iconst 1, 1) := by decide +kernel
theorem dX1_isLooked_28 : decode cX1_isLooked 28 = .ok (.goto 4, 3) := by decide +kernel
theorem dX1_isLooked_31 : decode cX1_isLooked 31 = .ok (.iconst 0, 1) := by decide +kernel
theorem dX1_isLooked_32 : decode cX1_isLooked 32 = .ok (.ireturn, 1) := by decide +kernel
theorem dX1_isName_0 : decode cX1_isName 0 = .ok (.iload_n 0, 1) := by decide +kernel
theorem dX1_isName_1 : decode cX1_isName 1 = .ok (.bipush 65, 2) := by decide +kernel
theorem dX1_isName_3 : decode cX1_isName 3 = .ok (.if_icmp .lt 13, 3) := by decide +kernel
theorem dX1_isName_6 : decode cX1_isName 6 = .ok (.iload_n 0, 1) := by decide +kernel
theorem dX1_isName_7 : decode cX1_isName 7 = .ok (.bipush 90, 2) := by decide +kernel
theorem dX1_isName_9 : decode cX1_isName 9 = .ok (.if_icmp .gt 7, 3) := by decide +kernel
theorem dX1_isName_12 : decode cX1_isName 12 = .ok (.iconst 1, 1) := by decide +kernel
theorem dX1_isName_13 : decode cX1_isName 13 = .ok (.goto 4, 3) := by decide +kernel
theorem dX1_isName_16 : decode cX1_isName 16 = .ok (.iconst 0, 1) := by decide +kernel
theorem dX1_isName_17 : decode cX1_isName 17 = .ok (.ireturn, 1) := by decide +kernel
theorem dX1_isPut_0 : decode cX1_isPut 0 = .ok (.aload_n 0, 1) := by decide +kernel
theorem dX1_isPut_1 : decode cX1_isPut 1 = .ok (.iload_n 1, 1) := by decide +kernel
theorem dX1_isPut_2 : decode cX1_isPut 2 = .ok (.invokevirtual 317, 3) := by decide +kernel
theorem dX1_isPut_5 : decode cX1_isPut 5 = .ok (.ifCond .eq 38, 3) := by decide +kernel
theorem dX1_isPut_8 : decode cX1_isPut 8 = .ok (.aload_n 0, 1) := by decide +kernel
theorem dX1_isPut_9 : decode cX1_isPut 9 = .ok (.getfield 80, 3) := by decide +kernel
theorem dX1_isPut_12 : decode cX1_isPut 12 = .ok (.iload_n 1, 1) := by decide +kernel
theorem dX1_isPut_13 : decode cX1_isPut 13 = .ok (.iaload, 1) := by decide +kernel
theorem dX1_isPut_14 : decode cX1_isPut 14 = .ok (.bipush 114, 2) := by decide +kernel
theorem dX1_isPut_16 : decode cX1_isPut 16 = .ok (.if_icmp .eq 27, 3) := by decide +kernel
theorem dX1_isPut_19 : decode cX1_isPut 19 = .ok (.aload_n 0, 1) := by decide +kernel
theorem dX1_isPut_20 : decode cX1_isPut 20 = .ok (.getfield 80, 3) := by decide +kernel
theorem dX1_isPut_23 : decode cX1_isPut 23 = .ok (.iload_n 1, 1) := by decide +kernel
theorem dX1_isPut_24 : decode cX1_isPut 24 = .ok (.iaload, 1) := by decide +kernel
theorem dX1_isPut_25 : decode cX1_isPut 25 = .ok (.bipush 99, 2) := by decide +kernel
theorem dX1_isPut_27 : decode cX1_isPut 27 = .ok (.if_icmp .eq 16, 3) := by decide +kernel
theorem dX1_isPut_30 : decode cX1_isPut 30 = .ok (.aload_n 0, 1) := by decide +kernel
theorem dX1_isPut_31 : decode cX1_isPut 31 = .ok (.iload_n 1, 1) := by decide +kernel
theorem dX1_isPut_32 : decode cX1_isPut 32 = .ok (.iload_n 2, 1) := by decide +kernel
theorem dX1_isPut_33 : decode cX1_isPut 33 = .ok (.invokevirtual 334, 3) := by decide +kernel
theorem dX1_isPut_36 : decode cX1_isPut 36 = .ok (.ifCond .eq 7, 3) := by decide +kernel
theorem dX1_isPut_39 : decode cX1_isPut 39 = .ok (.iconst 1, 1) := by decide +kernel
theorem dX1_isPut_40 : decode cX1_isPut 40 = .ok (.goto 4, 3) := by decide +kernel
theorem dX1_isPut_43 : decode cX1_isPut 43 = .ok (.iconst 0, 1) := by decide +kernel
theorem dX1_isPut_44 : decode cX1_isPut 44 = .ok (.ireturn, 1) := by decide +kernel
theorem dX1_isSituation_0 : decode cX1_isSituation 0 = .ok (.aload_n 0, 1) := by decide +kernel
theorem dX1_isSituation_1 : decode cX1_isSituation 1 = .ok (.getfield 143, 3) := by decide +kernel
theorem dX1_isSituation_4 : decode cX1_isSituation 4 = .ok (.iload_n 1, 1) := by decide +kernel
theorem dX1_isSituation_5 : decode cX1_isSituation 5 = .ok (.iaload, 1) := by decide +kernel
theorem dX1_isSituation_6 : decode cX1_isSituation 6 = .ok (.iload_n 2, 1) := by decide +kernel
theorem dX1_isSituation_7 : decode cX1_isSituation 7 = .ok (.if_icmp .ne 16, 3) := by decide +kernel
theorem dX1_isSituation_10 : decode cX1_isSituation 10 = .ok (.aload_n 0, 1) := by decide +kernel
theorem dX1_isSituation_11 : decode cX1_isSituation 11 = .ok (.getfield 149, 3) := by decide +kernel
theorem dX1_isSituation_14 : decode cX1_isSituation 14 = .ok (.iload_n 1, 1) := by decide +kernel
theorem dX1_isSituation_15 : decode cX1_isSituation 15 = .ok (.iaload, 1) := by decide +kernel
theorem dX1_isSituation_16 : decode cX1_isSituation 16 = .ok (.aload_n 0, 1) := by decide +kernel
theorem dX1_isSituation_17 : decode cX1_isSituation 17 = .ok (.invokevirtual 387, 3) := by decide +kernel
theorem dX1_isSituation_20 : decode cX1_isSituation 20 = .ok (.if_icmp .eq 5, 3) := by decide +kernel
theorem dX1_isSituation_23 : decode cX1_isSituation 23 = .ok (.iconst 0, 1) := by decide +kernel
theorem dX1_isSituation_24 : decode cX1_isSituation 24 = .ok (.ireturn, 1) := by decide +kernel
theorem dX1_isSituation_25 : decode cX1_isSituation 25 = .ok (.iconst 0, 1) := by decide +kernel
theorem dX1_isSituation_26 : decode cX1_isSituation 26 = .ok (.istore_n 3, 1) := by decide +kernel
theorem dX1_isSituation_27 : decode cX1_isSituation 27 = .ok (.iload_n 3, 1) := by decide +kernel
theorem dX1_isSituation_28 : decode cX1_isSituation 28 = .ok (.bipush 26, 2) := by decide +kernel
theorem dX1_isSituation_30 : decode cX1_isSituation 30 = .ok (.if_icmp .ge 48, 3) := by decide +kernel
theorem dX1_isSituation_33 : decode cX1_isSituation 33 = .ok (.aload_n 0, 1) := by decide +kernel
theorem dX1_isSituation_34 : decode cX1_isSituation 34 = .ok (.getfield 76, 3) := by decide +kernel
theorem dX1_isSituation_37 : decode cX1_isSituation 37 = .ok (.iload_n 3, 1) := by decide +kernel
theorem dX1_isSituation_38 : decode cX1_isSituation 38 = .ok (.baload, 1) := by decide +kernel
theorem dX1_isSituation_39 : decode cX1_isSituation 39 = .ok (.ifCond .eq 33, 3) := by decide +kernel
theorem dX1_isSituation_42 : decode cX1_isSituation 42 = .ok (.aload_n 0, 1) := by decide +kernel
theorem dX1_isSituation_43 : decode cX1_isSituation 43 = .ok (.iload_n 3, 1) := by decide +kernel
theorem dX1_isSituation_44 : decode cX1_isSituation 44 = .ok (.invokevirtual 297, 3) := by decide +kernel
theorem dX1_isSituation_47 : decode cX1_isSituation 47 = .ok (.ifCond .eq 25, 3) := by decide +kernel
theorem dX1_isSituation_50 : decode cX1_isSituation 50 = .ok (.aload_n 0, 1) := by decide +kernel
theorem dX1_isSituation_51 : decode cX1_isSituation 51 = .ok (.getfield 146, 3) := by decide +kernel
theorem dX1_isSituation_54 : decode cX1_isSituation 54 = .ok (.bipush 26, 2) := by decide +kernel
theorem dX1_isSituation_56 : decode cX1_isSituation 56 = .ok (.iload_n 1, 1) := by decide +kernel
theorem dX1_isSituation_57 : decode cX1_isSituation 57 = .ok (.imul, 1) := by decide +kernel
theorem dX1_isSituation_58 : decode cX1_isSituation 58 = .ok (.iload_n 3, 1) := by decide +kernel
theorem dX1_isSituation_59 : decode cX1_isSituation 59 = .ok (.iadd, 1) := by decide +kernel
theorem dX1_isSituation_60 : decode cX1_isSituation 60 = .ok (.iaload, 1) := by decide +kernel
theorem dX1_isSituation_61 : decode cX1_isSituation 61 = .ok (.aload_n 0, 1) := by decide +kernel
theorem dX1_isSituation_62 : decode cX1_isSituation 62 = .ok (.getfield 107, 3) := by decide +kernel
theorem dX1_isSituation_65 : decode cX1_isSituation 65 = .ok (.iload_n 3, 1) := by decide +kernel
theorem dX1_isSituation_66 : decode cX1_isSituation 66 = .ok (.iaload, 1) := by decide +kernel
theorem dX1_isSituation_67 : decode cX1_isSituation 67 = .ok (.if_icmp .eq 5, 3) := by decide +kernel
theorem dX1_isSituation_70 : decode cX1_isSituation 70 = .ok (.iconst 0, 1) := by decide +kernel
theorem dX1_isSituation_71 : decode cX1_isSituation 71 = .ok (.ireturn, 1) := by decide +kernel
theorem dX1_isSituation_72 : decode cX1_isSituation 72 = .ok (.iinc 3 1, 3) := by decide +kernel
theorem dX1_isSituation_75 : decode cX1_isSituation 75 = .ok (.goto (-48), 3) := by decide +kernel
theorem dX1_isSituation_78 : decode cX1_isSituation 78 = .ok (.iconst 1, 1) := by decide +kernel
theorem dX1_isSituation_79 : decode cX1_isSituation 79 = .ok (.ireturn, 1) := by decide +kernel
theorem dX1_isStored_0 : decode cX1_isStored 0 = .ok (.aload_n 0, 1) := by decide +kernel
theorem dX1_isStored_1 : decode cX1_isStored 1 = .ok (.getfield 80, 3) := by decide +kernel
theorem dX1_isStored_4 : decode cX1_isStored 4 = .ok (.iload_n 1, 1) := by decide +kernel
theorem dX1_isStored_5 : decode cX1_isStored 5 = .ok (.iaload, 1) := by decide +kernel
theorem dX1_isStored_6 : decode cX1_isStored 6 = .ok (.bipush 119, 2) := by decide +kernel
