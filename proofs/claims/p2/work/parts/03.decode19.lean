theorem dX2_clear_11 : decode cX2_clear 11 = .ok (.getfield 51, 3) := by decide +kernel
theorem dX2_clear_14 : decode cX2_clear 14 = .ok (.iconst 0, 1) := by decide +kernel
theorem dX2_clear_15 : decode cX2_clear 15 = .ok (.putfield 62, 3) := by decide +kernel
theorem dX2_clear_18 : decode cX2_clear 18 = .ok (.return_, 1) := by decide +kernel
theorem dX2_fits_0 : decode cX2_fits 0 = .ok (.iload_n 2, 1) := by decide +kernel
theorem dX2_fits_1 : decode cX2_fits 1 = .ok (.aload_n 0, 1) := by decide +kernel
theorem dX2_fits_2 : decode cX2_fits 2 = .ok (.getfield 39, 3) := by decide +kernel
theorem dX2_fits_5 : decode cX2_fits 5 = .ok (.iload_n 1, 1) := by decide +kernel
theorem dX2_fits_6 : decode cX2_fits 6 = .ok (.iaload, 1) := by decide +kernel
theorem dX2_fits_7 : decode cX2_fits 7 = .ok (.aload_n 0, 1) := by decide +kernel
theorem dX2_fits_8 : decode cX2_fits 8 = .ok (.getfield 42, 3) := by decide +kernel
theorem dX2_fits_11 : decode cX2_fits 11 = .ok (.iload_n 1, 1) := by decide +kernel
theorem dX2_fits_12 : decode cX2_fits 12 = .ok (.iaload, 1) := by decide +kernel
theorem dX2_fits_13 : decode cX2_fits 13 = .ok (.isub, 1) := by decide +kernel
theorem dX2_fits_14 : decode cX2_fits 14 = .ok (.iconst 1, 1) := by decide +kernel
theorem dX2_fits_15 : decode cX2_fits 15 = .ok (.iadd, 1) := by decide +kernel
theorem dX2_fits_16 : decode cX2_fits 16 = .ok (.ishr, 1) := by decide +kernel
theorem dX2_fits_17 : decode cX2_fits 17 = .ok (.ifCond .ne 7, 3) := by decide +kernel
theorem dX2_fits_20 : decode cX2_fits 20 = .ok (.iconst 1, 1) := by decide +kernel
theorem dX2_fits_21 : decode cX2_fits 21 = .ok (.goto 4, 3) := by decide +kernel
theorem dX2_fits_24 : decode cX2_fits 24 = .ok (.iconst 0, 1) := by decide +kernel
theorem dX2_fits_25 : decode cX2_fits 25 = .ok (.ireturn, 1) := by decide +kernel
theorem dX2_rowOf_0 : decode cX2_rowOf 0 = .ok (.iconst 0, 1) := by decide +kernel
theorem dX2_rowOf_1 : decode cX2_rowOf 1 = .ok (.istore_n 2, 1) := by decide +kernel
theorem dX2_rowOf_2 : decode cX2_rowOf 2 = .ok (.iload_n 2, 1) := by decide +kernel
theorem dX2_rowOf_3 : decode cX2_rowOf 3 = .ok (.aload_n 0, 1) := by decide +kernel
theorem dX2_rowOf_4 : decode cX2_rowOf 4 = .ok (.getfield 59, 3) := by decide +kernel
theorem dX2_rowOf_7 : decode cX2_rowOf 7 = .ok (.if_icmp .ge 21, 3) := by decide +kernel
theorem dX2_rowOf_10 : decode cX2_rowOf 10 = .ok (.aload_n 0, 1) := by decide +kernel
theorem dX2_rowOf_11 : decode cX2_rowOf 11 = .ok (.getfield 27, 3) := by decide +kernel
theorem dX2_rowOf_14 : decode cX2_rowOf 14 = .ok (.iload_n 2, 1) := by decide +kernel
theorem dX2_rowOf_15 : decode cX2_rowOf 15 = .ok (.iaload, 1) := by decide +kernel
theorem dX2_rowOf_16 : decode cX2_rowOf 16 = .ok (.iload_n 1, 1) := by decide +kernel
theorem dX2_rowOf_17 : decode cX2_rowOf 17 = .ok (.if_icmp .ne 5, 3) := by decide +kernel
theorem dX2_rowOf_20 : decode cX2_rowOf 20 = .ok (.iload_n 2, 1) := by decide +kernel
theorem dX2_rowOf_21 : decode cX2_rowOf 21 = .ok (.ireturn, 1) := by decide +kernel
theorem dX2_rowOf_22 : decode cX2_rowOf 22 = .ok (.iinc 2 1, 3) := by decide +kernel
theorem dX2_rowOf_25 : decode cX2_rowOf 25 = .ok (.goto (-23), 3) := by decide +kernel
theorem dX2_rowOf_28 : decode cX2_rowOf 28 = .ok (.iconst (-1), 1) := by decide +kernel
theorem dX2_rowOf_29 : decode cX2_rowOf 29 = .ok (.ireturn, 1) := by decide +kernel
theorem dX3_areApart_0 : decode cX3_areApart 0 = .ok (.aload_n 0, 1) := by decide +kernel
theorem dX3_areApart_1 : decode cX3_areApart 1 = .ok (.getfield 9, 3) := by decide +kernel
theorem dX3_areApart_4 : decode cX3_areApart 4 = .ok (.getfield 69, 3) := by decide +kernel
theorem dX3_areApart_7 : decode cX3_areApart 7 = .ok (.iload_n 1, 1) := by decide +kernel
theorem dX3_areApart_8 : decode cX3_areApart 8 = .ok (.iaload, 1) := by decide +kernel
theorem dX3_areApart_9 : decode cX3_areApart 9 = .ok (.iconst (-1), 1) := by decide +kernel
theorem dX3_areApart_10 : decode cX3_areApart 10 = .ok (.if_icmp .eq 49, 3) := by decide +kernel
theorem dX3_areApart_13 : decode cX3_areApart 13 = .ok (.aload_n 0, 1) := by decide +kernel
theorem dX3_areApart_14 : decode cX3_areApart 14 = .ok (.getfield 9, 3) := by decide +kernel
theorem dX3_areApart_17 : decode cX3_areApart 17 = .ok (.getfield 69, 3) := by decide +kernel
theorem dX3_areApart_20 : decode cX3_areApart 20 = .ok (.iload_n 1, 1) := by decide +kernel
theorem dX3_areApart_21 : decode cX3_areApart 21 = .ok (.iaload, 1) := by decide +kernel
theorem dX3_areApart_22 : decode cX3_areApart 22 = .ok (.aload_n 0, 1) := by decide +kernel
theorem dX3_areApart_23 : decode cX3_areApart 23 = .ok (.getfield 9, 3) := by decide +kernel
theorem dX3_areApart_26 : decode cX3_areApart 26 = .ok (.getfield 69, 3) := by decide +kernel
theorem dX3_areApart_29 : decode cX3_areApart 29 = .ok (.iload_n 2, 1) := by decide +kernel
theorem dX3_areApart_30 : decode cX3_areApart 30 = .ok (.iaload, 1) := by decide +kernel
theorem dX3_areApart_31 : decode cX3_areApart 31 = .ok (.if_icmp .ne 28, 3) := by decide +kernel
theorem dX3_areApart_34 : decode cX3_areApart 34 = .ok (.aload_n 0, 1) := by decide +kernel
theorem dX3_areApart_35 : decode cX3_areApart 35 = .ok (.getfield 9, 3) := by decide +kernel
theorem dX3_areApart_38 : decode cX3_areApart 38 = .ok (.getfield 72, 3) := by decide +kernel
theorem dX3_areApart_41 : decode cX3_areApart 41 = .ok (.iload_n 1, 1) := by decide +kernel
theorem dX3_areApart_42 : decode cX3_areApart 42 = .ok (.iaload, 1) := by decide +kernel
theorem dX3_areApart_43 : decode cX3_areApart 43 = .ok (.aload_n 0, 1) := by decide +kernel
theorem dX3_areApart_44 : decode cX3_areApart 44 = .ok (.getfield 9, 3) := by decide +kernel
theorem dX3_areApart_47 : decode cX3_areApart 47 = .ok (.getfield 72, 3) := by decide +kernel
theorem dX3_areApart_50 : decode cX3_areApart 50 = .ok (.iload_n 2, 1) := by decide +kernel
theorem dX3_areApart_51 : decode cX3_areApart 51 = .ok (.iaload, 1) := by decide +kernel
theorem dX3_areApart_52 : decode cX3_areApart 52 = .ok (.if_icmp .eq 7, 3) := by decide +kernel
theorem dX3_areApart_55 : decode cX3_areApart 55 = .ok (.iconst 1, 1) := by decide +kernel
theorem dX3_areApart_56 : decode cX3_areApart 56 = .ok (.goto 4, 3) := by decide +kernel
theorem dX3_areApart_59 : decode cX3_areApart 59 = .ok (.iconst 0, 1) := by decide +kernel
theorem dX3_areApart_60 : decode cX3_areApart 60 = .ok (.ireturn, 1) := by decide +kernel
theorem dX3_badBank_0 : decode cX3_badBank 0 = .ok (.iconst 0, 1) := by decide +kernel
theorem dX3_badBank_1 : decode cX3_badBank 1 = .ok (.istore_n 1, 1) := by decide +kernel
theorem dX3_badBank_2 : decode cX3_badBank 2 = .ok (.iload_n 1, 1) := by decide +kernel
theorem dX3_badBank_3 : decode cX3_badBank 3 = .ok (.aload_n 0, 1) := by decide +kernel
theorem dX3_badBank_4 : decode cX3_badBank 4 = .ok (.getfield 9, 3) := by decide +kernel
theorem dX3_badBank_7 : decode cX3_badBank 7 = .ok (.getfield 66, 3) := by decide +kernel
theorem dX3_badBank_10 : decode cX3_badBank 10 = .ok (.if_icmp .ge 64, 3) := by decide +kernel
theorem dX3_badBank_13 : decode cX3_badBank 13 = .ok (.aload_n 0, 1) := by decide +kernel
theorem dX3_badBank_14 : decode cX3_badBank 14 = .ok (.getfield 9, 3) := by decide +kernel
theorem dX3_badBank_17 : decode cX3_badBank 17 = .ok (.getfield 69, 3) := by decide +kernel
theorem dX3_badBank_20 : decode cX3_badBank 20 = .ok (.iload_n 1, 1) := by decide +kernel
theorem dX3_badBank_21 : decode cX3_badBank 21 = .ok (.iaload, 1) := by decide +kernel
theorem dX3_badBank_22 : decode cX3_badBank 22 = .ok (.iconst (-1), 1) := by decide +kernel
theorem dX3_badBank_23 : decode cX3_badBank 23 = .ok (.if_icmp .eq 45, 3) := by decide +kernel
theorem dX3_badBank_26 : decode cX3_badBank 26 = .ok (.aload_n 0, 1) := by decide +kernel
theorem dX3_badBank_27 : decode cX3_badBank 27 = .ok (.aload_n 0, 1) := by decide +kernel
theorem dX3_badBank_28 : decode cX3_badBank 28 = .ok (.getfield 9, 3) := by decide +kernel
theorem dX3_badBank_31 : decode cX3_badBank 31 = .ok (.aload_n 0, 1) := by decide +kernel
theorem dX3_badBank_32 : decode cX3_badBank 32 = .ok (.getfield 9, 3) := by decide +kernel
theorem dX3_badBank_35 : decode cX3_badBank 35 = .ok (.getfield 69, 3) := by decide +kernel
theorem dX3_badBank_38 : decode cX3_badBank 38 = .ok (.iload_n 1, 1) := by decide +kernel
theorem dX3_badBank_39 : decode cX3_badBank 39 = .ok (.iaload, 1) := by decide +kernel
theorem dX3_badBank_40 : decode cX3_badBank 40 = .ok (.invokevirtual 53, 3) := by decide +kernel
theorem dX3_badBank_43 : decode cX3_badBank 43 = .ok (.aload_n 0, 1) := by decide +kernel
theorem dX3_badBank_44 : decode cX3_badBank 44 = .ok (.getfield 9, 3) := by decide +kernel
theorem dX3_badBank_47 : decode cX3_badBank 47 = .ok (.getfield 72, 3) := by decide +kernel
theorem dX3_badBank_50 : decode cX3_badBank 50 = .ok (.iload_n 1, 1) := by decide +kernel
theorem dX3_badBank_51 : decode cX3_badBank 51 = .ok (.iaload, 1) := by decide +kernel
theorem dX3_badBank_52 : decode cX3_badBank 52 = .ok (.invokevirtual 75, 3) := by decide +kernel
theorem dX3_badBank_55 : decode cX3_badBank 55 = .ok (.ifCond .ne 13, 3) := by decide +kernel
theorem dX3_badBank_58 : decode cX3_badBank 58 = .ok (.aload_n 0, 1) := by decide +kernel
theorem dX3_badBank_59 : decode cX3_badBank 59 = .ok (.getfield 9, 3) := by decide +kernel
theorem dX3_badBank_62 : decode cX3_badBank 62 = .ok (.getfield 78, 3) := by decide +kernel
theorem dX3_badBank_65 : decode cX3_badBank 65 = .ok (.iload_n 1, 1) := by decide +kernel
theorem dX3_badBank_66 : decode cX3_badBank 66 = .ok (.iaload, 1) := by decide +kernel
theorem dX3_badBank_67 : decode cX3_badBank 67 = .ok (.ireturn, 1) := by decide +kernel
theorem dX3_badBank_68 : decode cX3_badBank 68 = .ok (.iinc 1 1, 3) := by decide +kernel
theorem dX3_badBank_71 : decode cX3_badBank 71 = .ok (.goto (-69), 3) := by decide +kernel
theorem dX3_badBank_74 : decode cX3_badBank 74 = .ok (.iconst (-1), 1) := by decide +kernel
theorem dX3_badBank_75 : decode cX3_badBank 75 = .ok (.ireturn, 1) := by decide +kernel
theorem dX3_badField_0 : decode cX3_badField 0 = .ok (.iconst 0, 1) := by decide +kernel
theorem dX3_badField_1 : decode cX3_badField 1 = .ok (.istore_n 1, 1) := by decide +kernel
theorem dX3_badField_2 : decode cX3_badField 2 = .ok (.iconst 0, 1) := by decide +kernel
theorem dX3_badField_3 : decode cX3_badField 3 = .ok (.istore_n 2, 1) := by decide +kernel
theorem dX3_badField_4 : decode cX3_badField 4 = .ok (.iload_n 2, 1) := by decide +kernel
theorem dX3_badField_5 : decode cX3_badField 5 = .ok (.aload_n 0, 1) := by decide +kernel
theorem dX3_badField_6 : decode cX3_badField 6 = .ok (.getfield 9, 3) := by decide +kernel
theorem dX3_badField_9 : decode cX3_badField 9 = .ok (.getfield 35, 3) := by decide +kernel
theorem dX3_badField_12 : decode cX3_badField 12 = .ok (.if_icmp .ge 158, 3) := by decide +kernel
theorem dX3_badField_15 : decode cX3_badField 15 = .ok (.iload_n 2, 1) := by decide +kernel
theorem dX3_badField_16 : decode cX3_badField 16 = .ok (.ifCond .eq 26, 3) := by decide +kernel
theorem dX3_badField_19 : decode cX3_badField 19 = .ok (.aload_n 0, 1) := by decide +kernel
theorem dX3_badField_20 : decode cX3_badField 20 = .ok (.getfield 9, 3) := by decide +kernel
theorem dX3_badField_23 : decode cX3_badField 23 = .ok (.getfield 40, 3) := by decide +kernel
theorem dX3_badField_26 : decode cX3_badField 26 = .ok (.iload_n 2, 1) := by decide +kernel
theorem dX3_badField_27 : decode cX3_badField 27 = .ok (.iaload, 1) := by decide +kernel
theorem dX3_badField_28 : decode cX3_badField 28 = .ok (.aload_n 0, 1) := by decide +kernel
theorem dX3_badField_29 : decode cX3_badField 29 = .ok (.getfield 9, 3) := by decide +kernel
theorem dX3_badField_32 : decode cX3_badField 32 = .ok (.getfield 40, 3) := by decide +kernel
theorem dX3_badField_35 : decode cX3_badField 35 = .ok (.iload_n 2, 1) := by decide +kernel
theorem dX3_badField_36 : decode cX3_badField 36 = .ok (.iconst 1, 1) := by decide +kernel
theorem dX3_badField_37 : decode cX3_badField 37 = .ok (.isub, 1) := by decide +kernel
theorem dX3_badField_38 : decode cX3_badField 38 = .ok (.iaload, 1) := by decide +kernel
theorem dX3_badField_39 : decode cX3_badField 39 = .ok (.if_icmp .eq 5, 3) := by decide +kernel
theorem dX3_badField_42 : decode cX3_badField 42 = .ok (.iconst 0, 1) := by decide +kernel
theorem dX3_badField_43 : decode cX3_badField 43 = .ok (.istore_n 1, 1) := by decide +kernel
theorem dX3_badField_44 : decode cX3_badField 44 = .ok (.aload_n 0, 1) := by decide +kernel
theorem dX3_badField_45 : decode cX3_badField 45 = .ok (.getfield 9, 3) := by decide +kernel
theorem dX3_badField_48 : decode cX3_badField 48 = .ok (.getfield 44, 3) := by decide +kernel
theorem dX3_badField_51 : decode cX3_badField 51 = .ok (.iload_n 2, 1) := by decide +kernel
theorem dX3_badField_52 : decode cX3_badField 52 = .ok (.iaload, 1) := by decide +kernel
theorem dX3_badField_53 : decode cX3_badField 53 = .ok (.istore_n 3, 1) := by decide +kernel
theorem dX3_badField_54 : decode cX3_badField 54 = .ok (.aload_n 0, 1) := by decide +kernel
theorem dX3_badField_55 : decode cX3_badField 55 = .ok (.getfield 9, 3) := by decide +kernel
theorem dX3_badField_58 : decode cX3_badField 58 = .ok (.getfield 47, 3) := by decide +kernel
theorem dX3_badField_61 : decode cX3_badField 61 = .ok (.iload_n 2, 1) := by decide +kernel
theorem dX3_badField_62 : decode cX3_badField 62 = .ok (.iaload, 1) := by decide +kernel
theorem dX3_badField_63 : decode cX3_badField 63 = .ok (.istore 4, 2) := by decide +kernel
theorem dX3_badField_65 : decode cX3_badField 65 = .ok (.aload_n 0, 1) := by decide +kernel
theorem dX3_badField_66 : decode cX3_badField 66 = .ok (.getfield 9, 3) := by decide +kernel
theorem dX3_badField_69 : decode cX3_badField 69 = .ok (.aload_n 0, 1) := by decide +kernel
theorem dX3_badField_70 : decode cX3_badField 70 = .ok (.getfield 9, 3) := by decide +kernel
theorem dX3_badField_73 : decode cX3_badField 73 = .ok (.getfield 50, 3) := by decide +kernel
theorem dX3_badField_76 : decode cX3_badField 76 = .ok (.iload_n 2, 1) := by decide +kernel
theorem dX3_badField_77 : decode cX3_badField 77 = .ok (.iaload, 1) := by decide +kernel
theorem dX3_badField_78 : decode cX3_badField 78 = .ok (.invokevirtual 53, 3) := by decide +kernel
theorem dX3_badField_81 : decode cX3_badField 81 = .ok (.iload_n 2, 1) := by decide +kernel
theorem dX3_badField_82 : decode cX3_badField 82 = .ok (.if_icmp .lt 35, 3) := by decide +kernel
theorem dX3_badField_85 : decode cX3_badField 85 = .ok (.iload_n 3, 1) := by decide +kernel
theorem dX3_badField_86 : decode cX3_badField 86 = .ok (.bipush 16, 2) := by decide +kernel
theorem dX3_badField_88 : decode cX3_badField 88 = .ok (.if_icmp .ge 29, 3) := by decide +kernel
theorem dX3_badField_91 : decode cX3_badField 91 = .ok (.iload_n 3, 1) := by decide +kernel
theorem dX3_badField_92 : decode cX3_badField 92 = .ok (.iload 4, 2) := by decide +kernel
theorem dX3_badField_94 : decode cX3_badField 94 = .ok (.if_icmp .lt 23, 3) := by decide +kernel
theorem dX3_badField_97 : decode cX3_badField 97 = .ok (.aload_n 0, 1) := by decide +kernel
theorem dX3_badField_98 : decode cX3_badField 98 = .ok (.getfield 9, 3) := by decide +kernel
theorem dX3_badField_101 : decode cX3_badField 101 = .ok (.iload_n 2, 1) := by decide +kernel
theorem dX3_badField_102 : decode cX3_badField 102 = .ok (.aload_n 0, 1) := by decide +kernel
theorem dX3_badField_103 : decode cX3_badField 103 = .ok (.getfield 9, 3) := by decide +kernel
theorem dX3_badField_106 : decode cX3_badField 106 = .ok (.getfield 57, 3) := by decide +kernel
theorem dX3_badField_109 : decode cX3_badField 109 = .ok (.iload_n 2, 1) := by decide +kernel
theorem dX3_badField_110 : decode cX3_badField 110 = .ok (.iaload, 1) := by decide +kernel
theorem dX3_badField_111 : decode cX3_badField 111 = .ok (.invokevirtual 60, 3) := by decide +kernel
theorem dX3_badField_114 : decode cX3_badField 114 = .ok (.ifCond .ne 13, 3) := by decide +kernel
theorem dX3_badField_117 : decode cX3_badField 117 = .ok (.aload_n 0, 1) := by decide +kernel
theorem dX3_badField_118 : decode cX3_badField 118 = .ok (.getfield 9, 3) := by decide +kernel
theorem dX3_badField_121 : decode cX3_badField 121 = .ok (.getfield 64, 3) := by decide +kernel
theorem dX3_badField_124 : decode cX3_badField 124 = .ok (.iload_n 2, 1) := by decide +kernel
theorem dX3_badField_125 : decode cX3_badField 125 = .ok (.iaload, 1) := by decide +kernel
theorem dX3_badField_126 : decode cX3_badField 126 = .ok (.ireturn, 1) := by decide +kernel
theorem dX3_badField_127 : decode cX3_badField 127 = .ok (.iconst 1, 1) := by decide +kernel
theorem dX3_badField_128 : decode cX3_badField 128 = .ok (.iload_n 3, 1) := by decide +kernel
theorem dX3_badField_129 : decode cX3_badField 129 = .ok (.iload 4, 2) := by decide +kernel
theorem dX3_badField_131 : decode cX3_badField 131 = .ok (.isub, 1) := by decide +kernel
theorem dX3_badField_132 : decode cX3_badField 132 = .ok (.iconst 1, 1) := by decide +kernel
theorem dX3_badField_133 : decode cX3_badField 133 = .ok (.iadd, 1) := by decide +kernel
theorem dX3_badField_134 : decode cX3_badField 134 = .ok (.ishl, 1) := by decide +kernel
theorem dX3_badField_135 : decode cX3_badField 135 = .ok (.iconst 1, 1) := by decide +kernel
theorem dX3_badField_136 : decode cX3_badField 136 = .ok (.isub, 1) := by decide +kernel
theorem dX3_badField_137 : decode cX3_badField 137 = .ok (.iload 4, 2) := by decide +kernel
theorem dX3_badField_139 : decode cX3_badField 139 = .ok (.ishl, 1) := by decide +kernel
theorem dX3_badField_140 : decode cX3_badField 140 = .ok (.istore 5, 2) := by decide +kernel
theorem dX3_badField_142 : decode cX3_badField 142 = .ok (.iload_n 1, 1) := by decide +kernel
theorem dX3_badField_143 : decode cX3_badField 143 = .ok (.iload 5, 2) := by decide +kernel
theorem dX3_badField_145 : decode cX3_badField 145 = .ok (.iand, 1) := by decide +kernel
theorem dX3_badField_146 : decode cX3_badField 146 = .ok (.ifCond .eq 13, 3) := by decide +kernel
theorem dX3_badField_149 : decode cX3_badField 149 = .ok (.aload_n 0, 1) := by decide +kernel
theorem dX3_badField_150 : decode cX3_badField 150 = .ok (.getfield 9, 3) := by decide +kernel
theorem dX3_badField_153 : decode cX3_badField 153 = .ok (.getfield 64, 3) := by decide +kernel
theorem dX3_badField_156 : decode cX3_badField 156 = .ok (.iload_n 2, 1) := by decide +kernel
theorem dX3_badField_157 : decode cX3_badField 157 = .ok (.iaload, 1) := by decide +kernel
theorem dX3_badField_158 : decode cX3_badField 158 = .ok (.ireturn, 1) := by decide +kernel
theorem dX3_badField_159 : decode cX3_badField 159 = .ok (.iload_n 1, 1) := by decide +kernel
theorem dX3_badField_160 : decode cX3_badField 160 = .ok (.iload 5, 2) := by decide +kernel
theorem dX3_badField_162 : decode cX3_badField 162 = .ok (.ior, 1) := by decide +kernel
theorem dX3_badField_163 : decode cX3_badField 163 = .ok (.istore_n 1, 1) := by decide +kernel
theorem dX3_badField_164 : decode cX3_badField 164 = .ok (.iinc 2 1, 3) := by decide +kernel
theorem dX3_badField_167 : decode cX3_badField 167 = .ok (.goto (-163), 3) := by decide +kernel
theorem dX3_badField_170 : decode cX3_badField 170 = .ok (.iconst (-1), 1) := by decide +kernel
theorem dX3_badField_171 : decode cX3_badField 171 = .ok (.ireturn, 1) := by decide +kernel
theorem dX3_badOffset_0 : decode cX3_badOffset 0 = .ok (.iconst 1, 1) := by decide +kernel
theorem dX3_badOffset_1 : decode cX3_badOffset 1 = .ok (.istore_n 1, 1) := by decide +kernel
theorem dX3_badOffset_2 : decode cX3_badOffset 2 = .ok (.iload_n 1, 1) := by decide +kernel
theorem dX3_badOffset_3 : decode cX3_badOffset 3 = .ok (.aload_n 0, 1) := by decide +kernel
theorem dX3_badOffset_4 : decode cX3_badOffset 4 = .ok (.getfield 9, 3) := by decide +kernel
theorem dX3_badOffset_7 : decode cX3_badOffset 7 = .ok (.getfield 66, 3) := by decide +kernel
theorem dX3_badOffset_10 : decode cX3_badOffset 10 = .ok (.if_icmp .ge 62, 3) := by decide +kernel
theorem dX3_badOffset_13 : decode cX3_badOffset 13 = .ok (.iconst 0, 1) := by decide +kernel
theorem dX3_badOffset_14 : decode cX3_badOffset 14 = .ok (.istore_n 2, 1) := by decide +kernel
theorem dX3_badOffset_15 : decode cX3_badOffset 15 = .ok (.iload_n 2, 1) := by decide +kernel
theorem dX3_badOffset_16 : decode cX3_badOffset 16 = .ok (.iload_n 1, 1) := by decide +kernel
theorem dX3_badOffset_17 : decode cX3_badOffset 17 = .ok (.if_icmp .ge 49, 3) := by decide +kernel
theorem dX3_badOffset_20 : decode cX3_badOffset 20 = .ok (.aload_n 0, 1) := by decide +kernel
theorem dX3_badOffset_21 : decode cX3_badOffset 21 = .ok (.getfield 9, 3) := by decide +kernel
theorem dX3_badOffset_24 : decode cX3_badOffset 24 = .ok (.getfield 84, 3) := by decide +kernel
theorem dX3_badOffset_27 : decode cX3_badOffset 27 = .ok (.iload_n 1, 1) := by decide +kernel
theorem dX3_badOffset_28 : decode cX3_badOffset 28 = .ok (.iaload, 1) := by decide +kernel
theorem dX3_badOffset_29 : decode cX3_badOffset 29 = .ok (.aload_n 0, 1) := by decide +kernel
theorem dX3_badOffset_30 : decode cX3_badOffset 30 = .ok (.getfield 9, 3) := by decide +kernel
theorem dX3_badOffset_33 : decode cX3_badOffset 33 = .ok (.getfield 84, 3) := by decide +kernel
theorem dX3_badOffset_36 : decode cX3_badOffset 36 = .ok (.iload_n 2, 1) := by decide +kernel
theorem dX3_badOffset_37 : decode cX3_badOffset 37 = .ok (.iaload, 1) := by decide +kernel
theorem dX3_badOffset_38 : decode cX3_badOffset 38 = .ok (.if_icmp .ne 22, 3) := by decide +kernel
theorem dX3_badOffset_41 : decode cX3_badOffset 41 = .ok (.aload_n 0, 1) := by decide +kernel
theorem dX3_badOffset_42 : decode cX3_badOffset 42 = .ok (.iload_n 1, 1) := by decide +kernel
theorem dX3_badOffset_43 : decode cX3_badOffset 43 = .ok (.iload_n 2, 1) := by decide +kernel
theorem dX3_badOffset_44 : decode cX3_badOffset 44 = .ok (.invokevirtual 87, 3) := by decide +kernel
theorem dX3_badOffset_47 : decode cX3_badOffset 47 = .ok (.ifCond .ne 13, 3) := by decide +kernel
theorem dX3_badOffset_50 : decode cX3_badOffset 50 = .ok (.aload_n 0, 1) := by decide +kernel
theorem dX3_badOffset_51 : decode cX3_badOffset 51 = .ok (.getfield 9, 3) := by decide +kernel
theorem dX3_badOffset_54 : decode cX3_badOffset 54 = .ok (.getfield 90, 3) := by decide +kernel
theorem dX3_badOffset_57 : decode cX3_badOffset 57 = .ok (.iload_n 1, 1) := by decide +kernel
theorem dX3_badOffset_58 : decode cX3_badOffset 58 = .ok (.iaload, 1) := by decide +kernel
theorem dX3_badOffset_59 : decode cX3_badOffset 59 = .ok (.ireturn, 1) := by decide +kernel
theorem dX3_badOffset_60 : decode cX3_badOffset 60 = .ok (.iinc 2 1, 3) := by decide +kernel
theorem dX3_badOffset_63 : decode cX3_badOffset 63 = .ok (.goto (-48), 3) := by decide +kernel
theorem dX3_badOffset_66 : decode cX3_badOffset 66 = .ok (.iinc 1 1, 3) := by decide +kernel
theorem dX3_badOffset_69 : decode cX3_badOffset 69 = .ok (.goto (-67), 3) := by decide +kernel
theorem dX3_badOffset_72 : decode cX3_badOffset 72 = .ok (.iconst (-1), 1) := by decide +kernel
theorem dX3_badOffset_73 : decode cX3_badOffset 73 = .ok (.ireturn, 1) := by decide +kernel
theorem dX3_badRule_0 : decode cX3_badRule 0 = .ok (.aload_n 0, 1) := by decide +kernel
theorem dX3_badRule_1 : decode cX3_badRule 1 = .ok (.getfield 9, 3) := by decide +kernel
theorem dX3_badRule_4 : decode cX3_badRule 4 = .ok (.getfield 93, 3) := by decide +kernel
theorem dX3_badRule_7 : decode cX3_badRule 7 = .ok (.astore_n 1, 1) := by decide +kernel
theorem dX3_badRule_8 : decode cX3_badRule 8 = .ok (.iconst 0, 1) := by decide +kernel
theorem dX3_badRule_9 : decode cX3_badRule 9 = .ok (.istore_n 2, 1) := by decide +kernel
theorem dX3_badRule_10 : decode cX3_badRule 10 = .ok (.iload_n 2, 1) := by decide +kernel
