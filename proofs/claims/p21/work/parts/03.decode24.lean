theorem dX6_addField_24 : decode cX6_addField 24 = .ok (.getfield 43, 3) := by decide +kernel
theorem dX6_addField_27 : decode cX6_addField 27 = .ok (.iload_n 3, 1) := by decide +kernel
theorem dX6_addField_28 : decode cX6_addField 28 = .ok (.aload_n 1, 1) := by decide +kernel
theorem dX6_addField_29 : decode cX6_addField 29 = .ok (.getfield 100, 3) := by decide +kernel
theorem dX6_addField_32 : decode cX6_addField 32 = .ok (.iload_n 2, 1) := by decide +kernel
theorem dX6_addField_33 : decode cX6_addField 33 = .ok (.iaload, 1) := by decide +kernel
theorem dX6_addField_34 : decode cX6_addField 34 = .ok (.iastore, 1) := by decide +kernel
theorem dX6_addField_35 : decode cX6_addField 35 = .ok (.aload_n 0, 1) := by decide +kernel
theorem dX6_addField_36 : decode cX6_addField 36 = .ok (.getfield 46, 3) := by decide +kernel
theorem dX6_addField_39 : decode cX6_addField 39 = .ok (.iload_n 3, 1) := by decide +kernel
theorem dX6_addField_40 : decode cX6_addField 40 = .ok (.aload_n 1, 1) := by decide +kernel
theorem dX6_addField_41 : decode cX6_addField 41 = .ok (.getfield 101, 3) := by decide +kernel
theorem dX6_addField_44 : decode cX6_addField 44 = .ok (.iload_n 2, 1) := by decide +kernel
theorem dX6_addField_45 : decode cX6_addField 45 = .ok (.iaload, 1) := by decide +kernel
theorem dX6_addField_46 : decode cX6_addField 46 = .ok (.iastore, 1) := by decide +kernel
theorem dX6_addField_47 : decode cX6_addField 47 = .ok (.aload_n 0, 1) := by decide +kernel
theorem dX6_addField_48 : decode cX6_addField 48 = .ok (.getfield 49, 3) := by decide +kernel
theorem dX6_addField_51 : decode cX6_addField 51 = .ok (.iload_n 3, 1) := by decide +kernel
theorem dX6_addField_52 : decode cX6_addField 52 = .ok (.aload_n 1, 1) := by decide +kernel
theorem dX6_addField_53 : decode cX6_addField 53 = .ok (.getfield 102, 3) := by decide +kernel
theorem dX6_addField_56 : decode cX6_addField 56 = .ok (.iload_n 2, 1) := by decide +kernel
theorem dX6_addField_57 : decode cX6_addField 57 = .ok (.iaload, 1) := by decide +kernel
theorem dX6_addField_58 : decode cX6_addField 58 = .ok (.aload_n 1, 1) := by decide +kernel
theorem dX6_addField_59 : decode cX6_addField 59 = .ok (.getfield 101, 3) := by decide +kernel
theorem dX6_addField_62 : decode cX6_addField 62 = .ok (.iload_n 2, 1) := by decide +kernel
theorem dX6_addField_63 : decode cX6_addField 63 = .ok (.iaload, 1) := by decide +kernel
theorem dX6_addField_64 : decode cX6_addField 64 = .ok (.isub, 1) := by decide +kernel
theorem dX6_addField_65 : decode cX6_addField 65 = .ok (.iconst 1, 1) := by decide +kernel
theorem dX6_addField_66 : decode cX6_addField 66 = .ok (.iadd, 1) := by decide +kernel
theorem dX6_addField_67 : decode cX6_addField 67 = .ok (.iastore, 1) := by decide +kernel
theorem dX6_addField_68 : decode cX6_addField 68 = .ok (.aload_n 0, 1) := by decide +kernel
theorem dX6_addField_69 : decode cX6_addField 69 = .ok (.getfield 52, 3) := by decide +kernel
theorem dX6_addField_72 : decode cX6_addField 72 = .ok (.iload_n 3, 1) := by decide +kernel
theorem dX6_addField_73 : decode cX6_addField 73 = .ok (.iconst 1, 1) := by decide +kernel
theorem dX6_addField_74 : decode cX6_addField 74 = .ok (.aload_n 0, 1) := by decide +kernel
theorem dX6_addField_75 : decode cX6_addField 75 = .ok (.getfield 49, 3) := by decide +kernel
theorem dX6_addField_78 : decode cX6_addField 78 = .ok (.iload_n 3, 1) := by decide +kernel
theorem dX6_addField_79 : decode cX6_addField 79 = .ok (.iaload, 1) := by decide +kernel
theorem dX6_addField_80 : decode cX6_addField 80 = .ok (.ishl, 1) := by decide +kernel
theorem dX6_addField_81 : decode cX6_addField 81 = .ok (.iconst 1, 1) := by decide +kernel
theorem dX6_addField_82 : decode cX6_addField 82 = .ok (.isub, 1) := by decide +kernel
theorem dX6_addField_83 : decode cX6_addField 83 = .ok (.aload_n 0, 1) := by decide +kernel
theorem dX6_addField_84 : decode cX6_addField 84 = .ok (.getfield 46, 3) := by decide +kernel
theorem dX6_addField_87 : decode cX6_addField 87 = .ok (.iload_n 3, 1) := by decide +kernel
theorem dX6_addField_88 : decode cX6_addField 88 = .ok (.iaload, 1) := by decide +kernel
theorem dX6_addField_89 : decode cX6_addField 89 = .ok (.ishl, 1) := by decide +kernel
theorem dX6_addField_90 : decode cX6_addField 90 = .ok (.iastore, 1) := by decide +kernel
theorem dX6_addField_91 : decode cX6_addField 91 = .ok (.aload_n 0, 1) := by decide +kernel
theorem dX6_addField_92 : decode cX6_addField 92 = .ok (.getfield 21, 3) := by decide +kernel
theorem dX6_addField_95 : decode cX6_addField 95 = .ok (.iload 4, 2) := by decide +kernel
theorem dX6_addField_97 : decode cX6_addField 97 = .ok (.dup2, 1) := by decide +kernel
theorem dX6_addField_98 : decode cX6_addField 98 = .ok (.iaload, 1) := by decide +kernel
theorem dX6_addField_99 : decode cX6_addField 99 = .ok (.aload_n 1, 1) := by decide +kernel
theorem dX6_addField_100 : decode cX6_addField 100 = .ok (.getfield 105, 3) := by decide +kernel
theorem dX6_addField_103 : decode cX6_addField 103 = .ok (.iload_n 2, 1) := by decide +kernel
theorem dX6_addField_104 : decode cX6_addField 104 = .ok (.iaload, 1) := by decide +kernel
theorem dX6_addField_105 : decode cX6_addField 105 = .ok (.aload_n 0, 1) := by decide +kernel
theorem dX6_addField_106 : decode cX6_addField 106 = .ok (.getfield 46, 3) := by decide +kernel
theorem dX6_addField_109 : decode cX6_addField 109 = .ok (.iload_n 3, 1) := by decide +kernel
theorem dX6_addField_110 : decode cX6_addField 110 = .ok (.iaload, 1) := by decide +kernel
theorem dX6_addField_111 : decode cX6_addField 111 = .ok (.ishl, 1) := by decide +kernel
theorem dX6_addField_112 : decode cX6_addField 112 = .ok (.ior, 1) := by decide +kernel
theorem dX6_addField_113 : decode cX6_addField 113 = .ok (.iastore, 1) := by decide +kernel
theorem dX6_addField_114 : decode cX6_addField 114 = .ok (.aload_n 0, 1) := by decide +kernel
theorem dX6_addField_115 : decode cX6_addField 115 = .ok (.getfield 37, 3) := by decide +kernel
theorem dX6_addField_118 : decode cX6_addField 118 = .ok (.aload_n 0, 1) := by decide +kernel
theorem dX6_addField_119 : decode cX6_addField 119 = .ok (.getfield 43, 3) := by decide +kernel
theorem dX6_addField_122 : decode cX6_addField 122 = .ok (.iload_n 3, 1) := by decide +kernel
theorem dX6_addField_123 : decode cX6_addField 123 = .ok (.iaload, 1) := by decide +kernel
theorem dX6_addField_124 : decode cX6_addField 124 = .ok (.aaload, 1) := by decide +kernel
theorem dX6_addField_125 : decode cX6_addField 125 = .ok (.iload 4, 2) := by decide +kernel
theorem dX6_addField_127 : decode cX6_addField 127 = .ok (.dup2, 1) := by decide +kernel
theorem dX6_addField_128 : decode cX6_addField 128 = .ok (.iaload, 1) := by decide +kernel
theorem dX6_addField_129 : decode cX6_addField 129 = .ok (.aload_n 0, 1) := by decide +kernel
theorem dX6_addField_130 : decode cX6_addField 130 = .ok (.getfield 52, 3) := by decide +kernel
theorem dX6_addField_133 : decode cX6_addField 133 = .ok (.iload_n 3, 1) := by decide +kernel
theorem dX6_addField_134 : decode cX6_addField 134 = .ok (.iaload, 1) := by decide +kernel
theorem dX6_addField_135 : decode cX6_addField 135 = .ok (.ior, 1) := by decide +kernel
theorem dX6_addField_136 : decode cX6_addField 136 = .ok (.iastore, 1) := by decide +kernel
theorem dX6_addField_137 : decode cX6_addField 137 = .ok (.aload_n 0, 1) := by decide +kernel
theorem dX6_addField_138 : decode cX6_addField 138 = .ok (.iload_n 3, 1) := by decide +kernel
theorem dX6_addField_139 : decode cX6_addField 139 = .ok (.invokevirtual 108, 3) := by decide +kernel
theorem dX6_addField_142 : decode cX6_addField 142 = .ok (.ifCond .eq 19, 3) := by decide +kernel
theorem dX6_addField_145 : decode cX6_addField 145 = .ok (.aload_n 0, 1) := by decide +kernel
theorem dX6_addField_146 : decode cX6_addField 146 = .ok (.getfield 24, 3) := by decide +kernel
theorem dX6_addField_149 : decode cX6_addField 149 = .ok (.iload 4, 2) := by decide +kernel
theorem dX6_addField_151 : decode cX6_addField 151 = .ok (.dup2, 1) := by decide +kernel
theorem dX6_addField_152 : decode cX6_addField 152 = .ok (.iaload, 1) := by decide +kernel
theorem dX6_addField_153 : decode cX6_addField 153 = .ok (.aload_n 0, 1) := by decide +kernel
theorem dX6_addField_154 : decode cX6_addField 154 = .ok (.getfield 52, 3) := by decide +kernel
theorem dX6_addField_157 : decode cX6_addField 157 = .ok (.iload_n 3, 1) := by decide +kernel
theorem dX6_addField_158 : decode cX6_addField 158 = .ok (.iaload, 1) := by decide +kernel
theorem dX6_addField_159 : decode cX6_addField 159 = .ok (.ior, 1) := by decide +kernel
theorem dX6_addField_160 : decode cX6_addField 160 = .ok (.iastore, 1) := by decide +kernel
theorem dX6_addField_161 : decode cX6_addField 161 = .ok (.return_, 1) := by decide +kernel
theorem dX6_bitsOf_0 : decode cX6_bitsOf 0 = .ok (.iload_n 2, 1) := by decide +kernel
theorem dX6_bitsOf_1 : decode cX6_bitsOf 1 = .ok (.aload_n 0, 1) := by decide +kernel
theorem dX6_bitsOf_2 : decode cX6_bitsOf 2 = .ok (.getfield 52, 3) := by decide +kernel
theorem dX6_bitsOf_5 : decode cX6_bitsOf 5 = .ok (.iload_n 1, 1) := by decide +kernel
theorem dX6_bitsOf_6 : decode cX6_bitsOf 6 = .ok (.iaload, 1) := by decide +kernel
theorem dX6_bitsOf_7 : decode cX6_bitsOf 7 = .ok (.iand, 1) := by decide +kernel
theorem dX6_bitsOf_8 : decode cX6_bitsOf 8 = .ok (.aload_n 0, 1) := by decide +kernel
theorem dX6_bitsOf_9 : decode cX6_bitsOf 9 = .ok (.getfield 46, 3) := by decide +kernel
theorem dX6_bitsOf_12 : decode cX6_bitsOf 12 = .ok (.iload_n 1, 1) := by decide +kernel
theorem dX6_bitsOf_13 : decode cX6_bitsOf 13 = .ok (.iaload, 1) := by decide +kernel
theorem dX6_bitsOf_14 : decode cX6_bitsOf 14 = .ok (.ishr, 1) := by decide +kernel
theorem dX6_bitsOf_15 : decode cX6_bitsOf 15 = .ok (.ireturn, 1) := by decide +kernel
theorem dX6_canFetch_0 : decode cX6_canFetch 0 = .ok (.aload_n 0, 1) := by decide +kernel
theorem dX6_canFetch_1 : decode cX6_canFetch 1 = .ok (.iload_n 1, 1) := by decide +kernel
theorem dX6_canFetch_2 : decode cX6_canFetch 2 = .ok (.invokevirtual 112, 3) := by decide +kernel
theorem dX6_canFetch_5 : decode cX6_canFetch 5 = .ok (.ifCond .eq 17, 3) := by decide +kernel
theorem dX6_canFetch_8 : decode cX6_canFetch 8 = .ok (.aload_n 0, 1) := by decide +kernel
theorem dX6_canFetch_9 : decode cX6_canFetch 9 = .ok (.getfield 43, 3) := by decide +kernel
theorem dX6_canFetch_12 : decode cX6_canFetch 12 = .ok (.iload_n 1, 1) := by decide +kernel
theorem dX6_canFetch_13 : decode cX6_canFetch 13 = .ok (.iaload, 1) := by decide +kernel
theorem dX6_canFetch_14 : decode cX6_canFetch 14 = .ok (.iconst 2, 1) := by decide +kernel
theorem dX6_canFetch_15 : decode cX6_canFetch 15 = .ok (.if_icmp .eq 7, 3) := by decide +kernel
theorem dX6_canFetch_18 : decode cX6_canFetch 18 = .ok (.iconst 1, 1) := by decide +kernel
theorem dX6_canFetch_19 : decode cX6_canFetch 19 = .ok (.goto 4, 3) := by decide +kernel
theorem dX6_canFetch_22 : decode cX6_canFetch 22 = .ok (.iconst 0, 1) := by decide +kernel
theorem dX6_canFetch_23 : decode cX6_canFetch 23 = .ok (.ireturn, 1) := by decide +kernel
theorem dX6_canPut_0 : decode cX6_canPut 0 = .ok (.aload_n 0, 1) := by decide +kernel
theorem dX6_canPut_1 : decode cX6_canPut 1 = .ok (.iload_n 1, 1) := by decide +kernel
theorem dX6_canPut_2 : decode cX6_canPut 2 = .ok (.invokevirtual 112, 3) := by decide +kernel
theorem dX6_canPut_5 : decode cX6_canPut 5 = .ok (.ifCond .eq 36, 3) := by decide +kernel
theorem dX6_canPut_8 : decode cX6_canPut 8 = .ok (.aload_n 0, 1) := by decide +kernel
theorem dX6_canPut_9 : decode cX6_canPut 9 = .ok (.getfield 43, 3) := by decide +kernel
theorem dX6_canPut_12 : decode cX6_canPut 12 = .ok (.iload_n 1, 1) := by decide +kernel
theorem dX6_canPut_13 : decode cX6_canPut 13 = .ok (.iaload, 1) := by decide +kernel
theorem dX6_canPut_14 : decode cX6_canPut 14 = .ok (.iconst 1, 1) := by decide +kernel
theorem dX6_canPut_15 : decode cX6_canPut 15 = .ok (.if_icmp .eq 26, 3) := by decide +kernel
theorem dX6_canPut_18 : decode cX6_canPut 18 = .ok (.aload_n 0, 1) := by decide +kernel
theorem dX6_canPut_19 : decode cX6_canPut 19 = .ok (.getfield 43, 3) := by decide +kernel
theorem dX6_canPut_22 : decode cX6_canPut 22 = .ok (.iload_n 1, 1) := by decide +kernel
theorem dX6_canPut_23 : decode cX6_canPut 23 = .ok (.iaload, 1) := by decide +kernel
theorem dX6_canPut_24 : decode cX6_canPut 24 = .ok (.iconst 3, 1) := by decide +kernel
theorem dX6_canPut_25 : decode cX6_canPut 25 = .ok (.if_icmp .eq 16, 3) := by decide +kernel
theorem dX6_canPut_28 : decode cX6_canPut 28 = .ok (.aload_n 0, 1) := by decide +kernel
theorem dX6_canPut_29 : decode cX6_canPut 29 = .ok (.iload_n 1, 1) := by decide +kernel
theorem dX6_canPut_30 : decode cX6_canPut 30 = .ok (.iload_n 2, 1) := by decide +kernel
theorem dX6_canPut_31 : decode cX6_canPut 31 = .ok (.invokevirtual 115, 3) := by decide +kernel
theorem dX6_canPut_34 : decode cX6_canPut 34 = .ok (.ifCond .eq 7, 3) := by decide +kernel
theorem dX6_canPut_37 : decode cX6_canPut 37 = .ok (.iconst 1, 1) := by decide +kernel
theorem dX6_canPut_38 : decode cX6_canPut 38 = .ok (.goto 4, 3) := by decide +kernel
theorem dX6_canPut_41 : decode cX6_canPut 41 = .ok (.iconst 0, 1) := by decide +kernel
theorem dX6_canPut_42 : decode cX6_canPut 42 = .ok (.ireturn, 1) := by decide +kernel
theorem dX6_fits_0 : decode cX6_fits 0 = .ok (.iload_n 2, 1) := by decide +kernel
theorem dX6_fits_1 : decode cX6_fits 1 = .ok (.aload_n 0, 1) := by decide +kernel
theorem dX6_fits_2 : decode cX6_fits 2 = .ok (.getfield 49, 3) := by decide +kernel
theorem dX6_fits_5 : decode cX6_fits 5 = .ok (.iload_n 1, 1) := by decide +kernel
theorem dX6_fits_6 : decode cX6_fits 6 = .ok (.iaload, 1) := by decide +kernel
theorem dX6_fits_7 : decode cX6_fits 7 = .ok (.ishr, 1) := by decide +kernel
theorem dX6_fits_8 : decode cX6_fits 8 = .ok (.ifCond .ne 7, 3) := by decide +kernel
theorem dX6_fits_11 : decode cX6_fits 11 = .ok (.iconst 1, 1) := by decide +kernel
theorem dX6_fits_12 : decode cX6_fits 12 = .ok (.goto 4, 3) := by decide +kernel
theorem dX6_fits_15 : decode cX6_fits 15 = .ok (.iconst 0, 1) := by decide +kernel
theorem dX6_fits_16 : decode cX6_fits 16 = .ok (.ireturn, 1) := by decide +kernel
theorem dX6_follow_0 : decode cX6_follow 0 = .ok (.aload_n 0, 1) := by decide +kernel
theorem dX6_follow_1 : decode cX6_follow 1 = .ok (.aload_n 1, 1) := by decide +kernel
theorem dX6_follow_2 : decode cX6_follow 2 = .ok (.getfield 68, 3) := by decide +kernel
theorem dX6_follow_5 : decode cX6_follow 5 = .ok (.putfield 74, 3) := by decide +kernel
theorem dX6_follow_8 : decode cX6_follow 8 = .ok (.aload_n 1, 1) := by decide +kernel
theorem dX6_follow_9 : decode cX6_follow 9 = .ok (.getfield 75, 3) := by decide +kernel
theorem dX6_follow_12 : decode cX6_follow 12 = .ok (.iconst 0, 1) := by decide +kernel
theorem dX6_follow_13 : decode cX6_follow 13 = .ok (.aload_n 0, 1) := by decide +kernel
theorem dX6_follow_14 : decode cX6_follow 14 = .ok (.getfield 9, 3) := by decide +kernel
theorem dX6_follow_17 : decode cX6_follow 17 = .ok (.iconst 0, 1) := by decide +kernel
theorem dX6_follow_18 : decode cX6_follow 18 = .ok (.bipush 16, 2) := by decide +kernel
theorem dX6_follow_20 : decode cX6_follow 20 = .ok (.invokestatic 76, 3) := by decide +kernel
theorem dX6_follow_23 : decode cX6_follow 23 = .ok (.aload_n 1, 1) := by decide +kernel
theorem dX6_follow_24 : decode cX6_follow 24 = .ok (.getfield 82, 3) := by decide +kernel
theorem dX6_follow_27 : decode cX6_follow 27 = .ok (.iconst 0, 1) := by decide +kernel
theorem dX6_follow_28 : decode cX6_follow 28 = .ok (.aload_n 0, 1) := by decide +kernel
theorem dX6_follow_29 : decode cX6_follow 29 = .ok (.getfield 15, 3) := by decide +kernel
theorem dX6_follow_32 : decode cX6_follow 32 = .ok (.iconst 0, 1) := by decide +kernel
theorem dX6_follow_33 : decode cX6_follow 33 = .ok (.bipush 16, 2) := by decide +kernel
theorem dX6_follow_35 : decode cX6_follow 35 = .ok (.invokestatic 76, 3) := by decide +kernel
theorem dX6_follow_38 : decode cX6_follow 38 = .ok (.aload_n 1, 1) := by decide +kernel
theorem dX6_follow_39 : decode cX6_follow 39 = .ok (.getfield 83, 3) := by decide +kernel
theorem dX6_follow_42 : decode cX6_follow 42 = .ok (.iconst 0, 1) := by decide +kernel
theorem dX6_follow_43 : decode cX6_follow 43 = .ok (.aload_n 0, 1) := by decide +kernel
theorem dX6_follow_44 : decode cX6_follow 44 = .ok (.getfield 18, 3) := by decide +kernel
theorem dX6_follow_47 : decode cX6_follow 47 = .ok (.iconst 0, 1) := by decide +kernel
theorem dX6_follow_48 : decode cX6_follow 48 = .ok (.bipush 16, 2) := by decide +kernel
theorem dX6_follow_50 : decode cX6_follow 50 = .ok (.invokestatic 76, 3) := by decide +kernel
theorem dX6_follow_53 : decode cX6_follow 53 = .ok (.aload_n 0, 1) := by decide +kernel
theorem dX6_follow_54 : decode cX6_follow 54 = .ok (.getfield 58, 3) := by decide +kernel
theorem dX6_follow_57 : decode cX6_follow 57 = .ok (.aload_n 1, 1) := by decide +kernel
theorem dX6_follow_58 : decode cX6_follow 58 = .ok (.getfield 84, 3) := by decide +kernel
theorem dX6_follow_61 : decode cX6_follow 61 = .ok (.invokevirtual 85, 3) := by decide +kernel
theorem dX6_follow_64 : decode cX6_follow 64 = .ok (.aload_n 0, 1) := by decide +kernel
theorem dX6_follow_65 : decode cX6_follow 65 = .ok (.getfield 21, 3) := by decide +kernel
theorem dX6_follow_68 : decode cX6_follow 68 = .ok (.iconst 0, 1) := by decide +kernel
theorem dX6_follow_69 : decode cX6_follow 69 = .ok (.invokestatic 62, 3) := by decide +kernel
theorem dX6_follow_72 : decode cX6_follow 72 = .ok (.aload_n 0, 1) := by decide +kernel
theorem dX6_follow_73 : decode cX6_follow 73 = .ok (.getfield 24, 3) := by decide +kernel
theorem dX6_follow_76 : decode cX6_follow 76 = .ok (.iconst 0, 1) := by decide +kernel
theorem dX6_follow_77 : decode cX6_follow 77 = .ok (.invokestatic 62, 3) := by decide +kernel
theorem dX6_follow_80 : decode cX6_follow 80 = .ok (.iconst 0, 1) := by decide +kernel
theorem dX6_follow_81 : decode cX6_follow 81 = .ok (.istore_n 2, 1) := by decide +kernel
theorem dX6_follow_82 : decode cX6_follow 82 = .ok (.iload_n 2, 1) := by decide +kernel
theorem dX6_follow_83 : decode cX6_follow 83 = .ok (.aload_n 0, 1) := by decide +kernel
theorem dX6_follow_84 : decode cX6_follow 84 = .ok (.getfield 37, 3) := by decide +kernel
theorem dX6_follow_87 : decode cX6_follow 87 = .ok (.arraylength, 1) := by decide +kernel
theorem dX6_follow_88 : decode cX6_follow 88 = .ok (.if_icmp .ge 19, 3) := by decide +kernel
theorem dX6_follow_91 : decode cX6_follow 91 = .ok (.aload_n 0, 1) := by decide +kernel
theorem dX6_follow_92 : decode cX6_follow 92 = .ok (.getfield 37, 3) := by decide +kernel
theorem dX6_follow_95 : decode cX6_follow 95 = .ok (.iload_n 2, 1) := by decide +kernel
theorem dX6_follow_96 : decode cX6_follow 96 = .ok (.aaload, 1) := by decide +kernel
theorem dX6_follow_97 : decode cX6_follow 97 = .ok (.iconst 0, 1) := by decide +kernel
theorem dX6_follow_98 : decode cX6_follow 98 = .ok (.invokestatic 62, 3) := by decide +kernel
theorem dX6_follow_101 : decode cX6_follow 101 = .ok (.iinc 2 1, 3) := by decide +kernel
theorem dX6_follow_104 : decode cX6_follow 104 = .ok (.goto (-22), 3) := by decide +kernel
theorem dX6_follow_107 : decode cX6_follow 107 = .ok (.aload_n 0, 1) := by decide +kernel
theorem dX6_follow_108 : decode cX6_follow 108 = .ok (.getfield 40, 3) := by decide +kernel
theorem dX6_follow_111 : decode cX6_follow 111 = .ok (.iconst (-1), 1) := by decide +kernel
theorem dX6_follow_112 : decode cX6_follow 112 = .ok (.invokestatic 62, 3) := by decide +kernel
theorem dX6_follow_115 : decode cX6_follow 115 = .ok (.iconst 0, 1) := by decide +kernel
theorem dX6_follow_116 : decode cX6_follow 116 = .ok (.istore_n 2, 1) := by decide +kernel
theorem dX6_follow_117 : decode cX6_follow 117 = .ok (.iload_n 2, 1) := by decide +kernel
theorem dX6_follow_118 : decode cX6_follow 118 = .ok (.aload_n 1, 1) := by decide +kernel
theorem dX6_follow_119 : decode cX6_follow 119 = .ok (.getfield 89, 3) := by decide +kernel
theorem dX6_follow_122 : decode cX6_follow 122 = .ok (.if_icmp .ge 15, 3) := by decide +kernel
theorem dX6_follow_125 : decode cX6_follow 125 = .ok (.aload_n 0, 1) := by decide +kernel
theorem dX6_follow_126 : decode cX6_follow 126 = .ok (.aload_n 1, 1) := by decide +kernel
theorem dX6_follow_127 : decode cX6_follow 127 = .ok (.iload_n 2, 1) := by decide +kernel
theorem dX6_follow_128 : decode cX6_follow 128 = .ok (.invokevirtual 92, 3) := by decide +kernel
theorem dX6_follow_131 : decode cX6_follow 131 = .ok (.iinc 2 1, 3) := by decide +kernel
theorem dX6_follow_134 : decode cX6_follow 134 = .ok (.goto (-17), 3) := by decide +kernel
theorem dX6_follow_137 : decode cX6_follow 137 = .ok (.return_, 1) := by decide +kernel
theorem dX6_has_0 : decode cX6_has 0 = .ok (.iload_n 1, 1) := by decide +kernel
theorem dX6_has_1 : decode cX6_has 1 = .ok (.ifCond .lt 23, 3) := by decide +kernel
theorem dX6_has_4 : decode cX6_has 4 = .ok (.iload_n 1, 1) := by decide +kernel
theorem dX6_has_5 : decode cX6_has 5 = .ok (.bipush 26, 2) := by decide +kernel
theorem dX6_has_7 : decode cX6_has 7 = .ok (.if_icmp .ge 17, 3) := by decide +kernel
theorem dX6_has_10 : decode cX6_has 10 = .ok (.aload_n 0, 1) := by decide +kernel
theorem dX6_has_11 : decode cX6_has 11 = .ok (.getfield 40, 3) := by decide +kernel
theorem dX6_has_14 : decode cX6_has 14 = .ok (.iload_n 1, 1) := by decide +kernel
theorem dX6_has_15 : decode cX6_has 15 = .ok (.iaload, 1) := by decide +kernel
theorem dX6_has_16 : decode cX6_has 16 = .ok (.iconst (-1), 1) := by decide +kernel
theorem dX6_has_17 : decode cX6_has 17 = .ok (.if_icmp .eq 7, 3) := by decide +kernel
theorem dX6_has_20 : decode cX6_has 20 = .ok (.iconst 1, 1) := by decide +kernel
theorem dX6_has_21 : decode cX6_has 21 = .ok (.goto 4, 3) := by decide +kernel
theorem dX6_has_24 : decode cX6_has 24 = .ok (.iconst 0, 1) := by decide +kernel
theorem dX6_has_25 : decode cX6_has 25 = .ok (.ireturn, 1) := by decide +kernel
theorem dX6_isKnown_0 : decode cX6_isKnown 0 = .ok (.aload_n 0, 1) := by decide +kernel
theorem dX6_isKnown_1 : decode cX6_isKnown 1 = .ok (.getfield 43, 3) := by decide +kernel
theorem dX6_isKnown_4 : decode cX6_isKnown 4 = .ok (.iload_n 1, 1) := by decide +kernel
theorem dX6_isKnown_5 : decode cX6_isKnown 5 = .ok (.iaload, 1) := by decide +kernel
theorem dX6_isKnown_6 : decode cX6_isKnown 6 = .ok (.ifCond .eq 13, 3) := by decide +kernel
theorem dX6_isKnown_9 : decode cX6_isKnown 9 = .ok (.aload_n 0, 1) := by decide +kernel
theorem dX6_isKnown_10 : decode cX6_isKnown 10 = .ok (.getfield 43, 3) := by decide +kernel
theorem dX6_isKnown_13 : decode cX6_isKnown 13 = .ok (.iload_n 1, 1) := by decide +kernel
theorem dX6_isKnown_14 : decode cX6_isKnown 14 = .ok (.iaload, 1) := by decide +kernel
theorem dX6_isKnown_15 : decode cX6_isKnown 15 = .ok (.iconst 2, 1) := by decide +kernel
theorem dX6_isKnown_16 : decode cX6_isKnown 16 = .ok (.if_icmp .ne 7, 3) := by decide +kernel
theorem dX6_isKnown_19 : decode cX6_isKnown 19 = .ok (.iconst 1, 1) := by decide +kernel
theorem dX6_isKnown_20 : decode cX6_isKnown 20 = .ok (.goto 4, 3) := by decide +kernel
theorem dX6_isKnown_23 : decode cX6_isKnown 23 = .ok (.iconst 0, 1) := by decide +kernel
theorem dX6_isKnown_24 : decode cX6_isKnown 24 = .ok (.ireturn, 1) := by decide +kernel
