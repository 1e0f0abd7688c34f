theorem dX1_resetDevice_38 : decode cX1_resetDevice 38 = .ok (.iconst 2, 1) := by decide +kernel
theorem dX1_resetDevice_39 : decode cX1_resetDevice 39 = .ok (.iastore, 1) := by decide +kernel
theorem dX1_resetDevice_40 : decode cX1_resetDevice 40 = .ok (.aload_n 0, 1) := by decide +kernel
theorem dX1_resetDevice_41 : decode cX1_resetDevice 41 = .ok (.getfield 113, 3) := by decide +kernel
theorem dX1_resetDevice_44 : decode cX1_resetDevice 44 = .ok (.iload_n 1, 1) := by decide +kernel
theorem dX1_resetDevice_45 : decode cX1_resetDevice 45 = .ok (.iconst 0, 1) := by decide +kernel
theorem dX1_resetDevice_46 : decode cX1_resetDevice 46 = .ok (.iastore, 1) := by decide +kernel
theorem dX1_resetDevice_47 : decode cX1_resetDevice 47 = .ok (.iinc 1 1, 3) := by decide +kernel
theorem dX1_resetDevice_50 : decode cX1_resetDevice 50 = .ok (.goto (-48), 3) := by decide +kernel
theorem dX1_resetDevice_53 : decode cX1_resetDevice 53 = .ok (.iconst 0, 1) := by decide +kernel
theorem dX1_resetDevice_54 : decode cX1_resetDevice 54 = .ok (.istore_n 1, 1) := by decide +kernel
theorem dX1_resetDevice_55 : decode cX1_resetDevice 55 = .ok (.iload_n 1, 1) := by decide +kernel
theorem dX1_resetDevice_56 : decode cX1_resetDevice 56 = .ok (.bipush 12, 2) := by decide +kernel
theorem dX1_resetDevice_58 : decode cX1_resetDevice 58 = .ok (.if_icmp .ge 16, 3) := by decide +kernel
theorem dX1_resetDevice_61 : decode cX1_resetDevice 61 = .ok (.aload_n 0, 1) := by decide +kernel
theorem dX1_resetDevice_62 : decode cX1_resetDevice 62 = .ok (.getfield 116, 3) := by decide +kernel
theorem dX1_resetDevice_65 : decode cX1_resetDevice 65 = .ok (.iload_n 1, 1) := by decide +kernel
theorem dX1_resetDevice_66 : decode cX1_resetDevice 66 = .ok (.iconst 0, 1) := by decide +kernel
theorem dX1_resetDevice_67 : decode cX1_resetDevice 67 = .ok (.bastore, 1) := by decide +kernel
theorem dX1_resetDevice_68 : decode cX1_resetDevice 68 = .ok (.iinc 1 1, 3) := by decide +kernel
theorem dX1_resetDevice_71 : decode cX1_resetDevice 71 = .ok (.goto (-16), 3) := by decide +kernel
theorem dX1_resetDevice_74 : decode cX1_resetDevice 74 = .ok (.return_, 1) := by decide +kernel
theorem dX1_rulesRight_0 : decode cX1_rulesRight 0 = .ok (.iconst 0, 1) := by decide +kernel
theorem dX1_rulesRight_1 : decode cX1_rulesRight 1 = .ok (.istore_n 1, 1) := by decide +kernel
theorem dX1_rulesRight_2 : decode cX1_rulesRight 2 = .ok (.iload_n 1, 1) := by decide +kernel
theorem dX1_rulesRight_3 : decode cX1_rulesRight 3 = .ok (.aload_n 0, 1) := by decide +kernel
theorem dX1_rulesRight_4 : decode cX1_rulesRight 4 = .ok (.getfield 223, 3) := by decide +kernel
theorem dX1_rulesRight_7 : decode cX1_rulesRight 7 = .ok (.if_icmp .ge 143, 3) := by decide +kernel
theorem dX1_rulesRight_10 : decode cX1_rulesRight 10 = .ok (.aload_n 0, 1) := by decide +kernel
theorem dX1_rulesRight_11 : decode cX1_rulesRight 11 = .ok (.aload_n 0, 1) := by decide +kernel
theorem dX1_rulesRight_12 : decode cX1_rulesRight 12 = .ok (.getfield 52, 3) := by decide +kernel
theorem dX1_rulesRight_15 : decode cX1_rulesRight 15 = .ok (.iload_n 1, 1) := by decide +kernel
theorem dX1_rulesRight_16 : decode cX1_rulesRight 16 = .ok (.iaload, 1) := by decide +kernel
theorem dX1_rulesRight_17 : decode cX1_rulesRight 17 = .ok (.aload_n 0, 1) := by decide +kernel
theorem dX1_rulesRight_18 : decode cX1_rulesRight 18 = .ok (.getfield 198, 3) := by decide +kernel
theorem dX1_rulesRight_21 : decode cX1_rulesRight 21 = .ok (.invokevirtual 226, 3) := by decide +kernel
theorem dX1_rulesRight_24 : decode cX1_rulesRight 24 = .ok (.istore_n 2, 1) := by decide +kernel
theorem dX1_rulesRight_25 : decode cX1_rulesRight 25 = .ok (.aload_n 0, 1) := by decide +kernel
theorem dX1_rulesRight_26 : decode cX1_rulesRight 26 = .ok (.aload_n 0, 1) := by decide +kernel
theorem dX1_rulesRight_27 : decode cX1_rulesRight 27 = .ok (.getfield 55, 3) := by decide +kernel
theorem dX1_rulesRight_30 : decode cX1_rulesRight 30 = .ok (.iload_n 1, 1) := by decide +kernel
theorem dX1_rulesRight_31 : decode cX1_rulesRight 31 = .ok (.iaload, 1) := by decide +kernel
theorem dX1_rulesRight_32 : decode cX1_rulesRight 32 = .ok (.aload_n 0, 1) := by decide +kernel
theorem dX1_rulesRight_33 : decode cX1_rulesRight 33 = .ok (.getfield 198, 3) := by decide +kernel
theorem dX1_rulesRight_36 : decode cX1_rulesRight 36 = .ok (.invokevirtual 226, 3) := by decide +kernel
theorem dX1_rulesRight_39 : decode cX1_rulesRight 39 = .ok (.istore_n 3, 1) := by decide +kernel
theorem dX1_rulesRight_40 : decode cX1_rulesRight 40 = .ok (.aload_n 0, 1) := by decide +kernel
theorem dX1_rulesRight_41 : decode cX1_rulesRight 41 = .ok (.iload_n 2, 1) := by decide +kernel
theorem dX1_rulesRight_42 : decode cX1_rulesRight 42 = .ok (.invokevirtual 233, 3) := by decide +kernel
theorem dX1_rulesRight_45 : decode cX1_rulesRight 45 = .ok (.ifCond .ne 15, 3) := by decide +kernel
theorem dX1_rulesRight_48 : decode cX1_rulesRight 48 = .ok (.aload_n 0, 1) := by decide +kernel
theorem dX1_rulesRight_49 : decode cX1_rulesRight 49 = .ok (.iconst 4, 1) := by decide +kernel
theorem dX1_rulesRight_50 : decode cX1_rulesRight 50 = .ok (.aload_n 0, 1) := by decide +kernel
theorem dX1_rulesRight_51 : decode cX1_rulesRight 51 = .ok (.getfield 61, 3) := by decide +kernel
theorem dX1_rulesRight_54 : decode cX1_rulesRight 54 = .ok (.iload_n 1, 1) := by decide +kernel
theorem dX1_rulesRight_55 : decode cX1_rulesRight 55 = .ok (.iaload, 1) := by decide +kernel
theorem dX1_rulesRight_56 : decode cX1_rulesRight 56 = .ok (.invokevirtual 183, 3) := by decide +kernel
theorem dX1_rulesRight_59 : decode cX1_rulesRight 59 = .ok (.ireturn, 1) := by decide +kernel
theorem dX1_rulesRight_60 : decode cX1_rulesRight 60 = .ok (.aload_n 0, 1) := by decide +kernel
theorem dX1_rulesRight_61 : decode cX1_rulesRight 61 = .ok (.getfield 49, 3) := by decide +kernel
theorem dX1_rulesRight_64 : decode cX1_rulesRight 64 = .ok (.iload_n 1, 1) := by decide +kernel
theorem dX1_rulesRight_65 : decode cX1_rulesRight 65 = .ok (.iaload, 1) := by decide +kernel
theorem dX1_rulesRight_66 : decode cX1_rulesRight 66 = .ok (.bipush 38, 2) := by decide +kernel
theorem dX1_rulesRight_68 : decode cX1_rulesRight 68 = .ok (.if_icmp .ne 52, 3) := by decide +kernel
theorem dX1_rulesRight_71 : decode cX1_rulesRight 71 = .ok (.iload_n 3, 1) := by decide +kernel
theorem dX1_rulesRight_72 : decode cX1_rulesRight 72 = .ok (.iconst (-1), 1) := by decide +kernel
theorem dX1_rulesRight_73 : decode cX1_rulesRight 73 = .ok (.if_icmp .eq 43, 3) := by decide +kernel
theorem dX1_rulesRight_76 : decode cX1_rulesRight 76 = .ok (.aload_n 0, 1) := by decide +kernel
theorem dX1_rulesRight_77 : decode cX1_rulesRight 77 = .ok (.getfield 31, 3) := by decide +kernel
theorem dX1_rulesRight_80 : decode cX1_rulesRight 80 = .ok (.iload_n 3, 1) := by decide +kernel
theorem dX1_rulesRight_81 : decode cX1_rulesRight 81 = .ok (.iaload, 1) := by decide +kernel
theorem dX1_rulesRight_82 : decode cX1_rulesRight 82 = .ok (.bipush 119, 2) := by decide +kernel
theorem dX1_rulesRight_84 : decode cX1_rulesRight 84 = .ok (.if_icmp .eq 14, 3) := by decide +kernel
theorem dX1_rulesRight_87 : decode cX1_rulesRight 87 = .ok (.aload_n 0, 1) := by decide +kernel
theorem dX1_rulesRight_88 : decode cX1_rulesRight 88 = .ok (.getfield 31, 3) := by decide +kernel
theorem dX1_rulesRight_91 : decode cX1_rulesRight 91 = .ok (.iload_n 3, 1) := by decide +kernel
theorem dX1_rulesRight_92 : decode cX1_rulesRight 92 = .ok (.iaload, 1) := by decide +kernel
theorem dX1_rulesRight_93 : decode cX1_rulesRight 93 = .ok (.bipush 111, 2) := by decide +kernel
theorem dX1_rulesRight_95 : decode cX1_rulesRight 95 = .ok (.if_icmp .ne 21, 3) := by decide +kernel
theorem dX1_rulesRight_98 : decode cX1_rulesRight 98 = .ok (.aload_n 0, 1) := by decide +kernel
theorem dX1_rulesRight_99 : decode cX1_rulesRight 99 = .ok (.iload_n 3, 1) := by decide +kernel
theorem dX1_rulesRight_100 : decode cX1_rulesRight 100 = .ok (.aload_n 0, 1) := by decide +kernel
theorem dX1_rulesRight_101 : decode cX1_rulesRight 101 = .ok (.getfield 58, 3) := by decide +kernel
theorem dX1_rulesRight_104 : decode cX1_rulesRight 104 = .ok (.iload_n 1, 1) := by decide +kernel
theorem dX1_rulesRight_105 : decode cX1_rulesRight 105 = .ok (.iaload, 1) := by decide +kernel
theorem dX1_rulesRight_106 : decode cX1_rulesRight 106 = .ok (.invokevirtual 230, 3) := by decide +kernel
theorem dX1_rulesRight_109 : decode cX1_rulesRight 109 = .ok (.ifCond .eq 7, 3) := by decide +kernel
theorem dX1_rulesRight_112 : decode cX1_rulesRight 112 = .ok (.iconst 1, 1) := by decide +kernel
theorem dX1_rulesRight_113 : decode cX1_rulesRight 113 = .ok (.goto 12, 3) := by decide +kernel
theorem dX1_rulesRight_116 : decode cX1_rulesRight 116 = .ok (.iconst 0, 1) := by decide +kernel
theorem dX1_rulesRight_117 : decode cX1_rulesRight 117 = .ok (.goto 8, 3) := by decide +kernel
theorem dX1_rulesRight_120 : decode cX1_rulesRight 120 = .ok (.aload_n 0, 1) := by decide +kernel
theorem dX1_rulesRight_121 : decode cX1_rulesRight 121 = .ok (.iload_n 3, 1) := by decide +kernel
theorem dX1_rulesRight_122 : decode cX1_rulesRight 122 = .ok (.invokevirtual 233, 3) := by decide +kernel
theorem dX1_rulesRight_125 : decode cX1_rulesRight 125 = .ok (.istore 4, 2) := by decide +kernel
theorem dX1_rulesRight_127 : decode cX1_rulesRight 127 = .ok (.iload 4, 2) := by decide +kernel
theorem dX1_rulesRight_129 : decode cX1_rulesRight 129 = .ok (.ifCond .ne 15, 3) := by decide +kernel
theorem dX1_rulesRight_132 : decode cX1_rulesRight 132 = .ok (.aload_n 0, 1) := by decide +kernel
theorem dX1_rulesRight_133 : decode cX1_rulesRight 133 = .ok (.iconst 4, 1) := by decide +kernel
theorem dX1_rulesRight_134 : decode cX1_rulesRight 134 = .ok (.aload_n 0, 1) := by decide +kernel
theorem dX1_rulesRight_135 : decode cX1_rulesRight 135 = .ok (.getfield 64, 3) := by decide +kernel
theorem dX1_rulesRight_138 : decode cX1_rulesRight 138 = .ok (.iload_n 1, 1) := by decide +kernel
theorem dX1_rulesRight_139 : decode cX1_rulesRight 139 = .ok (.iaload, 1) := by decide +kernel
theorem dX1_rulesRight_140 : decode cX1_rulesRight 140 = .ok (.invokevirtual 183, 3) := by decide +kernel
theorem dX1_rulesRight_143 : decode cX1_rulesRight 143 = .ok (.ireturn, 1) := by decide +kernel
theorem dX1_rulesRight_144 : decode cX1_rulesRight 144 = .ok (.iinc 1 1, 3) := by decide +kernel
theorem dX1_rulesRight_147 : decode cX1_rulesRight 147 = .ok (.goto (-145), 3) := by decide +kernel
theorem dX1_rulesRight_150 : decode cX1_rulesRight 150 = .ok (.iconst 1, 1) := by decide +kernel
theorem dX1_rulesRight_151 : decode cX1_rulesRight 151 = .ok (.ireturn, 1) := by decide +kernel
theorem dX1_run_0 : decode cX1_run 0 = .ok (.aload_n 0, 1) := by decide +kernel
theorem dX1_run_1 : decode cX1_run 1 = .ok (.iconst 0, 1) := by decide +kernel
theorem dX1_run_2 : decode cX1_run 2 = .ok (.putfield 161, 3) := by decide +kernel
theorem dX1_run_5 : decode cX1_run 5 = .ok (.aload_n 0, 1) := by decide +kernel
theorem dX1_run_6 : decode cX1_run 6 = .ok (.getfield 257, 3) := by decide +kernel
theorem dX1_run_9 : decode cX1_run 9 = .ok (.ifCond .eq 10, 3) := by decide +kernel
theorem dX1_run_12 : decode cX1_run 12 = .ok (.aload_n 0, 1) := by decide +kernel
theorem dX1_run_13 : decode cX1_run 13 = .ok (.getfield 288, 3) := by decide +kernel
theorem dX1_run_16 : decode cX1_run 16 = .ok (.ifCond .le 5, 3) := by decide +kernel
theorem dX1_run_19 : decode cX1_run 19 = .ok (.iconst (-1), 1) := by decide +kernel
theorem dX1_run_20 : decode cX1_run 20 = .ok (.ireturn, 1) := by decide +kernel
theorem dX1_run_21 : decode cX1_run 21 = .ok (.iconst 0, 1) := by decide +kernel
theorem dX1_run_22 : decode cX1_run 22 = .ok (.istore_n 2, 1) := by decide +kernel
theorem dX1_run_23 : decode cX1_run 23 = .ok (.iconst 0, 1) := by decide +kernel
theorem dX1_run_24 : decode cX1_run 24 = .ok (.istore_n 3, 1) := by decide +kernel
theorem dX1_run_25 : decode cX1_run 25 = .ok (.iconst 0, 1) := by decide +kernel
theorem dX1_run_26 : decode cX1_run 26 = .ok (.istore 4, 2) := by decide +kernel
theorem dX1_run_28 : decode cX1_run 28 = .ok (.iload 4, 2) := by decide +kernel
theorem dX1_run_30 : decode cX1_run 30 = .ok (.sipush 300, 3) := by decide +kernel
theorem dX1_run_33 : decode cX1_run 33 = .ok (.if_icmp .ge 126, 3) := by decide +kernel
theorem dX1_run_36 : decode cX1_run 36 = .ok (.iload_n 2, 1) := by decide +kernel
theorem dX1_run_37 : decode cX1_run 37 = .ok (.aload_n 0, 1) := by decide +kernel
theorem dX1_run_38 : decode cX1_run 38 = .ok (.getfield 267, 3) := by decide +kernel
theorem dX1_run_41 : decode cX1_run 41 = .ok (.if_icmp .lt 5, 3) := by decide +kernel
theorem dX1_run_44 : decode cX1_run 44 = .ok (.iconst 0, 1) := by decide +kernel
theorem dX1_run_45 : decode cX1_run 45 = .ok (.ireturn, 1) := by decide +kernel
theorem dX1_run_46 : decode cX1_run 46 = .ok (.aload_n 0, 1) := by decide +kernel
theorem dX1_run_47 : decode cX1_run 47 = .ok (.getfield 134, 3) := by decide +kernel
theorem dX1_run_50 : decode cX1_run 50 = .ok (.iload_n 2, 1) := by decide +kernel
theorem dX1_run_51 : decode cX1_run 51 = .ok (.iaload, 1) := by decide +kernel
theorem dX1_run_52 : decode cX1_run 52 = .ok (.istore 5, 2) := by decide +kernel
theorem dX1_run_54 : decode cX1_run 54 = .ok (.iload 5, 2) := by decide +kernel
theorem dX1_run_56 : decode cX1_run 56 = .ok (.iconst 3, 1) := by decide +kernel
theorem dX1_run_57 : decode cX1_run 57 = .ok (.if_icmp .ne 5, 3) := by decide +kernel
theorem dX1_run_60 : decode cX1_run 60 = .ok (.iconst 0, 1) := by decide +kernel
theorem dX1_run_61 : decode cX1_run 61 = .ok (.ireturn, 1) := by decide +kernel
theorem dX1_run_62 : decode cX1_run 62 = .ok (.iload 5, 2) := by decide +kernel
theorem dX1_run_64 : decode cX1_run 64 = .ok (.iconst 2, 1) := by decide +kernel
theorem dX1_run_65 : decode cX1_run 65 = .ok (.if_icmp .ne 34, 3) := by decide +kernel
theorem dX1_run_68 : decode cX1_run 68 = .ok (.iload_n 1, 1) := by decide +kernel
theorem dX1_run_69 : decode cX1_run 69 = .ok (.iload_n 3, 1) := by decide +kernel
theorem dX1_run_70 : decode cX1_run 70 = .ok (.bipush 32, 2) := by decide +kernel
theorem dX1_run_72 : decode cX1_run 72 = .ok (.irem, 1) := by decide +kernel
theorem dX1_run_73 : decode cX1_run 73 = .ok (.ishr, 1) := by decide +kernel
theorem dX1_run_74 : decode cX1_run 74 = .ok (.iconst 1, 1) := by decide +kernel
theorem dX1_run_75 : decode cX1_run 75 = .ok (.iand, 1) := by decide +kernel
theorem dX1_run_76 : decode cX1_run 76 = .ok (.iconst 1, 1) := by decide +kernel
theorem dX1_run_77 : decode cX1_run 77 = .ok (.if_icmp .ne 12, 3) := by decide +kernel
theorem dX1_run_80 : decode cX1_run 80 = .ok (.aload_n 0, 1) := by decide +kernel
theorem dX1_run_81 : decode cX1_run 81 = .ok (.getfield 140, 3) := by decide +kernel
theorem dX1_run_84 : decode cX1_run 84 = .ok (.iload_n 2, 1) := by decide +kernel
theorem dX1_run_85 : decode cX1_run 85 = .ok (.iaload, 1) := by decide +kernel
theorem dX1_run_86 : decode cX1_run 86 = .ok (.goto 6, 3) := by decide +kernel
theorem dX1_run_89 : decode cX1_run 89 = .ok (.iload_n 2, 1) := by decide +kernel
theorem dX1_run_90 : decode cX1_run 90 = .ok (.iconst 1, 1) := by decide +kernel
theorem dX1_run_91 : decode cX1_run 91 = .ok (.iadd, 1) := by decide +kernel
theorem dX1_run_92 : decode cX1_run 92 = .ok (.istore_n 2, 1) := by decide +kernel
theorem dX1_run_93 : decode cX1_run 93 = .ok (.iinc 3 1, 3) := by decide +kernel
theorem dX1_run_96 : decode cX1_run 96 = .ok (.goto 57, 3) := by decide +kernel
theorem dX1_run_99 : decode cX1_run 99 = .ok (.aload_n 0, 1) := by decide +kernel
theorem dX1_run_100 : decode cX1_run 100 = .ok (.invokevirtual 369, 3) := by decide +kernel
theorem dX1_run_103 : decode cX1_run 103 = .ok (.iload 5, 2) := by decide +kernel
theorem dX1_run_105 : decode cX1_run 105 = .ok (.ifCond .ne 22, 3) := by decide +kernel
theorem dX1_run_108 : decode cX1_run 108 = .ok (.aload_n 0, 1) := by decide +kernel
theorem dX1_run_109 : decode cX1_run 109 = .ok (.aload_n 0, 1) := by decide +kernel
theorem dX1_run_110 : decode cX1_run 110 = .ok (.getfield 137, 3) := by decide +kernel
theorem dX1_run_113 : decode cX1_run 113 = .ok (.iload_n 2, 1) := by decide +kernel
theorem dX1_run_114 : decode cX1_run 114 = .ok (.iaload, 1) := by decide +kernel
theorem dX1_run_115 : decode cX1_run 115 = .ok (.aload_n 0, 1) := by decide +kernel
theorem dX1_run_116 : decode cX1_run 116 = .ok (.getfield 140, 3) := by decide +kernel
theorem dX1_run_119 : decode cX1_run 119 = .ok (.iload_n 2, 1) := by decide +kernel
theorem dX1_run_120 : decode cX1_run 120 = .ok (.iaload, 1) := by decide +kernel
theorem dX1_run_121 : decode cX1_run 121 = .ok (.invokevirtual 372, 3) := by decide +kernel
theorem dX1_run_124 : decode cX1_run 124 = .ok (.goto 13, 3) := by decide +kernel
theorem dX1_run_127 : decode cX1_run 127 = .ok (.aload_n 0, 1) := by decide +kernel
theorem dX1_run_128 : decode cX1_run 128 = .ok (.aload_n 0, 1) := by decide +kernel
theorem dX1_run_129 : decode cX1_run 129 = .ok (.getfield 137, 3) := by decide +kernel
theorem dX1_run_132 : decode cX1_run 132 = .ok (.iload_n 2, 1) := by decide +kernel
theorem dX1_run_133 : decode cX1_run 133 = .ok (.iaload, 1) := by decide +kernel
theorem dX1_run_134 : decode cX1_run 134 = .ok (.invokevirtual 381, 3) := by decide +kernel
theorem dX1_run_137 : decode cX1_run 137 = .ok (.aload_n 0, 1) := by decide +kernel
theorem dX1_run_138 : decode cX1_run 138 = .ok (.invokevirtual 375, 3) := by decide +kernel
theorem dX1_run_141 : decode cX1_run 141 = .ok (.bipush (-2), 2) := by decide +kernel
theorem dX1_run_143 : decode cX1_run 143 = .ok (.if_icmp .ne 7, 3) := by decide +kernel
theorem dX1_run_146 : decode cX1_run 146 = .ok (.iload_n 2, 1) := by decide +kernel
theorem dX1_run_147 : decode cX1_run 147 = .ok (.iconst 1, 1) := by decide +kernel
theorem dX1_run_148 : decode cX1_run 148 = .ok (.iadd, 1) := by decide +kernel
theorem dX1_run_149 : decode cX1_run 149 = .ok (.ireturn, 1) := by decide +kernel
theorem dX1_run_150 : decode cX1_run 150 = .ok (.iinc 2 1, 3) := by decide +kernel
theorem dX1_run_153 : decode cX1_run 153 = .ok (.iinc 4 1, 3) := by decide +kernel
theorem dX1_run_156 : decode cX1_run 156 = .ok (.goto (-128), 3) := by decide +kernel
theorem dX1_run_159 : decode cX1_run 159 = .ok (.iload_n 2, 1) := by decide +kernel
theorem dX1_run_160 : decode cX1_run 160 = .ok (.aload_n 0, 1) := by decide +kernel
theorem dX1_run_161 : decode cX1_run 161 = .ok (.getfield 267, 3) := by decide +kernel
theorem dX1_run_164 : decode cX1_run 164 = .ok (.if_icmp .lt 7, 3) := by decide +kernel
theorem dX1_run_167 : decode cX1_run 167 = .ok (.iconst 0, 1) := by decide +kernel
theorem dX1_run_168 : decode cX1_run 168 = .ok (.goto 5, 3) := by decide +kernel
theorem dX1_run_171 : decode cX1_run 171 = .ok (.bipush (-2), 2) := by decide +kernel
theorem dX1_run_173 : decode cX1_run 173 = .ok (.ireturn, 1) := by decide +kernel
theorem dX1_stand_0 : decode cX1_stand 0 = .ok (.iconst 0, 1) := by decide +kernel
theorem dX1_stand_1 : decode cX1_stand 1 = .ok (.istore_n 2, 1) := by decide +kernel
theorem dX1_stand_2 : decode cX1_stand 2 = .ok (.iload_n 2, 1) := by decide +kernel
theorem dX1_stand_3 : decode cX1_stand 3 = .ok (.bipush 26, 2) := by decide +kernel
theorem dX1_stand_5 : decode cX1_stand 5 = .ok (.if_icmp .ge 26, 3) := by decide +kernel
theorem dX1_stand_8 : decode cX1_stand 8 = .ok (.aload_n 0, 1) := by decide +kernel
theorem dX1_stand_9 : decode cX1_stand 9 = .ok (.getfield 107, 3) := by decide +kernel
theorem dX1_stand_12 : decode cX1_stand 12 = .ok (.iload_n 2, 1) := by decide +kernel
theorem dX1_stand_13 : decode cX1_stand 13 = .ok (.aload_n 0, 1) := by decide +kernel
theorem dX1_stand_14 : decode cX1_stand 14 = .ok (.getfield 146, 3) := by decide +kernel
theorem dX1_stand_17 : decode cX1_stand 17 = .ok (.bipush 26, 2) := by decide +kernel
theorem dX1_stand_19 : decode cX1_stand 19 = .ok (.iload_n 1, 1) := by decide +kernel
theorem dX1_stand_20 : decode cX1_stand 20 = .ok (.imul, 1) := by decide +kernel
theorem dX1_stand_21 : decode cX1_stand 21 = .ok (.iload_n 2, 1) := by decide +kernel
theorem dX1_stand_22 : decode cX1_stand 22 = .ok (.iadd, 1) := by decide +kernel
theorem dX1_stand_23 : decode cX1_stand 23 = .ok (.iaload, 1) := by decide +kernel
theorem dX1_stand_24 : decode cX1_stand 24 = .ok (.iastore, 1) := by decide +kernel
theorem dX1_stand_25 : decode cX1_stand 25 = .ok (.iinc 2 1, 3) := by decide +kernel
theorem dX1_stand_28 : decode cX1_stand 28 = .ok (.goto (-26), 3) := by decide +kernel
theorem dX1_stand_31 : decode cX1_stand 31 = .ok (.iconst 0, 1) := by decide +kernel
theorem dX1_stand_32 : decode cX1_stand 32 = .ok (.istore_n 2, 1) := by decide +kernel
theorem dX1_stand_33 : decode cX1_stand 33 = .ok (.iload_n 2, 1) := by decide +kernel
theorem dX1_stand_34 : decode cX1_stand 34 = .ok (.aload_n 0, 1) := by decide +kernel
theorem dX1_stand_35 : decode cX1_stand 35 = .ok (.getfield 264, 3) := by decide +kernel
theorem dX1_stand_38 : decode cX1_stand 38 = .ok (.if_icmp .ge 34, 3) := by decide +kernel
theorem dX1_stand_41 : decode cX1_stand 41 = .ok (.aload_n 0, 1) := by decide +kernel
theorem dX1_stand_42 : decode cX1_stand 42 = .ok (.getfield 116, 3) := by decide +kernel
theorem dX1_stand_45 : decode cX1_stand 45 = .ok (.iload_n 2, 1) := by decide +kernel
theorem dX1_stand_46 : decode cX1_stand 46 = .ok (.aload_n 0, 1) := by decide +kernel
theorem dX1_stand_47 : decode cX1_stand 47 = .ok (.getfield 149, 3) := by decide +kernel
theorem dX1_stand_50 : decode cX1_stand 50 = .ok (.iload_n 1, 1) := by decide +kernel
theorem dX1_stand_51 : decode cX1_stand 51 = .ok (.iaload, 1) := by decide +kernel
theorem dX1_stand_52 : decode cX1_stand 52 = .ok (.iload_n 2, 1) := by decide +kernel
theorem dX1_stand_53 : decode cX1_stand 53 = .ok (.ishr, 1) := by decide +kernel
theorem dX1_stand_54 : decode cX1_stand 54 = .ok (.iconst 1, 1) := by decide +kernel
theorem dX1_stand_55 : decode cX1_stand 55 = .ok (.iand, 1) := by decide +kernel
theorem dX1_stand_56 : decode cX1_stand 56 = .ok (.iconst 1, 1) := by decide +kernel
theorem dX1_stand_57 : decode cX1_stand 57 = .ok (.if_icmp .ne 7, 3) := by decide +kernel
theorem dX1_stand_60 : decode cX1_stand 60 = .ok (.iconst 1, 1) := by decide +kernel
theorem dX1_stand_61 : decode cX1_stand 61 = .ok (.goto 4, 3) := by decide +kernel
theorem dX1_stand_64 : decode cX1_stand 64 = .ok (.iconst 0, 1) := by decide +kernel
theorem dX1_stand_65 : decode cX1_stand 65 = .ok (.bastore, 1) := by decide +kernel
theorem dX1_stand_66 : decode cX1_stand 66 = .ok (.iinc 2 1, 3) := by decide +kernel
theorem dX1_stand_69 : decode cX1_stand 69 = .ok (.goto (-36), 3) := by decide +kernel
theorem dX1_stand_72 : decode cX1_stand 72 = .ok (.return_, 1) := by decide +kernel
theorem dX1_state_0 : decode cX1_state 0 = .ok (.aload_n 0, 1) := by decide +kernel
theorem dX1_state_1 : decode cX1_state 1 = .ok (.iconst 0, 1) := by decide +kernel
theorem dX1_state_2 : decode cX1_state 2 = .ok (.putfield 161, 3) := by decide +kernel
theorem dX1_state_5 : decode cX1_state 5 = .ok (.iload_n 1, 1) := by decide +kernel
theorem dX1_state_6 : decode cX1_state 6 = .ok (.ifCond .ne 10, 3) := by decide +kernel
theorem dX1_state_9 : decode cX1_state 9 = .ok (.aload_n 0, 1) := by decide +kernel
theorem dX1_state_10 : decode cX1_state 10 = .ok (.getfield 282, 3) := by decide +kernel
