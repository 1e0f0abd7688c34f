theorem dX12_registersRight_183 : decode cX12_registersRight 183 = .ok (.aload_n 0, 1) := by decide +kernel
theorem dX12_registersRight_184 : decode cX12_registersRight 184 = .ok (.iconst 3, 1) := by decide +kernel
theorem dX12_registersRight_185 : decode cX12_registersRight 185 = .ok (.aload_n 0, 1) := by decide +kernel
theorem dX12_registersRight_186 : decode cX12_registersRight 186 = .ok (.getfield 22, 3) := by decide +kernel
theorem dX12_registersRight_189 : decode cX12_registersRight 189 = .ok (.iload_n 1, 1) := by decide +kernel
theorem dX12_registersRight_190 : decode cX12_registersRight 190 = .ok (.iaload, 1) := by decide +kernel
theorem dX12_registersRight_191 : decode cX12_registersRight 191 = .ok (.invokevirtual 183, 3) := by decide +kernel
theorem dX12_registersRight_194 : decode cX12_registersRight 194 = .ok (.ireturn, 1) := by decide +kernel
theorem dX12_registersRight_195 : decode cX12_registersRight 195 = .ok (.iinc 2 1, 3) := by decide +kernel
theorem dX12_registersRight_198 : decode cX12_registersRight 198 = .ok (.goto (-85), 3) := by decide +kernel
theorem dX12_registersRight_201 : decode cX12_registersRight 201 = .ok (.iinc 1 1, 3) := by decide +kernel
theorem dX12_registersRight_204 : decode cX12_registersRight 204 = .ok (.goto (-101), 3) := by decide +kernel
theorem dX12_registersRight_207 : decode cX12_registersRight 207 = .ok (.iconst 1, 1) := by decide +kernel
theorem dX12_registersRight_208 : decode cX12_registersRight 208 = .ok (.ireturn, 1) := by decide +kernel
theorem dX12_reset_0 : decode cX12_reset 0 = .ok (.aload_n 0, 1) := by decide +kernel
theorem dX12_reset_1 : decode cX12_reset 1 = .ok (.iconst 0, 1) := by decide +kernel
theorem dX12_reset_2 : decode cX12_reset 2 = .ok (.putfield 161, 3) := by decide +kernel
theorem dX12_reset_5 : decode cX12_reset 5 = .ok (.aload_n 0, 1) := by decide +kernel
theorem dX12_reset_6 : decode cX12_reset 6 = .ok (.getfield 257, 3) := by decide +kernel
theorem dX12_reset_9 : decode cX12_reset 9 = .ok (.ifCond .ne 5, 3) := by decide +kernel
theorem dX12_reset_12 : decode cX12_reset 12 = .ok (.iconst 0, 1) := by decide +kernel
theorem dX12_reset_13 : decode cX12_reset 13 = .ok (.ireturn, 1) := by decide +kernel
theorem dX12_reset_14 : decode cX12_reset 14 = .ok (.aload_n 0, 1) := by decide +kernel
theorem dX12_reset_15 : decode cX12_reset 15 = .ok (.invokevirtual 276, 3) := by decide +kernel
theorem dX12_reset_18 : decode cX12_reset 18 = .ok (.iconst 1, 1) := by decide +kernel
theorem dX12_reset_19 : decode cX12_reset 19 = .ok (.ireturn, 1) := by decide +kernel
theorem dX12_resetAll_0 : decode cX12_resetAll 0 = .ok (.aload_n 0, 1) := by decide +kernel
theorem dX12_resetAll_1 : decode cX12_resetAll 1 = .ok (.invokevirtual 279, 3) := by decide +kernel
theorem dX12_resetAll_4 : decode cX12_resetAll 4 = .ok (.aload_n 0, 1) := by decide +kernel
theorem dX12_resetAll_5 : decode cX12_resetAll 5 = .ok (.iconst 0, 1) := by decide +kernel
theorem dX12_resetAll_6 : decode cX12_resetAll 6 = .ok (.putfield 282, 3) := by decide +kernel
theorem dX12_resetAll_9 : decode cX12_resetAll 9 = .ok (.aload_n 0, 1) := by decide +kernel
theorem dX12_resetAll_10 : decode cX12_resetAll 10 = .ok (.iconst 0, 1) := by decide +kernel
theorem dX12_resetAll_11 : decode cX12_resetAll 11 = .ok (.putfield 285, 3) := by decide +kernel
theorem dX12_resetAll_14 : decode cX12_resetAll 14 = .ok (.aload_n 0, 1) := by decide +kernel
theorem dX12_resetAll_15 : decode cX12_resetAll 15 = .ok (.iconst 0, 1) := by decide +kernel
theorem dX12_resetAll_16 : decode cX12_resetAll 16 = .ok (.putfield 288, 3) := by decide +kernel
theorem dX12_resetAll_19 : decode cX12_resetAll 19 = .ok (.return_, 1) := by decide +kernel
theorem dX12_resetDevice_0 : decode cX12_resetDevice 0 = .ok (.iconst 0, 1) := by decide +kernel
theorem dX12_resetDevice_1 : decode cX12_resetDevice 1 = .ok (.istore_n 1, 1) := by decide +kernel
theorem dX12_resetDevice_2 : decode cX12_resetDevice 2 = .ok (.iload_n 1, 1) := by decide +kernel
theorem dX12_resetDevice_3 : decode cX12_resetDevice 3 = .ok (.bipush 26, 2) := by decide +kernel
theorem dX12_resetDevice_5 : decode cX12_resetDevice 5 = .ok (.if_icmp .ge 48, 3) := by decide +kernel
theorem dX12_resetDevice_8 : decode cX12_resetDevice 8 = .ok (.aload_n 0, 1) := by decide +kernel
theorem dX12_resetDevice_9 : decode cX12_resetDevice 9 = .ok (.getfield 107, 3) := by decide +kernel
theorem dX12_resetDevice_12 : decode cX12_resetDevice 12 = .ok (.iload_n 1, 1) := by decide +kernel
theorem dX12_resetDevice_13 : decode cX12_resetDevice 13 = .ok (.aload_n 0, 1) := by decide +kernel
theorem dX12_resetDevice_14 : decode cX12_resetDevice 14 = .ok (.getfield 76, 3) := by decide +kernel
theorem dX12_resetDevice_17 : decode cX12_resetDevice 17 = .ok (.iload_n 1, 1) := by decide +kernel
theorem dX12_resetDevice_18 : decode cX12_resetDevice 18 = .ok (.baload, 1) := by decide +kernel
theorem dX12_resetDevice_19 : decode cX12_resetDevice 19 = .ok (.ifCond .eq 12, 3) := by decide +kernel
theorem dX12_resetDevice_22 : decode cX12_resetDevice 22 = .ok (.aload_n 0, 1) := by decide +kernel
theorem dX12_resetDevice_23 : decode cX12_resetDevice 23 = .ok (.getfield 92, 3) := by decide +kernel
theorem dX12_resetDevice_26 : decode cX12_resetDevice 26 = .ok (.iload_n 1, 1) := by decide +kernel
theorem dX12_resetDevice_27 : decode cX12_resetDevice 27 = .ok (.iaload, 1) := by decide +kernel
theorem dX12_resetDevice_28 : decode cX12_resetDevice 28 = .ok (.goto 4, 3) := by decide +kernel
theorem dX12_resetDevice_31 : decode cX12_resetDevice 31 = .ok (.iconst 0, 1) := by decide +kernel
theorem dX12_resetDevice_32 : decode cX12_resetDevice 32 = .ok (.iastore, 1) := by decide +kernel
theorem dX12_resetDevice_33 : decode cX12_resetDevice 33 = .ok (.aload_n 0, 1) := by decide +kernel
theorem dX12_resetDevice_34 : decode cX12_resetDevice 34 = .ok (.getfield 110, 3) := by decide +kernel
theorem dX12_resetDevice_37 : decode cX12_resetDevice 37 = .ok (.iload_n 1, 1) := by decide +kernel
theorem dX12_resetDevice_38 : decode cX12_resetDevice 38 = .ok (.iconst 2, 1) := by decide +kernel
theorem dX12_resetDevice_39 : decode cX12_resetDevice 39 = .ok (.iastore, 1) := by decide +kernel
theorem dX12_resetDevice_40 : decode cX12_resetDevice 40 = .ok (.aload_n 0, 1) := by decide +kernel
theorem dX12_resetDevice_41 : decode cX12_resetDevice 41 = .ok (.getfield 113, 3) := by decide +kernel
theorem dX12_resetDevice_44 : decode cX12_resetDevice 44 = .ok (.iload_n 1, 1) := by decide +kernel
theorem dX12_resetDevice_45 : decode cX12_resetDevice 45 = .ok (.iconst 0, 1) := by decide +kernel
theorem dX12_resetDevice_46 : decode cX12_resetDevice 46 = .ok (.iastore, 1) := by decide +kernel
theorem dX12_resetDevice_47 : decode cX12_resetDevice 47 = .ok (.iinc 1 1, 3) := by decide +kernel
theorem dX12_resetDevice_50 : decode cX12_resetDevice 50 = .ok (.goto (-48), 3) := by decide +kernel
theorem dX12_resetDevice_53 : decode cX12_resetDevice 53 = .ok (.iconst 0, 1) := by decide +kernel
theorem dX12_resetDevice_54 : decode cX12_resetDevice 54 = .ok (.istore_n 1, 1) := by decide +kernel
theorem dX12_resetDevice_55 : decode cX12_resetDevice 55 = .ok (.iload_n 1, 1) := by decide +kernel
theorem dX12_resetDevice_56 : decode cX12_resetDevice 56 = .ok (.bipush 12, 2) := by decide +kernel
theorem dX12_resetDevice_58 : decode cX12_resetDevice 58 = .ok (.if_icmp .ge 16, 3) := by decide +kernel
theorem dX12_resetDevice_61 : decode cX12_resetDevice 61 = .ok (.aload_n 0, 1) := by decide +kernel
theorem dX12_resetDevice_62 : decode cX12_resetDevice 62 = .ok (.getfield 116, 3) := by decide +kernel
theorem dX12_resetDevice_65 : decode cX12_resetDevice 65 = .ok (.iload_n 1, 1) := by decide +kernel
theorem dX12_resetDevice_66 : decode cX12_resetDevice 66 = .ok (.iconst 0, 1) := by decide +kernel
theorem dX12_resetDevice_67 : decode cX12_resetDevice 67 = .ok (.bastore, 1) := by decide +kernel
theorem dX12_resetDevice_68 : decode cX12_resetDevice 68 = .ok (.iinc 1 1, 3) := by decide +kernel
theorem dX12_resetDevice_71 : decode cX12_resetDevice 71 = .ok (.goto (-16), 3) := by decide +kernel
theorem dX12_resetDevice_74 : decode cX12_resetDevice 74 = .ok (.return_, 1) := by decide +kernel
theorem dX12_rulesRight_0 : decode cX12_rulesRight 0 = .ok (.iconst 0, 1) := by decide +kernel
theorem dX12_rulesRight_1 : decode cX12_rulesRight 1 = .ok (.istore_n 1, 1) := by decide +kernel
theorem dX12_rulesRight_2 : decode cX12_rulesRight 2 = .ok (.iload_n 1, 1) := by decide +kernel
theorem dX12_rulesRight_3 : decode cX12_rulesRight 3 = .ok (.aload_n 0, 1) := by decide +kernel
theorem dX12_rulesRight_4 : decode cX12_rulesRight 4 = .ok (.getfield 223, 3) := by decide +kernel
theorem dX12_rulesRight_7 : decode cX12_rulesRight 7 = .ok (.if_icmp .ge 143, 3) := by decide +kernel
theorem dX12_rulesRight_10 : decode cX12_rulesRight 10 = .ok (.aload_n 0, 1) := by decide +kernel
theorem dX12_rulesRight_11 : decode cX12_rulesRight 11 = .ok (.aload_n 0, 1) := by decide +kernel
theorem dX12_rulesRight_12 : decode cX12_rulesRight 12 = .ok (.getfield 52, 3) := by decide +kernel
theorem dX12_rulesRight_15 : decode cX12_rulesRight 15 = .ok (.iload_n 1, 1) := by decide +kernel
theorem dX12_rulesRight_16 : decode cX12_rulesRight 16 = .ok (.iaload, 1) := by decide +kernel
theorem dX12_rulesRight_17 : decode cX12_rulesRight 17 = .ok (.aload_n 0, 1) := by decide +kernel
theorem dX12_rulesRight_18 : decode cX12_rulesRight 18 = .ok (.getfield 198, 3) := by decide +kernel
theorem dX12_rulesRight_21 : decode cX12_rulesRight 21 = .ok (.invokevirtual 226, 3) := by decide +kernel
theorem dX12_rulesRight_24 : decode cX12_rulesRight 24 = .ok (.istore_n 2, 1) := by decide +kernel
theorem dX12_rulesRight_25 : decode cX12_rulesRight 25 = .ok (.aload_n 0, 1) := by decide +kernel
theorem dX12_rulesRight_26 : decode cX12_rulesRight 26 = .ok (.aload_n 0, 1) := by decide +kernel
theorem dX12_rulesRight_27 : decode cX12_rulesRight 27 = .ok (.getfield 55, 3) := by decide +kernel
theorem dX12_rulesRight_30 : decode cX12_rulesRight 30 = .ok (.iload_n 1, 1) := by decide +kernel
theorem dX12_rulesRight_31 : decode cX12_rulesRight 31 = .ok (.iaload, 1) := by decide +kernel
theorem dX12_rulesRight_32 : decode cX12_rulesRight 32 = .ok (.aload_n 0, 1) := by decide +kernel
theorem dX12_rulesRight_33 : decode cX12_rulesRight 33 = .ok (.getfield 198, 3) := by decide +kernel
theorem dX12_rulesRight_36 : decode cX12_rulesRight 36 = .ok (.invokevirtual 226, 3) := by decide +kernel
theorem dX12_rulesRight_39 : decode cX12_rulesRight 39 = .ok (.istore_n 3, 1) := by decide +kernel
theorem dX12_rulesRight_40 : decode cX12_rulesRight 40 = .ok (.aload_n 0, 1) := by decide +kernel
theorem dX12_rulesRight_41 : decode cX12_rulesRight 41 = .ok (.iload_n 2, 1) := by decide +kernel
theorem dX12_rulesRight_42 : decode cX12_rulesRight 42 = .ok (.invokevirtual 233, 3) := by decide +kernel
theorem dX12_rulesRight_45 : decode cX12_rulesRight 45 = .ok (.ifCond .ne 15, 3) := by decide +kernel
theorem dX12_rulesRight_48 : decode cX12_rulesRight 48 = .ok (.aload_n 0, 1) := by decide +kernel
theorem dX12_rulesRight_49 : decode cX12_rulesRight 49 = .ok (.iconst 4, 1) := by decide +kernel
theorem dX12_rulesRight_50 : decode cX12_rulesRight 50 = .ok (.aload_n 0, 1) := by decide +kernel
theorem dX12_rulesRight_51 : decode cX12_rulesRight 51 = .ok (.getfield 61, 3) := by decide +kernel
theorem dX12_rulesRight_54 : decode cX12_rulesRight 54 = .ok (.iload_n 1, 1) := by decide +kernel
theorem dX12_rulesRight_55 : decode cX12_rulesRight 55 = .ok (.iaload, 1) := by decide +kernel
theorem dX12_rulesRight_56 : decode cX12_rulesRight 56 = .ok (.invokevirtual 183, 3) := by decide +kernel
theorem dX12_rulesRight_59 : decode cX12_rulesRight 59 = .ok (.ireturn, 1) := by decide +kernel
theorem dX12_rulesRight_60 : decode cX12_rulesRight 60 = .ok (.aload_n 0, 1) := by decide +kernel
theorem dX12_rulesRight_61 : decode cX12_rulesRight 61 = .ok (.getfield 49, 3) := by decide +kernel
theorem dX12_rulesRight_64 : decode cX12_rulesRight 64 = .ok (.iload_n 1, 1) := by decide +kernel
theorem dX12_rulesRight_65 : decode cX12_rulesRight 65 = .ok (.iaload, 1) := by decide +kernel
theorem dX12_rulesRight_66 : decode cX12_rulesRight 66 = .ok (.bipush 38, 2) := by decide +kernel
theorem dX12_rulesRight_68 : decode cX12_rulesRight 68 = .ok (.if_icmp .ne 52, 3) := by decide +kernel
theorem dX12_rulesRight_71 : decode cX12_rulesRight 71 = .ok (.iload_n 3, 1) := by decide +kernel
theorem dX12_rulesRight_72 : decode cX12_rulesRight 72 = .ok (.iconst (-1), 1) := by decide +kernel
theorem dX12_rulesRight_73 : decode cX12_rulesRight 73 = .ok (.if_icmp .eq 43, 3) := by decide +kernel
theorem dX12_rulesRight_76 : decode cX12_rulesRight 76 = .ok (.aload_n 0, 1) := by decide +kernel
theorem dX12_rulesRight_77 : decode cX12_rulesRight 77 = .ok (.getfield 31, 3) := by decide +kernel
theorem dX12_rulesRight_80 : decode cX12_rulesRight 80 = .ok (.iload_n 3, 1) := by decide +kernel
theorem dX12_rulesRight_81 : decode cX12_rulesRight 81 = .ok (.iaload, 1) := by decide +kernel
theorem dX12_rulesRight_82 : decode cX12_rulesRight 82 = .ok (.bipush 119, 2) := by decide +kernel
theorem dX12_rulesRight_84 : decode cX12_rulesRight 84 = .ok (.if_icmp .eq 14, 3) := by decide +kernel
theorem dX12_rulesRight_87 : decode cX12_rulesRight 87 = .ok (.aload_n 0, 1) := by decide +kernel
theorem dX12_rulesRight_88 : decode cX12_rulesRight 88 = .ok (.getfield 31, 3) := by decide +kernel
theorem dX12_rulesRight_91 : decode cX12_rulesRight 91 = .ok (.iload_n 3, 1) := by decide +kernel
theorem dX12_rulesRight_92 : decode cX12_rulesRight 92 = .ok (.iaload, 1) := by decide +kernel
theorem dX12_rulesRight_93 : decode cX12_rulesRight 93 = .ok (.bipush 111, 2) := by decide +kernel
theorem dX12_rulesRight_95 : decode cX12_rulesRight 95 = .ok (.if_icmp .ne 21, 3) := by decide +kernel
theorem dX12_rulesRight_98 : decode cX12_rulesRight 98 = .ok (.aload_n 0, 1) := by decide +kernel
theorem dX12_rulesRight_99 : decode cX12_rulesRight 99 = .ok (.iload_n 3, 1) := by decide +kernel
theorem dX12_rulesRight_100 : decode cX12_rulesRight 100 = .ok (.aload_n 0, 1) := by decide +kernel
theorem dX12_rulesRight_101 : decode cX12_rulesRight 101 = .ok (.getfield 58, 3) := by decide +kernel
theorem dX12_rulesRight_104 : decode cX12_rulesRight 104 = .ok (.iload_n 1, 1) := by decide +kernel
theorem dX12_rulesRight_105 : decode cX12_rulesRight 105 = .ok (.iaload, 1) := by decide +kernel
theorem dX12_rulesRight_106 : decode cX12_rulesRight 106 = .ok (.invokevirtual 230, 3) := by decide +kernel
theorem dX12_rulesRight_109 : decode cX12_rulesRight 109 = .ok (.ifCond .eq 7, 3) := by decide +kernel
theorem dX12_rulesRight_112 : decode cX12_rulesRight 112 = .ok (.iconst 1, 1) := by decide +kernel
theorem dX12_rulesRight_113 : decode cX12_rulesRight 113 = .ok (.goto 12, 3) := by decide +kernel
theorem dX12_rulesRight_116 : decode cX12_rulesRight 116 = .ok (.iconst 0, 1) := by decide +kernel
theorem dX12_rulesRight_117 : decode cX12_rulesRight 117 = .ok (.goto 8, 3) := by decide +kernel
theorem dX12_rulesRight_120 : decode cX12_rulesRight 120 = .ok (.aload_n 0, 1) := by decide +kernel
theorem dX12_rulesRight_121 : decode cX12_rulesRight 121 = .ok (.iload_n 3, 1) := by decide +kernel
theorem dX12_rulesRight_122 : decode cX12_rulesRight 122 = .ok (.invokevirtual 233, 3) := by decide +kernel
theorem dX12_rulesRight_125 : decode cX12_rulesRight 125 = .ok (.istore 4, 2) := by decide +kernel
theorem dX12_rulesRight_127 : decode cX12_rulesRight 127 = .ok (.iload 4, 2) := by decide +kernel
theorem dX12_rulesRight_129 : decode cX12_rulesRight 129 = .ok (.ifCond .ne 15, 3) := by decide +kernel
theorem dX12_rulesRight_132 : decode cX12_rulesRight 132 = .ok (.aload_n 0, 1) := by decide +kernel
theorem dX12_rulesRight_133 : decode cX12_rulesRight 133 = .ok (.iconst 4, 1) := by decide +kernel
theorem dX12_rulesRight_134 : decode cX12_rulesRight 134 = .ok (.aload_n 0, 1) := by decide +kernel
theorem dX12_rulesRight_135 : decode cX12_rulesRight 135 = .ok (.getfield 64, 3) := by decide +kernel
theorem dX12_rulesRight_138 : decode cX12_rulesRight 138 = .ok (.iload_n 1, 1) := by decide +kernel
theorem dX12_rulesRight_139 : decode cX12_rulesRight 139 = .ok (.iaload, 1) := by decide +kernel
theorem dX12_rulesRight_140 : decode cX12_rulesRight 140 = .ok (.invokevirtual 183, 3) := by decide +kernel
theorem dX12_rulesRight_143 : decode cX12_rulesRight 143 = .ok (.ireturn, 1) := by decide +kernel
theorem dX12_rulesRight_144 : decode cX12_rulesRight 144 = .ok (.iinc 1 1, 3) := by decide +kernel
theorem dX12_rulesRight_147 : decode cX12_rulesRight 147 = .ok (.goto (-145), 3) := by decide +kernel
theorem dX12_rulesRight_150 : decode cX12_rulesRight 150 = .ok (.iconst 1, 1) := by decide +kernel
theorem dX12_rulesRight_151 : decode cX12_rulesRight 151 = .ok (.ireturn, 1) := by decide +kernel
theorem dX12_run_0 : decode cX12_run 0 = .ok (.aload_n 0, 1) := by decide +kernel
theorem dX12_run_1 : decode cX12_run 1 = .ok (.iconst 0, 1) := by decide +kernel
theorem dX12_run_2 : decode cX12_run 2 = .ok (.putfield 161, 3) := by decide +kernel
theorem dX12_run_5 : decode cX12_run 5 = .ok (.aload_n 0, 1) := by decide +kernel
theorem dX12_run_6 : decode cX12_run 6 = .ok (.getfield 257, 3) := by decide +kernel
theorem dX12_run_9 : decode cX12_run 9 = .ok (.ifCond .eq 10, 3) := by decide +kernel
theorem dX12_run_12 : decode cX12_run 12 = .ok (.aload_n 0, 1) := by decide +kernel
theorem dX12_run_13 : decode cX12_run 13 = .ok (.getfield 288, 3) := by decide +kernel
theorem dX12_run_16 : decode cX12_run 16 = .ok (.ifCond .le 5, 3) := by decide +kernel
theorem dX12_run_19 : decode cX12_run 19 = .ok (.iconst (-1), 1) := by decide +kernel
theorem dX12_run_20 : decode cX12_run 20 = .ok (.ireturn, 1) := by decide +kernel
theorem dX12_run_21 : decode cX12_run 21 = .ok (.iconst 0, 1) := by decide +kernel
theorem dX12_run_22 : decode cX12_run 22 = .ok (.istore_n 2, 1) := by decide +kernel
theorem dX12_run_23 : decode cX12_run 23 = .ok (.iconst 0, 1) := by decide +kernel
theorem dX12_run_24 : decode cX12_run 24 = .ok (.istore_n 3, 1) := by decide +kernel
theorem dX12_run_25 : decode cX12_run 25 = .ok (.iconst 0, 1) := by decide +kernel
theorem dX12_run_26 : decode cX12_run 26 = .ok (.istore 4, 2) := by decide +kernel
theorem dX12_run_28 : decode cX12_run 28 = .ok (.iload 4, 2) := by decide +kernel
theorem dX12_run_30 : decode cX12_run 30 = .ok (.sipush 300, 3) := by decide +kernel
theorem dX12_run_33 : decode cX12_run 33 = .ok (.if_icmp .ge 126, 3) := by decide +kernel
theorem dX12_run_36 : decode cX12_run 36 = .ok (.iload_n 2, 1) := by decide +kernel
theorem dX12_run_37 : decode cX12_run 37 = .ok (.aload_n 0, 1) := by decide +kernel
theorem dX12_run_38 : decode cX12_run 38 = .ok (.getfield 267, 3) := by decide +kernel
theorem dX12_run_41 : decode cX12_run 41 = .ok (.if_icmp .lt 5, 3) := by decide +kernel
theorem dX12_run_44 : decode cX12_run 44 = .ok (.iconst 0, 1) := by decide +kernel
theorem dX12_run_45 : decode cX12_run 45 = .ok (.ireturn, 1) := by decide +kernel
theorem dX12_run_46 : decode cX12_run 46 = .ok (.aload_n 0, 1) := by decide +kernel
theorem dX12_run_47 : decode cX12_run 47 = .ok (.getfield 134, 3) := by decide +kernel
theorem dX12_run_50 : decode cX12_run 50 = .ok (.iload_n 2, 1) := by decide +kernel
theorem dX12_run_51 : decode cX12_run 51 = .ok (.iaload, 1) := by decide +kernel
theorem dX12_run_52 : decode cX12_run 52 = .ok (.istore 5, 2) := by decide +kernel
theorem dX12_run_54 : decode cX12_run 54 = .ok (.iload 5, 2) := by decide +kernel
theorem dX12_run_56 : decode cX12_run 56 = .ok (.iconst 3, 1) := by decide +kernel
theorem dX12_run_57 : decode cX12_run 57 = .ok (.if_icmp .ne 5, 3) := by decide +kernel
theorem dX12_run_60 : decode cX12_run 60 = .ok (.iconst 0, 1) := by decide +kernel
theorem dX12_run_61 : decode cX12_run 61 = .ok (.ireturn, 1) := by decide +kernel
theorem dX12_run_62 : decode cX12_run 62 = .ok (.iload 5, 2) := by decide +kernel
theorem dX12_run_64 : decode cX12_run 64 = .ok (.iconst 2, 1) := by decide +kernel
theorem dX12_run_65 : decode cX12_run 65 = .ok (.if_icmp .ne 34, 3) := by decide +kernel
theorem dX12_run_68 : decode cX12_run 68 = .ok (.iload_n 1, 1) := by decide +kernel
theorem dX12_run_69 : decode cX12_run 69 = .ok (.iload_n 3, 1) := by decide +kernel
theorem dX12_run_70 : decode cX12_run 70 = .ok (.bipush 32, 2) := by decide +kernel
theorem dX12_run_72 : decode cX12_run 72 = .ok (.irem, 1) := by decide +kernel
theorem dX12_run_73 : decode cX12_run 73 = .ok (.ishr, 1) := by decide +kernel
theorem dX12_run_74 : decode cX12_run 74 = .ok (.iconst 1, 1) := by decide +kernel
theorem dX12_run_75 : decode cX12_run 75 = .ok (.iand, 1) := by decide +kernel
theorem dX12_run_76 : decode cX12_run 76 = .ok (.iconst 1, 1) := by decide +kernel
theorem dX12_run_77 : decode cX12_run 77 = .ok (.if_icmp .ne 12, 3) := by decide +kernel
theorem dX12_run_80 : decode cX12_run 80 = .ok (.aload_n 0, 1) := by decide +kernel
theorem dX12_run_81 : decode cX12_run 81 = .ok (.getfield 140, 3) := by decide +kernel
theorem dX12_run_84 : decode cX12_run 84 = .ok (.iload_n 2, 1) := by decide +kernel
theorem dX12_run_85 : decode cX12_run 85 = .ok (.iaload, 1) := by decide +kernel
theorem dX12_run_86 : decode cX12_run 86 = .ok (.goto 6, 3) := by decide +kernel
theorem dX12_run_89 : decode cX12_run 89 = .ok (.iload_n 2, 1) := by decide +kernel
theorem dX12_run_90 : decode cX12_run 90 = .ok (.iconst 1, 1) := by decide +kernel
theorem dX12_run_91 : decode cX12_run 91 = .ok (.iadd, 1) := by decide +kernel
theorem dX12_run_92 : decode cX12_run 92 = .ok (.istore_n 2, 1) := by decide +kernel
theorem dX12_run_93 : decode cX12_run 93 = .ok (.iinc 3 1, 3) := by decide +kernel
theorem dX12_run_96 : decode cX12_run 96 = .ok (.goto 57, 3) := by decide +kernel
theorem dX12_run_99 : decode cX12_run 99 = .ok (.aload_n 0, 1) := by decide +kernel
theorem dX12_run_100 : decode cX12_run 100 = .ok (.invokevirtual 369, 3) := by decide +kernel
theorem dX12_run_103 : decode cX12_run 103 = .ok (.iload 5, 2) := by decide +kernel
theorem dX12_run_105 : decode cX12_run 105 = .ok (.ifCond .ne 22, 3) := by decide +kernel
theorem dX12_run_108 : decode cX12_run 108 = .ok (.aload_n 0, 1) := by decide +kernel
theorem dX12_run_109 : decode cX12_run 109 = .ok (.aload_n 0, 1) := by decide +kernel
theorem dX12_run_110 : decode cX12_run 110 = .ok (.getfield 137, 3) := by decide +kernel
theorem dX12_run_113 : decode cX12_run 113 = .ok (.iload_n 2, 1) := by decide +kernel
theorem dX12_run_114 : decode cX12_run 114 = .ok (.iaload, 1) := by decide +kernel
theorem dX12_run_115 : decode cX12_run 115 = .ok (.aload_n 0, 1) := by decide +kernel
theorem dX12_run_116 : decode cX12_run 116 = .ok (.getfield 140, 3) := by decide +kernel
theorem dX12_run_119 : decode cX12_run 119 = .ok (.iload_n 2, 1) := by decide +kernel
theorem dX12_run_120 : decode cX12_run 120 = .ok (.iaload, 1) := by decide +kernel
theorem dX12_run_121 : decode cX12_run 121 = .ok (.invokevirtual 372, 3) := by decide +kernel
theorem dX12_run_124 : decode cX12_run 124 = .ok (.goto 13, 3) := by decide +kernel
theorem dX12_run_127 : decode cX12_run 127 = .ok (.aload_n 0, 1) := by decide +kernel
theorem dX12_run_128 : decode cX12_run 128 = .ok (.aload_n 0, 1) := by decide +kernel
theorem dX12_run_129 : decode cX12_run 129 = .ok (.getfield 137, 3) := by decide +kernel
theorem dX12_run_132 : decode cX12_run 132 = .ok (.iload_n 2, 1) := by decide +kernel
theorem dX12_run_133 : decode cX12_run 133 = .ok (.iaload, 1) := by decide +kernel
theorem dX12_run_134 : decode cX12_run 134 = .ok (.invokevirtual 381, 3) := by decide +kernel
theorem dX12_run_137 : decode cX12_run 137 = .ok (.aload_n 0, 1) := by decide +kernel
theorem dX12_run_138 : decode cX12_run 138 = .ok (.invokevirtual 375, 3) := by decide +kernel
theorem dX12_run_141 : decode cX12_run 141 = .ok (.bipush (-2), 2) := by decide +kernel
theorem dX12_run_143 : decode cX12_run 143 = .ok (.if_icmp .ne 7, 3) := by decide +kernel
theorem dX12_run_146 : decode cX12_run 146 = .ok (.iload_n 2, 1) := by decide +kernel
theorem dX12_run_147 : decode cX12_run 147 = .ok (.iconst 1, 1) := by decide +kernel
theorem dX12_run_148 : decode cX12_run 148 = .ok (.iadd, 1) := by decide +kernel
theorem dX12_run_149 : decode cX12_run 149 = .ok (.ireturn, 1) := by decide +kernel
theorem dX12_run_150 : decode cX12_run 150 = .ok (.iinc 2 1, 3) := by decide +kernel
theorem dX12_run_153 : decode cX12_run 153 = .ok (.iinc 4 1, 3) := by decide +kernel
