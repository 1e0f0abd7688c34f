theorem dX2_makeKey_26 : decode cX2_makeKey 26 = .ok (.iconst 2, 1) := by decide +kernel
theorem dX2_makeKey_27 : decode cX2_makeKey 27 = .ok (.ishr, 1) := by decide +kernel
theorem dX2_makeKey_28 : decode cX2_makeKey 28 = .ok (.dup2, 1) := by decide +kernel
theorem dX2_makeKey_29 : decode cX2_makeKey 29 = .ok (.laload, 1) := by decide +kernel
theorem dX2_makeKey_30 : decode cX2_makeKey 30 = .ok (.aload_n 0, 1) := by decide +kernel
theorem dX2_makeKey_31 : decode cX2_makeKey 31 = .ok (.getfield 34, 3) := by decide +kernel
theorem dX2_makeKey_34 : decode cX2_makeKey 34 = .ok (.getfield 54, 3) := by decide +kernel
theorem dX2_makeKey_37 : decode cX2_makeKey 37 = .ok (.getfield 106, 3) := by decide +kernel
theorem dX2_makeKey_40 : decode cX2_makeKey 40 = .ok (.iload_n 2, 1) := by decide +kernel
theorem dX2_makeKey_41 : decode cX2_makeKey 41 = .ok (.iaload, 1) := by decide +kernel
theorem dX2_makeKey_42 : decode cX2_makeKey 42 = .ok (.i2l, 1) := by decide +kernel
theorem dX2_makeKey_43 : decode cX2_makeKey 43 = .ok (.iload_n 2, 1) := by decide +kernel
theorem dX2_makeKey_44 : decode cX2_makeKey 44 = .ok (.iconst 3, 1) := by decide +kernel
theorem dX2_makeKey_45 : decode cX2_makeKey 45 = .ok (.iand, 1) := by decide +kernel
theorem dX2_makeKey_46 : decode cX2_makeKey 46 = .ok (.bipush 16, 2) := by decide +kernel
theorem dX2_makeKey_48 : decode cX2_makeKey 48 = .ok (.imul, 1) := by decide +kernel
theorem dX2_makeKey_49 : decode cX2_makeKey 49 = .ok (.lshl, 1) := by decide +kernel
theorem dX2_makeKey_50 : decode cX2_makeKey 50 = .ok (.lor, 1) := by decide +kernel
theorem dX2_makeKey_51 : decode cX2_makeKey 51 = .ok (.lastore, 1) := by decide +kernel
theorem dX2_makeKey_52 : decode cX2_makeKey 52 = .ok (.iinc 2 1, 3) := by decide +kernel
theorem dX2_makeKey_55 : decode cX2_makeKey 55 = .ok (.goto (-45), 3) := by decide +kernel
theorem dX2_makeKey_58 : decode cX2_makeKey 58 = .ok (.aload_n 0, 1) := by decide +kernel
theorem dX2_makeKey_59 : decode cX2_makeKey 59 = .ok (.getfield 15, 3) := by decide +kernel
theorem dX2_makeKey_62 : decode cX2_makeKey 62 = .ok (.iconst 4, 1) := by decide +kernel
theorem dX2_makeKey_63 : decode cX2_makeKey 63 = .ok (.aload_n 0, 1) := by decide +kernel
theorem dX2_makeKey_64 : decode cX2_makeKey 64 = .ok (.getfield 34, 3) := by decide +kernel
theorem dX2_makeKey_67 : decode cX2_makeKey 67 = .ok (.getfield 54, 3) := by decide +kernel
theorem dX2_makeKey_70 : decode cX2_makeKey 70 = .ok (.getfield 110, 3) := by decide +kernel
theorem dX2_makeKey_73 : decode cX2_makeKey 73 = .ok (.i2l, 1) := by decide +kernel
theorem dX2_makeKey_74 : decode cX2_makeKey 74 = .ok (.bipush 8, 2) := by decide +kernel
theorem dX2_makeKey_76 : decode cX2_makeKey 76 = .ok (.lshl, 1) := by decide +kernel
theorem dX2_makeKey_77 : decode cX2_makeKey 77 = .ok (.iload_n 1, 1) := by decide +kernel
theorem dX2_makeKey_78 : decode cX2_makeKey 78 = .ok (.i2l, 1) := by decide +kernel
theorem dX2_makeKey_79 : decode cX2_makeKey 79 = .ok (.lor, 1) := by decide +kernel
theorem dX2_makeKey_80 : decode cX2_makeKey 80 = .ok (.lastore, 1) := by decide +kernel
theorem dX2_makeKey_81 : decode cX2_makeKey 81 = .ok (.return_, 1) := by decide +kernel
theorem dX2_meet_0 : decode cX2_meet 0 = .ok (.aload_n 0, 1) := by decide +kernel
theorem dX2_meet_1 : decode cX2_meet 1 = .ok (.iload_n 1, 1) := by decide +kernel
theorem dX2_meet_2 : decode cX2_meet 2 = .ok (.aload_n 0, 1) := by decide +kernel
theorem dX2_meet_3 : decode cX2_meet 3 = .ok (.getfield 30, 3) := by decide +kernel
theorem dX2_meet_6 : decode cX2_meet 6 = .ok (.getfield 73, 3) := by decide +kernel
theorem dX2_meet_9 : decode cX2_meet 9 = .ok (.invokestatic 113, 3) := by decide +kernel
theorem dX2_meet_12 : decode cX2_meet 12 = .ok (.invokevirtual 119, 3) := by decide +kernel
theorem dX2_meet_15 : decode cX2_meet 15 = .ok (.aload_n 0, 1) := by decide +kernel
theorem dX2_meet_16 : decode cX2_meet 16 = .ok (.invokevirtual 122, 3) := by decide +kernel
theorem dX2_meet_19 : decode cX2_meet 19 = .ok (.istore_n 2, 1) := by decide +kernel
theorem dX2_meet_20 : decode cX2_meet 20 = .ok (.iconst 0, 1) := by decide +kernel
theorem dX2_meet_21 : decode cX2_meet 21 = .ok (.istore_n 3, 1) := by decide +kernel
theorem dX2_meet_22 : decode cX2_meet 22 = .ok (.iload_n 3, 1) := by decide +kernel
theorem dX2_meet_23 : decode cX2_meet 23 = .ok (.sipush 2048, 3) := by decide +kernel
theorem dX2_meet_26 : decode cX2_meet 26 = .ok (.if_icmp .ge 54, 3) := by decide +kernel
theorem dX2_meet_29 : decode cX2_meet 29 = .ok (.iload_n 2, 1) := by decide +kernel
theorem dX2_meet_30 : decode cX2_meet 30 = .ok (.iload_n 3, 1) := by decide +kernel
theorem dX2_meet_31 : decode cX2_meet 31 = .ok (.iadd, 1) := by decide +kernel
theorem dX2_meet_32 : decode cX2_meet 32 = .ok (.sipush 2047, 3) := by decide +kernel
theorem dX2_meet_35 : decode cX2_meet 35 = .ok (.iand, 1) := by decide +kernel
theorem dX2_meet_36 : decode cX2_meet 36 = .ok (.istore 4, 2) := by decide +kernel
theorem dX2_meet_38 : decode cX2_meet 38 = .ok (.aload_n 0, 1) := by decide +kernel
theorem dX2_meet_39 : decode cX2_meet 39 = .ok (.getfield 18, 3) := by decide +kernel
theorem dX2_meet_42 : decode cX2_meet 42 = .ok (.iload 4, 2) := by decide +kernel
theorem dX2_meet_44 : decode cX2_meet 44 = .ok (.iaload, 1) := by decide +kernel
theorem dX2_meet_45 : decode cX2_meet 45 = .ok (.ifCond .ne 10, 3) := by decide +kernel
theorem dX2_meet_48 : decode cX2_meet 48 = .ok (.aload_n 0, 1) := by decide +kernel
theorem dX2_meet_49 : decode cX2_meet 49 = .ok (.iload 4, 2) := by decide +kernel
theorem dX2_meet_51 : decode cX2_meet 51 = .ok (.invokevirtual 126, 3) := by decide +kernel
theorem dX2_meet_54 : decode cX2_meet 54 = .ok (.return_, 1) := by decide +kernel
theorem dX2_meet_55 : decode cX2_meet 55 = .ok (.aload_n 0, 1) := by decide +kernel
theorem dX2_meet_56 : decode cX2_meet 56 = .ok (.aload_n 0, 1) := by decide +kernel
theorem dX2_meet_57 : decode cX2_meet 57 = .ok (.getfield 18, 3) := by decide +kernel
theorem dX2_meet_60 : decode cX2_meet 60 = .ok (.iload 4, 2) := by decide +kernel
theorem dX2_meet_62 : decode cX2_meet 62 = .ok (.iaload, 1) := by decide +kernel
theorem dX2_meet_63 : decode cX2_meet 63 = .ok (.iconst 1, 1) := by decide +kernel
theorem dX2_meet_64 : decode cX2_meet 64 = .ok (.isub, 1) := by decide +kernel
theorem dX2_meet_65 : decode cX2_meet 65 = .ok (.iconst 5, 1) := by decide +kernel
theorem dX2_meet_66 : decode cX2_meet 66 = .ok (.imul, 1) := by decide +kernel
theorem dX2_meet_67 : decode cX2_meet 67 = .ok (.invokevirtual 129, 3) := by decide +kernel
theorem dX2_meet_70 : decode cX2_meet 70 = .ok (.ifCond .eq 4, 3) := by decide +kernel
theorem dX2_meet_73 : decode cX2_meet 73 = .ok (.return_, 1) := by decide +kernel
theorem dX2_meet_74 : decode cX2_meet 74 = .ok (.iinc 3 1, 3) := by decide +kernel
theorem dX2_meet_77 : decode cX2_meet 77 = .ok (.goto (-55), 3) := by decide +kernel
theorem dX2_meet_80 : decode cX2_meet 80 = .ok (.return_, 1) := by decide +kernel
theorem dX2_tell_0 : decode cX2_tell 0 = .ok (.aload_n 0, 1) := by decide +kernel
theorem dX2_tell_1 : decode cX2_tell 1 = .ok (.getfield 22, 3) := by decide +kernel
theorem dX2_tell_4 : decode cX2_tell 4 = .ok (.iconst (-1), 1) := by decide +kernel
theorem dX2_tell_5 : decode cX2_tell 5 = .ok (.if_icmp .eq 11, 3) := by decide +kernel
theorem dX2_tell_8 : decode cX2_tell 8 = .ok (.iload_n 1, 1) := by decide +kernel
theorem dX2_tell_9 : decode cX2_tell 9 = .ok (.aload_n 0, 1) := by decide +kernel
theorem dX2_tell_10 : decode cX2_tell 10 = .ok (.getfield 22, 3) := by decide +kernel
theorem dX2_tell_13 : decode cX2_tell 13 = .ok (.if_icmp .ge 16, 3) := by decide +kernel
theorem dX2_tell_16 : decode cX2_tell 16 = .ok (.aload_n 0, 1) := by decide +kernel
theorem dX2_tell_17 : decode cX2_tell 17 = .ok (.iload_n 1, 1) := by decide +kernel
theorem dX2_tell_18 : decode cX2_tell 18 = .ok (.putfield 22, 3) := by decide +kernel
theorem dX2_tell_21 : decode cX2_tell 21 = .ok (.aload_n 0, 1) := by decide +kernel
theorem dX2_tell_22 : decode cX2_tell 22 = .ok (.iload_n 2, 1) := by decide +kernel
theorem dX2_tell_23 : decode cX2_tell 23 = .ok (.putfield 51, 3) := by decide +kernel
theorem dX2_tell_26 : decode cX2_tell 26 = .ok (.goto 24, 3) := by decide +kernel
theorem dX2_tell_29 : decode cX2_tell 29 = .ok (.iload_n 1, 1) := by decide +kernel
theorem dX2_tell_30 : decode cX2_tell 30 = .ok (.aload_n 0, 1) := by decide +kernel
theorem dX2_tell_31 : decode cX2_tell 31 = .ok (.getfield 22, 3) := by decide +kernel
theorem dX2_tell_34 : decode cX2_tell 34 = .ok (.if_icmp .ne 16, 3) := by decide +kernel
theorem dX2_tell_37 : decode cX2_tell 37 = .ok (.iload_n 2, 1) := by decide +kernel
theorem dX2_tell_38 : decode cX2_tell 38 = .ok (.aload_n 0, 1) := by decide +kernel
theorem dX2_tell_39 : decode cX2_tell 39 = .ok (.getfield 51, 3) := by decide +kernel
theorem dX2_tell_42 : decode cX2_tell 42 = .ok (.if_icmp .ge 8, 3) := by decide +kernel
theorem dX2_tell_45 : decode cX2_tell 45 = .ok (.aload_n 0, 1) := by decide +kernel
theorem dX2_tell_46 : decode cX2_tell 46 = .ok (.iload_n 2, 1) := by decide +kernel
theorem dX2_tell_47 : decode cX2_tell 47 = .ok (.putfield 51, 3) := by decide +kernel
theorem dX2_tell_50 : decode cX2_tell 50 = .ok (.return_, 1) := by decide +kernel
theorem dX2_visit_0 : decode cX2_visit 0 = .ok (.aload_n 0, 1) := by decide +kernel
theorem dX2_visit_1 : decode cX2_visit 1 = .ok (.iload_n 1, 1) := by decide +kernel
theorem dX2_visit_2 : decode cX2_visit 2 = .ok (.invokevirtual 69, 3) := by decide +kernel
theorem dX2_visit_5 : decode cX2_visit 5 = .ok (.istore_n 2, 1) := by decide +kernel
theorem dX2_visit_6 : decode cX2_visit 6 = .ok (.iload_n 2, 1) := by decide +kernel
theorem dX2_visit_7 : decode cX2_visit 7 = .ok (.aload_n 0, 1) := by decide +kernel
theorem dX2_visit_8 : decode cX2_visit 8 = .ok (.getfield 30, 3) := by decide +kernel
theorem dX2_visit_11 : decode cX2_visit 11 = .ok (.getfield 73, 3) := by decide +kernel
theorem dX2_visit_14 : decode cX2_visit 14 = .ok (.if_icmp .lt 4, 3) := by decide +kernel
theorem dX2_visit_17 : decode cX2_visit 17 = .ok (.return_, 1) := by decide +kernel
theorem dX2_visit_18 : decode cX2_visit 18 = .ok (.aload_n 0, 1) := by decide +kernel
theorem dX2_visit_19 : decode cX2_visit 19 = .ok (.getfield 30, 3) := by decide +kernel
theorem dX2_visit_22 : decode cX2_visit 22 = .ok (.getfield 76, 3) := by decide +kernel
theorem dX2_visit_25 : decode cX2_visit 25 = .ok (.iload_n 2, 1) := by decide +kernel
theorem dX2_visit_26 : decode cX2_visit 26 = .ok (.iaload, 1) := by decide +kernel
theorem dX2_visit_27 : decode cX2_visit 27 = .ok (.istore_n 3, 1) := by decide +kernel
theorem dX2_visit_28 : decode cX2_visit 28 = .ok (.iload_n 3, 1) := by decide +kernel
theorem dX2_visit_29 : decode cX2_visit 29 = .ok (.iconst 3, 1) := by decide +kernel
theorem dX2_visit_30 : decode cX2_visit 30 = .ok (.if_icmp .ne 17, 3) := by decide +kernel
theorem dX2_visit_33 : decode cX2_visit 33 = .ok (.aload_n 0, 1) := by decide +kernel
theorem dX2_visit_34 : decode cX2_visit 34 = .ok (.aload_n 0, 1) := by decide +kernel
theorem dX2_visit_35 : decode cX2_visit 35 = .ok (.getfield 30, 3) := by decide +kernel
theorem dX2_visit_38 : decode cX2_visit 38 = .ok (.getfield 73, 3) := by decide +kernel
theorem dX2_visit_41 : decode cX2_visit 41 = .ok (.invokevirtual 65, 3) := by decide +kernel
theorem dX2_visit_44 : decode cX2_visit 44 = .ok (.goto 118, 3) := by decide +kernel
theorem dX2_visit_47 : decode cX2_visit 47 = .ok (.iload_n 3, 1) := by decide +kernel
theorem dX2_visit_48 : decode cX2_visit 48 = .ok (.iconst 2, 1) := by decide +kernel
theorem dX2_visit_49 : decode cX2_visit 49 = .ok (.if_icmp .ne 26, 3) := by decide +kernel
theorem dX2_visit_52 : decode cX2_visit 52 = .ok (.aload_n 0, 1) := by decide +kernel
theorem dX2_visit_53 : decode cX2_visit 53 = .ok (.iload_n 2, 1) := by decide +kernel
theorem dX2_visit_54 : decode cX2_visit 54 = .ok (.iconst 1, 1) := by decide +kernel
theorem dX2_visit_55 : decode cX2_visit 55 = .ok (.iadd, 1) := by decide +kernel
theorem dX2_visit_56 : decode cX2_visit 56 = .ok (.invokevirtual 65, 3) := by decide +kernel
theorem dX2_visit_59 : decode cX2_visit 59 = .ok (.aload_n 0, 1) := by decide +kernel
theorem dX2_visit_60 : decode cX2_visit 60 = .ok (.aload_n 0, 1) := by decide +kernel
theorem dX2_visit_61 : decode cX2_visit 61 = .ok (.getfield 30, 3) := by decide +kernel
theorem dX2_visit_64 : decode cX2_visit 64 = .ok (.getfield 79, 3) := by decide +kernel
theorem dX2_visit_67 : decode cX2_visit 67 = .ok (.iload_n 2, 1) := by decide +kernel
theorem dX2_visit_68 : decode cX2_visit 68 = .ok (.iaload, 1) := by decide +kernel
theorem dX2_visit_69 : decode cX2_visit 69 = .ok (.invokevirtual 65, 3) := by decide +kernel
theorem dX2_visit_72 : decode cX2_visit 72 = .ok (.goto 90, 3) := by decide +kernel
theorem dX2_visit_75 : decode cX2_visit 75 = .ok (.aload_n 0, 1) := by decide +kernel
theorem dX2_visit_76 : decode cX2_visit 76 = .ok (.getfield 34, 3) := by decide +kernel
theorem dX2_visit_79 : decode cX2_visit 79 = .ok (.invokevirtual 82, 3) := by decide +kernel
theorem dX2_visit_82 : decode cX2_visit 82 = .ok (.iload_n 3, 1) := by decide +kernel
theorem dX2_visit_83 : decode cX2_visit 83 = .ok (.ifCond .ne 31, 3) := by decide +kernel
theorem dX2_visit_86 : decode cX2_visit 86 = .ok (.aload_n 0, 1) := by decide +kernel
theorem dX2_visit_87 : decode cX2_visit 87 = .ok (.getfield 34, 3) := by decide +kernel
theorem dX2_visit_90 : decode cX2_visit 90 = .ok (.aload_n 0, 1) := by decide +kernel
theorem dX2_visit_91 : decode cX2_visit 91 = .ok (.getfield 30, 3) := by decide +kernel
theorem dX2_visit_94 : decode cX2_visit 94 = .ok (.getfield 85, 3) := by decide +kernel
theorem dX2_visit_97 : decode cX2_visit 97 = .ok (.iload_n 2, 1) := by decide +kernel
theorem dX2_visit_98 : decode cX2_visit 98 = .ok (.iaload, 1) := by decide +kernel
theorem dX2_visit_99 : decode cX2_visit 99 = .ok (.aload_n 0, 1) := by decide +kernel
theorem dX2_visit_100 : decode cX2_visit 100 = .ok (.getfield 30, 3) := by decide +kernel
theorem dX2_visit_103 : decode cX2_visit 103 = .ok (.getfield 79, 3) := by decide +kernel
theorem dX2_visit_106 : decode cX2_visit 106 = .ok (.iload_n 2, 1) := by decide +kernel
theorem dX2_visit_107 : decode cX2_visit 107 = .ok (.iaload, 1) := by decide +kernel
theorem dX2_visit_108 : decode cX2_visit 108 = .ok (.invokevirtual 88, 3) := by decide +kernel
theorem dX2_visit_111 : decode cX2_visit 111 = .ok (.goto 19, 3) := by decide +kernel
theorem dX2_visit_114 : decode cX2_visit 114 = .ok (.aload_n 0, 1) := by decide +kernel
theorem dX2_visit_115 : decode cX2_visit 115 = .ok (.getfield 34, 3) := by decide +kernel
theorem dX2_visit_118 : decode cX2_visit 118 = .ok (.aload_n 0, 1) := by decide +kernel
theorem dX2_visit_119 : decode cX2_visit 119 = .ok (.getfield 30, 3) := by decide +kernel
theorem dX2_visit_122 : decode cX2_visit 122 = .ok (.getfield 85, 3) := by decide +kernel
theorem dX2_visit_125 : decode cX2_visit 125 = .ok (.iload_n 2, 1) := by decide +kernel
theorem dX2_visit_126 : decode cX2_visit 126 = .ok (.iaload, 1) := by decide +kernel
theorem dX2_visit_127 : decode cX2_visit 127 = .ok (.invokevirtual 92, 3) := by decide +kernel
theorem dX2_visit_130 : decode cX2_visit 130 = .ok (.aload_n 0, 1) := by decide +kernel
theorem dX2_visit_131 : decode cX2_visit 131 = .ok (.getfield 34, 3) := by decide +kernel
theorem dX2_visit_134 : decode cX2_visit 134 = .ok (.getfield 95, 3) := by decide +kernel
theorem dX2_visit_137 : decode cX2_visit 137 = .ok (.ifCond .ne 13, 3) := by decide +kernel
theorem dX2_visit_140 : decode cX2_visit 140 = .ok (.aload_n 0, 1) := by decide +kernel
theorem dX2_visit_141 : decode cX2_visit 141 = .ok (.iload_n 2, 1) := by decide +kernel
theorem dX2_visit_142 : decode cX2_visit 142 = .ok (.iconst 1, 1) := by decide +kernel
theorem dX2_visit_143 : decode cX2_visit 143 = .ok (.iadd, 1) := by decide +kernel
theorem dX2_visit_144 : decode cX2_visit 144 = .ok (.invokevirtual 65, 3) := by decide +kernel
theorem dX2_visit_147 : decode cX2_visit 147 = .ok (.goto 15, 3) := by decide +kernel
theorem dX2_visit_150 : decode cX2_visit 150 = .ok (.aload_n 0, 1) := by decide +kernel
theorem dX2_visit_151 : decode cX2_visit 151 = .ok (.iload_n 2, 1) := by decide +kernel
theorem dX2_visit_152 : decode cX2_visit 152 = .ok (.aload_n 0, 1) := by decide +kernel
theorem dX2_visit_153 : decode cX2_visit 153 = .ok (.getfield 34, 3) := by decide +kernel
theorem dX2_visit_156 : decode cX2_visit 156 = .ok (.getfield 95, 3) := by decide +kernel
theorem dX2_visit_159 : decode cX2_visit 159 = .ok (.invokevirtual 98, 3) := by decide +kernel
theorem dX2_visit_162 : decode cX2_visit 162 = .ok (.return_, 1) := by decide +kernel
theorem dX3_countPulses_0 : decode cX3_countPulses 0 = .ok (.iconst 0, 1) := by decide +kernel
theorem dX3_countPulses_1 : decode cX3_countPulses 1 = .ok (.istore_n 2, 1) := by decide +kernel
theorem dX3_countPulses_2 : decode cX3_countPulses 2 = .ok (.iload_n 2, 1) := by decide +kernel
theorem dX3_countPulses_3 : decode cX3_countPulses 3 = .ok (.bipush 26, 2) := by decide +kernel
theorem dX3_countPulses_5 : decode cX3_countPulses 5 = .ok (.if_icmp .ge 56, 3) := by decide +kernel
theorem dX3_countPulses_8 : decode cX3_countPulses 8 = .ok (.aload_n 0, 1) := by decide +kernel
theorem dX3_countPulses_9 : decode cX3_countPulses 9 = .ok (.getfield 28, 3) := by decide +kernel
theorem dX3_countPulses_12 : decode cX3_countPulses 12 = .ok (.getfield 75, 3) := by decide +kernel
theorem dX3_countPulses_15 : decode cX3_countPulses 15 = .ok (.iload_n 2, 1) := by decide +kernel
theorem dX3_countPulses_16 : decode cX3_countPulses 16 = .ok (.iaload, 1) := by decide +kernel
theorem dX3_countPulses_17 : decode cX3_countPulses 17 = .ok (.iload_n 1, 1) := by decide +kernel
theorem dX3_countPulses_18 : decode cX3_countPulses 18 = .ok (.if_icmp .ne 37, 3) := by decide +kernel
theorem dX3_countPulses_21 : decode cX3_countPulses 21 = .ok (.aload_n 0, 1) := by decide +kernel
theorem dX3_countPulses_22 : decode cX3_countPulses 22 = .ok (.getfield 25, 3) := by decide +kernel
theorem dX3_countPulses_25 : decode cX3_countPulses 25 = .ok (.iload_n 2, 1) := by decide +kernel
theorem dX3_countPulses_26 : decode cX3_countPulses 26 = .ok (.iaload, 1) := by decide +kernel
theorem dX3_countPulses_27 : decode cX3_countPulses 27 = .ok (.ifCond .le 28, 3) := by decide +kernel
theorem dX3_countPulses_30 : decode cX3_countPulses 30 = .ok (.aload_n 0, 1) := by decide +kernel
theorem dX3_countPulses_31 : decode cX3_countPulses 31 = .ok (.getfield 25, 3) := by decide +kernel
theorem dX3_countPulses_34 : decode cX3_countPulses 34 = .ok (.iload_n 2, 1) := by decide +kernel
theorem dX3_countPulses_35 : decode cX3_countPulses 35 = .ok (.dup2, 1) := by decide +kernel
theorem dX3_countPulses_36 : decode cX3_countPulses 36 = .ok (.iaload, 1) := by decide +kernel
theorem dX3_countPulses_37 : decode cX3_countPulses 37 = .ok (.iconst 1, 1) := by decide +kernel
theorem dX3_countPulses_38 : decode cX3_countPulses 38 = .ok (.isub, 1) := by decide +kernel
theorem dX3_countPulses_39 : decode cX3_countPulses 39 = .ok (.iastore, 1) := by decide +kernel
theorem dX3_countPulses_40 : decode cX3_countPulses 40 = .ok (.aload_n 0, 1) := by decide +kernel
theorem dX3_countPulses_41 : decode cX3_countPulses 41 = .ok (.getfield 25, 3) := by decide +kernel
theorem dX3_countPulses_44 : decode cX3_countPulses 44 = .ok (.iload_n 2, 1) := by decide +kernel
theorem dX3_countPulses_45 : decode cX3_countPulses 45 = .ok (.iaload, 1) := by decide +kernel
theorem dX3_countPulses_46 : decode cX3_countPulses 46 = .ok (.ifCond .ne 9, 3) := by decide +kernel
theorem dX3_countPulses_49 : decode cX3_countPulses 49 = .ok (.aload_n 0, 1) := by decide +kernel
theorem dX3_countPulses_50 : decode cX3_countPulses 50 = .ok (.iload_n 2, 1) := by decide +kernel
theorem dX3_countPulses_51 : decode cX3_countPulses 51 = .ok (.iconst 0, 1) := by decide +kernel
theorem dX3_countPulses_52 : decode cX3_countPulses 52 = .ok (.invokevirtual 107, 3) := by decide +kernel
theorem dX3_countPulses_55 : decode cX3_countPulses 55 = .ok (.iinc 2 1, 3) := by decide +kernel
theorem dX3_countPulses_58 : decode cX3_countPulses 58 = .ok (.goto (-56), 3) := by decide +kernel
theorem dX3_countPulses_61 : decode cX3_countPulses 61 = .ok (.return_, 1) := by decide +kernel
theorem dX3_read_0 : decode cX3_read 0 = .ok (.aload_n 0, 1) := by decide +kernel
theorem dX3_read_1 : decode cX3_read 1 = .ok (.getfield 37, 3) := by decide +kernel
theorem dX3_read_4 : decode cX3_read 4 = .ok (.getfield 78, 3) := by decide +kernel
theorem dX3_read_7 : decode cX3_read 7 = .ok (.iload_n 1, 1) := by decide +kernel
theorem dX3_read_8 : decode cX3_read 8 = .ok (.iaload, 1) := by decide +kernel
theorem dX3_read_9 : decode cX3_read 9 = .ok (.aload_n 0, 1) := by decide +kernel
theorem dX3_read_10 : decode cX3_read 10 = .ok (.getfield 28, 3) := by decide +kernel
theorem dX3_read_13 : decode cX3_read 13 = .ok (.getfield 97, 3) := by decide +kernel
theorem dX3_read_16 : decode cX3_read 16 = .ok (.iconst 2, 1) := by decide +kernel
theorem dX3_read_17 : decode cX3_read 17 = .ok (.aaload, 1) := by decide +kernel
theorem dX3_read_18 : decode cX3_read 18 = .ok (.iload_n 1, 1) := by decide +kernel
theorem dX3_read_19 : decode cX3_read 19 = .ok (.iaload, 1) := by decide +kernel
theorem dX3_read_20 : decode cX3_read 20 = .ok (.iconst (-1), 1) := by decide +kernel
theorem dX3_read_21 : decode cX3_read 21 = .ok (.ixor, 1) := by decide +kernel
theorem dX3_read_22 : decode cX3_read 22 = .ok (.iand, 1) := by decide +kernel
theorem dX3_read_23 : decode cX3_read 23 = .ok (.aload_n 0, 1) := by decide +kernel
theorem dX3_read_24 : decode cX3_read 24 = .ok (.getfield 18, 3) := by decide +kernel
theorem dX3_read_27 : decode cX3_read 27 = .ok (.iload_n 1, 1) := by decide +kernel
theorem dX3_read_28 : decode cX3_read 28 = .ok (.iaload, 1) := by decide +kernel
theorem dX3_read_29 : decode cX3_read 29 = .ok (.ior, 1) := by decide +kernel
theorem dX3_read_30 : decode cX3_read 30 = .ok (.istore_n 2, 1) := by decide +kernel
theorem dX3_read_31 : decode cX3_read 31 = .ok (.aload_n 0, 1) := by decide +kernel
theorem dX3_read_32 : decode cX3_read 32 = .ok (.getfield 12, 3) := by decide +kernel
theorem dX3_read_35 : decode cX3_read 35 = .ok (.iconst 0, 1) := by decide +kernel
theorem dX3_read_36 : decode cX3_read 36 = .ok (.aload_n 0, 1) := by decide +kernel
theorem dX3_read_37 : decode cX3_read 37 = .ok (.getfield 28, 3) := by decide +kernel
theorem dX3_read_40 : decode cX3_read 40 = .ok (.getfield 68, 3) := by decide +kernel
theorem dX3_read_43 : decode cX3_read 43 = .ok (.iload_n 1, 1) := by decide +kernel
theorem dX3_read_44 : decode cX3_read 44 = .ok (.iaload, 1) := by decide +kernel
theorem dX3_read_45 : decode cX3_read 45 = .ok (.iload_n 2, 1) := by decide +kernel
