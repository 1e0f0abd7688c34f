theorem dX0_load_73 : decode cX0_load 73 = .ok (.bipush 8, 2) := by decide +kernel
theorem dX0_load_75 : decode cX0_load 75 = .ok (.lushr, 1) := by decide +kernel
theorem dX0_load_76 : decode cX0_load 76 = .ok (.l2i, 1) := by decide +kernel
theorem dX0_load_77 : decode cX0_load 77 = .ok (.putfield 110, 3) := by decide +kernel
theorem dX0_load_80 : decode cX0_load 80 = .ok (.lload_n 3, 1) := by decide +kernel
theorem dX0_load_81 : decode cX0_load 81 = .ok (.l2i, 1) := by decide +kernel
theorem dX0_load_82 : decode cX0_load 82 = .ok (.sipush 255, 3) := by decide +kernel
theorem dX0_load_85 : decode cX0_load 85 = .ok (.iand, 1) := by decide +kernel
theorem dX0_load_86 : decode cX0_load 86 = .ok (.ireturn, 1) := by decide +kernel
theorem dX0_makeKey_0 : decode cX0_makeKey 0 = .ok (.aload_n 0, 1) := by decide +kernel
theorem dX0_makeKey_1 : decode cX0_makeKey 1 = .ok (.getfield 15, 3) := by decide +kernel
theorem dX0_makeKey_4 : decode cX0_makeKey 4 = .ok (.lconst 0, 1) := by decide +kernel
theorem dX0_makeKey_5 : decode cX0_makeKey 5 = .ok (.invokestatic 133, 3) := by decide +kernel
theorem dX0_makeKey_8 : decode cX0_makeKey 8 = .ok (.iconst 0, 1) := by decide +kernel
theorem dX0_makeKey_9 : decode cX0_makeKey 9 = .ok (.istore_n 2, 1) := by decide +kernel
theorem dX0_makeKey_10 : decode cX0_makeKey 10 = .ok (.iload_n 2, 1) := by decide +kernel
theorem dX0_makeKey_11 : decode cX0_makeKey 11 = .ok (.aload_n 0, 1) := by decide +kernel
theorem dX0_makeKey_12 : decode cX0_makeKey 12 = .ok (.getfield 26, 3) := by decide +kernel
theorem dX0_makeKey_15 : decode cX0_makeKey 15 = .ok (.getfield 101, 3) := by decide +kernel
theorem dX0_makeKey_18 : decode cX0_makeKey 18 = .ok (.if_icmp .ge 40, 3) := by decide +kernel
theorem dX0_makeKey_21 : decode cX0_makeKey 21 = .ok (.aload_n 0, 1) := by decide +kernel
theorem dX0_makeKey_22 : decode cX0_makeKey 22 = .ok (.getfield 15, 3) := by decide +kernel
theorem dX0_makeKey_25 : decode cX0_makeKey 25 = .ok (.iload_n 2, 1) := by decide +kernel
theorem dX0_makeKey_26 : decode cX0_makeKey 26 = .ok (.iconst 2, 1) := by decide +kernel
theorem dX0_makeKey_27 : decode cX0_makeKey 27 = .ok (.ishr, 1) := by decide +kernel
theorem dX0_makeKey_28 : decode cX0_makeKey 28 = .ok (.dup2, 1) := by decide +kernel
theorem dX0_makeKey_29 : decode cX0_makeKey 29 = .ok (.laload, 1) := by decide +kernel
theorem dX0_makeKey_30 : decode cX0_makeKey 30 = .ok (.aload_n 0, 1) := by decide +kernel
theorem dX0_makeKey_31 : decode cX0_makeKey 31 = .ok (.getfield 34, 3) := by decide +kernel
theorem dX0_makeKey_34 : decode cX0_makeKey 34 = .ok (.getfield 54, 3) := by decide +kernel
theorem dX0_makeKey_37 : decode cX0_makeKey 37 = .ok (.getfield 106, 3) := by decide +kernel
theorem dX0_makeKey_40 : decode cX0_makeKey 40 = .ok (.iload_n 2, 1) := by decide +kernel
theorem dX0_makeKey_41 : decode cX0_makeKey 41 = .ok (.iaload, 1) := by decide +kernel
theorem dX0_makeKey_42 : decode cX0_makeKey 42 = .ok (.i2l, 1) := by decide +kernel
theorem dX0_makeKey_43 : decode cX0_makeKey 43 = .ok (.iload_n 2, 1) := by decide +kernel
theorem dX0_makeKey_44 : decode cX0_makeKey 44 = .ok (.iconst 3, 1) := by decide +kernel
theorem dX0_makeKey_45 : decode cX0_makeKey 45 = .ok (.iand, 1) := by decide +kernel
theorem dX0_makeKey_46 : decode cX0_makeKey 46 = .ok (.bipush 16, 2) := by decide +kernel
theorem dX0_makeKey_48 : decode cX0_makeKey 48 = .ok (.imul, 1) := by decide +kernel
theorem dX0_makeKey_49 : decode cX0_makeKey 49 = .ok (.lshl, 1) := by decide +kernel
theorem dX0_makeKey_50 : decode cX0_makeKey 50 = .ok (.lor, 1) := by decide +kernel
theorem dX0_makeKey_51 : decode cX0_makeKey 51 = .ok (.lastore, 1) := by decide +kernel
theorem dX0_makeKey_52 : decode cX0_makeKey 52 = .ok (.iinc 2 1, 3) := by decide +kernel
theorem dX0_makeKey_55 : decode cX0_makeKey 55 = .ok (.goto (-45), 3) := by decide +kernel
theorem dX0_makeKey_58 : decode cX0_makeKey 58 = .ok (.aload_n 0, 1) := by decide +kernel
theorem dX0_makeKey_59 : decode cX0_makeKey 59 = .ok (.getfield 15, 3) := by decide +kernel
theorem dX0_makeKey_62 : decode cX0_makeKey 62 = .ok (.iconst 4, 1) := by decide +kernel
theorem dX0_makeKey_63 : decode cX0_makeKey 63 = .ok (.aload_n 0, 1) := by decide +kernel
theorem dX0_makeKey_64 : decode cX0_makeKey 64 = .ok (.getfield 34, 3) := by decide +kernel
theorem dX0_makeKey_67 : decode cX0_makeKey 67 = .ok (.getfield 54, 3) := by decide +kernel
theorem dX0_makeKey_70 : decode cX0_makeKey 70 = .ok (.getfield 110, 3) := by decide +kernel
theorem dX0_makeKey_73 : decode cX0_makeKey 73 = .ok (.i2l, 1) := by decide +kernel
theorem dX0_makeKey_74 : decode cX0_makeKey 74 = .ok (.bipush 8, 2) := by decide +kernel
theorem dX0_makeKey_76 : decode cX0_makeKey 76 = .ok (.lshl, 1) := by decide +kernel
theorem dX0_makeKey_77 : decode cX0_makeKey 77 = .ok (.iload_n 1, 1) := by decide +kernel
theorem dX0_makeKey_78 : decode cX0_makeKey 78 = .ok (.i2l, 1) := by decide +kernel
theorem dX0_makeKey_79 : decode cX0_makeKey 79 = .ok (.lor, 1) := by decide +kernel
theorem dX0_makeKey_80 : decode cX0_makeKey 80 = .ok (.lastore, 1) := by decide +kernel
theorem dX0_makeKey_81 : decode cX0_makeKey 81 = .ok (.return_, 1) := by decide +kernel
theorem dX0_meet_0 : decode cX0_meet 0 = .ok (.aload_n 0, 1) := by decide +kernel
theorem dX0_meet_1 : decode cX0_meet 1 = .ok (.iload_n 1, 1) := by decide +kernel
theorem dX0_meet_2 : decode cX0_meet 2 = .ok (.aload_n 0, 1) := by decide +kernel
theorem dX0_meet_3 : decode cX0_meet 3 = .ok (.getfield 30, 3) := by decide +kernel
theorem dX0_meet_6 : decode cX0_meet 6 = .ok (.getfield 73, 3) := by decide +kernel
theorem dX0_meet_9 : decode cX0_meet 9 = .ok (.invokestatic 113, 3) := by decide +kernel
theorem dX0_meet_12 : decode cX0_meet 12 = .ok (.invokevirtual 119, 3) := by decide +kernel
theorem dX0_meet_15 : decode cX0_meet 15 = .ok (.aload_n 0, 1) := by decide +kernel
theorem dX0_meet_16 : decode cX0_meet 16 = .ok (.invokevirtual 122, 3) := by decide +kernel
theorem dX0_meet_19 : decode cX0_meet 19 = .ok (.istore_n 2, 1) := by decide +kernel
theorem dX0_meet_20 : decode cX0_meet 20 = .ok (.iconst 0, 1) := by decide +kernel
theorem dX0_meet_21 : decode cX0_meet 21 = .ok (.istore_n 3, 1) := by decide +kernel
theorem dX0_meet_22 : decode cX0_meet 22 = .ok (.iload_n 3, 1) := by decide +kernel
theorem dX0_meet_23 : decode cX0_meet 23 = .ok (.sipush 2048, 3) := by decide +kernel
theorem dX0_meet_26 : decode cX0_meet 26 = .ok (.if_icmp .ge 54, 3) := by decide +kernel
theorem dX0_meet_29 : decode cX0_meet 29 = .ok (.iload_n 2, 1) := by decide +kernel
theorem dX0_meet_30 : decode cX0_meet 30 = .ok (.iload_n 3, 1) := by decide +kernel
theorem dX0_meet_31 : decode cX0_meet 31 = .ok (.iadd, 1) := by decide +kernel
theorem dX0_meet_32 : decode cX0_meet 32 = .ok (.sipush 2047, 3) := by decide +kernel
theorem dX0_meet_35 : decode cX0_meet 35 = .ok (.iand, 1) := by decide +kernel
theorem dX0_meet_36 : decode cX0_meet 36 = .ok (.istore 4, 2) := by decide +kernel
theorem dX0_meet_38 : decode cX0_meet 38 = .ok (.aload_n 0, 1) := by decide +kernel
theorem dX0_meet_39 : decode cX0_meet 39 = .ok (.getfield 18, 3) := by decide +kernel
theorem dX0_meet_42 : decode cX0_meet 42 = .ok (.iload 4, 2) := by decide +kernel
theorem dX0_meet_44 : decode cX0_meet 44 = .ok (.iaload, 1) := by decide +kernel
theorem dX0_meet_45 : decode cX0_meet 45 = .ok (.ifCond .ne 10, 3) := by decide +kernel
theorem dX0_meet_48 : decode cX0_meet 48 = .ok (.aload_n 0, 1) := by decide +kernel
theorem dX0_meet_49 : decode cX0_meet 49 = .ok (.iload 4, 2) := by decide +kernel
theorem dX0_meet_51 : decode cX0_meet 51 = .ok (.invokevirtual 126, 3) := by decide +kernel
theorem dX0_meet_54 : decode cX0_meet 54 = .ok (.return_, 1) := by decide +kernel
theorem dX0_meet_55 : decode cX0_meet 55 = .ok (.aload_n 0, 1) := by decide +kernel
theorem dX0_meet_56 : decode cX0_meet 56 = .ok (.aload_n 0, 1) := by decide +kernel
theorem dX0_meet_57 : decode cX0_meet 57 = .ok (.getfield 18, 3) := by decide +kernel
theorem dX0_meet_60 : decode cX0_meet 60 = .ok (.iload 4, 2) := by decide +kernel
theorem dX0_meet_62 : decode cX0_meet 62 = .ok (.iaload, 1) := by decide +kernel
theorem dX0_meet_63 : decode cX0_meet 63 = .ok (.iconst 1, 1) := by decide +kernel
theorem dX0_meet_64 : decode cX0_meet 64 = .ok (.isub, 1) := by decide +kernel
theorem dX0_meet_65 : decode cX0_meet 65 = .ok (.iconst 5, 1) := by decide +kernel
theorem dX0_meet_66 : decode cX0_meet 66 = .ok (.imul, 1) := by decide +kernel
theorem dX0_meet_67 : decode cX0_meet 67 = .ok (.invokevirtual 129, 3) := by decide +kernel
theorem dX0_meet_70 : decode cX0_meet 70 = .ok (.ifCond .eq 4, 3) := by decide +kernel
theorem dX0_meet_73 : decode cX0_meet 73 = .ok (.return_, 1) := by decide +kernel
theorem dX0_meet_74 : decode cX0_meet 74 = .ok (.iinc 3 1, 3) := by decide +kernel
theorem dX0_meet_77 : decode cX0_meet 77 = .ok (.goto (-55), 3) := by decide +kernel
theorem dX0_meet_80 : decode cX0_meet 80 = .ok (.return_, 1) := by decide +kernel
theorem dX0_tell_0 : decode cX0_tell 0 = .ok (.aload_n 0, 1) := by decide +kernel
theorem dX0_tell_1 : decode cX0_tell 1 = .ok (.getfield 22, 3) := by decide +kernel
theorem dX0_tell_4 : decode cX0_tell 4 = .ok (.iconst (-1), 1) := by decide +kernel
theorem dX0_tell_5 : decode cX0_tell 5 = .ok (.if_icmp .eq 11, 3) := by decide +kernel
theorem dX0_tell_8 : decode cX0_tell 8 = .ok (.iload_n 1, 1) := by decide +kernel
theorem dX0_tell_9 : decode cX0_tell 9 = .ok (.aload_n 0, 1) := by decide +kernel
theorem dX0_tell_10 : decode cX0_tell 10 = .ok (.getfield 22, 3) := by decide +kernel
theorem dX0_tell_13 : decode cX0_tell 13 = .ok (.if_icmp .ge 16, 3) := by decide +kernel
theorem dX0_tell_16 : decode cX0_tell 16 = .ok (.aload_n 0, 1) := by decide +kernel
theorem dX0_tell_17 : decode cX0_tell 17 = .ok (.iload_n 1, 1) := by decide +kernel
theorem dX0_tell_18 : decode cX0_tell 18 = .ok (.putfield 22, 3) := by decide +kernel
theorem dX0_tell_21 : decode cX0_tell 21 = .ok (.aload_n 0, 1) := by decide +kernel
theorem dX0_tell_22 : decode cX0_tell 22 = .ok (.iload_n 2, 1) := by decide +kernel
theorem dX0_tell_23 : decode cX0_tell 23 = .ok (.putfield 51, 3) := by decide +kernel
theorem dX0_tell_26 : decode cX0_tell 26 = .ok (.goto 24, 3) := by decide +kernel
theorem dX0_tell_29 : decode cX0_tell 29 = .ok (.iload_n 1, 1) := by decide +kernel
theorem dX0_tell_30 : decode cX0_tell 30 = .ok (.aload_n 0, 1) := by decide +kernel
theorem dX0_tell_31 : decode cX0_tell 31 = .ok (.getfield 22, 3) := by decide +kernel
theorem dX0_tell_34 : decode cX0_tell 34 = .ok (.if_icmp .ne 16, 3) := by decide +kernel
theorem dX0_tell_37 : decode cX0_tell 37 = .ok (.iload_n 2, 1) := by decide +kernel
theorem dX0_tell_38 : decode cX0_tell 38 = .ok (.aload_n 0, 1) := by decide +kernel
theorem dX0_tell_39 : decode cX0_tell 39 = .ok (.getfield 51, 3) := by decide +kernel
theorem dX0_tell_42 : decode cX0_tell 42 = .ok (.if_icmp .ge 8, 3) := by decide +kernel
theorem dX0_tell_45 : decode cX0_tell 45 = .ok (.aload_n 0, 1) := by decide +kernel
theorem dX0_tell_46 : decode cX0_tell 46 = .ok (.iload_n 2, 1) := by decide +kernel
theorem dX0_tell_47 : decode cX0_tell 47 = .ok (.putfield 51, 3) := by decide +kernel
theorem dX0_tell_50 : decode cX0_tell 50 = .ok (.return_, 1) := by decide +kernel
theorem dX0_visit_0 : decode cX0_visit 0 = .ok (.aload_n 0, 1) := by decide +kernel
theorem dX0_visit_1 : decode cX0_visit 1 = .ok (.iload_n 1, 1) := by decide +kernel
theorem dX0_visit_2 : decode cX0_visit 2 = .ok (.invokevirtual 69, 3) := by decide +kernel
theorem dX0_visit_5 : decode cX0_visit 5 = .ok (.istore_n 2, 1) := by decide +kernel
theorem dX0_visit_6 : decode cX0_visit 6 = .ok (.iload_n 2, 1) := by decide +kernel
theorem dX0_visit_7 : decode cX0_visit 7 = .ok (.aload_n 0, 1) := by decide +kernel
theorem dX0_visit_8 : decode cX0_visit 8 = .ok (.getfield 30, 3) := by decide +kernel
theorem dX0_visit_11 : decode cX0_visit 11 = .ok (.getfield 73, 3) := by decide +kernel
theorem dX0_visit_14 : decode cX0_visit 14 = .ok (.if_icmp .lt 4, 3) := by decide +kernel
theorem dX0_visit_17 : decode cX0_visit 17 = .ok (.return_, 1) := by decide +kernel
theorem dX0_visit_18 : decode cX0_visit 18 = .ok (.aload_n 0, 1) := by decide +kernel
theorem dX0_visit_19 : decode cX0_visit 19 = .ok (.getfield 30, 3) := by decide +kernel
theorem dX0_visit_22 : decode cX0_visit 22 = .ok (.getfield 76, 3) := by decide +kernel
theorem dX0_visit_25 : decode cX0_visit 25 = .ok (.iload_n 2, 1) := by decide +kernel
theorem dX0_visit_26 : decode cX0_visit 26 = .ok (.iaload, 1) := by decide +kernel
theorem dX0_visit_27 : decode cX0_visit 27 = .ok (.istore_n 3, 1) := by decide +kernel
theorem dX0_visit_28 : decode cX0_visit 28 = .ok (.iload_n 3, 1) := by decide +kernel
theorem dX0_visit_29 : decode cX0_visit 29 = .ok (.iconst 3, 1) := by decide +kernel
theorem dX0_visit_30 : decode cX0_visit 30 = .ok (.if_icmp .ne 17, 3) := by decide +kernel
theorem dX0_visit_33 : decode cX0_visit 33 = .ok (.aload_n 0, 1) := by decide +kernel
theorem dX0_visit_34 : decode cX0_visit 34 = .ok (.aload_n 0, 1) := by decide +kernel
theorem dX0_visit_35 : decode cX0_visit 35 = .ok (.getfield 30, 3) := by decide +kernel
theorem dX0_visit_38 : decode cX0_visit 38 = .ok (.getfield 73, 3) := by decide +kernel
theorem dX0_visit_41 : decode cX0_visit 41 = .ok (.invokevirtual 65, 3) := by decide +kernel
theorem dX0_visit_44 : decode cX0_visit 44 = .ok (.goto 118, 3) := by decide +kernel
theorem dX0_visit_47 : decode cX0_visit 47 = .ok (.iload_n 3, 1) := by decide +kernel
theorem dX0_visit_48 : decode cX0_visit 48 = .ok (.iconst 2, 1) := by decide +kernel
theorem dX0_visit_49 : decode cX0_visit 49 = .ok (.if_icmp .ne 26, 3) := by decide +kernel
theorem dX0_visit_52 : decode cX0_visit 52 = .ok (.aload_n 0, 1) := by decide +kernel
theorem dX0_visit_53 : decode cX0_visit 53 = .ok (.iload_n 2, 1) := by decide +kernel
theorem dX0_visit_54 : decode cX0_visit 54 = .ok (.iconst 1, 1) := by decide +kernel
theorem dX0_visit_55 : decode cX0_visit 55 = .ok (.iadd, 1) := by decide +kernel
theorem dX0_visit_56 : decode cX0_visit 56 = .ok (.invokevirtual 65, 3) := by decide +kernel
theorem dX0_visit_59 : decode cX0_visit 59 = .ok (.aload_n 0, 1) := by decide +kernel
theorem dX0_visit_60 : decode cX0_visit 60 = .ok (.aload_n 0, 1) := by decide +kernel
theorem dX0_visit_61 : decode cX0_visit 61 = .ok (.getfield 30, 3) := by decide +kernel
theorem dX0_visit_64 : decode cX0_visit 64 = .ok (.getfield 79, 3) := by decide +kernel
theorem dX0_visit_67 : decode cX0_visit 67 = .ok (.iload_n 2, 1) := by decide +kernel
theorem dX0_visit_68 : decode cX0_visit 68 = .ok (.iaload, 1) := by decide +kernel
theorem dX0_visit_69 : decode cX0_visit 69 = .ok (.invokevirtual 65, 3) := by decide +kernel
theorem dX0_visit_72 : decode cX0_visit 72 = .ok (.goto 90, 3) := by decide +kernel
theorem dX0_visit_75 : decode cX0_visit 75 = .ok (.aload_n 0, 1) := by decide +kernel
theorem dX0_visit_76 : decode cX0_visit 76 = .ok (.getfield 34, 3) := by decide +kernel
theorem dX0_visit_79 : decode cX0_visit 79 = .ok (.invokevirtual 82, 3) := by decide +kernel
theorem dX0_visit_82 : decode cX0_visit 82 = .ok (.iload_n 3, 1) := by decide +kernel
theorem dX0_visit_83 : decode cX0_visit 83 = .ok (.ifCond .ne 31, 3) := by decide +kernel
theorem dX0_visit_86 : decode cX0_visit 86 = .ok (.aload_n 0, 1) := by decide +kernel
theorem dX0_visit_87 : decode cX0_visit 87 = .ok (.getfield 34, 3) := by decide +kernel
theorem dX0_visit_90 : decode cX0_visit 90 = .ok (.aload_n 0, 1) := by decide +kernel
theorem dX0_visit_91 : decode cX0_visit 91 = .ok (.getfield 30, 3) := by decide +kernel
theorem dX0_visit_94 : decode cX0_visit 94 = .ok (.getfield 85, 3) := by decide +kernel
theorem dX0_visit_97 : decode cX0_visit 97 = .ok (.iload_n 2, 1) := by decide +kernel
theorem dX0_visit_98 : decode cX0_visit 98 = .ok (.iaload, 1) := by decide +kernel
theorem dX0_visit_99 : decode cX0_visit 99 = .ok (.aload_n 0, 1) := by decide +kernel
theorem dX0_visit_100 : decode cX0_visit 100 = .ok (.getfield 30, 3) := by decide +kernel
theorem dX0_visit_103 : decode cX0_visit 103 = .ok (.getfield 79, 3) := by decide +kernel
theorem dX0_visit_106 : decode cX0_visit 106 = .ok (.iload_n 2, 1) := by decide +kernel
theorem dX0_visit_107 : decode cX0_visit 107 = .ok (.iaload, 1) := by decide +kernel
theorem dX0_visit_108 : decode cX0_visit 108 = .ok (.invokevirtual 88, 3) := by decide +kernel
theorem dX0_visit_111 : decode cX0_visit 111 = .ok (.goto 19, 3) := by decide +kernel
theorem dX0_visit_114 : decode cX0_visit 114 = .ok (.aload_n 0, 1) := by decide +kernel
theorem dX0_visit_115 : decode cX0_visit 115 = .ok (.getfield 34, 3) := by decide +kernel
theorem dX0_visit_118 : decode cX0_visit 118 = .ok (.aload_n 0, 1) := by decide +kernel
theorem dX0_visit_119 : decode cX0_visit 119 = .ok (.getfield 30, 3) := by decide +kernel
theorem dX0_visit_122 : decode cX0_visit 122 = .ok (.getfield 85, 3) := by decide +kernel
theorem dX0_visit_125 : decode cX0_visit 125 = .ok (.iload_n 2, 1) := by decide +kernel
theorem dX0_visit_126 : decode cX0_visit 126 = .ok (.iaload, 1) := by decide +kernel
theorem dX0_visit_127 : decode cX0_visit 127 = .ok (.invokevirtual 92, 3) := by decide +kernel
theorem dX0_visit_130 : decode cX0_visit 130 = .ok (.aload_n 0, 1) := by decide +kernel
theorem dX0_visit_131 : decode cX0_visit 131 = .ok (.getfield 34, 3) := by decide +kernel
theorem dX0_visit_134 : decode cX0_visit 134 = .ok (.getfield 95, 3) := by decide +kernel
theorem dX0_visit_137 : decode cX0_visit 137 = .ok (.ifCond .ne 13, 3) := by decide +kernel
theorem dX0_visit_140 : decode cX0_visit 140 = .ok (.aload_n 0, 1) := by decide +kernel
theorem dX0_visit_141 : decode cX0_visit 141 = .ok (.iload_n 2, 1) := by decide +kernel
theorem dX0_visit_142 : decode cX0_visit 142 = .ok (.iconst 1, 1) := by decide +kernel
theorem dX0_visit_143 : decode cX0_visit 143 = .ok (.iadd, 1) := by decide +kernel
theorem dX0_visit_144 : decode cX0_visit 144 = .ok (.invokevirtual 65, 3) := by decide +kernel
theorem dX0_visit_147 : decode cX0_visit 147 = .ok (.goto 15, 3) := by decide +kernel
theorem dX0_visit_150 : decode cX0_visit 150 = .ok (.aload_n 0, 1) := by decide +kernel
theorem dX0_visit_151 : decode cX0_visit 151 = .ok (.iload_n 2, 1) := by decide +kernel
theorem dX0_visit_152 : decode cX0_visit 152 = .ok (.aload_n 0, 1) := by decide +kernel
theorem dX0_visit_153 : decode cX0_visit 153 = .ok (.getfield 34, 3) := by decide +kernel
theorem dX0_visit_156 : decode cX0_visit 156 = .ok (.getfield 95, 3) := by decide +kernel
theorem dX0_visit_159 : decode cX0_visit 159 = .ok (.invokevirtual 98, 3) := by decide +kernel
theorem dX0_visit_162 : decode cX0_visit 162 = .ok (.return_, 1) := by decide +kernel
theorem dX10_append_0 : decode cX10_append 0 = .ok (.aload_n 0, 1) := by decide +kernel
theorem dX10_append_1 : decode cX10_append 1 = .ok (.getfield 7, 3) := by decide +kernel
theorem dX10_append_4 : decode cX10_append 4 = .ok (.aload_n 0, 1) := by decide +kernel
theorem dX10_append_5 : decode cX10_append 5 = .ok (.getfield 19, 3) := by decide +kernel
theorem dX10_append_8 : decode cX10_append 8 = .ok (.iload_n 1, 1) := by decide +kernel
theorem dX10_append_9 : decode cX10_append 9 = .ok (.iastore, 1) := by decide +kernel
theorem dX10_append_10 : decode cX10_append 10 = .ok (.aload_n 0, 1) := by decide +kernel
theorem dX10_append_11 : decode cX10_append 11 = .ok (.getfield 13, 3) := by decide +kernel
theorem dX10_append_14 : decode cX10_append 14 = .ok (.aload_n 0, 1) := by decide +kernel
theorem dX10_append_15 : decode cX10_append 15 = .ok (.getfield 19, 3) := by decide +kernel
theorem dX10_append_18 : decode cX10_append 18 = .ok (.iload_n 2, 1) := by decide +kernel
theorem dX10_append_19 : decode cX10_append 19 = .ok (.iastore, 1) := by decide +kernel
theorem dX10_append_20 : decode cX10_append 20 = .ok (.aload_n 0, 1) := by decide +kernel
theorem dX10_append_21 : decode cX10_append 21 = .ok (.getfield 16, 3) := by decide +kernel
theorem dX10_append_24 : decode cX10_append 24 = .ok (.aload_n 0, 1) := by decide +kernel
theorem dX10_append_25 : decode cX10_append 25 = .ok (.getfield 19, 3) := by decide +kernel
theorem dX10_append_28 : decode cX10_append 28 = .ok (.iload_n 3, 1) := by decide +kernel
theorem dX10_append_29 : decode cX10_append 29 = .ok (.iastore, 1) := by decide +kernel
theorem dX10_append_30 : decode cX10_append 30 = .ok (.aload_n 0, 1) := by decide +kernel
theorem dX10_append_31 : decode cX10_append 31 = .ok (.dup, 1) := by decide +kernel
theorem dX10_append_32 : decode cX10_append 32 = .ok (.getfield 19, 3) := by decide +kernel
theorem dX10_append_35 : decode cX10_append 35 = .ok (.iconst 1, 1) := by decide +kernel
theorem dX10_append_36 : decode cX10_append 36 = .ok (.iadd, 1) := by decide +kernel
theorem dX10_append_37 : decode cX10_append 37 = .ok (.putfield 19, 3) := by decide +kernel
theorem dX10_append_40 : decode cX10_append 40 = .ok (.return_, 1) := by decide +kernel
theorem dX10_empty_0 : decode cX10_empty 0 = .ok (.aload_n 0, 1) := by decide +kernel
theorem dX10_empty_1 : decode cX10_empty 1 = .ok (.getfield 19, 3) := by decide +kernel
theorem dX10_empty_4 : decode cX10_empty 4 = .ok (.istore_n 1, 1) := by decide +kernel
theorem dX10_empty_5 : decode cX10_empty 5 = .ok (.aload_n 0, 1) := by decide +kernel
theorem dX10_empty_6 : decode cX10_empty 6 = .ok (.iconst 0, 1) := by decide +kernel
theorem dX10_empty_7 : decode cX10_empty 7 = .ok (.putfield 19, 3) := by decide +kernel
theorem dX10_empty_10 : decode cX10_empty 10 = .ok (.iload_n 1, 1) := by decide +kernel
theorem dX10_empty_11 : decode cX10_empty 11 = .ok (.ireturn, 1) := by decide +kernel
theorem dX10_isFull_0 : decode cX10_isFull 0 = .ok (.aload_n 0, 1) := by decide +kernel
theorem dX10_isFull_1 : decode cX10_isFull 1 = .ok (.getfield 19, 3) := by decide +kernel
theorem dX10_isFull_4 : decode cX10_isFull 4 = .ok (.aload_n 0, 1) := by decide +kernel
theorem dX10_isFull_5 : decode cX10_isFull 5 = .ok (.getfield 7, 3) := by decide +kernel
theorem dX10_isFull_8 : decode cX10_isFull 8 = .ok (.arraylength, 1) := by decide +kernel
theorem dX10_isFull_9 : decode cX10_isFull 9 = .ok (.if_icmp .lt 7, 3) := by decide +kernel
theorem dX10_isFull_12 : decode cX10_isFull 12 = .ok (.iconst 1, 1) := by decide +kernel
theorem dX10_isFull_13 : decode cX10_isFull 13 = .ok (.goto 4, 3) := by decide +kernel
theorem dX10_isFull_16 : decode cX10_isFull 16 = .ok (.iconst 0, 1) := by decide +kernel
theorem dX10_isFull_17 : decode cX10_isFull 17 = .ok (.ireturn, 1) := by decide +kernel
theorem dX11_busRead_0 : decode cX11_busRead 0 = .ok (.aload_n 0, 1) := by decide +kernel
