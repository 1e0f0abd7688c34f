theorem dX5_badField_163 : decode cX5_badField 163 = .ok (.istore_n 1, 1) := by decide +kernel
theorem dX5_badField_164 : decode cX5_badField 164 = .ok (.iinc 2 1, 3) := by decide +kernel
theorem dX5_badField_167 : decode cX5_badField 167 = .ok (.goto (-163), 3) := by decide +kernel
theorem dX5_badField_170 : decode cX5_badField 170 = .ok (.iconst (-1), 1) := by decide +kernel
theorem dX5_badField_171 : decode cX5_badField 171 = .ok (.ireturn, 1) := by decide +kernel
theorem dX5_badOffset_0 : decode cX5_badOffset 0 = .ok (.iconst 1, 1) := by decide +kernel
theorem dX5_badOffset_1 : decode cX5_badOffset 1 = .ok (.istore_n 1, 1) := by decide +kernel
theorem dX5_badOffset_2 : decode cX5_badOffset 2 = .ok (.iload_n 1, 1) := by decide +kernel
theorem dX5_badOffset_3 : decode cX5_badOffset 3 = .ok (.aload_n 0, 1) := by decide +kernel
theorem dX5_badOffset_4 : decode cX5_badOffset 4 = .ok (.getfield 9, 3) := by decide +kernel
theorem dX5_badOffset_7 : decode cX5_badOffset 7 = .ok (.getfield 66, 3) := by decide +kernel
theorem dX5_badOffset_10 : decode cX5_badOffset 10 = .ok (.if_icmp .ge 62, 3) := by decide +kernel
theorem dX5_badOffset_13 : decode cX5_badOffset 13 = .ok (.iconst 0, 1) := by decide +kernel
theorem dX5_badOffset_14 : decode cX5_badOffset 14 = .ok (.istore_n 2, 1) := by decide +kernel
theorem dX5_badOffset_15 : decode cX5_badOffset 15 = .ok (.iload_n 2, 1) := by decide +kernel
theorem dX5_badOffset_16 : decode cX5_badOffset 16 = .ok (.iload_n 1, 1) := by decide +kernel
theorem dX5_badOffset_17 : decode cX5_badOffset 17 = .ok (.if_icmp .ge 49, 3) := by decide +kernel
theorem dX5_badOffset_20 : decode cX5_badOffset 20 = .ok (.aload_n 0, 1) := by decide +kernel
theorem dX5_badOffset_21 : decode cX5_badOffset 21 = .ok (.getfield 9, 3) := by decide +kernel
theorem dX5_badOffset_24 : decode cX5_badOffset 24 = .ok (.getfield 84, 3) := by decide +kernel
theorem dX5_badOffset_27 : decode cX5_badOffset 27 = .ok (.iload_n 1, 1) := by decide +kernel
theorem dX5_badOffset_28 : decode cX5_badOffset 28 = .ok (.iaload, 1) := by decide +kernel
theorem dX5_badOffset_29 : decode cX5_badOffset 29 = .ok (.aload_n 0, 1) := by decide +kernel
theorem dX5_badOffset_30 : decode cX5_badOffset 30 = .ok (.getfield 9, 3) := by decide +kernel
theorem dX5_badOffset_33 : decode cX5_badOffset 33 = .ok (.getfield 84, 3) := by decide +kernel
theorem dX5_badOffset_36 : decode cX5_badOffset 36 = .ok (.iload_n 2, 1) := by decide +kernel
theorem dX5_badOffset_37 : decode cX5_badOffset 37 = .ok (.iaload, 1) := by decide +kernel
theorem dX5_badOffset_38 : decode cX5_badOffset 38 = .ok (.if_icmp .ne 22, 3) := by decide +kernel
theorem dX5_badOffset_41 : decode cX5_badOffset 41 = .ok (.aload_n 0, 1) := by decide +kernel
theorem dX5_badOffset_42 : decode cX5_badOffset 42 = .ok (.iload_n 1, 1) := by decide +kernel
theorem dX5_badOffset_43 : decode cX5_badOffset 43 = .ok (.iload_n 2, 1) := by decide +kernel
theorem dX5_badOffset_44 : decode cX5_badOffset 44 = .ok (.invokevirtual 87, 3) := by decide +kernel
theorem dX5_badOffset_47 : decode cX5_badOffset 47 = .ok (.ifCond .ne 13, 3) := by decide +kernel
theorem dX5_badOffset_50 : decode cX5_badOffset 50 = .ok (.aload_n 0, 1) := by decide +kernel
theorem dX5_badOffset_51 : decode cX5_badOffset 51 = .ok (.getfield 9, 3) := by decide +kernel
theorem dX5_badOffset_54 : decode cX5_badOffset 54 = .ok (.getfield 90, 3) := by decide +kernel
theorem dX5_badOffset_57 : decode cX5_badOffset 57 = .ok (.iload_n 1, 1) := by decide +kernel
theorem dX5_badOffset_58 : decode cX5_badOffset 58 = .ok (.iaload, 1) := by decide +kernel
theorem dX5_badOffset_59 : decode cX5_badOffset 59 = .ok (.ireturn, 1) := by decide +kernel
theorem dX5_badOffset_60 : decode cX5_badOffset 60 = .ok (.iinc 2 1, 3) := by decide +kernel
theorem dX5_badOffset_63 : decode cX5_badOffset 63 = .ok (.goto (-48), 3) := by decide +kernel
theorem dX5_badOffset_66 : decode cX5_badOffset 66 = .ok (.iinc 1 1, 3) := by decide +kernel
theorem dX5_badOffset_69 : decode cX5_badOffset 69 = .ok (.goto (-67), 3) := by decide +kernel
theorem dX5_badOffset_72 : decode cX5_badOffset 72 = .ok (.iconst (-1), 1) := by decide +kernel
theorem dX5_badOffset_73 : decode cX5_badOffset 73 = .ok (.ireturn, 1) := by decide +kernel
theorem dX5_badRule_0 : decode cX5_badRule 0 = .ok (.aload_n 0, 1) := by decide +kernel
theorem dX5_badRule_1 : decode cX5_badRule 1 = .ok (.getfield 9, 3) := by decide +kernel
theorem dX5_badRule_4 : decode cX5_badRule 4 = .ok (.getfield 93, 3) := by decide +kernel
theorem dX5_badRule_7 : decode cX5_badRule 7 = .ok (.astore_n 1, 1) := by decide +kernel
theorem dX5_badRule_8 : decode cX5_badRule 8 = .ok (.iconst 0, 1) := by decide +kernel
theorem dX5_badRule_9 : decode cX5_badRule 9 = .ok (.istore_n 2, 1) := by decide +kernel
theorem dX5_badRule_10 : decode cX5_badRule 10 = .ok (.iload_n 2, 1) := by decide +kernel
theorem dX5_badRule_11 : decode cX5_badRule 11 = .ok (.aload_n 1, 1) := by decide +kernel
theorem dX5_badRule_12 : decode cX5_badRule 12 = .ok (.getfield 97, 3) := by decide +kernel
theorem dX5_badRule_15 : decode cX5_badRule 15 = .ok (.if_icmp .ge 112, 3) := by decide +kernel
theorem dX5_badRule_18 : decode cX5_badRule 18 = .ok (.aload_n 0, 1) := by decide +kernel
theorem dX5_badRule_19 : decode cX5_badRule 19 = .ok (.aload_n 0, 1) := by decide +kernel
theorem dX5_badRule_20 : decode cX5_badRule 20 = .ok (.getfield 9, 3) := by decide +kernel
theorem dX5_badRule_23 : decode cX5_badRule 23 = .ok (.aload_n 1, 1) := by decide +kernel
theorem dX5_badRule_24 : decode cX5_badRule 24 = .ok (.getfield 102, 3) := by decide +kernel
theorem dX5_badRule_27 : decode cX5_badRule 27 = .ok (.iload_n 2, 1) := by decide +kernel
theorem dX5_badRule_28 : decode cX5_badRule 28 = .ok (.iaload, 1) := by decide +kernel
theorem dX5_badRule_29 : decode cX5_badRule 29 = .ok (.invokevirtual 53, 3) := by decide +kernel
theorem dX5_badRule_32 : decode cX5_badRule 32 = .ok (.invokevirtual 105, 3) := by decide +kernel
theorem dX5_badRule_35 : decode cX5_badRule 35 = .ok (.ifCond .ne 10, 3) := by decide +kernel
theorem dX5_badRule_38 : decode cX5_badRule 38 = .ok (.aload_n 1, 1) := by decide +kernel
theorem dX5_badRule_39 : decode cX5_badRule 39 = .ok (.getfield 109, 3) := by decide +kernel
theorem dX5_badRule_42 : decode cX5_badRule 42 = .ok (.iload_n 2, 1) := by decide +kernel
theorem dX5_badRule_43 : decode cX5_badRule 43 = .ok (.iaload, 1) := by decide +kernel
theorem dX5_badRule_44 : decode cX5_badRule 44 = .ok (.ireturn, 1) := by decide +kernel
theorem dX5_badRule_45 : decode cX5_badRule 45 = .ok (.aload_n 0, 1) := by decide +kernel
theorem dX5_badRule_46 : decode cX5_badRule 46 = .ok (.getfield 9, 3) := by decide +kernel
theorem dX5_badRule_49 : decode cX5_badRule 49 = .ok (.aload_n 1, 1) := by decide +kernel
theorem dX5_badRule_50 : decode cX5_badRule 50 = .ok (.getfield 112, 3) := by decide +kernel
theorem dX5_badRule_53 : decode cX5_badRule 53 = .ok (.iload_n 2, 1) := by decide +kernel
theorem dX5_badRule_54 : decode cX5_badRule 54 = .ok (.iaload, 1) := by decide +kernel
theorem dX5_badRule_55 : decode cX5_badRule 55 = .ok (.invokevirtual 53, 3) := by decide +kernel
theorem dX5_badRule_58 : decode cX5_badRule 58 = .ok (.istore_n 3, 1) := by decide +kernel
theorem dX5_badRule_59 : decode cX5_badRule 59 = .ok (.aload_n 1, 1) := by decide +kernel
theorem dX5_badRule_60 : decode cX5_badRule 60 = .ok (.getfield 115, 3) := by decide +kernel
theorem dX5_badRule_63 : decode cX5_badRule 63 = .ok (.iload_n 2, 1) := by decide +kernel
theorem dX5_badRule_64 : decode cX5_badRule 64 = .ok (.iaload, 1) := by decide +kernel
theorem dX5_badRule_65 : decode cX5_badRule 65 = .ok (.iconst 1, 1) := by decide +kernel
theorem dX5_badRule_66 : decode cX5_badRule 66 = .ok (.if_icmp .ne 36, 3) := by decide +kernel
theorem dX5_badRule_69 : decode cX5_badRule 69 = .ok (.aload_n 0, 1) := by decide +kernel
theorem dX5_badRule_70 : decode cX5_badRule 70 = .ok (.iload_n 3, 1) := by decide +kernel
theorem dX5_badRule_71 : decode cX5_badRule 71 = .ok (.invokevirtual 117, 3) := by decide +kernel
theorem dX5_badRule_74 : decode cX5_badRule 74 = .ok (.ifCond .eq 24, 3) := by decide +kernel
theorem dX5_badRule_77 : decode cX5_badRule 77 = .ok (.aload_n 0, 1) := by decide +kernel
theorem dX5_badRule_78 : decode cX5_badRule 78 = .ok (.getfield 9, 3) := by decide +kernel
theorem dX5_badRule_81 : decode cX5_badRule 81 = .ok (.iload_n 3, 1) := by decide +kernel
theorem dX5_badRule_82 : decode cX5_badRule 82 = .ok (.aload_n 1, 1) := by decide +kernel
theorem dX5_badRule_83 : decode cX5_badRule 83 = .ok (.getfield 120, 3) := by decide +kernel
theorem dX5_badRule_86 : decode cX5_badRule 86 = .ok (.iload_n 2, 1) := by decide +kernel
theorem dX5_badRule_87 : decode cX5_badRule 87 = .ok (.iaload, 1) := by decide +kernel
theorem dX5_badRule_88 : decode cX5_badRule 88 = .ok (.invokevirtual 60, 3) := by decide +kernel
theorem dX5_badRule_91 : decode cX5_badRule 91 = .ok (.ifCond .eq 7, 3) := by decide +kernel
theorem dX5_badRule_94 : decode cX5_badRule 94 = .ok (.iconst 1, 1) := by decide +kernel
theorem dX5_badRule_95 : decode cX5_badRule 95 = .ok (.goto 12, 3) := by decide +kernel
theorem dX5_badRule_98 : decode cX5_badRule 98 = .ok (.iconst 0, 1) := by decide +kernel
theorem dX5_badRule_99 : decode cX5_badRule 99 = .ok (.goto 8, 3) := by decide +kernel
theorem dX5_badRule_102 : decode cX5_badRule 102 = .ok (.aload_n 0, 1) := by decide +kernel
theorem dX5_badRule_103 : decode cX5_badRule 103 = .ok (.iload_n 3, 1) := by decide +kernel
theorem dX5_badRule_104 : decode cX5_badRule 104 = .ok (.invokevirtual 105, 3) := by decide +kernel
theorem dX5_badRule_107 : decode cX5_badRule 107 = .ok (.istore 4, 2) := by decide +kernel
theorem dX5_badRule_109 : decode cX5_badRule 109 = .ok (.iload 4, 2) := by decide +kernel
theorem dX5_badRule_111 : decode cX5_badRule 111 = .ok (.ifCond .ne 10, 3) := by decide +kernel
theorem dX5_badRule_114 : decode cX5_badRule 114 = .ok (.aload_n 1, 1) := by decide +kernel
theorem dX5_badRule_115 : decode cX5_badRule 115 = .ok (.getfield 121, 3) := by decide +kernel
theorem dX5_badRule_118 : decode cX5_badRule 118 = .ok (.iload_n 2, 1) := by decide +kernel
theorem dX5_badRule_119 : decode cX5_badRule 119 = .ok (.iaload, 1) := by decide +kernel
theorem dX5_badRule_120 : decode cX5_badRule 120 = .ok (.ireturn, 1) := by decide +kernel
theorem dX5_badRule_121 : decode cX5_badRule 121 = .ok (.iinc 2 1, 3) := by decide +kernel
theorem dX5_badRule_124 : decode cX5_badRule 124 = .ok (.goto (-114), 3) := by decide +kernel
theorem dX5_badRule_127 : decode cX5_badRule 127 = .ok (.iconst (-1), 1) := by decide +kernel
theorem dX5_badRule_128 : decode cX5_badRule 128 = .ok (.ireturn, 1) := by decide +kernel
theorem dX5_canBeBank_0 : decode cX5_canBeBank 0 = .ok (.iload_n 1, 1) := by decide +kernel
theorem dX5_canBeBank_1 : decode cX5_canBeBank 1 = .ok (.iconst (-1), 1) := by decide +kernel
theorem dX5_canBeBank_2 : decode cX5_canBeBank 2 = .ok (.if_icmp .eq 52, 3) := by decide +kernel
theorem dX5_canBeBank_5 : decode cX5_canBeBank 5 = .ok (.aload_n 0, 1) := by decide +kernel
theorem dX5_canBeBank_6 : decode cX5_canBeBank 6 = .ok (.getfield 9, 3) := by decide +kernel
theorem dX5_canBeBank_9 : decode cX5_canBeBank 9 = .ok (.getfield 81, 3) := by decide +kernel
theorem dX5_canBeBank_12 : decode cX5_canBeBank 12 = .ok (.iload_n 1, 1) := by decide +kernel
theorem dX5_canBeBank_13 : decode cX5_canBeBank 13 = .ok (.iaload, 1) := by decide +kernel
theorem dX5_canBeBank_14 : decode cX5_canBeBank 14 = .ok (.ifCond .ne 40, 3) := by decide +kernel
theorem dX5_canBeBank_17 : decode cX5_canBeBank 17 = .ok (.aload_n 0, 1) := by decide +kernel
theorem dX5_canBeBank_18 : decode cX5_canBeBank 18 = .ok (.getfield 9, 3) := by decide +kernel
theorem dX5_canBeBank_21 : decode cX5_canBeBank 21 = .ok (.getfield 69, 3) := by decide +kernel
theorem dX5_canBeBank_24 : decode cX5_canBeBank 24 = .ok (.aload_n 0, 1) := by decide +kernel
theorem dX5_canBeBank_25 : decode cX5_canBeBank 25 = .ok (.getfield 9, 3) := by decide +kernel
theorem dX5_canBeBank_28 : decode cX5_canBeBank 28 = .ok (.getfield 40, 3) := by decide +kernel
theorem dX5_canBeBank_31 : decode cX5_canBeBank 31 = .ok (.iload_n 1, 1) := by decide +kernel
theorem dX5_canBeBank_32 : decode cX5_canBeBank 32 = .ok (.iaload, 1) := by decide +kernel
theorem dX5_canBeBank_33 : decode cX5_canBeBank 33 = .ok (.iaload, 1) := by decide +kernel
theorem dX5_canBeBank_34 : decode cX5_canBeBank 34 = .ok (.iconst (-1), 1) := by decide +kernel
theorem dX5_canBeBank_35 : decode cX5_canBeBank 35 = .ok (.if_icmp .ne 19, 3) := by decide +kernel
theorem dX5_canBeBank_38 : decode cX5_canBeBank 38 = .ok (.aload_n 0, 1) := by decide +kernel
theorem dX5_canBeBank_39 : decode cX5_canBeBank 39 = .ok (.getfield 9, 3) := by decide +kernel
theorem dX5_canBeBank_42 : decode cX5_canBeBank 42 = .ok (.iload_n 1, 1) := by decide +kernel
theorem dX5_canBeBank_43 : decode cX5_canBeBank 43 = .ok (.iload_n 2, 1) := by decide +kernel
theorem dX5_canBeBank_44 : decode cX5_canBeBank 44 = .ok (.invokevirtual 60, 3) := by decide +kernel
theorem dX5_canBeBank_47 : decode cX5_canBeBank 47 = .ok (.ifCond .eq 7, 3) := by decide +kernel
theorem dX5_canBeBank_50 : decode cX5_canBeBank 50 = .ok (.iconst 1, 1) := by decide +kernel
theorem dX5_canBeBank_51 : decode cX5_canBeBank 51 = .ok (.goto 4, 3) := by decide +kernel
theorem dX5_canBeBank_54 : decode cX5_canBeBank 54 = .ok (.iconst 0, 1) := by decide +kernel
theorem dX5_canBeBank_55 : decode cX5_canBeBank 55 = .ok (.ireturn, 1) := by decide +kernel
theorem dX5_decide_0 : decode cX5_decide 0 = .ok (.iload_n 1, 1) := by decide +kernel
theorem dX5_decide_1 : decode cX5_decide 1 = .ok (.ifCond .ne 14, 3) := by decide +kernel
theorem dX5_decide_4 : decode cX5_decide 4 = .ok (.aload_n 0, 1) := by decide +kernel
theorem dX5_decide_5 : decode cX5_decide 5 = .ok (.iconst 1, 1) := by decide +kernel
theorem dX5_decide_6 : decode cX5_decide 6 = .ok (.putfield 15, 3) := by decide +kernel
theorem dX5_decide_9 : decode cX5_decide 9 = .ok (.aload_n 0, 1) := by decide +kernel
theorem dX5_decide_10 : decode cX5_decide 10 = .ok (.iload_n 2, 1) := by decide +kernel
theorem dX5_decide_11 : decode cX5_decide 11 = .ok (.putfield 19, 3) := by decide +kernel
theorem dX5_decide_14 : decode cX5_decide 14 = .ok (.return_, 1) := by decide +kernel
theorem dX5_decide_15 : decode cX5_decide 15 = .ok (.aload_n 0, 1) := by decide +kernel
theorem dX5_decide_16 : decode cX5_decide 16 = .ok (.iconst 2, 1) := by decide +kernel
theorem dX5_decide_17 : decode cX5_decide 17 = .ok (.putfield 15, 3) := by decide +kernel
theorem dX5_decide_20 : decode cX5_decide 20 = .ok (.aload_n 0, 1) := by decide +kernel
theorem dX5_decide_21 : decode cX5_decide 21 = .ok (.aload_n 0, 1) := by decide +kernel
theorem dX5_decide_22 : decode cX5_decide 22 = .ok (.invokevirtual 22, 3) := by decide +kernel
theorem dX5_decide_25 : decode cX5_decide 25 = .ok (.putfield 19, 3) := by decide +kernel
theorem dX5_decide_28 : decode cX5_decide 28 = .ok (.aload_n 0, 1) := by decide +kernel
theorem dX5_decide_29 : decode cX5_decide 29 = .ok (.getfield 19, 3) := by decide +kernel
theorem dX5_decide_32 : decode cX5_decide 32 = .ok (.iconst (-1), 1) := by decide +kernel
theorem dX5_decide_33 : decode cX5_decide 33 = .ok (.if_icmp .ne 16, 3) := by decide +kernel
theorem dX5_decide_36 : decode cX5_decide 36 = .ok (.aload_n 0, 1) := by decide +kernel
theorem dX5_decide_37 : decode cX5_decide 37 = .ok (.iconst 3, 1) := by decide +kernel
theorem dX5_decide_38 : decode cX5_decide 38 = .ok (.putfield 15, 3) := by decide +kernel
theorem dX5_decide_41 : decode cX5_decide 41 = .ok (.aload_n 0, 1) := by decide +kernel
theorem dX5_decide_42 : decode cX5_decide 42 = .ok (.aload_n 0, 1) := by decide +kernel
theorem dX5_decide_43 : decode cX5_decide 43 = .ok (.invokevirtual 26, 3) := by decide +kernel
theorem dX5_decide_46 : decode cX5_decide 46 = .ok (.putfield 19, 3) := by decide +kernel
theorem dX5_decide_49 : decode cX5_decide 49 = .ok (.aload_n 0, 1) := by decide +kernel
theorem dX5_decide_50 : decode cX5_decide 50 = .ok (.getfield 19, 3) := by decide +kernel
theorem dX5_decide_53 : decode cX5_decide 53 = .ok (.iconst (-1), 1) := by decide +kernel
theorem dX5_decide_54 : decode cX5_decide 54 = .ok (.if_icmp .ne 11, 3) := by decide +kernel
theorem dX5_decide_57 : decode cX5_decide 57 = .ok (.aload_n 0, 1) := by decide +kernel
theorem dX5_decide_58 : decode cX5_decide 58 = .ok (.aload_n 0, 1) := by decide +kernel
theorem dX5_decide_59 : decode cX5_decide 59 = .ok (.invokevirtual 29, 3) := by decide +kernel
theorem dX5_decide_62 : decode cX5_decide 62 = .ok (.putfield 19, 3) := by decide +kernel
theorem dX5_decide_65 : decode cX5_decide 65 = .ok (.aload_n 0, 1) := by decide +kernel
theorem dX5_decide_66 : decode cX5_decide 66 = .ok (.getfield 19, 3) := by decide +kernel
theorem dX5_decide_69 : decode cX5_decide 69 = .ok (.iconst (-1), 1) := by decide +kernel
theorem dX5_decide_70 : decode cX5_decide 70 = .ok (.if_icmp .ne 16, 3) := by decide +kernel
theorem dX5_decide_73 : decode cX5_decide 73 = .ok (.aload_n 0, 1) := by decide +kernel
theorem dX5_decide_74 : decode cX5_decide 74 = .ok (.iconst 4, 1) := by decide +kernel
theorem dX5_decide_75 : decode cX5_decide 75 = .ok (.putfield 15, 3) := by decide +kernel
theorem dX5_decide_78 : decode cX5_decide 78 = .ok (.aload_n 0, 1) := by decide +kernel
theorem dX5_decide_79 : decode cX5_decide 79 = .ok (.aload_n 0, 1) := by decide +kernel
theorem dX5_decide_80 : decode cX5_decide 80 = .ok (.invokevirtual 32, 3) := by decide +kernel
theorem dX5_decide_83 : decode cX5_decide 83 = .ok (.putfield 19, 3) := by decide +kernel
theorem dX5_decide_86 : decode cX5_decide 86 = .ok (.aload_n 0, 1) := by decide +kernel
theorem dX5_decide_87 : decode cX5_decide 87 = .ok (.getfield 19, 3) := by decide +kernel
theorem dX5_decide_90 : decode cX5_decide 90 = .ok (.iconst (-1), 1) := by decide +kernel
theorem dX5_decide_91 : decode cX5_decide 91 = .ok (.if_icmp .ne 13, 3) := by decide +kernel
theorem dX5_decide_94 : decode cX5_decide 94 = .ok (.aload_n 0, 1) := by decide +kernel
theorem dX5_decide_95 : decode cX5_decide 95 = .ok (.iconst 0, 1) := by decide +kernel
theorem dX5_decide_96 : decode cX5_decide 96 = .ok (.putfield 15, 3) := by decide +kernel
theorem dX5_decide_99 : decode cX5_decide 99 = .ok (.aload_n 0, 1) := by decide +kernel
theorem dX5_decide_100 : decode cX5_decide 100 = .ok (.iconst 0, 1) := by decide +kernel
theorem dX5_decide_101 : decode cX5_decide 101 = .ok (.putfield 19, 3) := by decide +kernel
theorem dX5_decide_104 : decode cX5_decide 104 = .ok (.return_, 1) := by decide +kernel
theorem dX5_isKnown_0 : decode cX5_isKnown 0 = .ok (.iload_n 1, 1) := by decide +kernel
theorem dX5_isKnown_1 : decode cX5_isKnown 1 = .ok (.iconst (-1), 1) := by decide +kernel
theorem dX5_isKnown_2 : decode cX5_isKnown 2 = .ok (.if_icmp .eq 32, 3) := by decide +kernel
theorem dX5_isKnown_5 : decode cX5_isKnown 5 = .ok (.aload_n 0, 1) := by decide +kernel
theorem dX5_isKnown_6 : decode cX5_isKnown 6 = .ok (.getfield 9, 3) := by decide +kernel
theorem dX5_isKnown_9 : decode cX5_isKnown 9 = .ok (.getfield 81, 3) := by decide +kernel
theorem dX5_isKnown_12 : decode cX5_isKnown 12 = .ok (.iload_n 1, 1) := by decide +kernel
theorem dX5_isKnown_13 : decode cX5_isKnown 13 = .ok (.iaload, 1) := by decide +kernel
theorem dX5_isKnown_14 : decode cX5_isKnown 14 = .ok (.ifCond .eq 16, 3) := by decide +kernel
theorem dX5_isKnown_17 : decode cX5_isKnown 17 = .ok (.aload_n 0, 1) := by decide +kernel
theorem dX5_isKnown_18 : decode cX5_isKnown 18 = .ok (.getfield 9, 3) := by decide +kernel
theorem dX5_isKnown_21 : decode cX5_isKnown 21 = .ok (.getfield 81, 3) := by decide +kernel
theorem dX5_isKnown_24 : decode cX5_isKnown 24 = .ok (.iload_n 1, 1) := by decide +kernel
theorem dX5_isKnown_25 : decode cX5_isKnown 25 = .ok (.iaload, 1) := by decide +kernel
theorem dX5_isKnown_26 : decode cX5_isKnown 26 = .ok (.iconst 2, 1) := by decide +kernel
theorem dX5_isKnown_27 : decode cX5_isKnown 27 = .ok (.if_icmp .ne 7, 3) := by decide +kernel
theorem dX5_isKnown_30 : decode cX5_isKnown 30 = .ok (.iconst 1, 1) := by decide +kernel
theorem dX5_isKnown_31 : decode cX5_isKnown 31 = .ok (.goto 4, 3) := by decide +kernel
theorem dX5_isKnown_34 : decode cX5_isKnown 34 = .ok (.iconst 0, 1) := by decide +kernel
theorem dX5_isKnown_35 : decode cX5_isKnown 35 = .ok (.ireturn, 1) := by decide +kernel
theorem dX5_isWritable_0 : decode cX5_isWritable 0 = .ok (.iload_n 1, 1) := by decide +kernel
theorem dX5_isWritable_1 : decode cX5_isWritable 1 = .ok (.iconst (-1), 1) := by decide +kernel
theorem dX5_isWritable_2 : decode cX5_isWritable 2 = .ok (.if_icmp .eq 33, 3) := by decide +kernel
theorem dX5_isWritable_5 : decode cX5_isWritable 5 = .ok (.aload_n 0, 1) := by decide +kernel
theorem dX5_isWritable_6 : decode cX5_isWritable 6 = .ok (.getfield 9, 3) := by decide +kernel
theorem dX5_isWritable_9 : decode cX5_isWritable 9 = .ok (.getfield 81, 3) := by decide +kernel
theorem dX5_isWritable_12 : decode cX5_isWritable 12 = .ok (.iload_n 1, 1) := by decide +kernel
theorem dX5_isWritable_13 : decode cX5_isWritable 13 = .ok (.iaload, 1) := by decide +kernel
theorem dX5_isWritable_14 : decode cX5_isWritable 14 = .ok (.iconst 1, 1) := by decide +kernel
theorem dX5_isWritable_15 : decode cX5_isWritable 15 = .ok (.if_icmp .eq 20, 3) := by decide +kernel
theorem dX5_isWritable_18 : decode cX5_isWritable 18 = .ok (.aload_n 0, 1) := by decide +kernel
theorem dX5_isWritable_19 : decode cX5_isWritable 19 = .ok (.getfield 9, 3) := by decide +kernel
theorem dX5_isWritable_22 : decode cX5_isWritable 22 = .ok (.getfield 81, 3) := by decide +kernel
theorem dX5_isWritable_25 : decode cX5_isWritable 25 = .ok (.iload_n 1, 1) := by decide +kernel
theorem dX5_isWritable_26 : decode cX5_isWritable 26 = .ok (.iaload, 1) := by decide +kernel
theorem dX5_isWritable_27 : decode cX5_isWritable 27 = .ok (.iconst 3, 1) := by decide +kernel
theorem dX5_isWritable_28 : decode cX5_isWritable 28 = .ok (.if_icmp .eq 7, 3) := by decide +kernel
theorem dX5_isWritable_31 : decode cX5_isWritable 31 = .ok (.iconst 1, 1) := by decide +kernel
theorem dX5_isWritable_32 : decode cX5_isWritable 32 = .ok (.goto 4, 3) := by decide +kernel
theorem dX5_isWritable_35 : decode cX5_isWritable 35 = .ok (.iconst 0, 1) := by decide +kernel
theorem dX5_isWritable_36 : decode cX5_isWritable 36 = .ok (.ireturn, 1) := by decide +kernel
theorem dX6_addField_0 : decode cX6_addField 0 = .ok (.aload_n 1, 1) := by decide +kernel
theorem dX6_addField_1 : decode cX6_addField 1 = .ok (.getfield 96, 3) := by decide +kernel
theorem dX6_addField_4 : decode cX6_addField 4 = .ok (.iload_n 2, 1) := by decide +kernel
theorem dX6_addField_5 : decode cX6_addField 5 = .ok (.iaload, 1) := by decide +kernel
theorem dX6_addField_6 : decode cX6_addField 6 = .ok (.istore_n 3, 1) := by decide +kernel
theorem dX6_addField_7 : decode cX6_addField 7 = .ok (.aload_n 1, 1) := by decide +kernel
theorem dX6_addField_8 : decode cX6_addField 8 = .ok (.getfield 99, 3) := by decide +kernel
theorem dX6_addField_11 : decode cX6_addField 11 = .ok (.iload_n 2, 1) := by decide +kernel
theorem dX6_addField_12 : decode cX6_addField 12 = .ok (.iaload, 1) := by decide +kernel
theorem dX6_addField_13 : decode cX6_addField 13 = .ok (.istore 4, 2) := by decide +kernel
theorem dX6_addField_15 : decode cX6_addField 15 = .ok (.aload_n 0, 1) := by decide +kernel
theorem dX6_addField_16 : decode cX6_addField 16 = .ok (.getfield 40, 3) := by decide +kernel
theorem dX6_addField_19 : decode cX6_addField 19 = .ok (.iload_n 3, 1) := by decide +kernel
theorem dX6_addField_20 : decode cX6_addField 20 = .ok (.iload 4, 2) := by decide +kernel
theorem dX6_addField_22 : decode cX6_addField 22 = .ok (.iastore, 1) := by decide +kernel
theorem dX6_addField_23 : decode cX6_addField 23 = .ok (.aload_n 0, 1) := by decide +kernel
