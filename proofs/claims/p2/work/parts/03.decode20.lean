theorem dX3_badRule_11 : decode cX3_badRule 11 = .ok (.aload_n 1, 1) := by decide +kernel
theorem dX3_badRule_12 : decode cX3_badRule 12 = .ok (.getfield 97, 3) := by decide +kernel
theorem dX3_badRule_15 : decode cX3_badRule 15 = .ok (.if_icmp .ge 112, 3) := by decide +kernel
theorem dX3_badRule_18 : decode cX3_badRule 18 = .ok (.aload_n 0, 1) := by decide +kernel
theorem dX3_badRule_19 : decode cX3_badRule 19 = .ok (.aload_n 0, 1) := by decide +kernel
theorem dX3_badRule_20 : decode cX3_badRule 20 = .ok (.getfield 9, 3) := by decide +kernel
theorem dX3_badRule_23 : decode cX3_badRule 23 = .ok (.aload_n 1, 1) := by decide +kernel
theorem dX3_badRule_24 : decode cX3_badRule 24 = .ok (.getfield 102, 3) := by decide +kernel
theorem dX3_badRule_27 : decode cX3_badRule 27 = .ok (.iload_n 2, 1) := by decide +kernel
theorem dX3_badRule_28 : decode cX3_badRule 28 = .ok (.iaload, 1) := by decide +kernel
theorem dX3_badRule_29 : decode cX3_badRule 29 = .ok (.invokevirtual 53, 3) := by decide +kernel
theorem dX3_badRule_32 : decode cX3_badRule 32 = .ok (.invokevirtual 105, 3) := by decide +kernel
theorem dX3_badRule_35 : decode cX3_badRule 35 = .ok (.ifCond .ne 10, 3) := by decide +kernel
theorem dX3_badRule_38 : decode cX3_badRule 38 = .ok (.aload_n 1, 1) := by decide +kernel
theorem dX3_badRule_39 : decode cX3_badRule 39 = .ok (.getfield 109, 3) := by decide +kernel
theorem dX3_badRule_42 : decode cX3_badRule 42 = .ok (.iload_n 2, 1) := by decide +kernel
theorem dX3_badRule_43 : decode cX3_badRule 43 = .ok (.iaload, 1) := by decide +kernel
theorem dX3_badRule_44 : decode cX3_badRule 44 = .ok (.ireturn, 1) := by decide +kernel
theorem dX3_badRule_45 : decode cX3_badRule 45 = .ok (.aload_n 0, 1) := by decide +kernel
theorem dX3_badRule_46 : decode cX3_badRule 46 = .ok (.getfield 9, 3) := by decide +kernel
theorem dX3_badRule_49 : decode cX3_badRule 49 = .ok (.aload_n 1, 1) := by decide +kernel
theorem dX3_badRule_50 : decode cX3_badRule 50 = .ok (.getfield 112, 3) := by decide +kernel
theorem dX3_badRule_53 : decode cX3_badRule 53 = .ok (.iload_n 2, 1) := by decide +kernel
theorem dX3_badRule_54 : decode cX3_badRule 54 = .ok (.iaload, 1) := by decide +kernel
theorem dX3_badRule_55 : decode cX3_badRule 55 = .ok (.invokevirtual 53, 3) := by decide +kernel
theorem dX3_badRule_58 : decode cX3_badRule 58 = .ok (.istore_n 3, 1) := by decide +kernel
theorem dX3_badRule_59 : decode cX3_badRule 59 = .ok (.aload_n 1, 1) := by decide +kernel
theorem dX3_badRule_60 : decode cX3_badRule 60 = .ok (.getfield 115, 3) := by decide +kernel
theorem dX3_badRule_63 : decode cX3_badRule 63 = .ok (.iload_n 2, 1) := by decide +kernel
theorem dX3_badRule_64 : decode cX3_badRule 64 = .ok (.iaload, 1) := by decide +kernel
theorem dX3_badRule_65 : decode cX3_badRule 65 = .ok (.iconst 1, 1) := by decide +kernel
theorem dX3_badRule_66 : decode cX3_badRule 66 = .ok (.if_icmp .ne 36, 3) := by decide +kernel
theorem dX3_badRule_69 : decode cX3_badRule 69 = .ok (.aload_n 0, 1) := by decide +kernel
theorem dX3_badRule_70 : decode cX3_badRule 70 = .ok (.iload_n 3, 1) := by decide +kernel
theorem dX3_badRule_71 : decode cX3_badRule 71 = .ok (.invokevirtual 117, 3) := by decide +kernel
theorem dX3_badRule_74 : decode cX3_badRule 74 = .ok (.ifCond .eq 24, 3) := by decide +kernel
theorem dX3_badRule_77 : decode cX3_badRule 77 = .ok (.aload_n 0, 1) := by decide +kernel
theorem dX3_badRule_78 : decode cX3_badRule 78 = .ok (.getfield 9, 3) := by decide +kernel
theorem dX3_badRule_81 : decode cX3_badRule 81 = .ok (.iload_n 3, 1) := by decide +kernel
theorem dX3_badRule_82 : decode cX3_badRule 82 = .ok (.aload_n 1, 1) := by decide +kernel
theorem dX3_badRule_83 : decode cX3_badRule 83 = .ok (.getfield 120, 3) := by decide +kernel
theorem dX3_badRule_86 : decode cX3_badRule 86 = .ok (.iload_n 2, 1) := by decide +kernel
theorem dX3_badRule_87 : decode cX3_badRule 87 = .ok (.iaload, 1) := by decide +kernel
theorem dX3_badRule_88 : decode cX3_badRule 88 = .ok (.invokevirtual 60, 3) := by decide +kernel
theorem dX3_badRule_91 : decode cX3_badRule 91 = .ok (.ifCond .eq 7, 3) := by decide +kernel
theorem dX3_badRule_94 : decode cX3_badRule 94 = .ok (.iconst 1, 1) := by decide +kernel
theorem dX3_badRule_95 : decode cX3_badRule 95 = .ok (.goto 12, 3) := by decide +kernel
theorem dX3_badRule_98 : decode cX3_badRule 98 = .ok (.iconst 0, 1) := by decide +kernel
theorem dX3_badRule_99 : decode cX3_badRule 99 = .ok (.goto 8, 3) := by decide +kernel
theorem dX3_badRule_102 : decode cX3_badRule 102 = .ok (.aload_n 0, 1) := by decide +kernel
theorem dX3_badRule_103 : decode cX3_badRule 103 = .ok (.iload_n 3, 1) := by decide +kernel
theorem dX3_badRule_104 : decode cX3_badRule 104 = .ok (.invokevirtual 105, 3) := by decide +kernel
theorem dX3_badRule_107 : decode cX3_badRule 107 = .ok (.istore 4, 2) := by decide +kernel
theorem dX3_badRule_109 : decode cX3_badRule 109 = .ok (.iload 4, 2) := by decide +kernel
theorem dX3_badRule_111 : decode cX3_badRule 111 = .ok (.ifCond .ne 10, 3) := by decide +kernel
theorem dX3_badRule_114 : decode cX3_badRule 114 = .ok (.aload_n 1, 1) := by decide +kernel
theorem dX3_badRule_115 : decode cX3_badRule 115 = .ok (.getfield 121, 3) := by decide +kernel
theorem dX3_badRule_118 : decode cX3_badRule 118 = .ok (.iload_n 2, 1) := by decide +kernel
theorem dX3_badRule_119 : decode cX3_badRule 119 = .ok (.iaload, 1) := by decide +kernel
theorem dX3_badRule_120 : decode cX3_badRule 120 = .ok (.ireturn, 1) := by decide +kernel
theorem dX3_badRule_121 : decode cX3_badRule 121 = .ok (.iinc 2 1, 3) := by decide +kernel
theorem dX3_badRule_124 : decode cX3_badRule 124 = .ok (.goto (-114), 3) := by decide +kernel
theorem dX3_badRule_127 : decode cX3_badRule 127 = .ok (.iconst (-1), 1) := by decide +kernel
theorem dX3_badRule_128 : decode cX3_badRule 128 = .ok (.ireturn, 1) := by decide +kernel
theorem dX3_canBeBank_0 : decode cX3_canBeBank 0 = .ok (.iload_n 1, 1) := by decide +kernel
theorem dX3_canBeBank_1 : decode cX3_canBeBank 1 = .ok (.iconst (-1), 1) := by decide +kernel
theorem dX3_canBeBank_2 : decode cX3_canBeBank 2 = .ok (.if_icmp .eq 52, 3) := by decide +kernel
theorem dX3_canBeBank_5 : decode cX3_canBeBank 5 = .ok (.aload_n 0, 1) := by decide +kernel
theorem dX3_canBeBank_6 : decode cX3_canBeBank 6 = .ok (.getfield 9, 3) := by decide +kernel
theorem dX3_canBeBank_9 : decode cX3_canBeBank 9 = .ok (.getfield 81, 3) := by decide +kernel
theorem dX3_canBeBank_12 : decode cX3_canBeBank 12 = .ok (.iload_n 1, 1) := by decide +kernel
theorem dX3_canBeBank_13 : decode cX3_canBeBank 13 = .ok (.iaload, 1) := by decide +kernel
theorem dX3_canBeBank_14 : decode cX3_canBeBank 14 = .ok (.ifCond .ne 40, 3) := by decide +kernel
theorem dX3_canBeBank_17 : decode cX3_canBeBank 17 = .ok (.aload_n 0, 1) := by decide +kernel
theorem dX3_canBeBank_18 : decode cX3_canBeBank 18 = .ok (.getfield 9, 3) := by decide +kernel
theorem dX3_canBeBank_21 : decode cX3_canBeBank 21 = .ok (.getfield 69, 3) := by decide +kernel
theorem dX3_canBeBank_24 : decode cX3_canBeBank 24 = .ok (.aload_n 0, 1) := by decide +kernel
theorem dX3_canBeBank_25 : decode cX3_canBeBank 25 = .ok (.getfield 9, 3) := by decide +kernel
theorem dX3_canBeBank_28 : decode cX3_canBeBank 28 = .ok (.getfield 40, 3) := by decide +kernel
theorem dX3_canBeBank_31 : decode cX3_canBeBank 31 = .ok (.iload_n 1, 1) := by decide +kernel
theorem dX3_canBeBank_32 : decode cX3_canBeBank 32 = .ok (.iaload, 1) := by decide +kernel
theorem dX3_canBeBank_33 : decode cX3_canBeBank 33 = .ok (.iaload, 1) := by decide +kernel
theorem dX3_canBeBank_34 : decode cX3_canBeBank 34 = .ok (.iconst (-1), 1) := by decide +kernel
theorem dX3_canBeBank_35 : decode cX3_canBeBank 35 = .ok (.if_icmp .ne 19, 3) := by decide +kernel
theorem dX3_canBeBank_38 : decode cX3_canBeBank 38 = .ok (.aload_n 0, 1) := by decide +kernel
theorem dX3_canBeBank_39 : decode cX3_canBeBank 39 = .ok (.getfield 9, 3) := by decide +kernel
theorem dX3_canBeBank_42 : decode cX3_canBeBank 42 = .ok (.iload_n 1, 1) := by decide +kernel
theorem dX3_canBeBank_43 : decode cX3_canBeBank 43 = .ok (.iload_n 2, 1) := by decide +kernel
theorem dX3_canBeBank_44 : decode cX3_canBeBank 44 = .ok (.invokevirtual 60, 3) := by decide +kernel
theorem dX3_canBeBank_47 : decode cX3_canBeBank 47 = .ok (.ifCond .eq 7, 3) := by decide +kernel
theorem dX3_canBeBank_50 : decode cX3_canBeBank 50 = .ok (.iconst 1, 1) := by decide +kernel
theorem dX3_canBeBank_51 : decode cX3_canBeBank 51 = .ok (.goto 4, 3) := by decide +kernel
theorem dX3_canBeBank_54 : decode cX3_canBeBank 54 = .ok (.iconst 0, 1) := by decide +kernel
theorem dX3_canBeBank_55 : decode cX3_canBeBank 55 = .ok (.ireturn, 1) := by decide +kernel
theorem dX3_decide_0 : decode cX3_decide 0 = .ok (.iload_n 1, 1) := by decide +kernel
theorem dX3_decide_1 : decode cX3_decide 1 = .ok (.ifCond .ne 14, 3) := by decide +kernel
theorem dX3_decide_4 : decode cX3_decide 4 = .ok (.aload_n 0, 1) := by decide +kernel
theorem dX3_decide_5 : decode cX3_decide 5 = .ok (.iconst 1, 1) := by decide +kernel
theorem dX3_decide_6 : decode cX3_decide 6 = .ok (.putfield 15, 3) := by decide +kernel
theorem dX3_decide_9 : decode cX3_decide 9 = .ok (.aload_n 0, 1) := by decide +kernel
theorem dX3_decide_10 : decode cX3_decide 10 = .ok (.iload_n 2, 1) := by decide +kernel
theorem dX3_decide_11 : decode cX3_decide 11 = .ok (.putfield 19, 3) := by decide +kernel
theorem dX3_decide_14 : decode cX3_decide 14 = .ok (.return_, 1) := by decide +kernel
theorem dX3_decide_15 : decode cX3_decide 15 = .ok (.aload_n 0, 1) := by decide +kernel
theorem dX3_decide_16 : decode cX3_decide 16 = .ok (.iconst 2, 1) := by decide +kernel
theorem dX3_decide_17 : decode cX3_decide 17 = .ok (.putfield 15, 3) := by decide +kernel
theorem dX3_decide_20 : decode cX3_decide 20 = .ok (.aload_n 0, 1) := by decide +kernel
theorem dX3_decide_21 : decode cX3_decide 21 = .ok (.aload_n 0, 1) := by decide +kernel
theorem dX3_decide_22 : decode cX3_decide 22 = .ok (.invokevirtual 22, 3) := by decide +kernel
theorem dX3_decide_25 : decode cX3_decide 25 = .ok (.putfield 19, 3) := by decide +kernel
theorem dX3_decide_28 : decode cX3_decide 28 = .ok (.aload_n 0, 1) := by decide +kernel
theorem dX3_decide_29 : decode cX3_decide 29 = .ok (.getfield 19, 3) := by decide +kernel
theorem dX3_decide_32 : decode cX3_decide 32 = .ok (.iconst (-1), 1) := by decide +kernel
theorem dX3_decide_33 : decode cX3_decide 33 = .ok (.if_icmp .ne 16, 3) := by decide +kernel
theorem dX3_decide_36 : decode cX3_decide 36 = .ok (.aload_n 0, 1) := by decide +kernel
theorem dX3_decide_37 : decode cX3_decide 37 = .ok (.iconst 3, 1) := by decide +kernel
theorem dX3_decide_38 : decode cX3_decide 38 = .ok (.putfield 15, 3) := by decide +kernel
theorem dX3_decide_41 : decode cX3_decide 41 = .ok (.aload_n 0, 1) := by decide +kernel
theorem dX3_decide_42 : decode cX3_decide 42 = .ok (.aload_n 0, 1) := by decide +kernel
theorem dX3_decide_43 : decode cX3_decide 43 = .ok (.invokevirtual 26, 3) := by decide +kernel
theorem dX3_decide_46 : decode cX3_decide 46 = .ok (.putfield 19, 3) := by decide +kernel
theorem dX3_decide_49 : decode cX3_decide 49 = .ok (.aload_n 0, 1) := by decide +kernel
theorem dX3_decide_50 : decode cX3_decide 50 = .ok (.getfield 19, 3) := by decide +kernel
theorem dX3_decide_53 : decode cX3_decide 53 = .ok (.iconst (-1), 1) := by decide +kernel
theorem dX3_decide_54 : decode cX3_decide 54 = .ok (.if_icmp .ne 11, 3) := by decide +kernel
theorem dX3_decide_57 : decode cX3_decide 57 = .ok (.aload_n 0, 1) := by decide +kernel
theorem dX3_decide_58 : decode cX3_decide 58 = .ok (.aload_n 0, 1) := by decide +kernel
theorem dX3_decide_59 : decode cX3_decide 59 = .ok (.invokevirtual 29, 3) := by decide +kernel
theorem dX3_decide_62 : decode cX3_decide 62 = .ok (.putfield 19, 3) := by decide +kernel
theorem dX3_decide_65 : decode cX3_decide 65 = .ok (.aload_n 0, 1) := by decide +kernel
theorem dX3_decide_66 : decode cX3_decide 66 = .ok (.getfield 19, 3) := by decide +kernel
theorem dX3_decide_69 : decode cX3_decide 69 = .ok (.iconst (-1), 1) := by decide +kernel
theorem dX3_decide_70 : decode cX3_decide 70 = .ok (.if_icmp .ne 16, 3) := by decide +kernel
theorem dX3_decide_73 : decode cX3_decide 73 = .ok (.aload_n 0, 1) := by decide +kernel
theorem dX3_decide_74 : decode cX3_decide 74 = .ok (.iconst 4, 1) := by decide +kernel
theorem dX3_decide_75 : decode cX3_decide 75 = .ok (.putfield 15, 3) := by decide +kernel
theorem dX3_decide_78 : decode cX3_decide 78 = .ok (.aload_n 0, 1) := by decide +kernel
theorem dX3_decide_79 : decode cX3_decide 79 = .ok (.aload_n 0, 1) := by decide +kernel
theorem dX3_decide_80 : decode cX3_decide 80 = .ok (.invokevirtual 32, 3) := by decide +kernel
theorem dX3_decide_83 : decode cX3_decide 83 = .ok (.putfield 19, 3) := by decide +kernel
theorem dX3_decide_86 : decode cX3_decide 86 = .ok (.aload_n 0, 1) := by decide +kernel
theorem dX3_decide_87 : decode cX3_decide 87 = .ok (.getfield 19, 3) := by decide +kernel
theorem dX3_decide_90 : decode cX3_decide 90 = .ok (.iconst (-1), 1) := by decide +kernel
theorem dX3_decide_91 : decode cX3_decide 91 = .ok (.if_icmp .ne 13, 3) := by decide +kernel
theorem dX3_decide_94 : decode cX3_decide 94 = .ok (.aload_n 0, 1) := by decide +kernel
theorem dX3_decide_95 : decode cX3_decide 95 = .ok (.iconst 0, 1) := by decide +kernel
theorem dX3_decide_96 : decode cX3_decide 96 = .ok (.putfield 15, 3) := by decide +kernel
theorem dX3_decide_99 : decode cX3_decide 99 = .ok (.aload_n 0, 1) := by decide +kernel
theorem dX3_decide_100 : decode cX3_decide 100 = .ok (.iconst 0, 1) := by decide +kernel
theorem dX3_decide_101 : decode cX3_decide 101 = .ok (.putfield 19, 3) := by decide +kernel
theorem dX3_decide_104 : decode cX3_decide 104 = .ok (.return_, 1) := by decide +kernel
theorem dX3_isKnown_0 : decode cX3_isKnown 0 = .ok (.iload_n 1, 1) := by decide +kernel
theorem dX3_isKnown_1 : decode cX3_isKnown 1 = .ok (.iconst (-1), 1) := by decide +kernel
theorem dX3_isKnown_2 : decode cX3_isKnown 2 = .ok (.if_icmp .eq 32, 3) := by decide +kernel
theorem dX3_isKnown_5 : decode cX3_isKnown 5 = .ok (.aload_n 0, 1) := by decide +kernel
theorem dX3_isKnown_6 : decode cX3_isKnown 6 = .ok (.getfield 9, 3) := by decide +kernel
theorem dX3_isKnown_9 : decode cX3_isKnown 9 = .ok (.getfield 81, 3) := by decide +kernel
theorem dX3_isKnown_12 : decode cX3_isKnown 12 = .ok (.iload_n 1, 1) := by decide +kernel
theorem dX3_isKnown_13 : decode cX3_isKnown 13 = .ok (.iaload, 1) := by decide +kernel
theorem dX3_isKnown_14 : decode cX3_isKnown 14 = .ok (.ifCond .eq 16, 3) := by decide +kernel
theorem dX3_isKnown_17 : decode cX3_isKnown 17 = .ok (.aload_n 0, 1) := by decide +kernel
theorem dX3_isKnown_18 : decode cX3_isKnown 18 = .ok (.getfield 9, 3) := by decide +kernel
theorem dX3_isKnown_21 : decode cX3_isKnown 21 = .ok (.getfield 81, 3) := by decide +kernel
theorem dX3_isKnown_24 : decode cX3_isKnown 24 = .ok (.iload_n 1, 1) := by decide +kernel
theorem dX3_isKnown_25 : decode cX3_isKnown 25 = .ok (.iaload, 1) := by decide +kernel
theorem dX3_isKnown_26 : decode cX3_isKnown 26 = .ok (.iconst 2, 1) := by decide +kernel
theorem dX3_isKnown_27 : decode cX3_isKnown 27 = .ok (.if_icmp .ne 7, 3) := by decide +kernel
theorem dX3_isKnown_30 : decode cX3_isKnown 30 = .ok (.iconst 1, 1) := by decide +kernel
theorem dX3_isKnown_31 : decode cX3_isKnown 31 = .ok (.goto 4, 3) := by decide +kernel
theorem dX3_isKnown_34 : decode cX3_isKnown 34 = .ok (.iconst 0, 1) := by decide +kernel
theorem dX3_isKnown_35 : decode cX3_isKnown 35 = .ok (.ireturn, 1) := by decide +kernel
theorem dX3_isWritable_0 : decode cX3_isWritable 0 = .ok (.iload_n 1, 1) := by decide +kernel
theorem dX3_isWritable_1 : decode cX3_isWritable 1 = .ok (.iconst (-1), 1) := by decide +kernel
theorem dX3_isWritable_2 : decode cX3_isWritable 2 = .ok (.if_icmp .eq 33, 3) := by decide +kernel
theorem dX3_isWritable_5 : decode cX3_isWritable 5 = .ok (.aload_n 0, 1) := by decide +kernel
theorem dX3_isWritable_6 : decode cX3_isWritable 6 = .ok (.getfield 9, 3) := by decide +kernel
theorem dX3_isWritable_9 : decode cX3_isWritable 9 = .ok (.getfield 81, 3) := by decide +kernel
theorem dX3_isWritable_12 : decode cX3_isWritable 12 = .ok (.iload_n 1, 1) := by decide +kernel
theorem dX3_isWritable_13 : decode cX3_isWritable 13 = .ok (.iaload, 1) := by decide +kernel
theorem dX3_isWritable_14 : decode cX3_isWritable 14 = .ok (.iconst 1, 1) := by decide +kernel
theorem dX3_isWritable_15 : decode cX3_isWritable 15 = .ok (.if_icmp .eq 20, 3) := by decide +kernel
theorem dX3_isWritable_18 : decode cX3_isWritable 18 = .ok (.aload_n 0, 1) := by decide +kernel
theorem dX3_isWritable_19 : decode cX3_isWritable 19 = .ok (.getfield 9, 3) := by decide +kernel
theorem dX3_isWritable_22 : decode cX3_isWritable 22 = .ok (.getfield 81, 3) := by decide +kernel
theorem dX3_isWritable_25 : decode cX3_isWritable 25 = .ok (.iload_n 1, 1) := by decide +kernel
theorem dX3_isWritable_26 : decode cX3_isWritable 26 = .ok (.iaload, 1) := by decide +kernel
theorem dX3_isWritable_27 : decode cX3_isWritable 27 = .ok (.iconst 3, 1) := by decide +kernel
theorem dX3_isWritable_28 : decode cX3_isWritable 28 = .ok (.if_icmp .eq 7, 3) := by decide +kernel
theorem dX3_isWritable_31 : decode cX3_isWritable 31 = .ok (.iconst 1, 1) := by decide +kernel
theorem dX3_isWritable_32 : decode cX3_isWritable 32 = .ok (.goto 4, 3) := by decide +kernel
theorem dX3_isWritable_35 : decode cX3_isWritable 35 = .ok (.iconst 0, 1) := by decide +kernel
theorem dX3_isWritable_36 : decode cX3_isWritable 36 = .ok (.ireturn, 1) := by decide +kernel
theorem dX4_bitsOf_0 : decode cX4_bitsOf 0 = .ok (.iload_n 2, 1) := by decide +kernel
theorem dX4_bitsOf_1 : decode cX4_bitsOf 1 = .ok (.aload_n 0, 1) := by decide +kernel
theorem dX4_bitsOf_2 : decode cX4_bitsOf 2 = .ok (.getfield 52, 3) := by decide +kernel
theorem dX4_bitsOf_5 : decode cX4_bitsOf 5 = .ok (.iload_n 1, 1) := by decide +kernel
theorem dX4_bitsOf_6 : decode cX4_bitsOf 6 = .ok (.iaload, 1) := by decide +kernel
theorem dX4_bitsOf_7 : decode cX4_bitsOf 7 = .ok (.iand, 1) := by decide +kernel
theorem dX4_bitsOf_8 : decode cX4_bitsOf 8 = .ok (.aload_n 0, 1) := by decide +kernel
theorem dX4_bitsOf_9 : decode cX4_bitsOf 9 = .ok (.getfield 46, 3) := by decide +kernel
theorem dX4_bitsOf_12 : decode cX4_bitsOf 12 = .ok (.iload_n 1, 1) := by decide +kernel
theorem dX4_bitsOf_13 : decode cX4_bitsOf 13 = .ok (.iaload, 1) := by decide +kernel
theorem dX4_bitsOf_14 : decode cX4_bitsOf 14 = .ok (.ishr, 1) := by decide +kernel
theorem dX4_bitsOf_15 : decode cX4_bitsOf 15 = .ok (.ireturn, 1) := by decide +kernel
theorem dX4_canFetch_0 : decode cX4_canFetch 0 = .ok (.aload_n 0, 1) := by decide +kernel
theorem dX4_canFetch_1 : decode cX4_canFetch 1 = .ok (.iload_n 1, 1) := by decide +kernel
theorem dX4_canFetch_2 : decode cX4_canFetch 2 = .ok (.invokevirtual 112, 3) := by decide +kernel
theorem dX4_canFetch_5 : decode cX4_canFetch 5 = .ok (.ifCond .eq 17, 3) := by decide +kernel
theorem dX4_canFetch_8 : decode cX4_canFetch 8 = .ok (.aload_n 0, 1) := by decide +kernel
theorem dX4_canFetch_9 : decode cX4_canFetch 9 = .ok (.getfield 43, 3) := by decide +kernel
theorem dX4_canFetch_12 : decode cX4_canFetch 12 = .ok (.iload_n 1, 1) := by decide +kernel
theorem dX4_canFetch_13 : decode cX4_canFetch 13 = .ok (.iaload, 1) := by decide +kernel
theorem dX4_canFetch_14 : decode cX4_canFetch 14 = .ok (.iconst 2, 1) := by decide +kernel
theorem dX4_canFetch_15 : decode cX4_canFetch 15 = .ok (.if_icmp .eq 7, 3) := by decide +kernel
theorem dX4_canFetch_18 : decode cX4_canFetch 18 = .ok (.iconst 1, 1) := by decide +kernel
theorem dX4_canFetch_19 : decode cX4_canFetch 19 = .ok (.goto 4, 3) := by decide +kernel
theorem dX4_canFetch_22 : decode cX4_canFetch 22 = .ok (.iconst 0, 1) := by decide +kernel
theorem dX4_canFetch_23 : decode cX4_canFetch 23 = .ok (.ireturn, 1) := by decide +kernel
theorem dX4_canPut_0 : decode cX4_canPut 0 = .ok (.aload_n 0, 1) := by decide +kernel
theorem dX4_canPut_1 : decode cX4_canPut 1 = .ok (.iload_n 1, 1) := by decide +kernel
theorem dX4_canPut_2 : decode cX4_canPut 2 = .ok (.invokevirtual 112, 3) := by decide +kernel
theorem dX4_canPut_5 : decode cX4_canPut 5 = .ok (.ifCond .eq 36, 3) := by decide +kernel
theorem dX4_canPut_8 : decode cX4_canPut 8 = .ok (.aload_n 0, 1) := by decide +kernel
theorem dX4_canPut_9 : decode cX4_canPut 9 = .ok (.getfield 43, 3) := by decide +kernel
theorem dX4_canPut_12 : decode cX4_canPut 12 = .ok (.iload_n 1, 1) := by decide +kernel
theorem dX4_canPut_13 : decode cX4_canPut 13 = .ok (.iaload, 1) := by decide +kernel
theorem dX4_canPut_14 : decode cX4_canPut 14 = .ok (.iconst 1, 1) := by decide +kernel
theorem dX4_canPut_15 : decode cX4_canPut 15 = .ok (.if_icmp .eq 26, 3) := by decide +kernel
theorem dX4_canPut_18 : decode cX4_canPut 18 = .ok (.aload_n 0, 1) := by decide +kernel
theorem dX4_canPut_19 : decode cX4_canPut 19 = .ok (.getfield 43, 3) := by decide +kernel
theorem dX4_canPut_22 : decode cX4_canPut 22 = .ok (.iload_n 1, 1) := by decide +kernel
theorem dX4_canPut_23 : decode cX4_canPut 23 = .ok (.iaload, 1) := by decide +kernel
theorem dX4_canPut_24 : decode cX4_canPut 24 = .ok (.iconst 3, 1) := by decide +kernel
theorem dX4_canPut_25 : decode cX4_canPut 25 = .ok (.if_icmp .eq 16, 3) := by decide +kernel
theorem dX4_canPut_28 : decode cX4_canPut 28 = .ok (.aload_n 0, 1) := by decide +kernel
theorem dX4_canPut_29 : decode cX4_canPut 29 = .ok (.iload_n 1, 1) := by decide +kernel
theorem dX4_canPut_30 : decode cX4_canPut 30 = .ok (.iload_n 2, 1) := by decide +kernel
theorem dX4_canPut_31 : decode cX4_canPut 31 = .ok (.invokevirtual 115, 3) := by decide +kernel
theorem dX4_canPut_34 : decode cX4_canPut 34 = .ok (.ifCond .eq 7, 3) := by decide +kernel
theorem dX4_canPut_37 : decode cX4_canPut 37 = .ok (.iconst 1, 1) := by decide +kernel
theorem dX4_canPut_38 : decode cX4_canPut 38 = .ok (.goto 4, 3) := by decide +kernel
theorem dX4_canPut_41 : decode cX4_canPut 41 = .ok (.iconst 0, 1) := by decide +kernel
theorem dX4_canPut_42 : decode cX4_canPut 42 = .ok (.ireturn, 1) := by decide +kernel
theorem dX4_fits_0 : decode cX4_fits 0 = .ok (.iload_n 2, 1) := by decide +kernel
theorem dX4_fits_1 : decode cX4_fits 1 = .ok (.aload_n 0, 1) := by decide +kernel
theorem dX4_fits_2 : decode cX4_fits 2 = .ok (.getfield 49, 3) := by decide +kernel
theorem dX4_fits_5 : decode cX4_fits 5 = .ok (.iload_n 1, 1) := by decide +kernel
theorem dX4_fits_6 : decode cX4_fits 6 = .ok (.iaload, 1) := by decide +kernel
theorem dX4_fits_7 : decode cX4_fits 7 = .ok (.ishr, 1) := by decide +kernel
theorem dX4_fits_8 : decode cX4_fits 8 = .ok (.ifCond .ne 7, 3) := by decide +kernel
theorem dX4_fits_11 : decode cX4_fits 11 = .ok (.iconst 1, 1) := by decide +kernel
theorem dX4_fits_12 : decode cX4_fits 12 = .ok (.goto 4, 3) := by decide +kernel
theorem dX4_fits_15 : decode cX4_fits 15 = .ok (.iconst 0, 1) := by decide +kernel
theorem dX4_fits_16 : decode cX4_fits 16 = .ok (.ireturn, 1) := by decide +kernel
theorem dX4_has_0 : decode cX4_has 0 = .ok (.iload_n 1, 1) := by decide +kernel
theorem dX4_has_1 : decode cX4_has 1 = .ok (.ifCond .lt 23, 3) := by decide +kernel
theorem dX4_has_4 : decode cX4_has 4 = .ok (.iload_n 1, 1) := by decide +kernel
theorem dX4_has_5 : decode cX4_has 5 = .ok (.bipush 26, 2) := by decide +kernel
theorem dX4_has_7 : decode cX4_has 7 = .ok (.if_icmp .ge 17, 3) := by decide +kernel
theorem dX4_has_10 : decode cX4_has 10 = .ok (.aload_n 0, 1) := by decide +kernel
