theorem dX1_state_13 : decode cX1_state 13 = .ok (.goto 52, 3) := by decide +kernel
theorem dX1_state_16 : decode cX1_state 16 = .ok (.iload_n 1, 1) := by decide +kernel
theorem dX1_state_17 : decode cX1_state 17 = .ok (.iconst 1, 1) := by decide +kernel
theorem dX1_state_18 : decode cX1_state 18 = .ok (.if_icmp .ne 10, 3) := by decide +kernel
theorem dX1_state_21 : decode cX1_state 21 = .ok (.aload_n 0, 1) := by decide +kernel
theorem dX1_state_22 : decode cX1_state 22 = .ok (.getfield 285, 3) := by decide +kernel
theorem dX1_state_25 : decode cX1_state 25 = .ok (.goto 40, 3) := by decide +kernel
theorem dX1_state_28 : decode cX1_state 28 = .ok (.iload_n 1, 1) := by decide +kernel
theorem dX1_state_29 : decode cX1_state 29 = .ok (.iconst 2, 1) := by decide +kernel
theorem dX1_state_30 : decode cX1_state 30 = .ok (.if_icmp .ne 10, 3) := by decide +kernel
theorem dX1_state_33 : decode cX1_state 33 = .ok (.aload_n 0, 1) := by decide +kernel
theorem dX1_state_34 : decode cX1_state 34 = .ok (.getfield 288, 3) := by decide +kernel
theorem dX1_state_37 : decode cX1_state 37 = .ok (.goto 28, 3) := by decide +kernel
theorem dX1_state_40 : decode cX1_state 40 = .ok (.iload_n 1, 1) := by decide +kernel
theorem dX1_state_41 : decode cX1_state 41 = .ok (.iconst 3, 1) := by decide +kernel
theorem dX1_state_42 : decode cX1_state 42 = .ok (.if_icmp .ne 10, 3) := by decide +kernel
theorem dX1_state_45 : decode cX1_state 45 = .ok (.aload_n 0, 1) := by decide +kernel
theorem dX1_state_46 : decode cX1_state 46 = .ok (.getfield 267, 3) := by decide +kernel
theorem dX1_state_49 : decode cX1_state 49 = .ok (.goto 16, 3) := by decide +kernel
theorem dX1_state_52 : decode cX1_state 52 = .ok (.iload_n 1, 1) := by decide +kernel
theorem dX1_state_53 : decode cX1_state 53 = .ok (.iconst 4, 1) := by decide +kernel
theorem dX1_state_54 : decode cX1_state 54 = .ok (.if_icmp .ne 10, 3) := by decide +kernel
theorem dX1_state_57 : decode cX1_state 57 = .ok (.aload_n 0, 1) := by decide +kernel
theorem dX1_state_58 : decode cX1_state 58 = .ok (.getfield 264, 3) := by decide +kernel
theorem dX1_state_61 : decode cX1_state 61 = .ok (.goto 4, 3) := by decide +kernel
theorem dX1_state_64 : decode cX1_state 64 = .ok (.iconst (-1), 1) := by decide +kernel
theorem dX1_state_65 : decode cX1_state 65 = .ok (.ireturn, 1) := by decide +kernel
theorem dX1_step_0 : decode cX1_step 0 = .ok (.aload_n 0, 1) := by decide +kernel
theorem dX1_step_1 : decode cX1_step 1 = .ok (.iconst 0, 1) := by decide +kernel
theorem dX1_step_2 : decode cX1_step 2 = .ok (.putfield 161, 3) := by decide +kernel
theorem dX1_step_5 : decode cX1_step 5 = .ok (.aload_n 0, 1) := by decide +kernel
theorem dX1_step_6 : decode cX1_step 6 = .ok (.getfield 257, 3) := by decide +kernel
theorem dX1_step_9 : decode cX1_step 9 = .ok (.ifCond .eq 62, 3) := by decide +kernel
theorem dX1_step_12 : decode cX1_step 12 = .ok (.aload_n 0, 1) := by decide +kernel
theorem dX1_step_13 : decode cX1_step 13 = .ok (.getfield 267, 3) := by decide +kernel
theorem dX1_step_16 : decode cX1_step 16 = .ok (.bipush 40, 2) := by decide +kernel
theorem dX1_step_18 : decode cX1_step 18 = .ok (.if_icmp .eq 53, 3) := by decide +kernel
theorem dX1_step_21 : decode cX1_step 21 = .ok (.iload_n 1, 1) := by decide +kernel
theorem dX1_step_22 : decode cX1_step 22 = .ok (.ifCond .lt 49, 3) := by decide +kernel
theorem dX1_step_25 : decode cX1_step 25 = .ok (.iload_n 1, 1) := by decide +kernel
theorem dX1_step_26 : decode cX1_step 26 = .ok (.iconst 3, 1) := by decide +kernel
theorem dX1_step_27 : decode cX1_step 27 = .ok (.if_icmp .gt 44, 3) := by decide +kernel
theorem dX1_step_30 : decode cX1_step 30 = .ok (.iload_n 1, 1) := by decide +kernel
theorem dX1_step_31 : decode cX1_step 31 = .ok (.ifCond .ne 12, 3) := by decide +kernel
theorem dX1_step_34 : decode cX1_step 34 = .ok (.aload_n 0, 1) := by decide +kernel
theorem dX1_step_35 : decode cX1_step 35 = .ok (.iload_n 2, 1) := by decide +kernel
theorem dX1_step_36 : decode cX1_step 36 = .ok (.iload_n 3, 1) := by decide +kernel
theorem dX1_step_37 : decode cX1_step 37 = .ok (.invokevirtual 366, 3) := by decide +kernel
theorem dX1_step_40 : decode cX1_step 40 = .ok (.ifCond .eq 31, 3) := by decide +kernel
theorem dX1_step_43 : decode cX1_step 43 = .ok (.iload_n 1, 1) := by decide +kernel
theorem dX1_step_44 : decode cX1_step 44 = .ok (.iconst 1, 1) := by decide +kernel
theorem dX1_step_45 : decode cX1_step 45 = .ok (.if_icmp .ne 11, 3) := by decide +kernel
theorem dX1_step_48 : decode cX1_step 48 = .ok (.aload_n 0, 1) := by decide +kernel
theorem dX1_step_49 : decode cX1_step 49 = .ok (.iload_n 2, 1) := by decide +kernel
theorem dX1_step_50 : decode cX1_step 50 = .ok (.invokevirtual 378, 3) := by decide +kernel
theorem dX1_step_53 : decode cX1_step 53 = .ok (.ifCond .eq 18, 3) := by decide +kernel
theorem dX1_step_56 : decode cX1_step 56 = .ok (.iload_n 1, 1) := by decide +kernel
theorem dX1_step_57 : decode cX1_step 57 = .ok (.iconst 2, 1) := by decide +kernel
theorem dX1_step_58 : decode cX1_step 58 = .ok (.if_icmp .ne 15, 3) := by decide +kernel
theorem dX1_step_61 : decode cX1_step 61 = .ok (.iload_n 3, 1) := by decide +kernel
theorem dX1_step_62 : decode cX1_step 62 = .ok (.ifCond .lt 9, 3) := by decide +kernel
theorem dX1_step_65 : decode cX1_step 65 = .ok (.iload_n 3, 1) := by decide +kernel
theorem dX1_step_66 : decode cX1_step 66 = .ok (.bipush 40, 2) := by decide +kernel
theorem dX1_step_68 : decode cX1_step 68 = .ok (.if_icmp .le 5, 3) := by decide +kernel
theorem dX1_step_71 : decode cX1_step 71 = .ok (.iconst (-1), 1) := by decide +kernel
theorem dX1_step_72 : decode cX1_step 72 = .ok (.ireturn, 1) := by decide +kernel
theorem dX1_step_73 : decode cX1_step 73 = .ok (.aload_n 0, 1) := by decide +kernel
theorem dX1_step_74 : decode cX1_step 74 = .ok (.getfield 134, 3) := by decide +kernel
theorem dX1_step_77 : decode cX1_step 77 = .ok (.aload_n 0, 1) := by decide +kernel
theorem dX1_step_78 : decode cX1_step 78 = .ok (.getfield 267, 3) := by decide +kernel
theorem dX1_step_81 : decode cX1_step 81 = .ok (.iload_n 1, 1) := by decide +kernel
theorem dX1_step_82 : decode cX1_step 82 = .ok (.iastore, 1) := by decide +kernel
theorem dX1_step_83 : decode cX1_step 83 = .ok (.aload_n 0, 1) := by decide +kernel
theorem dX1_step_84 : decode cX1_step 84 = .ok (.getfield 137, 3) := by decide +kernel
theorem dX1_step_87 : decode cX1_step 87 = .ok (.aload_n 0, 1) := by decide +kernel
theorem dX1_step_88 : decode cX1_step 88 = .ok (.getfield 267, 3) := by decide +kernel
theorem dX1_step_91 : decode cX1_step 91 = .ok (.iload_n 2, 1) := by decide +kernel
theorem dX1_step_92 : decode cX1_step 92 = .ok (.iastore, 1) := by decide +kernel
theorem dX1_step_93 : decode cX1_step 93 = .ok (.aload_n 0, 1) := by decide +kernel
theorem dX1_step_94 : decode cX1_step 94 = .ok (.getfield 140, 3) := by decide +kernel
theorem dX1_step_97 : decode cX1_step 97 = .ok (.aload_n 0, 1) := by decide +kernel
theorem dX1_step_98 : decode cX1_step 98 = .ok (.getfield 267, 3) := by decide +kernel
theorem dX1_step_101 : decode cX1_step 101 = .ok (.iload_n 3, 1) := by decide +kernel
theorem dX1_step_102 : decode cX1_step 102 = .ok (.iastore, 1) := by decide +kernel
theorem dX1_step_103 : decode cX1_step 103 = .ok (.aload_n 0, 1) := by decide +kernel
theorem dX1_step_104 : decode cX1_step 104 = .ok (.dup, 1) := by decide +kernel
theorem dX1_step_105 : decode cX1_step 105 = .ok (.getfield 267, 3) := by decide +kernel
theorem dX1_step_108 : decode cX1_step 108 = .ok (.iconst 1, 1) := by decide +kernel
theorem dX1_step_109 : decode cX1_step 109 = .ok (.iadd, 1) := by decide +kernel
theorem dX1_step_110 : decode cX1_step 110 = .ok (.putfield 267, 3) := by decide +kernel
theorem dX1_step_113 : decode cX1_step 113 = .ok (.aload_n 0, 1) := by decide +kernel
theorem dX1_step_114 : decode cX1_step 114 = .ok (.getfield 267, 3) := by decide +kernel
theorem dX1_step_117 : decode cX1_step 117 = .ok (.iconst 1, 1) := by decide +kernel
theorem dX1_step_118 : decode cX1_step 118 = .ok (.isub, 1) := by decide +kernel
theorem dX1_step_119 : decode cX1_step 119 = .ok (.ireturn, 1) := by decide +kernel
theorem dX1_still_0 : decode cX1_still 0 = .ok (.iconst 0, 1) := by decide +kernel
theorem dX1_still_1 : decode cX1_still 1 = .ok (.istore_n 2, 1) := by decide +kernel
theorem dX1_still_2 : decode cX1_still 2 = .ok (.iconst 0, 1) := by decide +kernel
theorem dX1_still_3 : decode cX1_still 3 = .ok (.istore_n 3, 1) := by decide +kernel
theorem dX1_still_4 : decode cX1_still 4 = .ok (.iload_n 3, 1) := by decide +kernel
theorem dX1_still_5 : decode cX1_still 5 = .ok (.bipush 26, 2) := by decide +kernel
theorem dX1_still_7 : decode cX1_still 7 = .ok (.if_icmp .ge 46, 3) := by decide +kernel
theorem dX1_still_10 : decode cX1_still 10 = .ok (.iload_n 2, 1) := by decide +kernel
theorem dX1_still_11 : decode cX1_still 11 = .ok (.aload_n 0, 1) := by decide +kernel
theorem dX1_still_12 : decode cX1_still 12 = .ok (.iload_n 3, 1) := by decide +kernel
theorem dX1_still_13 : decode cX1_still 13 = .ok (.iload_n 1, 1) := by decide +kernel
theorem dX1_still_14 : decode cX1_still 14 = .ok (.invokevirtual 291, 3) := by decide +kernel
theorem dX1_still_17 : decode cX1_still 17 = .ok (.ifCond .eq 27, 3) := by decide +kernel
theorem dX1_still_20 : decode cX1_still 20 = .ok (.aload_n 0, 1) := by decide +kernel
theorem dX1_still_21 : decode cX1_still 21 = .ok (.iload_n 3, 1) := by decide +kernel
theorem dX1_still_22 : decode cX1_still 22 = .ok (.invokevirtual 297, 3) := by decide +kernel
theorem dX1_still_25 : decode cX1_still 25 = .ok (.ifCond .eq 19, 3) := by decide +kernel
theorem dX1_still_28 : decode cX1_still 28 = .ok (.aload_n 0, 1) := by decide +kernel
theorem dX1_still_29 : decode cX1_still 29 = .ok (.getfield 107, 3) := by decide +kernel
theorem dX1_still_32 : decode cX1_still 32 = .ok (.iload_n 3, 1) := by decide +kernel
theorem dX1_still_33 : decode cX1_still 33 = .ok (.iaload, 1) := by decide +kernel
theorem dX1_still_34 : decode cX1_still 34 = .ok (.aload_n 0, 1) := by decide +kernel
theorem dX1_still_35 : decode cX1_still 35 = .ok (.getfield 86, 3) := by decide +kernel
theorem dX1_still_38 : decode cX1_still 38 = .ok (.iload_n 3, 1) := by decide +kernel
theorem dX1_still_39 : decode cX1_still 39 = .ok (.iaload, 1) := by decide +kernel
theorem dX1_still_40 : decode cX1_still 40 = .ok (.ishl, 1) := by decide +kernel
theorem dX1_still_41 : decode cX1_still 41 = .ok (.goto 4, 3) := by decide +kernel
theorem dX1_still_44 : decode cX1_still 44 = .ok (.iconst 0, 1) := by decide +kernel
theorem dX1_still_45 : decode cX1_still 45 = .ok (.ior, 1) := by decide +kernel
theorem dX1_still_46 : decode cX1_still 46 = .ok (.istore_n 2, 1) := by decide +kernel
theorem dX1_still_47 : decode cX1_still 47 = .ok (.iinc 3 1, 3) := by decide +kernel
theorem dX1_still_50 : decode cX1_still 50 = .ok (.goto (-46), 3) := by decide +kernel
theorem dX1_still_53 : decode cX1_still 53 = .ok (.iload_n 2, 1) := by decide +kernel
theorem dX1_still_54 : decode cX1_still 54 = .ok (.ireturn, 1) := by decide +kernel
theorem dX1_take_0 : decode cX1_take 0 = .ok (.aload_n 0, 1) := by decide +kernel
theorem dX1_take_1 : decode cX1_take 1 = .ok (.invokevirtual 179, 3) := by decide +kernel
theorem dX1_take_4 : decode cX1_take 4 = .ok (.iload_n 1, 1) := by decide +kernel
theorem dX1_take_5 : decode cX1_take 5 = .ok (.if_icmp .eq 13, 3) := by decide +kernel
theorem dX1_take_8 : decode cX1_take 8 = .ok (.aload_n 0, 1) := by decide +kernel
theorem dX1_take_9 : decode cX1_take 9 = .ok (.iconst 1, 1) := by decide +kernel
theorem dX1_take_10 : decode cX1_take 10 = .ok (.aload_n 0, 1) := by decide +kernel
theorem dX1_take_11 : decode cX1_take 11 = .ok (.getfield 170, 3) := by decide +kernel
theorem dX1_take_14 : decode cX1_take 14 = .ok (.invokevirtual 183, 3) := by decide +kernel
theorem dX1_take_17 : decode cX1_take 17 = .ok (.ireturn, 1) := by decide +kernel
theorem dX1_take_18 : decode cX1_take 18 = .ok (.aload_n 0, 1) := by decide +kernel
theorem dX1_take_19 : decode cX1_take 19 = .ok (.dup, 1) := by decide +kernel
theorem dX1_take_20 : decode cX1_take 20 = .ok (.getfield 170, 3) := by decide +kernel
theorem dX1_take_23 : decode cX1_take 23 = .ok (.iconst 1, 1) := by decide +kernel
theorem dX1_take_24 : decode cX1_take 24 = .ok (.iadd, 1) := by decide +kernel
theorem dX1_take_25 : decode cX1_take 25 = .ok (.putfield 170, 3) := by decide +kernel
theorem dX1_take_28 : decode cX1_take 28 = .ok (.iconst 1, 1) := by decide +kernel
theorem dX1_take_29 : decode cX1_take 29 = .ok (.ireturn, 1) := by decide +kernel
theorem dX1_takeDecimal_0 : decode cX1_takeDecimal 0 = .ok (.iconst 0, 1) := by decide +kernel
theorem dX1_takeDecimal_1 : decode cX1_takeDecimal 1 = .ok (.istore_n 1, 1) := by decide +kernel
theorem dX1_takeDecimal_2 : decode cX1_takeDecimal 2 = .ok (.aload_n 0, 1) := by decide +kernel
theorem dX1_takeDecimal_3 : decode cX1_takeDecimal 3 = .ok (.iconst 0, 1) := by decide +kernel
theorem dX1_takeDecimal_4 : decode cX1_takeDecimal 4 = .ok (.putfield 191, 3) := by decide +kernel
theorem dX1_takeDecimal_7 : decode cX1_takeDecimal 7 = .ok (.iload_n 1, 1) := by decide +kernel
theorem dX1_takeDecimal_8 : decode cX1_takeDecimal 8 = .ok (.iconst 2, 1) := by decide +kernel
theorem dX1_takeDecimal_9 : decode cX1_takeDecimal 9 = .ok (.if_icmp .ge 56, 3) := by decide +kernel
theorem dX1_takeDecimal_12 : decode cX1_takeDecimal 12 = .ok (.aload_n 0, 1) := by decide +kernel
theorem dX1_takeDecimal_13 : decode cX1_takeDecimal 13 = .ok (.invokevirtual 179, 3) := by decide +kernel
theorem dX1_takeDecimal_16 : decode cX1_takeDecimal 16 = .ok (.bipush 48, 2) := by decide +kernel
theorem dX1_takeDecimal_18 : decode cX1_takeDecimal 18 = .ok (.if_icmp .lt 47, 3) := by decide +kernel
theorem dX1_takeDecimal_21 : decode cX1_takeDecimal 21 = .ok (.aload_n 0, 1) := by decide +kernel
theorem dX1_takeDecimal_22 : decode cX1_takeDecimal 22 = .ok (.invokevirtual 179, 3) := by decide +kernel
theorem dX1_takeDecimal_25 : decode cX1_takeDecimal 25 = .ok (.bipush 57, 2) := by decide +kernel
theorem dX1_takeDecimal_27 : decode cX1_takeDecimal 27 = .ok (.if_icmp .gt 38, 3) := by decide +kernel
theorem dX1_takeDecimal_30 : decode cX1_takeDecimal 30 = .ok (.aload_n 0, 1) := by decide +kernel
theorem dX1_takeDecimal_31 : decode cX1_takeDecimal 31 = .ok (.bipush 10, 2) := by decide +kernel
theorem dX1_takeDecimal_33 : decode cX1_takeDecimal 33 = .ok (.aload_n 0, 1) := by decide +kernel
theorem dX1_takeDecimal_34 : decode cX1_takeDecimal 34 = .ok (.getfield 191, 3) := by decide +kernel
theorem dX1_takeDecimal_37 : decode cX1_takeDecimal 37 = .ok (.imul, 1) := by decide +kernel
theorem dX1_takeDecimal_38 : decode cX1_takeDecimal 38 = .ok (.aload_n 0, 1) := by decide +kernel
theorem dX1_takeDecimal_39 : decode cX1_takeDecimal 39 = .ok (.invokevirtual 179, 3) := by decide +kernel
theorem dX1_takeDecimal_42 : decode cX1_takeDecimal 42 = .ok (.iadd, 1) := by decide +kernel
theorem dX1_takeDecimal_43 : decode cX1_takeDecimal 43 = .ok (.bipush 48, 2) := by decide +kernel
theorem dX1_takeDecimal_45 : decode cX1_takeDecimal 45 = .ok (.isub, 1) := by decide +kernel
theorem dX1_takeDecimal_46 : decode cX1_takeDecimal 46 = .ok (.putfield 191, 3) := by decide +kernel
theorem dX1_takeDecimal_49 : decode cX1_takeDecimal 49 = .ok (.iinc 1 1, 3) := by decide +kernel
theorem dX1_takeDecimal_52 : decode cX1_takeDecimal 52 = .ok (.aload_n 0, 1) := by decide +kernel
theorem dX1_takeDecimal_53 : decode cX1_takeDecimal 53 = .ok (.dup, 1) := by decide +kernel
theorem dX1_takeDecimal_54 : decode cX1_takeDecimal 54 = .ok (.getfield 170, 3) := by decide +kernel
theorem dX1_takeDecimal_57 : decode cX1_takeDecimal 57 = .ok (.iconst 1, 1) := by decide +kernel
theorem dX1_takeDecimal_58 : decode cX1_takeDecimal 58 = .ok (.iadd, 1) := by decide +kernel
theorem dX1_takeDecimal_59 : decode cX1_takeDecimal 59 = .ok (.putfield 170, 3) := by decide +kernel
theorem dX1_takeDecimal_62 : decode cX1_takeDecimal 62 = .ok (.goto (-55), 3) := by decide +kernel
theorem dX1_takeDecimal_65 : decode cX1_takeDecimal 65 = .ok (.iload_n 1, 1) := by decide +kernel
theorem dX1_takeDecimal_66 : decode cX1_takeDecimal 66 = .ok (.ifCond .gt 15, 3) := by decide +kernel
theorem dX1_takeDecimal_69 : decode cX1_takeDecimal 69 = .ok (.aload_n 0, 1) := by decide +kernel
theorem dX1_takeDecimal_70 : decode cX1_takeDecimal 70 = .ok (.iconst 1, 1) := by decide +kernel
theorem dX1_takeDecimal_71 : decode cX1_takeDecimal 71 = .ok (.aload_n 0, 1) := by decide +kernel
theorem dX1_takeDecimal_72 : decode cX1_takeDecimal 72 = .ok (.getfield 170, 3) := by decide +kernel
theorem dX1_takeDecimal_75 : decode cX1_takeDecimal 75 = .ok (.invokevirtual 183, 3) := by decide +kernel
theorem dX1_takeDecimal_78 : decode cX1_takeDecimal 78 = .ok (.ifCond .eq 7, 3) := by decide +kernel
theorem dX1_takeDecimal_81 : decode cX1_takeDecimal 81 = .ok (.iconst 1, 1) := by decide +kernel
theorem dX1_takeDecimal_82 : decode cX1_takeDecimal 82 = .ok (.goto 4, 3) := by decide +kernel
theorem dX1_takeDecimal_85 : decode cX1_takeDecimal 85 = .ok (.iconst 0, 1) := by decide +kernel
theorem dX1_takeDecimal_86 : decode cX1_takeDecimal 86 = .ok (.ireturn, 1) := by decide +kernel
theorem dX1_takeHex_0 : decode cX1_takeHex 0 = .ok (.iconst 0, 1) := by decide +kernel
theorem dX1_takeHex_1 : decode cX1_takeHex 1 = .ok (.istore_n 3, 1) := by decide +kernel
theorem dX1_takeHex_2 : decode cX1_takeHex 2 = .ok (.aload_n 0, 1) := by decide +kernel
theorem dX1_takeHex_3 : decode cX1_takeHex 3 = .ok (.iconst 0, 1) := by decide +kernel
theorem dX1_takeHex_4 : decode cX1_takeHex 4 = .ok (.putfield 191, 3) := by decide +kernel
theorem dX1_takeHex_7 : decode cX1_takeHex 7 = .ok (.iload_n 3, 1) := by decide +kernel
theorem dX1_takeHex_8 : decode cX1_takeHex 8 = .ok (.iload_n 2, 1) := by decide +kernel
theorem dX1_takeHex_9 : decode cX1_takeHex 9 = .ok (.if_icmp .ge 49, 3) := by decide +kernel
theorem dX1_takeHex_12 : decode cX1_takeHex 12 = .ok (.aload_n 0, 1) := by decide +kernel
theorem dX1_takeHex_13 : decode cX1_takeHex 13 = .ok (.invokevirtual 179, 3) := by decide +kernel
theorem dX1_takeHex_16 : decode cX1_takeHex 16 = .ok (.invokestatic 194, 3) := by decide +kernel
theorem dX1_takeHex_19 : decode cX1_takeHex 19 = .ok (.iconst (-1), 1) := by decide +kernel
theorem dX1_takeHex_20 : decode cX1_takeHex 20 = .ok (.if_icmp .eq 38, 3) := by decide +kernel
theorem dX1_takeHex_23 : decode cX1_takeHex 23 = .ok (.aload_n 0, 1) := by decide +kernel
theorem dX1_takeHex_24 : decode cX1_takeHex 24 = .ok (.bipush 16, 2) := by decide +kernel
theorem dX1_takeHex_26 : decode cX1_takeHex 26 = .ok (.aload_n 0, 1) := by decide +kernel
theorem dX1_takeHex_27 : decode cX1_takeHex 27 = .ok (.getfield 191, 3) := by decide +kernel
theorem dX1_takeHex_30 : decode cX1_takeHex 30 = .ok (.imul, 1) := by decide +kernel
theorem dX1_takeHex_31 : decode cX1_takeHex 31 = .ok (.aload_n 0, 1) := by decide +kernel
theorem dX1_takeHex_32 : decode cX1_takeHex 32 = .ok (.invokevirtual 179, 3) := by decide +kernel
theorem dX1_takeHex_35 : decode cX1_takeHex 35 = .ok (.invokestatic 194, 3) := by decide +kernel
theorem dX1_takeHex_38 : decode cX1_takeHex 38 = .ok (.iadd, 1) := by decide +kernel
theorem dX1_takeHex_39 : decode cX1_takeHex 39 = .ok (.putfield 191, 3) := by decide +kernel
theorem dX1_takeHex_42 : decode cX1_takeHex 42 = .ok (.iinc 3 1, 3) := by decide +kernel
theorem dX1_takeHex_45 : decode cX1_takeHex 45 = .ok (.aload_n 0, 1) := by decide +kernel
theorem dX1_takeHex_46 : decode cX1_takeHex 46 = .ok (.dup, 1) := by decide +kernel
theorem dX1_takeHex_47 : decode cX1_takeHex 47 = .ok (.getfield 170, 3) := by decide +kernel
theorem dX1_takeHex_50 : decode cX1_takeHex 50 = .ok (.iconst 1, 1) := by decide +kernel
theorem dX1_takeHex_51 : decode cX1_takeHex 51 = .ok (.iadd, 1) := by decide +kernel
theorem dX1_takeHex_52 : decode cX1_takeHex 52 = .ok (.putfield 170, 3) := by decide +kernel
theorem dX1_takeHex_55 : decode cX1_takeHex 55 = .ok (.goto (-48), 3) := by decide +kernel
theorem dX1_takeHex_58 : decode cX1_takeHex 58 = .ok (.iload_n 3, 1) := by decide +kernel
theorem dX1_takeHex_59 : decode cX1_takeHex 59 = .ok (.iload_n 1, 1) := by decide +kernel
theorem dX1_takeHex_60 : decode cX1_takeHex 60 = .ok (.if_icmp .ge 15, 3) := by decide +kernel
theorem dX1_takeHex_63 : decode cX1_takeHex 63 = .ok (.aload_n 0, 1) := by decide +kernel
theorem dX1_takeHex_64 : decode cX1_takeHex 64 = .ok (.iconst 1, 1) := by decide +kernel
theorem dX1_takeHex_65 : decode cX1_takeHex 65 = .ok (.aload_n 0, 1) := by decide +kernel
theorem dX1_takeHex_66 : decode cX1_takeHex 66 = .ok (.getfield 170, 3) := by decide +kernel
theorem dX1_takeHex_69 : decode cX1_takeHex 69 = .ok (.invokevirtual 183, 3) := by decide +kernel
theorem dX1_takeHex_72 : decode cX1_takeHex 72 = .ok (.ifCond .eq 7, 3) := by decide +kernel
theorem dX1_takeHex_75 : decode cX1_takeHex 75 = .ok (.iconst 1, 1) := by decide +kernel
theorem dX1_takeHex_76 : decode cX1_takeHex 76 = .ok (.goto 4, 3) := by decide +kernel
theorem dX1_takeHex_79 : decode cX1_takeHex 79 = .ok (.iconst 0, 1) := by decide +kernel
theorem dX1_takeHex_80 : decode cX1_takeHex 80 = .ok (.ireturn, 1) := by decide +kernel
theorem dX1_takeName_0 : decode cX1_takeName 0 = .ok (.aload_n 0, 1) := by decide +kernel
theorem dX1_takeName_1 : decode cX1_takeName 1 = .ok (.invokevirtual 179, 3) := by decide +kernel
theorem dX1_takeName_4 : decode cX1_takeName 4 = .ok (.invokestatic 187, 3) := by decide +kernel
theorem dX1_takeName_7 : decode cX1_takeName 7 = .ok (.ifCond .ne 13, 3) := by decide +kernel
theorem dX1_takeName_10 : decode cX1_takeName 10 = .ok (.aload_n 0, 1) := by decide +kernel
theorem dX1_takeName_11 : decode cX1_takeName 11 = .ok (.iconst 1, 1) := by decide +kernel
theorem dX1_takeName_12 : decode cX1_takeName 12 = .ok (.aload_n 0, 1) := by decide +kernel
theorem dX1_takeName_13 : decode cX1_takeName 13 = .ok (.getfield 170, 3) := by decide +kernel
theorem dX1_takeName_16 : decode cX1_takeName 16 = .ok (.invokevirtual 183, 3) := by decide +kernel
theorem dX1_takeName_19 : decode cX1_takeName 19 = .ok (.ireturn, 1) := by decide +kernel
theorem dX1_takeName_20 : decode cX1_takeName 20 = .ok (.aload_n 0, 1) := by decide +kernel
theorem dX1_takeName_21 : decode cX1_takeName 21 = .ok (.dup, 1) := by decide +kernel
theorem dX1_takeName_22 : decode cX1_takeName 22 = .ok (.getfield 170, 3) := by decide +kernel
theorem dX1_takeName_25 : decode cX1_takeName 25 = .ok (.iconst 1, 1) := by decide +kernel
theorem dX1_takeName_26 : decode cX1_takeName 26 = .ok (.iadd, 1) := by decide +kernel
theorem dX1_takeName_27 : decode cX1_takeName 27 = .ok (.putfield 170, 3) := by decide +kernel
theorem dX1_takeName_30 : decode cX1_takeName 30 = .ok (.iconst 1, 1) := by decide +kernel
theorem dX1_takeName_31 : decode cX1_takeName 31 = .ok (.ireturn, 1) := by decide +kernel
theorem dX1_trace_III_0 : decode cX1_trace_III 0 = .ok (.aload_n 0, 1) := by decide +kernel
theorem dX1_trace_III_1 : decode cX1_trace_III 1 = .ok (.iconst 0, 1) := by decide +kernel
theorem dX1_trace_III_2 : decode cX1_trace_III 2 = .ok (.putfield 161, 3) := by decide +kernel
theorem dX1_trace_III_5 : decode cX1_trace_III 5 = .ok (.iload_n 1, 1) := by decide +kernel
