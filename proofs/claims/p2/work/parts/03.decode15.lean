theorem dX12_run_156 : decode cX12_run 156 = .ok (.goto (-128), 3) := by decide +kernel
theorem dX12_run_159 : decode cX12_run 159 = .ok (.iload_n 2, 1) := by decide +kernel
theorem dX12_run_160 : decode cX12_run 160 = .ok (.aload_n 0, 1) := by decide +kernel
theorem dX12_run_161 : decode cX12_run 161 = .ok (.getfield 267, 3) := by decide +kernel
theorem dX12_run_164 : decode cX12_run 164 = .ok (.if_icmp .lt 7, 3) := by decide +kernel
theorem dX12_run_167 : decode cX12_run 167 = .ok (.iconst 0, 1) := by decide +kernel
theorem dX12_run_168 : decode cX12_run 168 = .ok (.goto 5, 3) := by decide +kernel
theorem dX12_run_171 : decode cX12_run 171 = .ok (.bipush (-2), 2) := by decide +kernel
theorem dX12_run_173 : decode cX12_run 173 = .ok (.ireturn, 1) := by decide +kernel
theorem dX12_stand_0 : decode cX12_stand 0 = .ok (.iconst 0, 1) := by decide +kernel
theorem dX12_stand_1 : decode cX12_stand 1 = .ok (.istore_n 2, 1) := by decide +kernel
theorem dX12_stand_2 : decode cX12_stand 2 = .ok (.iload_n 2, 1) := by decide +kernel
theorem dX12_stand_3 : decode cX12_stand 3 = .ok (.bipush 26, 2) := by decide +kernel
theorem dX12_stand_5 : decode cX12_stand 5 = .ok (.if_icmp .ge 26, 3) := by decide +kernel
theorem dX12_stand_8 : decode cX12_stand 8 = .ok (.aload_n 0, 1) := by decide +kernel
theorem dX12_stand_9 : decode cX12_stand 9 = .ok (.getfield 107, 3) := by decide +kernel
theorem dX12_stand_12 : decode cX12_stand 12 = .ok (.iload_n 2, 1) := by decide +kernel
theorem dX12_stand_13 : decode cX12_stand 13 = .ok (.aload_n 0, 1) := by decide +kernel
theorem dX12_stand_14 : decode cX12_stand 14 = .ok (.getfield 146, 3) := by decide +kernel
theorem dX12_stand_17 : decode cX12_stand 17 = .ok (.bipush 26, 2) := by decide +kernel
theorem dX12_stand_19 : decode cX12_stand 19 = .ok (.iload_n 1, 1) := by decide +kernel
theorem dX12_stand_20 : decode cX12_stand 20 = .ok (.imul, 1) := by decide +kernel
theorem dX12_stand_21 : decode cX12_stand 21 = .ok (.iload_n 2, 1) := by decide +kernel
theorem dX12_stand_22 : decode cX12_stand 22 = .ok (.iadd, 1) := by decide +kernel
theorem dX12_stand_23 : decode cX12_stand 23 = .ok (.iaload, 1) := by decide +kernel
theorem dX12_stand_24 : decode cX12_stand 24 = .ok (.iastore, 1) := by decide +kernel
theorem dX12_stand_25 : decode cX12_stand 25 = .ok (.iinc 2 1, 3) := by decide +kernel
theorem dX12_stand_28 : decode cX12_stand 28 = .ok (.goto (-26), 3) := by decide +kernel
theorem dX12_stand_31 : decode cX12_stand 31 = .ok (.iconst 0, 1) := by decide +kernel
theorem dX12_stand_32 : decode cX12_stand 32 = .ok (.istore_n 2, 1) := by decide +kernel
theorem dX12_stand_33 : decode cX12_stand 33 = .ok (.iload_n 2, 1) := by decide +kernel
theorem dX12_stand_34 : decode cX12_stand 34 = .ok (.aload_n 0, 1) := by decide +kernel
theorem dX12_stand_35 : decode cX12_stand 35 = .ok (.getfield 264, 3) := by decide +kernel
theorem dX12_stand_38 : decode cX12_stand 38 = .ok (.if_icmp .ge 34, 3) := by decide +kernel
theorem dX12_stand_41 : decode cX12_stand 41 = .ok (.aload_n 0, 1) := by decide +kernel
theorem dX12_stand_42 : decode cX12_stand 42 = .ok (.getfield 116, 3) := by decide +kernel
theorem dX12_stand_45 : decode cX12_stand 45 = .ok (.iload_n 2, 1) := by decide +kernel
theorem dX12_stand_46 : decode cX12_stand 46 = .ok (.aload_n 0, 1) := by decide +kernel
theorem dX12_stand_47 : decode cX12_stand 47 = .ok (.getfield 149, 3) := by decide +kernel
theorem dX12_stand_50 : decode cX12_stand 50 = .ok (.iload_n 1, 1) := by decide +kernel
theorem dX12_stand_51 : decode cX12_stand 51 = .ok (.iaload, 1) := by decide +kernel
theorem dX12_stand_52 : decode cX12_stand 52 = .ok (.iload_n 2, 1) := by decide +kernel
theorem dX12_stand_53 : decode cX12_stand 53 = .ok (.ishr, 1) := by decide +kernel
theorem dX12_stand_54 : decode cX12_stand 54 = .ok (.iconst 1, 1) := by decide +kernel
theorem dX12_stand_55 : decode cX12_stand 55 = .ok (.iand, 1) := by decide +kernel
theorem dX12_stand_56 : decode cX12_stand 56 = .ok (.iconst 1, 1) := by decide +kernel
theorem dX12_stand_57 : decode cX12_stand 57 = .ok (.if_icmp .ne 7, 3) := by decide +kernel
theorem dX12_stand_60 : decode cX12_stand 60 = .ok (.iconst 1, 1) := by decide +kernel
theorem dX12_stand_61 : decode cX12_stand 61 = .ok (.goto 4, 3) := by decide +kernel
theorem dX12_stand_64 : decode cX12_stand 64 = .ok (.iconst 0, 1) := by decide +kernel
theorem dX12_stand_65 : decode cX12_stand 65 = .ok (.bastore, 1) := by decide +kernel
theorem dX12_stand_66 : decode cX12_stand 66 = .ok (.iinc 2 1, 3) := by decide +kernel
theorem dX12_stand_69 : decode cX12_stand 69 = .ok (.goto (-36), 3) := by decide +kernel
theorem dX12_stand_72 : decode cX12_stand 72 = .ok (.return_, 1) := by decide +kernel
theorem dX12_state_0 : decode cX12_state 0 = .ok (.aload_n 0, 1) := by decide +kernel
theorem dX12_state_1 : decode cX12_state 1 = .ok (.iconst 0, 1) := by decide +kernel
theorem dX12_state_2 : decode cX12_state 2 = .ok (.putfield 161, 3) := by decide +kernel
theorem dX12_state_5 : decode cX12_state 5 = .ok (.iload_n 1, 1) := by decide +kernel
theorem dX12_state_6 : decode cX12_state 6 = .ok (.ifCond .ne 10, 3) := by decide +kernel
theorem dX12_state_9 : decode cX12_state 9 = .ok (.aload_n 0, 1) := by decide +kernel
theorem dX12_state_10 : decode cX12_state 10 = .ok (.getfield 282, 3) := by decide +kernel
theorem dX12_state_13 : decode cX12_state 13 = .ok (.goto 52, 3) := by decide +kernel
theorem dX12_state_16 : decode cX12_state 16 = .ok (.iload_n 1, 1) := by decide +kernel
theorem dX12_state_17 : decode cX12_state 17 = .ok (.iconst 1, 1) := by decide +kernel
theorem dX12_state_18 : decode cX12_state 18 = .ok (.if_icmp .ne 10, 3) := by decide +kernel
theorem dX12_state_21 : decode cX12_state 21 = .ok (.aload_n 0, 1) := by decide +kernel
theorem dX12_state_22 : decode cX12_state 22 = .ok (.getfield 285, 3) := by decide +kernel
theorem dX12_state_25 : decode cX12_state 25 = .ok (.goto 40, 3) := by decide +kernel
theorem dX12_state_28 : decode cX12_state 28 = .ok (.iload_n 1, 1) := by decide +kernel
theorem dX12_state_29 : decode cX12_state 29 = .ok (.iconst 2, 1) := by decide +kernel
theorem dX12_state_30 : decode cX12_state 30 = .ok (.if_icmp .ne 10, 3) := by decide +kernel
theorem dX12_state_33 : decode cX12_state 33 = .ok (.aload_n 0, 1) := by decide +kernel
theorem dX12_state_34 : decode cX12_state 34 = .ok (.getfield 288, 3) := by decide +kernel
theorem dX12_state_37 : decode cX12_state 37 = .ok (.goto 28, 3) := by decide +kernel
theorem dX12_state_40 : decode cX12_state 40 = .ok (.iload_n 1, 1) := by decide +kernel
theorem dX12_state_41 : decode cX12_state 41 = .ok (.iconst 3, 1) := by decide +kernel
theorem dX12_state_42 : decode cX12_state 42 = .ok (.if_icmp .ne 10, 3) := by decide +kernel
theorem dX12_state_45 : decode cX12_state 45 = .ok (.aload_n 0, 1) := by decide +kernel
theorem dX12_state_46 : decode cX12_state 46 = .ok (.getfield 267, 3) := by decide +kernel
theorem dX12_state_49 : decode cX12_state 49 = .ok (.goto 16, 3) := by decide +kernel
theorem dX12_state_52 : decode cX12_state 52 = .ok (.iload_n 1, 1) := by decide +kernel
theorem dX12_state_53 : decode cX12_state 53 = .ok (.iconst 4, 1) := by decide +kernel
theorem dX12_state_54 : decode cX12_state 54 = .ok (.if_icmp .ne 10, 3) := by decide +kernel
theorem dX12_state_57 : decode cX12_state 57 = .ok (.aload_n 0, 1) := by decide +kernel
theorem dX12_state_58 : decode cX12_state 58 = .ok (.getfield 264, 3) := by decide +kernel
theorem dX12_state_61 : decode cX12_state 61 = .ok (.goto 4, 3) := by decide +kernel
theorem dX12_state_64 : decode cX12_state 64 = .ok (.iconst (-1), 1) := by decide +kernel
theorem dX12_state_65 : decode cX12_state 65 = .ok (.ireturn, 1) := by decide +kernel
theorem dX12_step_0 : decode cX12_step 0 = .ok (.aload_n 0, 1) := by decide +kernel
theorem dX12_step_1 : decode cX12_step 1 = .ok (.iconst 0, 1) := by decide +kernel
theorem dX12_step_2 : decode cX12_step 2 = .ok (.putfield 161, 3) := by decide +kernel
theorem dX12_step_5 : decode cX12_step 5 = .ok (.aload_n 0, 1) := by decide +kernel
theorem dX12_step_6 : decode cX12_step 6 = .ok (.getfield 257, 3) := by decide +kernel
theorem dX12_step_9 : decode cX12_step 9 = .ok (.ifCond .eq 62, 3) := by decide +kernel
theorem dX12_step_12 : decode cX12_step 12 = .ok (.aload_n 0, 1) := by decide +kernel
theorem dX12_step_13 : decode cX12_step 13 = .ok (.getfield 267, 3) := by decide +kernel
theorem dX12_step_16 : decode cX12_step 16 = .ok (.bipush 40, 2) := by decide +kernel
theorem dX12_step_18 : decode cX12_step 18 = .ok (.if_icmp .eq 53, 3) := by decide +kernel
theorem dX12_step_21 : decode cX12_step 21 = .ok (.iload_n 1, 1) := by decide +kernel
theorem dX12_step_22 : decode cX12_step 22 = .ok (.ifCond .lt 49, 3) := by decide +kernel
theorem dX12_step_25 : decode cX12_step 25 = .ok (.iload_n 1, 1) := by decide +kernel
theorem dX12_step_26 : decode cX12_step 26 = .ok (.iconst 3, 1) := by decide +kernel
theorem dX12_step_27 : decode cX12_step 27 = .ok (.if_icmp .gt 44, 3) := by decide +kernel
theorem dX12_step_30 : decode cX12_step 30 = .ok (.iload_n 1, 1) := by decide +kernel
theorem dX12_step_31 : decode cX12_step 31 = .ok (.ifCond .ne 12, 3) := by decide +kernel
theorem dX12_step_34 : decode cX12_step 34 = .ok (.aload_n 0, 1) := by decide +kernel
theorem dX12_step_35 : decode cX12_step 35 = .ok (.iload_n 2, 1) := by decide +kernel
theorem dX12_step_36 : decode cX12_step 36 = .ok (.iload_n 3, 1) := by decide +kernel
theorem dX12_step_37 : decode cX12_step 37 = .ok (.invokevirtual 366, 3) := by decide +kernel
theorem dX12_step_40 : decode cX12_step 40 = .ok (.ifCond .eq 31, 3) := by decide +kernel
theorem dX12_step_43 : decode cX12_step 43 = .ok (.iload_n 1, 1) := by decide +kernel
theorem dX12_step_44 : decode cX12_step 44 = .ok (.iconst 1, 1) := by decide +kernel
theorem dX12_step_45 : decode cX12_step 45 = .ok (.if_icmp .ne 11, 3) := by decide +kernel
theorem dX12_step_48 : decode cX12_step 48 = .ok (.aload_n 0, 1) := by decide +kernel
theorem dX12_step_49 : decode cX12_step 49 = .ok (.iload_n 2, 1) := by decide +kernel
theorem dX12_step_50 : decode cX12_step 50 = .ok (.invokevirtual 378, 3) := by decide +kernel
theorem dX12_step_53 : decode cX12_step 53 = .ok (.ifCond .eq 18, 3) := by decide +kernel
theorem dX12_step_56 : decode cX12_step 56 = .ok (.iload_n 1, 1) := by decide +kernel
theorem dX12_step_57 : decode cX12_step 57 = .ok (.iconst 2, 1) := by decide +kernel
theorem dX12_step_58 : decode cX12_step 58 = .ok (.if_icmp .ne 15, 3) := by decide +kernel
theorem dX12_step_61 : decode cX12_step 61 = .ok (.iload_n 3, 1) := by decide +kernel
theorem dX12_step_62 : decode cX12_step 62 = .ok (.ifCond .lt 9, 3) := by decide +kernel
theorem dX12_step_65 : decode cX12_step 65 = .ok (.iload_n 3, 1) := by decide +kernel
theorem dX12_step_66 : decode cX12_step 66 = .ok (.bipush 40, 2) := by decide +kernel
theorem dX12_step_68 : decode cX12_step 68 = .ok (.if_icmp .le 5, 3) := by decide +kernel
theorem dX12_step_71 : decode cX12_step 71 = .ok (.iconst (-1), 1) := by decide +kernel
theorem dX12_step_72 : decode cX12_step 72 = .ok (.ireturn, 1) := by decide +kernel
theorem dX12_step_73 : decode cX12_step 73 = .ok (.aload_n 0, 1) := by decide +kernel
theorem dX12_step_74 : decode cX12_step 74 = .ok (.getfield 134, 3) := by decide +kernel
theorem dX12_step_77 : decode cX12_step 77 = .ok (.aload_n 0, 1) := by decide +kernel
theorem dX12_step_78 : decode cX12_step 78 = .ok (.getfield 267, 3) := by decide +kernel
theorem dX12_step_81 : decode cX12_step 81 = .ok (.iload_n 1, 1) := by decide +kernel
theorem dX12_step_82 : decode cX12_step 82 = .ok (.iastore, 1) := by decide +kernel
theorem dX12_step_83 : decode cX12_step 83 = .ok (.aload_n 0, 1) := by decide +kernel
theorem dX12_step_84 : decode cX12_step 84 = .ok (.getfield 137, 3) := by decide +kernel
theorem dX12_step_87 : decode cX12_step 87 = .ok (.aload_n 0, 1) := by decide +kernel
theorem dX12_step_88 : decode cX12_step 88 = .ok (.getfield 267, 3) := by decide +kernel
theorem dX12_step_91 : decode cX12_step 91 = .ok (.iload_n 2, 1) := by decide +kernel
theorem dX12_step_92 : decode cX12_step 92 = .ok (.iastore, 1) := by decide +kernel
theorem dX12_step_93 : decode cX12_step 93 = .ok (.aload_n 0, 1) := by decide +kernel
theorem dX12_step_94 : decode cX12_step 94 = .ok (.getfield 140, 3) := by decide +kernel
theorem dX12_step_97 : decode cX12_step 97 = .ok (.aload_n 0, 1) := by decide +kernel
theorem dX12_step_98 : decode cX12_step 98 = .ok (.getfield 267, 3) := by decide +kernel
theorem dX12_step_101 : decode cX12_step 101 = .ok (.iload_n 3, 1) := by decide +kernel
theorem dX12_step_102 : decode cX12_step 102 = .ok (.iastore, 1) := by decide +kernel
theorem dX12_step_103 : decode cX12_step 103 = .ok (.aload_n 0, 1) := by decide +kernel
theorem dX12_step_104 : decode cX12_step 104 = .ok (.dup, 1) := by decide +kernel
theorem dX12_step_105 : decode cX12_step 105 = .ok (.getfield 267, 3) := by decide +kernel
theorem dX12_step_108 : decode cX12_step 108 = .ok (.iconst 1, 1) := by decide +kernel
theorem dX12_step_109 : decode cX12_step 109 = .ok (.iadd, 1) := by decide +kernel
theorem dX12_step_110 : decode cX12_step 110 = .ok (.putfield 267, 3) := by decide +kernel
theorem dX12_step_113 : decode cX12_step 113 = .ok (.aload_n 0, 1) := by decide +kernel
theorem dX12_step_114 : decode cX12_step 114 = .ok (.getfield 267, 3) := by decide +kernel
theorem dX12_step_117 : decode cX12_step 117 = .ok (.iconst 1, 1) := by decide +kernel
theorem dX12_step_118 : decode cX12_step 118 = .ok (.isub, 1) := by decide +kernel
theorem dX12_step_119 : decode cX12_step 119 = .ok (.ireturn, 1) := by decide +kernel
theorem dX12_still_0 : decode cX12_still 0 = .ok (.iconst 0, 1) := by decide +kernel
theorem dX12_still_1 : decode cX12_still 1 = .ok (.istore_n 2, 1) := by decide +kernel
theorem dX12_still_2 : decode cX12_still 2 = .ok (.iconst 0, 1) := by decide +kernel
theorem dX12_still_3 : decode cX12_still 3 = .ok (.istore_n 3, 1) := by decide +kernel
theorem dX12_still_4 : decode cX12_still 4 = .ok (.iload_n 3, 1) := by decide +kernel
theorem dX12_still_5 : decode cX12_still 5 = .ok (.bipush 26, 2) := by decide +kernel
theorem dX12_still_7 : decode cX12_still 7 = .ok (.if_icmp .ge 46, 3) := by decide +kernel
theorem dX12_still_10 : decode cX12_still 10 = .ok (.iload_n 2, 1) := by decide +kernel
theorem dX12_still_11 : decode cX12_still 11 = .ok (.aload_n 0, 1) := by decide +kernel
theorem dX12_still_12 : decode cX12_still 12 = .ok (.iload_n 3, 1) := by decide +kernel
theorem dX12_still_13 : decode cX12_still 13 = .ok (.iload_n 1, 1) := by decide +kernel
theorem dX12_still_14 : decode cX12_still 14 = .ok (.invokevirtual 291, 3) := by decide +kernel
theorem dX12_still_17 : decode cX12_still 17 = .ok (.ifCond .eq 27, 3) := by decide +kernel
theorem dX12_still_20 : decode cX12_still 20 = .ok (.aload_n 0, 1) := by decide +kernel
theorem dX12_still_21 : decode cX12_still 21 = .ok (.iload_n 3, 1) := by decide +kernel
theorem dX12_still_22 : decode cX12_still 22 = .ok (.invokevirtual 297, 3) := by decide +kernel
theorem dX12_still_25 : decode cX12_still 25 = .ok (.ifCond .eq 19, 3) := by decide +kernel
theorem dX12_still_28 : decode cX12_still 28 = .ok (.aload_n 0, 1) := by decide +kernel
theorem dX12_still_29 : decode cX12_still 29 = .ok (.getfield 107, 3) := by decide +kernel
theorem dX12_still_32 : decode cX12_still 32 = .ok (.iload_n 3, 1) := by decide +kernel
theorem dX12_still_33 : decode cX12_still 33 = .ok (.iaload, 1) := by decide +kernel
theorem dX12_still_34 : decode cX12_still 34 = .ok (.aload_n 0, 1) := by decide +kernel
theorem dX12_still_35 : decode cX12_still 35 = .ok (.getfield 86, 3) := by decide +kernel
theorem dX12_still_38 : decode cX12_still 38 = .ok (.iload_n 3, 1) := by decide +kernel
theorem dX12_still_39 : decode cX12_still 39 = .ok (.iaload, 1) := by decide +kernel
theorem dX12_still_40 : decode cX12_still 40 = .ok (.ishl, 1) := by decide +kernel
theorem dX12_still_41 : decode cX12_still 41 = .ok (.goto 4, 3) := by decide +kernel
theorem dX12_still_44 : decode cX12_still 44 = .ok (.iconst 0, 1) := by decide +kernel
theorem dX12_still_45 : decode cX12_still 45 = .ok (.ior, 1) := by decide +kernel
theorem dX12_still_46 : decode cX12_still 46 = .ok (.istore_n 2, 1) := by decide +kernel
theorem dX12_still_47 : decode cX12_still 47 = .ok (.iinc 3 1, 3) := by decide +kernel
theorem dX12_still_50 : decode cX12_still 50 = .ok (.goto (-46), 3) := by decide +kernel
theorem dX12_still_53 : decode cX12_still 53 = .ok (.iload_n 2, 1) := by decide +kernel
theorem dX12_still_54 : decode cX12_still 54 = .ok (.ireturn, 1) := by decide +kernel
theorem dX12_take_0 : decode cX12_take 0 = .ok (.aload_n 0, 1) := by decide +kernel
theorem dX12_take_1 : decode cX12_take 1 = .ok (.invokevirtual 179, 3) := by decide +kernel
theorem dX12_take_4 : decode cX12_take 4 = .ok (.iload_n 1, 1) := by decide +kernel
theorem dX12_take_5 : decode cX12_take 5 = .ok (.if_icmp .eq 13, 3) := by decide +kernel
theorem dX12_take_8 : decode cX12_take 8 = .ok (.aload_n 0, 1) := by decide +kernel
theorem dX12_take_9 : decode cX12_take 9 = .ok (.iconst 1, 1) := by decide +kernel
theorem dX12_take_10 : decode cX12_take 10 = .ok (.aload_n 0, 1) := by decide +kernel
theorem dX12_take_11 : decode cX12_take 11 = .ok (.getfield 170, 3) := by decide +kernel
theorem dX12_take_14 : decode cX12_take 14 = .ok (.invokevirtual 183, 3) := by decide +kernel
theorem dX12_take_17 : decode cX12_take 17 = .ok (.ireturn, 1) := by decide +kernel
theorem dX12_take_18 : decode cX12_take 18 = .ok (.aload_n 0, 1) := by decide +kernel
theorem dX12_take_19 : decode cX12_take 19 = .ok (.dup, 1) := by decide +kernel
theorem dX12_take_20 : decode cX12_take 20 = .ok (.getfield 170, 3) := by decide +kernel
theorem dX12_take_23 : decode cX12_take 23 = .ok (.iconst 1, 1) := by decide +kernel
theorem dX12_take_24 : decode cX12_take 24 = .ok (.iadd, 1) := by decide +kernel
theorem dX12_take_25 : decode cX12_take 25 = .ok (.putfield 170, 3) := by decide +kernel
theorem dX12_take_28 : decode cX12_take 28 = .ok (.iconst 1, 1) := by decide +kernel
theorem dX12_take_29 : decode cX12_take 29 = .ok (.ireturn, 1) := by decide +kernel
theorem dX12_takeDecimal_0 : decode cX12_takeDecimal 0 = .ok (.iconst 0, 1) := by decide +kernel
theorem dX12_takeDecimal_1 : decode cX12_takeDecimal 1 = .ok (.istore_n 1, 1) := by decide +kernel
theorem dX12_takeDecimal_2 : decode cX12_takeDecimal 2 = .ok (.aload_n 0, 1) := by decide +kernel
theorem dX12_takeDecimal_3 : decode cX12_takeDecimal 3 = .ok (.iconst 0, 1) := by decide +kernel
theorem dX12_takeDecimal_4 : decode cX12_takeDecimal 4 = .ok (.putfield 191, 3) := by decide +kernel
theorem dX12_takeDecimal_7 : decode cX12_takeDecimal 7 = .ok (.iload_n 1, 1) := by decide +kernel
theorem dX12_takeDecimal_8 : decode cX12_takeDecimal 8 = .ok (.iconst 2, 1) := by decide +kernel
theorem dX12_takeDecimal_9 : decode cX12_takeDecimal 9 = .ok (.if_icmp .ge 56, 3) := by decide +kernel
theorem dX12_takeDecimal_12 : decode cX12_takeDecimal 12 = .ok (.aload_n 0, 1) := by decide +kernel
theorem dX12_takeDecimal_13 : decode cX12_takeDecimal 13 = .ok (.invokevirtual 179, 3) := by decide +kernel
theorem dX12_takeDecimal_16 : decode cX12_takeDecimal 16 = .ok (.bipush 48, 2) := by decide +kernel
theorem dX12_takeDecimal_18 : decode cX12_takeDecimal 18 = .ok (.if_icmp .lt 47, 3) := by decide +kernel
theorem dX12_takeDecimal_21 : decode cX12_takeDecimal 21 = .ok (.aload_n 0, 1) := by decide +kernel
theorem dX12_takeDecimal_22 : decode cX12_takeDecimal 22 = .ok (.invokevirtual 179, 3) := by decide +kernel
theorem dX12_takeDecimal_25 : decode cX12_takeDecimal 25 = .ok (.bipush 57, 2) := by decide +kernel
theorem dX12_takeDecimal_27 : decode cX12_takeDecimal 27 = .ok (.if_icmp .gt 38, 3) := by decide +kernel
theorem dX12_takeDecimal_30 : decode cX12_takeDecimal 30 = .ok (.aload_n 0, 1) := by decide +kernel
theorem dX12_takeDecimal_31 : decode cX12_takeDecimal 31 = .ok (.bipush 10, 2) := by decide +kernel
theorem dX12_takeDecimal_33 : decode cX12_takeDecimal 33 = .ok (.aload_n 0, 1) := by decide +kernel
theorem dX12_takeDecimal_34 : decode cX12_takeDecimal 34 = .ok (.getfield 191, 3) := by decide +kernel
theorem dX12_takeDecimal_37 : decode cX12_takeDecimal 37 = .ok (.imul, 1) := by decide +kernel
theorem dX12_takeDecimal_38 : decode cX12_takeDecimal 38 = .ok (.aload_n 0, 1) := by decide +kernel
theorem dX12_takeDecimal_39 : decode cX12_takeDecimal 39 = .ok (.invokevirtual 179, 3) := by decide +kernel
theorem dX12_takeDecimal_42 : decode cX12_takeDecimal 42 = .ok (.iadd, 1) := by decide +kernel
theorem dX12_takeDecimal_43 : decode cX12_takeDecimal 43 = .ok (.bipush 48, 2) := by decide +kernel
theorem dX12_takeDecimal_45 : decode cX12_takeDecimal 45 = .ok (.isub, 1) := by decide +kernel
theorem dX12_takeDecimal_46 : decode cX12_takeDecimal 46 = .ok (.putfield 191, 3) := by decide +kernel
theorem dX12_takeDecimal_49 : decode cX12_takeDecimal 49 = .ok (.iinc 1 1, 3) := by decide +kernel
theorem dX12_takeDecimal_52 : decode cX12_takeDecimal 52 = .ok (.aload_n 0, 1) := by decide +kernel
theorem dX12_takeDecimal_53 : decode cX12_takeDecimal 53 = .ok (.dup, 1) := by decide +kernel
theorem dX12_takeDecimal_54 : decode cX12_takeDecimal 54 = .ok (.getfield 170, 3) := by decide +kernel
theorem dX12_takeDecimal_57 : decode cX12_takeDecimal 57 = .ok (.iconst 1, 1) := by decide +kernel
theorem dX12_takeDecimal_58 : decode cX12_takeDecimal 58 = .ok (.iadd, 1) := by decide +kernel
theorem dX12_takeDecimal_59 : decode cX12_takeDecimal 59 = .ok (.putfield 170, 3) := by decide +kernel
theorem dX12_takeDecimal_62 : decode cX12_takeDecimal 62 = .ok (.goto (-55), 3) := by decide +kernel
theorem dX12_takeDecimal_65 : decode cX12_takeDecimal 65 = .ok (.iload_n 1, 1) := by decide +kernel
theorem dX12_takeDecimal_66 : decode cX12_takeDecimal 66 = .ok (.ifCond .gt 15, 3) := by decide +kernel
theorem dX12_takeDecimal_69 : decode cX12_takeDecimal 69 = .ok (.aload_n 0, 1) := by decide +kernel
theorem dX12_takeDecimal_70 : decode cX12_takeDecimal 70 = .ok (.iconst 1, 1) := by decide +kernel
theorem dX12_takeDecimal_71 : decode cX12_takeDecimal 71 = .ok (.aload_n 0, 1) := by decide +kernel
theorem dX12_takeDecimal_72 : decode cX12_takeDecimal 72 = .ok (.getfield 170, 3) := by decide +kernel
theorem dX12_takeDecimal_75 : decode cX12_takeDecimal 75 = .ok (.invokevirtual 183, 3) := by decide +kernel
theorem dX12_takeDecimal_78 : decode cX12_takeDecimal 78 = .ok (.ifCond .eq 7, 3) := by decide +kernel
theorem dX12_takeDecimal_81 : decode cX12_takeDecimal 81 = .ok (.iconst 1, 1) := by decide +kernel
theorem dX12_takeDecimal_82 : decode cX12_takeDecimal 82 = .ok (.goto 4, 3) := by decide +kernel
theorem dX12_takeDecimal_85 : decode cX12_takeDecimal 85 = .ok (.iconst 0, 1) := by decide +kernel
theorem dX12_takeDecimal_86 : decode cX12_takeDecimal 86 = .ok (.ireturn, 1) := by decide +kernel
theorem dX12_takeHex_0 : decode cX12_takeHex 0 = .ok (.iconst 0, 1) := by decide +kernel
theorem dX12_takeHex_1 : decode cX12_takeHex 1 = .ok (.istore_n 3, 1) := by decide +kernel
theorem dX12_takeHex_2 : decode cX12_takeHex 2 = .ok (.aload_n 0, 1) := by decide +kernel
theorem dX12_takeHex_3 : decode cX12_takeHex 3 = .ok (.iconst 0, 1) := by decide +kernel
theorem dX12_takeHex_4 : decode cX12_takeHex 4 = .ok (.putfield 191, 3) := by decide +kernel
