theorem dX0_run_59 : decode cX0_run 59 = .ok (.ireturn, 1) := by decide +kernel
theorem dX0_run_60 : decode cX0_run 60 = .ok (.aload_n 0, 1) := by decide +kernel
theorem dX0_run_61 : decode cX0_run 61 = .ok (.getfield 64, 3) := by decide +kernel
theorem dX0_run_64 : decode cX0_run 64 = .ok (.getfield 261, 3) := by decide +kernel
theorem dX0_run_67 : decode cX0_run 67 = .ok (.iload_n 2, 1) := by decide +kernel
theorem dX0_run_68 : decode cX0_run 68 = .ok (.iaload, 1) := by decide +kernel
theorem dX0_run_69 : decode cX0_run 69 = .ok (.iconst 2, 1) := by decide +kernel
theorem dX0_run_70 : decode cX0_run 70 = .ok (.if_icmp .ne 49, 3) := by decide +kernel
theorem dX0_run_73 : decode cX0_run 73 = .ok (.iload_n 1, 1) := by decide +kernel
theorem dX0_run_74 : decode cX0_run 74 = .ok (.iload_n 3, 1) := by decide +kernel
theorem dX0_run_75 : decode cX0_run 75 = .ok (.bipush 31, 2) := by decide +kernel
theorem dX0_run_77 : decode cX0_run 77 = .ok (.iand, 1) := by decide +kernel
theorem dX0_run_78 : decode cX0_run 78 = .ok (.iushr, 1) := by decide +kernel
theorem dX0_run_79 : decode cX0_run 79 = .ok (.iconst 1, 1) := by decide +kernel
theorem dX0_run_80 : decode cX0_run 80 = .ok (.iand, 1) := by decide +kernel
theorem dX0_run_81 : decode cX0_run 81 = .ok (.iconst 1, 1) := by decide +kernel
theorem dX0_run_82 : decode cX0_run 82 = .ok (.if_icmp .ne 7, 3) := by decide +kernel
theorem dX0_run_85 : decode cX0_run 85 = .ok (.iconst 1, 1) := by decide +kernel
theorem dX0_run_86 : decode cX0_run 86 = .ok (.goto 4, 3) := by decide +kernel
theorem dX0_run_89 : decode cX0_run 89 = .ok (.iconst 0, 1) := by decide +kernel
theorem dX0_run_90 : decode cX0_run 90 = .ok (.istore 5, 2) := by decide +kernel
theorem dX0_run_92 : decode cX0_run 92 = .ok (.iinc 3 1, 3) := by decide +kernel
theorem dX0_run_95 : decode cX0_run 95 = .ok (.iload 5, 2) := by decide +kernel
theorem dX0_run_97 : decode cX0_run 97 = .ok (.ifCond .eq 15, 3) := by decide +kernel
theorem dX0_run_100 : decode cX0_run 100 = .ok (.aload_n 0, 1) := by decide +kernel
theorem dX0_run_101 : decode cX0_run 101 = .ok (.getfield 64, 3) := by decide +kernel
theorem dX0_run_104 : decode cX0_run 104 = .ok (.getfield 263, 3) := by decide +kernel
theorem dX0_run_107 : decode cX0_run 107 = .ok (.iload_n 2, 1) := by decide +kernel
theorem dX0_run_108 : decode cX0_run 108 = .ok (.iaload, 1) := by decide +kernel
theorem dX0_run_109 : decode cX0_run 109 = .ok (.goto 6, 3) := by decide +kernel
theorem dX0_run_112 : decode cX0_run 112 = .ok (.iload_n 2, 1) := by decide +kernel
theorem dX0_run_113 : decode cX0_run 113 = .ok (.iconst 1, 1) := by decide +kernel
theorem dX0_run_114 : decode cX0_run 114 = .ok (.iadd, 1) := by decide +kernel
theorem dX0_run_115 : decode cX0_run 115 = .ok (.istore_n 2, 1) := by decide +kernel
theorem dX0_run_116 : decode cX0_run 116 = .ok (.goto 21, 3) := by decide +kernel
theorem dX0_run_119 : decode cX0_run 119 = .ok (.aload_n 0, 1) := by decide +kernel
theorem dX0_run_120 : decode cX0_run 120 = .ok (.iload_n 2, 1) := by decide +kernel
theorem dX0_run_121 : decode cX0_run 121 = .ok (.invokevirtual 266, 3) := by decide +kernel
theorem dX0_run_124 : decode cX0_run 124 = .ok (.ifCond .eq 9, 3) := by decide +kernel
theorem dX0_run_127 : decode cX0_run 127 = .ok (.iinc 2 1, 3) := by decide +kernel
theorem dX0_run_130 : decode cX0_run 130 = .ok (.goto 7, 3) := by decide +kernel
theorem dX0_run_133 : decode cX0_run 133 = .ok (.iload_n 2, 1) := by decide +kernel
theorem dX0_run_134 : decode cX0_run 134 = .ok (.iconst 1, 1) := by decide +kernel
theorem dX0_run_135 : decode cX0_run 135 = .ok (.iadd, 1) := by decide +kernel
theorem dX0_run_136 : decode cX0_run 136 = .ok (.ireturn, 1) := by decide +kernel
theorem dX0_run_137 : decode cX0_run 137 = .ok (.iinc 4 1, 3) := by decide +kernel
theorem dX0_run_140 : decode cX0_run 140 = .ok (.goto (-114), 3) := by decide +kernel
theorem dX0_run_143 : decode cX0_run 143 = .ok (.iload_n 2, 1) := by decide +kernel
theorem dX0_run_144 : decode cX0_run 144 = .ok (.aload_n 0, 1) := by decide +kernel
theorem dX0_run_145 : decode cX0_run 145 = .ok (.getfield 64, 3) := by decide +kernel
theorem dX0_run_148 : decode cX0_run 148 = .ok (.getfield 101, 3) := by decide +kernel
theorem dX0_run_151 : decode cX0_run 151 = .ok (.if_icmp .lt 7, 3) := by decide +kernel
theorem dX0_run_154 : decode cX0_run 154 = .ok (.iconst 0, 1) := by decide +kernel
theorem dX0_run_155 : decode cX0_run 155 = .ok (.goto 5, 3) := by decide +kernel
theorem dX0_run_158 : decode cX0_run 158 = .ok (.bipush (-2), 2) := by decide +kernel
theorem dX0_run_160 : decode cX0_run 160 = .ok (.ireturn, 1) := by decide +kernel
theorem dX0_startAgain_0 : decode cX0_startAgain 0 = .ok (.aload_n 0, 1) := by decide +kernel
theorem dX0_startAgain_1 : decode cX0_startAgain 1 = .ok (.getfield 44, 3) := by decide +kernel
theorem dX0_startAgain_4 : decode cX0_startAgain 4 = .ok (.invokevirtual 277, 3) := by decide +kernel
theorem dX0_startAgain_7 : decode cX0_startAgain 7 = .ok (.aload_n 0, 1) := by decide +kernel
theorem dX0_startAgain_8 : decode cX0_startAgain 8 = .ok (.getfield 60, 3) := by decide +kernel
theorem dX0_startAgain_11 : decode cX0_startAgain 11 = .ok (.iconst 0, 1) := by decide +kernel
theorem dX0_startAgain_12 : decode cX0_startAgain 12 = .ok (.putfield 101, 3) := by decide +kernel
theorem dX0_startAgain_15 : decode cX0_startAgain 15 = .ok (.return_, 1) := by decide +kernel
theorem dX0_state_0 : decode cX0_state 0 = .ok (.iload_n 1, 1) := by decide +kernel
theorem dX0_state_1 : decode cX0_state 1 = .ok (.tableswitch 81 0 4 #[35, 46, 54, 62, 70], 35) := by decide +kernel
theorem dX0_state_36 : decode cX0_state 36 = .ok (.aload_n 0, 1) := by decide +kernel
theorem dX0_state_37 : decode cX0_state 37 = .ok (.getfield 44, 3) := by decide +kernel
theorem dX0_state_40 : decode cX0_state 40 = .ok (.getfield 224, 3) := by decide +kernel
theorem dX0_state_43 : decode cX0_state 43 = .ok (.getfield 269, 3) := by decide +kernel
theorem dX0_state_46 : decode cX0_state 46 = .ok (.ireturn, 1) := by decide +kernel
theorem dX0_state_47 : decode cX0_state 47 = .ok (.aload_n 0, 1) := by decide +kernel
theorem dX0_state_48 : decode cX0_state 48 = .ok (.getfield 44, 3) := by decide +kernel
theorem dX0_state_51 : decode cX0_state 51 = .ok (.getfield 158, 3) := by decide +kernel
theorem dX0_state_54 : decode cX0_state 54 = .ok (.ireturn, 1) := by decide +kernel
theorem dX0_state_55 : decode cX0_state 55 = .ok (.aload_n 0, 1) := by decide +kernel
theorem dX0_state_56 : decode cX0_state 56 = .ok (.getfield 60, 3) := by decide +kernel
theorem dX0_state_59 : decode cX0_state 59 = .ok (.getfield 101, 3) := by decide +kernel
theorem dX0_state_62 : decode cX0_state 62 = .ok (.ireturn, 1) := by decide +kernel
theorem dX0_state_63 : decode cX0_state 63 = .ok (.aload_n 0, 1) := by decide +kernel
theorem dX0_state_64 : decode cX0_state 64 = .ok (.getfield 64, 3) := by decide +kernel
theorem dX0_state_67 : decode cX0_state 67 = .ok (.getfield 101, 3) := by decide +kernel
theorem dX0_state_70 : decode cX0_state 70 = .ok (.ireturn, 1) := by decide +kernel
theorem dX0_state_71 : decode cX0_state 71 = .ok (.aload_n 0, 1) := by decide +kernel
theorem dX0_state_72 : decode cX0_state 72 = .ok (.getfield 35, 3) := by decide +kernel
theorem dX0_state_75 : decode cX0_state 75 = .ok (.getfield 270, 3) := by decide +kernel
theorem dX0_state_78 : decode cX0_state 78 = .ok (.getfield 274, 3) := by decide +kernel
theorem dX0_state_81 : decode cX0_state 81 = .ok (.ireturn, 1) := by decide +kernel
theorem dX0_state_82 : decode cX0_state 82 = .ok (.iconst (-1), 1) := by decide +kernel
theorem dX0_state_83 : decode cX0_state 83 = .ok (.ireturn, 1) := by decide +kernel
theorem dX0_step_0 : decode cX0_step 0 = .ok (.aload_n 0, 1) := by decide +kernel
theorem dX0_step_1 : decode cX0_step 1 = .ok (.getfield 64, 3) := by decide +kernel
theorem dX0_step_4 : decode cX0_step 4 = .ok (.invokevirtual 211, 3) := by decide +kernel
theorem dX0_step_7 : decode cX0_step 7 = .ok (.ifCond .ne 20, 3) := by decide +kernel
theorem dX0_step_10 : decode cX0_step 10 = .ok (.aload_n 0, 1) := by decide +kernel
theorem dX0_step_11 : decode cX0_step 11 = .ok (.invokevirtual 138, 3) := by decide +kernel
theorem dX0_step_14 : decode cX0_step 14 = .ok (.ifCond .eq 13, 3) := by decide +kernel
theorem dX0_step_17 : decode cX0_step 17 = .ok (.aload_n 0, 1) := by decide +kernel
theorem dX0_step_18 : decode cX0_step 18 = .ok (.iload_n 1, 1) := by decide +kernel
theorem dX0_step_19 : decode cX0_step 19 = .ok (.iload_n 2, 1) := by decide +kernel
theorem dX0_step_20 : decode cX0_step 20 = .ok (.iload_n 3, 1) := by decide +kernel
theorem dX0_step_21 : decode cX0_step 21 = .ok (.invokevirtual 241, 3) := by decide +kernel
theorem dX0_step_24 : decode cX0_step 24 = .ok (.ifCond .ne 5, 3) := by decide +kernel
theorem dX0_step_27 : decode cX0_step 27 = .ok (.iconst (-1), 1) := by decide +kernel
theorem dX0_step_28 : decode cX0_step 28 = .ok (.ireturn, 1) := by decide +kernel
theorem dX0_step_29 : decode cX0_step 29 = .ok (.aload_n 0, 1) := by decide +kernel
theorem dX0_step_30 : decode cX0_step 30 = .ok (.getfield 64, 3) := by decide +kernel
theorem dX0_step_33 : decode cX0_step 33 = .ok (.iload_n 1, 1) := by decide +kernel
theorem dX0_step_34 : decode cX0_step 34 = .ok (.iload_n 2, 1) := by decide +kernel
theorem dX0_step_35 : decode cX0_step 35 = .ok (.iload_n 3, 1) := by decide +kernel
theorem dX0_step_36 : decode cX0_step 36 = .ok (.invokevirtual 214, 3) := by decide +kernel
theorem dX0_step_39 : decode cX0_step 39 = .ok (.aload_n 0, 1) := by decide +kernel
theorem dX0_step_40 : decode cX0_step 40 = .ok (.getfield 64, 3) := by decide +kernel
theorem dX0_step_43 : decode cX0_step 43 = .ok (.getfield 101, 3) := by decide +kernel
theorem dX0_step_46 : decode cX0_step 46 = .ok (.iconst 1, 1) := by decide +kernel
theorem dX0_step_47 : decode cX0_step 47 = .ok (.isub, 1) := by decide +kernel
theorem dX0_step_48 : decode cX0_step 48 = .ok (.ireturn, 1) := by decide +kernel
theorem dX0_trace_0 : decode cX0_trace 0 = .ok (.aload_n 0, 1) := by decide +kernel
theorem dX0_trace_1 : decode cX0_trace 1 = .ok (.getfield 44, 3) := by decide +kernel
theorem dX0_trace_4 : decode cX0_trace 4 = .ok (.getfield 224, 3) := by decide +kernel
theorem dX0_trace_7 : decode cX0_trace 7 = .ok (.astore_n 3, 1) := by decide +kernel
theorem dX0_trace_8 : decode cX0_trace 8 = .ok (.aload_n 3, 1) := by decide +kernel
theorem dX0_trace_9 : decode cX0_trace 9 = .ok (.iload_n 1, 1) := by decide +kernel
theorem dX0_trace_10 : decode cX0_trace 10 = .ok (.invokevirtual 228, 3) := by decide +kernel
theorem dX0_trace_13 : decode cX0_trace 13 = .ok (.istore 4, 2) := by decide +kernel
theorem dX0_trace_15 : decode cX0_trace 15 = .ok (.iload 4, 2) := by decide +kernel
theorem dX0_trace_17 : decode cX0_trace 17 = .ok (.iconst (-1), 1) := by decide +kernel
theorem dX0_trace_18 : decode cX0_trace 18 = .ok (.if_icmp .ne 5, 3) := by decide +kernel
theorem dX0_trace_21 : decode cX0_trace 21 = .ok (.iconst (-1), 1) := by decide +kernel
theorem dX0_trace_22 : decode cX0_trace 22 = .ok (.ireturn, 1) := by decide +kernel
theorem dX0_trace_23 : decode cX0_trace 23 = .ok (.iload_n 2, 1) := by decide +kernel
theorem dX0_trace_24 : decode cX0_trace 24 = .ok (.tableswitch 52 0 2 #[28, 36, 44], 28) := by decide +kernel
theorem dX0_trace_52 : decode cX0_trace 52 = .ok (.aload_n 3, 1) := by decide +kernel
theorem dX0_trace_53 : decode cX0_trace 53 = .ok (.getfield 233, 3) := by decide +kernel
theorem dX0_trace_56 : decode cX0_trace 56 = .ok (.iload 4, 2) := by decide +kernel
theorem dX0_trace_58 : decode cX0_trace 58 = .ok (.iaload, 1) := by decide +kernel
theorem dX0_trace_59 : decode cX0_trace 59 = .ok (.ireturn, 1) := by decide +kernel
theorem dX0_trace_60 : decode cX0_trace 60 = .ok (.aload_n 3, 1) := by decide +kernel
theorem dX0_trace_61 : decode cX0_trace 61 = .ok (.getfield 235, 3) := by decide +kernel
theorem dX0_trace_64 : decode cX0_trace 64 = .ok (.iload 4, 2) := by decide +kernel
theorem dX0_trace_66 : decode cX0_trace 66 = .ok (.iaload, 1) := by decide +kernel
theorem dX0_trace_67 : decode cX0_trace 67 = .ok (.ireturn, 1) := by decide +kernel
theorem dX0_trace_68 : decode cX0_trace 68 = .ok (.aload_n 3, 1) := by decide +kernel
theorem dX0_trace_69 : decode cX0_trace 69 = .ok (.getfield 238, 3) := by decide +kernel
theorem dX0_trace_72 : decode cX0_trace 72 = .ok (.iload 4, 2) := by decide +kernel
theorem dX0_trace_74 : decode cX0_trace 74 = .ok (.iaload, 1) := by decide +kernel
theorem dX0_trace_75 : decode cX0_trace 75 = .ok (.ireturn, 1) := by decide +kernel
theorem dX0_trace_76 : decode cX0_trace 76 = .ok (.iconst (-1), 1) := by decide +kernel
theorem dX0_trace_77 : decode cX0_trace 77 = .ok (.ireturn, 1) := by decide +kernel
theorem dX0_type_0 : decode cX0_type 0 = .ok (.aload_n 0, 1) := by decide +kernel
theorem dX0_type_1 : decode cX0_type 1 = .ok (.getfield 21, 3) := by decide +kernel
theorem dX0_type_4 : decode cX0_type 4 = .ok (.lload_n 1, 1) := by decide +kernel
theorem dX0_type_5 : decode cX0_type 5 = .ok (.iload_n 3, 1) := by decide +kernel
theorem dX0_type_6 : decode cX0_type 6 = .ok (.invokevirtual 76, 3) := by decide +kernel
theorem dX0_type_9 : decode cX0_type 9 = .ok (.ireturn, 1) := by decide +kernel
theorem dX10_append_0 : decode cX10_append 0 = .ok (.iload_n 3, 1) := by decide +kernel
theorem dX10_append_1 : decode cX10_append 1 = .ok (.iconst 1, 1) := by decide +kernel
theorem dX10_append_2 : decode cX10_append 2 = .ok (.if_icmp .lt 21, 3) := by decide +kernel
theorem dX10_append_5 : decode cX10_append 5 = .ok (.iload_n 3, 1) := by decide +kernel
theorem dX10_append_6 : decode cX10_append 6 = .ok (.bipush 8, 2) := by decide +kernel
theorem dX10_append_8 : decode cX10_append 8 = .ok (.if_icmp .gt 15, 3) := by decide +kernel
theorem dX10_append_11 : decode cX10_append 11 = .ok (.aload_n 0, 1) := by decide +kernel
theorem dX10_append_12 : decode cX10_append 12 = .ok (.getfield 19, 3) := by decide +kernel
theorem dX10_append_15 : decode cX10_append 15 = .ok (.iload_n 3, 1) := by decide +kernel
theorem dX10_append_16 : decode cX10_append 16 = .ok (.iadd, 1) := by decide +kernel
theorem dX10_append_17 : decode cX10_append 17 = .ok (.sipush 480, 3) := by decide +kernel
theorem dX10_append_20 : decode cX10_append 20 = .ok (.if_icmp .le 5, 3) := by decide +kernel
theorem dX10_append_23 : decode cX10_append 23 = .ok (.iconst 0, 1) := by decide +kernel
theorem dX10_append_24 : decode cX10_append 24 = .ok (.ireturn, 1) := by decide +kernel
theorem dX10_append_25 : decode cX10_append 25 = .ok (.iconst 0, 1) := by decide +kernel
theorem dX10_append_26 : decode cX10_append 26 = .ok (.istore 4, 2) := by decide +kernel
theorem dX10_append_28 : decode cX10_append 28 = .ok (.iload 4, 2) := by decide +kernel
theorem dX10_append_30 : decode cX10_append 30 = .ok (.iload_n 3, 1) := by decide +kernel
theorem dX10_append_31 : decode cX10_append 31 = .ok (.if_icmp .ge 33, 3) := by decide +kernel
theorem dX10_append_34 : decode cX10_append 34 = .ok (.lload_n 1, 1) := by decide +kernel
theorem dX10_append_35 : decode cX10_append 35 = .ok (.iload 4, 2) := by decide +kernel
theorem dX10_append_37 : decode cX10_append 37 = .ok (.invokestatic 23, 3) := by decide +kernel
theorem dX10_append_40 : decode cX10_append 40 = .ok (.istore 5, 2) := by decide +kernel
theorem dX10_append_42 : decode cX10_append 42 = .ok (.iload 5, 2) := by decide +kernel
theorem dX10_append_44 : decode cX10_append 44 = .ok (.bipush 33, 2) := by decide +kernel
theorem dX10_append_46 : decode cX10_append 46 = .ok (.if_icmp .lt 10, 3) := by decide +kernel
theorem dX10_append_49 : decode cX10_append 49 = .ok (.iload 5, 2) := by decide +kernel
theorem dX10_append_51 : decode cX10_append 51 = .ok (.bipush 126, 2) := by decide +kernel
theorem dX10_append_53 : decode cX10_append 53 = .ok (.if_icmp .le 5, 3) := by decide +kernel
theorem dX10_append_56 : decode cX10_append 56 = .ok (.iconst 0, 1) := by decide +kernel
theorem dX10_append_57 : decode cX10_append 57 = .ok (.ireturn, 1) := by decide +kernel
theorem dX10_append_58 : decode cX10_append 58 = .ok (.iinc 4 1, 3) := by decide +kernel
theorem dX10_append_61 : decode cX10_append 61 = .ok (.goto (-33), 3) := by decide +kernel
theorem dX10_append_64 : decode cX10_append 64 = .ok (.iload_n 3, 1) := by decide +kernel
theorem dX10_append_65 : decode cX10_append 65 = .ok (.iconst 1, 1) := by decide +kernel
theorem dX10_append_66 : decode cX10_append 66 = .ok (.isub, 1) := by decide +kernel
theorem dX10_append_67 : decode cX10_append 67 = .ok (.istore 4, 2) := by decide +kernel
theorem dX10_append_69 : decode cX10_append 69 = .ok (.iload 4, 2) := by decide +kernel
theorem dX10_append_71 : decode cX10_append 71 = .ok (.ifCond .lt 35, 3) := by decide +kernel
theorem dX10_append_74 : decode cX10_append 74 = .ok (.aload_n 0, 1) := by decide +kernel
theorem dX10_append_75 : decode cX10_append 75 = .ok (.getfield 9, 3) := by decide +kernel
theorem dX10_append_78 : decode cX10_append 78 = .ok (.aload_n 0, 1) := by decide +kernel
theorem dX10_append_79 : decode cX10_append 79 = .ok (.getfield 19, 3) := by decide +kernel
theorem dX10_append_82 : decode cX10_append 82 = .ok (.lload_n 1, 1) := by decide +kernel
theorem dX10_append_83 : decode cX10_append 83 = .ok (.iload 4, 2) := by decide +kernel
theorem dX10_append_85 : decode cX10_append 85 = .ok (.invokestatic 23, 3) := by decide +kernel
theorem dX10_append_88 : decode cX10_append 88 = .ok (.i2c, 1) := by decide +kernel
theorem dX10_append_89 : decode cX10_append 89 = .ok (.castore, 1) := by decide +kernel
theorem dX10_append_90 : decode cX10_append 90 = .ok (.aload_n 0, 1) := by decide +kernel
theorem dX10_append_91 : decode cX10_append 91 = .ok (.dup, 1) := by decide +kernel
theorem dX10_append_92 : decode cX10_append 92 = .ok (.getfield 19, 3) := by decide +kernel
theorem dX10_append_95 : decode cX10_append 95 = .ok (.iconst 1, 1) := by decide +kernel
theorem dX10_append_96 : decode cX10_append 96 = .ok (.iadd, 1) := by decide +kernel
theorem dX10_append_97 : decode cX10_append 97 = .ok (.putfield 19, 3) := by decide +kernel
theorem dX10_append_100 : decode cX10_append 100 = .ok (.iinc 4 (-1), 3) := by decide +kernel
theorem dX10_append_103 : decode cX10_append 103 = .ok (.goto (-34), 3) := by decide +kernel
theorem dX10_append_106 : decode cX10_append 106 = .ok (.iconst 1, 1) := by decide +kernel
theorem dX10_append_107 : decode cX10_append 107 = .ok (.ireturn, 1) := by decide +kernel
theorem dX10_byteOf_0 : decode cX10_byteOf 0 = .ok (.lload_n 0, 1) := by decide +kernel
theorem dX10_byteOf_1 : decode cX10_byteOf 1 = .ok (.bipush 8, 2) := by decide +kernel
theorem dX10_byteOf_3 : decode cX10_byteOf 3 = .ok (.iload_n 2, 1) := by decide +kernel
theorem dX10_byteOf_4 : decode cX10_byteOf 4 = .ok (.imul, 1) := by decide +kernel
theorem dX10_byteOf_5 : decode cX10_byteOf 5 = .ok (.lushr, 1) := by decide +kernel
theorem dX10_byteOf_6 : decode cX10_byteOf 6 = .ok (.l2i, 1) := by decide +kernel
theorem dX10_byteOf_7 : decode cX10_byteOf 7 = .ok (.sipush 255, 3) := by decide +kernel
theorem dX10_byteOf_10 : decode cX10_byteOf 10 = .ok (.iand, 1) := by decide +kernel
theorem dX10_byteOf_11 : decode cX10_byteOf 11 = .ok (.ireturn, 1) := by decide +kernel
theorem dX10_digitOf_0 : decode cX10_digitOf 0 = .ok (.iload_n 0, 1) := by decide +kernel
theorem dX10_digitOf_1 : decode cX10_digitOf 1 = .ok (.bipush 48, 2) := by decide +kernel
theorem dX10_digitOf_3 : decode cX10_digitOf 3 = .ok (.if_icmp .lt 14, 3) := by decide +kernel
theorem dX10_digitOf_6 : decode cX10_digitOf 6 = .ok (.iload_n 0, 1) := by decide +kernel
theorem dX10_digitOf_7 : decode cX10_digitOf 7 = .ok (.bipush 57, 2) := by decide +kernel
theorem dX10_digitOf_9 : decode cX10_digitOf 9 = .ok (.if_icmp .gt 8, 3) := by decide +kernel
theorem dX10_digitOf_12 : decode cX10_digitOf 12 = .ok (.iload_n 0, 1) := by decide +kernel
theorem dX10_digitOf_13 : decode cX10_digitOf 13 = .ok (.bipush 48, 2) := by decide +kernel
theorem dX10_digitOf_15 : decode cX10_digitOf 15 = .ok (.isub, 1) := by decide +kernel
theorem dX10_digitOf_16 : decode cX10_digitOf 16 = .ok (.ireturn, 1) := by decide +kernel
theorem dX10_digitOf_17 : decode cX10_digitOf 17 = .ok (.iload_n 0, 1) := by decide +kernel
theorem dX10_digitOf_18 : decode cX10_digitOf 18 = .ok (.bipush 97, 2) := by decide +kernel
theorem dX10_digitOf_20 : decode cX10_digitOf 20 = .ok (.if_icmp .lt 19, 3) := by decide +kernel
theorem dX10_digitOf_23 : decode cX10_digitOf 23 = .ok (.iload_n 0, 1) := by decide +kernel
theorem dX10_digitOf_24 : decode cX10_digitOf 24 = .ok (.bipush 102, 2) := by decide +kernel
theorem dX10_digitOf_26 : decode cX10_digitOf 26 = .ok (.if_icmp .gt 13, 3) := by decide +kernel
theorem dX10_digitOf_29 : decode cX10_digitOf 29 = .ok (.iload_n 0, 1) := by decide +kernel
theorem dX10_digitOf_30 : decode cX10_digitOf 30 = .ok (.bipush 97, 2) := by decide +kernel
theorem dX10_digitOf_32 : decode cX10_digitOf 32 = .ok (.isub, 1) := by decide +kernel
theorem dX10_digitOf_33 : decode cX10_digitOf 33 = .ok (.bipush 10, 2) := by decide +kernel
theorem dX10_digitOf_35 : decode cX10_digitOf 35 = .ok (.iadd, 1) := by decide +kernel
theorem dX10_digitOf_36 : decode cX10_digitOf 36 = .ok (.goto 4, 3) := by decide +kernel
theorem dX10_digitOf_39 : decode cX10_digitOf 39 = .ok (.iconst (-1), 1) := by decide +kernel
theorem dX10_digitOf_40 : decode cX10_digitOf 40 = .ok (.ireturn, 1) := by decide +kernel
theorem dX10_name_0 : decode cX10_name 0 = .ok (.aload_n 0, 1) := by decide +kernel
theorem dX10_name_1 : decode cX10_name 1 = .ok (.invokevirtual 42, 3) := by decide +kernel
theorem dX10_name_4 : decode cX10_name 4 = .ok (.istore_n 1, 1) := by decide +kernel
theorem dX10_name_5 : decode cX10_name 5 = .ok (.iload_n 1, 1) := by decide +kernel
theorem dX10_name_6 : decode cX10_name 6 = .ok (.bipush 65, 2) := by decide +kernel
theorem dX10_name_8 : decode cX10_name 8 = .ok (.if_icmp .lt 9, 3) := by decide +kernel
theorem dX10_name_11 : decode cX10_name 11 = .ok (.iload_n 1, 1) := by decide +kernel
theorem dX10_name_12 : decode cX10_name 12 = .ok (.bipush 90, 2) := by decide +kernel
theorem dX10_name_14 : decode cX10_name 14 = .ok (.if_icmp .le 5, 3) := by decide +kernel
theorem dX10_name_17 : decode cX10_name 17 = .ok (.iconst (-1), 1) := by decide +kernel
theorem dX10_name_18 : decode cX10_name 18 = .ok (.ireturn, 1) := by decide +kernel
theorem dX10_name_19 : decode cX10_name 19 = .ok (.aload_n 0, 1) := by decide +kernel
theorem dX10_name_20 : decode cX10_name 20 = .ok (.dup, 1) := by decide +kernel
theorem dX10_name_21 : decode cX10_name 21 = .ok (.getfield 32, 3) := by decide +kernel
