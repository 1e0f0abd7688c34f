theorem dX11_run_61 : decode cX11_run 61 = .ok (.getfield 64, 3) := by decide +kernel
theorem dX11_run_64 : decode cX11_run 64 = .ok (.getfield 261, 3) := by decide +kernel
theorem dX11_run_67 : decode cX11_run 67 = .ok (.iload_n 2, 1) := by decide +kernel
theorem dX11_run_68 : decode cX11_run 68 = .ok (.iaload, 1) := by decide +kernel
theorem dX11_run_69 : decode cX11_run 69 = .ok (.iconst 2, 1) := by decide +kernel
theorem dX11_run_70 : decode cX11_run 70 = .ok (.if_icmp .ne 49, 3) := by decide +kernel
theorem dX11_run_73 : decode cX11_run 73 = .ok (.iload_n 1, 1) := by decide +kernel
theorem dX11_run_74 : decode cX11_run 74 = .ok (.iload_n 3, 1) := by decide +kernel
theorem dX11_run_75 : decode cX11_run 75 = .ok (.bipush 31, 2) := by decide +kernel
theorem dX11_run_77 : decode cX11_run 77 = .ok (.iand, 1) := by decide +kernel
theorem dX11_run_78 : decode cX11_run 78 = .ok (.iushr, 1) := by decide +kernel
theorem dX11_run_79 : decode cX11_run 79 = .ok (.iconst 1, 1) := by decide +kernel
theorem dX11_run_80 : decode cX11_run 80 = .ok (.iand, 1) := by decide +kernel
theorem dX11_run_81 : decode cX11_run 81 = .ok (.iconst 1, 1) := by decide +kernel
theorem dX11_run_82 : decode cX11_run 82 = .ok (.if_icmp .ne 7, 3) := by decide +kernel
theorem dX11_run_85 : decode cX11_run 85 = .ok (.iconst 1, 1) := by decide +kernel
theorem dX11_run_86 : decode cX11_run 86 = .ok (.goto 4, 3) := by decide +kernel
theorem dX11_run_89 : decode cX11_run 89 = .ok (.iconst 0, 1) := by decide +kernel
theorem dX11_run_90 : decode cX11_run 90 = .ok (.istore 5, 2) := by decide +kernel
theorem dX11_run_92 : decode cX11_run 92 = .ok (.iinc 3 1, 3) := by decide +kernel
theorem dX11_run_95 : decode cX11_run 95 = .ok (.iload 5, 2) := by decide +kernel
theorem dX11_run_97 : decode cX11_run 97 = .ok (.ifCond .eq 15, 3) := by decide +kernel
theorem dX11_run_100 : decode cX11_run 100 = .ok (.aload_n 0, 1) := by decide +kernel
theorem dX11_run_101 : decode cX11_run 101 = .ok (.getfield 64, 3) := by decide +kernel
theorem dX11_run_104 : decode cX11_run 104 = .ok (.getfield 263, 3) := by decide +kernel
theorem dX11_run_107 : decode cX11_run 107 = .ok (.iload_n 2, 1) := by decide +kernel
theorem dX11_run_108 : decode cX11_run 108 = .ok (.iaload, 1) := by decide +kernel
theorem dX11_run_109 : decode cX11_run 109 = .ok (.goto 6, 3) := by decide +kernel
theorem dX11_run_112 : decode cX11_run 112 = .ok (.iload_n 2, 1) := by decide +kernel
theorem dX11_run_113 : decode cX11_run 113 = .ok (.iconst 1, 1) := by decide +kernel
theorem dX11_run_114 : decode cX11_run 114 = .ok (.iadd, 1) := by decide +kernel
theorem dX11_run_115 : decode cX11_run 115 = .ok (.istore_n 2, 1) := by decide +kernel
theorem dX11_run_116 : decode cX11_run 116 = .ok (.goto 21, 3) := by decide +kernel
theorem dX11_run_119 : decode cX11_run 119 = .ok (.aload_n 0, 1) := by decide +kernel
theorem dX11_run_120 : decode cX11_run 120 = .ok (.iload_n 2, 1) := by decide +kernel
theorem dX11_run_121 : decode cX11_run 121 = .ok (.invokevirtual 266, 3) := by decide +kernel
theorem dX11_run_124 : decode cX11_run 124 = .ok (.ifCond .eq 9, 3) := by decide +kernel
theorem dX11_run_127 : decode cX11_run 127 = .ok (.iinc 2 1, 3) := by decide +kernel
theorem dX11_run_130 : decode cX11_run 130 = .ok (.goto 7, 3) := by decide +kernel
theorem dX11_run_133 : decode cX11_run 133 = .ok (.iload_n 2, 1) := by decide +kernel
theorem dX11_run_134 : decode cX11_run 134 = .ok (.iconst 1, 1) := by decide +kernel
theorem dX11_run_135 : decode cX11_run 135 = .ok (.iadd, 1) := by decide +kernel
theorem dX11_run_136 : decode cX11_run 136 = .ok (.ireturn, 1) := by decide +kernel
theorem dX11_run_137 : decode cX11_run 137 = .ok (.iinc 4 1, 3) := by decide +kernel
theorem dX11_run_140 : decode cX11_run 140 = .ok (.goto (-114), 3) := by decide +kernel
theorem dX11_run_143 : decode cX11_run 143 = .ok (.iload_n 2, 1) := by decide +kernel
theorem dX11_run_144 : decode cX11_run 144 = .ok (.aload_n 0, 1) := by decide +kernel
theorem dX11_run_145 : decode cX11_run 145 = .ok (.getfield 64, 3) := by decide +kernel
theorem dX11_run_148 : decode cX11_run 148 = .ok (.getfield 101, 3) := by decide +kernel
theorem dX11_run_151 : decode cX11_run 151 = .ok (.if_icmp .lt 7, 3) := by decide +kernel
theorem dX11_run_154 : decode cX11_run 154 = .ok (.iconst 0, 1) := by decide +kernel
theorem dX11_run_155 : decode cX11_run 155 = .ok (.goto 5, 3) := by decide +kernel
theorem dX11_run_158 : decode cX11_run 158 = .ok (.bipush (-2), 2) := by decide +kernel
theorem dX11_run_160 : decode cX11_run 160 = .ok (.ireturn, 1) := by decide +kernel
theorem dX11_startAgain_0 : decode cX11_startAgain 0 = .ok (.aload_n 0, 1) := by decide +kernel
theorem dX11_startAgain_1 : decode cX11_startAgain 1 = .ok (.getfield 44, 3) := by decide +kernel
theorem dX11_startAgain_4 : decode cX11_startAgain 4 = .ok (.invokevirtual 277, 3) := by decide +kernel
theorem dX11_startAgain_7 : decode cX11_startAgain 7 = .ok (.aload_n 0, 1) := by decide +kernel
theorem dX11_startAgain_8 : decode cX11_startAgain 8 = .ok (.getfield 60, 3) := by decide +kernel
theorem dX11_startAgain_11 : decode cX11_startAgain 11 = .ok (.iconst 0, 1) := by decide +kernel
theorem dX11_startAgain_12 : decode cX11_startAgain 12 = .ok (.putfield 101, 3) := by decide +kernel
theorem dX11_startAgain_15 : decode cX11_startAgain 15 = .ok (.return_, 1) := by decide +kernel
theorem dX11_state_0 : decode cX11_state 0 = .ok (.iload_n 1, 1) := by decide +kernel
theorem dX11_state_1 : decode cX11_state 1 = .ok (.tableswitch 81 0 4 #[35, 46, 54, 62, 70], 35) := by decide +kernel
theorem dX11_state_36 : decode cX11_state 36 = .ok (.aload_n 0, 1) := by decide +kernel
theorem dX11_state_37 : decode cX11_state 37 = .ok (.getfield 44, 3) := by decide +kernel
theorem dX11_state_40 : decode cX11_state 40 = .ok (.getfield 224, 3) := by decide +kernel
theorem dX11_state_43 : decode cX11_state 43 = .ok (.getfield 269, 3) := by decide +kernel
theorem dX11_state_46 : decode cX11_state 46 = .ok (.ireturn, 1) := by decide +kernel
theorem dX11_state_47 : decode cX11_state 47 = .ok (.aload_n 0, 1) := by decide +kernel
theorem dX11_state_48 : decode cX11_state 48 = .ok (.getfield 44, 3) := by decide +kernel
theorem dX11_state_51 : decode cX11_state 51 = .ok (.getfield 158, 3) := by decide +kernel
theorem dX11_state_54 : decode cX11_state 54 = .ok (.ireturn, 1) := by decide +kernel
theorem dX11_state_55 : decode cX11_state 55 = .ok (.aload_n 0, 1) := by decide +kernel
theorem dX11_state_56 : decode cX11_state 56 = .ok (.getfield 60, 3) := by decide +kernel
theorem dX11_state_59 : decode cX11_state 59 = .ok (.getfield 101, 3) := by decide +kernel
theorem dX11_state_62 : decode cX11_state 62 = .ok (.ireturn, 1) := by decide +kernel
theorem dX11_state_63 : decode cX11_state 63 = .ok (.aload_n 0, 1) := by decide +kernel
theorem dX11_state_64 : decode cX11_state 64 = .ok (.getfield 64, 3) := by decide +kernel
theorem dX11_state_67 : decode cX11_state 67 = .ok (.getfield 101, 3) := by decide +kernel
theorem dX11_state_70 : decode cX11_state 70 = .ok (.ireturn, 1) := by decide +kernel
theorem dX11_state_71 : decode cX11_state 71 = .ok (.aload_n 0, 1) := by decide +kernel
theorem dX11_state_72 : decode cX11_state 72 = .ok (.getfield 35, 3) := by decide +kernel
theorem dX11_state_75 : decode cX11_state 75 = .ok (.getfield 270, 3) := by decide +kernel
theorem dX11_state_78 : decode cX11_state 78 = .ok (.getfield 274, 3) := by decide +kernel
theorem dX11_state_81 : decode cX11_state 81 = .ok (.ireturn, 1) := by decide +kernel
theorem dX11_state_82 : decode cX11_state 82 = .ok (.iconst (-1), 1) := by decide +kernel
theorem dX11_state_83 : decode cX11_state 83 = .ok (.ireturn, 1) := by decide +kernel
theorem dX11_step_0 : decode cX11_step 0 = .ok (.aload_n 0, 1) := by decide +kernel
theorem dX11_step_1 : decode cX11_step 1 = .ok (.getfield 64, 3) := by decide +kernel
theorem dX11_step_4 : decode cX11_step 4 = .ok (.invokevirtual 211, 3) := by decide +kernel
theorem dX11_step_7 : decode cX11_step 7 = .ok (.ifCond .ne 20, 3) := by decide +kernel
theorem dX11_step_10 : decode cX11_step 10 = .ok (.aload_n 0, 1) := by decide +kernel
theorem dX11_step_11 : decode cX11_step 11 = .ok (.invokevirtual 138, 3) := by decide +kernel
theorem dX11_step_14 : decode cX11_step 14 = .ok (.ifCond .eq 13, 3) := by decide +kernel
theorem dX11_step_17 : decode cX11_step 17 = .ok (.aload_n 0, 1) := by decide +kernel
theorem dX11_step_18 : decode cX11_step 18 = .ok (.iload_n 1, 1) := by decide +kernel
theorem dX11_step_19 : decode cX11_step 19 = .ok (.iload_n 2, 1) := by decide +kernel
theorem dX11_step_20 : decode cX11_step 20 = .ok (.iload_n 3, 1) := by decide +kernel
theorem dX11_step_21 : decode cX11_step 21 = .ok (.invokevirtual 241, 3) := by decide +kernel
theorem dX11_step_24 : decode cX11_step 24 = .ok (.ifCond .ne 5, 3) := by decide +kernel
theorem dX11_step_27 : decode cX11_step 27 = .ok (.iconst (-1), 1) := by decide +kernel
theorem dX11_step_28 : decode cX11_step 28 = .ok (.ireturn, 1) := by decide +kernel
theorem dX11_step_29 : decode cX11_step 29 = .ok (.aload_n 0, 1) := by decide +kernel
theorem dX11_step_30 : decode cX11_step 30 = .ok (.getfield 64, 3) := by decide +kernel
theorem dX11_step_33 : decode cX11_step 33 = .ok (.iload_n 1, 1) := by decide +kernel
theorem dX11_step_34 : decode cX11_step 34 = .ok (.iload_n 2, 1) := by decide +kernel
theorem dX11_step_35 : decode cX11_step 35 = .ok (.iload_n 3, 1) := by decide +kernel
theorem dX11_step_36 : decode cX11_step 36 = .ok (.invokevirtual 214, 3) := by decide +kernel
theorem dX11_step_39 : decode cX11_step 39 = .ok (.aload_n 0, 1) := by decide +kernel
theorem dX11_step_40 : decode cX11_step 40 = .ok (.getfield 64, 3) := by decide +kernel
theorem dX11_step_43 : decode cX11_step 43 = .ok (.getfield 101, 3) := by decide +kernel
theorem dX11_step_46 : decode cX11_step 46 = .ok (.iconst 1, 1) := by decide +kernel
theorem dX11_step_47 : decode cX11_step 47 = .ok (.isub, 1) := by decide +kernel
theorem dX11_step_48 : decode cX11_step 48 = .ok (.ireturn, 1) := by decide +kernel
theorem dX11_trace_0 : decode cX11_trace 0 = .ok (.aload_n 0, 1) := by decide +kernel
theorem dX11_trace_1 : decode cX11_trace 1 = .ok (.getfield 44, 3) := by decide +kernel
theorem dX11_trace_4 : decode cX11_trace 4 = .ok (.getfield 224, 3) := by decide +kernel
theorem dX11_trace_7 : decode cX11_trace 7 = .ok (.astore_n 3, 1) := by decide +kernel
theorem dX11_trace_8 : decode cX11_trace 8 = .ok (.aload_n 3, 1) := by decide +kernel
theorem dX11_trace_9 : decode cX11_trace 9 = .ok (.iload_n 1, 1) := by decide +kernel
theorem dX11_trace_10 : decode cX11_trace 10 = .ok (.invokevirtual 228, 3) := by decide +kernel
theorem dX11_trace_13 : decode cX11_trace 13 = .ok (.istore 4, 2) := by decide +kernel
theorem dX11_trace_15 : decode cX11_trace 15 = .ok (.iload 4, 2) := by decide +kernel
theorem dX11_trace_17 : decode cX11_trace 17 = .ok (.iconst (-1), 1) := by decide +kernel
theorem dX11_trace_18 : decode cX11_trace 18 = .ok (.if_icmp .ne 5, 3) := by decide +kernel
theorem dX11_trace_21 : decode cX11_trace 21 = .ok (.iconst (-1), 1) := by decide +kernel
theorem dX11_trace_22 : decode cX11_trace 22 = .ok (.ireturn, 1) := by decide +kernel
theorem dX11_trace_23 : decode cX11_trace 23 = .ok (.iload_n 2, 1) := by decide +kernel
theorem dX11_trace_24 : decode cX11_trace 24 = .ok (.tableswitch 52 0 2 #[28, 36, 44], 28) := by decide +kernel
theorem dX11_trace_52 : decode cX11_trace 52 = .ok (.aload_n 3, 1) := by decide +kernel
theorem dX11_trace_53 : decode cX11_trace 53 = .ok (.getfield 233, 3) := by decide +kernel
theorem dX11_trace_56 : decode cX11_trace 56 = .ok (.iload 4, 2) := by decide +kernel
theorem dX11_trace_58 : decode cX11_trace 58 = .ok (.iaload, 1) := by decide +kernel
theorem dX11_trace_59 : decode cX11_trace 59 = .ok (.ireturn, 1) := by decide +kernel
theorem dX11_trace_60 : decode cX11_trace 60 = .ok (.aload_n 3, 1) := by decide +kernel
theorem dX11_trace_61 : decode cX11_trace 61 = .ok (.getfield 235, 3) := by decide +kernel
theorem dX11_trace_64 : decode cX11_trace 64 = .ok (.iload 4, 2) := by decide +kernel
theorem dX11_trace_66 : decode cX11_trace 66 = .ok (.iaload, 1) := by decide +kernel
theorem dX11_trace_67 : decode cX11_trace 67 = .ok (.ireturn, 1) := by decide +kernel
theorem dX11_trace_68 : decode cX11_trace 68 = .ok (.aload_n 3, 1) := by decide +kernel
theorem dX11_trace_69 : decode cX11_trace 69 = .ok (.getfield 238, 3) := by decide +kernel
theorem dX11_trace_72 : decode cX11_trace 72 = .ok (.iload 4, 2) := by decide +kernel
theorem dX11_trace_74 : decode cX11_trace 74 = .ok (.iaload, 1) := by decide +kernel
theorem dX11_trace_75 : decode cX11_trace 75 = .ok (.ireturn, 1) := by decide +kernel
theorem dX11_trace_76 : decode cX11_trace 76 = .ok (.iconst (-1), 1) := by decide +kernel
theorem dX11_trace_77 : decode cX11_trace 77 = .ok (.ireturn, 1) := by decide +kernel
theorem dX11_type_0 : decode cX11_type 0 = .ok (.aload_n 0, 1) := by decide +kernel
theorem dX11_type_1 : decode cX11_type 1 = .ok (.getfield 21, 3) := by decide +kernel
theorem dX11_type_4 : decode cX11_type 4 = .ok (.lload_n 1, 1) := by decide +kernel
theorem dX11_type_5 : decode cX11_type 5 = .ok (.iload_n 3, 1) := by decide +kernel
theorem dX11_type_6 : decode cX11_type 6 = .ok (.invokevirtual 76, 3) := by decide +kernel
theorem dX11_type_9 : decode cX11_type 9 = .ok (.ireturn, 1) := by decide +kernel
theorem dX12_begin_0 : decode cX12_begin 0 = .ok (.aload_n 0, 1) := by decide +kernel
theorem dX12_begin_1 : decode cX12_begin 1 = .ok (.iconst 0, 1) := by decide +kernel
theorem dX12_begin_2 : decode cX12_begin 2 = .ok (.putfield 337, 3) := by decide +kernel
theorem dX12_begin_5 : decode cX12_begin 5 = .ok (.aload_n 0, 1) := by decide +kernel
theorem dX12_begin_6 : decode cX12_begin 6 = .ok (.iconst 0, 1) := by decide +kernel
theorem dX12_begin_7 : decode cX12_begin 7 = .ok (.iconst 1, 1) := by decide +kernel
theorem dX12_begin_8 : decode cX12_begin 8 = .ok (.invokevirtual 360, 3) := by decide +kernel
theorem dX12_begin_11 : decode cX12_begin 11 = .ok (.aload_n 0, 1) := by decide +kernel
theorem dX12_begin_12 : decode cX12_begin 12 = .ok (.aload_n 0, 1) := by decide +kernel
theorem dX12_begin_13 : decode cX12_begin 13 = .ok (.getfield 282, 3) := by decide +kernel
theorem dX12_begin_16 : decode cX12_begin 16 = .ok (.putfield 363, 3) := by decide +kernel
theorem dX12_begin_19 : decode cX12_begin 19 = .ok (.iconst 0, 1) := by decide +kernel
theorem dX12_begin_20 : decode cX12_begin 20 = .ok (.istore_n 1, 1) := by decide +kernel
theorem dX12_begin_21 : decode cX12_begin 21 = .ok (.iload_n 1, 1) := by decide +kernel
theorem dX12_begin_22 : decode cX12_begin 22 = .ok (.bipush 64, 2) := by decide +kernel
theorem dX12_begin_24 : decode cX12_begin 24 = .ok (.if_icmp .ge 45, 3) := by decide +kernel
theorem dX12_begin_27 : decode cX12_begin 27 = .ok (.aload_n 0, 1) := by decide +kernel
theorem dX12_begin_28 : decode cX12_begin 28 = .ok (.getfield 152, 3) := by decide +kernel
theorem dX12_begin_31 : decode cX12_begin 31 = .ok (.iload_n 1, 1) := by decide +kernel
theorem dX12_begin_32 : decode cX12_begin 32 = .ok (.aload_n 0, 1) := by decide +kernel
theorem dX12_begin_33 : decode cX12_begin 33 = .ok (.getfield 119, 3) := by decide +kernel
theorem dX12_begin_36 : decode cX12_begin 36 = .ok (.iload_n 1, 1) := by decide +kernel
theorem dX12_begin_37 : decode cX12_begin 37 = .ok (.iaload, 1) := by decide +kernel
theorem dX12_begin_38 : decode cX12_begin 38 = .ok (.iastore, 1) := by decide +kernel
theorem dX12_begin_39 : decode cX12_begin 39 = .ok (.aload_n 0, 1) := by decide +kernel
theorem dX12_begin_40 : decode cX12_begin 40 = .ok (.getfield 155, 3) := by decide +kernel
theorem dX12_begin_43 : decode cX12_begin 43 = .ok (.iload_n 1, 1) := by decide +kernel
theorem dX12_begin_44 : decode cX12_begin 44 = .ok (.aload_n 0, 1) := by decide +kernel
theorem dX12_begin_45 : decode cX12_begin 45 = .ok (.getfield 122, 3) := by decide +kernel
theorem dX12_begin_48 : decode cX12_begin 48 = .ok (.iload_n 1, 1) := by decide +kernel
theorem dX12_begin_49 : decode cX12_begin 49 = .ok (.iaload, 1) := by decide +kernel
theorem dX12_begin_50 : decode cX12_begin 50 = .ok (.iastore, 1) := by decide +kernel
theorem dX12_begin_51 : decode cX12_begin 51 = .ok (.aload_n 0, 1) := by decide +kernel
theorem dX12_begin_52 : decode cX12_begin 52 = .ok (.getfield 158, 3) := by decide +kernel
theorem dX12_begin_55 : decode cX12_begin 55 = .ok (.iload_n 1, 1) := by decide +kernel
theorem dX12_begin_56 : decode cX12_begin 56 = .ok (.aload_n 0, 1) := by decide +kernel
theorem dX12_begin_57 : decode cX12_begin 57 = .ok (.getfield 125, 3) := by decide +kernel
theorem dX12_begin_60 : decode cX12_begin 60 = .ok (.iload_n 1, 1) := by decide +kernel
theorem dX12_begin_61 : decode cX12_begin 61 = .ok (.iaload, 1) := by decide +kernel
theorem dX12_begin_62 : decode cX12_begin 62 = .ok (.iastore, 1) := by decide +kernel
theorem dX12_begin_63 : decode cX12_begin 63 = .ok (.iinc 1 1, 3) := by decide +kernel
theorem dX12_begin_66 : decode cX12_begin 66 = .ok (.goto (-45), 3) := by decide +kernel
theorem dX12_begin_69 : decode cX12_begin 69 = .ok (.return_, 1) := by decide +kernel
theorem dX12_breaks_0 : decode cX12_breaks 0 = .ok (.aload_n 0, 1) := by decide +kernel
theorem dX12_breaks_1 : decode cX12_breaks 1 = .ok (.aload_n 0, 1) := by decide +kernel
theorem dX12_breaks_2 : decode cX12_breaks 2 = .ok (.getfield 98, 3) := by decide +kernel
theorem dX12_breaks_5 : decode cX12_breaks 5 = .ok (.iload_n 1, 1) := by decide +kernel
theorem dX12_breaks_6 : decode cX12_breaks 6 = .ok (.iaload, 1) := by decide +kernel
theorem dX12_breaks_7 : decode cX12_breaks 7 = .ok (.iload_n 2, 1) := by decide +kernel
theorem dX12_breaks_8 : decode cX12_breaks 8 = .ok (.iload_n 3, 1) := by decide +kernel
theorem dX12_breaks_9 : decode cX12_breaks 9 = .ok (.invokevirtual 300, 3) := by decide +kernel
theorem dX12_breaks_12 : decode cX12_breaks 12 = .ok (.istore 4, 2) := by decide +kernel
theorem dX12_breaks_14 : decode cX12_breaks 14 = .ok (.aload_n 0, 1) := by decide +kernel
theorem dX12_breaks_15 : decode cX12_breaks 15 = .ok (.aload_n 0, 1) := by decide +kernel
theorem dX12_breaks_16 : decode cX12_breaks 16 = .ok (.getfield 101, 3) := by decide +kernel
theorem dX12_breaks_19 : decode cX12_breaks 19 = .ok (.iload_n 1, 1) := by decide +kernel
theorem dX12_breaks_20 : decode cX12_breaks 20 = .ok (.iaload, 1) := by decide +kernel
theorem dX12_breaks_21 : decode cX12_breaks 21 = .ok (.iload_n 2, 1) := by decide +kernel
theorem dX12_breaks_22 : decode cX12_breaks 22 = .ok (.iload_n 3, 1) := by decide +kernel
theorem dX12_breaks_23 : decode cX12_breaks 23 = .ok (.invokevirtual 300, 3) := by decide +kernel
theorem dX12_breaks_26 : decode cX12_breaks 26 = .ok (.istore 5, 2) := by decide +kernel
theorem dX12_breaks_28 : decode cX12_breaks 28 = .ok (.aload_n 0, 1) := by decide +kernel
theorem dX12_breaks_29 : decode cX12_breaks 29 = .ok (.getfield 95, 3) := by decide +kernel
theorem dX12_breaks_32 : decode cX12_breaks 32 = .ok (.iload_n 1, 1) := by decide +kernel
theorem dX12_breaks_33 : decode cX12_breaks 33 = .ok (.iaload, 1) := by decide +kernel
theorem dX12_breaks_34 : decode cX12_breaks 34 = .ok (.bipush 60, 2) := by decide +kernel
theorem dX12_breaks_36 : decode cX12_breaks 36 = .ok (.if_icmp .ne 23, 3) := by decide +kernel
theorem dX12_breaks_39 : decode cX12_breaks 39 = .ok (.iload 5, 2) := by decide +kernel
theorem dX12_breaks_41 : decode cX12_breaks 41 = .ok (.ifCond .eq 16, 3) := by decide +kernel
theorem dX12_breaks_44 : decode cX12_breaks 44 = .ok (.aload_n 0, 1) := by decide +kernel
theorem dX12_breaks_45 : decode cX12_breaks 45 = .ok (.getfield 116, 3) := by decide +kernel
theorem dX12_breaks_48 : decode cX12_breaks 48 = .ok (.iload_n 1, 1) := by decide +kernel
theorem dX12_breaks_49 : decode cX12_breaks 49 = .ok (.baload, 1) := by decide +kernel
theorem dX12_breaks_50 : decode cX12_breaks 50 = .ok (.ifCond .ne 7, 3) := by decide +kernel
theorem dX12_breaks_53 : decode cX12_breaks 53 = .ok (.iconst 1, 1) := by decide +kernel
theorem dX12_breaks_54 : decode cX12_breaks 54 = .ok (.goto 4, 3) := by decide +kernel
theorem dX12_breaks_57 : decode cX12_breaks 57 = .ok (.iconst 0, 1) := by decide +kernel
theorem dX12_breaks_58 : decode cX12_breaks 58 = .ok (.ireturn, 1) := by decide +kernel
theorem dX12_breaks_59 : decode cX12_breaks 59 = .ok (.aload_n 0, 1) := by decide +kernel
theorem dX12_breaks_60 : decode cX12_breaks 60 = .ok (.getfield 95, 3) := by decide +kernel
theorem dX12_breaks_63 : decode cX12_breaks 63 = .ok (.iload_n 1, 1) := by decide +kernel
theorem dX12_breaks_64 : decode cX12_breaks 64 = .ok (.iaload, 1) := by decide +kernel
theorem dX12_breaks_65 : decode cX12_breaks 65 = .ok (.bipush 38, 2) := by decide +kernel
theorem dX12_breaks_67 : decode cX12_breaks 67 = .ok (.if_icmp .ne 34, 3) := by decide +kernel
theorem dX12_breaks_70 : decode cX12_breaks 70 = .ok (.iload 4, 2) := by decide +kernel
theorem dX12_breaks_72 : decode cX12_breaks 72 = .ok (.ifCond .eq 27, 3) := by decide +kernel
theorem dX12_breaks_75 : decode cX12_breaks 75 = .ok (.aload_n 0, 1) := by decide +kernel
theorem dX12_breaks_76 : decode cX12_breaks 76 = .ok (.getfield 107, 3) := by decide +kernel
theorem dX12_breaks_79 : decode cX12_breaks 79 = .ok (.aload_n 0, 1) := by decide +kernel
theorem dX12_breaks_80 : decode cX12_breaks 80 = .ok (.getfield 101, 3) := by decide +kernel
theorem dX12_breaks_83 : decode cX12_breaks 83 = .ok (.iload_n 1, 1) := by decide +kernel
theorem dX12_breaks_84 : decode cX12_breaks 84 = .ok (.iaload, 1) := by decide +kernel
theorem dX12_breaks_85 : decode cX12_breaks 85 = .ok (.iaload, 1) := by decide +kernel
theorem dX12_breaks_86 : decode cX12_breaks 86 = .ok (.aload_n 0, 1) := by decide +kernel
theorem dX12_breaks_87 : decode cX12_breaks 87 = .ok (.getfield 104, 3) := by decide +kernel
theorem dX12_breaks_90 : decode cX12_breaks 90 = .ok (.iload_n 1, 1) := by decide +kernel
theorem dX12_breaks_91 : decode cX12_breaks 91 = .ok (.iaload, 1) := by decide +kernel
theorem dX12_breaks_92 : decode cX12_breaks 92 = .ok (.if_icmp .eq 7, 3) := by decide +kernel
theorem dX12_breaks_95 : decode cX12_breaks 95 = .ok (.iconst 1, 1) := by decide +kernel
theorem dX12_breaks_96 : decode cX12_breaks 96 = .ok (.goto 4, 3) := by decide +kernel
theorem dX12_breaks_99 : decode cX12_breaks 99 = .ok (.iconst 0, 1) := by decide +kernel
theorem dX12_breaks_100 : decode cX12_breaks 100 = .ok (.ireturn, 1) := by decide +kernel
theorem dX12_breaks_101 : decode cX12_breaks 101 = .ok (.iload 4, 2) := by decide +kernel
theorem dX12_breaks_103 : decode cX12_breaks 103 = .ok (.ifCond .eq 16, 3) := by decide +kernel
theorem dX12_breaks_106 : decode cX12_breaks 106 = .ok (.aload_n 0, 1) := by decide +kernel
theorem dX12_breaks_107 : decode cX12_breaks 107 = .ok (.getfield 116, 3) := by decide +kernel
theorem dX12_breaks_110 : decode cX12_breaks 110 = .ok (.iload_n 1, 1) := by decide +kernel
