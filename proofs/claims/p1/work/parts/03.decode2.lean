theorem dX11_found_43 : decode cX11_found 43 = .ok (.ifCond .eq 7, 3) := by decide +kernel
theorem dX11_found_50 : decode cX11_found 50 = .ok (.aload_n 0, 1) := by decide +kernel
theorem dX11_found_51 : decode cX11_found 51 = .ok (.getfield 72, 3) := by decide +kernel
theorem dX11_found_54 : decode cX11_found 54 = .ok (.getfield 258, 3) := by decide +kernel
theorem dX11_found_57 : decode cX11_found 57 = .ok (.ireturn, 1) := by decide +kernel
theorem dX11_found_58 : decode cX11_found 58 = .ok (.iconst (-1), 1) := by decide +kernel
theorem dX11_found_59 : decode cX11_found 59 = .ok (.ireturn, 1) := by decide +kernel
theorem dX11_hasMap_0 : decode cX11_hasMap 0 = .ok (.aload_n 0, 1) := by decide +kernel
theorem dX11_hasMap_1 : decode cX11_hasMap 1 = .ok (.getfield 35, 3) := by decide +kernel
theorem dX11_hasMap_4 : decode cX11_hasMap 4 = .ok (.getfield 107, 3) := by decide +kernel
theorem dX11_hasMap_7 : decode cX11_hasMap 7 = .ok (.ifCond .le 7, 3) := by decide +kernel
theorem dX11_hasMap_14 : decode cX11_hasMap 14 = .ok (.iconst 0, 1) := by decide +kernel
theorem dX11_hasMap_15 : decode cX11_hasMap 15 = .ok (.ireturn, 1) := by decide +kernel
theorem dX11_init_0 : decode cX11_init 0 = .ok (.aload_n 0, 1) := by decide +kernel
theorem dX11_init_1 : decode cX11_init 1 = .ok (.invokespecial 3, 3) := by decide +kernel
theorem dX11_init_4 : decode cX11_init 4 = .ok (.aload_n 0, 1) := by decide +kernel
theorem dX11_init_5 : decode cX11_init 5 = .ok (.new 9, 3) := by decide +kernel
theorem dX11_init_8 : decode cX11_init 8 = .ok (.dup, 1) := by decide +kernel
theorem dX11_init_9 : decode cX11_init 9 = .ok (.invokespecial 11, 3) := by decide +kernel
theorem dX11_init_12 : decode cX11_init 12 = .ok (.putfield 12, 3) := by decide +kernel
theorem dX11_init_15 : decode cX11_init 15 = .ok (.aload_n 0, 1) := by decide +kernel
theorem dX11_init_16 : decode cX11_init 16 = .ok (.new 16, 3) := by decide +kernel
theorem dX11_init_19 : decode cX11_init 19 = .ok (.dup, 1) := by decide +kernel
theorem dX11_init_20 : decode cX11_init 20 = .ok (.aload_n 0, 1) := by decide +kernel
theorem dX11_init_21 : decode cX11_init 21 = .ok (.getfield 12, 3) := by decide +kernel
theorem dX11_init_24 : decode cX11_init 24 = .ok (.invokespecial 18, 3) := by decide +kernel
theorem dX11_init_27 : decode cX11_init 27 = .ok (.putfield 21, 3) := by decide +kernel
theorem dX11_init_30 : decode cX11_init 30 = .ok (.aload_n 0, 1) := by decide +kernel
theorem dX11_init_31 : decode cX11_init 31 = .ok (.new 25, 3) := by decide +kernel
theorem dX11_init_34 : decode cX11_init 34 = .ok (.dup, 1) := by decide +kernel
theorem dX11_init_35 : decode cX11_init 35 = .ok (.aload_n 0, 1) := by decide +kernel
theorem dX11_init_36 : decode cX11_init 36 = .ok (.getfield 12, 3) := by decide +kernel
theorem dX11_init_39 : decode cX11_init 39 = .ok (.invokespecial 27, 3) := by decide +kernel
theorem dX11_init_42 : decode cX11_init 42 = .ok (.putfield 28, 3) := by decide +kernel
theorem dX11_init_45 : decode cX11_init 45 = .ok (.aload_n 0, 1) := by decide +kernel
theorem dX11_init_46 : decode cX11_init 46 = .ok (.new 32, 3) := by decide +kernel
theorem dX11_init_49 : decode cX11_init 49 = .ok (.dup, 1) := by decide +kernel
theorem dX11_init_50 : decode cX11_init 50 = .ok (.invokespecial 34, 3) := by decide +kernel
theorem dX11_init_53 : decode cX11_init 53 = .ok (.putfield 35, 3) := by decide +kernel
theorem dX11_init_56 : decode cX11_init 56 = .ok (.aload_n 0, 1) := by decide +kernel
theorem dX11_init_57 : decode cX11_init 57 = .ok (.new 39, 3) := by decide +kernel
theorem dX11_init_60 : decode cX11_init 60 = .ok (.dup, 1) := by decide +kernel
theorem dX11_init_61 : decode cX11_init 61 = .ok (.aload_n 0, 1) := by decide +kernel
theorem dX11_init_62 : decode cX11_init 62 = .ok (.getfield 35, 3) := by decide +kernel
theorem dX11_init_65 : decode cX11_init 65 = .ok (.invokespecial 41, 3) := by decide +kernel
theorem dX11_init_68 : decode cX11_init 68 = .ok (.putfield 44, 3) := by decide +kernel
theorem dX11_init_71 : decode cX11_init 71 = .ok (.aload_n 0, 1) := by decide +kernel
theorem dX11_init_72 : decode cX11_init 72 = .ok (.new 48, 3) := by decide +kernel
theorem dX11_init_75 : decode cX11_init 75 = .ok (.dup, 1) := by decide +kernel
theorem dX11_init_76 : decode cX11_init 76 = .ok (.aload_n 0, 1) := by decide +kernel
theorem dX11_init_77 : decode cX11_init 77 = .ok (.getfield 35, 3) := by decide +kernel
theorem dX11_init_80 : decode cX11_init 80 = .ok (.invokespecial 50, 3) := by decide +kernel
theorem dX11_init_83 : decode cX11_init 83 = .ok (.putfield 51, 3) := by decide +kernel
theorem dX11_init_86 : decode cX11_init 86 = .ok (.aload_n 0, 1) := by decide +kernel
theorem dX11_init_87 : decode cX11_init 87 = .ok (.new 55, 3) := by decide +kernel
theorem dX11_init_90 : decode cX11_init 90 = .ok (.dup, 1) := by decide +kernel
theorem dX11_init_91 : decode cX11_init 91 = .ok (.bipush 8, 2) := by decide +kernel
theorem dX11_init_93 : decode cX11_init 93 = .ok (.invokespecial 57, 3) := by decide +kernel
theorem dX11_init_96 : decode cX11_init 96 = .ok (.putfield 60, 3) := by decide +kernel
theorem dX11_init_99 : decode cX11_init 99 = .ok (.aload_n 0, 1) := by decide +kernel
theorem dX11_init_100 : decode cX11_init 100 = .ok (.new 55, 3) := by decide +kernel
theorem dX11_init_103 : decode cX11_init 103 = .ok (.dup, 1) := by decide +kernel
theorem dX11_init_104 : decode cX11_init 104 = .ok (.bipush 40, 2) := by decide +kernel
theorem dX11_init_106 : decode cX11_init 106 = .ok (.invokespecial 57, 3) := by decide +kernel
theorem dX11_init_109 : decode cX11_init 109 = .ok (.putfield 64, 3) := by decide +kernel
theorem dX11_init_112 : decode cX11_init 112 = .ok (.aload_n 0, 1) := by decide +kernel
theorem dX11_init_113 : decode cX11_init 113 = .ok (.new 67, 3) := by decide +kernel
theorem dX11_init_116 : decode cX11_init 116 = .ok (.dup, 1) := by decide +kernel
theorem dX11_init_117 : decode cX11_init 117 = .ok (.aload_n 0, 1) := by decide +kernel
theorem dX11_init_118 : decode cX11_init 118 = .ok (.getfield 35, 3) := by decide +kernel
theorem dX11_init_121 : decode cX11_init 121 = .ok (.aload_n 0, 1) := by decide +kernel
theorem dX11_init_122 : decode cX11_init 122 = .ok (.getfield 64, 3) := by decide +kernel
theorem dX11_init_125 : decode cX11_init 125 = .ok (.aload_n 0, 1) := by decide +kernel
theorem dX11_init_126 : decode cX11_init 126 = .ok (.getfield 51, 3) := by decide +kernel
theorem dX11_init_129 : decode cX11_init 129 = .ok (.invokespecial 69, 3) := by decide +kernel
theorem dX11_init_132 : decode cX11_init 132 = .ok (.putfield 72, 3) := by decide +kernel
theorem dX11_init_135 : decode cX11_init 135 = .ok (.return_, 1) := by decide +kernel
theorem dX11_join_0 : decode cX11_join 0 = .ok (.aload_n 0, 1) := by decide +kernel
theorem dX11_join_1 : decode cX11_join 1 = .ok (.getfield 35, 3) := by decide +kernel
theorem dX11_join_4 : decode cX11_join 4 = .ok (.iload_n 1, 1) := by decide +kernel
theorem dX11_join_5 : decode cX11_join 5 = .ok (.iload_n 2, 1) := by decide +kernel
theorem dX11_join_6 : decode cX11_join 6 = .ok (.invokevirtual 182, 3) := by decide +kernel
theorem dX11_join_9 : decode cX11_join 9 = .ok (.ifCond .eq 13, 3) := by decide +kernel
theorem dX11_join_22 : decode cX11_join 22 = .ok (.iconst (-1), 1) := by decide +kernel
theorem dX11_join_23 : decode cX11_join 23 = .ok (.ireturn, 1) := by decide +kernel
theorem dX11_poke_0 : decode cX11_poke 0 = .ok (.aload_n 0, 1) := by decide +kernel
theorem dX11_poke_1 : decode cX11_poke 1 = .ok (.getfield 35, 3) := by decide +kernel
theorem dX11_poke_4 : decode cX11_poke 4 = .ok (.iload_n 1, 1) := by decide +kernel
theorem dX11_poke_5 : decode cX11_poke 5 = .ok (.invokevirtual 113, 3) := by decide +kernel
theorem dX11_poke_8 : decode cX11_poke 8 = .ok (.ifCond .eq 15, 3) := by decide +kernel
theorem dX11_poke_23 : decode cX11_poke 23 = .ok (.iconst 0, 1) := by decide +kernel
theorem dX11_poke_24 : decode cX11_poke 24 = .ok (.ireturn, 1) := by decide +kernel
theorem dX11_put_0 : decode cX11_put 0 = .ok (.aload_n 0, 1) := by decide +kernel
theorem dX11_put_1 : decode cX11_put 1 = .ok (.getfield 35, 3) := by decide +kernel
theorem dX11_put_4 : decode cX11_put 4 = .ok (.iload_n 1, 1) := by decide +kernel
theorem dX11_put_5 : decode cX11_put 5 = .ok (.iload_n 2, 1) := by decide +kernel
theorem dX11_put_6 : decode cX11_put 6 = .ok (.invokevirtual 182, 3) := by decide +kernel
theorem dX11_put_9 : decode cX11_put 9 = .ok (.ifCond .eq 13, 3) := by decide +kernel
theorem dX11_put_22 : decode cX11_put 22 = .ok (.iconst (-1), 1) := by decide +kernel
theorem dX11_put_23 : decode cX11_put 23 = .ok (.ireturn, 1) := by decide +kernel
theorem dX11_reset_0 : decode cX11_reset 0 = .ok (.aload_n 0, 1) := by decide +kernel
theorem dX11_reset_1 : decode cX11_reset 1 = .ok (.invokevirtual 138, 3) := by decide +kernel
theorem dX11_reset_4 : decode cX11_reset 4 = .ok (.ifCond .ne 5, 3) := by decide +kernel
theorem dX11_reset_7 : decode cX11_reset 7 = .ok (.iconst 0, 1) := by decide +kernel
theorem dX11_reset_8 : decode cX11_reset 8 = .ok (.ireturn, 1) := by decide +kernel
theorem dX11_run_0 : decode cX11_run 0 = .ok (.aload_n 0, 1) := by decide +kernel
theorem dX11_run_1 : decode cX11_run 1 = .ok (.invokevirtual 138, 3) := by decide +kernel
theorem dX11_run_4 : decode cX11_run 4 = .ok (.ifCond .eq 13, 3) := by decide +kernel
theorem dX11_run_17 : decode cX11_run 17 = .ok (.iconst (-1), 1) := by decide +kernel
theorem dX11_run_18 : decode cX11_run 18 = .ok (.ireturn, 1) := by decide +kernel
theorem dX11_state_0 : decode cX11_state 0 = .ok (.iload_n 1, 1) := by decide +kernel
theorem dX11_state_1 : decode cX11_state 1 = .ok (.tableswitch 81 0 4 #[35, 46, 54, 62, 70], 35) := by decide +kernel
theorem dX11_state_36 : decode cX11_state 36 = .ok (.aload_n 0, 1) := by decide +kernel
theorem dX11_state_37 : decode cX11_state 37 = .ok (.getfield 44, 3) := by decide +kernel
theorem dX11_state_40 : decode cX11_state 40 = .ok (.getfield 224, 3) := by decide +kernel
theorem dX11_state_43 : decode cX11_state 43 = .ok (.getfield 269, 3) := by decide +kernel
theorem dX11_state_46 : decode cX11_state 46 = .ok (.ireturn, 1) := by decide +kernel
theorem dX11_state_47 : decode cX11_state 47 = .ok (.aload_n 0, 1) := by decide +kernel
theorem dX11_state_48 : decode cX11_state 48 = .ok (.getfield 44, 3) := by decide +kernel
theorem dX11_state_51 : decode cX11_state 51 = .ok (.getfield 158, 3) := by decide +kernel
theorem dX11_state_54 : decode cX11_state 54 = .ok (.ireturn, 1) := by decide +kernel
theorem dX11_state_55 : decode cX11_state 55 = .ok (.aload_n 0, 1) := by decide +kernel
theorem dX11_state_56 : decode cX11_state 56 = .ok (.getfield 60, 3) := by decide +kernel
theorem dX11_state_59 : decode cX11_state 59 = .ok (.getfield 101, 3) := by decide +kernel
theorem dX11_state_62 : decode cX11_state 62 = .ok (.ireturn, 1) := by decide +kernel
theorem dX11_state_63 : decode cX11_state 63 = .ok (.aload_n 0, 1) := by decide +kernel
theorem dX11_state_64 : decode cX11_state 64 = .ok (.getfield 64, 3) := by decide +kernel
theorem dX11_state_67 : decode cX11_state 67 = .ok (.getfield 101, 3) := by decide +kernel
theorem dX11_state_70 : decode cX11_state 70 = .ok (.ireturn, 1) := by decide +kernel
theorem dX11_state_71 : decode cX11_state 71 = .ok (.aload_n 0, 1) := by decide +kernel
theorem dX11_state_72 : decode cX11_state 72 = .ok (.getfield 35, 3) := by decide +kernel
theorem dX11_state_75 : decode cX11_state 75 = .ok (.getfield 270, 3) := by decide +kernel
theorem dX11_state_78 : decode cX11_state 78 = .ok (.getfield 274, 3) := by decide +kernel
theorem dX11_state_81 : decode cX11_state 81 = .ok (.ireturn, 1) := by decide +kernel
theorem dX11_state_82 : decode cX11_state 82 = .ok (.iconst (-1), 1) := by decide +kernel
theorem dX11_state_83 : decode cX11_state 83 = .ok (.ireturn, 1) := by decide +kernel
theorem dX11_step_0 : decode cX11_step 0 = .ok (.aload_n 0, 1) := by decide +kernel
theorem dX11_step_1 : decode cX11_step 1 = .ok (.getfield 64, 3) := by decide +kernel
theorem dX11_step_4 : decode cX11_step 4 = .ok (.invokevirtual 211, 3) := by decide +kernel
theorem dX11_step_7 : decode cX11_step 7 = .ok (.ifCond .ne 20, 3) := by decide +kernel
theorem dX11_step_10 : decode cX11_step 10 = .ok (.aload_n 0, 1) := by decide +kernel
theorem dX11_step_11 : decode cX11_step 11 = .ok (.invokevirtual 138, 3) := by decide +kernel
theorem dX11_step_14 : decode cX11_step 14 = .ok (.ifCond .eq 13, 3) := by decide +kernel
theorem dX11_step_27 : decode cX11_step 27 = .ok (.iconst (-1), 1) := by decide +kernel
theorem dX11_step_28 : decode cX11_step 28 = .ok (.ireturn, 1) := by decide +kernel
theorem dX11_trace_0 : decode cX11_trace 0 = .ok (.aload_n 0, 1) := by decide +kernel
theorem dX11_trace_1 : decode cX11_trace 1 = .ok (.getfield 44, 3) := by decide +kernel
theorem dX11_trace_4 : decode cX11_trace 4 = .ok (.getfield 224, 3) := by decide +kernel
theorem dX11_trace_7 : decode cX11_trace 7 = .ok (.astore_n 3, 1) := by decide +kernel
theorem dX11_trace_8 : decode cX11_trace 8 = .ok (.aload_n 3, 1) := by decide +kernel
theorem dX11_trace_9 : decode cX11_trace 9 = .ok (.iload_n 1, 1) := by decide +kernel
theorem dX11_trace_10 : decode cX11_trace 10 = .ok (.invokevirtual 228, 3) := by decide +kernel
theorem dX11_trace_13 : decode cX11_trace 13 = .ok (.istore 4, 2) := by decide +kernel
theorem dX11_trace_15 : decode cX11_trace 15 = .ok (.iload 4, 2) := by decide +kernel
theorem dX11_trace_17 : decode cX11_trace 17 = .ok (.iconst (-1), 1) := by decide +kernel
theorem dX11_trace_18 : decode cX11_trace 18 = .ok (.if_icmp .ne 5, 3) := by decide +kernel
theorem dX11_trace_21 : decode cX11_trace 21 = .ok (.iconst (-1), 1) := by decide +kernel
theorem dX11_trace_22 : decode cX11_trace 22 = .ok (.ireturn, 1) := by decide +kernel
theorem dX11_type_0 : decode cX11_type 0 = .ok (.aload_n 0, 1) := by decide +kernel
theorem dX11_type_1 : decode cX11_type 1 = .ok (.getfield 21, 3) := by decide +kernel
theorem dX11_type_4 : decode cX11_type 4 = .ok (.lload_n 1, 1) := by decide +kernel
theorem dX11_type_5 : decode cX11_type 5 = .ok (.iload_n 3, 1) := by decide +kernel
theorem dX11_type_6 : decode cX11_type 6 = .ok (.invokevirtual 76, 3) := by decide +kernel
theorem dX11_type_9 : decode cX11_type 9 = .ok (.ireturn, 1) := by decide +kernel
theorem dX12_begin_0 : decode cX12_begin 0 = .ok (.aload_n 0, 1) := by decide +kernel
theorem dX12_begin_1 : decode cX12_begin 1 = .ok (.iconst 0, 1) := by decide +kernel
theorem dX12_begin_2 : decode cX12_begin 2 = .ok (.putfield 337, 3) := by decide +kernel
theorem dX12_begin_5 : decode cX12_begin 5 = .ok (.aload_n 0, 1) := by decide +kernel
theorem dX12_begin_6 : decode cX12_begin 6 = .ok (.iconst 0, 1) := by decide +kernel
theorem dX12_begin_7 : decode cX12_begin 7 = .ok (.iconst 1, 1) := by decide +kernel
theorem dX12_begin_8 : decode cX12_begin 8 = .ok (.invokevirtual 360, 3) := by decide +kernel
theorem dX12_begin_11 : decode cX12_begin 11 = .ok (.aload_n 0, 1) := by decide +kernel
theorem dX12_begin_12 : decode cX12_begin 12 = .ok (.aload_n 0, 1) := by decide +kernel
theorem dX12_begin_13 : decode cX12_begin 13 = .ok (.getfield 282, 3) := by decide +kernel
theorem dX12_begin_16 : decode cX12_begin 16 = .ok (.putfield 363, 3) := by decide +kernel
theorem dX12_begin_19 : decode cX12_begin 19 = .ok (.iconst 0, 1) := by decide +kernel
theorem dX12_begin_20 : decode cX12_begin 20 = .ok (.istore_n 1, 1) := by decide +kernel
theorem dX12_begin_21 : decode cX12_begin 21 = .ok (.iload_n 1, 1) := by decide +kernel
theorem dX12_begin_22 : decode cX12_begin 22 = .ok (.bipush 64, 2) := by decide +kernel
theorem dX12_begin_24 : decode cX12_begin 24 = .ok (.if_icmp .ge 45, 3) := by decide +kernel
theorem dX12_begin_27 : decode cX12_begin 27 = .ok (.aload_n 0, 1) := by decide +kernel
theorem dX12_begin_28 : decode cX12_begin 28 = .ok (.getfield 152, 3) := by decide +kernel
theorem dX12_begin_31 : decode cX12_begin 31 = .ok (.iload_n 1, 1) := by decide +kernel
theorem dX12_begin_32 : decode cX12_begin 32 = .ok (.aload_n 0, 1) := by decide +kernel
theorem dX12_begin_33 : decode cX12_begin 33 = .ok (.getfield 119, 3) := by decide +kernel
theorem dX12_begin_36 : decode cX12_begin 36 = .ok (.iload_n 1, 1) := by decide +kernel
theorem dX12_begin_37 : decode cX12_begin 37 = .ok (.iaload, 1) := by decide +kernel
theorem dX12_begin_38 : decode cX12_begin 38 = .ok (.iastore, 1) := by decide +kernel
theorem dX12_begin_39 : decode cX12_begin 39 = .ok (.aload_n 0, 1) := by decide +kernel
theorem dX12_begin_40 : decode cX12_begin 40 = .ok (.getfield 155, 3) := by decide +kernel
theorem dX12_begin_43 : decode cX12_begin 43 = .ok (.iload_n 1, 1) := by decide +kernel
theorem dX12_begin_44 : decode cX12_begin 44 = .ok (.aload_n 0, 1) := by decide +kernel
theorem dX12_begin_45 : decode cX12_begin 45 = .ok (.getfield 122, 3) := by decide +kernel
theorem dX12_begin_48 : decode cX12_begin 48 = .ok (.iload_n 1, 1) := by decide +kernel
theorem dX12_begin_49 : decode cX12_begin 49 = .ok (.iaload, 1) := by decide +kernel
theorem dX12_begin_50 : decode cX12_begin 50 = .ok (.iastore, 1) := by decide +kernel
theorem dX12_begin_51 : decode cX12_begin 51 = .ok (.aload_n 0, 1) := by decide +kernel
theorem dX12_begin_52 : decode cX12_begin 52 = .ok (.getfield 158, 3) := by decide +kernel
theorem dX12_begin_55 : decode cX12_begin 55 = .ok (.iload_n 1, 1) := by decide +kernel
theorem dX12_begin_56 : decode cX12_begin 56 = .ok (.aload_n 0, 1) := by decide +kernel
theorem dX12_begin_57 : decode cX12_begin 57 = .ok (.getfield 125, 3) := by decide +kernel
theorem dX12_begin_60 : decode cX12_begin 60 = .ok (.iload_n 1, 1) := by decide +kernel
theorem dX12_begin_61 : decode cX12_begin 61 = .ok (.iaload, 1) := by decide +kernel
theorem dX12_begin_62 : decode cX12_begin 62 = .ok (.iastore, 1) := by decide +kernel
theorem dX12_begin_63 : decode cX12_begin 63 = .ok (.iinc 1 1, 3) := by decide +kernel
theorem dX12_begin_66 : decode cX12_begin 66 = .ok (.goto (-45), 3) := by decide +kernel
theorem dX12_begin_69 : decode cX12_begin 69 = .ok (.return_, 1) := by decide +kernel
theorem dX12_busRead_0 : decode cX12_busRead 0 = .ok (.aload_n 0, 1) := by decide +kernel
theorem dX12_busRead_1 : decode cX12_busRead 1 = .ok (.iconst 0, 1) := by decide +kernel
theorem dX12_busRead_2 : decode cX12_busRead 2 = .ok (.putfield 161, 3) := by decide +kernel
theorem dX12_busRead_5 : decode cX12_busRead 5 = .ok (.aload_n 0, 1) := by decide +kernel
theorem dX12_busRead_6 : decode cX12_busRead 6 = .ok (.getfield 257, 3) := by decide +kernel
theorem dX12_busRead_9 : decode cX12_busRead 9 = .ok (.ifCond .eq 11, 3) := by decide +kernel
theorem dX12_busRead_20 : decode cX12_busRead 20 = .ok (.iconst (-1), 1) := by decide +kernel
theorem dX12_busRead_21 : decode cX12_busRead 21 = .ok (.istore_n 2, 1) := by decide +kernel
theorem dX12_busRead_22 : decode cX12_busRead 22 = .ok (.iload_n 2, 1) := by decide +kernel
theorem dX12_busRead_23 : decode cX12_busRead 23 = .ok (.iconst (-1), 1) := by decide +kernel
theorem dX12_busRead_24 : decode cX12_busRead 24 = .ok (.if_icmp .ne 7, 3) := by decide +kernel
theorem dX12_busRead_27 : decode cX12_busRead 27 = .ok (.iconst (-1), 1) := by decide +kernel
theorem dX12_busRead_28 : decode cX12_busRead 28 = .ok (.goto 8, 3) := by decide +kernel
theorem dX12_busRead_36 : decode cX12_busRead 36 = .ok (.ireturn, 1) := by decide +kernel
theorem dX12_busWrite_0 : decode cX12_busWrite 0 = .ok (.aload_n 0, 1) := by decide +kernel
theorem dX12_busWrite_1 : decode cX12_busWrite 1 = .ok (.iconst 0, 1) := by decide +kernel
theorem dX12_busWrite_2 : decode cX12_busWrite 2 = .ok (.putfield 161, 3) := by decide +kernel
theorem dX12_busWrite_5 : decode cX12_busWrite 5 = .ok (.aload_n 0, 1) := by decide +kernel
theorem dX12_busWrite_6 : decode cX12_busWrite 6 = .ok (.getfield 257, 3) := by decide +kernel
theorem dX12_busWrite_9 : decode cX12_busWrite 9 = .ok (.ifCond .eq 11, 3) := by decide +kernel
theorem dX12_busWrite_20 : decode cX12_busWrite 20 = .ok (.iconst (-1), 1) := by decide +kernel
theorem dX12_busWrite_21 : decode cX12_busWrite 21 = .ok (.istore_n 3, 1) := by decide +kernel
theorem dX12_busWrite_22 : decode cX12_busWrite 22 = .ok (.iload_n 3, 1) := by decide +kernel
theorem dX12_busWrite_23 : decode cX12_busWrite 23 = .ok (.iconst (-1), 1) := by decide +kernel
theorem dX12_busWrite_24 : decode cX12_busWrite 24 = .ok (.if_icmp .ne 5, 3) := by decide +kernel
theorem dX12_busWrite_27 : decode cX12_busWrite 27 = .ok (.iconst (-1), 1) := by decide +kernel
theorem dX12_busWrite_28 : decode cX12_busWrite 28 = .ok (.ireturn, 1) := by decide +kernel
theorem dX12_check_0 : decode cX12_check 0 = .ok (.aload_n 0, 1) := by decide +kernel
theorem dX12_check_1 : decode cX12_check 1 = .ok (.iconst 0, 1) := by decide +kernel
theorem dX12_check_2 : decode cX12_check 2 = .ok (.putfield 161, 3) := by decide +kernel
theorem dX12_check_5 : decode cX12_check 5 = .ok (.aload_n 0, 1) := by decide +kernel
theorem dX12_check_6 : decode cX12_check 6 = .ok (.getfield 257, 3) := by decide +kernel
theorem dX12_check_9 : decode cX12_check 9 = .ok (.ifCond .ne 5, 3) := by decide +kernel
theorem dX12_check_12 : decode cX12_check 12 = .ok (.iconst (-1), 1) := by decide +kernel
theorem dX12_check_13 : decode cX12_check 13 = .ok (.ireturn, 1) := by decide +kernel
theorem dX12_compile_0 : decode cX12_compile 0 = .ok (.aload_n 0, 1) := by decide +kernel
theorem dX12_compile_1 : decode cX12_compile 1 = .ok (.iconst 0, 1) := by decide +kernel
theorem dX12_compile_2 : decode cX12_compile 2 = .ok (.putfield 173, 3) := by decide +kernel
theorem dX12_compile_5 : decode cX12_compile 5 = .ok (.aload_n 0, 1) := by decide +kernel
theorem dX12_compile_6 : decode cX12_compile 6 = .ok (.iconst 0, 1) := by decide +kernel
theorem dX12_compile_7 : decode cX12_compile 7 = .ok (.putfield 176, 3) := by decide +kernel
theorem dX12_compile_10 : decode cX12_compile 10 = .ok (.aload_n 0, 1) := by decide +kernel
theorem dX12_compile_11 : decode cX12_compile 11 = .ok (.invokevirtual 251, 3) := by decide +kernel
theorem dX12_compile_14 : decode cX12_compile 14 = .ok (.istore_n 1, 1) := by decide +kernel
theorem dX12_compile_15 : decode cX12_compile 15 = .ok (.aload_n 0, 1) := by decide +kernel
theorem dX12_compile_16 : decode cX12_compile 16 = .ok (.iconst 0, 1) := by decide +kernel
theorem dX12_compile_17 : decode cX12_compile 17 = .ok (.putfield 165, 3) := by decide +kernel
theorem dX12_compile_20 : decode cX12_compile 20 = .ok (.iload_n 1, 1) := by decide +kernel
theorem dX12_compile_21 : decode cX12_compile 21 = .ok (.ifCond .ne 9, 3) := by decide +kernel
theorem dX12_compile_24 : decode cX12_compile 24 = .ok (.aload_n 0, 1) := by decide +kernel
theorem dX12_compile_25 : decode cX12_compile 25 = .ok (.iconst 1, 1) := by decide +kernel
theorem dX12_compile_26 : decode cX12_compile 26 = .ok (.invokevirtual 254, 3) := by decide +kernel
theorem dX12_compile_29 : decode cX12_compile 29 = .ok (.ireturn, 1) := by decide +kernel
