theorem dX12_state_53 : decode cX12_state 53 = .ok (.iconst 4, 1) := by decide +kernel
theorem dX12_state_54 : decode cX12_state 54 = .ok (.if_icmp .ne 10, 3) := by decide +kernel
theorem dX12_state_57 : decode cX12_state 57 = .ok (.aload_n 0, 1) := by decide +kernel
theorem dX12_state_58 : decode cX12_state 58 = .ok (.getfield 264, 3) := by decide +kernel
theorem dX12_state_61 : decode cX12_state 61 = .ok (.goto 4, 3) := by decide +kernel
theorem dX12_state_64 : decode cX12_state 64 = .ok (.iconst (-1), 1) := by decide +kernel
theorem dX12_state_65 : decode cX12_state 65 = .ok (.ireturn, 1) := by decide +kernel
theorem dX12_step_0 : decode cX12_step 0 = .ok (.aload_n 0, 1) := by decide +kernel
theorem dX12_step_1 : decode cX12_step 1 = .ok (.iconst 0, 1) := by decide +kernel
theorem dX12_step_2 : decode cX12_step 2 = .ok (.putfield 161, 3) := by decide +kernel
theorem dX12_step_5 : decode cX12_step 5 = .ok (.aload_n 0, 1) := by decide +kernel
theorem dX12_step_6 : decode cX12_step 6 = .ok (.getfield 257, 3) := by decide +kernel
theorem dX12_step_9 : decode cX12_step 9 = .ok (.ifCond .eq 62, 3) := by decide +kernel
theorem dX12_step_71 : decode cX12_step 71 = .ok (.iconst (-1), 1) := by decide +kernel
theorem dX12_step_72 : decode cX12_step 72 = .ok (.ireturn, 1) := by decide +kernel
theorem dX12_take_0 : decode cX12_take 0 = .ok (.aload_n 0, 1) := by decide +kernel
theorem dX12_take_1 : decode cX12_take 1 = .ok (.invokevirtual 179, 3) := by decide +kernel
theorem dX12_take_4 : decode cX12_take 4 = .ok (.iload_n 1, 1) := by decide +kernel
theorem dX12_take_5 : decode cX12_take 5 = .ok (.if_icmp .eq 13, 3) := by decide +kernel
theorem dX12_take_8 : decode cX12_take 8 = .ok (.aload_n 0, 1) := by decide +kernel
theorem dX12_take_9 : decode cX12_take 9 = .ok (.iconst 1, 1) := by decide +kernel
theorem dX12_take_10 : decode cX12_take 10 = .ok (.aload_n 0, 1) := by decide +kernel
theorem dX12_take_11 : decode cX12_take 11 = .ok (.getfield 170, 3) := by decide +kernel
theorem dX12_take_14 : decode cX12_take 14 = .ok (.invokevirtual 183, 3) := by decide +kernel
theorem dX12_take_17 : decode cX12_take 17 = .ok (.ireturn, 1) := by decide +kernel
theorem dX12_thrown_0 : decode cX12_thrown 0 = .ok (.aload_n 0, 1) := by decide +kernel
theorem dX12_thrown_1 : decode cX12_thrown 1 = .ok (.getfield 161, 3) := by decide +kernel
theorem dX12_thrown_4 : decode cX12_thrown 4 = .ok (.ireturn, 1) := by decide +kernel
theorem dX12_trace_III_0 : decode cX12_trace_III 0 = .ok (.aload_n 0, 1) := by decide +kernel
theorem dX12_trace_III_1 : decode cX12_trace_III 1 = .ok (.iconst 0, 1) := by decide +kernel
theorem dX12_trace_III_2 : decode cX12_trace_III 2 = .ok (.putfield 161, 3) := by decide +kernel
theorem dX12_trace_III_5 : decode cX12_trace_III 5 = .ok (.iload_n 1, 1) := by decide +kernel
theorem dX12_trace_III_6 : decode cX12_trace_III 6 = .ok (.ifCond .lt 26, 3) := by decide +kernel
theorem dX12_trace_III_9 : decode cX12_trace_III 9 = .ok (.iload_n 1, 1) := by decide +kernel
theorem dX12_trace_III_10 : decode cX12_trace_III 10 = .ok (.bipush 64, 2) := by decide +kernel
theorem dX12_trace_III_12 : decode cX12_trace_III 12 = .ok (.if_icmp .ge 20, 3) := by decide +kernel
theorem dX12_trace_III_15 : decode cX12_trace_III 15 = .ok (.iload_n 1, 1) := by decide +kernel
theorem dX12_trace_III_16 : decode cX12_trace_III 16 = .ok (.aload_n 0, 1) := by decide +kernel
theorem dX12_trace_III_17 : decode cX12_trace_III 17 = .ok (.getfield 282, 3) := by decide +kernel
theorem dX12_trace_III_20 : decode cX12_trace_III 20 = .ok (.if_icmp .ge 12, 3) := by decide +kernel
theorem dX12_trace_III_32 : decode cX12_trace_III 32 = .ok (.iconst (-1), 1) := by decide +kernel
theorem dX12_trace_III_33 : decode cX12_trace_III 33 = .ok (.ireturn, 1) := by decide +kernel
theorem dX12_type_0 : decode cX12_type 0 = .ok (.aload_n 0, 1) := by decide +kernel
theorem dX12_type_1 : decode cX12_type 1 = .ok (.iconst 0, 1) := by decide +kernel
theorem dX12_type_2 : decode cX12_type 2 = .ok (.putfield 161, 3) := by decide +kernel
theorem dX12_type_5 : decode cX12_type 5 = .ok (.iload_n 3, 1) := by decide +kernel
theorem dX12_type_6 : decode cX12_type 6 = .ok (.iconst 1, 1) := by decide +kernel
theorem dX12_type_7 : decode cX12_type 7 = .ok (.if_icmp .lt 21, 3) := by decide +kernel
theorem dX12_type_10 : decode cX12_type 10 = .ok (.iload_n 3, 1) := by decide +kernel
theorem dX12_type_11 : decode cX12_type 11 = .ok (.bipush 8, 2) := by decide +kernel
theorem dX12_type_13 : decode cX12_type 13 = .ok (.if_icmp .gt 15, 3) := by decide +kernel
theorem dX12_type_16 : decode cX12_type 16 = .ok (.aload_n 0, 1) := by decide +kernel
theorem dX12_type_17 : decode cX12_type 17 = .ok (.getfield 165, 3) := by decide +kernel
theorem dX12_type_20 : decode cX12_type 20 = .ok (.iload_n 3, 1) := by decide +kernel
theorem dX12_type_21 : decode cX12_type 21 = .ok (.iadd, 1) := by decide +kernel
theorem dX12_type_22 : decode cX12_type 22 = .ok (.sipush 480, 3) := by decide +kernel
theorem dX12_type_25 : decode cX12_type 25 = .ok (.if_icmp .le 5, 3) := by decide +kernel
theorem dX12_type_28 : decode cX12_type 28 = .ok (.iconst 0, 1) := by decide +kernel
theorem dX12_type_29 : decode cX12_type 29 = .ok (.ireturn, 1) := by decide +kernel
theorem dX12_type_30 : decode cX12_type 30 = .ok (.iconst 0, 1) := by decide +kernel
theorem dX12_type_31 : decode cX12_type 31 = .ok (.istore 4, 2) := by decide +kernel
theorem dX12_type_33 : decode cX12_type 33 = .ok (.iload 4, 2) := by decide +kernel
theorem dX12_type_35 : decode cX12_type 35 = .ok (.iload_n 3, 1) := by decide +kernel
theorem dX12_type_36 : decode cX12_type 36 = .ok (.if_icmp .ge 39, 3) := by decide +kernel
theorem dX12_type_39 : decode cX12_type 39 = .ok (.lload_n 1, 1) := by decide +kernel
theorem dX12_type_40 : decode cX12_type 40 = .ok (.bipush 8, 2) := by decide +kernel
theorem dX12_type_42 : decode cX12_type 42 = .ok (.iload 4, 2) := by decide +kernel
theorem dX12_type_44 : decode cX12_type 44 = .ok (.imul, 1) := by decide +kernel
theorem dX12_type_45 : decode cX12_type 45 = .ok (.lshr, 1) := by decide +kernel
theorem dX12_type_46 : decode cX12_type 46 = .ok (.ldc2_w 168, 3) := by decide +kernel
theorem dX12_type_49 : decode cX12_type 49 = .ok (.land, 1) := by decide +kernel
theorem dX12_type_50 : decode cX12_type 50 = .ok (.l2i, 1) := by decide +kernel
theorem dX12_type_51 : decode cX12_type 51 = .ok (.istore 5, 2) := by decide +kernel
theorem dX12_type_53 : decode cX12_type 53 = .ok (.iload 5, 2) := by decide +kernel
theorem dX12_type_55 : decode cX12_type 55 = .ok (.bipush 33, 2) := by decide +kernel
theorem dX12_type_57 : decode cX12_type 57 = .ok (.if_icmp .lt 10, 3) := by decide +kernel
theorem dX12_type_60 : decode cX12_type 60 = .ok (.iload 5, 2) := by decide +kernel
theorem dX12_type_62 : decode cX12_type 62 = .ok (.bipush 126, 2) := by decide +kernel
theorem dX12_type_64 : decode cX12_type 64 = .ok (.if_icmp .le 5, 3) := by decide +kernel
theorem dX12_type_67 : decode cX12_type 67 = .ok (.iconst 0, 1) := by decide +kernel
theorem dX12_type_68 : decode cX12_type 68 = .ok (.ireturn, 1) := by decide +kernel
theorem dX12_type_69 : decode cX12_type 69 = .ok (.iinc 4 1, 3) := by decide +kernel
theorem dX12_type_72 : decode cX12_type 72 = .ok (.goto (-39), 3) := by decide +kernel
theorem dX12_type_75 : decode cX12_type 75 = .ok (.iload_n 3, 1) := by decide +kernel
theorem dX12_type_76 : decode cX12_type 76 = .ok (.iconst 1, 1) := by decide +kernel
theorem dX12_type_77 : decode cX12_type 77 = .ok (.isub, 1) := by decide +kernel
theorem dX12_type_78 : decode cX12_type 78 = .ok (.istore 4, 2) := by decide +kernel
theorem dX12_type_80 : decode cX12_type 80 = .ok (.iload 4, 2) := by decide +kernel
theorem dX12_type_82 : decode cX12_type 82 = .ok (.ifCond .lt 40, 3) := by decide +kernel
theorem dX12_type_85 : decode cX12_type 85 = .ok (.aload_n 0, 1) := by decide +kernel
theorem dX12_type_86 : decode cX12_type 86 = .ok (.getfield 7, 3) := by decide +kernel
theorem dX12_type_89 : decode cX12_type 89 = .ok (.aload_n 0, 1) := by decide +kernel
theorem dX12_type_90 : decode cX12_type 90 = .ok (.getfield 165, 3) := by decide +kernel
theorem dX12_type_93 : decode cX12_type 93 = .ok (.lload_n 1, 1) := by decide +kernel
theorem dX12_type_94 : decode cX12_type 94 = .ok (.bipush 8, 2) := by decide +kernel
theorem dX12_type_96 : decode cX12_type 96 = .ok (.iload 4, 2) := by decide +kernel
theorem dX12_type_98 : decode cX12_type 98 = .ok (.imul, 1) := by decide +kernel
theorem dX12_type_99 : decode cX12_type 99 = .ok (.lshr, 1) := by decide +kernel
theorem dX12_type_100 : decode cX12_type 100 = .ok (.ldc2_w 168, 3) := by decide +kernel
theorem dX12_type_103 : decode cX12_type 103 = .ok (.land, 1) := by decide +kernel
theorem dX12_type_104 : decode cX12_type 104 = .ok (.l2i, 1) := by decide +kernel
theorem dX12_type_105 : decode cX12_type 105 = .ok (.iastore, 1) := by decide +kernel
theorem dX12_type_106 : decode cX12_type 106 = .ok (.aload_n 0, 1) := by decide +kernel
theorem dX12_type_107 : decode cX12_type 107 = .ok (.dup, 1) := by decide +kernel
theorem dX12_type_108 : decode cX12_type 108 = .ok (.getfield 165, 3) := by decide +kernel
theorem dX12_type_111 : decode cX12_type 111 = .ok (.iconst 1, 1) := by decide +kernel
theorem dX12_type_112 : decode cX12_type 112 = .ok (.iadd, 1) := by decide +kernel
theorem dX12_type_113 : decode cX12_type 113 = .ok (.putfield 165, 3) := by decide +kernel
theorem dX12_type_116 : decode cX12_type 116 = .ok (.iinc 4 (-1), 3) := by decide +kernel
theorem dX12_type_119 : decode cX12_type 119 = .ok (.goto (-39), 3) := by decide +kernel
theorem dX12_type_122 : decode cX12_type 122 = .ok (.iconst 1, 1) := by decide +kernel
theorem dX12_type_123 : decode cX12_type 123 = .ok (.ireturn, 1) := by decide +kernel
theorem dX12_wrong_0 : decode cX12_wrong 0 = .ok (.aload_n 0, 1) := by decide +kernel
theorem dX12_wrong_1 : decode cX12_wrong 1 = .ok (.iload_n 1, 1) := by decide +kernel
theorem dX12_wrong_2 : decode cX12_wrong 2 = .ok (.putfield 173, 3) := by decide +kernel
theorem dX12_wrong_5 : decode cX12_wrong 5 = .ok (.aload_n 0, 1) := by decide +kernel
theorem dX12_wrong_6 : decode cX12_wrong 6 = .ok (.iload_n 2, 1) := by decide +kernel
theorem dX12_wrong_7 : decode cX12_wrong 7 = .ok (.putfield 176, 3) := by decide +kernel
theorem dX12_wrong_10 : decode cX12_wrong 10 = .ok (.iconst 0, 1) := by decide +kernel
theorem dX12_wrong_11 : decode cX12_wrong 11 = .ok (.ireturn, 1) := by decide +kernel
theorem dX1_init_0 : decode cX1_init 0 = .ok (.aload_n 0, 1) := by decide +kernel
theorem dX1_init_1 : decode cX1_init 1 = .ok (.invokespecial 3, 3) := by decide +kernel
theorem dX1_init_4 : decode cX1_init 4 = .ok (.aload_n 0, 1) := by decide +kernel
theorem dX1_init_5 : decode cX1_init 5 = .ok (.new 9, 3) := by decide +kernel
theorem dX1_init_8 : decode cX1_init 8 = .ok (.dup, 1) := by decide +kernel
theorem dX1_init_9 : decode cX1_init 9 = .ok (.invokespecial 11, 3) := by decide +kernel
theorem dX1_init_12 : decode cX1_init 12 = .ok (.putfield 12, 3) := by decide +kernel
theorem dX1_init_15 : decode cX1_init 15 = .ok (.aload_n 0, 1) := by decide +kernel
theorem dX1_init_16 : decode cX1_init 16 = .ok (.bipush 16, 2) := by decide +kernel
theorem dX1_init_18 : decode cX1_init 18 = .ok (.newarray .int, 2) := by decide +kernel
theorem dX1_init_20 : decode cX1_init 20 = .ok (.putfield 18, 3) := by decide +kernel
theorem dX1_init_23 : decode cX1_init 23 = .ok (.aload_n 0, 1) := by decide +kernel
theorem dX1_init_24 : decode cX1_init 24 = .ok (.bipush 16, 2) := by decide +kernel
theorem dX1_init_26 : decode cX1_init 26 = .ok (.newarray .int, 2) := by decide +kernel
theorem dX1_init_28 : decode cX1_init 28 = .ok (.putfield 22, 3) := by decide +kernel
theorem dX1_init_31 : decode cX1_init 31 = .ok (.aload_n 0, 1) := by decide +kernel
theorem dX1_init_32 : decode cX1_init 32 = .ok (.bipush 26, 2) := by decide +kernel
theorem dX1_init_34 : decode cX1_init 34 = .ok (.newarray .int, 2) := by decide +kernel
theorem dX1_init_36 : decode cX1_init 36 = .ok (.putfield 25, 3) := by decide +kernel
theorem dX1_init_39 : decode cX1_init 39 = .ok (.aload_n 0, 1) := by decide +kernel
theorem dX1_init_40 : decode cX1_init 40 = .ok (.aload_n 1, 1) := by decide +kernel
theorem dX1_init_41 : decode cX1_init 41 = .ok (.putfield 28, 3) := by decide +kernel
theorem dX1_init_44 : decode cX1_init 44 = .ok (.aload_n 0, 1) := by decide +kernel
theorem dX1_init_45 : decode cX1_init 45 = .ok (.new 32, 3) := by decide +kernel
theorem dX1_init_48 : decode cX1_init 48 = .ok (.dup, 1) := by decide +kernel
theorem dX1_init_49 : decode cX1_init 49 = .ok (.aload_n 1, 1) := by decide +kernel
theorem dX1_init_50 : decode cX1_init 50 = .ok (.invokespecial 34, 3) := by decide +kernel
theorem dX1_init_53 : decode cX1_init 53 = .ok (.putfield 37, 3) := by decide +kernel
theorem dX1_init_56 : decode cX1_init 56 = .ok (.return_, 1) := by decide +kernel
theorem dX1_registerAt_0 : decode cX1_registerAt 0 = .ok (.iconst 0, 1) := by decide +kernel
theorem dX1_registerAt_1 : decode cX1_registerAt 1 = .ok (.istore_n 2, 1) := by decide +kernel
theorem dX1_registerAt_2 : decode cX1_registerAt 2 = .ok (.iload_n 2, 1) := by decide +kernel
theorem dX1_registerAt_3 : decode cX1_registerAt 3 = .ok (.aload_n 0, 1) := by decide +kernel
theorem dX1_registerAt_4 : decode cX1_registerAt 4 = .ok (.getfield 28, 3) := by decide +kernel
theorem dX1_registerAt_7 : decode cX1_registerAt 7 = .ok (.getfield 65, 3) := by decide +kernel
theorem dX1_registerAt_10 : decode cX1_registerAt 10 = .ok (.if_icmp .ge 35, 3) := by decide +kernel
theorem dX1_registerAt_45 : decode cX1_registerAt 45 = .ok (.iconst (-1), 1) := by decide +kernel
theorem dX1_registerAt_46 : decode cX1_registerAt 46 = .ok (.ireturn, 1) := by decide +kernel
theorem dX2_clear_0 : decode cX2_clear 0 = .ok (.aload_n 0, 1) := by decide +kernel
theorem dX2_clear_1 : decode cX2_clear 1 = .ok (.iconst 0, 1) := by decide +kernel
theorem dX2_clear_2 : decode cX2_clear 2 = .ok (.putfield 55, 3) := by decide +kernel
theorem dX2_clear_5 : decode cX2_clear 5 = .ok (.aload_n 0, 1) := by decide +kernel
theorem dX2_clear_6 : decode cX2_clear 6 = .ok (.iconst 0, 1) := by decide +kernel
theorem dX2_clear_7 : decode cX2_clear 7 = .ok (.putfield 59, 3) := by decide +kernel
theorem dX2_clear_10 : decode cX2_clear 10 = .ok (.aload_n 0, 1) := by decide +kernel
theorem dX2_clear_11 : decode cX2_clear 11 = .ok (.getfield 51, 3) := by decide +kernel
theorem dX2_clear_14 : decode cX2_clear 14 = .ok (.iconst 0, 1) := by decide +kernel
theorem dX2_clear_15 : decode cX2_clear 15 = .ok (.putfield 62, 3) := by decide +kernel
theorem dX2_clear_18 : decode cX2_clear 18 = .ok (.return_, 1) := by decide +kernel
theorem dX2_init_0 : decode cX2_init 0 = .ok (.aload_n 0, 1) := by decide +kernel
theorem dX2_init_1 : decode cX2_init 1 = .ok (.invokespecial 3, 3) := by decide +kernel
theorem dX2_init_4 : decode cX2_init 4 = .ok (.aload_n 0, 1) := by decide +kernel
theorem dX2_init_5 : decode cX2_init 5 = .ok (.bipush 16, 2) := by decide +kernel
theorem dX2_init_7 : decode cX2_init 7 = .ok (.newarray .int, 2) := by decide +kernel
theorem dX2_init_9 : decode cX2_init 9 = .ok (.putfield 9, 3) := by decide +kernel
theorem dX2_init_12 : decode cX2_init 12 = .ok (.aload_n 0, 1) := by decide +kernel
theorem dX2_init_13 : decode cX2_init 13 = .ok (.bipush 16, 2) := by decide +kernel
theorem dX2_init_15 : decode cX2_init 15 = .ok (.newarray .int, 2) := by decide +kernel
theorem dX2_init_17 : decode cX2_init 17 = .ok (.putfield 15, 3) := by decide +kernel
theorem dX2_init_20 : decode cX2_init 20 = .ok (.aload_n 0, 1) := by decide +kernel
theorem dX2_init_21 : decode cX2_init 21 = .ok (.bipush 16, 2) := by decide +kernel
theorem dX2_init_23 : decode cX2_init 23 = .ok (.newarray .int, 2) := by decide +kernel
theorem dX2_init_25 : decode cX2_init 25 = .ok (.putfield 18, 3) := by decide +kernel
theorem dX2_init_28 : decode cX2_init 28 = .ok (.aload_n 0, 1) := by decide +kernel
theorem dX2_init_29 : decode cX2_init 29 = .ok (.bipush 16, 2) := by decide +kernel
theorem dX2_init_31 : decode cX2_init 31 = .ok (.newarray .int, 2) := by decide +kernel
theorem dX2_init_33 : decode cX2_init 33 = .ok (.putfield 21, 3) := by decide +kernel
theorem dX2_init_36 : decode cX2_init 36 = .ok (.aload_n 0, 1) := by decide +kernel
theorem dX2_init_37 : decode cX2_init 37 = .ok (.bipush 16, 2) := by decide +kernel
theorem dX2_init_39 : decode cX2_init 39 = .ok (.newarray .int, 2) := by decide +kernel
theorem dX2_init_41 : decode cX2_init 41 = .ok (.putfield 24, 3) := by decide +kernel
theorem dX2_init_44 : decode cX2_init 44 = .ok (.aload_n 0, 1) := by decide +kernel
theorem dX2_init_45 : decode cX2_init 45 = .ok (.sipush 128, 3) := by decide +kernel
theorem dX2_init_48 : decode cX2_init 48 = .ok (.newarray .int, 2) := by decide +kernel
theorem dX2_init_50 : decode cX2_init 50 = .ok (.putfield 27, 3) := by decide +kernel
theorem dX2_init_53 : decode cX2_init 53 = .ok (.aload_n 0, 1) := by decide +kernel
theorem dX2_init_54 : decode cX2_init 54 = .ok (.sipush 128, 3) := by decide +kernel
theorem dX2_init_57 : decode cX2_init 57 = .ok (.newarray .int, 2) := by decide +kernel
theorem dX2_init_59 : decode cX2_init 59 = .ok (.putfield 30, 3) := by decide +kernel
theorem dX2_init_62 : decode cX2_init 62 = .ok (.aload_n 0, 1) := by decide +kernel
theorem dX2_init_63 : decode cX2_init 63 = .ok (.sipush 128, 3) := by decide +kernel
theorem dX2_init_66 : decode cX2_init 66 = .ok (.newarray .int, 2) := by decide +kernel
theorem dX2_init_68 : decode cX2_init 68 = .ok (.putfield 33, 3) := by decide +kernel
theorem dX2_init_71 : decode cX2_init 71 = .ok (.aload_n 0, 1) := by decide +kernel
theorem dX2_init_72 : decode cX2_init 72 = .ok (.sipush 128, 3) := by decide +kernel
theorem dX2_init_75 : decode cX2_init 75 = .ok (.newarray .int, 2) := by decide +kernel
theorem dX2_init_77 : decode cX2_init 77 = .ok (.putfield 36, 3) := by decide +kernel
theorem dX2_init_80 : decode cX2_init 80 = .ok (.aload_n 0, 1) := by decide +kernel
theorem dX2_init_81 : decode cX2_init 81 = .ok (.sipush 128, 3) := by decide +kernel
theorem dX2_init_84 : decode cX2_init 84 = .ok (.newarray .int, 2) := by decide +kernel
theorem dX2_init_86 : decode cX2_init 86 = .ok (.putfield 39, 3) := by decide +kernel
theorem dX2_init_89 : decode cX2_init 89 = .ok (.aload_n 0, 1) := by decide +kernel
theorem dX2_init_90 : decode cX2_init 90 = .ok (.sipush 128, 3) := by decide +kernel
theorem dX2_init_93 : decode cX2_init 93 = .ok (.newarray .int, 2) := by decide +kernel
theorem dX2_init_95 : decode cX2_init 95 = .ok (.putfield 42, 3) := by decide +kernel
theorem dX2_init_98 : decode cX2_init 98 = .ok (.aload_n 0, 1) := by decide +kernel
theorem dX2_init_99 : decode cX2_init 99 = .ok (.sipush 128, 3) := by decide +kernel
theorem dX2_init_102 : decode cX2_init 102 = .ok (.newarray .int, 2) := by decide +kernel
theorem dX2_init_104 : decode cX2_init 104 = .ok (.putfield 45, 3) := by decide +kernel
theorem dX2_init_107 : decode cX2_init 107 = .ok (.aload_n 0, 1) := by decide +kernel
theorem dX2_init_108 : decode cX2_init 108 = .ok (.new 48, 3) := by decide +kernel
theorem dX2_init_111 : decode cX2_init 111 = .ok (.dup, 1) := by decide +kernel
theorem dX2_init_112 : decode cX2_init 112 = .ok (.invokespecial 50, 3) := by decide +kernel
theorem dX2_init_115 : decode cX2_init 115 = .ok (.putfield 51, 3) := by decide +kernel
theorem dX2_init_118 : decode cX2_init 118 = .ok (.return_, 1) := by decide +kernel
theorem dX3_decide_0 : decode cX3_decide 0 = .ok (.iload_n 1, 1) := by decide +kernel
theorem dX3_decide_1 : decode cX3_decide 1 = .ok (.ifCond .ne 14, 3) := by decide +kernel
theorem dX3_decide_4 : decode cX3_decide 4 = .ok (.aload_n 0, 1) := by decide +kernel
theorem dX3_decide_5 : decode cX3_decide 5 = .ok (.iconst 1, 1) := by decide +kernel
theorem dX3_decide_6 : decode cX3_decide 6 = .ok (.putfield 15, 3) := by decide +kernel
theorem dX3_decide_9 : decode cX3_decide 9 = .ok (.aload_n 0, 1) := by decide +kernel
theorem dX3_decide_10 : decode cX3_decide 10 = .ok (.iload_n 2, 1) := by decide +kernel
theorem dX3_decide_11 : decode cX3_decide 11 = .ok (.putfield 19, 3) := by decide +kernel
theorem dX3_decide_14 : decode cX3_decide 14 = .ok (.return_, 1) := by decide +kernel
theorem dX3_init_0 : decode cX3_init 0 = .ok (.aload_n 0, 1) := by decide +kernel
theorem dX3_init_1 : decode cX3_init 1 = .ok (.invokespecial 3, 3) := by decide +kernel
theorem dX3_init_4 : decode cX3_init 4 = .ok (.aload_n 0, 1) := by decide +kernel
theorem dX3_init_5 : decode cX3_init 5 = .ok (.aload_n 1, 1) := by decide +kernel
theorem dX3_init_6 : decode cX3_init 6 = .ok (.putfield 9, 3) := by decide +kernel
theorem dX3_init_9 : decode cX3_init 9 = .ok (.return_, 1) := by decide +kernel
theorem dX4_canFetch_0 : decode cX4_canFetch 0 = .ok (.aload_n 0, 1) := by decide +kernel
theorem dX4_canFetch_1 : decode cX4_canFetch 1 = .ok (.iload_n 1, 1) := by decide +kernel
theorem dX4_canFetch_2 : decode cX4_canFetch 2 = .ok (.invokevirtual 112, 3) := by decide +kernel
theorem dX4_canFetch_5 : decode cX4_canFetch 5 = .ok (.ifCond .eq 17, 3) := by decide +kernel
theorem dX4_canFetch_22 : decode cX4_canFetch 22 = .ok (.iconst 0, 1) := by decide +kernel
theorem dX4_canFetch_23 : decode cX4_canFetch 23 = .ok (.ireturn, 1) := by decide +kernel
theorem dX4_canPut_0 : decode cX4_canPut 0 = .ok (.aload_n 0, 1) := by decide +kernel
theorem dX4_canPut_1 : decode cX4_canPut 1 = .ok (.iload_n 1, 1) := by decide +kernel
theorem dX4_canPut_2 : decode cX4_canPut 2 = .ok (.invokevirtual 112, 3) := by decide +kernel
theorem dX4_canPut_5 : decode cX4_canPut 5 = .ok (.ifCond .eq 36, 3) := by decide +kernel
theorem dX4_canPut_41 : decode cX4_canPut 41 = .ok (.iconst 0, 1) := by decide +kernel
theorem dX4_canPut_42 : decode cX4_canPut 42 = .ok (.ireturn, 1) := by decide +kernel
theorem dX4_has_0 : decode cX4_has 0 = .ok (.iload_n 1, 1) := by decide +kernel
theorem dX4_has_1 : decode cX4_has 1 = .ok (.ifCond .lt 23, 3) := by decide +kernel
theorem dX4_has_4 : decode cX4_has 4 = .ok (.iload_n 1, 1) := by decide +kernel
theorem dX4_has_5 : decode cX4_has 5 = .ok (.bipush 26, 2) := by decide +kernel
theorem dX4_has_7 : decode cX4_has 7 = .ok (.if_icmp .ge 17, 3) := by decide +kernel
theorem dX4_has_10 : decode cX4_has 10 = .ok (.aload_n 0, 1) := by decide +kernel
theorem dX4_has_11 : decode cX4_has 11 = .ok (.getfield 40, 3) := by decide +kernel
theorem dX4_has_14 : decode cX4_has 14 = .ok (.iload_n 1, 1) := by decide +kernel
