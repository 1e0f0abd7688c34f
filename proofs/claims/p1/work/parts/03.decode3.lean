theorem dX12_copyDevice_0 : decode cX12_copyDevice 0 = .ok (.iconst 0, 1) := by decide +kernel
theorem dX12_copyDevice_1 : decode cX12_copyDevice 1 = .ok (.istore_n 3, 1) := by decide +kernel
theorem dX12_copyDevice_2 : decode cX12_copyDevice 2 = .ok (.iload_n 3, 1) := by decide +kernel
theorem dX12_copyDevice_3 : decode cX12_copyDevice 3 = .ok (.bipush 26, 2) := by decide +kernel
theorem dX12_copyDevice_5 : decode cX12_copyDevice 5 = .ok (.if_icmp .ge 75, 3) := by decide +kernel
theorem dX12_copyDevice_8 : decode cX12_copyDevice 8 = .ok (.aload_n 0, 1) := by decide +kernel
theorem dX12_copyDevice_9 : decode cX12_copyDevice 9 = .ok (.getfield 107, 3) := by decide +kernel
theorem dX12_copyDevice_12 : decode cX12_copyDevice 12 = .ok (.bipush 26, 2) := by decide +kernel
theorem dX12_copyDevice_14 : decode cX12_copyDevice 14 = .ok (.iload_n 2, 1) := by decide +kernel
theorem dX12_copyDevice_15 : decode cX12_copyDevice 15 = .ok (.imul, 1) := by decide +kernel
theorem dX12_copyDevice_16 : decode cX12_copyDevice 16 = .ok (.iload_n 3, 1) := by decide +kernel
theorem dX12_copyDevice_17 : decode cX12_copyDevice 17 = .ok (.iadd, 1) := by decide +kernel
theorem dX12_copyDevice_18 : decode cX12_copyDevice 18 = .ok (.aload_n 0, 1) := by decide +kernel
theorem dX12_copyDevice_19 : decode cX12_copyDevice 19 = .ok (.getfield 107, 3) := by decide +kernel
theorem dX12_copyDevice_22 : decode cX12_copyDevice 22 = .ok (.bipush 26, 2) := by decide +kernel
theorem dX12_copyDevice_24 : decode cX12_copyDevice 24 = .ok (.iload_n 1, 1) := by decide +kernel
theorem dX12_copyDevice_25 : decode cX12_copyDevice 25 = .ok (.imul, 1) := by decide +kernel
theorem dX12_copyDevice_26 : decode cX12_copyDevice 26 = .ok (.iload_n 3, 1) := by decide +kernel
theorem dX12_copyDevice_27 : decode cX12_copyDevice 27 = .ok (.iadd, 1) := by decide +kernel
theorem dX12_copyDevice_28 : decode cX12_copyDevice 28 = .ok (.iaload, 1) := by decide +kernel
theorem dX12_copyDevice_29 : decode cX12_copyDevice 29 = .ok (.iastore, 1) := by decide +kernel
theorem dX12_copyDevice_30 : decode cX12_copyDevice 30 = .ok (.aload_n 0, 1) := by decide +kernel
theorem dX12_copyDevice_31 : decode cX12_copyDevice 31 = .ok (.getfield 110, 3) := by decide +kernel
theorem dX12_copyDevice_34 : decode cX12_copyDevice 34 = .ok (.bipush 26, 2) := by decide +kernel
theorem dX12_copyDevice_36 : decode cX12_copyDevice 36 = .ok (.iload_n 2, 1) := by decide +kernel
theorem dX12_copyDevice_37 : decode cX12_copyDevice 37 = .ok (.imul, 1) := by decide +kernel
theorem dX12_copyDevice_38 : decode cX12_copyDevice 38 = .ok (.iload_n 3, 1) := by decide +kernel
theorem dX12_copyDevice_39 : decode cX12_copyDevice 39 = .ok (.iadd, 1) := by decide +kernel
theorem dX12_copyDevice_40 : decode cX12_copyDevice 40 = .ok (.aload_n 0, 1) := by decide +kernel
theorem dX12_copyDevice_41 : decode cX12_copyDevice 41 = .ok (.getfield 110, 3) := by decide +kernel
theorem dX12_copyDevice_44 : decode cX12_copyDevice 44 = .ok (.bipush 26, 2) := by decide +kernel
theorem dX12_copyDevice_46 : decode cX12_copyDevice 46 = .ok (.iload_n 1, 1) := by decide +kernel
theorem dX12_copyDevice_47 : decode cX12_copyDevice 47 = .ok (.imul, 1) := by decide +kernel
theorem dX12_copyDevice_48 : decode cX12_copyDevice 48 = .ok (.iload_n 3, 1) := by decide +kernel
theorem dX12_copyDevice_49 : decode cX12_copyDevice 49 = .ok (.iadd, 1) := by decide +kernel
theorem dX12_copyDevice_50 : decode cX12_copyDevice 50 = .ok (.iaload, 1) := by decide +kernel
theorem dX12_copyDevice_51 : decode cX12_copyDevice 51 = .ok (.iastore, 1) := by decide +kernel
theorem dX12_copyDevice_52 : decode cX12_copyDevice 52 = .ok (.aload_n 0, 1) := by decide +kernel
theorem dX12_copyDevice_53 : decode cX12_copyDevice 53 = .ok (.getfield 113, 3) := by decide +kernel
theorem dX12_copyDevice_56 : decode cX12_copyDevice 56 = .ok (.bipush 26, 2) := by decide +kernel
theorem dX12_copyDevice_58 : decode cX12_copyDevice 58 = .ok (.iload_n 2, 1) := by decide +kernel
theorem dX12_copyDevice_59 : decode cX12_copyDevice 59 = .ok (.imul, 1) := by decide +kernel
theorem dX12_copyDevice_60 : decode cX12_copyDevice 60 = .ok (.iload_n 3, 1) := by decide +kernel
theorem dX12_copyDevice_61 : decode cX12_copyDevice 61 = .ok (.iadd, 1) := by decide +kernel
theorem dX12_copyDevice_62 : decode cX12_copyDevice 62 = .ok (.aload_n 0, 1) := by decide +kernel
theorem dX12_copyDevice_63 : decode cX12_copyDevice 63 = .ok (.getfield 113, 3) := by decide +kernel
theorem dX12_copyDevice_66 : decode cX12_copyDevice 66 = .ok (.bipush 26, 2) := by decide +kernel
theorem dX12_copyDevice_68 : decode cX12_copyDevice 68 = .ok (.iload_n 1, 1) := by decide +kernel
theorem dX12_copyDevice_69 : decode cX12_copyDevice 69 = .ok (.imul, 1) := by decide +kernel
theorem dX12_copyDevice_70 : decode cX12_copyDevice 70 = .ok (.iload_n 3, 1) := by decide +kernel
theorem dX12_copyDevice_71 : decode cX12_copyDevice 71 = .ok (.iadd, 1) := by decide +kernel
theorem dX12_copyDevice_72 : decode cX12_copyDevice 72 = .ok (.iaload, 1) := by decide +kernel
theorem dX12_copyDevice_73 : decode cX12_copyDevice 73 = .ok (.iastore, 1) := by decide +kernel
theorem dX12_copyDevice_74 : decode cX12_copyDevice 74 = .ok (.iinc 3 1, 3) := by decide +kernel
theorem dX12_copyDevice_77 : decode cX12_copyDevice 77 = .ok (.goto (-75), 3) := by decide +kernel
theorem dX12_copyDevice_80 : decode cX12_copyDevice 80 = .ok (.iconst 0, 1) := by decide +kernel
theorem dX12_copyDevice_81 : decode cX12_copyDevice 81 = .ok (.istore_n 3, 1) := by decide +kernel
theorem dX12_copyDevice_82 : decode cX12_copyDevice 82 = .ok (.iload_n 3, 1) := by decide +kernel
theorem dX12_copyDevice_83 : decode cX12_copyDevice 83 = .ok (.bipush 12, 2) := by decide +kernel
theorem dX12_copyDevice_85 : decode cX12_copyDevice 85 = .ok (.if_icmp .ge 31, 3) := by decide +kernel
theorem dX12_copyDevice_88 : decode cX12_copyDevice 88 = .ok (.aload_n 0, 1) := by decide +kernel
theorem dX12_copyDevice_89 : decode cX12_copyDevice 89 = .ok (.getfield 116, 3) := by decide +kernel
theorem dX12_copyDevice_92 : decode cX12_copyDevice 92 = .ok (.bipush 12, 2) := by decide +kernel
theorem dX12_copyDevice_94 : decode cX12_copyDevice 94 = .ok (.iload_n 2, 1) := by decide +kernel
theorem dX12_copyDevice_95 : decode cX12_copyDevice 95 = .ok (.imul, 1) := by decide +kernel
theorem dX12_copyDevice_96 : decode cX12_copyDevice 96 = .ok (.iload_n 3, 1) := by decide +kernel
theorem dX12_copyDevice_97 : decode cX12_copyDevice 97 = .ok (.iadd, 1) := by decide +kernel
theorem dX12_copyDevice_98 : decode cX12_copyDevice 98 = .ok (.aload_n 0, 1) := by decide +kernel
theorem dX12_copyDevice_99 : decode cX12_copyDevice 99 = .ok (.getfield 116, 3) := by decide +kernel
theorem dX12_copyDevice_102 : decode cX12_copyDevice 102 = .ok (.bipush 12, 2) := by decide +kernel
theorem dX12_copyDevice_104 : decode cX12_copyDevice 104 = .ok (.iload_n 1, 1) := by decide +kernel
theorem dX12_copyDevice_105 : decode cX12_copyDevice 105 = .ok (.imul, 1) := by decide +kernel
theorem dX12_copyDevice_106 : decode cX12_copyDevice 106 = .ok (.iload_n 3, 1) := by decide +kernel
theorem dX12_copyDevice_107 : decode cX12_copyDevice 107 = .ok (.iadd, 1) := by decide +kernel
theorem dX12_copyDevice_108 : decode cX12_copyDevice 108 = .ok (.baload, 1) := by decide +kernel
theorem dX12_copyDevice_109 : decode cX12_copyDevice 109 = .ok (.bastore, 1) := by decide +kernel
theorem dX12_copyDevice_110 : decode cX12_copyDevice 110 = .ok (.iinc 3 1, 3) := by decide +kernel
theorem dX12_copyDevice_113 : decode cX12_copyDevice 113 = .ok (.goto (-31), 3) := by decide +kernel
theorem dX12_copyDevice_116 : decode cX12_copyDevice 116 = .ok (.return_, 1) := by decide +kernel
theorem dX12_drop_0 : decode cX12_drop 0 = .ok (.aload_n 0, 1) := by decide +kernel
theorem dX12_drop_1 : decode cX12_drop 1 = .ok (.iconst 0, 1) := by decide +kernel
theorem dX12_drop_2 : decode cX12_drop 2 = .ok (.putfield 161, 3) := by decide +kernel
theorem dX12_drop_5 : decode cX12_drop 5 = .ok (.aload_n 0, 1) := by decide +kernel
theorem dX12_drop_6 : decode cX12_drop 6 = .ok (.getfield 288, 3) := by decide +kernel
theorem dX12_drop_9 : decode cX12_drop 9 = .ok (.istore_n 1, 1) := by decide +kernel
theorem dX12_drop_10 : decode cX12_drop 10 = .ok (.aload_n 0, 1) := by decide +kernel
theorem dX12_drop_11 : decode cX12_drop 11 = .ok (.iconst 0, 1) := by decide +kernel
theorem dX12_drop_12 : decode cX12_drop 12 = .ok (.putfield 288, 3) := by decide +kernel
theorem dX12_drop_15 : decode cX12_drop 15 = .ok (.iload_n 1, 1) := by decide +kernel
theorem dX12_drop_16 : decode cX12_drop 16 = .ok (.ireturn, 1) := by decide +kernel
theorem dX12_end_0 : decode cX12_end 0 = .ok (.aload_n 0, 1) := by decide +kernel
theorem dX12_end_1 : decode cX12_end 1 = .ok (.getfield 337, 3) := by decide +kernel
theorem dX12_end_4 : decode cX12_end 4 = .ok (.ifCond .ne 13, 3) := by decide +kernel
theorem dX12_end_7 : decode cX12_end 7 = .ok (.aload_n 0, 1) := by decide +kernel
theorem dX12_end_8 : decode cX12_end 8 = .ok (.getfield 282, 3) := by decide +kernel
theorem dX12_end_11 : decode cX12_end 11 = .ok (.aload_n 0, 1) := by decide +kernel
theorem dX12_end_12 : decode cX12_end 12 = .ok (.getfield 363, 3) := by decide +kernel
theorem dX12_end_15 : decode cX12_end 15 = .ok (.isub, 1) := by decide +kernel
theorem dX12_end_16 : decode cX12_end 16 = .ok (.ireturn, 1) := by decide +kernel
theorem dX12_erase_0 : decode cX12_erase 0 = .ok (.aload_n 0, 1) := by decide +kernel
theorem dX12_erase_1 : decode cX12_erase 1 = .ok (.iconst 0, 1) := by decide +kernel
theorem dX12_erase_2 : decode cX12_erase 2 = .ok (.putfield 161, 3) := by decide +kernel
theorem dX12_erase_5 : decode cX12_erase 5 = .ok (.aload_n 0, 1) := by decide +kernel
theorem dX12_erase_6 : decode cX12_erase 6 = .ok (.getfield 267, 3) := by decide +kernel
theorem dX12_erase_9 : decode cX12_erase 9 = .ok (.istore_n 1, 1) := by decide +kernel
theorem dX12_erase_10 : decode cX12_erase 10 = .ok (.aload_n 0, 1) := by decide +kernel
theorem dX12_erase_11 : decode cX12_erase 11 = .ok (.iconst 0, 1) := by decide +kernel
theorem dX12_erase_12 : decode cX12_erase 12 = .ok (.putfield 267, 3) := by decide +kernel
theorem dX12_erase_15 : decode cX12_erase 15 = .ok (.iload_n 1, 1) := by decide +kernel
theorem dX12_erase_16 : decode cX12_erase 16 = .ok (.ireturn, 1) := by decide +kernel
theorem dX12_fault_0 : decode cX12_fault 0 = .ok (.aload_n 0, 1) := by decide +kernel
theorem dX12_fault_1 : decode cX12_fault 1 = .ok (.iconst 0, 1) := by decide +kernel
theorem dX12_fault_2 : decode cX12_fault 2 = .ok (.putfield 161, 3) := by decide +kernel
theorem dX12_fault_5 : decode cX12_fault 5 = .ok (.iload_n 1, 1) := by decide +kernel
theorem dX12_fault_6 : decode cX12_fault 6 = .ok (.ifCond .ne 10, 3) := by decide +kernel
theorem dX12_fault_9 : decode cX12_fault 9 = .ok (.aload_n 0, 1) := by decide +kernel
theorem dX12_fault_10 : decode cX12_fault 10 = .ok (.getfield 173, 3) := by decide +kernel
theorem dX12_fault_13 : decode cX12_fault 13 = .ok (.goto 16, 3) := by decide +kernel
theorem dX12_fault_16 : decode cX12_fault 16 = .ok (.iload_n 1, 1) := by decide +kernel
theorem dX12_fault_17 : decode cX12_fault 17 = .ok (.iconst 1, 1) := by decide +kernel
theorem dX12_fault_18 : decode cX12_fault 18 = .ok (.if_icmp .ne 10, 3) := by decide +kernel
theorem dX12_fault_21 : decode cX12_fault 21 = .ok (.aload_n 0, 1) := by decide +kernel
theorem dX12_fault_22 : decode cX12_fault 22 = .ok (.getfield 176, 3) := by decide +kernel
theorem dX12_fault_25 : decode cX12_fault 25 = .ok (.goto 4, 3) := by decide +kernel
theorem dX12_fault_28 : decode cX12_fault 28 = .ok (.iconst (-1), 1) := by decide +kernel
theorem dX12_fault_29 : decode cX12_fault 29 = .ok (.ireturn, 1) := by decide +kernel
theorem dX12_fetch_0 : decode cX12_fetch 0 = .ok (.aload_n 0, 1) := by decide +kernel
theorem dX12_fetch_1 : decode cX12_fetch 1 = .ok (.iload_n 1, 1) := by decide +kernel
theorem dX12_fetch_2 : decode cX12_fetch 2 = .ok (.invokevirtual 378, 3) := by decide +kernel
theorem dX12_fetch_5 : decode cX12_fetch 5 = .ok (.ifCond .ne 9, 3) := by decide +kernel
theorem dX12_fetch_8 : decode cX12_fetch 8 = .ok (.aload_n 0, 1) := by decide +kernel
theorem dX12_fetch_9 : decode cX12_fetch 9 = .ok (.iconst 1, 1) := by decide +kernel
theorem dX12_fetch_10 : decode cX12_fetch 10 = .ok (.invokevirtual 254, 3) := by decide +kernel
theorem dX12_fetch_13 : decode cX12_fetch 13 = .ok (.ireturn, 1) := by decide +kernel
theorem dX12_field_0 : decode cX12_field 0 = .ok (.aload_n 0, 1) := by decide +kernel
theorem dX12_field_1 : decode cX12_field 1 = .ok (.iconst 0, 1) := by decide +kernel
theorem dX12_field_2 : decode cX12_field 2 = .ok (.putfield 161, 3) := by decide +kernel
theorem dX12_field_5 : decode cX12_field 5 = .ok (.aload_n 0, 1) := by decide +kernel
theorem dX12_field_6 : decode cX12_field 6 = .ok (.iload_n 1, 1) := by decide +kernel
theorem dX12_field_7 : decode cX12_field 7 = .ok (.invokevirtual 317, 3) := by decide +kernel
theorem dX12_field_10 : decode cX12_field 10 = .ok (.ifCond .eq 12, 3) := by decide +kernel
theorem dX12_field_22 : decode cX12_field 22 = .ok (.iconst (-1), 1) := by decide +kernel
theorem dX12_field_23 : decode cX12_field 23 = .ok (.ireturn, 1) := by decide +kernel
theorem dX12_flush_0 : decode cX12_flush 0 = .ok (.aload_n 0, 1) := by decide +kernel
theorem dX12_flush_1 : decode cX12_flush 1 = .ok (.iconst 0, 1) := by decide +kernel
theorem dX12_flush_2 : decode cX12_flush 2 = .ok (.putfield 161, 3) := by decide +kernel
theorem dX12_flush_5 : decode cX12_flush 5 = .ok (.aload_n 0, 1) := by decide +kernel
theorem dX12_flush_6 : decode cX12_flush 6 = .ok (.invokevirtual 369, 3) := by decide +kernel
theorem dX12_flush_9 : decode cX12_flush 9 = .ok (.iconst 0, 1) := by decide +kernel
theorem dX12_flush_10 : decode cX12_flush 10 = .ok (.istore_n 1, 1) := by decide +kernel
theorem dX12_flush_11 : decode cX12_flush 11 = .ok (.iload_n 1, 1) := by decide +kernel
theorem dX12_flush_12 : decode cX12_flush 12 = .ok (.aload_n 0, 1) := by decide +kernel
theorem dX12_flush_13 : decode cX12_flush 13 = .ok (.getfield 288, 3) := by decide +kernel
theorem dX12_flush_16 : decode cX12_flush 16 = .ok (.if_icmp .ge 78, 3) := by decide +kernel
theorem dX12_flush_94 : decode cX12_flush 94 = .ok (.aload_n 0, 1) := by decide +kernel
theorem dX12_flush_95 : decode cX12_flush 95 = .ok (.invokevirtual 375, 3) := by decide +kernel
theorem dX12_flush_98 : decode cX12_flush 98 = .ok (.istore_n 1, 1) := by decide +kernel
theorem dX12_flush_99 : decode cX12_flush 99 = .ok (.iload_n 1, 1) := by decide +kernel
theorem dX12_flush_100 : decode cX12_flush 100 = .ok (.bipush (-2), 2) := by decide +kernel
theorem dX12_flush_102 : decode cX12_flush 102 = .ok (.if_icmp .eq 8, 3) := by decide +kernel
theorem dX12_flush_105 : decode cX12_flush 105 = .ok (.aload_n 0, 1) := by decide +kernel
theorem dX12_flush_106 : decode cX12_flush 106 = .ok (.iconst 0, 1) := by decide +kernel
theorem dX12_flush_107 : decode cX12_flush 107 = .ok (.putfield 288, 3) := by decide +kernel
theorem dX12_flush_110 : decode cX12_flush 110 = .ok (.iload_n 1, 1) := by decide +kernel
theorem dX12_flush_111 : decode cX12_flush 111 = .ok (.ireturn, 1) := by decide +kernel
theorem dX12_found_0 : decode cX12_found 0 = .ok (.aload_n 0, 1) := by decide +kernel
theorem dX12_found_1 : decode cX12_found 1 = .ok (.iconst 0, 1) := by decide +kernel
theorem dX12_found_2 : decode cX12_found 2 = .ok (.putfield 161, 3) := by decide +kernel
theorem dX12_found_5 : decode cX12_found 5 = .ok (.iload_n 1, 1) := by decide +kernel
theorem dX12_found_6 : decode cX12_found 6 = .ok (.ifCond .ne 10, 3) := by decide +kernel
theorem dX12_found_9 : decode cX12_found 9 = .ok (.aload_n 0, 1) := by decide +kernel
theorem dX12_found_10 : decode cX12_found 10 = .ok (.getfield 270, 3) := by decide +kernel
theorem dX12_found_13 : decode cX12_found 13 = .ok (.goto 16, 3) := by decide +kernel
theorem dX12_found_16 : decode cX12_found 16 = .ok (.iload_n 1, 1) := by decide +kernel
theorem dX12_found_17 : decode cX12_found 17 = .ok (.iconst 1, 1) := by decide +kernel
theorem dX12_found_18 : decode cX12_found 18 = .ok (.if_icmp .ne 10, 3) := by decide +kernel
theorem dX12_found_21 : decode cX12_found 21 = .ok (.aload_n 0, 1) := by decide +kernel
theorem dX12_found_22 : decode cX12_found 22 = .ok (.getfield 273, 3) := by decide +kernel
theorem dX12_found_25 : decode cX12_found 25 = .ok (.goto 4, 3) := by decide +kernel
theorem dX12_found_28 : decode cX12_found 28 = .ok (.iconst (-1), 1) := by decide +kernel
theorem dX12_found_29 : decode cX12_found 29 = .ok (.ireturn, 1) := by decide +kernel
theorem dX12_here_0 : decode cX12_here 0 = .ok (.aload_n 0, 1) := by decide +kernel
theorem dX12_here_1 : decode cX12_here 1 = .ok (.getfield 170, 3) := by decide +kernel
theorem dX12_here_4 : decode cX12_here 4 = .ok (.aload_n 0, 1) := by decide +kernel
theorem dX12_here_5 : decode cX12_here 5 = .ok (.getfield 165, 3) := by decide +kernel
theorem dX12_here_8 : decode cX12_here 8 = .ok (.if_icmp .ge 15, 3) := by decide +kernel
theorem dX12_here_23 : decode cX12_here 23 = .ok (.iconst 0, 1) := by decide +kernel
theorem dX12_here_24 : decode cX12_here 24 = .ok (.ireturn, 1) := by decide +kernel
theorem dX12_init_0 : decode cX12_init 0 = .ok (.aload_n 0, 1) := by decide +kernel
theorem dX12_init_1 : decode cX12_init 1 = .ok (.invokespecial 1, 3) := by decide +kernel
theorem dX12_init_4 : decode cX12_init 4 = .ok (.aload_n 0, 1) := by decide +kernel
theorem dX12_init_5 : decode cX12_init 5 = .ok (.sipush 480, 3) := by decide +kernel
theorem dX12_init_8 : decode cX12_init 8 = .ok (.newarray .int, 2) := by decide +kernel
theorem dX12_init_10 : decode cX12_init 10 = .ok (.putfield 7, 3) := by decide +kernel
theorem dX12_init_13 : decode cX12_init 13 = .ok (.aload_n 0, 1) := by decide +kernel
theorem dX12_init_14 : decode cX12_init 14 = .ok (.bipush 17, 2) := by decide +kernel
theorem dX12_init_16 : decode cX12_init 16 = .ok (.newarray .int, 2) := by decide +kernel
theorem dX12_init_18 : decode cX12_init 18 = .ok (.putfield 13, 3) := by decide +kernel
theorem dX12_init_21 : decode cX12_init 21 = .ok (.aload_n 0, 1) := by decide +kernel
theorem dX12_init_22 : decode cX12_init 22 = .ok (.bipush 17, 2) := by decide +kernel
theorem dX12_init_24 : decode cX12_init 24 = .ok (.newarray .int, 2) := by decide +kernel
theorem dX12_init_26 : decode cX12_init 26 = .ok (.putfield 16, 3) := by decide +kernel
theorem dX12_init_29 : decode cX12_init 29 = .ok (.aload_n 0, 1) := by decide +kernel
theorem dX12_init_30 : decode cX12_init 30 = .ok (.bipush 17, 2) := by decide +kernel
theorem dX12_init_32 : decode cX12_init 32 = .ok (.newarray .int, 2) := by decide +kernel
theorem dX12_init_34 : decode cX12_init 34 = .ok (.putfield 19, 3) := by decide +kernel
theorem dX12_init_37 : decode cX12_init 37 = .ok (.aload_n 0, 1) := by decide +kernel
theorem dX12_init_38 : decode cX12_init 38 = .ok (.bipush 17, 2) := by decide +kernel
theorem dX12_init_40 : decode cX12_init 40 = .ok (.newarray .int, 2) := by decide +kernel
theorem dX12_init_42 : decode cX12_init 42 = .ok (.putfield 22, 3) := by decide +kernel
theorem dX12_init_45 : decode cX12_init 45 = .ok (.aload_n 0, 1) := by decide +kernel
theorem dX12_init_46 : decode cX12_init 46 = .ok (.bipush 17, 2) := by decide +kernel
theorem dX12_init_48 : decode cX12_init 48 = .ok (.newarray .int, 2) := by decide +kernel
theorem dX12_init_50 : decode cX12_init 50 = .ok (.putfield 25, 3) := by decide +kernel
theorem dX12_init_53 : decode cX12_init 53 = .ok (.aload_n 0, 1) := by decide +kernel
theorem dX12_init_54 : decode cX12_init 54 = .ok (.sipush 140, 3) := by decide +kernel
theorem dX12_init_57 : decode cX12_init 57 = .ok (.newarray .int, 2) := by decide +kernel
theorem dX12_init_59 : decode cX12_init 59 = .ok (.putfield 28, 3) := by decide +kernel
theorem dX12_init_62 : decode cX12_init 62 = .ok (.aload_n 0, 1) := by decide +kernel
theorem dX12_init_63 : decode cX12_init 63 = .ok (.sipush 140, 3) := by decide +kernel
theorem dX12_init_66 : decode cX12_init 66 = .ok (.newarray .int, 2) := by decide +kernel
theorem dX12_init_68 : decode cX12_init 68 = .ok (.putfield 31, 3) := by decide +kernel
theorem dX12_init_71 : decode cX12_init 71 = .ok (.aload_n 0, 1) := by decide +kernel
theorem dX12_init_72 : decode cX12_init 72 = .ok (.sipush 140, 3) := by decide +kernel
theorem dX12_init_75 : decode cX12_init 75 = .ok (.newarray .int, 2) := by decide +kernel
theorem dX12_init_77 : decode cX12_init 77 = .ok (.putfield 34, 3) := by decide +kernel
theorem dX12_init_80 : decode cX12_init 80 = .ok (.aload_n 0, 1) := by decide +kernel
theorem dX12_init_81 : decode cX12_init 81 = .ok (.sipush 140, 3) := by decide +kernel
theorem dX12_init_84 : decode cX12_init 84 = .ok (.newarray .int, 2) := by decide +kernel
theorem dX12_init_86 : decode cX12_init 86 = .ok (.putfield 37, 3) := by decide +kernel
theorem dX12_init_89 : decode cX12_init 89 = .ok (.aload_n 0, 1) := by decide +kernel
theorem dX12_init_90 : decode cX12_init 90 = .ok (.sipush 140, 3) := by decide +kernel
theorem dX12_init_93 : decode cX12_init 93 = .ok (.newarray .int, 2) := by decide +kernel
theorem dX12_init_95 : decode cX12_init 95 = .ok (.putfield 40, 3) := by decide +kernel
theorem dX12_init_98 : decode cX12_init 98 = .ok (.aload_n 0, 1) := by decide +kernel
theorem dX12_init_99 : decode cX12_init 99 = .ok (.sipush 140, 3) := by decide +kernel
theorem dX12_init_102 : decode cX12_init 102 = .ok (.newarray .int, 2) := by decide +kernel
theorem dX12_init_104 : decode cX12_init 104 = .ok (.putfield 43, 3) := by decide +kernel
theorem dX12_init_107 : decode cX12_init 107 = .ok (.aload_n 0, 1) := by decide +kernel
theorem dX12_init_108 : decode cX12_init 108 = .ok (.sipush 140, 3) := by decide +kernel
theorem dX12_init_111 : decode cX12_init 111 = .ok (.newarray .int, 2) := by decide +kernel
theorem dX12_init_113 : decode cX12_init 113 = .ok (.putfield 46, 3) := by decide +kernel
theorem dX12_init_116 : decode cX12_init 116 = .ok (.aload_n 0, 1) := by decide +kernel
theorem dX12_init_117 : decode cX12_init 117 = .ok (.bipush 13, 2) := by decide +kernel
theorem dX12_init_119 : decode cX12_init 119 = .ok (.newarray .int, 2) := by decide +kernel
theorem dX12_init_121 : decode cX12_init 121 = .ok (.putfield 49, 3) := by decide +kernel
theorem dX12_init_124 : decode cX12_init 124 = .ok (.aload_n 0, 1) := by decide +kernel
theorem dX12_init_125 : decode cX12_init 125 = .ok (.bipush 13, 2) := by decide +kernel
theorem dX12_init_127 : decode cX12_init 127 = .ok (.newarray .int, 2) := by decide +kernel
theorem dX12_init_129 : decode cX12_init 129 = .ok (.putfield 52, 3) := by decide +kernel
theorem dX12_init_132 : decode cX12_init 132 = .ok (.aload_n 0, 1) := by decide +kernel
theorem dX12_init_133 : decode cX12_init 133 = .ok (.bipush 13, 2) := by decide +kernel
theorem dX12_init_135 : decode cX12_init 135 = .ok (.newarray .int, 2) := by decide +kernel
theorem dX12_init_137 : decode cX12_init 137 = .ok (.putfield 55, 3) := by decide +kernel
theorem dX12_init_140 : decode cX12_init 140 = .ok (.aload_n 0, 1) := by decide +kernel
theorem dX12_init_141 : decode cX12_init 141 = .ok (.bipush 13, 2) := by decide +kernel
theorem dX12_init_143 : decode cX12_init 143 = .ok (.newarray .int, 2) := by decide +kernel
theorem dX12_init_145 : decode cX12_init 145 = .ok (.putfield 58, 3) := by decide +kernel
theorem dX12_init_148 : decode cX12_init 148 = .ok (.aload_n 0, 1) := by decide +kernel
theorem dX12_init_149 : decode cX12_init 149 = .ok (.bipush 13, 2) := by decide +kernel
