theorem dX4_has_15 : decode cX4_has 15 = .ok (.iaload, 1) := by decide +kernel
theorem dX4_has_16 : decode cX4_has 16 = .ok (.iconst (-1), 1) := by decide +kernel
theorem dX4_has_17 : decode cX4_has 17 = .ok (.if_icmp .eq 7, 3) := by decide +kernel
theorem dX4_has_24 : decode cX4_has 24 = .ok (.iconst 0, 1) := by decide +kernel
theorem dX4_has_25 : decode cX4_has 25 = .ok (.ireturn, 1) := by decide +kernel
theorem dX4_init_0 : decode cX4_init 0 = .ok (.aload_n 0, 1) := by decide +kernel
theorem dX4_init_1 : decode cX4_init 1 = .ok (.invokespecial 3, 3) := by decide +kernel
theorem dX4_init_4 : decode cX4_init 4 = .ok (.aload_n 0, 1) := by decide +kernel
theorem dX4_init_5 : decode cX4_init 5 = .ok (.bipush 16, 2) := by decide +kernel
theorem dX4_init_7 : decode cX4_init 7 = .ok (.newarray .int, 2) := by decide +kernel
theorem dX4_init_9 : decode cX4_init 9 = .ok (.putfield 9, 3) := by decide +kernel
theorem dX4_init_12 : decode cX4_init 12 = .ok (.aload_n 0, 1) := by decide +kernel
theorem dX4_init_13 : decode cX4_init 13 = .ok (.bipush 16, 2) := by decide +kernel
theorem dX4_init_15 : decode cX4_init 15 = .ok (.newarray .int, 2) := by decide +kernel
theorem dX4_init_17 : decode cX4_init 17 = .ok (.putfield 15, 3) := by decide +kernel
theorem dX4_init_20 : decode cX4_init 20 = .ok (.aload_n 0, 1) := by decide +kernel
theorem dX4_init_21 : decode cX4_init 21 = .ok (.bipush 16, 2) := by decide +kernel
theorem dX4_init_23 : decode cX4_init 23 = .ok (.newarray .int, 2) := by decide +kernel
theorem dX4_init_25 : decode cX4_init 25 = .ok (.putfield 18, 3) := by decide +kernel
theorem dX4_init_28 : decode cX4_init 28 = .ok (.aload_n 0, 1) := by decide +kernel
theorem dX4_init_29 : decode cX4_init 29 = .ok (.bipush 16, 2) := by decide +kernel
theorem dX4_init_31 : decode cX4_init 31 = .ok (.newarray .int, 2) := by decide +kernel
theorem dX4_init_33 : decode cX4_init 33 = .ok (.putfield 21, 3) := by decide +kernel
theorem dX4_init_36 : decode cX4_init 36 = .ok (.aload_n 0, 1) := by decide +kernel
theorem dX4_init_37 : decode cX4_init 37 = .ok (.bipush 16, 2) := by decide +kernel
theorem dX4_init_39 : decode cX4_init 39 = .ok (.newarray .int, 2) := by decide +kernel
theorem dX4_init_41 : decode cX4_init 41 = .ok (.putfield 24, 3) := by decide +kernel
theorem dX4_init_44 : decode cX4_init 44 = .ok (.aload_n 0, 1) := by decide +kernel
theorem dX4_init_45 : decode cX4_init 45 = .ok (.ldc 27, 2) := by decide +kernel
theorem dX4_init_47 : decode cX4_init 47 = .ok (.invokevirtual 29, 3) := by decide +kernel
theorem dX4_init_50 : decode cX4_init 50 = .ok (.bipush 16, 2) := by decide +kernel
theorem dX4_init_52 : decode cX4_init 52 = .ok (.multianewarray 35 2, 4) := by decide +kernel
theorem dX4_init_56 : decode cX4_init 56 = .ok (.putfield 37, 3) := by decide +kernel
theorem dX4_init_59 : decode cX4_init 59 = .ok (.aload_n 0, 1) := by decide +kernel
theorem dX4_init_60 : decode cX4_init 60 = .ok (.bipush 26, 2) := by decide +kernel
theorem dX4_init_62 : decode cX4_init 62 = .ok (.newarray .int, 2) := by decide +kernel
theorem dX4_init_64 : decode cX4_init 64 = .ok (.putfield 40, 3) := by decide +kernel
theorem dX4_init_67 : decode cX4_init 67 = .ok (.aload_n 0, 1) := by decide +kernel
theorem dX4_init_68 : decode cX4_init 68 = .ok (.bipush 26, 2) := by decide +kernel
theorem dX4_init_70 : decode cX4_init 70 = .ok (.newarray .int, 2) := by decide +kernel
theorem dX4_init_72 : decode cX4_init 72 = .ok (.putfield 43, 3) := by decide +kernel
theorem dX4_init_75 : decode cX4_init 75 = .ok (.aload_n 0, 1) := by decide +kernel
theorem dX4_init_76 : decode cX4_init 76 = .ok (.bipush 26, 2) := by decide +kernel
theorem dX4_init_78 : decode cX4_init 78 = .ok (.newarray .int, 2) := by decide +kernel
theorem dX4_init_80 : decode cX4_init 80 = .ok (.putfield 46, 3) := by decide +kernel
theorem dX4_init_83 : decode cX4_init 83 = .ok (.aload_n 0, 1) := by decide +kernel
theorem dX4_init_84 : decode cX4_init 84 = .ok (.bipush 26, 2) := by decide +kernel
theorem dX4_init_86 : decode cX4_init 86 = .ok (.newarray .int, 2) := by decide +kernel
theorem dX4_init_88 : decode cX4_init 88 = .ok (.putfield 49, 3) := by decide +kernel
theorem dX4_init_91 : decode cX4_init 91 = .ok (.aload_n 0, 1) := by decide +kernel
theorem dX4_init_92 : decode cX4_init 92 = .ok (.bipush 26, 2) := by decide +kernel
theorem dX4_init_94 : decode cX4_init 94 = .ok (.newarray .int, 2) := by decide +kernel
theorem dX4_init_96 : decode cX4_init 96 = .ok (.putfield 52, 3) := by decide +kernel
theorem dX4_init_99 : decode cX4_init 99 = .ok (.aload_n 0, 1) := by decide +kernel
theorem dX4_init_100 : decode cX4_init 100 = .ok (.new 55, 3) := by decide +kernel
theorem dX4_init_103 : decode cX4_init 103 = .ok (.dup, 1) := by decide +kernel
theorem dX4_init_104 : decode cX4_init 104 = .ok (.invokespecial 57, 3) := by decide +kernel
theorem dX4_init_107 : decode cX4_init 107 = .ok (.putfield 58, 3) := by decide +kernel
theorem dX4_init_110 : decode cX4_init 110 = .ok (.aload_n 0, 1) := by decide +kernel
theorem dX4_init_111 : decode cX4_init 111 = .ok (.getfield 40, 3) := by decide +kernel
theorem dX4_init_114 : decode cX4_init 114 = .ok (.iconst (-1), 1) := by decide +kernel
theorem dX4_init_115 : decode cX4_init 115 = .ok (.invokestatic 62, 3) := by decide +kernel
theorem dX4_init_118 : decode cX4_init 118 = .ok (.return_, 1) := by decide +kernel
theorem dX5_init_0 : decode cX5_init 0 = .ok (.aload_n 0, 1) := by decide +kernel
theorem dX5_init_1 : decode cX5_init 1 = .ok (.invokespecial 3, 3) := by decide +kernel
theorem dX5_init_4 : decode cX5_init 4 = .ok (.aload_n 0, 1) := by decide +kernel
theorem dX5_init_5 : decode cX5_init 5 = .ok (.bipush 64, 2) := by decide +kernel
theorem dX5_init_7 : decode cX5_init 7 = .ok (.newarray .int, 2) := by decide +kernel
theorem dX5_init_9 : decode cX5_init 9 = .ok (.putfield 9, 3) := by decide +kernel
theorem dX5_init_12 : decode cX5_init 12 = .ok (.aload_n 0, 1) := by decide +kernel
theorem dX5_init_13 : decode cX5_init 13 = .ok (.bipush 64, 2) := by decide +kernel
theorem dX5_init_15 : decode cX5_init 15 = .ok (.newarray .int, 2) := by decide +kernel
theorem dX5_init_17 : decode cX5_init 17 = .ok (.putfield 15, 3) := by decide +kernel
theorem dX5_init_20 : decode cX5_init 20 = .ok (.aload_n 0, 1) := by decide +kernel
theorem dX5_init_21 : decode cX5_init 21 = .ok (.bipush 64, 2) := by decide +kernel
theorem dX5_init_23 : decode cX5_init 23 = .ok (.newarray .int, 2) := by decide +kernel
theorem dX5_init_25 : decode cX5_init 25 = .ok (.putfield 18, 3) := by decide +kernel
theorem dX5_init_28 : decode cX5_init 28 = .ok (.return_, 1) := by decide +kernel
theorem dX5_rowOf_0 : decode cX5_rowOf 0 = .ok (.iload_n 1, 1) := by decide +kernel
theorem dX5_rowOf_1 : decode cX5_rowOf 1 = .ok (.ifCond .lt 17, 3) := by decide +kernel
theorem dX5_rowOf_4 : decode cX5_rowOf 4 = .ok (.iload_n 1, 1) := by decide +kernel
theorem dX5_rowOf_5 : decode cX5_rowOf 5 = .ok (.bipush 64, 2) := by decide +kernel
theorem dX5_rowOf_7 : decode cX5_rowOf 7 = .ok (.if_icmp .ge 11, 3) := by decide +kernel
theorem dX5_rowOf_10 : decode cX5_rowOf 10 = .ok (.iload_n 1, 1) := by decide +kernel
theorem dX5_rowOf_11 : decode cX5_rowOf 11 = .ok (.aload_n 0, 1) := by decide +kernel
theorem dX5_rowOf_12 : decode cX5_rowOf 12 = .ok (.getfield 21, 3) := by decide +kernel
theorem dX5_rowOf_15 : decode cX5_rowOf 15 = .ok (.if_icmp .lt 5, 3) := by decide +kernel
theorem dX5_rowOf_18 : decode cX5_rowOf 18 = .ok (.iconst (-1), 1) := by decide +kernel
theorem dX5_rowOf_19 : decode cX5_rowOf 19 = .ok (.ireturn, 1) := by decide +kernel
theorem dX6_copy_0 : decode cX6_copy 0 = .ok (.aload_n 1, 1) := by decide +kernel
theorem dX6_copy_1 : decode cX6_copy 1 = .ok (.getfield 9, 3) := by decide +kernel
theorem dX6_copy_4 : decode cX6_copy 4 = .ok (.iconst 0, 1) := by decide +kernel
theorem dX6_copy_5 : decode cX6_copy 5 = .ok (.aload_n 0, 1) := by decide +kernel
theorem dX6_copy_6 : decode cX6_copy 6 = .ok (.getfield 9, 3) := by decide +kernel
theorem dX6_copy_9 : decode cX6_copy 9 = .ok (.iconst 0, 1) := by decide +kernel
theorem dX6_copy_10 : decode cX6_copy 10 = .ok (.bipush 16, 2) := by decide +kernel
theorem dX6_copy_12 : decode cX6_copy 12 = .ok (.invokestatic 29, 3) := by decide +kernel
theorem dX6_copy_15 : decode cX6_copy 15 = .ok (.aload_n 0, 1) := by decide +kernel
theorem dX6_copy_16 : decode cX6_copy 16 = .ok (.aload_n 1, 1) := by decide +kernel
theorem dX6_copy_17 : decode cX6_copy 17 = .ok (.getfield 25, 3) := by decide +kernel
theorem dX6_copy_20 : decode cX6_copy 20 = .ok (.putfield 25, 3) := by decide +kernel
theorem dX6_copy_23 : decode cX6_copy 23 = .ok (.return_, 1) := by decide +kernel
theorem dX6_init_0 : decode cX6_init 0 = .ok (.aload_n 0, 1) := by decide +kernel
theorem dX6_init_1 : decode cX6_init 1 = .ok (.invokespecial 3, 3) := by decide +kernel
theorem dX6_init_4 : decode cX6_init 4 = .ok (.aload_n 0, 1) := by decide +kernel
theorem dX6_init_5 : decode cX6_init 5 = .ok (.bipush 16, 2) := by decide +kernel
theorem dX6_init_7 : decode cX6_init 7 = .ok (.newarray .int, 2) := by decide +kernel
theorem dX6_init_9 : decode cX6_init 9 = .ok (.putfield 9, 3) := by decide +kernel
theorem dX6_init_12 : decode cX6_init 12 = .ok (.aload_n 0, 1) := by decide +kernel
theorem dX6_init_13 : decode cX6_init 13 = .ok (.aload_n 1, 1) := by decide +kernel
theorem dX6_init_14 : decode cX6_init 14 = .ok (.putfield 15, 3) := by decide +kernel
theorem dX6_init_17 : decode cX6_init 17 = .ok (.return_, 1) := by decide +kernel
theorem dX7_addJoined_0 : decode cX7_addJoined 0 = .ok (.iconst 0, 1) := by decide +kernel
theorem dX7_addJoined_1 : decode cX7_addJoined 1 = .ok (.istore_n 2, 1) := by decide +kernel
theorem dX7_addJoined_2 : decode cX7_addJoined 2 = .ok (.iload_n 2, 1) := by decide +kernel
theorem dX7_addJoined_3 : decode cX7_addJoined 3 = .ok (.aload_n 1, 1) := by decide +kernel
theorem dX7_addJoined_4 : decode cX7_addJoined 4 = .ok (.getfield 75, 3) := by decide +kernel
theorem dX7_addJoined_7 : decode cX7_addJoined 7 = .ok (.if_icmp .ge 37, 3) := by decide +kernel
theorem dX7_addJoined_44 : decode cX7_addJoined 44 = .ok (.return_, 1) := by decide +kernel
theorem dX7_begin_0 : decode cX7_begin 0 = .ok (.aload_n 0, 1) := by decide +kernel
theorem dX7_begin_1 : decode cX7_begin 1 = .ok (.getfield 27, 3) := by decide +kernel
theorem dX7_begin_4 : decode cX7_begin 4 = .ok (.aload_n 1, 1) := by decide +kernel
theorem dX7_begin_5 : decode cX7_begin 5 = .ok (.invokevirtual 31, 3) := by decide +kernel
theorem dX7_begin_8 : decode cX7_begin 8 = .ok (.aload_n 0, 1) := by decide +kernel
theorem dX7_begin_9 : decode cX7_begin 9 = .ok (.invokevirtual 35, 3) := by decide +kernel
theorem dX7_begin_12 : decode cX7_begin 12 = .ok (.return_, 1) := by decide +kernel
theorem dX7_beginHere_0 : decode cX7_beginHere 0 = .ok (.aload_n 0, 1) := by decide +kernel
theorem dX7_beginHere_1 : decode cX7_beginHere 1 = .ok (.iconst 0, 1) := by decide +kernel
theorem dX7_beginHere_2 : decode cX7_beginHere 2 = .ok (.putfield 38, 3) := by decide +kernel
theorem dX7_beginHere_5 : decode cX7_beginHere 5 = .ok (.aload_n 0, 1) := by decide +kernel
theorem dX7_beginHere_6 : decode cX7_beginHere 6 = .ok (.iconst 0, 1) := by decide +kernel
theorem dX7_beginHere_7 : decode cX7_beginHere 7 = .ok (.putfield 42, 3) := by decide +kernel
theorem dX7_beginHere_10 : decode cX7_beginHere 10 = .ok (.return_, 1) := by decide +kernel
theorem dX7_init_0 : decode cX7_init 0 = .ok (.aload_n 0, 1) := by decide +kernel
theorem dX7_init_1 : decode cX7_init 1 = .ok (.invokespecial 3, 3) := by decide +kernel
theorem dX7_init_4 : decode cX7_init 4 = .ok (.aload_n 0, 1) := by decide +kernel
theorem dX7_init_5 : decode cX7_init 5 = .ok (.bipush 16, 2) := by decide +kernel
theorem dX7_init_7 : decode cX7_init 7 = .ok (.newarray .int, 2) := by decide +kernel
theorem dX7_init_9 : decode cX7_init 9 = .ok (.putfield 11, 3) := by decide +kernel
theorem dX7_init_12 : decode cX7_init 12 = .ok (.aload_n 0, 1) := by decide +kernel
theorem dX7_init_13 : decode cX7_init 13 = .ok (.bipush 16, 2) := by decide +kernel
theorem dX7_init_15 : decode cX7_init 15 = .ok (.newarray .int, 2) := by decide +kernel
theorem dX7_init_17 : decode cX7_init 17 = .ok (.putfield 15, 3) := by decide +kernel
theorem dX7_init_20 : decode cX7_init 20 = .ok (.aload_n 0, 1) := by decide +kernel
theorem dX7_init_21 : decode cX7_init 21 = .ok (.aload_n 1, 1) := by decide +kernel
theorem dX7_init_22 : decode cX7_init 22 = .ok (.putfield 18, 3) := by decide +kernel
theorem dX7_init_25 : decode cX7_init 25 = .ok (.aload_n 0, 1) := by decide +kernel
theorem dX7_init_26 : decode cX7_init 26 = .ok (.new 22, 3) := by decide +kernel
theorem dX7_init_29 : decode cX7_init 29 = .ok (.dup, 1) := by decide +kernel
theorem dX7_init_30 : decode cX7_init 30 = .ok (.aload_n 1, 1) := by decide +kernel
theorem dX7_init_31 : decode cX7_init 31 = .ok (.invokespecial 24, 3) := by decide +kernel
theorem dX7_init_34 : decode cX7_init 34 = .ok (.putfield 27, 3) := by decide +kernel
theorem dX7_init_37 : decode cX7_init 37 = .ok (.return_, 1) := by decide +kernel
theorem dX8_append_0 : decode cX8_append 0 = .ok (.iload_n 3, 1) := by decide +kernel
theorem dX8_append_1 : decode cX8_append 1 = .ok (.iconst 1, 1) := by decide +kernel
theorem dX8_append_2 : decode cX8_append 2 = .ok (.if_icmp .lt 21, 3) := by decide +kernel
theorem dX8_append_5 : decode cX8_append 5 = .ok (.iload_n 3, 1) := by decide +kernel
theorem dX8_append_6 : decode cX8_append 6 = .ok (.bipush 8, 2) := by decide +kernel
theorem dX8_append_8 : decode cX8_append 8 = .ok (.if_icmp .gt 15, 3) := by decide +kernel
theorem dX8_append_11 : decode cX8_append 11 = .ok (.aload_n 0, 1) := by decide +kernel
theorem dX8_append_12 : decode cX8_append 12 = .ok (.getfield 19, 3) := by decide +kernel
theorem dX8_append_15 : decode cX8_append 15 = .ok (.iload_n 3, 1) := by decide +kernel
theorem dX8_append_16 : decode cX8_append 16 = .ok (.iadd, 1) := by decide +kernel
theorem dX8_append_17 : decode cX8_append 17 = .ok (.sipush 480, 3) := by decide +kernel
theorem dX8_append_20 : decode cX8_append 20 = .ok (.if_icmp .le 5, 3) := by decide +kernel
theorem dX8_append_23 : decode cX8_append 23 = .ok (.iconst 0, 1) := by decide +kernel
theorem dX8_append_24 : decode cX8_append 24 = .ok (.ireturn, 1) := by decide +kernel
theorem dX8_append_25 : decode cX8_append 25 = .ok (.iconst 0, 1) := by decide +kernel
theorem dX8_append_26 : decode cX8_append 26 = .ok (.istore 4, 2) := by decide +kernel
theorem dX8_append_28 : decode cX8_append 28 = .ok (.iload 4, 2) := by decide +kernel
theorem dX8_append_30 : decode cX8_append 30 = .ok (.iload_n 3, 1) := by decide +kernel
theorem dX8_append_31 : decode cX8_append 31 = .ok (.if_icmp .ge 33, 3) := by decide +kernel
theorem dX8_append_34 : decode cX8_append 34 = .ok (.lload_n 1, 1) := by decide +kernel
theorem dX8_append_35 : decode cX8_append 35 = .ok (.iload 4, 2) := by decide +kernel
theorem dX8_append_37 : decode cX8_append 37 = .ok (.invokestatic 23, 3) := by decide +kernel
theorem dX8_append_40 : decode cX8_append 40 = .ok (.istore 5, 2) := by decide +kernel
theorem dX8_append_42 : decode cX8_append 42 = .ok (.iload 5, 2) := by decide +kernel
theorem dX8_append_44 : decode cX8_append 44 = .ok (.bipush 33, 2) := by decide +kernel
theorem dX8_append_46 : decode cX8_append 46 = .ok (.if_icmp .lt 10, 3) := by decide +kernel
theorem dX8_append_49 : decode cX8_append 49 = .ok (.iload 5, 2) := by decide +kernel
theorem dX8_append_51 : decode cX8_append 51 = .ok (.bipush 126, 2) := by decide +kernel
theorem dX8_append_53 : decode cX8_append 53 = .ok (.if_icmp .le 5, 3) := by decide +kernel
theorem dX8_append_56 : decode cX8_append 56 = .ok (.iconst 0, 1) := by decide +kernel
theorem dX8_append_57 : decode cX8_append 57 = .ok (.ireturn, 1) := by decide +kernel
theorem dX8_append_58 : decode cX8_append 58 = .ok (.iinc 4 1, 3) := by decide +kernel
theorem dX8_append_61 : decode cX8_append 61 = .ok (.goto (-33), 3) := by decide +kernel
theorem dX8_append_64 : decode cX8_append 64 = .ok (.iload_n 3, 1) := by decide +kernel
theorem dX8_append_65 : decode cX8_append 65 = .ok (.iconst 1, 1) := by decide +kernel
theorem dX8_append_66 : decode cX8_append 66 = .ok (.isub, 1) := by decide +kernel
theorem dX8_append_67 : decode cX8_append 67 = .ok (.istore 4, 2) := by decide +kernel
theorem dX8_append_69 : decode cX8_append 69 = .ok (.iload 4, 2) := by decide +kernel
theorem dX8_append_71 : decode cX8_append 71 = .ok (.ifCond .lt 35, 3) := by decide +kernel
theorem dX8_append_74 : decode cX8_append 74 = .ok (.aload_n 0, 1) := by decide +kernel
theorem dX8_append_75 : decode cX8_append 75 = .ok (.getfield 9, 3) := by decide +kernel
theorem dX8_append_78 : decode cX8_append 78 = .ok (.aload_n 0, 1) := by decide +kernel
theorem dX8_append_79 : decode cX8_append 79 = .ok (.getfield 19, 3) := by decide +kernel
theorem dX8_append_82 : decode cX8_append 82 = .ok (.lload_n 1, 1) := by decide +kernel
theorem dX8_append_83 : decode cX8_append 83 = .ok (.iload 4, 2) := by decide +kernel
theorem dX8_append_85 : decode cX8_append 85 = .ok (.invokestatic 23, 3) := by decide +kernel
theorem dX8_append_88 : decode cX8_append 88 = .ok (.i2c, 1) := by decide +kernel
theorem dX8_append_89 : decode cX8_append 89 = .ok (.castore, 1) := by decide +kernel
theorem dX8_append_90 : decode cX8_append 90 = .ok (.aload_n 0, 1) := by decide +kernel
theorem dX8_append_91 : decode cX8_append 91 = .ok (.dup, 1) := by decide +kernel
theorem dX8_append_92 : decode cX8_append 92 = .ok (.getfield 19, 3) := by decide +kernel
theorem dX8_append_95 : decode cX8_append 95 = .ok (.iconst 1, 1) := by decide +kernel
theorem dX8_append_96 : decode cX8_append 96 = .ok (.iadd, 1) := by decide +kernel
theorem dX8_append_97 : decode cX8_append 97 = .ok (.putfield 19, 3) := by decide +kernel
theorem dX8_append_100 : decode cX8_append 100 = .ok (.iinc 4 (-1), 3) := by decide +kernel
theorem dX8_append_103 : decode cX8_append 103 = .ok (.goto (-34), 3) := by decide +kernel
theorem dX8_append_106 : decode cX8_append 106 = .ok (.iconst 1, 1) := by decide +kernel
theorem dX8_append_107 : decode cX8_append 107 = .ok (.ireturn, 1) := by decide +kernel
theorem dX8_byteOf_0 : decode cX8_byteOf 0 = .ok (.lload_n 0, 1) := by decide +kernel
theorem dX8_byteOf_1 : decode cX8_byteOf 1 = .ok (.bipush 8, 2) := by decide +kernel
theorem dX8_byteOf_3 : decode cX8_byteOf 3 = .ok (.iload_n 2, 1) := by decide +kernel
theorem dX8_byteOf_4 : decode cX8_byteOf 4 = .ok (.imul, 1) := by decide +kernel
theorem dX8_byteOf_5 : decode cX8_byteOf 5 = .ok (.lushr, 1) := by decide +kernel
theorem dX8_byteOf_6 : decode cX8_byteOf 6 = .ok (.l2i, 1) := by decide +kernel
theorem dX8_byteOf_7 : decode cX8_byteOf 7 = .ok (.sipush 255, 3) := by decide +kernel
theorem dX8_byteOf_10 : decode cX8_byteOf 10 = .ok (.iand, 1) := by decide +kernel
theorem dX8_byteOf_11 : decode cX8_byteOf 11 = .ok (.ireturn, 1) := by decide +kernel
theorem dX8_init_0 : decode cX8_init 0 = .ok (.aload_n 0, 1) := by decide +kernel
theorem dX8_init_1 : decode cX8_init 1 = .ok (.invokespecial 3, 3) := by decide +kernel
theorem dX8_init_4 : decode cX8_init 4 = .ok (.aload_n 0, 1) := by decide +kernel
theorem dX8_init_5 : decode cX8_init 5 = .ok (.sipush 480, 3) := by decide +kernel
theorem dX8_init_8 : decode cX8_init 8 = .ok (.newarray .char, 2) := by decide +kernel
theorem dX8_init_10 : decode cX8_init 10 = .ok (.putfield 9, 3) := by decide +kernel
theorem dX8_init_13 : decode cX8_init 13 = .ok (.aload_n 0, 1) := by decide +kernel
theorem dX8_init_14 : decode cX8_init 14 = .ok (.aload_n 1, 1) := by decide +kernel
theorem dX8_init_15 : decode cX8_init 15 = .ok (.putfield 15, 3) := by decide +kernel
theorem dX8_init_18 : decode cX8_init 18 = .ok (.return_, 1) := by decide +kernel
theorem dX8_next_0 : decode cX8_next 0 = .ok (.aload_n 0, 1) := by decide +kernel
theorem dX8_next_1 : decode cX8_next 1 = .ok (.getfield 32, 3) := by decide +kernel
theorem dX8_next_4 : decode cX8_next 4 = .ok (.aload_n 0, 1) := by decide +kernel
theorem dX8_next_5 : decode cX8_next 5 = .ok (.getfield 19, 3) := by decide +kernel
theorem dX8_next_8 : decode cX8_next 8 = .ok (.if_icmp .ge 15, 3) := by decide +kernel
theorem dX8_next_23 : decode cX8_next 23 = .ok (.iconst 0, 1) := by decide +kernel
theorem dX8_next_24 : decode cX8_next 24 = .ok (.ireturn, 1) := by decide +kernel
theorem dX8_readAll_0 : decode cX8_readAll 0 = .ok (.aload_n 0, 1) := by decide +kernel
theorem dX8_readAll_1 : decode cX8_readAll 1 = .ok (.getfield 15, 3) := by decide +kernel
theorem dX8_readAll_4 : decode cX8_readAll 4 = .ok (.invokevirtual 27, 3) := by decide +kernel
theorem dX8_readAll_7 : decode cX8_readAll 7 = .ok (.aload_n 0, 1) := by decide +kernel
theorem dX8_readAll_8 : decode cX8_readAll 8 = .ok (.iconst 0, 1) := by decide +kernel
theorem dX8_readAll_9 : decode cX8_readAll 9 = .ok (.putfield 32, 3) := by decide +kernel
theorem dX8_readAll_12 : decode cX8_readAll 12 = .ok (.aload_n 0, 1) := by decide +kernel
theorem dX8_readAll_13 : decode cX8_readAll 13 = .ok (.invokevirtual 35, 3) := by decide +kernel
theorem dX8_readAll_16 : decode cX8_readAll 16 = .ok (.ifCond .eq 25, 3) := by decide +kernel
theorem dX8_readAll_41 : decode cX8_readAll 41 = .ok (.iconst 0, 1) := by decide +kernel
theorem dX8_readAll_42 : decode cX8_readAll 42 = .ok (.istore_n 1, 1) := by decide +kernel
theorem dX8_readAll_43 : decode cX8_readAll 43 = .ok (.aload_n 0, 1) := by decide +kernel
theorem dX8_readAll_44 : decode cX8_readAll 44 = .ok (.iconst 0, 1) := by decide +kernel
theorem dX8_readAll_45 : decode cX8_readAll 45 = .ok (.putfield 19, 3) := by decide +kernel
theorem dX8_readAll_48 : decode cX8_readAll 48 = .ok (.iload_n 1, 1) := by decide +kernel
theorem dX8_readAll_49 : decode cX8_readAll 49 = .ok (.ireturn, 1) := by decide +kernel
theorem dX8_readRegister_0 : decode cX8_readRegister 0 = .ok (.aload_n 0, 1) := by decide +kernel
theorem dX8_readRegister_1 : decode cX8_readRegister 1 = .ok (.getfield 15, 3) := by decide +kernel
theorem dX8_readRegister_4 : decode cX8_readRegister 4 = .ok (.getfield 65, 3) := by decide +kernel
theorem dX8_readRegister_7 : decode cX8_readRegister 7 = .ok (.iload_n 1, 1) := by decide +kernel
theorem dX8_readRegister_8 : decode cX8_readRegister 8 = .ok (.aload_n 0, 1) := by decide +kernel
theorem dX8_readRegister_9 : decode cX8_readRegister 9 = .ok (.getfield 32, 3) := by decide +kernel
theorem dX8_readRegister_12 : decode cX8_readRegister 12 = .ok (.iastore, 1) := by decide +kernel
