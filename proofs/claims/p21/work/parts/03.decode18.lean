theorem dX1_trace_III_6 : decode cX1_trace_III 6 = .ok (.ifCond .lt 26, 3) := by decide +kernel
theorem dX1_trace_III_9 : decode cX1_trace_III 9 = .ok (.iload_n 1, 1) := by decide +kernel
theorem dX1_trace_III_10 : decode cX1_trace_III 10 = .ok (.bipush 64, 2) := by decide +kernel
theorem dX1_trace_III_12 : decode cX1_trace_III 12 = .ok (.if_icmp .ge 20, 3) := by decide +kernel
theorem dX1_trace_III_15 : decode cX1_trace_III 15 = .ok (.iload_n 1, 1) := by decide +kernel
theorem dX1_trace_III_16 : decode cX1_trace_III 16 = .ok (.aload_n 0, 1) := by decide +kernel
theorem dX1_trace_III_17 : decode cX1_trace_III 17 = .ok (.getfield 282, 3) := by decide +kernel
theorem dX1_trace_III_20 : decode cX1_trace_III 20 = .ok (.if_icmp .ge 12, 3) := by decide +kernel
theorem dX1_trace_III_23 : decode cX1_trace_III 23 = .ok (.iload_n 2, 1) := by decide +kernel
theorem dX1_trace_III_24 : decode cX1_trace_III 24 = .ok (.ifCond .lt 8, 3) := by decide +kernel
theorem dX1_trace_III_27 : decode cX1_trace_III 27 = .ok (.iload_n 2, 1) := by decide +kernel
theorem dX1_trace_III_28 : decode cX1_trace_III 28 = .ok (.iconst 2, 1) := by decide +kernel
theorem dX1_trace_III_29 : decode cX1_trace_III 29 = .ok (.if_icmp .le 5, 3) := by decide +kernel
theorem dX1_trace_III_32 : decode cX1_trace_III 32 = .ok (.iconst (-1), 1) := by decide +kernel
theorem dX1_trace_III_33 : decode cX1_trace_III 33 = .ok (.ireturn, 1) := by decide +kernel
theorem dX1_trace_III_34 : decode cX1_trace_III 34 = .ok (.aload_n 0, 1) := by decide +kernel
theorem dX1_trace_III_35 : decode cX1_trace_III 35 = .ok (.getfield 282, 3) := by decide +kernel
theorem dX1_trace_III_38 : decode cX1_trace_III 38 = .ok (.iconst 1, 1) := by decide +kernel
theorem dX1_trace_III_39 : decode cX1_trace_III 39 = .ok (.isub, 1) := by decide +kernel
theorem dX1_trace_III_40 : decode cX1_trace_III 40 = .ok (.iload_n 1, 1) := by decide +kernel
theorem dX1_trace_III_41 : decode cX1_trace_III 41 = .ok (.isub, 1) := by decide +kernel
theorem dX1_trace_III_42 : decode cX1_trace_III 42 = .ok (.bipush 64, 2) := by decide +kernel
theorem dX1_trace_III_44 : decode cX1_trace_III 44 = .ok (.irem, 1) := by decide +kernel
theorem dX1_trace_III_45 : decode cX1_trace_III 45 = .ok (.istore_n 3, 1) := by decide +kernel
theorem dX1_trace_III_46 : decode cX1_trace_III 46 = .ok (.iload_n 2, 1) := by decide +kernel
theorem dX1_trace_III_47 : decode cX1_trace_III 47 = .ok (.ifCond .ne 12, 3) := by decide +kernel
theorem dX1_trace_III_50 : decode cX1_trace_III 50 = .ok (.aload_n 0, 1) := by decide +kernel
theorem dX1_trace_III_51 : decode cX1_trace_III 51 = .ok (.getfield 119, 3) := by decide +kernel
theorem dX1_trace_III_54 : decode cX1_trace_III 54 = .ok (.iload_n 3, 1) := by decide +kernel
theorem dX1_trace_III_55 : decode cX1_trace_III 55 = .ok (.iaload, 1) := by decide +kernel
theorem dX1_trace_III_56 : decode cX1_trace_III 56 = .ok (.goto 23, 3) := by decide +kernel
theorem dX1_trace_III_59 : decode cX1_trace_III 59 = .ok (.iload_n 2, 1) := by decide +kernel
theorem dX1_trace_III_60 : decode cX1_trace_III 60 = .ok (.iconst 1, 1) := by decide +kernel
theorem dX1_trace_III_61 : decode cX1_trace_III 61 = .ok (.if_icmp .ne 12, 3) := by decide +kernel
theorem dX1_trace_III_64 : decode cX1_trace_III 64 = .ok (.aload_n 0, 1) := by decide +kernel
theorem dX1_trace_III_65 : decode cX1_trace_III 65 = .ok (.getfield 122, 3) := by decide +kernel
theorem dX1_trace_III_68 : decode cX1_trace_III 68 = .ok (.iload_n 3, 1) := by decide +kernel
theorem dX1_trace_III_69 : decode cX1_trace_III 69 = .ok (.iaload, 1) := by decide +kernel
theorem dX1_trace_III_70 : decode cX1_trace_III 70 = .ok (.goto 9, 3) := by decide +kernel
theorem dX1_trace_III_73 : decode cX1_trace_III 73 = .ok (.aload_n 0, 1) := by decide +kernel
theorem dX1_trace_III_74 : decode cX1_trace_III 74 = .ok (.getfield 125, 3) := by decide +kernel
theorem dX1_trace_III_77 : decode cX1_trace_III 77 = .ok (.iload_n 3, 1) := by decide +kernel
theorem dX1_trace_III_78 : decode cX1_trace_III 78 = .ok (.iaload, 1) := by decide +kernel
theorem dX1_trace_III_79 : decode cX1_trace_III 79 = .ok (.ireturn, 1) := by decide +kernel
theorem dX1_trace_ZIIV_0 : decode cX1_trace_ZIIV 0 = .ok (.aload_n 0, 1) := by decide +kernel
theorem dX1_trace_ZIIV_1 : decode cX1_trace_ZIIV 1 = .ok (.getfield 307, 3) := by decide +kernel
theorem dX1_trace_ZIIV_4 : decode cX1_trace_ZIIV 4 = .ok (.ifCond .eq 4, 3) := by decide +kernel
theorem dX1_trace_ZIIV_7 : decode cX1_trace_ZIIV 7 = .ok (.return_, 1) := by decide +kernel
theorem dX1_trace_ZIIV_8 : decode cX1_trace_ZIIV 8 = .ok (.aload_n 0, 1) := by decide +kernel
theorem dX1_trace_ZIIV_9 : decode cX1_trace_ZIIV 9 = .ok (.getfield 282, 3) := by decide +kernel
theorem dX1_trace_ZIIV_12 : decode cX1_trace_ZIIV 12 = .ok (.bipush 64, 2) := by decide +kernel
theorem dX1_trace_ZIIV_14 : decode cX1_trace_ZIIV 14 = .ok (.irem, 1) := by decide +kernel
theorem dX1_trace_ZIIV_15 : decode cX1_trace_ZIIV 15 = .ok (.istore 4, 2) := by decide +kernel
theorem dX1_trace_ZIIV_17 : decode cX1_trace_ZIIV 17 = .ok (.aload_n 0, 1) := by decide +kernel
theorem dX1_trace_ZIIV_18 : decode cX1_trace_ZIIV 18 = .ok (.getfield 119, 3) := by decide +kernel
theorem dX1_trace_ZIIV_21 : decode cX1_trace_ZIIV 21 = .ok (.iload 4, 2) := by decide +kernel
theorem dX1_trace_ZIIV_23 : decode cX1_trace_ZIIV 23 = .ok (.iload_n 1, 1) := by decide +kernel
theorem dX1_trace_ZIIV_24 : decode cX1_trace_ZIIV 24 = .ok (.ifCond .eq 7, 3) := by decide +kernel
theorem dX1_trace_ZIIV_27 : decode cX1_trace_ZIIV 27 = .ok (.iconst 1, 1) := by decide +kernel
theorem dX1_trace_ZIIV_28 : decode cX1_trace_ZIIV 28 = .ok (.goto 4, 3) := by decide +kernel
theorem dX1_trace_ZIIV_31 : decode cX1_trace_ZIIV 31 = .ok (.iconst 0, 1) := by decide +kernel
theorem dX1_trace_ZIIV_32 : decode cX1_trace_ZIIV 32 = .ok (.iastore, 1) := by decide +kernel
theorem dX1_trace_ZIIV_33 : decode cX1_trace_ZIIV 33 = .ok (.aload_n 0, 1) := by decide +kernel
theorem dX1_trace_ZIIV_34 : decode cX1_trace_ZIIV 34 = .ok (.getfield 122, 3) := by decide +kernel
theorem dX1_trace_ZIIV_37 : decode cX1_trace_ZIIV 37 = .ok (.iload 4, 2) := by decide +kernel
theorem dX1_trace_ZIIV_39 : decode cX1_trace_ZIIV 39 = .ok (.aload_n 0, 1) := by decide +kernel
theorem dX1_trace_ZIIV_40 : decode cX1_trace_ZIIV 40 = .ok (.getfield 67, 3) := by decide +kernel
theorem dX1_trace_ZIIV_43 : decode cX1_trace_ZIIV 43 = .ok (.iload_n 2, 1) := by decide +kernel
theorem dX1_trace_ZIIV_44 : decode cX1_trace_ZIIV 44 = .ok (.iaload, 1) := by decide +kernel
theorem dX1_trace_ZIIV_45 : decode cX1_trace_ZIIV 45 = .ok (.iastore, 1) := by decide +kernel
theorem dX1_trace_ZIIV_46 : decode cX1_trace_ZIIV 46 = .ok (.aload_n 0, 1) := by decide +kernel
theorem dX1_trace_ZIIV_47 : decode cX1_trace_ZIIV 47 = .ok (.getfield 125, 3) := by decide +kernel
theorem dX1_trace_ZIIV_50 : decode cX1_trace_ZIIV 50 = .ok (.iload 4, 2) := by decide +kernel
theorem dX1_trace_ZIIV_52 : decode cX1_trace_ZIIV 52 = .ok (.iload_n 3, 1) := by decide +kernel
theorem dX1_trace_ZIIV_53 : decode cX1_trace_ZIIV 53 = .ok (.iastore, 1) := by decide +kernel
theorem dX1_trace_ZIIV_54 : decode cX1_trace_ZIIV 54 = .ok (.aload_n 0, 1) := by decide +kernel
theorem dX1_trace_ZIIV_55 : decode cX1_trace_ZIIV 55 = .ok (.dup, 1) := by decide +kernel
theorem dX1_trace_ZIIV_56 : decode cX1_trace_ZIIV 56 = .ok (.getfield 282, 3) := by decide +kernel
theorem dX1_trace_ZIIV_59 : decode cX1_trace_ZIIV 59 = .ok (.iconst 1, 1) := by decide +kernel
theorem dX1_trace_ZIIV_60 : decode cX1_trace_ZIIV 60 = .ok (.iadd, 1) := by decide +kernel
theorem dX1_trace_ZIIV_61 : decode cX1_trace_ZIIV 61 = .ok (.putfield 282, 3) := by decide +kernel
theorem dX1_trace_ZIIV_64 : decode cX1_trace_ZIIV 64 = .ok (.return_, 1) := by decide +kernel
theorem dX1_type_0 : decode cX1_type 0 = .ok (.aload_n 0, 1) := by decide +kernel
theorem dX1_type_1 : decode cX1_type 1 = .ok (.iconst 0, 1) := by decide +kernel
theorem dX1_type_2 : decode cX1_type 2 = .ok (.putfield 161, 3) := by decide +kernel
theorem dX1_type_5 : decode cX1_type 5 = .ok (.iload_n 3, 1) := by decide +kernel
theorem dX1_type_6 : decode cX1_type 6 = .ok (.iconst 1, 1) := by decide +kernel
theorem dX1_type_7 : decode cX1_type 7 = .ok (.if_icmp .lt 21, 3) := by decide +kernel
theorem dX1_type_10 : decode cX1_type 10 = .ok (.iload_n 3, 1) := by decide +kernel
theorem dX1_type_11 : decode cX1_type 11 = .ok (.bipush 8, 2) := by decide +kernel
theorem dX1_type_13 : decode cX1_type 13 = .ok (.if_icmp .gt 15, 3) := by decide +kernel
theorem dX1_type_16 : decode cX1_type 16 = .ok (.aload_n 0, 1) := by decide +kernel
theorem dX1_type_17 : decode cX1_type 17 = .ok (.getfield 165, 3) := by decide +kernel
theorem dX1_type_20 : decode cX1_type 20 = .ok (.iload_n 3, 1) := by decide +kernel
theorem dX1_type_21 : decode cX1_type 21 = .ok (.iadd, 1) := by decide +kernel
theorem dX1_type_22 : decode cX1_type 22 = .ok (.sipush 480, 3) := by decide +kernel
theorem dX1_type_25 : decode cX1_type 25 = .ok (.if_icmp .le 5, 3) := by decide +kernel
theorem dX1_type_28 : decode cX1_type 28 = .ok (.iconst 0, 1) := by decide +kernel
theorem dX1_type_29 : decode cX1_type 29 = .ok (.ireturn, 1) := by decide +kernel
theorem dX1_type_30 : decode cX1_type 30 = .ok (.iconst 0, 1) := by decide +kernel
theorem dX1_type_31 : decode cX1_type 31 = .ok (.istore 4, 2) := by decide +kernel
theorem dX1_type_33 : decode cX1_type 33 = .ok (.iload 4, 2) := by decide +kernel
theorem dX1_type_35 : decode cX1_type 35 = .ok (.iload_n 3, 1) := by decide +kernel
theorem dX1_type_36 : decode cX1_type 36 = .ok (.if_icmp .ge 39, 3) := by decide +kernel
theorem dX1_type_39 : decode cX1_type 39 = .ok (.lload_n 1, 1) := by decide +kernel
theorem dX1_type_40 : decode cX1_type 40 = .ok (.bipush 8, 2) := by decide +kernel
theorem dX1_type_42 : decode cX1_type 42 = .ok (.iload 4, 2) := by decide +kernel
theorem dX1_type_44 : decode cX1_type 44 = .ok (.imul, 1) := by decide +kernel
theorem dX1_type_45 : decode cX1_type 45 = .ok (.lshr, 1) := by decide +kernel
theorem dX1_type_46 : decode cX1_type 46 = .ok (.ldc2_w 168, 3) := by decide +kernel
theorem dX1_type_49 : decode cX1_type 49 = .ok (.land, 1) := by decide +kernel
theorem dX1_type_50 : decode cX1_type 50 = .ok (.l2i, 1) := by decide +kernel
theorem dX1_type_51 : decode cX1_type 51 = .ok (.istore 5, 2) := by decide +kernel
theorem dX1_type_53 : decode cX1_type 53 = .ok (.iload 5, 2) := by decide +kernel
theorem dX1_type_55 : decode cX1_type 55 = .ok (.bipush 33, 2) := by decide +kernel
theorem dX1_type_57 : decode cX1_type 57 = .ok (.if_icmp .lt 10, 3) := by decide +kernel
theorem dX1_type_60 : decode cX1_type 60 = .ok (.iload 5, 2) := by decide +kernel
theorem dX1_type_62 : decode cX1_type 62 = .ok (.bipush 126, 2) := by decide +kernel
theorem dX1_type_64 : decode cX1_type 64 = .ok (.if_icmp .le 5, 3) := by decide +kernel
theorem dX1_type_67 : decode cX1_type 67 = .ok (.iconst 0, 1) := by decide +kernel
theorem dX1_type_68 : decode cX1_type 68 = .ok (.ireturn, 1) := by decide +kernel
theorem dX1_type_69 : decode cX1_type 69 = .ok (.iinc 4 1, 3) := by decide +kernel
theorem dX1_type_72 : decode cX1_type 72 = .ok (.goto (-39), 3) := by decide +kernel
theorem dX1_type_75 : decode cX1_type 75 = .ok (.iload_n 3, 1) := by decide +kernel
theorem dX1_type_76 : decode cX1_type 76 = .ok (.iconst 1, 1) := by decide +kernel
theorem dX1_type_77 : decode cX1_type 77 = .ok (.isub, 1) := by decide +kernel
theorem dX1_type_78 : decode cX1_type 78 = .ok (.istore 4, 2) := by decide +kernel
theorem dX1_type_80 : decode cX1_type 80 = .ok (.iload 4, 2) := by decide +kernel
theorem dX1_type_82 : decode cX1_type 82 = .ok (.ifCond .lt 40, 3) := by decide +kernel
theorem dX1_type_85 : decode cX1_type 85 = .ok (.aload_n 0, 1) := by decide +kernel
theorem dX1_type_86 : decode cX1_type 86 = .ok (.getfield 7, 3) := by decide +kernel
theorem dX1_type_89 : decode cX1_type 89 = .ok (.aload_n 0, 1) := by decide +kernel
theorem dX1_type_90 : decode cX1_type 90 = .ok (.getfield 165, 3) := by decide +kernel
theorem dX1_type_93 : decode cX1_type 93 = .ok (.lload_n 1, 1) := by decide +kernel
theorem dX1_type_94 : decode cX1_type 94 = .ok (.bipush 8, 2) := by decide +kernel
theorem dX1_type_96 : decode cX1_type 96 = .ok (.iload 4, 2) := by decide +kernel
theorem dX1_type_98 : decode cX1_type 98 = .ok (.imul, 1) := by decide +kernel
theorem dX1_type_99 : decode cX1_type 99 = .ok (.lshr, 1) := by decide +kernel
theorem dX1_type_100 : decode cX1_type 100 = .ok (.ldc2_w 168, 3) := by decide +kernel
theorem dX1_type_103 : decode cX1_type 103 = .ok (.land, 1) := by decide +kernel
theorem dX1_type_104 : decode cX1_type 104 = .ok (.l2i, 1) := by decide +kernel
theorem dX1_type_105 : decode cX1_type 105 = .ok (.iastore, 1) := by decide +kernel
theorem dX1_type_106 : decode cX1_type 106 = .ok (.aload_n 0, 1) := by decide +kernel
theorem dX1_type_107 : decode cX1_type 107 = .ok (.dup, 1) := by decide +kernel
theorem dX1_type_108 : decode cX1_type 108 = .ok (.getfield 165, 3) := by decide +kernel
theorem dX1_type_111 : decode cX1_type 111 = .ok (.iconst 1, 1) := by decide +kernel
theorem dX1_type_112 : decode cX1_type 112 = .ok (.iadd, 1) := by decide +kernel
theorem dX1_type_113 : decode cX1_type 113 = .ok (.putfield 165, 3) := by decide +kernel
theorem dX1_type_116 : decode cX1_type 116 = .ok (.iinc 4 (-1), 3) := by decide +kernel
theorem dX1_type_119 : decode cX1_type 119 = .ok (.goto (-39), 3) := by decide +kernel
theorem dX1_type_122 : decode cX1_type 122 = .ok (.iconst 1, 1) := by decide +kernel
theorem dX1_type_123 : decode cX1_type 123 = .ok (.ireturn, 1) := by decide +kernel
theorem dX1_with_0 : decode cX1_with 0 = .ok (.iload_n 1, 1) := by decide +kernel
theorem dX1_with_1 : decode cX1_with 1 = .ok (.iconst 1, 1) := by decide +kernel
theorem dX1_with_2 : decode cX1_with 2 = .ok (.aload_n 0, 1) := by decide +kernel
theorem dX1_with_3 : decode cX1_with 3 = .ok (.getfield 89, 3) := by decide +kernel
theorem dX1_with_6 : decode cX1_with 6 = .ok (.iload_n 2, 1) := by decide +kernel
theorem dX1_with_7 : decode cX1_with 7 = .ok (.iaload, 1) := by decide +kernel
theorem dX1_with_8 : decode cX1_with 8 = .ok (.ishl, 1) := by decide +kernel
theorem dX1_with_9 : decode cX1_with 9 = .ok (.iconst 1, 1) := by decide +kernel
theorem dX1_with_10 : decode cX1_with 10 = .ok (.isub, 1) := by decide +kernel
theorem dX1_with_11 : decode cX1_with 11 = .ok (.aload_n 0, 1) := by decide +kernel
theorem dX1_with_12 : decode cX1_with 12 = .ok (.getfield 86, 3) := by decide +kernel
theorem dX1_with_15 : decode cX1_with 15 = .ok (.iload_n 2, 1) := by decide +kernel
theorem dX1_with_16 : decode cX1_with 16 = .ok (.iaload, 1) := by decide +kernel
theorem dX1_with_17 : decode cX1_with 17 = .ok (.ishl, 1) := by decide +kernel
theorem dX1_with_18 : decode cX1_with 18 = .ok (.iconst (-1), 1) := by decide +kernel
theorem dX1_with_19 : decode cX1_with 19 = .ok (.ixor, 1) := by decide +kernel
theorem dX1_with_20 : decode cX1_with 20 = .ok (.iand, 1) := by decide +kernel
theorem dX1_with_21 : decode cX1_with 21 = .ok (.iload_n 3, 1) := by decide +kernel
theorem dX1_with_22 : decode cX1_with 22 = .ok (.aload_n 0, 1) := by decide +kernel
theorem dX1_with_23 : decode cX1_with 23 = .ok (.getfield 86, 3) := by decide +kernel
theorem dX1_with_26 : decode cX1_with 26 = .ok (.iload_n 2, 1) := by decide +kernel
theorem dX1_with_27 : decode cX1_with 27 = .ok (.iaload, 1) := by decide +kernel
theorem dX1_with_28 : decode cX1_with 28 = .ok (.ishl, 1) := by decide +kernel
theorem dX1_with_29 : decode cX1_with 29 = .ok (.ior, 1) := by decide +kernel
theorem dX1_with_30 : decode cX1_with 30 = .ok (.ireturn, 1) := by decide +kernel
theorem dX1_write_0 : decode cX1_write 0 = .ok (.iconst 0, 1) := by decide +kernel
theorem dX1_write_1 : decode cX1_write 1 = .ok (.istore_n 3, 1) := by decide +kernel
theorem dX1_write_2 : decode cX1_write 2 = .ok (.iload_n 3, 1) := by decide +kernel
theorem dX1_write_3 : decode cX1_write 3 = .ok (.aload_n 0, 1) := by decide +kernel
theorem dX1_write_4 : decode cX1_write 4 = .ok (.getfield 264, 3) := by decide +kernel
theorem dX1_write_7 : decode cX1_write 7 = .ok (.if_icmp .ge 127, 3) := by decide +kernel
theorem dX1_write_10 : decode cX1_write 10 = .ok (.aload_n 0, 1) := by decide +kernel
theorem dX1_write_11 : decode cX1_write 11 = .ok (.aload_n 0, 1) := by decide +kernel
theorem dX1_write_12 : decode cX1_write 12 = .ok (.getfield 98, 3) := by decide +kernel
theorem dX1_write_15 : decode cX1_write 15 = .ok (.iload_n 3, 1) := by decide +kernel
theorem dX1_write_16 : decode cX1_write 16 = .ok (.iaload, 1) := by decide +kernel
theorem dX1_write_17 : decode cX1_write 17 = .ok (.iload_n 1, 1) := by decide +kernel
theorem dX1_write_18 : decode cX1_write 18 = .ok (.iload_n 2, 1) := by decide +kernel
theorem dX1_write_19 : decode cX1_write 19 = .ok (.invokevirtual 300, 3) := by decide +kernel
theorem dX1_write_22 : decode cX1_write 22 = .ok (.istore 4, 2) := by decide +kernel
theorem dX1_write_24 : decode cX1_write 24 = .ok (.aload_n 0, 1) := by decide +kernel
theorem dX1_write_25 : decode cX1_write 25 = .ok (.aload_n 0, 1) := by decide +kernel
theorem dX1_write_26 : decode cX1_write 26 = .ok (.getfield 101, 3) := by decide +kernel
theorem dX1_write_29 : decode cX1_write 29 = .ok (.iload_n 3, 1) := by decide +kernel
theorem dX1_write_30 : decode cX1_write 30 = .ok (.iaload, 1) := by decide +kernel
theorem dX1_write_31 : decode cX1_write 31 = .ok (.iload_n 1, 1) := by decide +kernel
theorem dX1_write_32 : decode cX1_write 32 = .ok (.iload_n 2, 1) := by decide +kernel
theorem dX1_write_33 : decode cX1_write 33 = .ok (.invokevirtual 300, 3) := by decide +kernel
theorem dX1_write_36 : decode cX1_write 36 = .ok (.istore 5, 2) := by decide +kernel
theorem dX1_write_38 : decode cX1_write 38 = .ok (.aload_n 0, 1) := by decide +kernel
theorem dX1_write_39 : decode cX1_write 39 = .ok (.getfield 95, 3) := by decide +kernel
theorem dX1_write_42 : decode cX1_write 42 = .ok (.iload_n 3, 1) := by decide +kernel
theorem dX1_write_43 : decode cX1_write 43 = .ok (.iaload, 1) := by decide +kernel
theorem dX1_write_44 : decode cX1_write 44 = .ok (.bipush 60, 2) := by decide +kernel
theorem dX1_write_46 : decode cX1_write 46 = .ok (.if_icmp .ne 28, 3) := by decide +kernel
theorem dX1_write_49 : decode cX1_write 49 = .ok (.aload_n 0, 1) := by decide +kernel
theorem dX1_write_50 : decode cX1_write 50 = .ok (.getfield 116, 3) := by decide +kernel
theorem dX1_write_53 : decode cX1_write 53 = .ok (.iload_n 3, 1) := by decide +kernel
theorem dX1_write_54 : decode cX1_write 54 = .ok (.aload_n 0, 1) := by decide +kernel
theorem dX1_write_55 : decode cX1_write 55 = .ok (.getfield 116, 3) := by decide +kernel
theorem dX1_write_58 : decode cX1_write 58 = .ok (.iload_n 3, 1) := by decide +kernel
theorem dX1_write_59 : decode cX1_write 59 = .ok (.baload, 1) := by decide +kernel
theorem dX1_write_60 : decode cX1_write 60 = .ok (.ifCond .ne 8, 3) := by decide +kernel
theorem dX1_write_63 : decode cX1_write 63 = .ok (.iload 4, 2) := by decide +kernel
theorem dX1_write_65 : decode cX1_write 65 = .ok (.ifCond .eq 7, 3) := by decide +kernel
theorem dX1_write_68 : decode cX1_write 68 = .ok (.iconst 1, 1) := by decide +kernel
theorem dX1_write_69 : decode cX1_write 69 = .ok (.goto 4, 3) := by decide +kernel
theorem dX1_write_72 : decode cX1_write 72 = .ok (.iconst 0, 1) := by decide +kernel
theorem dX1_write_73 : decode cX1_write 73 = .ok (.bastore, 1) := by decide +kernel
theorem dX1_write_74 : decode cX1_write 74 = .ok (.aload_n 0, 1) := by decide +kernel
theorem dX1_write_75 : decode cX1_write 75 = .ok (.getfield 95, 3) := by decide +kernel
theorem dX1_write_78 : decode cX1_write 78 = .ok (.iload_n 3, 1) := by decide +kernel
theorem dX1_write_79 : decode cX1_write 79 = .ok (.iaload, 1) := by decide +kernel
theorem dX1_write_80 : decode cX1_write 80 = .ok (.bipush 33, 2) := by decide +kernel
theorem dX1_write_82 : decode cX1_write 82 = .ok (.if_icmp .ne 46, 3) := by decide +kernel
theorem dX1_write_85 : decode cX1_write 85 = .ok (.aload_n 0, 1) := by decide +kernel
theorem dX1_write_86 : decode cX1_write 86 = .ok (.getfield 116, 3) := by decide +kernel
theorem dX1_write_89 : decode cX1_write 89 = .ok (.iload_n 3, 1) := by decide +kernel
theorem dX1_write_90 : decode cX1_write 90 = .ok (.iload 4, 2) := by decide +kernel
theorem dX1_write_92 : decode cX1_write 92 = .ok (.ifCond .eq 16, 3) := by decide +kernel
theorem dX1_write_95 : decode cX1_write 95 = .ok (.iload 5, 2) := by decide +kernel
theorem dX1_write_97 : decode cX1_write 97 = .ok (.ifCond .ne 7, 3) := by decide +kernel
theorem dX1_write_100 : decode cX1_write 100 = .ok (.iconst 1, 1) := by decide +kernel
theorem dX1_write_101 : decode cX1_write 101 = .ok (.goto 26, 3) := by decide +kernel
theorem dX1_write_104 : decode cX1_write 104 = .ok (.iconst 0, 1) := by decide +kernel
theorem dX1_write_105 : decode cX1_write 105 = .ok (.goto 22, 3) := by decide +kernel
theorem dX1_write_108 : decode cX1_write 108 = .ok (.aload_n 0, 1) := by decide +kernel
theorem dX1_write_109 : decode cX1_write 109 = .ok (.getfield 116, 3) := by decide +kernel
theorem dX1_write_112 : decode cX1_write 112 = .ok (.iload_n 3, 1) := by decide +kernel
theorem dX1_write_113 : decode cX1_write 113 = .ok (.baload, 1) := by decide +kernel
theorem dX1_write_114 : decode cX1_write 114 = .ok (.ifCond .eq 12, 3) := by decide +kernel
theorem dX1_write_117 : decode cX1_write 117 = .ok (.iload 5, 2) := by decide +kernel
theorem dX1_write_119 : decode cX1_write 119 = .ok (.ifCond .ne 7, 3) := by decide +kernel
theorem dX1_write_122 : decode cX1_write 122 = .ok (.iconst 1, 1) := by decide +kernel
theorem dX1_write_123 : decode cX1_write 123 = .ok (.goto 4, 3) := by decide +kernel
theorem dX1_write_126 : decode cX1_write 126 = .ok (.iconst 0, 1) := by decide +kernel
theorem dX1_write_127 : decode cX1_write 127 = .ok (.bastore, 1) := by decide +kernel
theorem dX1_write_128 : decode cX1_write 128 = .ok (.iinc 3 1, 3) := by decide +kernel
theorem dX1_write_131 : decode cX1_write 131 = .ok (.goto (-129), 3) := by decide +kernel
theorem dX1_write_134 : decode cX1_write 134 = .ok (.iconst 0, 1) := by decide +kernel
theorem dX1_write_135 : decode cX1_write 135 = .ok (.istore_n 3, 1) := by decide +kernel
theorem dX1_write_136 : decode cX1_write 136 = .ok (.iload_n 3, 1) := by decide +kernel
theorem dX1_write_137 : decode cX1_write 137 = .ok (.bipush 26, 2) := by decide +kernel
theorem dX1_write_139 : decode cX1_write 139 = .ok (.if_icmp .ge 122, 3) := by decide +kernel
theorem dX1_write_142 : decode cX1_write 142 = .ok (.aload_n 0, 1) := by decide +kernel
theorem dX1_write_143 : decode cX1_write 143 = .ok (.iload_n 3, 1) := by decide +kernel
theorem dX1_write_144 : decode cX1_write 144 = .ok (.iload_n 1, 1) := by decide +kernel
theorem dX1_write_145 : decode cX1_write 145 = .ok (.invokevirtual 291, 3) := by decide +kernel
