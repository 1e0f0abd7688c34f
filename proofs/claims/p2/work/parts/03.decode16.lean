theorem dX12_takeHex_7 : decode cX12_takeHex 7 = .ok (.iload_n 3, 1) := by decide +kernel
theorem dX12_takeHex_8 : decode cX12_takeHex 8 = .ok (.iload_n 2, 1) := by decide +kernel
theorem dX12_takeHex_9 : decode cX12_takeHex 9 = .ok (.if_icmp .ge 49, 3) := by decide +kernel
theorem dX12_takeHex_12 : decode cX12_takeHex 12 = .ok (.aload_n 0, 1) := by decide +kernel
theorem dX12_takeHex_13 : decode cX12_takeHex 13 = .ok (.invokevirtual 179, 3) := by decide +kernel
theorem dX12_takeHex_16 : decode cX12_takeHex 16 = .ok (.invokestatic 194, 3) := by decide +kernel
theorem dX12_takeHex_19 : decode cX12_takeHex 19 = .ok (.iconst (-1), 1) := by decide +kernel
theorem dX12_takeHex_20 : decode cX12_takeHex 20 = .ok (.if_icmp .eq 38, 3) := by decide +kernel
theorem dX12_takeHex_23 : decode cX12_takeHex 23 = .ok (.aload_n 0, 1) := by decide +kernel
theorem dX12_takeHex_24 : decode cX12_takeHex 24 = .ok (.bipush 16, 2) := by decide +kernel
theorem dX12_takeHex_26 : decode cX12_takeHex 26 = .ok (.aload_n 0, 1) := by decide +kernel
theorem dX12_takeHex_27 : decode cX12_takeHex 27 = .ok (.getfield 191, 3) := by decide +kernel
theorem dX12_takeHex_30 : decode cX12_takeHex 30 = .ok (.imul, 1) := by decide +kernel
theorem dX12_takeHex_31 : decode cX12_takeHex 31 = .ok (.aload_n 0, 1) := by decide +kernel
theorem dX12_takeHex_32 : decode cX12_takeHex 32 = .ok (.invokevirtual 179, 3) := by decide +kernel
theorem dX12_takeHex_35 : decode cX12_takeHex 35 = .ok (.invokestatic 194, 3) := by decide +kernel
theorem dX12_takeHex_38 : decode cX12_takeHex 38 = .ok (.iadd, 1) := by decide +kernel
theorem dX12_takeHex_39 : decode cX12_takeHex 39 = .ok (.putfield 191, 3) := by decide +kernel
theorem dX12_takeHex_42 : decode cX12_takeHex 42 = .ok (.iinc 3 1, 3) := by decide +kernel
theorem dX12_takeHex_45 : decode cX12_takeHex 45 = .ok (.aload_n 0, 1) := by decide +kernel
theorem dX12_takeHex_46 : decode cX12_takeHex 46 = .ok (.dup, 1) := by decide +kernel
theorem dX12_takeHex_47 : decode cX12_takeHex 47 = .ok (.getfield 170, 3) := by decide +kernel
theorem dX12_takeHex_50 : decode cX12_takeHex 50 = .ok (.iconst 1, 1) := by decide +kernel
theorem dX12_takeHex_51 : decode cX12_takeHex 51 = .ok (.iadd, 1) := by decide +kernel
theorem dX12_takeHex_52 : decode cX12_takeHex 52 = .ok (.putfield 170, 3) := by decide +kernel
theorem dX12_takeHex_55 : decode cX12_takeHex 55 = .ok (.goto (-48), 3) := by decide +kernel
theorem dX12_takeHex_58 : decode cX12_takeHex 58 = .ok (.iload_n 3, 1) := by decide +kernel
theorem dX12_takeHex_59 : decode cX12_takeHex 59 = .ok (.iload_n 1, 1) := by decide +kernel
theorem dX12_takeHex_60 : decode cX12_takeHex 60 = .ok (.if_icmp .ge 15, 3) := by decide +kernel
theorem dX12_takeHex_63 : decode cX12_takeHex 63 = .ok (.aload_n 0, 1) := by decide +kernel
theorem dX12_takeHex_64 : decode cX12_takeHex 64 = .ok (.iconst 1, 1) := by decide +kernel
theorem dX12_takeHex_65 : decode cX12_takeHex 65 = .ok (.aload_n 0, 1) := by decide +kernel
theorem dX12_takeHex_66 : decode cX12_takeHex 66 = .ok (.getfield 170, 3) := by decide +kernel
theorem dX12_takeHex_69 : decode cX12_takeHex 69 = .ok (.invokevirtual 183, 3) := by decide +kernel
theorem dX12_takeHex_72 : decode cX12_takeHex 72 = .ok (.ifCond .eq 7, 3) := by decide +kernel
theorem dX12_takeHex_75 : decode cX12_takeHex 75 = .ok (.iconst 1, 1) := by decide +kernel
theorem dX12_takeHex_76 : decode cX12_takeHex 76 = .ok (.goto 4, 3) := by decide +kernel
theorem dX12_takeHex_79 : decode cX12_takeHex 79 = .ok (.iconst 0, 1) := by decide +kernel
theorem dX12_takeHex_80 : decode cX12_takeHex 80 = .ok (.ireturn, 1) := by decide +kernel
theorem dX12_takeName_0 : decode cX12_takeName 0 = .ok (.aload_n 0, 1) := by decide +kernel
theorem dX12_takeName_1 : decode cX12_takeName 1 = .ok (.invokevirtual 179, 3) := by decide +kernel
theorem dX12_takeName_4 : decode cX12_takeName 4 = .ok (.invokestatic 187, 3) := by decide +kernel
theorem dX12_takeName_7 : decode cX12_takeName 7 = .ok (.ifCond .ne 13, 3) := by decide +kernel
theorem dX12_takeName_10 : decode cX12_takeName 10 = .ok (.aload_n 0, 1) := by decide +kernel
theorem dX12_takeName_11 : decode cX12_takeName 11 = .ok (.iconst 1, 1) := by decide +kernel
theorem dX12_takeName_12 : decode cX12_takeName 12 = .ok (.aload_n 0, 1) := by decide +kernel
theorem dX12_takeName_13 : decode cX12_takeName 13 = .ok (.getfield 170, 3) := by decide +kernel
theorem dX12_takeName_16 : decode cX12_takeName 16 = .ok (.invokevirtual 183, 3) := by decide +kernel
theorem dX12_takeName_19 : decode cX12_takeName 19 = .ok (.ireturn, 1) := by decide +kernel
theorem dX12_takeName_20 : decode cX12_takeName 20 = .ok (.aload_n 0, 1) := by decide +kernel
theorem dX12_takeName_21 : decode cX12_takeName 21 = .ok (.dup, 1) := by decide +kernel
theorem dX12_takeName_22 : decode cX12_takeName 22 = .ok (.getfield 170, 3) := by decide +kernel
theorem dX12_takeName_25 : decode cX12_takeName 25 = .ok (.iconst 1, 1) := by decide +kernel
theorem dX12_takeName_26 : decode cX12_takeName 26 = .ok (.iadd, 1) := by decide +kernel
theorem dX12_takeName_27 : decode cX12_takeName 27 = .ok (.putfield 170, 3) := by decide +kernel
theorem dX12_takeName_30 : decode cX12_takeName 30 = .ok (.iconst 1, 1) := by decide +kernel
theorem dX12_takeName_31 : decode cX12_takeName 31 = .ok (.ireturn, 1) := by decide +kernel
theorem dX12_trace_III_0 : decode cX12_trace_III 0 = .ok (.aload_n 0, 1) := by decide +kernel
theorem dX12_trace_III_1 : decode cX12_trace_III 1 = .ok (.iconst 0, 1) := by decide +kernel
theorem dX12_trace_III_2 : decode cX12_trace_III 2 = .ok (.putfield 161, 3) := by decide +kernel
theorem dX12_trace_III_5 : decode cX12_trace_III 5 = .ok (.iload_n 1, 1) := by decide +kernel
theorem dX12_trace_III_6 : decode cX12_trace_III 6 = .ok (.ifCond .lt 26, 3) := by decide +kernel
theorem dX12_trace_III_9 : decode cX12_trace_III 9 = .ok (.iload_n 1, 1) := by decide +kernel
theorem dX12_trace_III_10 : decode cX12_trace_III 10 = .ok (.bipush 64, 2) := by decide +kernel
theorem dX12_trace_III_12 : decode cX12_trace_III 12 = .ok (.if_icmp .ge 20, 3) := by decide +kernel
theorem dX12_trace_III_15 : decode cX12_trace_III 15 = .ok (.iload_n 1, 1) := by decide +kernel
theorem dX12_trace_III_16 : decode cX12_trace_III 16 = .ok (.aload_n 0, 1) := by decide +kernel
theorem dX12_trace_III_17 : decode cX12_trace_III 17 = .ok (.getfield 282, 3) := by decide +kernel
theorem dX12_trace_III_20 : decode cX12_trace_III 20 = .ok (.if_icmp .ge 12, 3) := by decide +kernel
theorem dX12_trace_III_23 : decode cX12_trace_III 23 = .ok (.iload_n 2, 1) := by decide +kernel
theorem dX12_trace_III_24 : decode cX12_trace_III 24 = .ok (.ifCond .lt 8, 3) := by decide +kernel
theorem dX12_trace_III_27 : decode cX12_trace_III 27 = .ok (.iload_n 2, 1) := by decide +kernel
theorem dX12_trace_III_28 : decode cX12_trace_III 28 = .ok (.iconst 2, 1) := by decide +kernel
theorem dX12_trace_III_29 : decode cX12_trace_III 29 = .ok (.if_icmp .le 5, 3) := by decide +kernel
theorem dX12_trace_III_32 : decode cX12_trace_III 32 = .ok (.iconst (-1), 1) := by decide +kernel
theorem dX12_trace_III_33 : decode cX12_trace_III 33 = .ok (.ireturn, 1) := by decide +kernel
theorem dX12_trace_III_34 : decode cX12_trace_III 34 = .ok (.aload_n 0, 1) := by decide +kernel
theorem dX12_trace_III_35 : decode cX12_trace_III 35 = .ok (.getfield 282, 3) := by decide +kernel
theorem dX12_trace_III_38 : decode cX12_trace_III 38 = .ok (.iconst 1, 1) := by decide +kernel
theorem dX12_trace_III_39 : decode cX12_trace_III 39 = .ok (.isub, 1) := by decide +kernel
theorem dX12_trace_III_40 : decode cX12_trace_III 40 = .ok (.iload_n 1, 1) := by decide +kernel
theorem dX12_trace_III_41 : decode cX12_trace_III 41 = .ok (.isub, 1) := by decide +kernel
theorem dX12_trace_III_42 : decode cX12_trace_III 42 = .ok (.bipush 64, 2) := by decide +kernel
theorem dX12_trace_III_44 : decode cX12_trace_III 44 = .ok (.irem, 1) := by decide +kernel
theorem dX12_trace_III_45 : decode cX12_trace_III 45 = .ok (.istore_n 3, 1) := by decide +kernel
theorem dX12_trace_III_46 : decode cX12_trace_III 46 = .ok (.iload_n 2, 1) := by decide +kernel
theorem dX12_trace_III_47 : decode cX12_trace_III 47 = .ok (.ifCond .ne 12, 3) := by decide +kernel
theorem dX12_trace_III_50 : decode cX12_trace_III 50 = .ok (.aload_n 0, 1) := by decide +kernel
theorem dX12_trace_III_51 : decode cX12_trace_III 51 = .ok (.getfield 119, 3) := by decide +kernel
theorem dX12_trace_III_54 : decode cX12_trace_III 54 = .ok (.iload_n 3, 1) := by decide +kernel
theorem dX12_trace_III_55 : decode cX12_trace_III 55 = .ok (.iaload, 1) := by decide +kernel
theorem dX12_trace_III_56 : decode cX12_trace_III 56 = .ok (.goto 23, 3) := by decide +kernel
theorem dX12_trace_III_59 : decode cX12_trace_III 59 = .ok (.iload_n 2, 1) := by decide +kernel
theorem dX12_trace_III_60 : decode cX12_trace_III 60 = .ok (.iconst 1, 1) := by decide +kernel
theorem dX12_trace_III_61 : decode cX12_trace_III 61 = .ok (.if_icmp .ne 12, 3) := by decide +kernel
theorem dX12_trace_III_64 : decode cX12_trace_III 64 = .ok (.aload_n 0, 1) := by decide +kernel
theorem dX12_trace_III_65 : decode cX12_trace_III 65 = .ok (.getfield 122, 3) := by decide +kernel
theorem dX12_trace_III_68 : decode cX12_trace_III 68 = .ok (.iload_n 3, 1) := by decide +kernel
theorem dX12_trace_III_69 : decode cX12_trace_III 69 = .ok (.iaload, 1) := by decide +kernel
theorem dX12_trace_III_70 : decode cX12_trace_III 70 = .ok (.goto 9, 3) := by decide +kernel
theorem dX12_trace_III_73 : decode cX12_trace_III 73 = .ok (.aload_n 0, 1) := by decide +kernel
theorem dX12_trace_III_74 : decode cX12_trace_III 74 = .ok (.getfield 125, 3) := by decide +kernel
theorem dX12_trace_III_77 : decode cX12_trace_III 77 = .ok (.iload_n 3, 1) := by decide +kernel
theorem dX12_trace_III_78 : decode cX12_trace_III 78 = .ok (.iaload, 1) := by decide +kernel
theorem dX12_trace_III_79 : decode cX12_trace_III 79 = .ok (.ireturn, 1) := by decide +kernel
theorem dX12_trace_ZIIV_0 : decode cX12_trace_ZIIV 0 = .ok (.aload_n 0, 1) := by decide +kernel
theorem dX12_trace_ZIIV_1 : decode cX12_trace_ZIIV 1 = .ok (.getfield 307, 3) := by decide +kernel
theorem dX12_trace_ZIIV_4 : decode cX12_trace_ZIIV 4 = .ok (.ifCond .eq 4, 3) := by decide +kernel
theorem dX12_trace_ZIIV_7 : decode cX12_trace_ZIIV 7 = .ok (.return_, 1) := by decide +kernel
theorem dX12_trace_ZIIV_8 : decode cX12_trace_ZIIV 8 = .ok (.aload_n 0, 1) := by decide +kernel
theorem dX12_trace_ZIIV_9 : decode cX12_trace_ZIIV 9 = .ok (.getfield 282, 3) := by decide +kernel
theorem dX12_trace_ZIIV_12 : decode cX12_trace_ZIIV 12 = .ok (.bipush 64, 2) := by decide +kernel
theorem dX12_trace_ZIIV_14 : decode cX12_trace_ZIIV 14 = .ok (.irem, 1) := by decide +kernel
theorem dX12_trace_ZIIV_15 : decode cX12_trace_ZIIV 15 = .ok (.istore 4, 2) := by decide +kernel
theorem dX12_trace_ZIIV_17 : decode cX12_trace_ZIIV 17 = .ok (.aload_n 0, 1) := by decide +kernel
theorem dX12_trace_ZIIV_18 : decode cX12_trace_ZIIV 18 = .ok (.getfield 119, 3) := by decide +kernel
theorem dX12_trace_ZIIV_21 : decode cX12_trace_ZIIV 21 = .ok (.iload 4, 2) := by decide +kernel
theorem dX12_trace_ZIIV_23 : decode cX12_trace_ZIIV 23 = .ok (.iload_n 1, 1) := by decide +kernel
theorem dX12_trace_ZIIV_24 : decode cX12_trace_ZIIV 24 = .ok (.ifCond .eq 7, 3) := by decide +kernel
theorem dX12_trace_ZIIV_27 : decode cX12_trace_ZIIV 27 = .ok (.iconst 1, 1) := by decide +kernel
theorem dX12_trace_ZIIV_28 : decode cX12_trace_ZIIV 28 = .ok (.goto 4, 3) := by decide +kernel
theorem dX12_trace_ZIIV_31 : decode cX12_trace_ZIIV 31 = .ok (.iconst 0, 1) := by decide +kernel
theorem dX12_trace_ZIIV_32 : decode cX12_trace_ZIIV 32 = .ok (.iastore, 1) := by decide +kernel
theorem dX12_trace_ZIIV_33 : decode cX12_trace_ZIIV 33 = .ok (.aload_n 0, 1) := by decide +kernel
theorem dX12_trace_ZIIV_34 : decode cX12_trace_ZIIV 34 = .ok (.getfield 122, 3) := by decide +kernel
theorem dX12_trace_ZIIV_37 : decode cX12_trace_ZIIV 37 = .ok (.iload 4, 2) := by decide +kernel
theorem dX12_trace_ZIIV_39 : decode cX12_trace_ZIIV 39 = .ok (.aload_n 0, 1) := by decide +kernel
theorem dX12_trace_ZIIV_40 : decode cX12_trace_ZIIV 40 = .ok (.getfield 67, 3) := by decide +kernel
theorem dX12_trace_ZIIV_43 : decode cX12_trace_ZIIV 43 = .ok (.iload_n 2, 1) := by decide +kernel
theorem dX12_trace_ZIIV_44 : decode cX12_trace_ZIIV 44 = .ok (.iaload, 1) := by decide +kernel
theorem dX12_trace_ZIIV_45 : decode cX12_trace_ZIIV 45 = .ok (.iastore, 1) := by decide +kernel
theorem dX12_trace_ZIIV_46 : decode cX12_trace_ZIIV 46 = .ok (.aload_n 0, 1) := by decide +kernel
theorem dX12_trace_ZIIV_47 : decode cX12_trace_ZIIV 47 = .ok (.getfield 125, 3) := by decide +kernel
theorem dX12_trace_ZIIV_50 : decode cX12_trace_ZIIV 50 = .ok (.iload 4, 2) := by decide +kernel
theorem dX12_trace_ZIIV_52 : decode cX12_trace_ZIIV 52 = .ok (.iload_n 3, 1) := by decide +kernel
theorem dX12_trace_ZIIV_53 : decode cX12_trace_ZIIV 53 = .ok (.iastore, 1) := by decide +kernel
theorem dX12_trace_ZIIV_54 : decode cX12_trace_ZIIV 54 = .ok (.aload_n 0, 1) := by decide +kernel
theorem dX12_trace_ZIIV_55 : decode cX12_trace_ZIIV 55 = .ok (.dup, 1) := by decide +kernel
theorem dX12_trace_ZIIV_56 : decode cX12_trace_ZIIV 56 = .ok (.getfield 282, 3) := by decide +kernel
theorem dX12_trace_ZIIV_59 : decode cX12_trace_ZIIV 59 = .ok (.iconst 1, 1) := by decide +kernel
theorem dX12_trace_ZIIV_60 : decode cX12_trace_ZIIV 60 = .ok (.iadd, 1) := by decide +kernel
theorem dX12_trace_ZIIV_61 : decode cX12_trace_ZIIV 61 = .ok (.putfield 282, 3) := by decide +kernel
theorem dX12_trace_ZIIV_64 : decode cX12_trace_ZIIV 64 = .ok (.return_, 1) := by decide +kernel
theorem dX12_type_0 : decode cX12_type 0 = .ok (.aload_n 0, 1) := by decide +kernel
theorem dX12_type_1 : decode cX12_type 1 = .ok (.iconst 0, 1) := by decide +kernel
theorem dX12_type_2 : decode cX12_type 2 = .ok (.putfield 161, 3) := by decide +kernel
theorem dX12_type_5 : decode cX12_type 5 = .ok (.iload_n 3, 1) := by decide +kernel
theorem dX12_type_6 : decode cX12_type 6 = .ok (.iconst 1, 1) := by decide +kernel
theorem dX12_type_7 : decode cX12_type 7 = .ok (.if_icmp .lt 21, 3) := by decide +kernel
theorem dX12_type_10 : decode cX12_type 10 = .ok (.iload_n 3, 1) := by decide +kernel
theorem dX12_type_11 : decode cX12_type 11 = .ok (.bipush 8, 2) := by decide +kernel
theorem dX12_type_13 : decode cX12_type 13 = .ok (.if_icmp .gt 15, 3) := by decide +kernel
theorem dX12_type_16 : decode cX12_type 16 = .ok (.aload_n 0, 1) := by decide +kernel
theorem dX12_type_17 : decode cX12_type 17 = .ok (.getfield 165, 3) := by decide +kernel
theorem dX12_type_20 : decode cX12_type 20 = .ok (.iload_n 3, 1) := by decide +kernel
theorem dX12_type_21 : decode cX12_type 21 = .ok (.iadd, 1) := by decide +kernel
theorem dX12_type_22 : decode cX12_type 22 = .ok (.sipush 480, 3) := by decide +kernel
theorem dX12_type_25 : decode cX12_type 25 = .ok (.if_icmp .le 5, 3) := by decide +kernel
theorem dX12_type_28 : decode cX12_type 28 = .ok (.iconst 0, 1) := by decide +kernel
theorem dX12_type_29 : decode cX12_type 29 = .ok (.ireturn, 1) := by decide +kernel
theorem dX12_type_30 : decode cX12_type 30 = .ok (.iconst 0, 1) := by decide +kernel
theorem dX12_type_31 : decode cX12_type 31 = .ok (.istore 4, 2) := by decide +kernel
theorem dX12_type_33 : decode cX12_type 33 = .ok (.iload 4, 2) := by decide +kernel
theorem dX12_type_35 : decode cX12_type 35 = .ok (.iload_n 3, 1) := by decide +kernel
theorem dX12_type_36 : decode cX12_type 36 = .ok (.if_icmp .ge 39, 3) := by decide +kernel
theorem dX12_type_39 : decode cX12_type 39 = .ok (.lload_n 1, 1) := by decide +kernel
theorem dX12_type_40 : decode cX12_type 40 = .ok (.bipush 8, 2) := by decide +kernel
theorem dX12_type_42 : decode cX12_type 42 = .ok (.iload 4, 2) := by decide +kernel
theorem dX12_type_44 : decode cX12_type 44 = .ok (.imul, 1) := by decide +kernel
theorem dX12_type_45 : decode cX12_type 45 = .ok (.lshr, 1) := by decide +kernel
theorem dX12_type_46 : decode cX12_type 46 = .ok (.ldc2_w 168, 3) := by decide +kernel
theorem dX12_type_49 : decode cX12_type 49 = .ok (.land, 1) := by decide +kernel
theorem dX12_type_50 : decode cX12_type 50 = .ok (.l2i, 1) := by decide +kernel
theorem dX12_type_51 : decode cX12_type 51 = .ok (.istore 5, 2) := by decide +kernel
theorem dX12_type_53 : decode cX12_type 53 = .ok (.iload 5, 2) := by decide +kernel
theorem dX12_type_55 : decode cX12_type 55 = .ok (.bipush 33, 2) := by decide +kernel
theorem dX12_type_57 : decode cX12_type 57 = .ok (.if_icmp .lt 10, 3) := by decide +kernel
theorem dX12_type_60 : decode cX12_type 60 = .ok (.iload 5, 2) := by decide +kernel
theorem dX12_type_62 : decode cX12_type 62 = .ok (.bipush 126, 2) := by decide +kernel
theorem dX12_type_64 : decode cX12_type 64 = .ok (.if_icmp .le 5, 3) := by decide +kernel
theorem dX12_type_67 : decode cX12_type 67 = .ok (.iconst 0, 1) := by decide +kernel
theorem dX12_type_68 : decode cX12_type 68 = .ok (.ireturn, 1) := by decide +kernel
theorem dX12_type_69 : decode cX12_type 69 = .ok (.iinc 4 1, 3) := by decide +kernel
theorem dX12_type_72 : decode cX12_type 72 = .ok (.goto (-39), 3) := by decide +kernel
theorem dX12_type_75 : decode cX12_type 75 = .ok (.iload_n 3, 1) := by decide +kernel
theorem dX12_type_76 : decode cX12_type 76 = .ok (.iconst 1, 1) := by decide +kernel
theorem dX12_type_77 : decode cX12_type 77 = .ok (.isub, 1) := by decide +kernel
theorem dX12_type_78 : decode cX12_type 78 = .ok (.istore 4, 2) := by decide +kernel
theorem dX12_type_80 : decode cX12_type 80 = .ok (.iload 4, 2) := by decide +kernel
theorem dX12_type_82 : decode cX12_type 82 = .ok (.ifCond .lt 40, 3) := by decide +kernel
theorem dX12_type_85 : decode cX12_type 85 = .ok (.aload_n 0, 1) := by decide +kernel
theorem dX12_type_86 : decode cX12_type 86 = .ok (.getfield 7, 3) := by decide +kernel
theorem dX12_type_89 : decode cX12_type 89 = .ok (.aload_n 0, 1) := by decide +kernel
theorem dX12_type_90 : decode cX12_type 90 = .ok (.getfield 165, 3) := by decide +kernel
theorem dX12_type_93 : decode cX12_type 93 = .ok (.lload_n 1, 1) := by decide +kernel
theorem dX12_type_94 : decode cX12_type 94 = .ok (.bipush 8, 2) := by decide +kernel
theorem dX12_type_96 : decode cX12_type 96 = .ok (.iload 4, 2) := by decide +kernel
theorem dX12_type_98 : decode cX12_type 98 = .ok (.imul, 1) := by decide +kernel
theorem dX12_type_99 : decode cX12_type 99 = .ok (.lshr, 1) := by decide +kernel
theorem dX12_type_100 : decode cX12_type 100 = .ok (.ldc2_w 168, 3) := by decide +kernel
theorem dX12_type_103 : decode cX12_type 103 = .ok (.land, 1) := by decide +kernel
theorem dX12_type_104 : decode cX12_type 104 = .ok (.l2i, 1) := by decide +kernel
theorem dX12_type_105 : decode cX12_type 105 = .ok (.iastore, 1) := by decide +kernel
theorem dX12_type_106 : decode cX12_type 106 = .ok (.aload_n 0, 1) := by decide +kernel
theorem dX12_type_107 : decode cX12_type 107 = .ok (.dup, 1) := by decide +kernel
theorem dX12_type_108 : decode cX12_type 108 = .ok (.getfield 165, 3) := by decide +kernel
theorem dX12_type_111 : decode cX12_type 111 = .ok (.iconst 1, 1) := by decide +kernel
theorem dX12_type_112 : decode cX12_type 112 = .ok (.iadd, 1) := by decide +kernel
theorem dX12_type_113 : decode cX12_type 113 = .ok (.putfield 165, 3) := by decide +kernel
theorem dX12_type_116 : decode cX12_type 116 = .ok (.iinc 4 (-1), 3) := by decide +kernel
theorem dX12_type_119 : decode cX12_type 119 = .ok (.goto (-39), 3) := by decide +kernel
theorem dX12_type_122 : decode cX12_type 122 = .ok (.iconst 1, 1) := by decide +kernel
theorem dX12_type_123 : decode cX12_type 123 = .ok (.ireturn, 1) := by decide +kernel
theorem dX12_with_0 : decode cX12_with 0 = .ok (.iload_n 1, 1) := by decide +kernel
theorem dX12_with_1 : decode cX12_with 1 = .ok (.iconst 1, 1) := by decide +kernel
theorem dX12_with_2 : decode cX12_with 2 = .ok (.aload_n 0, 1) := by decide +kernel
theorem dX12_with_3 : decode cX12_with 3 = .ok (.getfield 89, 3) := by decide +kernel
theorem dX12_with_6 : decode cX12_with 6 = .ok (.iload_n 2, 1) := by decide +kernel
theorem dX12_with_7 : decode cX12_with 7 = .ok (.iaload, 1) := by decide +kernel
theorem dX12_with_8 : decode cX12_with 8 = .ok (.ishl, 1) := by decide +kernel
theorem dX12_with_9 : decode cX12_with 9 = .ok (.iconst 1, 1) := by decide +kernel
theorem dX12_with_10 : decode cX12_with 10 = .ok (.isub, 1) := by decide +kernel
theorem dX12_with_11 : decode cX12_with 11 = .ok (.aload_n 0, 1) := by decide +kernel
theorem dX12_with_12 : decode cX12_with 12 = .ok (.getfield 86, 3) := by decide +kernel
theorem dX12_with_15 : decode cX12_with 15 = .ok (.iload_n 2, 1) := by decide +kernel
theorem dX12_with_16 : decode cX12_with 16 = .ok (.iaload, 1) := by decide +kernel
theorem dX12_with_17 : decode cX12_with 17 = .ok (.ishl, 1) := by decide +kernel
theorem dX12_with_18 : decode cX12_with 18 = .ok (.iconst (-1), 1) := by decide +kernel
theorem dX12_with_19 : decode cX12_with 19 = .ok (.ixor, 1) := by decide +kernel
theorem dX12_with_20 : decode cX12_with 20 = .ok (.iand, 1) := by decide +kernel
theorem dX12_with_21 : decode cX12_with 21 = .ok (.iload_n 3, 1) := by decide +kernel
theorem dX12_with_22 : decode cX12_with 22 = .ok (.aload_n 0, 1) := by decide +kernel
theorem dX12_with_23 : decode cX12_with 23 = .ok (.getfield 86, 3) := by decide +kernel
theorem dX12_with_26 : decode cX12_with 26 = .ok (.iload_n 2, 1) := by decide +kernel
theorem dX12_with_27 : decode cX12_with 27 = .ok (.iaload, 1) := by decide +kernel
theorem dX12_with_28 : decode cX12_with 28 = .ok (.ishl, 1) := by decide +kernel
theorem dX12_with_29 : decode cX12_with 29 = .ok (.ior, 1) := by decide +kernel
theorem dX12_with_30 : decode cX12_with 30 = .ok (.ireturn, 1) := by decide +kernel
theorem dX12_write_0 : decode cX12_write 0 = .ok (.iconst 0, 1) := by decide +kernel
theorem dX12_write_1 : decode cX12_write 1 = .ok (.istore_n 3, 1) := by decide +kernel
theorem dX12_write_2 : decode cX12_write 2 = .ok (.iload_n 3, 1) := by decide +kernel
theorem dX12_write_3 : decode cX12_write 3 = .ok (.aload_n 0, 1) := by decide +kernel
theorem dX12_write_4 : decode cX12_write 4 = .ok (.getfield 264, 3) := by decide +kernel
theorem dX12_write_7 : decode cX12_write 7 = .ok (.if_icmp .ge 127, 3) := by decide +kernel
theorem dX12_write_10 : decode cX12_write 10 = .ok (.aload_n 0, 1) := by decide +kernel
theorem dX12_write_11 : decode cX12_write 11 = .ok (.aload_n 0, 1) := by decide +kernel
theorem dX12_write_12 : decode cX12_write 12 = .ok (.getfield 98, 3) := by decide +kernel
theorem dX12_write_15 : decode cX12_write 15 = .ok (.iload_n 3, 1) := by decide +kernel
theorem dX12_write_16 : decode cX12_write 16 = .ok (.iaload, 1) := by decide +kernel
theorem dX12_write_17 : decode cX12_write 17 = .ok (.iload_n 1, 1) := by decide +kernel
theorem dX12_write_18 : decode cX12_write 18 = .ok (.iload_n 2, 1) := by decide +kernel
theorem dX12_write_19 : decode cX12_write 19 = .ok (.invokevirtual 300, 3) := by decide +kernel
theorem dX12_write_22 : decode cX12_write 22 = .ok (.istore 4, 2) := by decide +kernel
theorem dX12_write_24 : decode cX12_write 24 = .ok (.aload_n 0, 1) := by decide +kernel
theorem dX12_write_25 : decode cX12_write 25 = .ok (.aload_n 0, 1) := by decide +kernel
theorem dX12_write_26 : decode cX12_write 26 = .ok (.getfield 101, 3) := by decide +kernel
theorem dX12_write_29 : decode cX12_write 29 = .ok (.iload_n 3, 1) := by decide +kernel
theorem dX12_write_30 : decode cX12_write 30 = .ok (.iaload, 1) := by decide +kernel
theorem dX12_write_31 : decode cX12_write 31 = .ok (.iload_n 1, 1) := by decide +kernel
theorem dX12_write_32 : decode cX12_write 32 = .ok (.iload_n 2, 1) := by decide +kernel
