theorem dX12_isPut_31 : decode cX12_isPut 31 = .ok (.iload_n 1, 1) := by decide +kernel
theorem dX12_isPut_32 : decode cX12_isPut 32 = .ok (.iload_n 2, 1) := by decide +kernel
theorem dX12_isPut_33 : decode cX12_isPut 33 = .ok (.invokevirtual 334, 3) := by decide +kernel
theorem dX12_isPut_36 : decode cX12_isPut 36 = .ok (.ifCond .eq 7, 3) := by decide +kernel
theorem dX12_isPut_39 : decode cX12_isPut 39 = .ok (.iconst 1, 1) := by decide +kernel
theorem dX12_isPut_40 : decode cX12_isPut 40 = .ok (.goto 4, 3) := by decide +kernel
theorem dX12_isPut_43 : decode cX12_isPut 43 = .ok (.iconst 0, 1) := by decide +kernel
theorem dX12_isPut_44 : decode cX12_isPut 44 = .ok (.ireturn, 1) := by decide +kernel
theorem dX12_isSituation_0 : decode cX12_isSituation 0 = .ok (.aload_n 0, 1) := by decide +kernel
theorem dX12_isSituation_1 : decode cX12_isSituation 1 = .ok (.getfield 143, 3) := by decide +kernel
theorem dX12_isSituation_4 : decode cX12_isSituation 4 = .ok (.iload_n 1, 1) := by decide +kernel
theorem dX12_isSituation_5 : decode cX12_isSituation 5 = .ok (.iaload, 1) := by decide +kernel
theorem dX12_isSituation_6 : decode cX12_isSituation 6 = .ok (.iload_n 2, 1) := by decide +kernel
theorem dX12_isSituation_7 : decode cX12_isSituation 7 = .ok (.if_icmp .ne 16, 3) := by decide +kernel
theorem dX12_isSituation_10 : decode cX12_isSituation 10 = .ok (.aload_n 0, 1) := by decide +kernel
theorem dX12_isSituation_11 : decode cX12_isSituation 11 = .ok (.getfield 149, 3) := by decide +kernel
theorem dX12_isSituation_14 : decode cX12_isSituation 14 = .ok (.iload_n 1, 1) := by decide +kernel
theorem dX12_isSituation_15 : decode cX12_isSituation 15 = .ok (.iaload, 1) := by decide +kernel
theorem dX12_isSituation_16 : decode cX12_isSituation 16 = .ok (.aload_n 0, 1) := by decide +kernel
theorem dX12_isSituation_17 : decode cX12_isSituation 17 = .ok (.invokevirtual 387, 3) := by decide +kernel
theorem dX12_isSituation_20 : decode cX12_isSituation 20 = .ok (.if_icmp .eq 5, 3) := by decide +kernel
theorem dX12_isSituation_23 : decode cX12_isSituation 23 = .ok (.iconst 0, 1) := by decide +kernel
theorem dX12_isSituation_24 : decode cX12_isSituation 24 = .ok (.ireturn, 1) := by decide +kernel
theorem dX12_isSituation_25 : decode cX12_isSituation 25 = .ok (.iconst 0, 1) := by decide +kernel
theorem dX12_isSituation_26 : decode cX12_isSituation 26 = .ok (.istore_n 3, 1) := by decide +kernel
theorem dX12_isSituation_27 : decode cX12_isSituation 27 = .ok (.iload_n 3, 1) := by decide +kernel
theorem dX12_isSituation_28 : decode cX12_isSituation 28 = .ok (.bipush 26, 2) := by decide +kernel
theorem dX12_isSituation_30 : decode cX12_isSituation 30 = .ok (.if_icmp .ge 48, 3) := by decide +kernel
theorem dX12_isSituation_33 : decode cX12_isSituation 33 = .ok (.aload_n 0, 1) := by decide +kernel
theorem dX12_isSituation_34 : decode cX12_isSituation 34 = .ok (.getfield 76, 3) := by decide +kernel
theorem dX12_isSituation_37 : decode cX12_isSituation 37 = .ok (.iload_n 3, 1) := by decide +kernel
theorem dX12_isSituation_38 : decode cX12_isSituation 38 = .ok (.baload, 1) := by decide +kernel
theorem dX12_isSituation_39 : decode cX12_isSituation 39 = .ok (.ifCond .eq 33, 3) := by decide +kernel
theorem dX12_isSituation_42 : decode cX12_isSituation 42 = .ok (.aload_n 0, 1) := by decide +kernel
theorem dX12_isSituation_43 : decode cX12_isSituation 43 = .ok (.iload_n 3, 1) := by decide +kernel
theorem dX12_isSituation_44 : decode cX12_isSituation 44 = .ok (.invokevirtual 297, 3) := by decide +kernel
theorem dX12_isSituation_47 : decode cX12_isSituation 47 = .ok (.ifCond .eq 25, 3) := by decide +kernel
theorem dX12_isSituation_50 : decode cX12_isSituation 50 = .ok (.aload_n 0, 1) := by decide +kernel
theorem dX12_isSituation_51 : decode cX12_isSituation 51 = .ok (.getfield 146, 3) := by decide +kernel
theorem dX12_isSituation_54 : decode cX12_isSituation 54 = .ok (.bipush 26, 2) := by decide +kernel
theorem dX12_isSituation_56 : decode cX12_isSituation 56 = .ok (.iload_n 1, 1) := by decide +kernel
theorem dX12_isSituation_57 : decode cX12_isSituation 57 = .ok (.imul, 1) := by decide +kernel
theorem dX12_isSituation_58 : decode cX12_isSituation 58 = .ok (.iload_n 3, 1) := by decide +kernel
theorem dX12_isSituation_59 : decode cX12_isSituation 59 = .ok (.iadd, 1) := by decide +kernel
theorem dX12_isSituation_60 : decode cX12_isSituation 60 = .ok (.iaload, 1) := by decide +kernel
theorem dX12_isSituation_61 : decode cX12_isSituation 61 = .ok (.aload_n 0, 1) := by decide +kernel
theorem dX12_isSituation_62 : decode cX12_isSituation 62 = .ok (.getfield 107, 3) := by decide +kernel
theorem dX12_isSituation_65 : decode cX12_isSituation 65 = .ok (.iload_n 3, 1) := by decide +kernel
theorem dX12_isSituation_66 : decode cX12_isSituation 66 = .ok (.iaload, 1) := by decide +kernel
theorem dX12_isSituation_67 : decode cX12_isSituation 67 = .ok (.if_icmp .eq 5, 3) := by decide +kernel
theorem dX12_isSituation_70 : decode cX12_isSituation 70 = .ok (.iconst 0, 1) := by decide +kernel
theorem dX12_isSituation_71 : decode cX12_isSituation 71 = .ok (.ireturn, 1) := by decide +kernel
theorem dX12_isSituation_72 : decode cX12_isSituation 72 = .ok (.iinc 3 1, 3) := by decide +kernel
theorem dX12_isSituation_75 : decode cX12_isSituation 75 = .ok (.goto (-48), 3) := by decide +kernel
theorem dX12_isSituation_78 : decode cX12_isSituation 78 = .ok (.iconst 1, 1) := by decide +kernel
theorem dX12_isSituation_79 : decode cX12_isSituation 79 = .ok (.ireturn, 1) := by decide +kernel
theorem dX12_isStored_0 : decode cX12_isStored 0 = .ok (.aload_n 0, 1) := by decide +kernel
theorem dX12_isStored_1 : decode cX12_isStored 1 = .ok (.getfield 80, 3) := by decide +kernel
theorem dX12_isStored_4 : decode cX12_isStored 4 = .ok (.iload_n 1, 1) := by decide +kernel
theorem dX12_isStored_5 : decode cX12_isStored 5 = .ok (.iaload, 1) := by decide +kernel
theorem dX12_isStored_6 : decode cX12_isStored 6 = .ok (.bipush 119, 2) := by decide +kernel
theorem dX12_isStored_8 : decode cX12_isStored 8 = .ok (.if_icmp .eq 14, 3) := by decide +kernel
theorem dX12_isStored_11 : decode cX12_isStored 11 = .ok (.aload_n 0, 1) := by decide +kernel
theorem dX12_isStored_12 : decode cX12_isStored 12 = .ok (.getfield 80, 3) := by decide +kernel
theorem dX12_isStored_15 : decode cX12_isStored 15 = .ok (.iload_n 1, 1) := by decide +kernel
theorem dX12_isStored_16 : decode cX12_isStored 16 = .ok (.iaload, 1) := by decide +kernel
theorem dX12_isStored_17 : decode cX12_isStored 17 = .ok (.bipush 111, 2) := by decide +kernel
theorem dX12_isStored_19 : decode cX12_isStored 19 = .ok (.if_icmp .ne 7, 3) := by decide +kernel
theorem dX12_isStored_22 : decode cX12_isStored 22 = .ok (.iconst 1, 1) := by decide +kernel
theorem dX12_isStored_23 : decode cX12_isStored 23 = .ok (.goto 4, 3) := by decide +kernel
theorem dX12_isStored_26 : decode cX12_isStored 26 = .ok (.iconst 0, 1) := by decide +kernel
theorem dX12_isStored_27 : decode cX12_isStored 27 = .ok (.ireturn, 1) := by decide +kernel
theorem dX12_isThere_0 : decode cX12_isThere 0 = .ok (.aload_n 0, 1) := by decide +kernel
theorem dX12_isThere_1 : decode cX12_isThere 1 = .ok (.getfield 70, 3) := by decide +kernel
theorem dX12_isThere_4 : decode cX12_isThere 4 = .ok (.iload_n 1, 1) := by decide +kernel
theorem dX12_isThere_5 : decode cX12_isThere 5 = .ok (.iaload, 1) := by decide +kernel
theorem dX12_isThere_6 : decode cX12_isThere 6 = .ok (.iconst (-1), 1) := by decide +kernel
theorem dX12_isThere_7 : decode cX12_isThere 7 = .ok (.if_icmp .eq 23, 3) := by decide +kernel
theorem dX12_isThere_10 : decode cX12_isThere 10 = .ok (.aload_n 0, 1) := by decide +kernel
theorem dX12_isThere_11 : decode cX12_isThere 11 = .ok (.getfield 107, 3) := by decide +kernel
theorem dX12_isThere_14 : decode cX12_isThere 14 = .ok (.aload_n 0, 1) := by decide +kernel
theorem dX12_isThere_15 : decode cX12_isThere 15 = .ok (.getfield 70, 3) := by decide +kernel
theorem dX12_isThere_18 : decode cX12_isThere 18 = .ok (.iload_n 1, 1) := by decide +kernel
theorem dX12_isThere_19 : decode cX12_isThere 19 = .ok (.iaload, 1) := by decide +kernel
theorem dX12_isThere_20 : decode cX12_isThere 20 = .ok (.iaload, 1) := by decide +kernel
theorem dX12_isThere_21 : decode cX12_isThere 21 = .ok (.aload_n 0, 1) := by decide +kernel
theorem dX12_isThere_22 : decode cX12_isThere 22 = .ok (.getfield 73, 3) := by decide +kernel
theorem dX12_isThere_25 : decode cX12_isThere 25 = .ok (.iload_n 1, 1) := by decide +kernel
theorem dX12_isThere_26 : decode cX12_isThere 26 = .ok (.iaload, 1) := by decide +kernel
theorem dX12_isThere_27 : decode cX12_isThere 27 = .ok (.if_icmp .ne 7, 3) := by decide +kernel
theorem dX12_isThere_30 : decode cX12_isThere 30 = .ok (.iconst 1, 1) := by decide +kernel
theorem dX12_isThere_31 : decode cX12_isThere 31 = .ok (.goto 4, 3) := by decide +kernel
theorem dX12_isThere_34 : decode cX12_isThere 34 = .ok (.iconst 0, 1) := by decide +kernel
theorem dX12_isThere_35 : decode cX12_isThere 35 = .ok (.ireturn, 1) := by decide +kernel
theorem dX12_isWritten_0 : decode cX12_isWritten 0 = .ok (.aload_n 0, 1) := by decide +kernel
theorem dX12_isWritten_1 : decode cX12_isWritten 1 = .ok (.iload_n 1, 1) := by decide +kernel
theorem dX12_isWritten_2 : decode cX12_isWritten 2 = .ok (.iload_n 2, 1) := by decide +kernel
theorem dX12_isWritten_3 : decode cX12_isWritten 3 = .ok (.invokevirtual 291, 3) := by decide +kernel
theorem dX12_isWritten_6 : decode cX12_isWritten 6 = .ok (.ifCond .eq 25, 3) := by decide +kernel
theorem dX12_isWritten_9 : decode cX12_isWritten 9 = .ok (.aload_n 0, 1) := by decide +kernel
theorem dX12_isWritten_10 : decode cX12_isWritten 10 = .ok (.getfield 80, 3) := by decide +kernel
theorem dX12_isWritten_13 : decode cX12_isWritten 13 = .ok (.iload_n 1, 1) := by decide +kernel
theorem dX12_isWritten_14 : decode cX12_isWritten 14 = .ok (.iaload, 1) := by decide +kernel
theorem dX12_isWritten_15 : decode cX12_isWritten 15 = .ok (.bipush 114, 2) := by decide +kernel
theorem dX12_isWritten_17 : decode cX12_isWritten 17 = .ok (.if_icmp .eq 14, 3) := by decide +kernel
theorem dX12_isWritten_20 : decode cX12_isWritten 20 = .ok (.aload_n 0, 1) := by decide +kernel
theorem dX12_isWritten_21 : decode cX12_isWritten 21 = .ok (.getfield 80, 3) := by decide +kernel
theorem dX12_isWritten_24 : decode cX12_isWritten 24 = .ok (.iload_n 1, 1) := by decide +kernel
theorem dX12_isWritten_25 : decode cX12_isWritten 25 = .ok (.iaload, 1) := by decide +kernel
theorem dX12_isWritten_26 : decode cX12_isWritten 26 = .ok (.bipush 99, 2) := by decide +kernel
theorem dX12_isWritten_28 : decode cX12_isWritten 28 = .ok (.if_icmp .ne 5, 3) := by decide +kernel
theorem dX12_isWritten_31 : decode cX12_isWritten 31 = .ok (.iconst 0, 1) := by decide +kernel
theorem dX12_isWritten_32 : decode cX12_isWritten 32 = .ok (.ireturn, 1) := by decide +kernel
theorem dX12_isWritten_33 : decode cX12_isWritten 33 = .ok (.aload_n 0, 1) := by decide +kernel
theorem dX12_isWritten_34 : decode cX12_isWritten 34 = .ok (.iload_n 1, 1) := by decide +kernel
theorem dX12_isWritten_35 : decode cX12_isWritten 35 = .ok (.iload_n 3, 1) := by decide +kernel
theorem dX12_isWritten_36 : decode cX12_isWritten 36 = .ok (.invokevirtual 294, 3) := by decide +kernel
theorem dX12_isWritten_39 : decode cX12_isWritten 39 = .ok (.istore 4, 2) := by decide +kernel
theorem dX12_isWritten_41 : decode cX12_isWritten 41 = .ok (.aload_n 0, 1) := by decide +kernel
theorem dX12_isWritten_42 : decode cX12_isWritten 42 = .ok (.iload_n 1, 1) := by decide +kernel
theorem dX12_isWritten_43 : decode cX12_isWritten 43 = .ok (.invokevirtual 297, 3) := by decide +kernel
theorem dX12_isWritten_46 : decode cX12_isWritten 46 = .ok (.ifCond .eq 22, 3) := by decide +kernel
theorem dX12_isWritten_49 : decode cX12_isWritten 49 = .ok (.iload 4, 2) := by decide +kernel
theorem dX12_isWritten_51 : decode cX12_isWritten 51 = .ok (.aload_n 0, 1) := by decide +kernel
theorem dX12_isWritten_52 : decode cX12_isWritten 52 = .ok (.getfield 107, 3) := by decide +kernel
theorem dX12_isWritten_55 : decode cX12_isWritten 55 = .ok (.iload_n 1, 1) := by decide +kernel
theorem dX12_isWritten_56 : decode cX12_isWritten 56 = .ok (.iaload, 1) := by decide +kernel
theorem dX12_isWritten_57 : decode cX12_isWritten 57 = .ok (.if_icmp .eq 7, 3) := by decide +kernel
theorem dX12_isWritten_60 : decode cX12_isWritten 60 = .ok (.iconst 1, 1) := by decide +kernel
theorem dX12_isWritten_61 : decode cX12_isWritten 61 = .ok (.goto 17, 3) := by decide +kernel
theorem dX12_isWritten_64 : decode cX12_isWritten 64 = .ok (.iconst 0, 1) := by decide +kernel
theorem dX12_isWritten_65 : decode cX12_isWritten 65 = .ok (.goto 13, 3) := by decide +kernel
theorem dX12_isWritten_68 : decode cX12_isWritten 68 = .ok (.iload 4, 2) := by decide +kernel
theorem dX12_isWritten_70 : decode cX12_isWritten 70 = .ok (.ifCond .eq 7, 3) := by decide +kernel
theorem dX12_isWritten_73 : decode cX12_isWritten 73 = .ok (.iconst 1, 1) := by decide +kernel
theorem dX12_isWritten_74 : decode cX12_isWritten 74 = .ok (.goto 4, 3) := by decide +kernel
theorem dX12_isWritten_77 : decode cX12_isWritten 77 = .ok (.iconst 0, 1) := by decide +kernel
theorem dX12_isWritten_78 : decode cX12_isWritten 78 = .ok (.ireturn, 1) := by decide +kernel
theorem dX12_join_0 : decode cX12_join 0 = .ok (.aload_n 0, 1) := by decide +kernel
theorem dX12_join_1 : decode cX12_join 1 = .ok (.iconst 0, 1) := by decide +kernel
theorem dX12_join_2 : decode cX12_join 2 = .ok (.putfield 161, 3) := by decide +kernel
theorem dX12_join_5 : decode cX12_join 5 = .ok (.aload_n 0, 1) := by decide +kernel
theorem dX12_join_6 : decode cX12_join 6 = .ok (.iload_n 1, 1) := by decide +kernel
theorem dX12_join_7 : decode cX12_join 7 = .ok (.iload_n 2, 1) := by decide +kernel
theorem dX12_join_8 : decode cX12_join 8 = .ok (.invokevirtual 366, 3) := by decide +kernel
theorem dX12_join_11 : decode cX12_join 11 = .ok (.ifCond .eq 12, 3) := by decide +kernel
theorem dX12_join_14 : decode cX12_join 14 = .ok (.aload_n 0, 1) := by decide +kernel
theorem dX12_join_15 : decode cX12_join 15 = .ok (.getfield 288, 3) := by decide +kernel
theorem dX12_join_18 : decode cX12_join 18 = .ok (.bipush 8, 2) := by decide +kernel
theorem dX12_join_20 : decode cX12_join 20 = .ok (.if_icmp .ne 5, 3) := by decide +kernel
theorem dX12_join_23 : decode cX12_join 23 = .ok (.iconst (-1), 1) := by decide +kernel
theorem dX12_join_24 : decode cX12_join 24 = .ok (.ireturn, 1) := by decide +kernel
theorem dX12_join_25 : decode cX12_join 25 = .ok (.aload_n 0, 1) := by decide +kernel
theorem dX12_join_26 : decode cX12_join 26 = .ok (.getfield 128, 3) := by decide +kernel
theorem dX12_join_29 : decode cX12_join 29 = .ok (.aload_n 0, 1) := by decide +kernel
theorem dX12_join_30 : decode cX12_join 30 = .ok (.getfield 288, 3) := by decide +kernel
theorem dX12_join_33 : decode cX12_join 33 = .ok (.iload_n 1, 1) := by decide +kernel
theorem dX12_join_34 : decode cX12_join 34 = .ok (.iastore, 1) := by decide +kernel
theorem dX12_join_35 : decode cX12_join 35 = .ok (.aload_n 0, 1) := by decide +kernel
theorem dX12_join_36 : decode cX12_join 36 = .ok (.getfield 131, 3) := by decide +kernel
theorem dX12_join_39 : decode cX12_join 39 = .ok (.aload_n 0, 1) := by decide +kernel
theorem dX12_join_40 : decode cX12_join 40 = .ok (.getfield 288, 3) := by decide +kernel
theorem dX12_join_43 : decode cX12_join 43 = .ok (.iload_n 2, 1) := by decide +kernel
theorem dX12_join_44 : decode cX12_join 44 = .ok (.iastore, 1) := by decide +kernel
theorem dX12_join_45 : decode cX12_join 45 = .ok (.aload_n 0, 1) := by decide +kernel
theorem dX12_join_46 : decode cX12_join 46 = .ok (.dup, 1) := by decide +kernel
theorem dX12_join_47 : decode cX12_join 47 = .ok (.getfield 288, 3) := by decide +kernel
theorem dX12_join_50 : decode cX12_join 50 = .ok (.iconst 1, 1) := by decide +kernel
theorem dX12_join_51 : decode cX12_join 51 = .ok (.iadd, 1) := by decide +kernel
theorem dX12_join_52 : decode cX12_join 52 = .ok (.putfield 288, 3) := by decide +kernel
theorem dX12_join_55 : decode cX12_join 55 = .ok (.aload_n 0, 1) := by decide +kernel
theorem dX12_join_56 : decode cX12_join 56 = .ok (.getfield 288, 3) := by decide +kernel
theorem dX12_join_59 : decode cX12_join 59 = .ok (.ireturn, 1) := by decide +kernel
theorem dX12_meet_0 : decode cX12_meet 0 = .ok (.iload_n 1, 1) := by decide +kernel
theorem dX12_meet_1 : decode cX12_meet 1 = .ok (.aload_n 0, 1) := by decide +kernel
theorem dX12_meet_2 : decode cX12_meet 2 = .ok (.getfield 267, 3) := by decide +kernel
theorem dX12_meet_5 : decode cX12_meet 5 = .ok (.if_icmp .lt 8, 3) := by decide +kernel
theorem dX12_meet_8 : decode cX12_meet 8 = .ok (.bipush 40, 2) := by decide +kernel
theorem dX12_meet_10 : decode cX12_meet 10 = .ok (.goto 4, 3) := by decide +kernel
theorem dX12_meet_13 : decode cX12_meet 13 = .ok (.iload_n 1, 1) := by decide +kernel
theorem dX12_meet_14 : decode cX12_meet 14 = .ok (.istore_n 2, 1) := by decide +kernel
theorem dX12_meet_15 : decode cX12_meet 15 = .ok (.iconst 0, 1) := by decide +kernel
theorem dX12_meet_16 : decode cX12_meet 16 = .ok (.istore_n 3, 1) := by decide +kernel
theorem dX12_meet_17 : decode cX12_meet 17 = .ok (.iload_n 3, 1) := by decide +kernel
theorem dX12_meet_18 : decode cX12_meet 18 = .ok (.aload_n 0, 1) := by decide +kernel
theorem dX12_meet_19 : decode cX12_meet 19 = .ok (.getfield 390, 3) := by decide +kernel
theorem dX12_meet_22 : decode cX12_meet 22 = .ok (.if_icmp .ge 19, 3) := by decide +kernel
theorem dX12_meet_25 : decode cX12_meet 25 = .ok (.aload_n 0, 1) := by decide +kernel
theorem dX12_meet_26 : decode cX12_meet 26 = .ok (.iload_n 3, 1) := by decide +kernel
theorem dX12_meet_27 : decode cX12_meet 27 = .ok (.iload_n 2, 1) := by decide +kernel
theorem dX12_meet_28 : decode cX12_meet 28 = .ok (.invokevirtual 393, 3) := by decide +kernel
theorem dX12_meet_31 : decode cX12_meet 31 = .ok (.ifCond .eq 4, 3) := by decide +kernel
theorem dX12_meet_34 : decode cX12_meet 34 = .ok (.return_, 1) := by decide +kernel
theorem dX12_meet_35 : decode cX12_meet 35 = .ok (.iinc 3 1, 3) := by decide +kernel
theorem dX12_meet_38 : decode cX12_meet 38 = .ok (.goto (-21), 3) := by decide +kernel
theorem dX12_meet_41 : decode cX12_meet 41 = .ok (.aload_n 0, 1) := by decide +kernel
theorem dX12_meet_42 : decode cX12_meet 42 = .ok (.getfield 390, 3) := by decide +kernel
theorem dX12_meet_45 : decode cX12_meet 45 = .ok (.sipush 1000, 3) := by decide +kernel
theorem dX12_meet_48 : decode cX12_meet 48 = .ok (.if_icmp .ne 9, 3) := by decide +kernel
theorem dX12_meet_51 : decode cX12_meet 51 = .ok (.aload_n 0, 1) := by decide +kernel
theorem dX12_meet_52 : decode cX12_meet 52 = .ok (.iconst 1, 1) := by decide +kernel
theorem dX12_meet_53 : decode cX12_meet 53 = .ok (.putfield 396, 3) := by decide +kernel
theorem dX12_meet_56 : decode cX12_meet 56 = .ok (.return_, 1) := by decide +kernel
theorem dX12_meet_57 : decode cX12_meet 57 = .ok (.aload_n 0, 1) := by decide +kernel
theorem dX12_meet_58 : decode cX12_meet 58 = .ok (.getfield 143, 3) := by decide +kernel
theorem dX12_meet_61 : decode cX12_meet 61 = .ok (.aload_n 0, 1) := by decide +kernel
theorem dX12_meet_62 : decode cX12_meet 62 = .ok (.getfield 390, 3) := by decide +kernel
theorem dX12_meet_65 : decode cX12_meet 65 = .ok (.iload_n 2, 1) := by decide +kernel
theorem dX12_meet_66 : decode cX12_meet 66 = .ok (.iastore, 1) := by decide +kernel
theorem dX12_meet_67 : decode cX12_meet 67 = .ok (.aload_n 0, 1) := by decide +kernel
theorem dX12_meet_68 : decode cX12_meet 68 = .ok (.getfield 149, 3) := by decide +kernel
theorem dX12_meet_71 : decode cX12_meet 71 = .ok (.aload_n 0, 1) := by decide +kernel
theorem dX12_meet_72 : decode cX12_meet 72 = .ok (.getfield 390, 3) := by decide +kernel
theorem dX12_meet_75 : decode cX12_meet 75 = .ok (.aload_n 0, 1) := by decide +kernel
theorem dX12_meet_76 : decode cX12_meet 76 = .ok (.invokevirtual 387, 3) := by decide +kernel
theorem dX12_meet_79 : decode cX12_meet 79 = .ok (.iastore, 1) := by decide +kernel
theorem dX12_meet_80 : decode cX12_meet 80 = .ok (.iconst 0, 1) := by decide +kernel
theorem dX12_meet_81 : decode cX12_meet 81 = .ok (.istore_n 3, 1) := by decide +kernel
theorem dX12_meet_82 : decode cX12_meet 82 = .ok (.iload_n 3, 1) := by decide +kernel
theorem dX12_meet_83 : decode cX12_meet 83 = .ok (.bipush 26, 2) := by decide +kernel
theorem dX12_meet_85 : decode cX12_meet 85 = .ok (.if_icmp .ge 29, 3) := by decide +kernel
theorem dX12_meet_88 : decode cX12_meet 88 = .ok (.aload_n 0, 1) := by decide +kernel
theorem dX12_meet_89 : decode cX12_meet 89 = .ok (.getfield 146, 3) := by decide +kernel
theorem dX12_meet_92 : decode cX12_meet 92 = .ok (.bipush 26, 2) := by decide +kernel
theorem dX12_meet_94 : decode cX12_meet 94 = .ok (.aload_n 0, 1) := by decide +kernel
theorem dX12_meet_95 : decode cX12_meet 95 = .ok (.getfield 390, 3) := by decide +kernel
theorem dX12_meet_98 : decode cX12_meet 98 = .ok (.imul, 1) := by decide +kernel
theorem dX12_meet_99 : decode cX12_meet 99 = .ok (.iload_n 3, 1) := by decide +kernel
theorem dX12_meet_100 : decode cX12_meet 100 = .ok (.iadd, 1) := by decide +kernel
theorem dX12_meet_101 : decode cX12_meet 101 = .ok (.aload_n 0, 1) := by decide +kernel
theorem dX12_meet_102 : decode cX12_meet 102 = .ok (.getfield 107, 3) := by decide +kernel
theorem dX12_meet_105 : decode cX12_meet 105 = .ok (.iload_n 3, 1) := by decide +kernel
theorem dX12_meet_106 : decode cX12_meet 106 = .ok (.iaload, 1) := by decide +kernel
theorem dX12_meet_107 : decode cX12_meet 107 = .ok (.iastore, 1) := by decide +kernel
theorem dX12_meet_108 : decode cX12_meet 108 = .ok (.iinc 3 1, 3) := by decide +kernel
theorem dX12_meet_111 : decode cX12_meet 111 = .ok (.goto (-29), 3) := by decide +kernel
theorem dX12_meet_114 : decode cX12_meet 114 = .ok (.aload_n 0, 1) := by decide +kernel
theorem dX12_meet_115 : decode cX12_meet 115 = .ok (.dup, 1) := by decide +kernel
theorem dX12_meet_116 : decode cX12_meet 116 = .ok (.getfield 390, 3) := by decide +kernel
theorem dX12_meet_119 : decode cX12_meet 119 = .ok (.iconst 1, 1) := by decide +kernel
theorem dX12_meet_120 : decode cX12_meet 120 = .ok (.iadd, 1) := by decide +kernel
theorem dX12_meet_121 : decode cX12_meet 121 = .ok (.putfield 390, 3) := by decide +kernel
theorem dX12_meet_124 : decode cX12_meet 124 = .ok (.return_, 1) := by decide +kernel
theorem dX12_memoryWord_0 : decode cX12_memoryWord 0 = .ok (.iconst 0, 1) := by decide +kernel
theorem dX12_memoryWord_1 : decode cX12_memoryWord 1 = .ok (.istore_n 1, 1) := by decide +kernel
theorem dX12_memoryWord_2 : decode cX12_memoryWord 2 = .ok (.iconst 0, 1) := by decide +kernel
theorem dX12_memoryWord_3 : decode cX12_memoryWord 3 = .ok (.istore_n 2, 1) := by decide +kernel
theorem dX12_memoryWord_4 : decode cX12_memoryWord 4 = .ok (.iload_n 2, 1) := by decide +kernel
theorem dX12_memoryWord_5 : decode cX12_memoryWord 5 = .ok (.aload_n 0, 1) := by decide +kernel
theorem dX12_memoryWord_6 : decode cX12_memoryWord 6 = .ok (.getfield 264, 3) := by decide +kernel
theorem dX12_memoryWord_9 : decode cX12_memoryWord 9 = .ok (.if_icmp .ge 28, 3) := by decide +kernel
theorem dX12_memoryWord_12 : decode cX12_memoryWord 12 = .ok (.iload_n 1, 1) := by decide +kernel
theorem dX12_memoryWord_13 : decode cX12_memoryWord 13 = .ok (.aload_n 0, 1) := by decide +kernel
theorem dX12_memoryWord_14 : decode cX12_memoryWord 14 = .ok (.getfield 116, 3) := by decide +kernel
theorem dX12_memoryWord_17 : decode cX12_memoryWord 17 = .ok (.iload_n 2, 1) := by decide +kernel
theorem dX12_memoryWord_18 : decode cX12_memoryWord 18 = .ok (.baload, 1) := by decide +kernel
theorem dX12_memoryWord_19 : decode cX12_memoryWord 19 = .ok (.ifCond .eq 9, 3) := by decide +kernel
theorem dX12_memoryWord_22 : decode cX12_memoryWord 22 = .ok (.iconst 1, 1) := by decide +kernel
theorem dX12_memoryWord_23 : decode cX12_memoryWord 23 = .ok (.iload_n 2, 1) := by decide +kernel
theorem dX12_memoryWord_24 : decode cX12_memoryWord 24 = .ok (.ishl, 1) := by decide +kernel
