theorem dX10_name_24 : decode cX10_name 24 = .ok (.iconst 1, 1) := by decide +kernel
theorem dX10_name_25 : decode cX10_name 25 = .ok (.iadd, 1) := by decide +kernel
theorem dX10_name_26 : decode cX10_name 26 = .ok (.putfield 32, 3) := by decide +kernel
theorem dX10_name_29 : decode cX10_name 29 = .ok (.iload_n 1, 1) := by decide +kernel
theorem dX10_name_30 : decode cX10_name 30 = .ok (.bipush 65, 2) := by decide +kernel
theorem dX10_name_32 : decode cX10_name 32 = .ok (.isub, 1) := by decide +kernel
theorem dX10_name_33 : decode cX10_name 33 = .ok (.ireturn, 1) := by decide +kernel
theorem dX10_next_0 : decode cX10_next 0 = .ok (.aload_n 0, 1) := by decide +kernel
theorem dX10_next_1 : decode cX10_next 1 = .ok (.getfield 32, 3) := by decide +kernel
theorem dX10_next_4 : decode cX10_next 4 = .ok (.aload_n 0, 1) := by decide +kernel
theorem dX10_next_5 : decode cX10_next 5 = .ok (.getfield 19, 3) := by decide +kernel
theorem dX10_next_8 : decode cX10_next 8 = .ok (.if_icmp .ge 15, 3) := by decide +kernel
theorem dX10_next_11 : decode cX10_next 11 = .ok (.aload_n 0, 1) := by decide +kernel
theorem dX10_next_12 : decode cX10_next 12 = .ok (.getfield 9, 3) := by decide +kernel
theorem dX10_next_15 : decode cX10_next 15 = .ok (.aload_n 0, 1) := by decide +kernel
theorem dX10_next_16 : decode cX10_next 16 = .ok (.getfield 32, 3) := by decide +kernel
theorem dX10_next_19 : decode cX10_next 19 = .ok (.caload, 1) := by decide +kernel
theorem dX10_next_20 : decode cX10_next 20 = .ok (.goto 4, 3) := by decide +kernel
theorem dX10_next_23 : decode cX10_next 23 = .ok (.iconst 0, 1) := by decide +kernel
theorem dX10_next_24 : decode cX10_next 24 = .ok (.ireturn, 1) := by decide +kernel
theorem dX10_number_0 : decode cX10_number 0 = .ok (.iconst 0, 1) := by decide +kernel
theorem dX10_number_1 : decode cX10_number 1 = .ok (.istore 4, 2) := by decide +kernel
theorem dX10_number_3 : decode cX10_number 3 = .ok (.iconst 0, 1) := by decide +kernel
theorem dX10_number_4 : decode cX10_number 4 = .ok (.istore 5, 2) := by decide +kernel
theorem dX10_number_6 : decode cX10_number 6 = .ok (.iconst 0, 1) := by decide +kernel
theorem dX10_number_7 : decode cX10_number 7 = .ok (.istore 6, 2) := by decide +kernel
theorem dX10_number_9 : decode cX10_number 9 = .ok (.iload 6, 2) := by decide +kernel
theorem dX10_number_11 : decode cX10_number 11 = .ok (.iload_n 3, 1) := by decide +kernel
theorem dX10_number_12 : decode cX10_number 12 = .ok (.if_icmp .ge 55, 3) := by decide +kernel
theorem dX10_number_15 : decode cX10_number 15 = .ok (.aload_n 0, 1) := by decide +kernel
theorem dX10_number_16 : decode cX10_number 16 = .ok (.invokevirtual 42, 3) := by decide +kernel
theorem dX10_number_19 : decode cX10_number 19 = .ok (.invokestatic 155, 3) := by decide +kernel
theorem dX10_number_22 : decode cX10_number 22 = .ok (.istore 7, 2) := by decide +kernel
theorem dX10_number_24 : decode cX10_number 24 = .ok (.iload 7, 2) := by decide +kernel
theorem dX10_number_26 : decode cX10_number 26 = .ok (.iconst (-1), 1) := by decide +kernel
theorem dX10_number_27 : decode cX10_number 27 = .ok (.if_icmp .eq 40, 3) := by decide +kernel
theorem dX10_number_30 : decode cX10_number 30 = .ok (.iload 7, 2) := by decide +kernel
theorem dX10_number_32 : decode cX10_number 32 = .ok (.iload_n 1, 1) := by decide +kernel
theorem dX10_number_33 : decode cX10_number 33 = .ok (.if_icmp .lt 6, 3) := by decide +kernel
theorem dX10_number_36 : decode cX10_number 36 = .ok (.goto 31, 3) := by decide +kernel
theorem dX10_number_39 : decode cX10_number 39 = .ok (.iload 4, 2) := by decide +kernel
theorem dX10_number_41 : decode cX10_number 41 = .ok (.iload_n 1, 1) := by decide +kernel
theorem dX10_number_42 : decode cX10_number 42 = .ok (.imul, 1) := by decide +kernel
theorem dX10_number_43 : decode cX10_number 43 = .ok (.iload 7, 2) := by decide +kernel
theorem dX10_number_45 : decode cX10_number 45 = .ok (.iadd, 1) := by decide +kernel
theorem dX10_number_46 : decode cX10_number 46 = .ok (.istore 4, 2) := by decide +kernel
theorem dX10_number_48 : decode cX10_number 48 = .ok (.iinc 5 1, 3) := by decide +kernel
theorem dX10_number_51 : decode cX10_number 51 = .ok (.aload_n 0, 1) := by decide +kernel
theorem dX10_number_52 : decode cX10_number 52 = .ok (.dup, 1) := by decide +kernel
theorem dX10_number_53 : decode cX10_number 53 = .ok (.getfield 32, 3) := by decide +kernel
theorem dX10_number_56 : decode cX10_number 56 = .ok (.iconst 1, 1) := by decide +kernel
theorem dX10_number_57 : decode cX10_number 57 = .ok (.iadd, 1) := by decide +kernel
theorem dX10_number_58 : decode cX10_number 58 = .ok (.putfield 32, 3) := by decide +kernel
theorem dX10_number_61 : decode cX10_number 61 = .ok (.iinc 6 1, 3) := by decide +kernel
theorem dX10_number_64 : decode cX10_number 64 = .ok (.goto (-55), 3) := by decide +kernel
theorem dX10_number_67 : decode cX10_number 67 = .ok (.iload 5, 2) := by decide +kernel
theorem dX10_number_69 : decode cX10_number 69 = .ok (.iload_n 2, 1) := by decide +kernel
theorem dX10_number_70 : decode cX10_number 70 = .ok (.if_icmp .ge 7, 3) := by decide +kernel
theorem dX10_number_73 : decode cX10_number 73 = .ok (.iconst (-1), 1) := by decide +kernel
theorem dX10_number_74 : decode cX10_number 74 = .ok (.goto 5, 3) := by decide +kernel
theorem dX10_number_77 : decode cX10_number 77 = .ok (.iload 4, 2) := by decide +kernel
theorem dX10_number_79 : decode cX10_number 79 = .ok (.ireturn, 1) := by decide +kernel
theorem dX10_numberBehindSign_0 : decode cX10_numberBehindSign 0 = .ok (.aload_n 0, 1) := by decide +kernel
theorem dX10_numberBehindSign_1 : decode cX10_numberBehindSign 1 = .ok (.bipush 61, 2) := by decide +kernel
theorem dX10_numberBehindSign_3 : decode cX10_numberBehindSign 3 = .ok (.invokevirtual 69, 3) := by decide +kernel
theorem dX10_numberBehindSign_6 : decode cX10_numberBehindSign 6 = .ok (.ifCond .eq 14, 3) := by decide +kernel
theorem dX10_numberBehindSign_9 : decode cX10_numberBehindSign 9 = .ok (.aload_n 0, 1) := by decide +kernel
theorem dX10_numberBehindSign_10 : decode cX10_numberBehindSign 10 = .ok (.bipush 16, 2) := by decide +kernel
theorem dX10_numberBehindSign_12 : decode cX10_numberBehindSign 12 = .ok (.iconst 1, 1) := by decide +kernel
theorem dX10_numberBehindSign_13 : decode cX10_numberBehindSign 13 = .ok (.iconst 4, 1) := by decide +kernel
theorem dX10_numberBehindSign_14 : decode cX10_numberBehindSign 14 = .ok (.invokevirtual 76, 3) := by decide +kernel
theorem dX10_numberBehindSign_17 : decode cX10_numberBehindSign 17 = .ok (.goto 4, 3) := by decide +kernel
theorem dX10_numberBehindSign_20 : decode cX10_numberBehindSign 20 = .ok (.iconst (-1), 1) := by decide +kernel
theorem dX10_numberBehindSign_21 : decode cX10_numberBehindSign 21 = .ok (.ireturn, 1) := by decide +kernel
theorem dX10_oneOf_0 : decode cX10_oneOf 0 = .ok (.aload_n 1, 1) := by decide +kernel
theorem dX10_oneOf_1 : decode cX10_oneOf 1 = .ok (.aload_n 0, 1) := by decide +kernel
theorem dX10_oneOf_2 : decode cX10_oneOf 2 = .ok (.invokevirtual 42, 3) := by decide +kernel
theorem dX10_oneOf_5 : decode cX10_oneOf 5 = .ok (.invokevirtual 149, 3) := by decide +kernel
theorem dX10_oneOf_8 : decode cX10_oneOf 8 = .ok (.istore_n 2, 1) := by decide +kernel
theorem dX10_oneOf_9 : decode cX10_oneOf 9 = .ok (.iload_n 2, 1) := by decide +kernel
theorem dX10_oneOf_10 : decode cX10_oneOf 10 = .ok (.ifCond .lt 13, 3) := by decide +kernel
theorem dX10_oneOf_13 : decode cX10_oneOf 13 = .ok (.aload_n 0, 1) := by decide +kernel
theorem dX10_oneOf_14 : decode cX10_oneOf 14 = .ok (.dup, 1) := by decide +kernel
theorem dX10_oneOf_15 : decode cX10_oneOf 15 = .ok (.getfield 32, 3) := by decide +kernel
theorem dX10_oneOf_18 : decode cX10_oneOf 18 = .ok (.iconst 1, 1) := by decide +kernel
theorem dX10_oneOf_19 : decode cX10_oneOf 19 = .ok (.iadd, 1) := by decide +kernel
theorem dX10_oneOf_20 : decode cX10_oneOf 20 = .ok (.putfield 32, 3) := by decide +kernel
theorem dX10_oneOf_23 : decode cX10_oneOf 23 = .ok (.iload_n 2, 1) := by decide +kernel
theorem dX10_oneOf_24 : decode cX10_oneOf 24 = .ok (.ifCond .lt 7, 3) := by decide +kernel
theorem dX10_oneOf_27 : decode cX10_oneOf 27 = .ok (.iload_n 2, 1) := by decide +kernel
theorem dX10_oneOf_28 : decode cX10_oneOf 28 = .ok (.goto 4, 3) := by decide +kernel
theorem dX10_oneOf_31 : decode cX10_oneOf 31 = .ok (.iconst (-1), 1) := by decide +kernel
theorem dX10_oneOf_32 : decode cX10_oneOf 32 = .ok (.ireturn, 1) := by decide +kernel
theorem dX10_readAll_0 : decode cX10_readAll 0 = .ok (.aload_n 0, 1) := by decide +kernel
theorem dX10_readAll_1 : decode cX10_readAll 1 = .ok (.getfield 15, 3) := by decide +kernel
theorem dX10_readAll_4 : decode cX10_readAll 4 = .ok (.invokevirtual 27, 3) := by decide +kernel
theorem dX10_readAll_7 : decode cX10_readAll 7 = .ok (.aload_n 0, 1) := by decide +kernel
theorem dX10_readAll_8 : decode cX10_readAll 8 = .ok (.iconst 0, 1) := by decide +kernel
theorem dX10_readAll_9 : decode cX10_readAll 9 = .ok (.putfield 32, 3) := by decide +kernel
theorem dX10_readAll_12 : decode cX10_readAll 12 = .ok (.aload_n 0, 1) := by decide +kernel
theorem dX10_readAll_13 : decode cX10_readAll 13 = .ok (.invokevirtual 35, 3) := by decide +kernel
theorem dX10_readAll_16 : decode cX10_readAll 16 = .ok (.ifCond .eq 25, 3) := by decide +kernel
theorem dX10_readAll_19 : decode cX10_readAll 19 = .ok (.aload_n 0, 1) := by decide +kernel
theorem dX10_readAll_20 : decode cX10_readAll 20 = .ok (.invokevirtual 39, 3) := by decide +kernel
theorem dX10_readAll_23 : decode cX10_readAll 23 = .ok (.ifCond .eq 18, 3) := by decide +kernel
theorem dX10_readAll_26 : decode cX10_readAll 26 = .ok (.aload_n 0, 1) := by decide +kernel
theorem dX10_readAll_27 : decode cX10_readAll 27 = .ok (.getfield 32, 3) := by decide +kernel
theorem dX10_readAll_30 : decode cX10_readAll 30 = .ok (.aload_n 0, 1) := by decide +kernel
theorem dX10_readAll_31 : decode cX10_readAll 31 = .ok (.getfield 19, 3) := by decide +kernel
theorem dX10_readAll_34 : decode cX10_readAll 34 = .ok (.if_icmp .ne 7, 3) := by decide +kernel
theorem dX10_readAll_37 : decode cX10_readAll 37 = .ok (.iconst 1, 1) := by decide +kernel
theorem dX10_readAll_38 : decode cX10_readAll 38 = .ok (.goto 4, 3) := by decide +kernel
theorem dX10_readAll_41 : decode cX10_readAll 41 = .ok (.iconst 0, 1) := by decide +kernel
theorem dX10_readAll_42 : decode cX10_readAll 42 = .ok (.istore_n 1, 1) := by decide +kernel
theorem dX10_readAll_43 : decode cX10_readAll 43 = .ok (.aload_n 0, 1) := by decide +kernel
theorem dX10_readAll_44 : decode cX10_readAll 44 = .ok (.iconst 0, 1) := by decide +kernel
theorem dX10_readAll_45 : decode cX10_readAll 45 = .ok (.putfield 19, 3) := by decide +kernel
theorem dX10_readAll_48 : decode cX10_readAll 48 = .ok (.iload_n 1, 1) := by decide +kernel
theorem dX10_readAll_49 : decode cX10_readAll 49 = .ok (.ireturn, 1) := by decide +kernel
theorem dX10_readBank_0 : decode cX10_readBank 0 = .ok (.aload_n 0, 1) := by decide +kernel
theorem dX10_readBank_1 : decode cX10_readBank 1 = .ok (.getfield 15, 3) := by decide +kernel
theorem dX10_readBank_4 : decode cX10_readBank 4 = .ok (.getfield 86, 3) := by decide +kernel
theorem dX10_readBank_7 : decode cX10_readBank 7 = .ok (.iload_n 1, 1) := by decide +kernel
theorem dX10_readBank_8 : decode cX10_readBank 8 = .ok (.iconst (-1), 1) := by decide +kernel
theorem dX10_readBank_9 : decode cX10_readBank 9 = .ok (.iastore, 1) := by decide +kernel
theorem dX10_readBank_10 : decode cX10_readBank 10 = .ok (.aload_n 0, 1) := by decide +kernel
theorem dX10_readBank_11 : decode cX10_readBank 11 = .ok (.invokevirtual 42, 3) := by decide +kernel
theorem dX10_readBank_14 : decode cX10_readBank 14 = .ok (.bipush 63, 2) := by decide +kernel
theorem dX10_readBank_16 : decode cX10_readBank 16 = .ok (.if_icmp .eq 5, 3) := by decide +kernel
theorem dX10_readBank_19 : decode cX10_readBank 19 = .ok (.iconst 1, 1) := by decide +kernel
theorem dX10_readBank_20 : decode cX10_readBank 20 = .ok (.ireturn, 1) := by decide +kernel
theorem dX10_readBank_21 : decode cX10_readBank 21 = .ok (.aload_n 0, 1) := by decide +kernel
theorem dX10_readBank_22 : decode cX10_readBank 22 = .ok (.dup, 1) := by decide +kernel
theorem dX10_readBank_23 : decode cX10_readBank 23 = .ok (.getfield 32, 3) := by decide +kernel
theorem dX10_readBank_26 : decode cX10_readBank 26 = .ok (.iconst 1, 1) := by decide +kernel
theorem dX10_readBank_27 : decode cX10_readBank 27 = .ok (.iadd, 1) := by decide +kernel
theorem dX10_readBank_28 : decode cX10_readBank 28 = .ok (.putfield 32, 3) := by decide +kernel
theorem dX10_readBank_31 : decode cX10_readBank 31 = .ok (.aload_n 0, 1) := by decide +kernel
theorem dX10_readBank_32 : decode cX10_readBank 32 = .ok (.getfield 15, 3) := by decide +kernel
theorem dX10_readBank_35 : decode cX10_readBank 35 = .ok (.getfield 89, 3) := by decide +kernel
theorem dX10_readBank_38 : decode cX10_readBank 38 = .ok (.iload_n 1, 1) := by decide +kernel
theorem dX10_readBank_39 : decode cX10_readBank 39 = .ok (.aload_n 0, 1) := by decide +kernel
theorem dX10_readBank_40 : decode cX10_readBank 40 = .ok (.getfield 32, 3) := by decide +kernel
theorem dX10_readBank_43 : decode cX10_readBank 43 = .ok (.iastore, 1) := by decide +kernel
theorem dX10_readBank_44 : decode cX10_readBank 44 = .ok (.aload_n 0, 1) := by decide +kernel
theorem dX10_readBank_45 : decode cX10_readBank 45 = .ok (.getfield 15, 3) := by decide +kernel
theorem dX10_readBank_48 : decode cX10_readBank 48 = .ok (.getfield 86, 3) := by decide +kernel
theorem dX10_readBank_51 : decode cX10_readBank 51 = .ok (.iload_n 1, 1) := by decide +kernel
theorem dX10_readBank_52 : decode cX10_readBank 52 = .ok (.aload_n 0, 1) := by decide +kernel
theorem dX10_readBank_53 : decode cX10_readBank 53 = .ok (.invokevirtual 92, 3) := by decide +kernel
theorem dX10_readBank_56 : decode cX10_readBank 56 = .ok (.iastore, 1) := by decide +kernel
theorem dX10_readBank_57 : decode cX10_readBank 57 = .ok (.aload_n 0, 1) := by decide +kernel
theorem dX10_readBank_58 : decode cX10_readBank 58 = .ok (.getfield 15, 3) := by decide +kernel
theorem dX10_readBank_61 : decode cX10_readBank 61 = .ok (.getfield 86, 3) := by decide +kernel
theorem dX10_readBank_64 : decode cX10_readBank 64 = .ok (.iload_n 1, 1) := by decide +kernel
theorem dX10_readBank_65 : decode cX10_readBank 65 = .ok (.iaload, 1) := by decide +kernel
theorem dX10_readBank_66 : decode cX10_readBank 66 = .ok (.iconst (-1), 1) := by decide +kernel
theorem dX10_readBank_67 : decode cX10_readBank 67 = .ok (.if_icmp .eq 12, 3) := by decide +kernel
theorem dX10_readBank_70 : decode cX10_readBank 70 = .ok (.aload_n 0, 1) := by decide +kernel
theorem dX10_readBank_71 : decode cX10_readBank 71 = .ok (.bipush 61, 2) := by decide +kernel
theorem dX10_readBank_73 : decode cX10_readBank 73 = .ok (.invokevirtual 69, 3) := by decide +kernel
theorem dX10_readBank_76 : decode cX10_readBank 76 = .ok (.ifCond .ne 5, 3) := by decide +kernel
theorem dX10_readBank_79 : decode cX10_readBank 79 = .ok (.iconst 0, 1) := by decide +kernel
theorem dX10_readBank_80 : decode cX10_readBank 80 = .ok (.ireturn, 1) := by decide +kernel
theorem dX10_readBank_81 : decode cX10_readBank 81 = .ok (.aload_n 0, 1) := by decide +kernel
theorem dX10_readBank_82 : decode cX10_readBank 82 = .ok (.getfield 15, 3) := by decide +kernel
theorem dX10_readBank_85 : decode cX10_readBank 85 = .ok (.getfield 96, 3) := by decide +kernel
theorem dX10_readBank_88 : decode cX10_readBank 88 = .ok (.iload_n 1, 1) := by decide +kernel
theorem dX10_readBank_89 : decode cX10_readBank 89 = .ok (.aload_n 0, 1) := by decide +kernel
theorem dX10_readBank_90 : decode cX10_readBank 90 = .ok (.bipush 16, 2) := by decide +kernel
theorem dX10_readBank_92 : decode cX10_readBank 92 = .ok (.iconst 1, 1) := by decide +kernel
theorem dX10_readBank_93 : decode cX10_readBank 93 = .ok (.iconst 1, 1) := by decide +kernel
theorem dX10_readBank_94 : decode cX10_readBank 94 = .ok (.invokevirtual 76, 3) := by decide +kernel
theorem dX10_readBank_97 : decode cX10_readBank 97 = .ok (.iastore, 1) := by decide +kernel
theorem dX10_readBank_98 : decode cX10_readBank 98 = .ok (.aload_n 0, 1) := by decide +kernel
theorem dX10_readBank_99 : decode cX10_readBank 99 = .ok (.getfield 15, 3) := by decide +kernel
theorem dX10_readBank_102 : decode cX10_readBank 102 = .ok (.getfield 96, 3) := by decide +kernel
theorem dX10_readBank_105 : decode cX10_readBank 105 = .ok (.iload_n 1, 1) := by decide +kernel
theorem dX10_readBank_106 : decode cX10_readBank 106 = .ok (.iaload, 1) := by decide +kernel
theorem dX10_readBank_107 : decode cX10_readBank 107 = .ok (.iconst (-1), 1) := by decide +kernel
theorem dX10_readBank_108 : decode cX10_readBank 108 = .ok (.if_icmp .eq 7, 3) := by decide +kernel
theorem dX10_readBank_111 : decode cX10_readBank 111 = .ok (.iconst 1, 1) := by decide +kernel
theorem dX10_readBank_112 : decode cX10_readBank 112 = .ok (.goto 4, 3) := by decide +kernel
theorem dX10_readBank_115 : decode cX10_readBank 115 = .ok (.iconst 0, 1) := by decide +kernel
theorem dX10_readBank_116 : decode cX10_readBank 116 = .ok (.ireturn, 1) := by decide +kernel
theorem dX10_readField_0 : decode cX10_readField 0 = .ok (.aload_n 0, 1) := by decide +kernel
theorem dX10_readField_1 : decode cX10_readField 1 = .ok (.getfield 15, 3) := by decide +kernel
theorem dX10_readField_4 : decode cX10_readField 4 = .ok (.getfield 99, 3) := by decide +kernel
theorem dX10_readField_7 : decode cX10_readField 7 = .ok (.istore_n 2, 1) := by decide +kernel
theorem dX10_readField_8 : decode cX10_readField 8 = .ok (.aload_n 0, 1) := by decide +kernel
theorem dX10_readField_9 : decode cX10_readField 9 = .ok (.getfield 15, 3) := by decide +kernel
theorem dX10_readField_12 : decode cX10_readField 12 = .ok (.getfield 102, 3) := by decide +kernel
theorem dX10_readField_15 : decode cX10_readField 15 = .ok (.iload_n 2, 1) := by decide +kernel
theorem dX10_readField_16 : decode cX10_readField 16 = .ok (.iload_n 1, 1) := by decide +kernel
theorem dX10_readField_17 : decode cX10_readField 17 = .ok (.iastore, 1) := by decide +kernel
theorem dX10_readField_18 : decode cX10_readField 18 = .ok (.aload_n 0, 1) := by decide +kernel
theorem dX10_readField_19 : decode cX10_readField 19 = .ok (.getfield 15, 3) := by decide +kernel
theorem dX10_readField_22 : decode cX10_readField 22 = .ok (.getfield 105, 3) := by decide +kernel
theorem dX10_readField_25 : decode cX10_readField 25 = .ok (.iload_n 2, 1) := by decide +kernel
theorem dX10_readField_26 : decode cX10_readField 26 = .ok (.aload_n 0, 1) := by decide +kernel
theorem dX10_readField_27 : decode cX10_readField 27 = .ok (.getfield 32, 3) := by decide +kernel
theorem dX10_readField_30 : decode cX10_readField 30 = .ok (.iastore, 1) := by decide +kernel
theorem dX10_readField_31 : decode cX10_readField 31 = .ok (.aload_n 0, 1) := by decide +kernel
theorem dX10_readField_32 : decode cX10_readField 32 = .ok (.getfield 15, 3) := by decide +kernel
theorem dX10_readField_35 : decode cX10_readField 35 = .ok (.getfield 108, 3) := by decide +kernel
theorem dX10_readField_38 : decode cX10_readField 38 = .ok (.iload_n 2, 1) := by decide +kernel
theorem dX10_readField_39 : decode cX10_readField 39 = .ok (.aload_n 0, 1) := by decide +kernel
theorem dX10_readField_40 : decode cX10_readField 40 = .ok (.invokevirtual 92, 3) := by decide +kernel
theorem dX10_readField_43 : decode cX10_readField 43 = .ok (.iastore, 1) := by decide +kernel
theorem dX10_readField_44 : decode cX10_readField 44 = .ok (.aload_n 0, 1) := by decide +kernel
theorem dX10_readField_45 : decode cX10_readField 45 = .ok (.getfield 15, 3) := by decide +kernel
theorem dX10_readField_48 : decode cX10_readField 48 = .ok (.getfield 108, 3) := by decide +kernel
theorem dX10_readField_51 : decode cX10_readField 51 = .ok (.iload_n 2, 1) := by decide +kernel
theorem dX10_readField_52 : decode cX10_readField 52 = .ok (.iaload, 1) := by decide +kernel
theorem dX10_readField_53 : decode cX10_readField 53 = .ok (.iconst (-1), 1) := by decide +kernel
theorem dX10_readField_54 : decode cX10_readField 54 = .ok (.if_icmp .ne 5, 3) := by decide +kernel
theorem dX10_readField_57 : decode cX10_readField 57 = .ok (.iconst 0, 1) := by decide +kernel
theorem dX10_readField_58 : decode cX10_readField 58 = .ok (.ireturn, 1) := by decide +kernel
theorem dX10_readField_59 : decode cX10_readField 59 = .ok (.aload_n 0, 1) := by decide +kernel
theorem dX10_readField_60 : decode cX10_readField 60 = .ok (.getfield 15, 3) := by decide +kernel
theorem dX10_readField_63 : decode cX10_readField 63 = .ok (.getfield 110, 3) := by decide +kernel
theorem dX10_readField_66 : decode cX10_readField 66 = .ok (.iload_n 2, 1) := by decide +kernel
theorem dX10_readField_67 : decode cX10_readField 67 = .ok (.aload_n 0, 1) := by decide +kernel
theorem dX10_readField_68 : decode cX10_readField 68 = .ok (.ldc 113, 2) := by decide +kernel
theorem dX10_readField_70 : decode cX10_readField 70 = .ok (.invokevirtual 115, 3) := by decide +kernel
theorem dX10_readField_73 : decode cX10_readField 73 = .ok (.iastore, 1) := by decide +kernel
theorem dX10_readField_74 : decode cX10_readField 74 = .ok (.aload_n 0, 1) := by decide +kernel
theorem dX10_readField_75 : decode cX10_readField 75 = .ok (.getfield 15, 3) := by decide +kernel
theorem dX10_readField_78 : decode cX10_readField 78 = .ok (.getfield 110, 3) := by decide +kernel
theorem dX10_readField_81 : decode cX10_readField 81 = .ok (.iload_n 2, 1) := by decide +kernel
theorem dX10_readField_82 : decode cX10_readField 82 = .ok (.iaload, 1) := by decide +kernel
theorem dX10_readField_83 : decode cX10_readField 83 = .ok (.iconst (-1), 1) := by decide +kernel
theorem dX10_readField_84 : decode cX10_readField 84 = .ok (.if_icmp .ne 5, 3) := by decide +kernel
theorem dX10_readField_87 : decode cX10_readField 87 = .ok (.iconst 0, 1) := by decide +kernel
theorem dX10_readField_88 : decode cX10_readField 88 = .ok (.ireturn, 1) := by decide +kernel
theorem dX10_readField_89 : decode cX10_readField 89 = .ok (.aload_n 0, 1) := by decide +kernel
theorem dX10_readField_90 : decode cX10_readField 90 = .ok (.getfield 15, 3) := by decide +kernel
theorem dX10_readField_93 : decode cX10_readField 93 = .ok (.getfield 119, 3) := by decide +kernel
theorem dX10_readField_96 : decode cX10_readField 96 = .ok (.iload_n 2, 1) := by decide +kernel
theorem dX10_readField_97 : decode cX10_readField 97 = .ok (.aload_n 0, 1) := by decide +kernel
theorem dX10_readField_98 : decode cX10_readField 98 = .ok (.bipush 10, 2) := by decide +kernel
theorem dX10_readField_100 : decode cX10_readField 100 = .ok (.iconst 1, 1) := by decide +kernel
theorem dX10_readField_101 : decode cX10_readField 101 = .ok (.iconst 2, 1) := by decide +kernel
theorem dX10_readField_102 : decode cX10_readField 102 = .ok (.invokevirtual 76, 3) := by decide +kernel
theorem dX10_readField_105 : decode cX10_readField 105 = .ok (.iastore, 1) := by decide +kernel
theorem dX10_readField_106 : decode cX10_readField 106 = .ok (.aload_n 0, 1) := by decide +kernel
theorem dX10_readField_107 : decode cX10_readField 107 = .ok (.getfield 15, 3) := by decide +kernel
theorem dX10_readField_110 : decode cX10_readField 110 = .ok (.getfield 119, 3) := by decide +kernel
theorem dX10_readField_113 : decode cX10_readField 113 = .ok (.iload_n 2, 1) := by decide +kernel
theorem dX10_readField_114 : decode cX10_readField 114 = .ok (.iaload, 1) := by decide +kernel
theorem dX10_readField_115 : decode cX10_readField 115 = .ok (.iconst (-1), 1) := by decide +kernel
theorem dX10_readField_116 : decode cX10_readField 116 = .ok (.if_icmp .eq 12, 3) := by decide +kernel
theorem dX10_readField_119 : decode cX10_readField 119 = .ok (.aload_n 0, 1) := by decide +kernel
theorem dX10_readField_120 : decode cX10_readField 120 = .ok (.bipush 58, 2) := by decide +kernel
theorem dX10_readField_122 : decode cX10_readField 122 = .ok (.invokevirtual 69, 3) := by decide +kernel
theorem dX10_readField_125 : decode cX10_readField 125 = .ok (.ifCond .ne 5, 3) := by decide +kernel
theorem dX10_readField_128 : decode cX10_readField 128 = .ok (.iconst 0, 1) := by decide +kernel
theorem dX10_readField_129 : decode cX10_readField 129 = .ok (.ireturn, 1) := by decide +kernel
theorem dX10_readField_130 : decode cX10_readField 130 = .ok (.aload_n 0, 1) := by decide +kernel
theorem dX10_readField_131 : decode cX10_readField 131 = .ok (.getfield 15, 3) := by decide +kernel
