theorem dX8_name_17 : decode cX8_name 17 = .ok (.iconst (-1), 1) := by decide +kernel
theorem dX8_name_18 : decode cX8_name 18 = .ok (.ireturn, 1) := by decide +kernel
theorem dX8_name_19 : decode cX8_name 19 = .ok (.aload_n 0, 1) := by decide +kernel
theorem dX8_name_20 : decode cX8_name 20 = .ok (.dup, 1) := by decide +kernel
theorem dX8_name_21 : decode cX8_name 21 = .ok (.getfield 32, 3) := by decide +kernel
theorem dX8_name_24 : decode cX8_name 24 = .ok (.iconst 1, 1) := by decide +kernel
theorem dX8_name_25 : decode cX8_name 25 = .ok (.iadd, 1) := by decide +kernel
theorem dX8_name_26 : decode cX8_name 26 = .ok (.putfield 32, 3) := by decide +kernel
theorem dX8_name_29 : decode cX8_name 29 = .ok (.iload_n 1, 1) := by decide +kernel
theorem dX8_name_30 : decode cX8_name 30 = .ok (.bipush 65, 2) := by decide +kernel
theorem dX8_name_32 : decode cX8_name 32 = .ok (.isub, 1) := by decide +kernel
theorem dX8_name_33 : decode cX8_name 33 = .ok (.ireturn, 1) := by decide +kernel
theorem dX8_next_0 : decode cX8_next 0 = .ok (.aload_n 0, 1) := by decide +kernel
theorem dX8_next_1 : decode cX8_next 1 = .ok (.getfield 32, 3) := by decide +kernel
theorem dX8_next_4 : decode cX8_next 4 = .ok (.aload_n 0, 1) := by decide +kernel
theorem dX8_next_5 : decode cX8_next 5 = .ok (.getfield 19, 3) := by decide +kernel
theorem dX8_next_8 : decode cX8_next 8 = .ok (.if_icmp .ge 15, 3) := by decide +kernel
theorem dX8_next_11 : decode cX8_next 11 = .ok (.aload_n 0, 1) := by decide +kernel
theorem dX8_next_12 : decode cX8_next 12 = .ok (.getfield 9, 3) := by decide +kernel
theorem dX8_next_15 : decode cX8_next 15 = .ok (.aload_n 0, 1) := by decide +kernel
theorem dX8_next_16 : decode cX8_next 16 = .ok (.getfield 32, 3) := by decide +kernel
theorem dX8_next_19 : decode cX8_next 19 = .ok (.caload, 1) := by decide +kernel
theorem dX8_next_20 : decode cX8_next 20 = .ok (.goto 4, 3) := by decide +kernel
theorem dX8_next_23 : decode cX8_next 23 = .ok (.iconst 0, 1) := by decide +kernel
theorem dX8_next_24 : decode cX8_next 24 = .ok (.ireturn, 1) := by decide +kernel
theorem dX8_number_0 : decode cX8_number 0 = .ok (.iconst 0, 1) := by decide +kernel
theorem dX8_number_1 : decode cX8_number 1 = .ok (.istore 4, 2) := by decide +kernel
theorem dX8_number_3 : decode cX8_number 3 = .ok (.iconst 0, 1) := by decide +kernel
theorem dX8_number_4 : decode cX8_number 4 = .ok (.istore 5, 2) := by decide +kernel
theorem dX8_number_6 : decode cX8_number 6 = .ok (.iconst 0, 1) := by decide +kernel
theorem dX8_number_7 : decode cX8_number 7 = .ok (.istore 6, 2) := by decide +kernel
theorem dX8_number_9 : decode cX8_number 9 = .ok (.iload 6, 2) := by decide +kernel
theorem dX8_number_11 : decode cX8_number 11 = .ok (.iload_n 3, 1) := by decide +kernel
theorem dX8_number_12 : decode cX8_number 12 = .ok (.if_icmp .ge 55, 3) := by decide +kernel
theorem dX8_number_15 : decode cX8_number 15 = .ok (.aload_n 0, 1) := by decide +kernel
theorem dX8_number_16 : decode cX8_number 16 = .ok (.invokevirtual 42, 3) := by decide +kernel
theorem dX8_number_19 : decode cX8_number 19 = .ok (.invokestatic 155, 3) := by decide +kernel
theorem dX8_number_22 : decode cX8_number 22 = .ok (.istore 7, 2) := by decide +kernel
theorem dX8_number_24 : decode cX8_number 24 = .ok (.iload 7, 2) := by decide +kernel
theorem dX8_number_26 : decode cX8_number 26 = .ok (.iconst (-1), 1) := by decide +kernel
theorem dX8_number_27 : decode cX8_number 27 = .ok (.if_icmp .eq 40, 3) := by decide +kernel
theorem dX8_number_30 : decode cX8_number 30 = .ok (.iload 7, 2) := by decide +kernel
theorem dX8_number_32 : decode cX8_number 32 = .ok (.iload_n 1, 1) := by decide +kernel
theorem dX8_number_33 : decode cX8_number 33 = .ok (.if_icmp .lt 6, 3) := by decide +kernel
theorem dX8_number_36 : decode cX8_number 36 = .ok (.goto 31, 3) := by decide +kernel
theorem dX8_number_39 : decode cX8_number 39 = .ok (.iload 4, 2) := by decide +kernel
theorem dX8_number_41 : decode cX8_number 41 = .ok (.iload_n 1, 1) := by decide +kernel
theorem dX8_number_42 : decode cX8_number 42 = .ok (.imul, 1) := by decide +kernel
theorem dX8_number_43 : decode cX8_number 43 = .ok (.iload 7, 2) := by decide +kernel
theorem dX8_number_45 : decode cX8_number 45 = .ok (.iadd, 1) := by decide +kernel
theorem dX8_number_46 : decode cX8_number 46 = .ok (.istore 4, 2) := by decide +kernel
theorem dX8_number_48 : decode cX8_number 48 = .ok (.iinc 5 1, 3) := by decide +kernel
theorem dX8_number_51 : decode cX8_number 51 = .ok (.aload_n 0, 1) := by decide +kernel
theorem dX8_number_52 : decode cX8_number 52 = .ok (.dup, 1) := by decide +kernel
theorem dX8_number_53 : decode cX8_number 53 = .ok (.getfield 32, 3) := by decide +kernel
theorem dX8_number_56 : decode cX8_number 56 = .ok (.iconst 1, 1) := by decide +kernel
theorem dX8_number_57 : decode cX8_number 57 = .ok (.iadd, 1) := by decide +kernel
theorem dX8_number_58 : decode cX8_number 58 = .ok (.putfield 32, 3) := by decide +kernel
theorem dX8_number_61 : decode cX8_number 61 = .ok (.iinc 6 1, 3) := by decide +kernel
theorem dX8_number_64 : decode cX8_number 64 = .ok (.goto (-55), 3) := by decide +kernel
theorem dX8_number_67 : decode cX8_number 67 = .ok (.iload 5, 2) := by decide +kernel
theorem dX8_number_69 : decode cX8_number 69 = .ok (.iload_n 2, 1) := by decide +kernel
theorem dX8_number_70 : decode cX8_number 70 = .ok (.if_icmp .ge 7, 3) := by decide +kernel
theorem dX8_number_73 : decode cX8_number 73 = .ok (.iconst (-1), 1) := by decide +kernel
theorem dX8_number_74 : decode cX8_number 74 = .ok (.goto 5, 3) := by decide +kernel
theorem dX8_number_77 : decode cX8_number 77 = .ok (.iload 4, 2) := by decide +kernel
theorem dX8_number_79 : decode cX8_number 79 = .ok (.ireturn, 1) := by decide +kernel
theorem dX8_numberBehindSign_0 : decode cX8_numberBehindSign 0 = .ok (.aload_n 0, 1) := by decide +kernel
theorem dX8_numberBehindSign_1 : decode cX8_numberBehindSign 1 = .ok (.bipush 61, 2) := by decide +kernel
theorem dX8_numberBehindSign_3 : decode cX8_numberBehindSign 3 = .ok (.invokevirtual 69, 3) := by decide +kernel
theorem dX8_numberBehindSign_6 : decode cX8_numberBehindSign 6 = .ok (.ifCond .eq 14, 3) := by decide +kernel
theorem dX8_numberBehindSign_9 : decode cX8_numberBehindSign 9 = .ok (.aload_n 0, 1) := by decide +kernel
theorem dX8_numberBehindSign_10 : decode cX8_numberBehindSign 10 = .ok (.bipush 16, 2) := by decide +kernel
theorem dX8_numberBehindSign_12 : decode cX8_numberBehindSign 12 = .ok (.iconst 1, 1) := by decide +kernel
theorem dX8_numberBehindSign_13 : decode cX8_numberBehindSign 13 = .ok (.iconst 4, 1) := by decide +kernel
theorem dX8_numberBehindSign_14 : decode cX8_numberBehindSign 14 = .ok (.invokevirtual 76, 3) := by decide +kernel
theorem dX8_numberBehindSign_17 : decode cX8_numberBehindSign 17 = .ok (.goto 4, 3) := by decide +kernel
theorem dX8_numberBehindSign_20 : decode cX8_numberBehindSign 20 = .ok (.iconst (-1), 1) := by decide +kernel
theorem dX8_numberBehindSign_21 : decode cX8_numberBehindSign 21 = .ok (.ireturn, 1) := by decide +kernel
theorem dX8_readAll_0 : decode cX8_readAll 0 = .ok (.aload_n 0, 1) := by decide +kernel
theorem dX8_readAll_1 : decode cX8_readAll 1 = .ok (.getfield 15, 3) := by decide +kernel
theorem dX8_readAll_4 : decode cX8_readAll 4 = .ok (.invokevirtual 27, 3) := by decide +kernel
theorem dX8_readAll_7 : decode cX8_readAll 7 = .ok (.aload_n 0, 1) := by decide +kernel
theorem dX8_readAll_8 : decode cX8_readAll 8 = .ok (.iconst 0, 1) := by decide +kernel
theorem dX8_readAll_9 : decode cX8_readAll 9 = .ok (.putfield 32, 3) := by decide +kernel
theorem dX8_readAll_12 : decode cX8_readAll 12 = .ok (.aload_n 0, 1) := by decide +kernel
theorem dX8_readAll_13 : decode cX8_readAll 13 = .ok (.invokevirtual 35, 3) := by decide +kernel
theorem dX8_readBank_0 : decode cX8_readBank 0 = .ok (.aload_n 0, 1) := by decide +kernel
theorem dX8_readBank_1 : decode cX8_readBank 1 = .ok (.getfield 15, 3) := by decide +kernel
theorem dX8_readBank_4 : decode cX8_readBank 4 = .ok (.getfield 86, 3) := by decide +kernel
theorem dX8_readBank_7 : decode cX8_readBank 7 = .ok (.iload_n 1, 1) := by decide +kernel
theorem dX8_readBank_8 : decode cX8_readBank 8 = .ok (.iconst (-1), 1) := by decide +kernel
theorem dX8_readBank_9 : decode cX8_readBank 9 = .ok (.iastore, 1) := by decide +kernel
theorem dX8_readBank_10 : decode cX8_readBank 10 = .ok (.aload_n 0, 1) := by decide +kernel
theorem dX8_readBank_11 : decode cX8_readBank 11 = .ok (.invokevirtual 42, 3) := by decide +kernel
theorem dX8_readBank_14 : decode cX8_readBank 14 = .ok (.bipush 63, 2) := by decide +kernel
theorem dX8_readBank_16 : decode cX8_readBank 16 = .ok (.if_icmp .eq 5, 3) := by decide +kernel
theorem dX8_readBank_19 : decode cX8_readBank 19 = .ok (.iconst 1, 1) := by decide +kernel
theorem dX8_readBank_20 : decode cX8_readBank 20 = .ok (.ireturn, 1) := by decide +kernel
theorem dX8_readBank_21 : decode cX8_readBank 21 = .ok (.aload_n 0, 1) := by decide +kernel
theorem dX8_readBank_22 : decode cX8_readBank 22 = .ok (.dup, 1) := by decide +kernel
theorem dX8_readBank_23 : decode cX8_readBank 23 = .ok (.getfield 32, 3) := by decide +kernel
theorem dX8_readBank_26 : decode cX8_readBank 26 = .ok (.iconst 1, 1) := by decide +kernel
theorem dX8_readBank_27 : decode cX8_readBank 27 = .ok (.iadd, 1) := by decide +kernel
theorem dX8_readBank_28 : decode cX8_readBank 28 = .ok (.putfield 32, 3) := by decide +kernel
theorem dX8_readBank_31 : decode cX8_readBank 31 = .ok (.aload_n 0, 1) := by decide +kernel
theorem dX8_readBank_32 : decode cX8_readBank 32 = .ok (.getfield 15, 3) := by decide +kernel
theorem dX8_readBank_35 : decode cX8_readBank 35 = .ok (.getfield 89, 3) := by decide +kernel
theorem dX8_readBank_38 : decode cX8_readBank 38 = .ok (.iload_n 1, 1) := by decide +kernel
theorem dX8_readBank_39 : decode cX8_readBank 39 = .ok (.aload_n 0, 1) := by decide +kernel
theorem dX8_readBank_40 : decode cX8_readBank 40 = .ok (.getfield 32, 3) := by decide +kernel
theorem dX8_readBank_43 : decode cX8_readBank 43 = .ok (.iastore, 1) := by decide +kernel
theorem dX8_readBank_44 : decode cX8_readBank 44 = .ok (.aload_n 0, 1) := by decide +kernel
theorem dX8_readBank_45 : decode cX8_readBank 45 = .ok (.getfield 15, 3) := by decide +kernel
theorem dX8_readBank_48 : decode cX8_readBank 48 = .ok (.getfield 86, 3) := by decide +kernel
theorem dX8_readBank_51 : decode cX8_readBank 51 = .ok (.iload_n 1, 1) := by decide +kernel
theorem dX8_readBank_52 : decode cX8_readBank 52 = .ok (.aload_n 0, 1) := by decide +kernel
theorem dX8_readBank_53 : decode cX8_readBank 53 = .ok (.invokevirtual 92, 3) := by decide +kernel
theorem dX8_readBank_56 : decode cX8_readBank 56 = .ok (.iastore, 1) := by decide +kernel
theorem dX8_readBank_57 : decode cX8_readBank 57 = .ok (.aload_n 0, 1) := by decide +kernel
theorem dX8_readBank_58 : decode cX8_readBank 58 = .ok (.getfield 15, 3) := by decide +kernel
theorem dX8_readBank_61 : decode cX8_readBank 61 = .ok (.getfield 86, 3) := by decide +kernel
theorem dX8_readBank_64 : decode cX8_readBank 64 = .ok (.iload_n 1, 1) := by decide +kernel
theorem dX8_readBank_65 : decode cX8_readBank 65 = .ok (.iaload, 1) := by decide +kernel
theorem dX8_readBank_66 : decode cX8_readBank 66 = .ok (.iconst (-1), 1) := by decide +kernel
theorem dX8_readBank_67 : decode cX8_readBank 67 = .ok (.if_icmp .eq 12, 3) := by decide +kernel
theorem dX8_readBank_70 : decode cX8_readBank 70 = .ok (.aload_n 0, 1) := by decide +kernel
theorem dX8_readBank_71 : decode cX8_readBank 71 = .ok (.bipush 61, 2) := by decide +kernel
theorem dX8_readBank_73 : decode cX8_readBank 73 = .ok (.invokevirtual 69, 3) := by decide +kernel
theorem dX8_readBank_76 : decode cX8_readBank 76 = .ok (.ifCond .ne 5, 3) := by decide +kernel
theorem dX8_readBank_79 : decode cX8_readBank 79 = .ok (.iconst 0, 1) := by decide +kernel
theorem dX8_readBank_80 : decode cX8_readBank 80 = .ok (.ireturn, 1) := by decide +kernel
theorem dX8_readBank_81 : decode cX8_readBank 81 = .ok (.aload_n 0, 1) := by decide +kernel
theorem dX8_readBank_82 : decode cX8_readBank 82 = .ok (.getfield 15, 3) := by decide +kernel
theorem dX8_readBank_85 : decode cX8_readBank 85 = .ok (.getfield 96, 3) := by decide +kernel
theorem dX8_readBank_88 : decode cX8_readBank 88 = .ok (.iload_n 1, 1) := by decide +kernel
theorem dX8_readBank_89 : decode cX8_readBank 89 = .ok (.aload_n 0, 1) := by decide +kernel
theorem dX8_readBank_90 : decode cX8_readBank 90 = .ok (.bipush 16, 2) := by decide +kernel
theorem dX8_readBank_92 : decode cX8_readBank 92 = .ok (.iconst 1, 1) := by decide +kernel
theorem dX8_readBank_93 : decode cX8_readBank 93 = .ok (.iconst 1, 1) := by decide +kernel
theorem dX8_readBank_94 : decode cX8_readBank 94 = .ok (.invokevirtual 76, 3) := by decide +kernel
theorem dX8_readBank_97 : decode cX8_readBank 97 = .ok (.iastore, 1) := by decide +kernel
theorem dX8_readBank_98 : decode cX8_readBank 98 = .ok (.aload_n 0, 1) := by decide +kernel
theorem dX8_readBank_99 : decode cX8_readBank 99 = .ok (.getfield 15, 3) := by decide +kernel
theorem dX8_readBank_102 : decode cX8_readBank 102 = .ok (.getfield 96, 3) := by decide +kernel
theorem dX8_readBank_105 : decode cX8_readBank 105 = .ok (.iload_n 1, 1) := by decide +kernel
theorem dX8_readBank_106 : decode cX8_readBank 106 = .ok (.iaload, 1) := by decide +kernel
theorem dX8_readBank_107 : decode cX8_readBank 107 = .ok (.iconst (-1), 1) := by decide +kernel
theorem dX8_readBank_108 : decode cX8_readBank 108 = .ok (.if_icmp .eq 7, 3) := by decide +kernel
theorem dX8_readBank_111 : decode cX8_readBank 111 = .ok (.iconst 1, 1) := by decide +kernel
theorem dX8_readBank_112 : decode cX8_readBank 112 = .ok (.goto 4, 3) := by decide +kernel
theorem dX8_readBank_115 : decode cX8_readBank 115 = .ok (.iconst 0, 1) := by decide +kernel
theorem dX8_readBank_116 : decode cX8_readBank 116 = .ok (.ireturn, 1) := by decide +kernel
theorem dX8_readField_0 : decode cX8_readField 0 = .ok (.aload_n 0, 1) := by decide +kernel
theorem dX8_readField_1 : decode cX8_readField 1 = .ok (.getfield 15, 3) := by decide +kernel
theorem dX8_readField_4 : decode cX8_readField 4 = .ok (.getfield 99, 3) := by decide +kernel
theorem dX8_readField_7 : decode cX8_readField 7 = .ok (.istore_n 2, 1) := by decide +kernel
theorem dX8_readField_8 : decode cX8_readField 8 = .ok (.aload_n 0, 1) := by decide +kernel
theorem dX8_readField_9 : decode cX8_readField 9 = .ok (.getfield 15, 3) := by decide +kernel
theorem dX8_readField_12 : decode cX8_readField 12 = .ok (.getfield 102, 3) := by decide +kernel
theorem dX8_readField_15 : decode cX8_readField 15 = .ok (.iload_n 2, 1) := by decide +kernel
theorem dX8_readField_16 : decode cX8_readField 16 = .ok (.iload_n 1, 1) := by decide +kernel
theorem dX8_readField_17 : decode cX8_readField 17 = .ok (.iastore, 1) := by decide +kernel
theorem dX8_readField_18 : decode cX8_readField 18 = .ok (.aload_n 0, 1) := by decide +kernel
theorem dX8_readField_19 : decode cX8_readField 19 = .ok (.getfield 15, 3) := by decide +kernel
theorem dX8_readField_22 : decode cX8_readField 22 = .ok (.getfield 105, 3) := by decide +kernel
theorem dX8_readField_25 : decode cX8_readField 25 = .ok (.iload_n 2, 1) := by decide +kernel
theorem dX8_readField_26 : decode cX8_readField 26 = .ok (.aload_n 0, 1) := by decide +kernel
theorem dX8_readField_27 : decode cX8_readField 27 = .ok (.getfield 32, 3) := by decide +kernel
theorem dX8_readField_30 : decode cX8_readField 30 = .ok (.iastore, 1) := by decide +kernel
theorem dX8_readField_31 : decode cX8_readField 31 = .ok (.aload_n 0, 1) := by decide +kernel
theorem dX8_readField_32 : decode cX8_readField 32 = .ok (.getfield 15, 3) := by decide +kernel
theorem dX8_readField_35 : decode cX8_readField 35 = .ok (.getfield 108, 3) := by decide +kernel
theorem dX8_readField_38 : decode cX8_readField 38 = .ok (.iload_n 2, 1) := by decide +kernel
theorem dX8_readField_39 : decode cX8_readField 39 = .ok (.aload_n 0, 1) := by decide +kernel
theorem dX8_readField_40 : decode cX8_readField 40 = .ok (.invokevirtual 92, 3) := by decide +kernel
theorem dX8_readField_43 : decode cX8_readField 43 = .ok (.iastore, 1) := by decide +kernel
theorem dX8_readField_44 : decode cX8_readField 44 = .ok (.aload_n 0, 1) := by decide +kernel
theorem dX8_readField_45 : decode cX8_readField 45 = .ok (.getfield 15, 3) := by decide +kernel
theorem dX8_readField_48 : decode cX8_readField 48 = .ok (.getfield 108, 3) := by decide +kernel
theorem dX8_readField_51 : decode cX8_readField 51 = .ok (.iload_n 2, 1) := by decide +kernel
theorem dX8_readField_52 : decode cX8_readField 52 = .ok (.iaload, 1) := by decide +kernel
theorem dX8_readField_53 : decode cX8_readField 53 = .ok (.iconst (-1), 1) := by decide +kernel
theorem dX8_readField_54 : decode cX8_readField 54 = .ok (.if_icmp .ne 5, 3) := by decide +kernel
theorem dX8_readField_59 : decode cX8_readField 59 = .ok (.aload_n 0, 1) := by decide +kernel
theorem dX8_readField_60 : decode cX8_readField 60 = .ok (.getfield 15, 3) := by decide +kernel
theorem dX8_readField_63 : decode cX8_readField 63 = .ok (.getfield 110, 3) := by decide +kernel
theorem dX8_readField_66 : decode cX8_readField 66 = .ok (.iload_n 2, 1) := by decide +kernel
theorem dX8_readField_67 : decode cX8_readField 67 = .ok (.aload_n 0, 1) := by decide +kernel
theorem dX8_readField_68 : decode cX8_readField 68 = .ok (.ldc 113, 2) := by decide +kernel
theorem dX8_readRegister_0 : decode cX8_readRegister 0 = .ok (.aload_n 0, 1) := by decide +kernel
theorem dX8_readRegister_1 : decode cX8_readRegister 1 = .ok (.getfield 15, 3) := by decide +kernel
theorem dX8_readRegister_4 : decode cX8_readRegister 4 = .ok (.getfield 65, 3) := by decide +kernel
theorem dX8_readRegister_7 : decode cX8_readRegister 7 = .ok (.iload_n 1, 1) := by decide +kernel
theorem dX8_readRegister_8 : decode cX8_readRegister 8 = .ok (.aload_n 0, 1) := by decide +kernel
theorem dX8_readRegister_9 : decode cX8_readRegister 9 = .ok (.getfield 32, 3) := by decide +kernel
theorem dX8_readRegister_12 : decode cX8_readRegister 12 = .ok (.iastore, 1) := by decide +kernel
theorem dX8_readRegister_13 : decode cX8_readRegister 13 = .ok (.aload_n 0, 1) := by decide +kernel
theorem dX8_readRegister_14 : decode cX8_readRegister 14 = .ok (.bipush 64, 2) := by decide +kernel
theorem dX8_readRegister_16 : decode cX8_readRegister 16 = .ok (.invokevirtual 69, 3) := by decide +kernel
theorem dX8_readRegister_19 : decode cX8_readRegister 19 = .ok (.ifCond .ne 5, 3) := by decide +kernel
theorem dX8_readRegister_24 : decode cX8_readRegister 24 = .ok (.aload_n 0, 1) := by decide +kernel
theorem dX8_readRegister_25 : decode cX8_readRegister 25 = .ok (.getfield 15, 3) := by decide +kernel
theorem dX8_readRegister_28 : decode cX8_readRegister 28 = .ok (.getfield 73, 3) := by decide +kernel
theorem dX8_readRegister_31 : decode cX8_readRegister 31 = .ok (.iload_n 1, 1) := by decide +kernel
theorem dX8_readRegister_32 : decode cX8_readRegister 32 = .ok (.aload_n 0, 1) := by decide +kernel
theorem dX8_readRegister_33 : decode cX8_readRegister 33 = .ok (.bipush 16, 2) := by decide +kernel
theorem dX8_readRegister_35 : decode cX8_readRegister 35 = .ok (.iconst 2, 1) := by decide +kernel
theorem dX8_readRegister_36 : decode cX8_readRegister 36 = .ok (.iconst 2, 1) := by decide +kernel
theorem dX8_readRegister_37 : decode cX8_readRegister 37 = .ok (.invokevirtual 76, 3) := by decide +kernel
theorem dX8_readRegister_40 : decode cX8_readRegister 40 = .ok (.iastore, 1) := by decide +kernel
theorem dX8_readRegister_41 : decode cX8_readRegister 41 = .ok (.aload_n 0, 1) := by decide +kernel
theorem dX8_readRegister_42 : decode cX8_readRegister 42 = .ok (.getfield 15, 3) := by decide +kernel
theorem dX8_readRegister_45 : decode cX8_readRegister 45 = .ok (.getfield 73, 3) := by decide +kernel
theorem dX8_readRegister_48 : decode cX8_readRegister 48 = .ok (.iload_n 1, 1) := by decide +kernel
theorem dX8_readRegister_49 : decode cX8_readRegister 49 = .ok (.iaload, 1) := by decide +kernel
theorem dX8_readRegister_50 : decode cX8_readRegister 50 = .ok (.iconst (-1), 1) := by decide +kernel
theorem dX8_readRegister_51 : decode cX8_readRegister 51 = .ok (.if_icmp .eq 20, 3) := by decide +kernel
theorem dX8_readRegister_54 : decode cX8_readRegister 54 = .ok (.aload_n 0, 1) := by decide +kernel
theorem dX8_readRegister_55 : decode cX8_readRegister 55 = .ok (.iload_n 1, 1) := by decide +kernel
theorem dX8_readRegister_56 : decode cX8_readRegister 56 = .ok (.invokevirtual 80, 3) := by decide +kernel
theorem dX8_readRegister_59 : decode cX8_readRegister 59 = .ok (.ifCond .eq 12, 3) := by decide +kernel
theorem dX8_readRegister_62 : decode cX8_readRegister 62 = .ok (.aload_n 0, 1) := by decide +kernel
theorem dX8_readRegister_63 : decode cX8_readRegister 63 = .ok (.bipush 123, 2) := by decide +kernel
theorem dX8_readRegister_65 : decode cX8_readRegister 65 = .ok (.invokevirtual 69, 3) := by decide +kernel
theorem dX8_readRegister_68 : decode cX8_readRegister 68 = .ok (.ifCond .ne 5, 3) := by decide +kernel
theorem dX8_readRegister_71 : decode cX8_readRegister 71 = .ok (.iconst 0, 1) := by decide +kernel
theorem dX8_readRegister_72 : decode cX8_readRegister 72 = .ok (.ireturn, 1) := by decide +kernel
theorem dX8_readRegister_73 : decode cX8_readRegister 73 = .ok (.iconst 0, 1) := by decide +kernel
theorem dX8_readRegister_74 : decode cX8_readRegister 74 = .ok (.istore_n 2, 1) := by decide +kernel
theorem dX8_readRegister_75 : decode cX8_readRegister 75 = .ok (.iload_n 2, 1) := by decide +kernel
theorem dX8_readRegister_76 : decode cX8_readRegister 76 = .ok (.bipush 8, 2) := by decide +kernel
theorem dX8_readRegister_78 : decode cX8_readRegister 78 = .ok (.if_icmp .ge 35, 3) := by decide +kernel
theorem dX8_readRegister_81 : decode cX8_readRegister 81 = .ok (.iload_n 2, 1) := by decide +kernel
theorem dX8_readRegister_82 : decode cX8_readRegister 82 = .ok (.ifCond .le 15, 3) := by decide +kernel
theorem dX8_readRegister_97 : decode cX8_readRegister 97 = .ok (.aload_n 0, 1) := by decide +kernel
theorem dX8_readRegister_98 : decode cX8_readRegister 98 = .ok (.iload_n 1, 1) := by decide +kernel
theorem dX8_readRegister_99 : decode cX8_readRegister 99 = .ok (.invokevirtual 83, 3) := by decide +kernel
theorem dX8_readRegister_113 : decode cX8_readRegister 113 = .ok (.aload_n 0, 1) := by decide +kernel
theorem dX8_readRegister_114 : decode cX8_readRegister 114 = .ok (.bipush 125, 2) := by decide +kernel
theorem dX8_readRegister_116 : decode cX8_readRegister 116 = .ok (.invokevirtual 69, 3) := by decide +kernel
theorem dX8_readRegister_119 : decode cX8_readRegister 119 = .ok (.ireturn, 1) := by decide +kernel
theorem dX8_readRegisters_0 : decode cX8_readRegisters 0 = .ok (.iconst 0, 1) := by decide +kernel
theorem dX8_readRegisters_1 : decode cX8_readRegisters 1 = .ok (.istore_n 1, 1) := by decide +kernel
theorem dX8_readRegisters_2 : decode cX8_readRegisters 2 = .ok (.iload_n 1, 1) := by decide +kernel
theorem dX8_readRegisters_3 : decode cX8_readRegisters 3 = .ok (.bipush 16, 2) := by decide +kernel
theorem dX8_readRegisters_5 : decode cX8_readRegisters 5 = .ok (.if_icmp .ge 45, 3) := by decide +kernel
theorem dX8_readRegisters_8 : decode cX8_readRegisters 8 = .ok (.iload_n 1, 1) := by decide +kernel
theorem dX8_readRegisters_9 : decode cX8_readRegisters 9 = .ok (.ifCond .le 15, 3) := by decide +kernel
theorem dX8_readRegisters_24 : decode cX8_readRegisters 24 = .ok (.aload_n 0, 1) := by decide +kernel
theorem dX8_readRegisters_25 : decode cX8_readRegisters 25 = .ok (.iload_n 1, 1) := by decide +kernel
theorem dX8_readRegisters_26 : decode cX8_readRegisters 26 = .ok (.invokevirtual 46, 3) := by decide +kernel
theorem dX8_readRegisters_50 : decode cX8_readRegisters 50 = .ok (.iconst 1, 1) := by decide +kernel
theorem dX8_readRegisters_51 : decode cX8_readRegisters 51 = .ok (.ireturn, 1) := by decide +kernel
theorem dX8_readRule_0 : decode cX8_readRule 0 = .ok (.aload_n 0, 1) := by decide +kernel
theorem dX8_readRule_1 : decode cX8_readRule 1 = .ok (.getfield 15, 3) := by decide +kernel
theorem dX8_readRule_4 : decode cX8_readRule 4 = .ok (.getfield 56, 3) := by decide +kernel
theorem dX8_readRule_7 : decode cX8_readRule 7 = .ok (.astore_n 2, 1) := by decide +kernel
theorem dX8_readRule_8 : decode cX8_readRule 8 = .ok (.aload_n 2, 1) := by decide +kernel
theorem dX8_readRule_9 : decode cX8_readRule 9 = .ok (.getfield 131, 3) := by decide +kernel
