theorem dX12_drop_9 : decode cX12_drop 9 = .ok (.istore_n 1, 1) := by decide +kernel
theorem dX12_drop_10 : decode cX12_drop 10 = .ok (.aload_n 0, 1) := by decide +kernel
theorem dX12_drop_11 : decode cX12_drop 11 = .ok (.iconst 0, 1) := by decide +kernel
theorem dX12_drop_12 : decode cX12_drop 12 = .ok (.putfield 288, 3) := by decide +kernel
theorem dX12_drop_15 : decode cX12_drop 15 = .ok (.iload_n 1, 1) := by decide +kernel
theorem dX12_drop_16 : decode cX12_drop 16 = .ok (.ireturn, 1) := by decide +kernel
theorem dX12_end_0 : decode cX12_end 0 = .ok (.aload_n 0, 1) := by decide +kernel
theorem dX12_end_1 : decode cX12_end 1 = .ok (.getfield 337, 3) := by decide +kernel
theorem dX12_end_4 : decode cX12_end 4 = .ok (.ifCond .ne 13, 3) := by decide +kernel
theorem dX12_end_7 : decode cX12_end 7 = .ok (.aload_n 0, 1) := by decide +kernel
theorem dX12_end_8 : decode cX12_end 8 = .ok (.getfield 282, 3) := by decide +kernel
theorem dX12_end_11 : decode cX12_end 11 = .ok (.aload_n 0, 1) := by decide +kernel
theorem dX12_end_12 : decode cX12_end 12 = .ok (.getfield 363, 3) := by decide +kernel
theorem dX12_end_15 : decode cX12_end 15 = .ok (.isub, 1) := by decide +kernel
theorem dX12_end_16 : decode cX12_end 16 = .ok (.ireturn, 1) := by decide +kernel
theorem dX12_end_17 : decode cX12_end 17 = .ok (.aload_n 0, 1) := by decide +kernel
theorem dX12_end_18 : decode cX12_end 18 = .ok (.iconst 1, 1) := by decide +kernel
theorem dX12_end_19 : decode cX12_end 19 = .ok (.iconst 0, 1) := by decide +kernel
theorem dX12_end_20 : decode cX12_end 20 = .ok (.invokevirtual 360, 3) := by decide +kernel
theorem dX12_end_23 : decode cX12_end 23 = .ok (.aload_n 0, 1) := by decide +kernel
theorem dX12_end_24 : decode cX12_end 24 = .ok (.aload_n 0, 1) := by decide +kernel
theorem dX12_end_25 : decode cX12_end 25 = .ok (.getfield 363, 3) := by decide +kernel
theorem dX12_end_28 : decode cX12_end 28 = .ok (.putfield 282, 3) := by decide +kernel
theorem dX12_end_31 : decode cX12_end 31 = .ok (.iconst 0, 1) := by decide +kernel
theorem dX12_end_32 : decode cX12_end 32 = .ok (.istore_n 1, 1) := by decide +kernel
theorem dX12_end_33 : decode cX12_end 33 = .ok (.iload_n 1, 1) := by decide +kernel
theorem dX12_end_34 : decode cX12_end 34 = .ok (.bipush 64, 2) := by decide +kernel
theorem dX12_end_36 : decode cX12_end 36 = .ok (.if_icmp .ge 45, 3) := by decide +kernel
theorem dX12_end_39 : decode cX12_end 39 = .ok (.aload_n 0, 1) := by decide +kernel
theorem dX12_end_40 : decode cX12_end 40 = .ok (.getfield 119, 3) := by decide +kernel
theorem dX12_end_43 : decode cX12_end 43 = .ok (.iload_n 1, 1) := by decide +kernel
theorem dX12_end_44 : decode cX12_end 44 = .ok (.aload_n 0, 1) := by decide +kernel
theorem dX12_end_45 : decode cX12_end 45 = .ok (.getfield 152, 3) := by decide +kernel
theorem dX12_end_48 : decode cX12_end 48 = .ok (.iload_n 1, 1) := by decide +kernel
theorem dX12_end_49 : decode cX12_end 49 = .ok (.iaload, 1) := by decide +kernel
theorem dX12_end_50 : decode cX12_end 50 = .ok (.iastore, 1) := by decide +kernel
theorem dX12_end_51 : decode cX12_end 51 = .ok (.aload_n 0, 1) := by decide +kernel
theorem dX12_end_52 : decode cX12_end 52 = .ok (.getfield 122, 3) := by decide +kernel
theorem dX12_end_55 : decode cX12_end 55 = .ok (.iload_n 1, 1) := by decide +kernel
theorem dX12_end_56 : decode cX12_end 56 = .ok (.aload_n 0, 1) := by decide +kernel
theorem dX12_end_57 : decode cX12_end 57 = .ok (.getfield 155, 3) := by decide +kernel
theorem dX12_end_60 : decode cX12_end 60 = .ok (.iload_n 1, 1) := by decide +kernel
theorem dX12_end_61 : decode cX12_end 61 = .ok (.iaload, 1) := by decide +kernel
theorem dX12_end_62 : decode cX12_end 62 = .ok (.iastore, 1) := by decide +kernel
theorem dX12_end_63 : decode cX12_end 63 = .ok (.aload_n 0, 1) := by decide +kernel
theorem dX12_end_64 : decode cX12_end 64 = .ok (.getfield 125, 3) := by decide +kernel
theorem dX12_end_67 : decode cX12_end 67 = .ok (.iload_n 1, 1) := by decide +kernel
theorem dX12_end_68 : decode cX12_end 68 = .ok (.aload_n 0, 1) := by decide +kernel
theorem dX12_end_69 : decode cX12_end 69 = .ok (.getfield 158, 3) := by decide +kernel
theorem dX12_end_72 : decode cX12_end 72 = .ok (.iload_n 1, 1) := by decide +kernel
theorem dX12_end_73 : decode cX12_end 73 = .ok (.iaload, 1) := by decide +kernel
theorem dX12_end_74 : decode cX12_end 74 = .ok (.iastore, 1) := by decide +kernel
theorem dX12_end_75 : decode cX12_end 75 = .ok (.iinc 1 1, 3) := by decide +kernel
theorem dX12_end_78 : decode cX12_end 78 = .ok (.goto (-45), 3) := by decide +kernel
theorem dX12_end_81 : decode cX12_end 81 = .ok (.bipush (-2), 2) := by decide +kernel
theorem dX12_end_83 : decode cX12_end 83 = .ok (.ireturn, 1) := by decide +kernel
theorem dX12_erase_0 : decode cX12_erase 0 = .ok (.aload_n 0, 1) := by decide +kernel
theorem dX12_erase_1 : decode cX12_erase 1 = .ok (.iconst 0, 1) := by decide +kernel
theorem dX12_erase_2 : decode cX12_erase 2 = .ok (.putfield 161, 3) := by decide +kernel
theorem dX12_erase_5 : decode cX12_erase 5 = .ok (.aload_n 0, 1) := by decide +kernel
theorem dX12_erase_6 : decode cX12_erase 6 = .ok (.getfield 267, 3) := by decide +kernel
theorem dX12_erase_9 : decode cX12_erase 9 = .ok (.istore_n 1, 1) := by decide +kernel
theorem dX12_erase_10 : decode cX12_erase 10 = .ok (.aload_n 0, 1) := by decide +kernel
theorem dX12_erase_11 : decode cX12_erase 11 = .ok (.iconst 0, 1) := by decide +kernel
theorem dX12_erase_12 : decode cX12_erase 12 = .ok (.putfield 267, 3) := by decide +kernel
theorem dX12_erase_15 : decode cX12_erase 15 = .ok (.iload_n 1, 1) := by decide +kernel
theorem dX12_erase_16 : decode cX12_erase 16 = .ok (.ireturn, 1) := by decide +kernel
theorem dX12_fault_0 : decode cX12_fault 0 = .ok (.aload_n 0, 1) := by decide +kernel
theorem dX12_fault_1 : decode cX12_fault 1 = .ok (.iconst 0, 1) := by decide +kernel
theorem dX12_fault_2 : decode cX12_fault 2 = .ok (.putfield 161, 3) := by decide +kernel
theorem dX12_fault_5 : decode cX12_fault 5 = .ok (.iload_n 1, 1) := by decide +kernel
theorem dX12_fault_6 : decode cX12_fault 6 = .ok (.ifCond .ne 10, 3) := by decide +kernel
theorem dX12_fault_9 : decode cX12_fault 9 = .ok (.aload_n 0, 1) := by decide +kernel
theorem dX12_fault_10 : decode cX12_fault 10 = .ok (.getfield 173, 3) := by decide +kernel
theorem dX12_fault_13 : decode cX12_fault 13 = .ok (.goto 16, 3) := by decide +kernel
theorem dX12_fault_16 : decode cX12_fault 16 = .ok (.iload_n 1, 1) := by decide +kernel
theorem dX12_fault_17 : decode cX12_fault 17 = .ok (.iconst 1, 1) := by decide +kernel
theorem dX12_fault_18 : decode cX12_fault 18 = .ok (.if_icmp .ne 10, 3) := by decide +kernel
theorem dX12_fault_21 : decode cX12_fault 21 = .ok (.aload_n 0, 1) := by decide +kernel
theorem dX12_fault_22 : decode cX12_fault 22 = .ok (.getfield 176, 3) := by decide +kernel
theorem dX12_fault_25 : decode cX12_fault 25 = .ok (.goto 4, 3) := by decide +kernel
theorem dX12_fault_28 : decode cX12_fault 28 = .ok (.iconst (-1), 1) := by decide +kernel
theorem dX12_fault_29 : decode cX12_fault 29 = .ok (.ireturn, 1) := by decide +kernel
theorem dX12_fetch_0 : decode cX12_fetch 0 = .ok (.aload_n 0, 1) := by decide +kernel
theorem dX12_fetch_1 : decode cX12_fetch 1 = .ok (.iload_n 1, 1) := by decide +kernel
theorem dX12_fetch_2 : decode cX12_fetch 2 = .ok (.invokevirtual 378, 3) := by decide +kernel
theorem dX12_fetch_5 : decode cX12_fetch 5 = .ok (.ifCond .ne 9, 3) := by decide +kernel
theorem dX12_fetch_8 : decode cX12_fetch 8 = .ok (.aload_n 0, 1) := by decide +kernel
theorem dX12_fetch_9 : decode cX12_fetch 9 = .ok (.iconst 1, 1) := by decide +kernel
theorem dX12_fetch_10 : decode cX12_fetch 10 = .ok (.invokevirtual 254, 3) := by decide +kernel
theorem dX12_fetch_13 : decode cX12_fetch 13 = .ok (.ireturn, 1) := by decide +kernel
theorem dX12_fetch_14 : decode cX12_fetch 14 = .ok (.aload_n 0, 1) := by decide +kernel
theorem dX12_fetch_15 : decode cX12_fetch 15 = .ok (.getfield 288, 3) := by decide +kernel
theorem dX12_fetch_18 : decode cX12_fetch 18 = .ok (.ifCond .le 9, 3) := by decide +kernel
theorem dX12_fetch_21 : decode cX12_fetch 21 = .ok (.aload_n 0, 1) := by decide +kernel
theorem dX12_fetch_22 : decode cX12_fetch 22 = .ok (.iconst 2, 1) := by decide +kernel
theorem dX12_fetch_23 : decode cX12_fetch 23 = .ok (.invokevirtual 254, 3) := by decide +kernel
theorem dX12_fetch_26 : decode cX12_fetch 26 = .ok (.ireturn, 1) := by decide +kernel
theorem dX12_fetch_27 : decode cX12_fetch 27 = .ok (.aload_n 0, 1) := by decide +kernel
theorem dX12_fetch_28 : decode cX12_fetch 28 = .ok (.invokevirtual 369, 3) := by decide +kernel
theorem dX12_fetch_31 : decode cX12_fetch 31 = .ok (.aload_n 0, 1) := by decide +kernel
theorem dX12_fetch_32 : decode cX12_fetch 32 = .ok (.iload_n 1, 1) := by decide +kernel
theorem dX12_fetch_33 : decode cX12_fetch 33 = .ok (.invokevirtual 381, 3) := by decide +kernel
theorem dX12_fetch_36 : decode cX12_fetch 36 = .ok (.aload_n 0, 1) := by decide +kernel
theorem dX12_fetch_37 : decode cX12_fetch 37 = .ok (.aload_n 0, 1) := by decide +kernel
theorem dX12_fetch_38 : decode cX12_fetch 38 = .ok (.invokevirtual 375, 3) := by decide +kernel
theorem dX12_fetch_41 : decode cX12_fetch 41 = .ok (.bipush (-2), 2) := by decide +kernel
theorem dX12_fetch_43 : decode cX12_fetch 43 = .ok (.if_icmp .ne 7, 3) := by decide +kernel
theorem dX12_fetch_46 : decode cX12_fetch 46 = .ok (.iconst 2, 1) := by decide +kernel
theorem dX12_fetch_47 : decode cX12_fetch 47 = .ok (.goto 4, 3) := by decide +kernel
theorem dX12_fetch_50 : decode cX12_fetch 50 = .ok (.iconst 0, 1) := by decide +kernel
theorem dX12_fetch_51 : decode cX12_fetch 51 = .ok (.putfield 161, 3) := by decide +kernel
theorem dX12_fetch_54 : decode cX12_fetch 54 = .ok (.aload_n 0, 1) := by decide +kernel
theorem dX12_fetch_55 : decode cX12_fetch 55 = .ok (.getfield 161, 3) := by decide +kernel
theorem dX12_fetch_58 : decode cX12_fetch 58 = .ok (.ifCond .ne 10, 3) := by decide +kernel
theorem dX12_fetch_61 : decode cX12_fetch 61 = .ok (.aload_n 0, 1) := by decide +kernel
theorem dX12_fetch_62 : decode cX12_fetch 62 = .ok (.getfield 357, 3) := by decide +kernel
theorem dX12_fetch_65 : decode cX12_fetch 65 = .ok (.goto 4, 3) := by decide +kernel
theorem dX12_fetch_68 : decode cX12_fetch 68 = .ok (.iconst 0, 1) := by decide +kernel
theorem dX12_fetch_69 : decode cX12_fetch 69 = .ok (.ireturn, 1) := by decide +kernel
theorem dX12_field_0 : decode cX12_field 0 = .ok (.aload_n 0, 1) := by decide +kernel
theorem dX12_field_1 : decode cX12_field 1 = .ok (.iconst 0, 1) := by decide +kernel
theorem dX12_field_2 : decode cX12_field 2 = .ok (.putfield 161, 3) := by decide +kernel
theorem dX12_field_5 : decode cX12_field 5 = .ok (.aload_n 0, 1) := by decide +kernel
theorem dX12_field_6 : decode cX12_field 6 = .ok (.iload_n 1, 1) := by decide +kernel
theorem dX12_field_7 : decode cX12_field 7 = .ok (.invokevirtual 317, 3) := by decide +kernel
theorem dX12_field_10 : decode cX12_field 10 = .ok (.ifCond .eq 12, 3) := by decide +kernel
theorem dX12_field_13 : decode cX12_field 13 = .ok (.iload_n 2, 1) := by decide +kernel
theorem dX12_field_14 : decode cX12_field 14 = .ok (.ifCond .lt 8, 3) := by decide +kernel
theorem dX12_field_17 : decode cX12_field 17 = .ok (.iload_n 2, 1) := by decide +kernel
theorem dX12_field_18 : decode cX12_field 18 = .ok (.iconst 4, 1) := by decide +kernel
theorem dX12_field_19 : decode cX12_field 19 = .ok (.if_icmp .le 5, 3) := by decide +kernel
theorem dX12_field_22 : decode cX12_field 22 = .ok (.iconst (-1), 1) := by decide +kernel
theorem dX12_field_23 : decode cX12_field 23 = .ok (.ireturn, 1) := by decide +kernel
theorem dX12_field_24 : decode cX12_field 24 = .ok (.iload_n 2, 1) := by decide +kernel
theorem dX12_field_25 : decode cX12_field 25 = .ok (.ifCond .ne 12, 3) := by decide +kernel
theorem dX12_field_28 : decode cX12_field 28 = .ok (.aload_n 0, 1) := by decide +kernel
theorem dX12_field_29 : decode cX12_field 29 = .ok (.getfield 83, 3) := by decide +kernel
theorem dX12_field_32 : decode cX12_field 32 = .ok (.iload_n 1, 1) := by decide +kernel
theorem dX12_field_33 : decode cX12_field 33 = .ok (.iaload, 1) := by decide +kernel
theorem dX12_field_34 : decode cX12_field 34 = .ok (.goto 51, 3) := by decide +kernel
theorem dX12_field_37 : decode cX12_field 37 = .ok (.iload_n 2, 1) := by decide +kernel
theorem dX12_field_38 : decode cX12_field 38 = .ok (.iconst 1, 1) := by decide +kernel
theorem dX12_field_39 : decode cX12_field 39 = .ok (.if_icmp .ne 12, 3) := by decide +kernel
theorem dX12_field_42 : decode cX12_field 42 = .ok (.aload_n 0, 1) := by decide +kernel
theorem dX12_field_43 : decode cX12_field 43 = .ok (.getfield 86, 3) := by decide +kernel
theorem dX12_field_46 : decode cX12_field 46 = .ok (.iload_n 1, 1) := by decide +kernel
theorem dX12_field_47 : decode cX12_field 47 = .ok (.iaload, 1) := by decide +kernel
theorem dX12_field_48 : decode cX12_field 48 = .ok (.goto 37, 3) := by decide +kernel
theorem dX12_field_51 : decode cX12_field 51 = .ok (.iload_n 2, 1) := by decide +kernel
theorem dX12_field_52 : decode cX12_field 52 = .ok (.iconst 2, 1) := by decide +kernel
theorem dX12_field_53 : decode cX12_field 53 = .ok (.if_icmp .ne 12, 3) := by decide +kernel
theorem dX12_field_56 : decode cX12_field 56 = .ok (.aload_n 0, 1) := by decide +kernel
theorem dX12_field_57 : decode cX12_field 57 = .ok (.getfield 89, 3) := by decide +kernel
theorem dX12_field_60 : decode cX12_field 60 = .ok (.iload_n 1, 1) := by decide +kernel
theorem dX12_field_61 : decode cX12_field 61 = .ok (.iaload, 1) := by decide +kernel
theorem dX12_field_62 : decode cX12_field 62 = .ok (.goto 23, 3) := by decide +kernel
theorem dX12_field_65 : decode cX12_field 65 = .ok (.iload_n 2, 1) := by decide +kernel
theorem dX12_field_66 : decode cX12_field 66 = .ok (.iconst 3, 1) := by decide +kernel
theorem dX12_field_67 : decode cX12_field 67 = .ok (.if_icmp .ne 12, 3) := by decide +kernel
theorem dX12_field_70 : decode cX12_field 70 = .ok (.aload_n 0, 1) := by decide +kernel
theorem dX12_field_71 : decode cX12_field 71 = .ok (.getfield 107, 3) := by decide +kernel
theorem dX12_field_74 : decode cX12_field 74 = .ok (.iload_n 1, 1) := by decide +kernel
theorem dX12_field_75 : decode cX12_field 75 = .ok (.iaload, 1) := by decide +kernel
theorem dX12_field_76 : decode cX12_field 76 = .ok (.goto 9, 3) := by decide +kernel
theorem dX12_field_79 : decode cX12_field 79 = .ok (.aload_n 0, 1) := by decide +kernel
theorem dX12_field_80 : decode cX12_field 80 = .ok (.getfield 113, 3) := by decide +kernel
theorem dX12_field_83 : decode cX12_field 83 = .ok (.iload_n 1, 1) := by decide +kernel
theorem dX12_field_84 : decode cX12_field 84 = .ok (.iaload, 1) := by decide +kernel
theorem dX12_field_85 : decode cX12_field 85 = .ok (.ireturn, 1) := by decide +kernel
theorem dX12_fieldsRight_0 : decode cX12_fieldsRight 0 = .ok (.iconst 0, 1) := by decide +kernel
theorem dX12_fieldsRight_1 : decode cX12_fieldsRight 1 = .ok (.istore_n 1, 1) := by decide +kernel
theorem dX12_fieldsRight_2 : decode cX12_fieldsRight 2 = .ok (.iload_n 1, 1) := by decide +kernel
theorem dX12_fieldsRight_3 : decode cX12_fieldsRight 3 = .ok (.aload_n 0, 1) := by decide +kernel
theorem dX12_fieldsRight_4 : decode cX12_fieldsRight 4 = .ok (.getfield 198, 3) := by decide +kernel
theorem dX12_fieldsRight_7 : decode cX12_fieldsRight 7 = .ok (.if_icmp .ge 164, 3) := by decide +kernel
theorem dX12_fieldsRight_10 : decode cX12_fieldsRight 10 = .ok (.aload_n 0, 1) := by decide +kernel
theorem dX12_fieldsRight_11 : decode cX12_fieldsRight 11 = .ok (.aload_n 0, 1) := by decide +kernel
theorem dX12_fieldsRight_12 : decode cX12_fieldsRight 12 = .ok (.getfield 28, 3) := by decide +kernel
theorem dX12_fieldsRight_15 : decode cX12_fieldsRight 15 = .ok (.iload_n 1, 1) := by decide +kernel
theorem dX12_fieldsRight_16 : decode cX12_fieldsRight 16 = .ok (.iaload, 1) := by decide +kernel
theorem dX12_fieldsRight_17 : decode cX12_fieldsRight 17 = .ok (.iload_n 1, 1) := by decide +kernel
theorem dX12_fieldsRight_18 : decode cX12_fieldsRight 18 = .ok (.invokevirtual 226, 3) := by decide +kernel
theorem dX12_fieldsRight_21 : decode cX12_fieldsRight 21 = .ok (.iconst (-1), 1) := by decide +kernel
theorem dX12_fieldsRight_22 : decode cX12_fieldsRight 22 = .ok (.if_icmp .ne 33, 3) := by decide +kernel
theorem dX12_fieldsRight_25 : decode cX12_fieldsRight 25 = .ok (.aload_n 0, 1) := by decide +kernel
theorem dX12_fieldsRight_26 : decode cX12_fieldsRight 26 = .ok (.getfield 34, 3) := by decide +kernel
theorem dX12_fieldsRight_29 : decode cX12_fieldsRight 29 = .ok (.iload_n 1, 1) := by decide +kernel
theorem dX12_fieldsRight_30 : decode cX12_fieldsRight 30 = .ok (.iaload, 1) := by decide +kernel
theorem dX12_fieldsRight_31 : decode cX12_fieldsRight 31 = .ok (.bipush 15, 2) := by decide +kernel
theorem dX12_fieldsRight_33 : decode cX12_fieldsRight 33 = .ok (.if_icmp .gt 22, 3) := by decide +kernel
theorem dX12_fieldsRight_36 : decode cX12_fieldsRight 36 = .ok (.aload_n 0, 1) := by decide +kernel
theorem dX12_fieldsRight_37 : decode cX12_fieldsRight 37 = .ok (.getfield 34, 3) := by decide +kernel
theorem dX12_fieldsRight_40 : decode cX12_fieldsRight 40 = .ok (.iload_n 1, 1) := by decide +kernel
theorem dX12_fieldsRight_41 : decode cX12_fieldsRight 41 = .ok (.iaload, 1) := by decide +kernel
theorem dX12_fieldsRight_42 : decode cX12_fieldsRight 42 = .ok (.aload_n 0, 1) := by decide +kernel
theorem dX12_fieldsRight_43 : decode cX12_fieldsRight 43 = .ok (.getfield 37, 3) := by decide +kernel
theorem dX12_fieldsRight_46 : decode cX12_fieldsRight 46 = .ok (.iload_n 1, 1) := by decide +kernel
theorem dX12_fieldsRight_47 : decode cX12_fieldsRight 47 = .ok (.iaload, 1) := by decide +kernel
theorem dX12_fieldsRight_48 : decode cX12_fieldsRight 48 = .ok (.if_icmp .lt 7, 3) := by decide +kernel
theorem dX12_fieldsRight_51 : decode cX12_fieldsRight 51 = .ok (.iconst 1, 1) := by decide +kernel
theorem dX12_fieldsRight_52 : decode cX12_fieldsRight 52 = .ok (.goto 4, 3) := by decide +kernel
theorem dX12_fieldsRight_55 : decode cX12_fieldsRight 55 = .ok (.iconst 0, 1) := by decide +kernel
theorem dX12_fieldsRight_56 : decode cX12_fieldsRight 56 = .ok (.istore_n 2, 1) := by decide +kernel
theorem dX12_fieldsRight_57 : decode cX12_fieldsRight 57 = .ok (.iload_n 2, 1) := by decide +kernel
theorem dX12_fieldsRight_58 : decode cX12_fieldsRight 58 = .ok (.ifCond .eq 21, 3) := by decide +kernel
theorem dX12_fieldsRight_61 : decode cX12_fieldsRight 61 = .ok (.aload_n 0, 1) := by decide +kernel
theorem dX12_fieldsRight_62 : decode cX12_fieldsRight 62 = .ok (.iload_n 1, 1) := by decide +kernel
theorem dX12_fieldsRight_63 : decode cX12_fieldsRight 63 = .ok (.aload_n 0, 1) := by decide +kernel
theorem dX12_fieldsRight_64 : decode cX12_fieldsRight 64 = .ok (.getfield 40, 3) := by decide +kernel
theorem dX12_fieldsRight_67 : decode cX12_fieldsRight 67 = .ok (.iload_n 1, 1) := by decide +kernel
theorem dX12_fieldsRight_68 : decode cX12_fieldsRight 68 = .ok (.iaload, 1) := by decide +kernel
theorem dX12_fieldsRight_69 : decode cX12_fieldsRight 69 = .ok (.invokevirtual 230, 3) := by decide +kernel
theorem dX12_fieldsRight_72 : decode cX12_fieldsRight 72 = .ok (.ifCond .eq 7, 3) := by decide +kernel
theorem dX12_fieldsRight_75 : decode cX12_fieldsRight 75 = .ok (.iconst 1, 1) := by decide +kernel
theorem dX12_fieldsRight_76 : decode cX12_fieldsRight 76 = .ok (.goto 4, 3) := by decide +kernel
theorem dX12_fieldsRight_79 : decode cX12_fieldsRight 79 = .ok (.iconst 0, 1) := by decide +kernel
theorem dX12_fieldsRight_80 : decode cX12_fieldsRight 80 = .ok (.istore_n 2, 1) := by decide +kernel
theorem dX12_fieldsRight_81 : decode cX12_fieldsRight 81 = .ok (.iconst 0, 1) := by decide +kernel
theorem dX12_fieldsRight_82 : decode cX12_fieldsRight 82 = .ok (.istore_n 3, 1) := by decide +kernel
theorem dX12_fieldsRight_83 : decode cX12_fieldsRight 83 = .ok (.iload_n 3, 1) := by decide +kernel
theorem dX12_fieldsRight_84 : decode cX12_fieldsRight 84 = .ok (.iload_n 1, 1) := by decide +kernel
theorem dX12_fieldsRight_85 : decode cX12_fieldsRight 85 = .ok (.if_icmp .ge 64, 3) := by decide +kernel
theorem dX12_fieldsRight_88 : decode cX12_fieldsRight 88 = .ok (.iload_n 2, 1) := by decide +kernel
theorem dX12_fieldsRight_89 : decode cX12_fieldsRight 89 = .ok (.ifCond .eq 60, 3) := by decide +kernel
theorem dX12_fieldsRight_92 : decode cX12_fieldsRight 92 = .ok (.aload_n 0, 1) := by decide +kernel
theorem dX12_fieldsRight_93 : decode cX12_fieldsRight 93 = .ok (.getfield 43, 3) := by decide +kernel
theorem dX12_fieldsRight_96 : decode cX12_fieldsRight 96 = .ok (.iload_n 3, 1) := by decide +kernel
theorem dX12_fieldsRight_97 : decode cX12_fieldsRight 97 = .ok (.iaload, 1) := by decide +kernel
theorem dX12_fieldsRight_98 : decode cX12_fieldsRight 98 = .ok (.aload_n 0, 1) := by decide +kernel
theorem dX12_fieldsRight_99 : decode cX12_fieldsRight 99 = .ok (.getfield 43, 3) := by decide +kernel
theorem dX12_fieldsRight_102 : decode cX12_fieldsRight 102 = .ok (.iload_n 1, 1) := by decide +kernel
theorem dX12_fieldsRight_103 : decode cX12_fieldsRight 103 = .ok (.iaload, 1) := by decide +kernel
theorem dX12_fieldsRight_104 : decode cX12_fieldsRight 104 = .ok (.if_icmp .ne 33, 3) := by decide +kernel
theorem dX12_fieldsRight_107 : decode cX12_fieldsRight 107 = .ok (.aload_n 0, 1) := by decide +kernel
theorem dX12_fieldsRight_108 : decode cX12_fieldsRight 108 = .ok (.getfield 34, 3) := by decide +kernel
theorem dX12_fieldsRight_111 : decode cX12_fieldsRight 111 = .ok (.iload_n 3, 1) := by decide +kernel
theorem dX12_fieldsRight_112 : decode cX12_fieldsRight 112 = .ok (.iaload, 1) := by decide +kernel
theorem dX12_fieldsRight_113 : decode cX12_fieldsRight 113 = .ok (.aload_n 0, 1) := by decide +kernel
theorem dX12_fieldsRight_114 : decode cX12_fieldsRight 114 = .ok (.getfield 37, 3) := by decide +kernel
theorem dX12_fieldsRight_117 : decode cX12_fieldsRight 117 = .ok (.iload_n 1, 1) := by decide +kernel
theorem dX12_fieldsRight_118 : decode cX12_fieldsRight 118 = .ok (.iaload, 1) := by decide +kernel
theorem dX12_fieldsRight_119 : decode cX12_fieldsRight 119 = .ok (.if_icmp .lt 18, 3) := by decide +kernel
theorem dX12_fieldsRight_122 : decode cX12_fieldsRight 122 = .ok (.aload_n 0, 1) := by decide +kernel
theorem dX12_fieldsRight_123 : decode cX12_fieldsRight 123 = .ok (.getfield 37, 3) := by decide +kernel
theorem dX12_fieldsRight_126 : decode cX12_fieldsRight 126 = .ok (.iload_n 3, 1) := by decide +kernel
theorem dX12_fieldsRight_127 : decode cX12_fieldsRight 127 = .ok (.iaload, 1) := by decide +kernel
theorem dX12_fieldsRight_128 : decode cX12_fieldsRight 128 = .ok (.aload_n 0, 1) := by decide +kernel
theorem dX12_fieldsRight_129 : decode cX12_fieldsRight 129 = .ok (.getfield 34, 3) := by decide +kernel
theorem dX12_fieldsRight_132 : decode cX12_fieldsRight 132 = .ok (.iload_n 1, 1) := by decide +kernel
theorem dX12_fieldsRight_133 : decode cX12_fieldsRight 133 = .ok (.iaload, 1) := by decide +kernel
theorem dX12_fieldsRight_134 : decode cX12_fieldsRight 134 = .ok (.if_icmp .le 7, 3) := by decide +kernel
theorem dX12_fieldsRight_137 : decode cX12_fieldsRight 137 = .ok (.iconst 1, 1) := by decide +kernel
theorem dX12_fieldsRight_138 : decode cX12_fieldsRight 138 = .ok (.goto 4, 3) := by decide +kernel
theorem dX12_fieldsRight_141 : decode cX12_fieldsRight 141 = .ok (.iconst 0, 1) := by decide +kernel
theorem dX12_fieldsRight_142 : decode cX12_fieldsRight 142 = .ok (.istore_n 2, 1) := by decide +kernel
theorem dX12_fieldsRight_143 : decode cX12_fieldsRight 143 = .ok (.iinc 3 1, 3) := by decide +kernel
theorem dX12_fieldsRight_146 : decode cX12_fieldsRight 146 = .ok (.goto (-63), 3) := by decide +kernel
theorem dX12_fieldsRight_149 : decode cX12_fieldsRight 149 = .ok (.iload_n 2, 1) := by decide +kernel
theorem dX12_fieldsRight_150 : decode cX12_fieldsRight 150 = .ok (.ifCond .ne 15, 3) := by decide +kernel
