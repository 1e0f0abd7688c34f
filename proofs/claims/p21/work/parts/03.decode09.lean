theorem dX1_erase_9 : decode cX1_erase 9 = .ok (.istore_n 1, 1) := by decide +kernel
theorem dX1_erase_10 : decode cX1_erase 10 = .ok (.aload_n 0, 1) := by decide +kernel
theorem dX1_erase_11 : decode cX1_erase 11 = .ok (.iconst 0, 1) := by decide +kernel
theorem dX1_erase_12 : decode cX1_erase 12 = .ok (.putfield 267, 3) := by decide +kernel
theorem dX1_erase_15 : decode cX1_erase 15 = .ok (.iload_n 1, 1) := by decide +kernel
theorem dX1_erase_16 : decode cX1_erase 16 = .ok (.ireturn, 1) := by decide +kernel
theorem dX1_fault_0 : decode cX1_fault 0 = .ok (.aload_n 0, 1) := by decide +kernel
theorem dX1_fault_1 : decode cX1_fault 1 = .ok (.iconst 0, 1) := by decide +kernel
theorem dX1_fault_2 : decode cX1_fault 2 = .ok (.putfield 161, 3) := by decide +kernel
theorem dX1_fault_5 : decode cX1_fault 5 = .ok (.iload_n 1, 1) := by decide +kernel
theorem dX1_fault_6 : decode cX1_fault 6 = .ok (.ifCond .ne 10, 3) := by decide +kernel
theorem dX1_fault_9 : decode cX1_fault 9 = .ok (.aload_n 0, 1) := by decide +kernel
theorem dX1_fault_10 : decode cX1_fault 10 = .ok (.getfield 173, 3) := by decide +kernel
theorem dX1_fault_13 : decode cX1_fault 13 = .ok (.goto 16, 3) := by decide +kernel
theorem dX1_fault_16 : decode cX1_fault 16 = .ok (.iload_n 1, 1) := by decide +kernel
theorem dX1_fault_17 : decode cX1_fault 17 = .ok (.iconst 1, 1) := by decide +kernel
theorem dX1_fault_18 : decode cX1_fault 18 = .ok (.if_icmp .ne 10, 3) := by decide +kernel
theorem dX1_fault_21 : decode cX1_fault 21 = .ok (.aload_n 0, 1) := by decide +kernel
theorem dX1_fault_22 : decode cX1_fault 22 = .ok (.getfield 176, 3) := by decide +kernel
theorem dX1_fault_25 : decode cX1_fault 25 = .ok (.goto 4, 3) := by decide +kernel
theorem dX1_fault_28 : decode cX1_fault 28 = .ok (.iconst (-1), 1) := by decide +kernel
theorem dX1_fault_29 : decode cX1_fault 29 = .ok (.ireturn, 1) := by decide +kernel
theorem dX1_fetch_0 : decode cX1_fetch 0 = .ok (.aload_n 0, 1) := by decide +kernel
theorem dX1_fetch_1 : decode cX1_fetch 1 = .ok (.iload_n 1, 1) := by decide +kernel
theorem dX1_fetch_2 : decode cX1_fetch 2 = .ok (.invokevirtual 378, 3) := by decide +kernel
theorem dX1_fetch_5 : decode cX1_fetch 5 = .ok (.ifCond .ne 9, 3) := by decide +kernel
theorem dX1_fetch_8 : decode cX1_fetch 8 = .ok (.aload_n 0, 1) := by decide +kernel
theorem dX1_fetch_9 : decode cX1_fetch 9 = .ok (.iconst 1, 1) := by decide +kernel
theorem dX1_fetch_10 : decode cX1_fetch 10 = .ok (.invokevirtual 254, 3) := by decide +kernel
theorem dX1_fetch_13 : decode cX1_fetch 13 = .ok (.ireturn, 1) := by decide +kernel
theorem dX1_fetch_14 : decode cX1_fetch 14 = .ok (.aload_n 0, 1) := by decide +kernel
theorem dX1_fetch_15 : decode cX1_fetch 15 = .ok (.getfield 288, 3) := by decide +kernel
theorem dX1_fetch_18 : decode cX1_fetch 18 = .ok (.ifCond .le 9, 3) := by decide +kernel
theorem dX1_fetch_21 : decode cX1_fetch 21 = .ok (.aload_n 0, 1) := by decide +kernel
theorem dX1_fetch_22 : decode cX1_fetch 22 = .ok (.iconst 2, 1) := by decide +kernel
theorem dX1_fetch_23 : decode cX1_fetch 23 = .ok (.invokevirtual 254, 3) := by decide +kernel
theorem dX1_fetch_26 : decode cX1_fetch 26 = .ok (.ireturn, 1) := by decide +kernel
theorem dX1_fetch_27 : decode cX1_fetch 27 = .ok (.aload_n 0, 1) := by decide +kernel
theorem dX1_fetch_28 : decode cX1_fetch 28 = .ok (.invokevirtual 369, 3) := by decide +kernel
theorem dX1_fetch_31 : decode cX1_fetch 31 = .ok (.aload_n 0, 1) := by decide +kernel
theorem dX1_fetch_32 : decode cX1_fetch 32 = .ok (.iload_n 1, 1) := by decide +kernel
theorem dX1_fetch_33 : decode cX1_fetch 33 = .ok (.invokevirtual 381, 3) := by decide +kernel
theorem dX1_fetch_36 : decode cX1_fetch 36 = .ok (.aload_n 0, 1) := by decide +kernel
theorem dX1_fetch_37 : decode cX1_fetch 37 = .ok (.aload_n 0, 1) := by decide +kernel
theorem dX1_fetch_38 : decode cX1_fetch 38 = .ok (.invokevirtual 375, 3) := by decide +kernel
theorem dX1_fetch_41 : decode cX1_fetch 41 = .ok (.bipush (-2), 2) := by decide +kernel
theorem dX1_fetch_43 : decode cX1_fetch 43 = .ok (.if_icmp .ne 7, 3) := by decide +kernel
theorem dX1_fetch_46 : decode cX1_fetch 46 = .ok (.iconst 2, 1) := by decide +kernel
theorem dX1_fetch_47 : decode cX1_fetch 47 = .ok (.goto 4, 3) := by decide +kernel
theorem dX1_fetch_50 : decode cX1_fetch 50 = .ok (.iconst 0, 1) := by decide +kernel
theorem dX1_fetch_51 : decode cX1_fetch 51 = .ok (.putfield 161, 3) := by decide +kernel
theorem dX1_fetch_54 : decode cX1_fetch 54 = .ok (.aload_n 0, 1) := by decide +kernel
theorem dX1_fetch_55 : decode cX1_fetch 55 = .ok (.getfield 161, 3) := by decide +kernel
theorem dX1_fetch_58 : decode cX1_fetch 58 = .ok (.ifCond .ne 10, 3) := by decide +kernel
theorem dX1_fetch_61 : decode cX1_fetch 61 = .ok (.aload_n 0, 1) := by decide +kernel
theorem dX1_fetch_62 : decode cX1_fetch 62 = .ok (.getfield 357, 3) := by decide +kernel
theorem dX1_fetch_65 : decode cX1_fetch 65 = .ok (.goto 4, 3) := by decide +kernel
theorem dX1_fetch_68 : decode cX1_fetch 68 = .ok (.iconst 0, 1) := by decide +kernel
theorem dX1_fetch_69 : decode cX1_fetch 69 = .ok (.ireturn, 1) := by decide +kernel
theorem dX1_field_0 : decode cX1_field 0 = .ok (.aload_n 0, 1) := by decide +kernel
theorem dX1_field_1 : decode cX1_field 1 = .ok (.iconst 0, 1) := by decide +kernel
theorem dX1_field_2 : decode cX1_field 2 = .ok (.putfield 161, 3) := by decide +kernel
theorem dX1_field_5 : decode cX1_field 5 = .ok (.aload_n 0, 1) := by decide +kernel
theorem dX1_field_6 : decode cX1_field 6 = .ok (.iload_n 1, 1) := by decide +kernel
theorem dX1_field_7 : decode cX1_field 7 = .ok (.invokevirtual 317, 3) := by decide +kernel
theorem dX1_field_10 : decode cX1_field 10 = .ok (.ifCond .eq 12, 3) := by decide +kernel
theorem dX1_field_13 : decode cX1_field 13 = .ok (.iload_n 2, 1) := by decide +kernel
theorem dX1_field_14 : decode cX1_field 14 = .ok (.ifCond .lt 8, 3) := by decide +kernel
theorem dX1_field_17 : decode cX1_field 17 = .ok (.iload_n 2, 1) := by decide +kernel
theorem dX1_field_18 : decode cX1_field 18 = .ok (.iconst 4, 1) := by decide +kernel
theorem dX1_field_19 : decode cX1_field 19 = .ok (.if_icmp .le 5, 3) := by decide +kernel
theorem dX1_field_22 : decode cX1_field 22 = .ok (.iconst (-1), 1) := by decide +kernel
theorem dX1_field_23 : decode cX1_field 23 = .ok (.ireturn, 1) := by decide +kernel
theorem dX1_field_24 : decode cX1_field 24 = .ok (.iload_n 2, 1) := by decide +kernel
theorem dX1_field_25 : decode cX1_field 25 = .ok (.ifCond .ne 12, 3) := by decide +kernel
theorem dX1_field_28 : decode cX1_field 28 = .ok (.aload_n 0, 1) := by decide +kernel
theorem dX1_field_29 : decode cX1_field 29 = .ok (.getfield 83, 3) := by decide +kernel
theorem dX1_field_32 : decode cX1_field 32 = .ok (.iload_n 1, 1) := by decide +kernel
theorem dX1_field_33 : decode cX1_field 33 = .ok (.iaload, 1) := by decide +kernel
theorem dX1_field_34 : decode cX1_field 34 = .ok (.goto 51, 3) := by decide +kernel
theorem dX1_field_37 : decode cX1_field 37 = .ok (.iload_n 2, 1) := by decide +kernel
theorem dX1_field_38 : decode cX1_field 38 = .ok (.iconst 1, 1) := by decide +kernel
theorem dX1_field_39 : decode cX1_field 39 = .ok (.if_icmp .ne 12, 3) := by decide +kernel
theorem dX1_field_42 : decode cX1_field 42 = .ok (.aload_n 0, 1) := by decide +kernel
theorem dX1_field_43 : decode cX1_field 43 = .ok (.getfield 86, 3) := by decide +kernel
theorem dX1_field_46 : decode cX1_field 46 = .ok (.iload_n 1, 1) := by decide +kernel
theorem dX1_field_47 : decode cX1_field 47 = .ok (.iaload, 1) := by decide +kernel
theorem dX1_field_48 : decode cX1_field 48 = .ok (.goto 37, 3) := by decide +kernel
theorem dX1_field_51 : decode cX1_field 51 = .ok (.iload_n 2, 1) := by decide +kernel
theorem dX1_field_52 : decode cX1_field 52 = .ok (.iconst 2, 1) := by decide +kernel
theorem dX1_field_53 : decode cX1_field 53 = .ok (.if_icmp .ne 12, 3) := by decide +kernel
theorem dX1_field_56 : decode cX1_field 56 = .ok (.aload_n 0, 1) := by decide +kernel
theorem dX1_field_57 : decode cX1_field 57 = .ok (.getfield 89, 3) := by decide +kernel
theorem dX1_field_60 : decode cX1_field 60 = .ok (.iload_n 1, 1) := by decide +kernel
theorem dX1_field_61 : decode cX1_field 61 = .ok (.iaload, 1) := by decide +kernel
theorem dX1_field_62 : decode cX1_field 62 = .ok (.goto 23, 3) := by decide +kernel
theorem dX1_field_65 : decode cX1_field 65 = .ok (.iload_n 2, 1) := by decide +kernel
theorem dX1_field_66 : decode cX1_field 66 = .ok (.iconst 3, 1) := by decide +kernel
theorem dX1_field_67 : decode cX1_field 67 = .ok (.if_icmp .ne 12, 3) := by decide +kernel
theorem dX1_field_70 : decode cX1_field 70 = .ok (.aload_n 0, 1) := by decide +kernel
theorem dX1_field_71 : decode cX1_field 71 = .ok (.getfield 107, 3) := by decide +kernel
theorem dX1_field_74 : decode cX1_field 74 = .ok (.iload_n 1, 1) := by decide +kernel
theorem dX1_field_75 : decode cX1_field 75 = .ok (.iaload, 1) := by decide +kernel
theorem dX1_field_76 : decode cX1_field 76 = .ok (.goto 9, 3) := by decide +kernel
theorem dX1_field_79 : decode cX1_field 79 = .ok (.aload_n 0, 1) := by decide +kernel
theorem dX1_field_80 : decode cX1_field 80 = .ok (.getfield 113, 3) := by decide +kernel
theorem dX1_field_83 : decode cX1_field 83 = .ok (.iload_n 1, 1) := by decide +kernel
theorem dX1_field_84 : decode cX1_field 84 = .ok (.iaload, 1) := by decide +kernel
theorem dX1_field_85 : decode cX1_field 85 = .ok (.ireturn, 1) := by decide +kernel
theorem dX1_fieldsRight_0 : decode cX1_fieldsRight 0 = .ok (.iconst 0, 1) := by decide +kernel
theorem dX1_fieldsRight_1 : decode cX1_fieldsRight 1 = .ok (.istore_n 1, 1) := by decide +kernel
theorem dX1_fieldsRight_2 : decode cX1_fieldsRight 2 = .ok (.iload_n 1, 1) := by decide +kernel
theorem dX1_fieldsRight_3 : decode cX1_fieldsRight 3 = .ok (.aload_n 0, 1) := by decide +kernel
theorem dX1_fieldsRight_4 : decode cX1_fieldsRight 4 = .ok (.getfield 198, 3) := by decide +kernel
theorem dX1_fieldsRight_7 : decode cX1_fieldsRight 7 = .ok (.if_icmp .ge 164, 3) := by decide +kernel
theorem dX1_fieldsRight_10 : decode cX1_fieldsRight 10 = .ok (.aload_n 0, 1) := by decide +kernel
theorem dX1_fieldsRight_11 : decode cX1_fieldsRight 11 = .ok (.aload_n 0, 1) := by decide +kernel
theorem dX1_fieldsRight_12 : decode cX1_fieldsRight 12 = .ok (.getfield 28, 3) := by decide +kernel
theorem dX1_fieldsRight_15 : decode cX1_fieldsRight 15 = .ok (.iload_n 1, 1) := by decide +kernel
theorem dX1_fieldsRight_16 : decode cX1_fieldsRight 16 = .ok (.iaload, 1) := by decide +kernel
theorem dX1_fieldsRight_17 : decode cX1_fieldsRight 17 = .ok (.iload_n 1, 1) := by decide +kernel
theorem dX1_fieldsRight_18 : decode cX1_fieldsRight 18 = .ok (.invokevirtual 226, 3) := by decide +kernel
theorem dX1_fieldsRight_21 : decode cX1_fieldsRight 21 = .ok (.iconst (-1), 1) := by decide +kernel
theorem dX1_fieldsRight_22 : decode cX1_fieldsRight 22 = .ok (.if_icmp .ne 33, 3) := by decide +kernel
theorem dX1_fieldsRight_25 : decode cX1_fieldsRight 25 = .ok (.aload_n 0, 1) := by decide +kernel
theorem dX1_fieldsRight_26 : decode cX1_fieldsRight 26 = .ok (.getfield 34, 3) := by decide +kernel
theorem dX1_fieldsRight_29 : decode cX1_fieldsRight 29 = .ok (.iload_n 1, 1) := by decide +kernel
theorem dX1_fieldsRight_30 : decode cX1_fieldsRight 30 = .ok (.iaload, 1) := by decide +kernel
theorem dX1_fieldsRight_31 : decode cX1_fieldsRight 31 = .ok (.bipush 15, 2) := by decide +kernel
theorem dX1_fieldsRight_33 : decode cX1_fieldsRight 33 = .ok (.if_icmp .gt 22, 3) := by decide +kernel
theorem dX1_fieldsRight_36 : decode cX1_fieldsRight 36 = .ok (.aload_n 0, 1) := by decide +kernel
theorem dX1_fieldsRight_37 : decode cX1_fieldsRight 37 = .ok (.getfield 34, 3) := by decide +kernel
theorem dX1_fieldsRight_40 : decode cX1_fieldsRight 40 = .ok (.iload_n 1, 1) := by decide +kernel
theorem dX1_fieldsRight_41 : decode cX1_fieldsRight 41 = .ok (.iaload, 1) := by decide +kernel
theorem dX1_fieldsRight_42 : decode cX1_fieldsRight 42 = .ok (.aload_n 0, 1) := by decide +kernel
theorem dX1_fieldsRight_43 : decode cX1_fieldsRight 43 = .ok (.getfield 37, 3) := by decide +kernel
theorem dX1_fieldsRight_46 : decode cX1_fieldsRight 46 = .ok (.iload_n 1, 1) := by decide +kernel
theorem dX1_fieldsRight_47 : decode cX1_fieldsRight 47 = .ok (.iaload, 1) := by decide +kernel
theorem dX1_fieldsRight_48 : decode cX1_fieldsRight 48 = .ok (.if_icmp .lt 7, 3) := by decide +kernel
theorem dX1_fieldsRight_51 : decode cX1_fieldsRight 51 = .ok (.iconst 1, 1) := by decide +kernel
theorem dX1_fieldsRight_52 : decode cX1_fieldsRight 52 = .ok (.goto 4, 3) := by decide +kernel
theorem dX1_fieldsRight_55 : decode cX1_fieldsRight 55 = .ok (.iconst 0, 1) := by decide +kernel
theorem dX1_fieldsRight_56 : decode cX1_fieldsRight 56 = .ok (.istore_n 2, 1) := by decide +kernel
theorem dX1_fieldsRight_57 : decode cX1_fieldsRight 57 = .ok (.iload_n 2, 1) := by decide +kernel
theorem dX1_fieldsRight_58 : decode cX1_fieldsRight 58 = .ok (.ifCond .eq 21, 3) := by decide +kernel
theorem dX1_fieldsRight_61 : decode cX1_fieldsRight 61 = .ok (.aload_n 0, 1) := by decide +kernel
theorem dX1_fieldsRight_62 : decode cX1_fieldsRight 62 = .ok (.iload_n 1, 1) := by decide +kernel
theorem dX1_fieldsRight_63 : decode cX1_fieldsRight 63 = .ok (.aload_n 0, 1) := by decide +kernel
theorem dX1_fieldsRight_64 : decode cX1_fieldsRight 64 = .ok (.getfield 40, 3) := by decide +kernel
theorem dX1_fieldsRight_67 : decode cX1_fieldsRight 67 = .ok (.iload_n 1, 1) := by decide +kernel
theorem dX1_fieldsRight_68 : decode cX1_fieldsRight 68 = .ok (.iaload, 1) := by decide +kernel
theorem dX1_fieldsRight_69 : decode cX1_fieldsRight 69 = .ok (.invokevirtual 230, 3) := by decide +kernel
theorem dX1_fieldsRight_72 : decode cX1_fieldsRight 72 = .ok (.ifCond .eq 7, 3) := by decide +kernel
theorem dX1_fieldsRight_75 : decode cX1_fieldsRight 75 = .ok (.iconst 1, 1) := by decide +kernel
theorem dX1_fieldsRight_76 : decode cX1_fieldsRight 76 = .ok (.goto 4, 3) := by decide +kernel
theorem dX1_fieldsRight_79 : decode cX1_fieldsRight 79 = .ok (.iconst 0, 1) := by decide +kernel
theorem dX1_fieldsRight_80 : decode cX1_fieldsRight 80 = .ok (.istore_n 2, 1) := by decide +kernel
theorem dX1_fieldsRight_81 : decode cX1_fieldsRight 81 = .ok (.iconst 0, 1) := by decide +kernel
theorem dX1_fieldsRight_82 : decode cX1_fieldsRight 82 = .ok (.istore_n 3, 1) := by decide +kernel
theorem dX1_fieldsRight_83 : decode cX1_fieldsRight 83 = .ok (.iload_n 3, 1) := by decide +kernel
theorem dX1_fieldsRight_84 : decode cX1_fieldsRight 84 = .ok (.iload_n 1, 1) := by decide +kernel
theorem dX1_fieldsRight_85 : decode cX1_fieldsRight 85 = .ok (.if_icmp .ge 64, 3) := by decide +kernel
theorem dX1_fieldsRight_88 : decode cX1_fieldsRight 88 = .ok (.iload_n 2, 1) := by decide +kernel
theorem dX1_fieldsRight_89 : decode cX1_fieldsRight 89 = .ok (.ifCond .eq 60, 3) := by decide +kernel
theorem dX1_fieldsRight_92 : decode cX1_fieldsRight 92 = .ok (.aload_n 0, 1) := by decide +kernel
theorem dX1_fieldsRight_93 : decode cX1_fieldsRight 93 = .ok (.getfield 43, 3) := by decide +kernel
theorem dX1_fieldsRight_96 : decode cX1_fieldsRight 96 = .ok (.iload_n 3, 1) := by decide +kernel
theorem dX1_fieldsRight_97 : decode cX1_fieldsRight 97 = .ok (.iaload, 1) := by decide +kernel
theorem dX1_fieldsRight_98 : decode cX1_fieldsRight 98 = .ok (.aload_n 0, 1) := by decide +kernel
theorem dX1_fieldsRight_99 : decode cX1_fieldsRight 99 = .ok (.getfield 43, 3) := by decide +kernel
theorem dX1_fieldsRight_102 : decode cX1_fieldsRight 102 = .ok (.iload_n 1, 1) := by decide +kernel
theorem dX1_fieldsRight_103 : decode cX1_fieldsRight 103 = .ok (.iaload, 1) := by decide +kernel
theorem dX1_fieldsRight_104 : decode cX1_fieldsRight 104 = .ok (.if_icmp .ne 33, 3) := by decide +kernel
theorem dX1_fieldsRight_107 : decode cX1_fieldsRight 107 = .ok (.aload_n 0, 1) := by decide +kernel
theorem dX1_fieldsRight_108 : decode cX1_fieldsRight 108 = .ok (.getfield 34, 3) := by decide +kernel
theorem dX1_fieldsRight_111 : decode cX1_fieldsRight 111 = .ok (.iload_n 3, 1) := by decide +kernel
theorem dX1_fieldsRight_112 : decode cX1_fieldsRight 112 = .ok (.iaload, 1) := by decide +kernel
theorem dX1_fieldsRight_113 : decode cX1_fieldsRight 113 = .ok (.aload_n 0, 1) := by decide +kernel
theorem dX1_fieldsRight_114 : decode cX1_fieldsRight 114 = .ok (.getfield 37, 3) := by decide +kernel
theorem dX1_fieldsRight_117 : decode cX1_fieldsRight 117 = .ok (.iload_n 1, 1) := by decide +kernel
theorem dX1_fieldsRight_118 : decode cX1_fieldsRight 118 = .ok (.iaload, 1) := by decide +kernel
theorem dX1_fieldsRight_119 : decode cX1_fieldsRight 119 = .ok (.if_icmp .lt 18, 3) := by decide +kernel
theorem dX1_fieldsRight_122 : decode cX1_fieldsRight 122 = .ok (.aload_n 0, 1) := by decide +kernel
theorem dX1_fieldsRight_123 : decode cX1_fieldsRight 123 = .ok (.getfield 37, 3) := by decide +kernel
theorem dX1_fieldsRight_126 : decode cX1_fieldsRight 126 = .ok (.iload_n 3, 1) := by decide +kernel
theorem dX1_fieldsRight_127 : decode cX1_fieldsRight 127 = .ok (.iaload, 1) := by decide +kernel
theorem dX1_fieldsRight_128 : decode cX1_fieldsRight 128 = .ok (.aload_n 0, 1) := by decide +kernel
theorem dX1_fieldsRight_129 : decode cX1_fieldsRight 129 = .ok (.getfield 34, 3) := by decide +kernel
theorem dX1_fieldsRight_132 : decode cX1_fieldsRight 132 = .ok (.iload_n 1, 1) := by decide +kernel
theorem dX1_fieldsRight_133 : decode cX1_fieldsRight 133 = .ok (.iaload, 1) := by decide +kernel
theorem dX1_fieldsRight_134 : decode cX1_fieldsRight 134 = .ok (.if_icmp .le 7, 3) := by decide +kernel
theorem dX1_fieldsRight_137 : decode cX1_fieldsRight 137 = .ok (.iconst 1, 1) := by decide +kernel
theorem dX1_fieldsRight_138 : decode cX1_fieldsRight 138 = .ok (.goto 4, 3) := by decide +kernel
theorem dX1_fieldsRight_141 : decode cX1_fieldsRight 141 = .ok (.iconst 0, 1) := by decide +kernel
theorem dX1_fieldsRight_142 : decode cX1_fieldsRight 142 = .ok (.istore_n 2, 1) := by decide +kernel
theorem dX1_fieldsRight_143 : decode cX1_fieldsRight 143 = .ok (.iinc 3 1, 3) := by decide +kernel
theorem dX1_fieldsRight_146 : decode cX1_fieldsRight 146 = .ok (.goto (-63), 3) := by decide +kernel
theorem dX1_fieldsRight_149 : decode cX1_fieldsRight 149 = .ok (.iload_n 2, 1) := by decide +kernel
theorem dX1_fieldsRight_150 : decode cX1_fieldsRight 150 = .ok (.ifCond .ne 15, 3) := by decide +kernel
theorem dX1_fieldsRight_153 : decode cX1_fieldsRight 153 = .ok (.aload_n 0, 1) := by decide +kernel
theorem dX1_fieldsRight_154 : decode cX1_fieldsRight 154 = .ok (.iconst 2, 1) := by decide +kernel
theorem dX1_fieldsRight_155 : decode cX1_fieldsRight 155 = .ok (.aload_n 0, 1) := by decide +kernel
theorem dX1_fieldsRight_156 : decode cX1_fieldsRight 156 = .ok (.getfield 46, 3) := by decide +kernel
theorem dX1_fieldsRight_159 : decode cX1_fieldsRight 159 = .ok (.iload_n 1, 1) := by decide +kernel
theorem dX1_fieldsRight_160 : decode cX1_fieldsRight 160 = .ok (.iaload, 1) := by decide +kernel
theorem dX1_fieldsRight_161 : decode cX1_fieldsRight 161 = .ok (.invokevirtual 183, 3) := by decide +kernel
theorem dX1_fieldsRight_164 : decode cX1_fieldsRight 164 = .ok (.ireturn, 1) := by decide +kernel
theorem dX1_fieldsRight_165 : decode cX1_fieldsRight 165 = .ok (.iinc 1 1, 3) := by decide +kernel
theorem dX1_fieldsRight_168 : decode cX1_fieldsRight 168 = .ok (.goto (-166), 3) := by decide +kernel
theorem dX1_fieldsRight_171 : decode cX1_fieldsRight 171 = .ok (.iconst 1, 1) := by decide +kernel
theorem dX1_fieldsRight_172 : decode cX1_fieldsRight 172 = .ok (.ireturn, 1) := by decide +kernel
theorem dX1_firstBroken_0 : decode cX1_firstBroken 0 = .ok (.iconst 0, 1) := by decide +kernel
theorem dX1_firstBroken_1 : decode cX1_firstBroken 1 = .ok (.istore_n 3, 1) := by decide +kernel
theorem dX1_firstBroken_2 : decode cX1_firstBroken 2 = .ok (.iload_n 3, 1) := by decide +kernel
theorem dX1_firstBroken_3 : decode cX1_firstBroken 3 = .ok (.aload_n 0, 1) := by decide +kernel
theorem dX1_firstBroken_4 : decode cX1_firstBroken 4 = .ok (.getfield 264, 3) := by decide +kernel
theorem dX1_firstBroken_7 : decode cX1_firstBroken 7 = .ok (.if_icmp .ge 21, 3) := by decide +kernel
theorem dX1_firstBroken_10 : decode cX1_firstBroken 10 = .ok (.aload_n 0, 1) := by decide +kernel
theorem dX1_firstBroken_11 : decode cX1_firstBroken 11 = .ok (.iload_n 3, 1) := by decide +kernel
theorem dX1_firstBroken_12 : decode cX1_firstBroken 12 = .ok (.iload_n 1, 1) := by decide +kernel
theorem dX1_firstBroken_13 : decode cX1_firstBroken 13 = .ok (.iload_n 2, 1) := by decide +kernel
theorem dX1_firstBroken_14 : decode cX1_firstBroken 14 = .ok (.invokevirtual 304, 3) := by decide +kernel
theorem dX1_firstBroken_17 : decode cX1_firstBroken 17 = .ok (.ifCond .eq 5, 3) := by decide +kernel
theorem dX1_firstBroken_20 : decode cX1_firstBroken 20 = .ok (.iload_n 3, 1) := by decide +kernel
theorem dX1_firstBroken_21 : decode cX1_firstBroken 21 = .ok (.ireturn, 1) := by decide +kernel
theorem dX1_firstBroken_22 : decode cX1_firstBroken 22 = .ok (.iinc 3 1, 3) := by decide +kernel
theorem dX1_firstBroken_25 : decode cX1_firstBroken 25 = .ok (.goto (-23), 3) := by decide +kernel
theorem dX1_firstBroken_28 : decode cX1_firstBroken 28 = .ok (.iconst (-1), 1) := by decide +kernel
theorem dX1_firstBroken_29 : decode cX1_firstBroken 29 = .ok (.ireturn, 1) := by decide +kernel
theorem dX1_fits_0 : decode cX1_fits 0 = .ok (.iload_n 2, 1) := by decide +kernel
theorem dX1_fits_1 : decode cX1_fits 1 = .ok (.aload_n 0, 1) := by decide +kernel
theorem dX1_fits_2 : decode cX1_fits 2 = .ok (.getfield 34, 3) := by decide +kernel
theorem dX1_fits_5 : decode cX1_fits 5 = .ok (.iload_n 1, 1) := by decide +kernel
theorem dX1_fits_6 : decode cX1_fits 6 = .ok (.iaload, 1) := by decide +kernel
theorem dX1_fits_7 : decode cX1_fits 7 = .ok (.aload_n 0, 1) := by decide +kernel
theorem dX1_fits_8 : decode cX1_fits 8 = .ok (.getfield 37, 3) := by decide +kernel
theorem dX1_fits_11 : decode cX1_fits 11 = .ok (.iload_n 1, 1) := by decide +kernel
theorem dX1_fits_12 : decode cX1_fits 12 = .ok (.iaload, 1) := by decide +kernel
theorem dX1_fits_13 : decode cX1_fits 13 = .ok (.isub, 1) := by decide +kernel
theorem dX1_fits_14 : decode cX1_fits 14 = .ok (.iconst 1, 1) := by decide +kernel
theorem dX1_fits_15 : decode cX1_fits 15 = .ok (.iadd, 1) := by decide +kernel
theorem dX1_fits_16 : decode cX1_fits 16 = .ok (.ishr, 1) := by decide +kernel
theorem dX1_fits_17 : decode cX1_fits 17 = .ok (.ifCond .ne 7, 3) := by decide +kernel
theorem dX1_fits_20 : decode cX1_fits 20 = .ok (.iconst 1, 1) := by decide +kernel
theorem dX1_fits_21 : decode cX1_fits 21 = .ok (.goto 4, 3) := by decide +kernel
theorem dX1_fits_24 : decode cX1_fits 24 = .ok (.iconst 0, 1) := by decide +kernel
theorem dX1_fits_25 : decode cX1_fits 25 = .ok (.ireturn, 1) := by decide +kernel
theorem dX1_flush_0 : decode cX1_flush 0 = .ok (.aload_n 0, 1) := by decide +kernel
theorem dX1_flush_1 : decode cX1_flush 1 = .ok (.iconst 0, 1) := by decide +kernel
theorem dX1_flush_2 : decode cX1_flush 2 = .ok (.putfield 161, 3) := by decide +kernel
theorem dX1_flush_5 : decode cX1_flush 5 = .ok (.aload_n 0, 1) := by decide +kernel
theorem dX1_flush_6 : decode cX1_flush 6 = .ok (.invokevirtual 369, 3) := by decide +kernel
theorem dX1_flush_9 : decode cX1_flush 9 = .ok (.iconst 0, 1) := by decide +kernel
theorem dX1_flush_10 : decode cX1_flush 10 = .ok (.istore_n 1, 1) := by decide +kernel
theorem dX1_flush_11 : decode cX1_flush 11 = .ok (.iload_n 1, 1) := by decide +kernel
theorem dX1_flush_12 : decode cX1_flush 12 = .ok (.aload_n 0, 1) := by decide +kernel
theorem dX1_flush_13 : decode cX1_flush 13 = .ok (.getfield 288, 3) := by decide +kernel
theorem dX1_flush_16 : decode cX1_flush 16 = .ok (.if_icmp .ge 78, 3) := by decide +kernel
theorem dX1_flush_19 : decode cX1_flush 19 = .ok (.iconst 0, 1) := by decide +kernel
theorem dX1_flush_20 : decode cX1_flush 20 = .ok (.istore_n 2, 1) := by decide +kernel
