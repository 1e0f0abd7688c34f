theorem dX12_fieldsRight_153 : decode cX12_fieldsRight 153 = .ok (.aload_n 0, 1) := by decide +kernel
theorem dX12_fieldsRight_154 : decode cX12_fieldsRight 154 = .ok (.iconst 2, 1) := by decide +kernel
theorem dX12_fieldsRight_155 : decode cX12_fieldsRight 155 = .ok (.aload_n 0, 1) := by decide +kernel
theorem dX12_fieldsRight_156 : decode cX12_fieldsRight 156 = .ok (.getfield 46, 3) := by decide +kernel
theorem dX12_fieldsRight_159 : decode cX12_fieldsRight 159 = .ok (.iload_n 1, 1) := by decide +kernel
theorem dX12_fieldsRight_160 : decode cX12_fieldsRight 160 = .ok (.iaload, 1) := by decide +kernel
theorem dX12_fieldsRight_161 : decode cX12_fieldsRight 161 = .ok (.invokevirtual 183, 3) := by decide +kernel
theorem dX12_fieldsRight_164 : decode cX12_fieldsRight 164 = .ok (.ireturn, 1) := by decide +kernel
theorem dX12_fieldsRight_165 : decode cX12_fieldsRight 165 = .ok (.iinc 1 1, 3) := by decide +kernel
theorem dX12_fieldsRight_168 : decode cX12_fieldsRight 168 = .ok (.goto (-166), 3) := by decide +kernel
theorem dX12_fieldsRight_171 : decode cX12_fieldsRight 171 = .ok (.iconst 1, 1) := by decide +kernel
theorem dX12_fieldsRight_172 : decode cX12_fieldsRight 172 = .ok (.ireturn, 1) := by decide +kernel
theorem dX12_firstBroken_0 : decode cX12_firstBroken 0 = .ok (.iconst 0, 1) := by decide +kernel
theorem dX12_firstBroken_1 : decode cX12_firstBroken 1 = .ok (.istore_n 3, 1) := by decide +kernel
theorem dX12_firstBroken_2 : decode cX12_firstBroken 2 = .ok (.iload_n 3, 1) := by decide +kernel
theorem dX12_firstBroken_3 : decode cX12_firstBroken 3 = .ok (.aload_n 0, 1) := by decide +kernel
theorem dX12_firstBroken_4 : decode cX12_firstBroken 4 = .ok (.getfield 264, 3) := by decide +kernel
theorem dX12_firstBroken_7 : decode cX12_firstBroken 7 = .ok (.if_icmp .ge 21, 3) := by decide +kernel
theorem dX12_firstBroken_10 : decode cX12_firstBroken 10 = .ok (.aload_n 0, 1) := by decide +kernel
theorem dX12_firstBroken_11 : decode cX12_firstBroken 11 = .ok (.iload_n 3, 1) := by decide +kernel
theorem dX12_firstBroken_12 : decode cX12_firstBroken 12 = .ok (.iload_n 1, 1) := by decide +kernel
theorem dX12_firstBroken_13 : decode cX12_firstBroken 13 = .ok (.iload_n 2, 1) := by decide +kernel
theorem dX12_firstBroken_14 : decode cX12_firstBroken 14 = .ok (.invokevirtual 304, 3) := by decide +kernel
theorem dX12_firstBroken_17 : decode cX12_firstBroken 17 = .ok (.ifCond .eq 5, 3) := by decide +kernel
theorem dX12_firstBroken_20 : decode cX12_firstBroken 20 = .ok (.iload_n 3, 1) := by decide +kernel
theorem dX12_firstBroken_21 : decode cX12_firstBroken 21 = .ok (.ireturn, 1) := by decide +kernel
theorem dX12_firstBroken_22 : decode cX12_firstBroken 22 = .ok (.iinc 3 1, 3) := by decide +kernel
theorem dX12_firstBroken_25 : decode cX12_firstBroken 25 = .ok (.goto (-23), 3) := by decide +kernel
theorem dX12_firstBroken_28 : decode cX12_firstBroken 28 = .ok (.iconst (-1), 1) := by decide +kernel
theorem dX12_firstBroken_29 : decode cX12_firstBroken 29 = .ok (.ireturn, 1) := by decide +kernel
theorem dX12_fits_0 : decode cX12_fits 0 = .ok (.iload_n 2, 1) := by decide +kernel
theorem dX12_fits_1 : decode cX12_fits 1 = .ok (.aload_n 0, 1) := by decide +kernel
theorem dX12_fits_2 : decode cX12_fits 2 = .ok (.getfield 34, 3) := by decide +kernel
theorem dX12_fits_5 : decode cX12_fits 5 = .ok (.iload_n 1, 1) := by decide +kernel
theorem dX12_fits_6 : decode cX12_fits 6 = .ok (.iaload, 1) := by decide +kernel
theorem dX12_fits_7 : decode cX12_fits 7 = .ok (.aload_n 0, 1) := by decide +kernel
theorem dX12_fits_8 : decode cX12_fits 8 = .ok (.getfield 37, 3) := by decide +kernel
theorem dX12_fits_11 : decode cX12_fits 11 = .ok (.iload_n 1, 1) := by decide +kernel
theorem dX12_fits_12 : decode cX12_fits 12 = .ok (.iaload, 1) := by decide +kernel
theorem dX12_fits_13 : decode cX12_fits 13 = .ok (.isub, 1) := by decide +kernel
theorem dX12_fits_14 : decode cX12_fits 14 = .ok (.iconst 1, 1) := by decide +kernel
theorem dX12_fits_15 : decode cX12_fits 15 = .ok (.iadd, 1) := by decide +kernel
theorem dX12_fits_16 : decode cX12_fits 16 = .ok (.ishr, 1) := by decide +kernel
theorem dX12_fits_17 : decode cX12_fits 17 = .ok (.ifCond .ne 7, 3) := by decide +kernel
theorem dX12_fits_20 : decode cX12_fits 20 = .ok (.iconst 1, 1) := by decide +kernel
theorem dX12_fits_21 : decode cX12_fits 21 = .ok (.goto 4, 3) := by decide +kernel
theorem dX12_fits_24 : decode cX12_fits 24 = .ok (.iconst 0, 1) := by decide +kernel
theorem dX12_fits_25 : decode cX12_fits 25 = .ok (.ireturn, 1) := by decide +kernel
theorem dX12_flush_0 : decode cX12_flush 0 = .ok (.aload_n 0, 1) := by decide +kernel
theorem dX12_flush_1 : decode cX12_flush 1 = .ok (.iconst 0, 1) := by decide +kernel
theorem dX12_flush_2 : decode cX12_flush 2 = .ok (.putfield 161, 3) := by decide +kernel
theorem dX12_flush_5 : decode cX12_flush 5 = .ok (.aload_n 0, 1) := by decide +kernel
theorem dX12_flush_6 : decode cX12_flush 6 = .ok (.invokevirtual 369, 3) := by decide +kernel
theorem dX12_flush_9 : decode cX12_flush 9 = .ok (.iconst 0, 1) := by decide +kernel
theorem dX12_flush_10 : decode cX12_flush 10 = .ok (.istore_n 1, 1) := by decide +kernel
theorem dX12_flush_11 : decode cX12_flush 11 = .ok (.iload_n 1, 1) := by decide +kernel
theorem dX12_flush_12 : decode cX12_flush 12 = .ok (.aload_n 0, 1) := by decide +kernel
theorem dX12_flush_13 : decode cX12_flush 13 = .ok (.getfield 288, 3) := by decide +kernel
theorem dX12_flush_16 : decode cX12_flush 16 = .ok (.if_icmp .ge 78, 3) := by decide +kernel
theorem dX12_flush_19 : decode cX12_flush 19 = .ok (.iconst 0, 1) := by decide +kernel
theorem dX12_flush_20 : decode cX12_flush 20 = .ok (.istore_n 2, 1) := by decide +kernel
theorem dX12_flush_21 : decode cX12_flush 21 = .ok (.iconst 0, 1) := by decide +kernel
theorem dX12_flush_22 : decode cX12_flush 22 = .ok (.istore_n 3, 1) := by decide +kernel
theorem dX12_flush_23 : decode cX12_flush 23 = .ok (.iload_n 3, 1) := by decide +kernel
theorem dX12_flush_24 : decode cX12_flush 24 = .ok (.iload_n 1, 1) := by decide +kernel
theorem dX12_flush_25 : decode cX12_flush 25 = .ok (.if_icmp .ge 44, 3) := by decide +kernel
theorem dX12_flush_28 : decode cX12_flush 28 = .ok (.iload_n 2, 1) := by decide +kernel
theorem dX12_flush_29 : decode cX12_flush 29 = .ok (.ifCond .ne 28, 3) := by decide +kernel
theorem dX12_flush_32 : decode cX12_flush 32 = .ok (.aload_n 0, 1) := by decide +kernel
theorem dX12_flush_33 : decode cX12_flush 33 = .ok (.getfield 83, 3) := by decide +kernel
theorem dX12_flush_36 : decode cX12_flush 36 = .ok (.aload_n 0, 1) := by decide +kernel
theorem dX12_flush_37 : decode cX12_flush 37 = .ok (.getfield 128, 3) := by decide +kernel
theorem dX12_flush_40 : decode cX12_flush 40 = .ok (.iload_n 3, 1) := by decide +kernel
theorem dX12_flush_41 : decode cX12_flush 41 = .ok (.iaload, 1) := by decide +kernel
theorem dX12_flush_42 : decode cX12_flush 42 = .ok (.iaload, 1) := by decide +kernel
theorem dX12_flush_43 : decode cX12_flush 43 = .ok (.aload_n 0, 1) := by decide +kernel
theorem dX12_flush_44 : decode cX12_flush 44 = .ok (.getfield 83, 3) := by decide +kernel
theorem dX12_flush_47 : decode cX12_flush 47 = .ok (.aload_n 0, 1) := by decide +kernel
theorem dX12_flush_48 : decode cX12_flush 48 = .ok (.getfield 128, 3) := by decide +kernel
theorem dX12_flush_51 : decode cX12_flush 51 = .ok (.iload_n 1, 1) := by decide +kernel
theorem dX12_flush_52 : decode cX12_flush 52 = .ok (.iaload, 1) := by decide +kernel
theorem dX12_flush_53 : decode cX12_flush 53 = .ok (.iaload, 1) := by decide +kernel
theorem dX12_flush_54 : decode cX12_flush 54 = .ok (.if_icmp .ne 7, 3) := by decide +kernel
theorem dX12_flush_57 : decode cX12_flush 57 = .ok (.iconst 1, 1) := by decide +kernel
theorem dX12_flush_58 : decode cX12_flush 58 = .ok (.goto 4, 3) := by decide +kernel
theorem dX12_flush_61 : decode cX12_flush 61 = .ok (.iconst 0, 1) := by decide +kernel
theorem dX12_flush_62 : decode cX12_flush 62 = .ok (.istore_n 2, 1) := by decide +kernel
theorem dX12_flush_63 : decode cX12_flush 63 = .ok (.iinc 3 1, 3) := by decide +kernel
theorem dX12_flush_66 : decode cX12_flush 66 = .ok (.goto (-43), 3) := by decide +kernel
theorem dX12_flush_69 : decode cX12_flush 69 = .ok (.iload_n 2, 1) := by decide +kernel
theorem dX12_flush_70 : decode cX12_flush 70 = .ok (.ifCond .ne 18, 3) := by decide +kernel
theorem dX12_flush_73 : decode cX12_flush 73 = .ok (.aload_n 0, 1) := by decide +kernel
theorem dX12_flush_74 : decode cX12_flush 74 = .ok (.aload_n 0, 1) := by decide +kernel
theorem dX12_flush_75 : decode cX12_flush 75 = .ok (.getfield 83, 3) := by decide +kernel
theorem dX12_flush_78 : decode cX12_flush 78 = .ok (.aload_n 0, 1) := by decide +kernel
theorem dX12_flush_79 : decode cX12_flush 79 = .ok (.getfield 128, 3) := by decide +kernel
theorem dX12_flush_82 : decode cX12_flush 82 = .ok (.iload_n 1, 1) := by decide +kernel
theorem dX12_flush_83 : decode cX12_flush 83 = .ok (.iaload, 1) := by decide +kernel
theorem dX12_flush_84 : decode cX12_flush 84 = .ok (.iaload, 1) := by decide +kernel
theorem dX12_flush_85 : decode cX12_flush 85 = .ok (.invokevirtual 384, 3) := by decide +kernel
theorem dX12_flush_88 : decode cX12_flush 88 = .ok (.iinc 1 1, 3) := by decide +kernel
theorem dX12_flush_91 : decode cX12_flush 91 = .ok (.goto (-80), 3) := by decide +kernel
theorem dX12_flush_94 : decode cX12_flush 94 = .ok (.aload_n 0, 1) := by decide +kernel
theorem dX12_flush_95 : decode cX12_flush 95 = .ok (.invokevirtual 375, 3) := by decide +kernel
theorem dX12_flush_98 : decode cX12_flush 98 = .ok (.istore_n 1, 1) := by decide +kernel
theorem dX12_flush_99 : decode cX12_flush 99 = .ok (.iload_n 1, 1) := by decide +kernel
theorem dX12_flush_100 : decode cX12_flush 100 = .ok (.bipush (-2), 2) := by decide +kernel
theorem dX12_flush_102 : decode cX12_flush 102 = .ok (.if_icmp .eq 8, 3) := by decide +kernel
theorem dX12_flush_105 : decode cX12_flush 105 = .ok (.aload_n 0, 1) := by decide +kernel
theorem dX12_flush_106 : decode cX12_flush 106 = .ok (.iconst 0, 1) := by decide +kernel
theorem dX12_flush_107 : decode cX12_flush 107 = .ok (.putfield 288, 3) := by decide +kernel
theorem dX12_flush_110 : decode cX12_flush 110 = .ok (.iload_n 1, 1) := by decide +kernel
theorem dX12_flush_111 : decode cX12_flush 111 = .ok (.ireturn, 1) := by decide +kernel
theorem dX12_flushRegister_0 : decode cX12_flushRegister 0 = .ok (.iconst 0, 1) := by decide +kernel
theorem dX12_flushRegister_1 : decode cX12_flushRegister 1 = .ok (.istore_n 2, 1) := by decide +kernel
theorem dX12_flushRegister_2 : decode cX12_flushRegister 2 = .ok (.iconst 0, 1) := by decide +kernel
theorem dX12_flushRegister_3 : decode cX12_flushRegister 3 = .ok (.istore_n 3, 1) := by decide +kernel
theorem dX12_flushRegister_4 : decode cX12_flushRegister 4 = .ok (.iload_n 3, 1) := by decide +kernel
theorem dX12_flushRegister_5 : decode cX12_flushRegister 5 = .ok (.bipush 26, 2) := by decide +kernel
theorem dX12_flushRegister_7 : decode cX12_flushRegister 7 = .ok (.if_icmp .ge 100, 3) := by decide +kernel
theorem dX12_flushRegister_10 : decode cX12_flushRegister 10 = .ok (.iconst (-1), 1) := by decide +kernel
theorem dX12_flushRegister_11 : decode cX12_flushRegister 11 = .ok (.istore 4, 2) := by decide +kernel
theorem dX12_flushRegister_13 : decode cX12_flushRegister 13 = .ok (.iconst 0, 1) := by decide +kernel
theorem dX12_flushRegister_14 : decode cX12_flushRegister 14 = .ok (.istore 5, 2) := by decide +kernel
theorem dX12_flushRegister_16 : decode cX12_flushRegister 16 = .ok (.iload 5, 2) := by decide +kernel
theorem dX12_flushRegister_18 : decode cX12_flushRegister 18 = .ok (.aload_n 0, 1) := by decide +kernel
theorem dX12_flushRegister_19 : decode cX12_flushRegister 19 = .ok (.getfield 288, 3) := by decide +kernel
theorem dX12_flushRegister_22 : decode cX12_flushRegister 22 = .ok (.if_icmp .ge 29, 3) := by decide +kernel
theorem dX12_flushRegister_25 : decode cX12_flushRegister 25 = .ok (.aload_n 0, 1) := by decide +kernel
theorem dX12_flushRegister_26 : decode cX12_flushRegister 26 = .ok (.getfield 128, 3) := by decide +kernel
theorem dX12_flushRegister_29 : decode cX12_flushRegister 29 = .ok (.iload 5, 2) := by decide +kernel
theorem dX12_flushRegister_31 : decode cX12_flushRegister 31 = .ok (.iaload, 1) := by decide +kernel
theorem dX12_flushRegister_32 : decode cX12_flushRegister 32 = .ok (.iload_n 3, 1) := by decide +kernel
theorem dX12_flushRegister_33 : decode cX12_flushRegister 33 = .ok (.if_icmp .ne 8, 3) := by decide +kernel
theorem dX12_flushRegister_36 : decode cX12_flushRegister 36 = .ok (.iload 5, 2) := by decide +kernel
theorem dX12_flushRegister_38 : decode cX12_flushRegister 38 = .ok (.goto 5, 3) := by decide +kernel
theorem dX12_flushRegister_41 : decode cX12_flushRegister 41 = .ok (.iload 4, 2) := by decide +kernel
theorem dX12_flushRegister_43 : decode cX12_flushRegister 43 = .ok (.istore 4, 2) := by decide +kernel
theorem dX12_flushRegister_45 : decode cX12_flushRegister 45 = .ok (.iinc 5 1, 3) := by decide +kernel
theorem dX12_flushRegister_48 : decode cX12_flushRegister 48 = .ok (.goto (-32), 3) := by decide +kernel
theorem dX12_flushRegister_51 : decode cX12_flushRegister 51 = .ok (.iload 4, 2) := by decide +kernel
theorem dX12_flushRegister_53 : decode cX12_flushRegister 53 = .ok (.iconst (-1), 1) := by decide +kernel
theorem dX12_flushRegister_54 : decode cX12_flushRegister 54 = .ok (.if_icmp .eq 47, 3) := by decide +kernel
theorem dX12_flushRegister_57 : decode cX12_flushRegister 57 = .ok (.aload_n 0, 1) := by decide +kernel
theorem dX12_flushRegister_58 : decode cX12_flushRegister 58 = .ok (.getfield 83, 3) := by decide +kernel
theorem dX12_flushRegister_61 : decode cX12_flushRegister 61 = .ok (.iload_n 3, 1) := by decide +kernel
theorem dX12_flushRegister_62 : decode cX12_flushRegister 62 = .ok (.iaload, 1) := by decide +kernel
theorem dX12_flushRegister_63 : decode cX12_flushRegister 63 = .ok (.iload_n 1, 1) := by decide +kernel
theorem dX12_flushRegister_64 : decode cX12_flushRegister 64 = .ok (.if_icmp .ne 37, 3) := by decide +kernel
theorem dX12_flushRegister_67 : decode cX12_flushRegister 67 = .ok (.iload_n 2, 1) := by decide +kernel
theorem dX12_flushRegister_68 : decode cX12_flushRegister 68 = .ok (.ifCond .ne 27, 3) := by decide +kernel
theorem dX12_flushRegister_71 : decode cX12_flushRegister 71 = .ok (.aload_n 0, 1) := by decide +kernel
theorem dX12_flushRegister_72 : decode cX12_flushRegister 72 = .ok (.iload_n 3, 1) := by decide +kernel
theorem dX12_flushRegister_73 : decode cX12_flushRegister 73 = .ok (.invokevirtual 297, 3) := by decide +kernel
theorem dX12_flushRegister_76 : decode cX12_flushRegister 76 = .ok (.ifCond .eq 19, 3) := by decide +kernel
theorem dX12_flushRegister_79 : decode cX12_flushRegister 79 = .ok (.aload_n 0, 1) := by decide +kernel
theorem dX12_flushRegister_80 : decode cX12_flushRegister 80 = .ok (.getfield 107, 3) := by decide +kernel
theorem dX12_flushRegister_83 : decode cX12_flushRegister 83 = .ok (.iload_n 3, 1) := by decide +kernel
theorem dX12_flushRegister_84 : decode cX12_flushRegister 84 = .ok (.iaload, 1) := by decide +kernel
theorem dX12_flushRegister_85 : decode cX12_flushRegister 85 = .ok (.aload_n 0, 1) := by decide +kernel
theorem dX12_flushRegister_86 : decode cX12_flushRegister 86 = .ok (.getfield 131, 3) := by decide +kernel
theorem dX12_flushRegister_89 : decode cX12_flushRegister 89 = .ok (.iload 4, 2) := by decide +kernel
theorem dX12_flushRegister_91 : decode cX12_flushRegister 91 = .ok (.iaload, 1) := by decide +kernel
theorem dX12_flushRegister_92 : decode cX12_flushRegister 92 = .ok (.if_icmp .eq 7, 3) := by decide +kernel
theorem dX12_flushRegister_95 : decode cX12_flushRegister 95 = .ok (.iconst 1, 1) := by decide +kernel
theorem dX12_flushRegister_96 : decode cX12_flushRegister 96 = .ok (.goto 4, 3) := by decide +kernel
theorem dX12_flushRegister_99 : decode cX12_flushRegister 99 = .ok (.iconst 0, 1) := by decide +kernel
theorem dX12_flushRegister_100 : decode cX12_flushRegister 100 = .ok (.istore_n 2, 1) := by decide +kernel
theorem dX12_flushRegister_101 : decode cX12_flushRegister 101 = .ok (.iinc 3 1, 3) := by decide +kernel
theorem dX12_flushRegister_104 : decode cX12_flushRegister 104 = .ok (.goto (-100), 3) := by decide +kernel
theorem dX12_flushRegister_107 : decode cX12_flushRegister 107 = .ok (.iload_n 2, 1) := by decide +kernel
theorem dX12_flushRegister_108 : decode cX12_flushRegister 108 = .ok (.ifCond .ne 4, 3) := by decide +kernel
theorem dX12_flushRegister_111 : decode cX12_flushRegister 111 = .ok (.return_, 1) := by decide +kernel
theorem dX12_flushRegister_112 : decode cX12_flushRegister 112 = .ok (.aload_n 0, 1) := by decide +kernel
theorem dX12_flushRegister_113 : decode cX12_flushRegister 113 = .ok (.iload_n 1, 1) := by decide +kernel
theorem dX12_flushRegister_114 : decode cX12_flushRegister 114 = .ok (.invokevirtual 353, 3) := by decide +kernel
theorem dX12_flushRegister_117 : decode cX12_flushRegister 117 = .ok (.aload_n 0, 1) := by decide +kernel
theorem dX12_flushRegister_118 : decode cX12_flushRegister 118 = .ok (.iload_n 1, 1) := by decide +kernel
theorem dX12_flushRegister_119 : decode cX12_flushRegister 119 = .ok (.invokevirtual 343, 3) := by decide +kernel
theorem dX12_flushRegister_122 : decode cX12_flushRegister 122 = .ok (.istore_n 3, 1) := by decide +kernel
theorem dX12_flushRegister_123 : decode cX12_flushRegister 123 = .ok (.iconst 0, 1) := by decide +kernel
theorem dX12_flushRegister_124 : decode cX12_flushRegister 124 = .ok (.istore 4, 2) := by decide +kernel
theorem dX12_flushRegister_126 : decode cX12_flushRegister 126 = .ok (.iload 4, 2) := by decide +kernel
theorem dX12_flushRegister_128 : decode cX12_flushRegister 128 = .ok (.aload_n 0, 1) := by decide +kernel
theorem dX12_flushRegister_129 : decode cX12_flushRegister 129 = .ok (.getfield 288, 3) := by decide +kernel
theorem dX12_flushRegister_132 : decode cX12_flushRegister 132 = .ok (.if_icmp .ge 74, 3) := by decide +kernel
theorem dX12_flushRegister_135 : decode cX12_flushRegister 135 = .ok (.aload_n 0, 1) := by decide +kernel
theorem dX12_flushRegister_136 : decode cX12_flushRegister 136 = .ok (.getfield 128, 3) := by decide +kernel
theorem dX12_flushRegister_139 : decode cX12_flushRegister 139 = .ok (.iload 4, 2) := by decide +kernel
theorem dX12_flushRegister_141 : decode cX12_flushRegister 141 = .ok (.iaload, 1) := by decide +kernel
theorem dX12_flushRegister_142 : decode cX12_flushRegister 142 = .ok (.istore 5, 2) := by decide +kernel
theorem dX12_flushRegister_144 : decode cX12_flushRegister 144 = .ok (.aload_n 0, 1) := by decide +kernel
theorem dX12_flushRegister_145 : decode cX12_flushRegister 145 = .ok (.getfield 83, 3) := by decide +kernel
theorem dX12_flushRegister_148 : decode cX12_flushRegister 148 = .ok (.iload 5, 2) := by decide +kernel
theorem dX12_flushRegister_150 : decode cX12_flushRegister 150 = .ok (.iaload, 1) := by decide +kernel
theorem dX12_flushRegister_151 : decode cX12_flushRegister 151 = .ok (.iload_n 1, 1) := by decide +kernel
theorem dX12_flushRegister_152 : decode cX12_flushRegister 152 = .ok (.if_icmp .eq 6, 3) := by decide +kernel
theorem dX12_flushRegister_155 : decode cX12_flushRegister 155 = .ok (.goto 45, 3) := by decide +kernel
theorem dX12_flushRegister_158 : decode cX12_flushRegister 158 = .ok (.aload_n 0, 1) := by decide +kernel
theorem dX12_flushRegister_159 : decode cX12_flushRegister 159 = .ok (.iload_n 3, 1) := by decide +kernel
theorem dX12_flushRegister_160 : decode cX12_flushRegister 160 = .ok (.iload 5, 2) := by decide +kernel
theorem dX12_flushRegister_162 : decode cX12_flushRegister 162 = .ok (.aload_n 0, 1) := by decide +kernel
theorem dX12_flushRegister_163 : decode cX12_flushRegister 163 = .ok (.iload 5, 2) := by decide +kernel
theorem dX12_flushRegister_165 : decode cX12_flushRegister 165 = .ok (.invokevirtual 297, 3) := by decide +kernel
theorem dX12_flushRegister_168 : decode cX12_flushRegister 168 = .ok (.ifCond .eq 13, 3) := by decide +kernel
theorem dX12_flushRegister_171 : decode cX12_flushRegister 171 = .ok (.aload_n 0, 1) := by decide +kernel
theorem dX12_flushRegister_172 : decode cX12_flushRegister 172 = .ok (.getfield 131, 3) := by decide +kernel
theorem dX12_flushRegister_175 : decode cX12_flushRegister 175 = .ok (.iload 4, 2) := by decide +kernel
theorem dX12_flushRegister_177 : decode cX12_flushRegister 177 = .ok (.iaload, 1) := by decide +kernel
theorem dX12_flushRegister_178 : decode cX12_flushRegister 178 = .ok (.goto 18, 3) := by decide +kernel
theorem dX12_flushRegister_181 : decode cX12_flushRegister 181 = .ok (.aload_n 0, 1) := by decide +kernel
theorem dX12_flushRegister_182 : decode cX12_flushRegister 182 = .ok (.iload 5, 2) := by decide +kernel
theorem dX12_flushRegister_184 : decode cX12_flushRegister 184 = .ok (.iload_n 3, 1) := by decide +kernel
theorem dX12_flushRegister_185 : decode cX12_flushRegister 185 = .ok (.invokevirtual 294, 3) := by decide +kernel
theorem dX12_flushRegister_188 : decode cX12_flushRegister 188 = .ok (.aload_n 0, 1) := by decide +kernel
theorem dX12_flushRegister_189 : decode cX12_flushRegister 189 = .ok (.getfield 131, 3) := by decide +kernel
theorem dX12_flushRegister_192 : decode cX12_flushRegister 192 = .ok (.iload 4, 2) := by decide +kernel
theorem dX12_flushRegister_194 : decode cX12_flushRegister 194 = .ok (.iaload, 1) := by decide +kernel
theorem dX12_flushRegister_195 : decode cX12_flushRegister 195 = .ok (.ior, 1) := by decide +kernel
theorem dX12_flushRegister_196 : decode cX12_flushRegister 196 = .ok (.invokevirtual 346, 3) := by decide +kernel
theorem dX12_flushRegister_199 : decode cX12_flushRegister 199 = .ok (.istore_n 3, 1) := by decide +kernel
theorem dX12_flushRegister_200 : decode cX12_flushRegister 200 = .ok (.iinc 4 1, 3) := by decide +kernel
theorem dX12_flushRegister_203 : decode cX12_flushRegister 203 = .ok (.goto (-77), 3) := by decide +kernel
theorem dX12_flushRegister_206 : decode cX12_flushRegister 206 = .ok (.aload_n 0, 1) := by decide +kernel
theorem dX12_flushRegister_207 : decode cX12_flushRegister 207 = .ok (.iload_n 1, 1) := by decide +kernel
theorem dX12_flushRegister_208 : decode cX12_flushRegister 208 = .ok (.iload_n 3, 1) := by decide +kernel
theorem dX12_flushRegister_209 : decode cX12_flushRegister 209 = .ok (.invokevirtual 350, 3) := by decide +kernel
theorem dX12_flushRegister_212 : decode cX12_flushRegister 212 = .ok (.return_, 1) := by decide +kernel
theorem dX12_found_0 : decode cX12_found 0 = .ok (.aload_n 0, 1) := by decide +kernel
theorem dX12_found_1 : decode cX12_found 1 = .ok (.iconst 0, 1) := by decide +kernel
theorem dX12_found_2 : decode cX12_found 2 = .ok (.putfield 161, 3) := by decide +kernel
theorem dX12_found_5 : decode cX12_found 5 = .ok (.iload_n 1, 1) := by decide +kernel
theorem dX12_found_6 : decode cX12_found 6 = .ok (.ifCond .ne 10, 3) := by decide +kernel
theorem dX12_found_9 : decode cX12_found 9 = .ok (.aload_n 0, 1) := by decide +kernel
theorem dX12_found_10 : decode cX12_found 10 = .ok (.getfield 270, 3) := by decide +kernel
theorem dX12_found_13 : decode cX12_found 13 = .ok (.goto 16, 3) := by decide +kernel
theorem dX12_found_16 : decode cX12_found 16 = .ok (.iload_n 1, 1) := by decide +kernel
theorem dX12_found_17 : decode cX12_found 17 = .ok (.iconst 1, 1) := by decide +kernel
theorem dX12_found_18 : decode cX12_found 18 = .ok (.if_icmp .ne 10, 3) := by decide +kernel
theorem dX12_found_21 : decode cX12_found 21 = .ok (.aload_n 0, 1) := by decide +kernel
theorem dX12_found_22 : decode cX12_found 22 = .ok (.getfield 273, 3) := by decide +kernel
theorem dX12_found_25 : decode cX12_found 25 = .ok (.goto 4, 3) := by decide +kernel
theorem dX12_found_28 : decode cX12_found 28 = .ok (.iconst (-1), 1) := by decide +kernel
theorem dX12_found_29 : decode cX12_found 29 = .ok (.ireturn, 1) := by decide +kernel
theorem dX12_goOn_0 : decode cX12_goOn 0 = .ok (.aload_n 0, 1) := by decide +kernel
theorem dX12_goOn_1 : decode cX12_goOn 1 = .ok (.getfield 143, 3) := by decide +kernel
theorem dX12_goOn_4 : decode cX12_goOn 4 = .ok (.iload_n 1, 1) := by decide +kernel
theorem dX12_goOn_5 : decode cX12_goOn 5 = .ok (.iaload, 1) := by decide +kernel
theorem dX12_goOn_6 : decode cX12_goOn 6 = .ok (.istore_n 2, 1) := by decide +kernel
theorem dX12_goOn_7 : decode cX12_goOn 7 = .ok (.iload_n 2, 1) := by decide +kernel
theorem dX12_goOn_8 : decode cX12_goOn 8 = .ok (.bipush 40, 2) := by decide +kernel
theorem dX12_goOn_10 : decode cX12_goOn 10 = .ok (.if_icmp .eq 13, 3) := by decide +kernel
theorem dX12_goOn_13 : decode cX12_goOn 13 = .ok (.aload_n 0, 1) := by decide +kernel
theorem dX12_goOn_14 : decode cX12_goOn 14 = .ok (.getfield 134, 3) := by decide +kernel
theorem dX12_goOn_17 : decode cX12_goOn 17 = .ok (.iload_n 2, 1) := by decide +kernel
theorem dX12_goOn_18 : decode cX12_goOn 18 = .ok (.iaload, 1) := by decide +kernel
theorem dX12_goOn_19 : decode cX12_goOn 19 = .ok (.iconst 3, 1) := by decide +kernel
theorem dX12_goOn_20 : decode cX12_goOn 20 = .ok (.if_icmp .ne 21, 3) := by decide +kernel
theorem dX12_goOn_23 : decode cX12_goOn 23 = .ok (.aload_n 0, 1) := by decide +kernel
theorem dX12_goOn_24 : decode cX12_goOn 24 = .ok (.iload_n 1, 1) := by decide +kernel
