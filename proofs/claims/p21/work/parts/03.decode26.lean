theorem dX8_write_4 : decode cX8_write 4 = .ok (.getfield 54, 3) := by decide +kernel
theorem dX8_write_7 : decode cX8_write 7 = .ok (.astore_n 3, 1) := by decide +kernel
theorem dX8_write_8 : decode cX8_write 8 = .ok (.iconst 0, 1) := by decide +kernel
theorem dX8_write_9 : decode cX8_write 9 = .ok (.istore 4, 2) := by decide +kernel
theorem dX8_write_11 : decode cX8_write 11 = .ok (.iload 4, 2) := by decide +kernel
theorem dX8_write_13 : decode cX8_write 13 = .ok (.aload_n 3, 1) := by decide +kernel
theorem dX8_write_14 : decode cX8_write 14 = .ok (.getfield 58, 3) := by decide +kernel
theorem dX8_write_17 : decode cX8_write 17 = .ok (.if_icmp .ge 125, 3) := by decide +kernel
theorem dX8_write_20 : decode cX8_write 20 = .ok (.aload_n 3, 1) := by decide +kernel
theorem dX8_write_21 : decode cX8_write 21 = .ok (.getfield 63, 3) := by decide +kernel
theorem dX8_write_24 : decode cX8_write 24 = .ok (.iload 4, 2) := by decide +kernel
theorem dX8_write_26 : decode cX8_write 26 = .ok (.iaload, 1) := by decide +kernel
theorem dX8_write_27 : decode cX8_write 27 = .ok (.ifCond .ne 35, 3) := by decide +kernel
theorem dX8_write_30 : decode cX8_write 30 = .ok (.aload_n 0, 1) := by decide +kernel
theorem dX8_write_31 : decode cX8_write 31 = .ok (.aload_n 3, 1) := by decide +kernel
theorem dX8_write_32 : decode cX8_write 32 = .ok (.getfield 73, 3) := by decide +kernel
theorem dX8_write_35 : decode cX8_write 35 = .ok (.iload 4, 2) := by decide +kernel
theorem dX8_write_37 : decode cX8_write 37 = .ok (.iaload, 1) := by decide +kernel
theorem dX8_write_38 : decode cX8_write 38 = .ok (.iload_n 1, 1) := by decide +kernel
theorem dX8_write_39 : decode cX8_write 39 = .ok (.iload_n 2, 1) := by decide +kernel
theorem dX8_write_40 : decode cX8_write 40 = .ok (.invokevirtual 69, 3) := by decide +kernel
theorem dX8_write_43 : decode cX8_write 43 = .ok (.ifCond .eq 19, 3) := by decide +kernel
theorem dX8_write_46 : decode cX8_write 46 = .ok (.aload_n 0, 1) := by decide +kernel
theorem dX8_write_47 : decode cX8_write 47 = .ok (.dup, 1) := by decide +kernel
theorem dX8_write_48 : decode cX8_write 48 = .ok (.getfield 25, 3) := by decide +kernel
theorem dX8_write_51 : decode cX8_write 51 = .ok (.iconst 1, 1) := by decide +kernel
theorem dX8_write_52 : decode cX8_write 52 = .ok (.iload 4, 2) := by decide +kernel
theorem dX8_write_54 : decode cX8_write 54 = .ok (.ishl, 1) := by decide +kernel
theorem dX8_write_55 : decode cX8_write 55 = .ok (.ior, 1) := by decide +kernel
theorem dX8_write_56 : decode cX8_write 56 = .ok (.putfield 25, 3) := by decide +kernel
theorem dX8_write_59 : decode cX8_write 59 = .ok (.goto 77, 3) := by decide +kernel
theorem dX8_write_62 : decode cX8_write 62 = .ok (.aload_n 3, 1) := by decide +kernel
theorem dX8_write_63 : decode cX8_write 63 = .ok (.getfield 63, 3) := by decide +kernel
theorem dX8_write_66 : decode cX8_write 66 = .ok (.iload 4, 2) := by decide +kernel
theorem dX8_write_68 : decode cX8_write 68 = .ok (.iaload, 1) := by decide +kernel
theorem dX8_write_69 : decode cX8_write 69 = .ok (.iconst 2, 1) := by decide +kernel
theorem dX8_write_70 : decode cX8_write 70 = .ok (.if_icmp .ne 66, 3) := by decide +kernel
theorem dX8_write_73 : decode cX8_write 73 = .ok (.aload_n 0, 1) := by decide +kernel
theorem dX8_write_74 : decode cX8_write 74 = .ok (.aload_n 3, 1) := by decide +kernel
theorem dX8_write_75 : decode cX8_write 75 = .ok (.getfield 66, 3) := by decide +kernel
theorem dX8_write_78 : decode cX8_write 78 = .ok (.iload 4, 2) := by decide +kernel
theorem dX8_write_80 : decode cX8_write 80 = .ok (.iaload, 1) := by decide +kernel
theorem dX8_write_81 : decode cX8_write 81 = .ok (.iload_n 1, 1) := by decide +kernel
theorem dX8_write_82 : decode cX8_write 82 = .ok (.iload_n 2, 1) := by decide +kernel
theorem dX8_write_83 : decode cX8_write 83 = .ok (.invokevirtual 69, 3) := by decide +kernel
theorem dX8_write_86 : decode cX8_write 86 = .ok (.ifCond .eq 21, 3) := by decide +kernel
theorem dX8_write_89 : decode cX8_write 89 = .ok (.aload_n 0, 1) := by decide +kernel
theorem dX8_write_90 : decode cX8_write 90 = .ok (.dup, 1) := by decide +kernel
theorem dX8_write_91 : decode cX8_write 91 = .ok (.getfield 25, 3) := by decide +kernel
theorem dX8_write_94 : decode cX8_write 94 = .ok (.iconst 1, 1) := by decide +kernel
theorem dX8_write_95 : decode cX8_write 95 = .ok (.iload 4, 2) := by decide +kernel
theorem dX8_write_97 : decode cX8_write 97 = .ok (.ishl, 1) := by decide +kernel
theorem dX8_write_98 : decode cX8_write 98 = .ok (.iconst (-1), 1) := by decide +kernel
theorem dX8_write_99 : decode cX8_write 99 = .ok (.ixor, 1) := by decide +kernel
theorem dX8_write_100 : decode cX8_write 100 = .ok (.iand, 1) := by decide +kernel
theorem dX8_write_101 : decode cX8_write 101 = .ok (.putfield 25, 3) := by decide +kernel
theorem dX8_write_104 : decode cX8_write 104 = .ok (.goto 32, 3) := by decide +kernel
theorem dX8_write_107 : decode cX8_write 107 = .ok (.aload_n 0, 1) := by decide +kernel
theorem dX8_write_108 : decode cX8_write 108 = .ok (.aload_n 3, 1) := by decide +kernel
theorem dX8_write_109 : decode cX8_write 109 = .ok (.getfield 73, 3) := by decide +kernel
theorem dX8_write_112 : decode cX8_write 112 = .ok (.iload 4, 2) := by decide +kernel
theorem dX8_write_114 : decode cX8_write 114 = .ok (.iaload, 1) := by decide +kernel
theorem dX8_write_115 : decode cX8_write 115 = .ok (.iload_n 1, 1) := by decide +kernel
theorem dX8_write_116 : decode cX8_write 116 = .ok (.iload_n 2, 1) := by decide +kernel
theorem dX8_write_117 : decode cX8_write 117 = .ok (.invokevirtual 69, 3) := by decide +kernel
theorem dX8_write_120 : decode cX8_write 120 = .ok (.ifCond .eq 16, 3) := by decide +kernel
theorem dX8_write_123 : decode cX8_write 123 = .ok (.aload_n 0, 1) := by decide +kernel
theorem dX8_write_124 : decode cX8_write 124 = .ok (.dup, 1) := by decide +kernel
theorem dX8_write_125 : decode cX8_write 125 = .ok (.getfield 25, 3) := by decide +kernel
theorem dX8_write_128 : decode cX8_write 128 = .ok (.iconst 1, 1) := by decide +kernel
theorem dX8_write_129 : decode cX8_write 129 = .ok (.iload 4, 2) := by decide +kernel
theorem dX8_write_131 : decode cX8_write 131 = .ok (.ishl, 1) := by decide +kernel
theorem dX8_write_132 : decode cX8_write 132 = .ok (.ior, 1) := by decide +kernel
theorem dX8_write_133 : decode cX8_write 133 = .ok (.putfield 25, 3) := by decide +kernel
theorem dX8_write_136 : decode cX8_write 136 = .ok (.iinc 4 1, 3) := by decide +kernel
theorem dX8_write_139 : decode cX8_write 139 = .ok (.goto (-128), 3) := by decide +kernel
theorem dX8_write_142 : decode cX8_write 142 = .ok (.aload_n 0, 1) := by decide +kernel
theorem dX8_write_143 : decode cX8_write 143 = .ok (.getfield 9, 3) := by decide +kernel
theorem dX8_write_146 : decode cX8_write 146 = .ok (.iload_n 1, 1) := by decide +kernel
theorem dX8_write_147 : decode cX8_write 147 = .ok (.iload_n 2, 1) := by decide +kernel
theorem dX8_write_148 : decode cX8_write 148 = .ok (.aload_n 0, 1) := by decide +kernel
theorem dX8_write_149 : decode cX8_write 149 = .ok (.getfield 15, 3) := by decide +kernel
theorem dX8_write_152 : decode cX8_write 152 = .ok (.getfield 24, 3) := by decide +kernel
theorem dX8_write_155 : decode cX8_write 155 = .ok (.iload_n 1, 1) := by decide +kernel
theorem dX8_write_156 : decode cX8_write 156 = .ok (.iaload, 1) := by decide +kernel
theorem dX8_write_157 : decode cX8_write 157 = .ok (.iand, 1) := by decide +kernel
theorem dX8_write_158 : decode cX8_write 158 = .ok (.iastore, 1) := by decide +kernel
theorem dX8_write_159 : decode cX8_write 159 = .ok (.return_, 1) := by decide +kernel
theorem dX9_addFetch_0 : decode cX9_addFetch 0 = .ok (.aload_n 0, 1) := by decide +kernel
theorem dX9_addFetch_1 : decode cX9_addFetch 1 = .ok (.getfield 18, 3) := by decide +kernel
theorem dX9_addFetch_4 : decode cX9_addFetch 4 = .ok (.getfield 72, 3) := by decide +kernel
theorem dX9_addFetch_7 : decode cX9_addFetch 7 = .ok (.iload_n 1, 1) := by decide +kernel
theorem dX9_addFetch_8 : decode cX9_addFetch 8 = .ok (.iaload, 1) := by decide +kernel
theorem dX9_addFetch_9 : decode cX9_addFetch 9 = .ok (.ifCond .eq 16, 3) := by decide +kernel
theorem dX9_addFetch_12 : decode cX9_addFetch 12 = .ok (.aload_n 0, 1) := by decide +kernel
theorem dX9_addFetch_13 : decode cX9_addFetch 13 = .ok (.aload_n 0, 1) := by decide +kernel
theorem dX9_addFetch_14 : decode cX9_addFetch 14 = .ok (.getfield 18, 3) := by decide +kernel
theorem dX9_addFetch_17 : decode cX9_addFetch 17 = .ok (.getfield 55, 3) := by decide +kernel
theorem dX9_addFetch_20 : decode cX9_addFetch 20 = .ok (.iload_n 1, 1) := by decide +kernel
theorem dX9_addFetch_21 : decode cX9_addFetch 21 = .ok (.iaload, 1) := by decide +kernel
theorem dX9_addFetch_22 : decode cX9_addFetch 22 = .ok (.invokevirtual 58, 3) := by decide +kernel
theorem dX9_addFetch_25 : decode cX9_addFetch 25 = .ok (.return_, 1) := by decide +kernel
theorem dX9_addJoined_0 : decode cX9_addJoined 0 = .ok (.iconst 0, 1) := by decide +kernel
theorem dX9_addJoined_1 : decode cX9_addJoined 1 = .ok (.istore_n 2, 1) := by decide +kernel
theorem dX9_addJoined_2 : decode cX9_addJoined 2 = .ok (.iload_n 2, 1) := by decide +kernel
theorem dX9_addJoined_3 : decode cX9_addJoined 3 = .ok (.aload_n 1, 1) := by decide +kernel
theorem dX9_addJoined_4 : decode cX9_addJoined 4 = .ok (.getfield 75, 3) := by decide +kernel
theorem dX9_addJoined_7 : decode cX9_addJoined 7 = .ok (.if_icmp .ge 37, 3) := by decide +kernel
theorem dX9_addJoined_10 : decode cX9_addJoined 10 = .ok (.aload_n 0, 1) := by decide +kernel
theorem dX9_addJoined_11 : decode cX9_addJoined 11 = .ok (.aload_n 1, 1) := by decide +kernel
theorem dX9_addJoined_12 : decode cX9_addJoined 12 = .ok (.iload_n 2, 1) := by decide +kernel
theorem dX9_addJoined_13 : decode cX9_addJoined 13 = .ok (.invokevirtual 80, 3) := by decide +kernel
theorem dX9_addJoined_16 : decode cX9_addJoined 16 = .ok (.ifCond .eq 22, 3) := by decide +kernel
theorem dX9_addJoined_19 : decode cX9_addJoined 19 = .ok (.aload_n 0, 1) := by decide +kernel
theorem dX9_addJoined_20 : decode cX9_addJoined 20 = .ok (.aload_n 1, 1) := by decide +kernel
theorem dX9_addJoined_21 : decode cX9_addJoined 21 = .ok (.aload_n 0, 1) := by decide +kernel
theorem dX9_addJoined_22 : decode cX9_addJoined 22 = .ok (.getfield 18, 3) := by decide +kernel
theorem dX9_addJoined_25 : decode cX9_addJoined 25 = .ok (.getfield 55, 3) := by decide +kernel
theorem dX9_addJoined_28 : decode cX9_addJoined 28 = .ok (.aload_n 1, 1) := by decide +kernel
theorem dX9_addJoined_29 : decode cX9_addJoined 29 = .ok (.getfield 84, 3) := by decide +kernel
theorem dX9_addJoined_32 : decode cX9_addJoined 32 = .ok (.iload_n 2, 1) := by decide +kernel
theorem dX9_addJoined_33 : decode cX9_addJoined 33 = .ok (.iaload, 1) := by decide +kernel
theorem dX9_addJoined_34 : decode cX9_addJoined 34 = .ok (.iaload, 1) := by decide +kernel
theorem dX9_addJoined_35 : decode cX9_addJoined 35 = .ok (.invokevirtual 87, 3) := by decide +kernel
theorem dX9_addJoined_38 : decode cX9_addJoined 38 = .ok (.iinc 2 1, 3) := by decide +kernel
theorem dX9_addJoined_41 : decode cX9_addJoined 41 = .ok (.goto (-39), 3) := by decide +kernel
theorem dX9_addJoined_44 : decode cX9_addJoined 44 = .ok (.return_, 1) := by decide +kernel
theorem dX9_addPut_0 : decode cX9_addPut 0 = .ok (.aload_n 0, 1) := by decide +kernel
theorem dX9_addPut_1 : decode cX9_addPut 1 = .ok (.getfield 18, 3) := by decide +kernel
theorem dX9_addPut_4 : decode cX9_addPut 4 = .ok (.iload_n 1, 1) := by decide +kernel
theorem dX9_addPut_5 : decode cX9_addPut 5 = .ok (.invokevirtual 45, 3) := by decide +kernel
theorem dX9_addPut_8 : decode cX9_addPut 8 = .ok (.ifCond .eq 16, 3) := by decide +kernel
theorem dX9_addPut_11 : decode cX9_addPut 11 = .ok (.aload_n 0, 1) := by decide +kernel
theorem dX9_addPut_12 : decode cX9_addPut 12 = .ok (.getfield 27, 3) := by decide +kernel
theorem dX9_addPut_15 : decode cX9_addPut 15 = .ok (.iload_n 1, 1) := by decide +kernel
theorem dX9_addPut_16 : decode cX9_addPut 16 = .ok (.invokevirtual 51, 3) := by decide +kernel
theorem dX9_addPut_19 : decode cX9_addPut 19 = .ok (.iload_n 2, 1) := by decide +kernel
theorem dX9_addPut_20 : decode cX9_addPut 20 = .ok (.if_icmp .ne 4, 3) := by decide +kernel
theorem dX9_addPut_23 : decode cX9_addPut 23 = .ok (.return_, 1) := by decide +kernel
theorem dX9_addPut_24 : decode cX9_addPut 24 = .ok (.aload_n 0, 1) := by decide +kernel
theorem dX9_addPut_25 : decode cX9_addPut 25 = .ok (.getfield 18, 3) := by decide +kernel
theorem dX9_addPut_28 : decode cX9_addPut 28 = .ok (.getfield 55, 3) := by decide +kernel
theorem dX9_addPut_31 : decode cX9_addPut 31 = .ok (.iload_n 1, 1) := by decide +kernel
theorem dX9_addPut_32 : decode cX9_addPut 32 = .ok (.iaload, 1) := by decide +kernel
theorem dX9_addPut_33 : decode cX9_addPut 33 = .ok (.istore_n 3, 1) := by decide +kernel
theorem dX9_addPut_34 : decode cX9_addPut 34 = .ok (.aload_n 0, 1) := by decide +kernel
theorem dX9_addPut_35 : decode cX9_addPut 35 = .ok (.iload_n 3, 1) := by decide +kernel
theorem dX9_addPut_36 : decode cX9_addPut 36 = .ok (.invokevirtual 58, 3) := by decide +kernel
theorem dX9_addPut_39 : decode cX9_addPut 39 = .ok (.aload_n 0, 1) := by decide +kernel
theorem dX9_addPut_40 : decode cX9_addPut 40 = .ok (.iload_n 3, 1) := by decide +kernel
theorem dX9_addPut_41 : decode cX9_addPut 41 = .ok (.aload_n 0, 1) := by decide +kernel
theorem dX9_addPut_42 : decode cX9_addPut 42 = .ok (.getfield 18, 3) := by decide +kernel
theorem dX9_addPut_45 : decode cX9_addPut 45 = .ok (.getfield 62, 3) := by decide +kernel
theorem dX9_addPut_48 : decode cX9_addPut 48 = .ok (.iload_n 1, 1) := by decide +kernel
theorem dX9_addPut_49 : decode cX9_addPut 49 = .ok (.iaload, 1) := by decide +kernel
theorem dX9_addPut_50 : decode cX9_addPut 50 = .ok (.iload_n 2, 1) := by decide +kernel
theorem dX9_addPut_51 : decode cX9_addPut 51 = .ok (.aload_n 0, 1) := by decide +kernel
theorem dX9_addPut_52 : decode cX9_addPut 52 = .ok (.getfield 18, 3) := by decide +kernel
theorem dX9_addPut_55 : decode cX9_addPut 55 = .ok (.getfield 65, 3) := by decide +kernel
theorem dX9_addPut_58 : decode cX9_addPut 58 = .ok (.iload_n 1, 1) := by decide +kernel
theorem dX9_addPut_59 : decode cX9_addPut 59 = .ok (.iaload, 1) := by decide +kernel
theorem dX9_addPut_60 : decode cX9_addPut 60 = .ok (.ishl, 1) := by decide +kernel
theorem dX9_addPut_61 : decode cX9_addPut 61 = .ok (.invokevirtual 68, 3) := by decide +kernel
theorem dX9_addPut_64 : decode cX9_addPut 64 = .ok (.return_, 1) := by decide +kernel
theorem dX9_addReach_0 : decode cX9_addReach 0 = .ok (.aload_n 0, 1) := by decide +kernel
theorem dX9_addReach_1 : decode cX9_addReach 1 = .ok (.getfield 27, 3) := by decide +kernel
theorem dX9_addReach_4 : decode cX9_addReach 4 = .ok (.iload_n 1, 1) := by decide +kernel
theorem dX9_addReach_5 : decode cX9_addReach 5 = .ok (.invokevirtual 98, 3) := by decide +kernel
theorem dX9_addReach_8 : decode cX9_addReach 8 = .ok (.ifCond .ne 54, 3) := by decide +kernel
theorem dX9_addReach_11 : decode cX9_addReach 11 = .ok (.aload_n 0, 1) := by decide +kernel
theorem dX9_addReach_12 : decode cX9_addReach 12 = .ok (.getfield 18, 3) := by decide +kernel
theorem dX9_addReach_15 : decode cX9_addReach 15 = .ok (.getfield 101, 3) := by decide +kernel
theorem dX9_addReach_18 : decode cX9_addReach 18 = .ok (.iload_n 1, 1) := by decide +kernel
theorem dX9_addReach_19 : decode cX9_addReach 19 = .ok (.iaload, 1) := by decide +kernel
theorem dX9_addReach_20 : decode cX9_addReach 20 = .ok (.istore_n 2, 1) := by decide +kernel
theorem dX9_addReach_21 : decode cX9_addReach 21 = .ok (.aload_n 0, 1) := by decide +kernel
theorem dX9_addReach_22 : decode cX9_addReach 22 = .ok (.aload_n 0, 1) := by decide +kernel
theorem dX9_addReach_23 : decode cX9_addReach 23 = .ok (.getfield 18, 3) := by decide +kernel
theorem dX9_addReach_26 : decode cX9_addReach 26 = .ok (.getfield 55, 3) := by decide +kernel
theorem dX9_addReach_29 : decode cX9_addReach 29 = .ok (.iload_n 2, 1) := by decide +kernel
theorem dX9_addReach_30 : decode cX9_addReach 30 = .ok (.iaload, 1) := by decide +kernel
theorem dX9_addReach_31 : decode cX9_addReach 31 = .ok (.aload_n 0, 1) := by decide +kernel
theorem dX9_addReach_32 : decode cX9_addReach 32 = .ok (.getfield 18, 3) := by decide +kernel
theorem dX9_addReach_35 : decode cX9_addReach 35 = .ok (.getfield 62, 3) := by decide +kernel
theorem dX9_addReach_38 : decode cX9_addReach 38 = .ok (.iload_n 2, 1) := by decide +kernel
theorem dX9_addReach_39 : decode cX9_addReach 39 = .ok (.iaload, 1) := by decide +kernel
theorem dX9_addReach_40 : decode cX9_addReach 40 = .ok (.aload_n 0, 1) := by decide +kernel
theorem dX9_addReach_41 : decode cX9_addReach 41 = .ok (.getfield 18, 3) := by decide +kernel
theorem dX9_addReach_44 : decode cX9_addReach 44 = .ok (.getfield 104, 3) := by decide +kernel
theorem dX9_addReach_47 : decode cX9_addReach 47 = .ok (.iload_n 1, 1) := by decide +kernel
theorem dX9_addReach_48 : decode cX9_addReach 48 = .ok (.iaload, 1) := by decide +kernel
theorem dX9_addReach_49 : decode cX9_addReach 49 = .ok (.aload_n 0, 1) := by decide +kernel
theorem dX9_addReach_50 : decode cX9_addReach 50 = .ok (.getfield 18, 3) := by decide +kernel
theorem dX9_addReach_53 : decode cX9_addReach 53 = .ok (.getfield 65, 3) := by decide +kernel
theorem dX9_addReach_56 : decode cX9_addReach 56 = .ok (.iload_n 2, 1) := by decide +kernel
theorem dX9_addReach_57 : decode cX9_addReach 57 = .ok (.iaload, 1) := by decide +kernel
theorem dX9_addReach_58 : decode cX9_addReach 58 = .ok (.ishl, 1) := by decide +kernel
theorem dX9_addReach_59 : decode cX9_addReach 59 = .ok (.invokevirtual 68, 3) := by decide +kernel
theorem dX9_addReach_62 : decode cX9_addReach 62 = .ok (.return_, 1) := by decide +kernel
theorem dX9_addRegister_0 : decode cX9_addRegister 0 = .ok (.iconst 0, 1) := by decide +kernel
theorem dX9_addRegister_1 : decode cX9_addRegister 1 = .ok (.istore_n 3, 1) := by decide +kernel
theorem dX9_addRegister_2 : decode cX9_addRegister 2 = .ok (.iconst 0, 1) := by decide +kernel
theorem dX9_addRegister_3 : decode cX9_addRegister 3 = .ok (.istore 4, 2) := by decide +kernel
theorem dX9_addRegister_5 : decode cX9_addRegister 5 = .ok (.iconst 0, 1) := by decide +kernel
theorem dX9_addRegister_6 : decode cX9_addRegister 6 = .ok (.istore 5, 2) := by decide +kernel
theorem dX9_addRegister_8 : decode cX9_addRegister 8 = .ok (.iload 5, 2) := by decide +kernel
theorem dX9_addRegister_10 : decode cX9_addRegister 10 = .ok (.aload_n 1, 1) := by decide +kernel
theorem dX9_addRegister_11 : decode cX9_addRegister 11 = .ok (.getfield 75, 3) := by decide +kernel
theorem dX9_addRegister_14 : decode cX9_addRegister 14 = .ok (.if_icmp .ge 96, 3) := by decide +kernel
theorem dX9_addRegister_17 : decode cX9_addRegister 17 = .ok (.aload_n 1, 1) := by decide +kernel
theorem dX9_addRegister_18 : decode cX9_addRegister 18 = .ok (.getfield 84, 3) := by decide +kernel
theorem dX9_addRegister_21 : decode cX9_addRegister 21 = .ok (.iload 5, 2) := by decide +kernel
theorem dX9_addRegister_23 : decode cX9_addRegister 23 = .ok (.iaload, 1) := by decide +kernel
theorem dX9_addRegister_24 : decode cX9_addRegister 24 = .ok (.istore 6, 2) := by decide +kernel
theorem dX9_addRegister_26 : decode cX9_addRegister 26 = .ok (.aload_n 0, 1) := by decide +kernel
theorem dX9_addRegister_27 : decode cX9_addRegister 27 = .ok (.getfield 18, 3) := by decide +kernel
theorem dX9_addRegister_30 : decode cX9_addRegister 30 = .ok (.getfield 55, 3) := by decide +kernel
theorem dX9_addRegister_33 : decode cX9_addRegister 33 = .ok (.iload 6, 2) := by decide +kernel
theorem dX9_addRegister_35 : decode cX9_addRegister 35 = .ok (.iaload, 1) := by decide +kernel
theorem dX9_addRegister_36 : decode cX9_addRegister 36 = .ok (.iload_n 2, 1) := by decide +kernel
theorem dX9_addRegister_37 : decode cX9_addRegister 37 = .ok (.if_icmp .eq 6, 3) := by decide +kernel
theorem dX9_addRegister_40 : decode cX9_addRegister 40 = .ok (.goto 64, 3) := by decide +kernel
theorem dX9_addRegister_43 : decode cX9_addRegister 43 = .ok (.aload_n 0, 1) := by decide +kernel
theorem dX9_addRegister_44 : decode cX9_addRegister 44 = .ok (.getfield 18, 3) := by decide +kernel
theorem dX9_addRegister_47 : decode cX9_addRegister 47 = .ok (.getfield 62, 3) := by decide +kernel
theorem dX9_addRegister_50 : decode cX9_addRegister 50 = .ok (.iload 6, 2) := by decide +kernel
theorem dX9_addRegister_52 : decode cX9_addRegister 52 = .ok (.iaload, 1) := by decide +kernel
theorem dX9_addRegister_53 : decode cX9_addRegister 53 = .ok (.istore 7, 2) := by decide +kernel
theorem dX9_addRegister_55 : decode cX9_addRegister 55 = .ok (.aload_n 0, 1) := by decide +kernel
theorem dX9_addRegister_56 : decode cX9_addRegister 56 = .ok (.getfield 18, 3) := by decide +kernel
theorem dX9_addRegister_59 : decode cX9_addRegister 59 = .ok (.iload 6, 2) := by decide +kernel
theorem dX9_addRegister_61 : decode cX9_addRegister 61 = .ok (.invokevirtual 45, 3) := by decide +kernel
theorem dX9_addRegister_64 : decode cX9_addRegister 64 = .ok (.ifCond .eq 12, 3) := by decide +kernel
theorem dX9_addRegister_67 : decode cX9_addRegister 67 = .ok (.iload 4, 2) := by decide +kernel
theorem dX9_addRegister_69 : decode cX9_addRegister 69 = .ok (.iload 7, 2) := by decide +kernel
theorem dX9_addRegister_71 : decode cX9_addRegister 71 = .ok (.iconst (-1), 1) := by decide +kernel
theorem dX9_addRegister_72 : decode cX9_addRegister 72 = .ok (.ixor, 1) := by decide +kernel
theorem dX9_addRegister_73 : decode cX9_addRegister 73 = .ok (.iand, 1) := by decide +kernel
theorem dX9_addRegister_74 : decode cX9_addRegister 74 = .ok (.istore 4, 2) := by decide +kernel
theorem dX9_addRegister_76 : decode cX9_addRegister 76 = .ok (.iload_n 3, 1) := by decide +kernel
theorem dX9_addRegister_77 : decode cX9_addRegister 77 = .ok (.iload 7, 2) := by decide +kernel
theorem dX9_addRegister_79 : decode cX9_addRegister 79 = .ok (.ior, 1) := by decide +kernel
theorem dX9_addRegister_80 : decode cX9_addRegister 80 = .ok (.istore_n 3, 1) := by decide +kernel
theorem dX9_addRegister_81 : decode cX9_addRegister 81 = .ok (.iload 4, 2) := by decide +kernel
theorem dX9_addRegister_83 : decode cX9_addRegister 83 = .ok (.aload_n 1, 1) := by decide +kernel
theorem dX9_addRegister_84 : decode cX9_addRegister 84 = .ok (.getfield 91, 3) := by decide +kernel
theorem dX9_addRegister_87 : decode cX9_addRegister 87 = .ok (.iload 5, 2) := by decide +kernel
theorem dX9_addRegister_89 : decode cX9_addRegister 89 = .ok (.iaload, 1) := by decide +kernel
theorem dX9_addRegister_90 : decode cX9_addRegister 90 = .ok (.aload_n 0, 1) := by decide +kernel
theorem dX9_addRegister_91 : decode cX9_addRegister 91 = .ok (.getfield 18, 3) := by decide +kernel
theorem dX9_addRegister_94 : decode cX9_addRegister 94 = .ok (.getfield 65, 3) := by decide +kernel
theorem dX9_addRegister_97 : decode cX9_addRegister 97 = .ok (.iload 6, 2) := by decide +kernel
theorem dX9_addRegister_99 : decode cX9_addRegister 99 = .ok (.iaload, 1) := by decide +kernel
theorem dX9_addRegister_100 : decode cX9_addRegister 100 = .ok (.ishl, 1) := by decide +kernel
theorem dX9_addRegister_101 : decode cX9_addRegister 101 = .ok (.ior, 1) := by decide +kernel
theorem dX9_addRegister_102 : decode cX9_addRegister 102 = .ok (.istore 4, 2) := by decide +kernel
theorem dX9_addRegister_104 : decode cX9_addRegister 104 = .ok (.iinc 5 1, 3) := by decide +kernel
theorem dX9_addRegister_107 : decode cX9_addRegister 107 = .ok (.goto (-99), 3) := by decide +kernel
theorem dX9_addRegister_110 : decode cX9_addRegister 110 = .ok (.iload_n 3, 1) := by decide +kernel
theorem dX9_addRegister_111 : decode cX9_addRegister 111 = .ok (.aload_n 0, 1) := by decide +kernel
