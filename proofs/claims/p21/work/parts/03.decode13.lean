theorem dX1_part_16 : decode cX1_part 16 = .ok (.iconst 1, 1) := by decide +kernel
theorem dX1_part_17 : decode cX1_part 17 = .ok (.isub, 1) := by decide +kernel
theorem dX1_part_18 : decode cX1_part 18 = .ok (.iand, 1) := by decide +kernel
theorem dX1_part_19 : decode cX1_part 19 = .ok (.ireturn, 1) := by decide +kernel
theorem dX1_poke_0 : decode cX1_poke 0 = .ok (.aload_n 0, 1) := by decide +kernel
theorem dX1_poke_1 : decode cX1_poke 1 = .ok (.iconst 0, 1) := by decide +kernel
theorem dX1_poke_2 : decode cX1_poke 2 = .ok (.putfield 161, 3) := by decide +kernel
theorem dX1_poke_5 : decode cX1_poke 5 = .ok (.aload_n 0, 1) := by decide +kernel
theorem dX1_poke_6 : decode cX1_poke 6 = .ok (.iload_n 1, 1) := by decide +kernel
theorem dX1_poke_7 : decode cX1_poke 7 = .ok (.invokevirtual 317, 3) := by decide +kernel
theorem dX1_poke_10 : decode cX1_poke 10 = .ok (.ifCond .eq 45, 3) := by decide +kernel
theorem dX1_poke_13 : decode cX1_poke 13 = .ok (.aload_n 0, 1) := by decide +kernel
theorem dX1_poke_14 : decode cX1_poke 14 = .ok (.getfield 80, 3) := by decide +kernel
theorem dX1_poke_17 : decode cX1_poke 17 = .ok (.iload_n 1, 1) := by decide +kernel
theorem dX1_poke_18 : decode cX1_poke 18 = .ok (.iaload, 1) := by decide +kernel
theorem dX1_poke_19 : decode cX1_poke 19 = .ok (.bipush 114, 2) := by decide +kernel
theorem dX1_poke_21 : decode cX1_poke 21 = .ok (.if_icmp .eq 25, 3) := by decide +kernel
theorem dX1_poke_24 : decode cX1_poke 24 = .ok (.aload_n 0, 1) := by decide +kernel
theorem dX1_poke_25 : decode cX1_poke 25 = .ok (.getfield 80, 3) := by decide +kernel
theorem dX1_poke_28 : decode cX1_poke 28 = .ok (.iload_n 1, 1) := by decide +kernel
theorem dX1_poke_29 : decode cX1_poke 29 = .ok (.iaload, 1) := by decide +kernel
theorem dX1_poke_30 : decode cX1_poke 30 = .ok (.bipush 99, 2) := by decide +kernel
theorem dX1_poke_32 : decode cX1_poke 32 = .ok (.if_icmp .eq 14, 3) := by decide +kernel
theorem dX1_poke_35 : decode cX1_poke 35 = .ok (.aload_n 0, 1) := by decide +kernel
theorem dX1_poke_36 : decode cX1_poke 36 = .ok (.getfield 80, 3) := by decide +kernel
theorem dX1_poke_39 : decode cX1_poke 39 = .ok (.iload_n 1, 1) := by decide +kernel
theorem dX1_poke_40 : decode cX1_poke 40 = .ok (.iaload, 1) := by decide +kernel
theorem dX1_poke_41 : decode cX1_poke 41 = .ok (.bipush 116, 2) := by decide +kernel
theorem dX1_poke_43 : decode cX1_poke 43 = .ok (.if_icmp .ne 12, 3) := by decide +kernel
theorem dX1_poke_46 : decode cX1_poke 46 = .ok (.aload_n 0, 1) := by decide +kernel
theorem dX1_poke_47 : decode cX1_poke 47 = .ok (.iload_n 1, 1) := by decide +kernel
theorem dX1_poke_48 : decode cX1_poke 48 = .ok (.iload_n 2, 1) := by decide +kernel
theorem dX1_poke_49 : decode cX1_poke 49 = .ok (.invokevirtual 334, 3) := by decide +kernel
theorem dX1_poke_52 : decode cX1_poke 52 = .ok (.ifCond .ne 5, 3) := by decide +kernel
theorem dX1_poke_55 : decode cX1_poke 55 = .ok (.iconst 0, 1) := by decide +kernel
theorem dX1_poke_56 : decode cX1_poke 56 = .ok (.ireturn, 1) := by decide +kernel
theorem dX1_poke_57 : decode cX1_poke 57 = .ok (.aload_n 0, 1) := by decide +kernel
theorem dX1_poke_58 : decode cX1_poke 58 = .ok (.getfield 107, 3) := by decide +kernel
theorem dX1_poke_61 : decode cX1_poke 61 = .ok (.iload_n 1, 1) := by decide +kernel
theorem dX1_poke_62 : decode cX1_poke 62 = .ok (.iload_n 2, 1) := by decide +kernel
theorem dX1_poke_63 : decode cX1_poke 63 = .ok (.iastore, 1) := by decide +kernel
theorem dX1_poke_64 : decode cX1_poke 64 = .ok (.iconst 1, 1) := by decide +kernel
theorem dX1_poke_65 : decode cX1_poke 65 = .ok (.ireturn, 1) := by decide +kernel
theorem dX1_put_0 : decode cX1_put 0 = .ok (.aload_n 0, 1) := by decide +kernel
theorem dX1_put_1 : decode cX1_put 1 = .ok (.iconst 0, 1) := by decide +kernel
theorem dX1_put_2 : decode cX1_put 2 = .ok (.putfield 161, 3) := by decide +kernel
theorem dX1_put_5 : decode cX1_put 5 = .ok (.aload_n 0, 1) := by decide +kernel
theorem dX1_put_6 : decode cX1_put 6 = .ok (.iload_n 1, 1) := by decide +kernel
theorem dX1_put_7 : decode cX1_put 7 = .ok (.iload_n 2, 1) := by decide +kernel
theorem dX1_put_8 : decode cX1_put 8 = .ok (.invokevirtual 366, 3) := by decide +kernel
theorem dX1_put_11 : decode cX1_put 11 = .ok (.ifCond .eq 10, 3) := by decide +kernel
theorem dX1_put_14 : decode cX1_put 14 = .ok (.aload_n 0, 1) := by decide +kernel
theorem dX1_put_15 : decode cX1_put 15 = .ok (.getfield 288, 3) := by decide +kernel
theorem dX1_put_18 : decode cX1_put 18 = .ok (.ifCond .le 5, 3) := by decide +kernel
theorem dX1_put_21 : decode cX1_put 21 = .ok (.iconst (-1), 1) := by decide +kernel
theorem dX1_put_22 : decode cX1_put 22 = .ok (.ireturn, 1) := by decide +kernel
theorem dX1_put_23 : decode cX1_put 23 = .ok (.aload_n 0, 1) := by decide +kernel
theorem dX1_put_24 : decode cX1_put 24 = .ok (.invokevirtual 369, 3) := by decide +kernel
theorem dX1_put_27 : decode cX1_put 27 = .ok (.aload_n 0, 1) := by decide +kernel
theorem dX1_put_28 : decode cX1_put 28 = .ok (.iload_n 1, 1) := by decide +kernel
theorem dX1_put_29 : decode cX1_put 29 = .ok (.iload_n 2, 1) := by decide +kernel
theorem dX1_put_30 : decode cX1_put 30 = .ok (.invokevirtual 372, 3) := by decide +kernel
theorem dX1_put_33 : decode cX1_put 33 = .ok (.aload_n 0, 1) := by decide +kernel
theorem dX1_put_34 : decode cX1_put 34 = .ok (.invokevirtual 375, 3) := by decide +kernel
theorem dX1_put_37 : decode cX1_put 37 = .ok (.ireturn, 1) := by decide +kernel
theorem dX1_raise_0 : decode cX1_raise 0 = .ok (.aload_n 0, 1) := by decide +kernel
theorem dX1_raise_1 : decode cX1_raise 1 = .ok (.iload_n 1, 1) := by decide +kernel
theorem dX1_raise_2 : decode cX1_raise 2 = .ok (.putfield 161, 3) := by decide +kernel
theorem dX1_raise_5 : decode cX1_raise 5 = .ok (.iconst 0, 1) := by decide +kernel
theorem dX1_raise_6 : decode cX1_raise 6 = .ok (.ireturn, 1) := by decide +kernel
theorem dX1_reach_0 : decode cX1_reach 0 = .ok (.aload_n 0, 1) := by decide +kernel
theorem dX1_reach_1 : decode cX1_reach 1 = .ok (.iload_n 1, 1) := by decide +kernel
theorem dX1_reach_2 : decode cX1_reach 2 = .ok (.invokevirtual 314, 3) := by decide +kernel
theorem dX1_reach_5 : decode cX1_reach 5 = .ok (.ifCond .eq 4, 3) := by decide +kernel
theorem dX1_reach_8 : decode cX1_reach 8 = .ok (.return_, 1) := by decide +kernel
theorem dX1_reach_9 : decode cX1_reach 9 = .ok (.aload_n 0, 1) := by decide +kernel
theorem dX1_reach_10 : decode cX1_reach 10 = .ok (.getfield 70, 3) := by decide +kernel
theorem dX1_reach_13 : decode cX1_reach 13 = .ok (.iload_n 1, 1) := by decide +kernel
theorem dX1_reach_14 : decode cX1_reach 14 = .ok (.iaload, 1) := by decide +kernel
theorem dX1_reach_15 : decode cX1_reach 15 = .ok (.istore_n 2, 1) := by decide +kernel
theorem dX1_reach_16 : decode cX1_reach 16 = .ok (.aload_n 0, 1) := by decide +kernel
theorem dX1_reach_17 : decode cX1_reach 17 = .ok (.aload_n 0, 1) := by decide +kernel
theorem dX1_reach_18 : decode cX1_reach 18 = .ok (.getfield 83, 3) := by decide +kernel
theorem dX1_reach_21 : decode cX1_reach 21 = .ok (.iload_n 2, 1) := by decide +kernel
theorem dX1_reach_22 : decode cX1_reach 22 = .ok (.iaload, 1) := by decide +kernel
theorem dX1_reach_23 : decode cX1_reach 23 = .ok (.aload_n 0, 1) := by decide +kernel
theorem dX1_reach_24 : decode cX1_reach 24 = .ok (.aload_n 0, 1) := by decide +kernel
theorem dX1_reach_25 : decode cX1_reach 25 = .ok (.aload_n 0, 1) := by decide +kernel
theorem dX1_reach_26 : decode cX1_reach 26 = .ok (.getfield 83, 3) := by decide +kernel
theorem dX1_reach_29 : decode cX1_reach 29 = .ok (.iload_n 2, 1) := by decide +kernel
theorem dX1_reach_30 : decode cX1_reach 30 = .ok (.iaload, 1) := by decide +kernel
theorem dX1_reach_31 : decode cX1_reach 31 = .ok (.invokevirtual 343, 3) := by decide +kernel
theorem dX1_reach_34 : decode cX1_reach 34 = .ok (.iload_n 2, 1) := by decide +kernel
theorem dX1_reach_35 : decode cX1_reach 35 = .ok (.aload_n 0, 1) := by decide +kernel
theorem dX1_reach_36 : decode cX1_reach 36 = .ok (.getfield 73, 3) := by decide +kernel
theorem dX1_reach_39 : decode cX1_reach 39 = .ok (.iload_n 1, 1) := by decide +kernel
theorem dX1_reach_40 : decode cX1_reach 40 = .ok (.iaload, 1) := by decide +kernel
theorem dX1_reach_41 : decode cX1_reach 41 = .ok (.invokevirtual 346, 3) := by decide +kernel
theorem dX1_reach_44 : decode cX1_reach 44 = .ok (.invokevirtual 350, 3) := by decide +kernel
theorem dX1_reach_47 : decode cX1_reach 47 = .ok (.return_, 1) := by decide +kernel
theorem dX1_read_0 : decode cX1_read 0 = .ok (.iconst 0, 1) := by decide +kernel
theorem dX1_read_1 : decode cX1_read 1 = .ok (.istore_n 2, 1) := by decide +kernel
theorem dX1_read_2 : decode cX1_read 2 = .ok (.iconst 0, 1) := by decide +kernel
theorem dX1_read_3 : decode cX1_read 3 = .ok (.istore_n 3, 1) := by decide +kernel
theorem dX1_read_4 : decode cX1_read 4 = .ok (.iload_n 3, 1) := by decide +kernel
theorem dX1_read_5 : decode cX1_read 5 = .ok (.bipush 26, 2) := by decide +kernel
theorem dX1_read_7 : decode cX1_read 7 = .ok (.if_icmp .ge 118, 3) := by decide +kernel
theorem dX1_read_10 : decode cX1_read 10 = .ok (.aload_n 0, 1) := by decide +kernel
theorem dX1_read_11 : decode cX1_read 11 = .ok (.iload_n 3, 1) := by decide +kernel
theorem dX1_read_12 : decode cX1_read 12 = .ok (.iload_n 1, 1) := by decide +kernel
theorem dX1_read_13 : decode cX1_read 13 = .ok (.invokevirtual 291, 3) := by decide +kernel
theorem dX1_read_16 : decode cX1_read 16 = .ok (.ifCond .eq 103, 3) := by decide +kernel
theorem dX1_read_19 : decode cX1_read 19 = .ok (.aload_n 0, 1) := by decide +kernel
theorem dX1_read_20 : decode cX1_read 20 = .ok (.getfield 80, 3) := by decide +kernel
theorem dX1_read_23 : decode cX1_read 23 = .ok (.iload_n 3, 1) := by decide +kernel
theorem dX1_read_24 : decode cX1_read 24 = .ok (.iaload, 1) := by decide +kernel
theorem dX1_read_25 : decode cX1_read 25 = .ok (.bipush 111, 2) := by decide +kernel
theorem dX1_read_27 : decode cX1_read 27 = .ok (.if_icmp .ne 6, 3) := by decide +kernel
theorem dX1_read_30 : decode cX1_read 30 = .ok (.goto 89, 3) := by decide +kernel
theorem dX1_read_33 : decode cX1_read 33 = .ok (.iload_n 2, 1) := by decide +kernel
theorem dX1_read_34 : decode cX1_read 34 = .ok (.aload_n 0, 1) := by decide +kernel
theorem dX1_read_35 : decode cX1_read 35 = .ok (.getfield 107, 3) := by decide +kernel
theorem dX1_read_38 : decode cX1_read 38 = .ok (.iload_n 3, 1) := by decide +kernel
theorem dX1_read_39 : decode cX1_read 39 = .ok (.iaload, 1) := by decide +kernel
theorem dX1_read_40 : decode cX1_read 40 = .ok (.aload_n 0, 1) := by decide +kernel
theorem dX1_read_41 : decode cX1_read 41 = .ok (.getfield 86, 3) := by decide +kernel
theorem dX1_read_44 : decode cX1_read 44 = .ok (.iload_n 3, 1) := by decide +kernel
theorem dX1_read_45 : decode cX1_read 45 = .ok (.iaload, 1) := by decide +kernel
theorem dX1_read_46 : decode cX1_read 46 = .ok (.ishl, 1) := by decide +kernel
theorem dX1_read_47 : decode cX1_read 47 = .ok (.ior, 1) := by decide +kernel
theorem dX1_read_48 : decode cX1_read 48 = .ok (.istore_n 2, 1) := by decide +kernel
theorem dX1_read_49 : decode cX1_read 49 = .ok (.aload_n 0, 1) := by decide +kernel
theorem dX1_read_50 : decode cX1_read 50 = .ok (.getfield 80, 3) := by decide +kernel
theorem dX1_read_53 : decode cX1_read 53 = .ok (.iload_n 3, 1) := by decide +kernel
theorem dX1_read_54 : decode cX1_read 54 = .ok (.iaload, 1) := by decide +kernel
theorem dX1_read_55 : decode cX1_read 55 = .ok (.bipush 99, 2) := by decide +kernel
theorem dX1_read_57 : decode cX1_read 57 = .ok (.if_icmp .ne 25, 3) := by decide +kernel
theorem dX1_read_60 : decode cX1_read 60 = .ok (.aload_n 0, 1) := by decide +kernel
theorem dX1_read_61 : decode cX1_read 61 = .ok (.getfield 113, 3) := by decide +kernel
theorem dX1_read_64 : decode cX1_read 64 = .ok (.iload_n 3, 1) := by decide +kernel
theorem dX1_read_65 : decode cX1_read 65 = .ok (.dup2, 1) := by decide +kernel
theorem dX1_read_66 : decode cX1_read 66 = .ok (.iaload, 1) := by decide +kernel
theorem dX1_read_67 : decode cX1_read 67 = .ok (.aload_n 0, 1) := by decide +kernel
theorem dX1_read_68 : decode cX1_read 68 = .ok (.getfield 107, 3) := by decide +kernel
theorem dX1_read_71 : decode cX1_read 71 = .ok (.iload_n 3, 1) := by decide +kernel
theorem dX1_read_72 : decode cX1_read 72 = .ok (.iaload, 1) := by decide +kernel
theorem dX1_read_73 : decode cX1_read 73 = .ok (.ior, 1) := by decide +kernel
theorem dX1_read_74 : decode cX1_read 74 = .ok (.iastore, 1) := by decide +kernel
theorem dX1_read_75 : decode cX1_read 75 = .ok (.aload_n 0, 1) := by decide +kernel
theorem dX1_read_76 : decode cX1_read 76 = .ok (.getfield 107, 3) := by decide +kernel
theorem dX1_read_79 : decode cX1_read 79 = .ok (.iload_n 3, 1) := by decide +kernel
theorem dX1_read_80 : decode cX1_read 80 = .ok (.iconst 0, 1) := by decide +kernel
theorem dX1_read_81 : decode cX1_read 81 = .ok (.iastore, 1) := by decide +kernel
theorem dX1_read_82 : decode cX1_read 82 = .ok (.aload_n 0, 1) := by decide +kernel
theorem dX1_read_83 : decode cX1_read 83 = .ok (.getfield 80, 3) := by decide +kernel
theorem dX1_read_86 : decode cX1_read 86 = .ok (.iload_n 3, 1) := by decide +kernel
theorem dX1_read_87 : decode cX1_read 87 = .ok (.iaload, 1) := by decide +kernel
theorem dX1_read_88 : decode cX1_read 88 = .ok (.bipush 112, 2) := by decide +kernel
theorem dX1_read_90 : decode cX1_read 90 = .ok (.if_icmp .ne 29, 3) := by decide +kernel
theorem dX1_read_93 : decode cX1_read 93 = .ok (.aload_n 0, 1) := by decide +kernel
theorem dX1_read_94 : decode cX1_read 94 = .ok (.getfield 110, 3) := by decide +kernel
theorem dX1_read_97 : decode cX1_read 97 = .ok (.iload_n 3, 1) := by decide +kernel
theorem dX1_read_98 : decode cX1_read 98 = .ok (.dup2, 1) := by decide +kernel
theorem dX1_read_99 : decode cX1_read 99 = .ok (.iaload, 1) := by decide +kernel
theorem dX1_read_100 : decode cX1_read 100 = .ok (.iconst 1, 1) := by decide +kernel
theorem dX1_read_101 : decode cX1_read 101 = .ok (.isub, 1) := by decide +kernel
theorem dX1_read_102 : decode cX1_read 102 = .ok (.iastore, 1) := by decide +kernel
theorem dX1_read_103 : decode cX1_read 103 = .ok (.aload_n 0, 1) := by decide +kernel
theorem dX1_read_104 : decode cX1_read 104 = .ok (.getfield 110, 3) := by decide +kernel
theorem dX1_read_107 : decode cX1_read 107 = .ok (.iload_n 3, 1) := by decide +kernel
theorem dX1_read_108 : decode cX1_read 108 = .ok (.iaload, 1) := by decide +kernel
theorem dX1_read_109 : decode cX1_read 109 = .ok (.ifCond .gt 10, 3) := by decide +kernel
theorem dX1_read_112 : decode cX1_read 112 = .ok (.aload_n 0, 1) := by decide +kernel
theorem dX1_read_113 : decode cX1_read 113 = .ok (.getfield 107, 3) := by decide +kernel
theorem dX1_read_116 : decode cX1_read 116 = .ok (.iload_n 3, 1) := by decide +kernel
theorem dX1_read_117 : decode cX1_read 117 = .ok (.iconst 0, 1) := by decide +kernel
theorem dX1_read_118 : decode cX1_read 118 = .ok (.iastore, 1) := by decide +kernel
theorem dX1_read_119 : decode cX1_read 119 = .ok (.iinc 3 1, 3) := by decide +kernel
theorem dX1_read_122 : decode cX1_read 122 = .ok (.goto (-118), 3) := by decide +kernel
theorem dX1_read_125 : decode cX1_read 125 = .ok (.aload_n 0, 1) := by decide +kernel
theorem dX1_read_126 : decode cX1_read 126 = .ok (.iconst 0, 1) := by decide +kernel
theorem dX1_read_127 : decode cX1_read 127 = .ok (.iload_n 1, 1) := by decide +kernel
theorem dX1_read_128 : decode cX1_read 128 = .ok (.iload_n 2, 1) := by decide +kernel
theorem dX1_read_129 : decode cX1_read 129 = .ok (.invokevirtual 310, 3) := by decide +kernel
theorem dX1_read_132 : decode cX1_read 132 = .ok (.iload_n 2, 1) := by decide +kernel
theorem dX1_read_133 : decode cX1_read 133 = .ok (.ireturn, 1) := by decide +kernel
theorem dX1_readAll_0 : decode cX1_readAll 0 = .ok (.aload_n 0, 1) := by decide +kernel
theorem dX1_readAll_1 : decode cX1_readAll 1 = .ok (.iconst 0, 1) := by decide +kernel
theorem dX1_readAll_2 : decode cX1_readAll 2 = .ok (.putfield 170, 3) := by decide +kernel
theorem dX1_readAll_5 : decode cX1_readAll 5 = .ok (.aload_n 0, 1) := by decide +kernel
theorem dX1_readAll_6 : decode cX1_readAll 6 = .ok (.iconst 0, 1) := by decide +kernel
theorem dX1_readAll_7 : decode cX1_readAll 7 = .ok (.putfield 201, 3) := by decide +kernel
theorem dX1_readAll_10 : decode cX1_readAll 10 = .ok (.aload_n 0, 1) := by decide +kernel
theorem dX1_readAll_11 : decode cX1_readAll 11 = .ok (.iconst 0, 1) := by decide +kernel
theorem dX1_readAll_12 : decode cX1_readAll 12 = .ok (.putfield 198, 3) := by decide +kernel
theorem dX1_readAll_15 : decode cX1_readAll 15 = .ok (.aload_n 0, 1) := by decide +kernel
theorem dX1_readAll_16 : decode cX1_readAll 16 = .ok (.iconst 0, 1) := by decide +kernel
theorem dX1_readAll_17 : decode cX1_readAll 17 = .ok (.putfield 223, 3) := by decide +kernel
theorem dX1_readAll_20 : decode cX1_readAll 20 = .ok (.aload_n 0, 1) := by decide +kernel
theorem dX1_readAll_21 : decode cX1_readAll 21 = .ok (.invokevirtual 236, 3) := by decide +kernel
theorem dX1_readAll_24 : decode cX1_readAll 24 = .ok (.ifCond .ne 5, 3) := by decide +kernel
theorem dX1_readAll_27 : decode cX1_readAll 27 = .ok (.iconst 0, 1) := by decide +kernel
theorem dX1_readAll_28 : decode cX1_readAll 28 = .ok (.ireturn, 1) := by decide +kernel
theorem dX1_readAll_29 : decode cX1_readAll 29 = .ok (.aload_n 0, 1) := by decide +kernel
theorem dX1_readAll_30 : decode cX1_readAll 30 = .ok (.invokevirtual 179, 3) := by decide +kernel
theorem dX1_readAll_33 : decode cX1_readAll 33 = .ok (.bipush 64, 2) := by decide +kernel
theorem dX1_readAll_35 : decode cX1_readAll 35 = .ok (.if_icmp .eq (-15), 3) := by decide +kernel
theorem dX1_readAll_38 : decode cX1_readAll 38 = .ok (.aload_n 0, 1) := by decide +kernel
theorem dX1_readAll_39 : decode cX1_readAll 39 = .ok (.getfield 170, 3) := by decide +kernel
theorem dX1_readAll_42 : decode cX1_readAll 42 = .ok (.aload_n 0, 1) := by decide +kernel
theorem dX1_readAll_43 : decode cX1_readAll 43 = .ok (.getfield 165, 3) := by decide +kernel
theorem dX1_readAll_46 : decode cX1_readAll 46 = .ok (.if_icmp .ge 12, 3) := by decide +kernel
theorem dX1_readAll_49 : decode cX1_readAll 49 = .ok (.aload_n 0, 1) := by decide +kernel
theorem dX1_readAll_50 : decode cX1_readAll 50 = .ok (.invokevirtual 239, 3) := by decide +kernel
theorem dX1_readAll_53 : decode cX1_readAll 53 = .ok (.ifCond .ne (-15), 3) := by decide +kernel
theorem dX1_readAll_56 : decode cX1_readAll 56 = .ok (.iconst 0, 1) := by decide +kernel
theorem dX1_readAll_57 : decode cX1_readAll 57 = .ok (.ireturn, 1) := by decide +kernel
theorem dX1_readAll_58 : decode cX1_readAll 58 = .ok (.aload_n 0, 1) := by decide +kernel
theorem dX1_readAll_59 : decode cX1_readAll 59 = .ok (.invokevirtual 242, 3) := by decide +kernel
theorem dX1_readAll_62 : decode cX1_readAll 62 = .ok (.ifCond .eq 21, 3) := by decide +kernel
theorem dX1_readAll_65 : decode cX1_readAll 65 = .ok (.aload_n 0, 1) := by decide +kernel
theorem dX1_readAll_66 : decode cX1_readAll 66 = .ok (.invokevirtual 245, 3) := by decide +kernel
theorem dX1_readAll_69 : decode cX1_readAll 69 = .ok (.ifCond .eq 14, 3) := by decide +kernel
theorem dX1_readAll_72 : decode cX1_readAll 72 = .ok (.aload_n 0, 1) := by decide +kernel
theorem dX1_readAll_73 : decode cX1_readAll 73 = .ok (.invokevirtual 248, 3) := by decide +kernel
theorem dX1_readAll_76 : decode cX1_readAll 76 = .ok (.ifCond .eq 7, 3) := by decide +kernel
theorem dX1_readAll_79 : decode cX1_readAll 79 = .ok (.iconst 1, 1) := by decide +kernel
theorem dX1_readAll_80 : decode cX1_readAll 80 = .ok (.goto 4, 3) := by decide +kernel
theorem dX1_readAll_83 : decode cX1_readAll 83 = .ok (.iconst 0, 1) := by decide +kernel
theorem dX1_readAll_84 : decode cX1_readAll 84 = .ok (.ireturn, 1) := by decide +kernel
theorem dX1_readField_0 : decode cX1_readField 0 = .ok (.aload_n 0, 1) := by decide +kernel
theorem dX1_readField_1 : decode cX1_readField 1 = .ok (.getfield 198, 3) := by decide +kernel
theorem dX1_readField_4 : decode cX1_readField 4 = .ok (.istore_n 1, 1) := by decide +kernel
theorem dX1_readField_5 : decode cX1_readField 5 = .ok (.aload_n 0, 1) := by decide +kernel
theorem dX1_readField_6 : decode cX1_readField 6 = .ok (.getfield 46, 3) := by decide +kernel
theorem dX1_readField_9 : decode cX1_readField 9 = .ok (.iload_n 1, 1) := by decide +kernel
theorem dX1_readField_10 : decode cX1_readField 10 = .ok (.aload_n 0, 1) := by decide +kernel
theorem dX1_readField_11 : decode cX1_readField 11 = .ok (.getfield 170, 3) := by decide +kernel
theorem dX1_readField_14 : decode cX1_readField 14 = .ok (.iastore, 1) := by decide +kernel
theorem dX1_readField_15 : decode cX1_readField 15 = .ok (.aload_n 0, 1) := by decide +kernel
theorem dX1_readField_16 : decode cX1_readField 16 = .ok (.getfield 28, 3) := by decide +kernel
theorem dX1_readField_19 : decode cX1_readField 19 = .ok (.iload_n 1, 1) := by decide +kernel
theorem dX1_readField_20 : decode cX1_readField 20 = .ok (.aload_n 0, 1) := by decide +kernel
theorem dX1_readField_21 : decode cX1_readField 21 = .ok (.invokevirtual 179, 3) := by decide +kernel
theorem dX1_readField_24 : decode cX1_readField 24 = .ok (.bipush 65, 2) := by decide +kernel
theorem dX1_readField_26 : decode cX1_readField 26 = .ok (.isub, 1) := by decide +kernel
theorem dX1_readField_27 : decode cX1_readField 27 = .ok (.iastore, 1) := by decide +kernel
theorem dX1_readField_28 : decode cX1_readField 28 = .ok (.aload_n 0, 1) := by decide +kernel
theorem dX1_readField_29 : decode cX1_readField 29 = .ok (.getfield 43, 3) := by decide +kernel
theorem dX1_readField_32 : decode cX1_readField 32 = .ok (.iload_n 1, 1) := by decide +kernel
theorem dX1_readField_33 : decode cX1_readField 33 = .ok (.aload_n 0, 1) := by decide +kernel
theorem dX1_readField_34 : decode cX1_readField 34 = .ok (.getfield 201, 3) := by decide +kernel
theorem dX1_readField_37 : decode cX1_readField 37 = .ok (.iastore, 1) := by decide +kernel
theorem dX1_readField_38 : decode cX1_readField 38 = .ok (.aload_n 0, 1) := by decide +kernel
theorem dX1_readField_39 : decode cX1_readField 39 = .ok (.invokevirtual 204, 3) := by decide +kernel
theorem dX1_readField_42 : decode cX1_readField 42 = .ok (.ifCond .ne 5, 3) := by decide +kernel
theorem dX1_readField_45 : decode cX1_readField 45 = .ok (.iconst 0, 1) := by decide +kernel
theorem dX1_readField_46 : decode cX1_readField 46 = .ok (.ireturn, 1) := by decide +kernel
theorem dX1_readField_47 : decode cX1_readField 47 = .ok (.aload_n 0, 1) := by decide +kernel
theorem dX1_readField_48 : decode cX1_readField 48 = .ok (.getfield 31, 3) := by decide +kernel
