theorem dX12_memoryWord_25 : decode cX12_memoryWord 25 = .ok (.goto 4, 3) := by decide +kernel
theorem dX12_memoryWord_28 : decode cX12_memoryWord 28 = .ok (.iconst 0, 1) := by decide +kernel
theorem dX12_memoryWord_29 : decode cX12_memoryWord 29 = .ok (.ior, 1) := by decide +kernel
theorem dX12_memoryWord_30 : decode cX12_memoryWord 30 = .ok (.istore_n 1, 1) := by decide +kernel
theorem dX12_memoryWord_31 : decode cX12_memoryWord 31 = .ok (.iinc 2 1, 3) := by decide +kernel
theorem dX12_memoryWord_34 : decode cX12_memoryWord 34 = .ok (.goto (-30), 3) := by decide +kernel
theorem dX12_memoryWord_37 : decode cX12_memoryWord 37 = .ok (.iload_n 1, 1) := by decide +kernel
theorem dX12_memoryWord_38 : decode cX12_memoryWord 38 = .ok (.ireturn, 1) := by decide +kernel
theorem dX12_named_0 : decode cX12_named 0 = .ok (.iconst 0, 1) := by decide +kernel
theorem dX12_named_1 : decode cX12_named 1 = .ok (.istore_n 3, 1) := by decide +kernel
theorem dX12_named_2 : decode cX12_named 2 = .ok (.iload_n 3, 1) := by decide +kernel
theorem dX12_named_3 : decode cX12_named 3 = .ok (.iload_n 2, 1) := by decide +kernel
theorem dX12_named_4 : decode cX12_named 4 = .ok (.if_icmp .ge 21, 3) := by decide +kernel
theorem dX12_named_7 : decode cX12_named 7 = .ok (.aload_n 0, 1) := by decide +kernel
theorem dX12_named_8 : decode cX12_named 8 = .ok (.getfield 28, 3) := by decide +kernel
theorem dX12_named_11 : decode cX12_named 11 = .ok (.iload_n 3, 1) := by decide +kernel
theorem dX12_named_12 : decode cX12_named 12 = .ok (.iaload, 1) := by decide +kernel
theorem dX12_named_13 : decode cX12_named 13 = .ok (.iload_n 1, 1) := by decide +kernel
theorem dX12_named_14 : decode cX12_named 14 = .ok (.if_icmp .ne 5, 3) := by decide +kernel
theorem dX12_named_17 : decode cX12_named 17 = .ok (.iload_n 3, 1) := by decide +kernel
theorem dX12_named_18 : decode cX12_named 18 = .ok (.ireturn, 1) := by decide +kernel
theorem dX12_named_19 : decode cX12_named 19 = .ok (.iinc 3 1, 3) := by decide +kernel
theorem dX12_named_22 : decode cX12_named 22 = .ok (.goto (-20), 3) := by decide +kernel
theorem dX12_named_25 : decode cX12_named 25 = .ok (.iconst (-1), 1) := by decide +kernel
theorem dX12_named_26 : decode cX12_named 26 = .ok (.ireturn, 1) := by decide +kernel
theorem dX12_operate_0 : decode cX12_operate 0 = .ok (.aload_n 0, 1) := by decide +kernel
theorem dX12_operate_1 : decode cX12_operate 1 = .ok (.getfield 337, 3) := by decide +kernel
theorem dX12_operate_4 : decode cX12_operate 4 = .ok (.ifCond .eq 4, 3) := by decide +kernel
theorem dX12_operate_7 : decode cX12_operate 7 = .ok (.return_, 1) := by decide +kernel
theorem dX12_operate_8 : decode cX12_operate 8 = .ok (.aload_n 0, 1) := by decide +kernel
theorem dX12_operate_9 : decode cX12_operate 9 = .ok (.iload_n 1, 1) := by decide +kernel
theorem dX12_operate_10 : decode cX12_operate 10 = .ok (.iload_n 2, 1) := by decide +kernel
theorem dX12_operate_11 : decode cX12_operate 11 = .ok (.invokevirtual 324, 3) := by decide +kernel
theorem dX12_operate_14 : decode cX12_operate 14 = .ok (.istore_n 3, 1) := by decide +kernel
theorem dX12_operate_15 : decode cX12_operate 15 = .ok (.iload_n 3, 1) := by decide +kernel
theorem dX12_operate_16 : decode cX12_operate 16 = .ok (.iconst (-1), 1) := by decide +kernel
theorem dX12_operate_17 : decode cX12_operate 17 = .ok (.if_icmp .eq 14, 3) := by decide +kernel
theorem dX12_operate_20 : decode cX12_operate 20 = .ok (.aload_n 0, 1) := by decide +kernel
theorem dX12_operate_21 : decode cX12_operate 21 = .ok (.iconst 1, 1) := by decide +kernel
theorem dX12_operate_22 : decode cX12_operate 22 = .ok (.putfield 337, 3) := by decide +kernel
theorem dX12_operate_25 : decode cX12_operate 25 = .ok (.aload_n 0, 1) := by decide +kernel
theorem dX12_operate_26 : decode cX12_operate 26 = .ok (.iload_n 3, 1) := by decide +kernel
theorem dX12_operate_27 : decode cX12_operate 27 = .ok (.putfield 340, 3) := by decide +kernel
theorem dX12_operate_30 : decode cX12_operate 30 = .ok (.return_, 1) := by decide +kernel
theorem dX12_operate_31 : decode cX12_operate 31 = .ok (.aload_n 0, 1) := by decide +kernel
theorem dX12_operate_32 : decode cX12_operate 32 = .ok (.iload_n 1, 1) := by decide +kernel
theorem dX12_operate_33 : decode cX12_operate 33 = .ok (.iload_n 2, 1) := by decide +kernel
theorem dX12_operate_34 : decode cX12_operate 34 = .ok (.invokevirtual 327, 3) := by decide +kernel
theorem dX12_operate_37 : decode cX12_operate 37 = .ok (.return_, 1) := by decide +kernel
theorem dX12_part_0 : decode cX12_part 0 = .ok (.iload_n 2, 1) := by decide +kernel
theorem dX12_part_1 : decode cX12_part 1 = .ok (.aload_n 0, 1) := by decide +kernel
theorem dX12_part_2 : decode cX12_part 2 = .ok (.getfield 86, 3) := by decide +kernel
theorem dX12_part_5 : decode cX12_part 5 = .ok (.iload_n 1, 1) := by decide +kernel
theorem dX12_part_6 : decode cX12_part 6 = .ok (.iaload, 1) := by decide +kernel
theorem dX12_part_7 : decode cX12_part 7 = .ok (.ishr, 1) := by decide +kernel
theorem dX12_part_8 : decode cX12_part 8 = .ok (.iconst 1, 1) := by decide +kernel
theorem dX12_part_9 : decode cX12_part 9 = .ok (.aload_n 0, 1) := by decide +kernel
theorem dX12_part_10 : decode cX12_part 10 = .ok (.getfield 89, 3) := by decide +kernel
theorem dX12_part_13 : decode cX12_part 13 = .ok (.iload_n 1, 1) := by decide +kernel
theorem dX12_part_14 : decode cX12_part 14 = .ok (.iaload, 1) := by decide +kernel
theorem dX12_part_15 : decode cX12_part 15 = .ok (.ishl, 1) := by decide +kernel
theorem dX12_part_16 : decode cX12_part 16 = .ok (.iconst 1, 1) := by decide +kernel
theorem dX12_part_17 : decode cX12_part 17 = .ok (.isub, 1) := by decide +kernel
theorem dX12_part_18 : decode cX12_part 18 = .ok (.iand, 1) := by decide +kernel
theorem dX12_part_19 : decode cX12_part 19 = .ok (.ireturn, 1) := by decide +kernel
theorem dX12_poke_0 : decode cX12_poke 0 = .ok (.aload_n 0, 1) := by decide +kernel
theorem dX12_poke_1 : decode cX12_poke 1 = .ok (.iconst 0, 1) := by decide +kernel
theorem dX12_poke_2 : decode cX12_poke 2 = .ok (.putfield 161, 3) := by decide +kernel
theorem dX12_poke_5 : decode cX12_poke 5 = .ok (.aload_n 0, 1) := by decide +kernel
theorem dX12_poke_6 : decode cX12_poke 6 = .ok (.iload_n 1, 1) := by decide +kernel
theorem dX12_poke_7 : decode cX12_poke 7 = .ok (.invokevirtual 317, 3) := by decide +kernel
theorem dX12_poke_10 : decode cX12_poke 10 = .ok (.ifCond .eq 45, 3) := by decide +kernel
theorem dX12_poke_13 : decode cX12_poke 13 = .ok (.aload_n 0, 1) := by decide +kernel
theorem dX12_poke_14 : decode cX12_poke 14 = .ok (.getfield 80, 3) := by decide +kernel
theorem dX12_poke_17 : decode cX12_poke 17 = .ok (.iload_n 1, 1) := by decide +kernel
theorem dX12_poke_18 : decode cX12_poke 18 = .ok (.iaload, 1) := by decide +kernel
theorem dX12_poke_19 : decode cX12_poke 19 = .ok (.bipush 114, 2) := by decide +kernel
theorem dX12_poke_21 : decode cX12_poke 21 = .ok (.if_icmp .eq 25, 3) := by decide +kernel
theorem dX12_poke_24 : decode cX12_poke 24 = .ok (.aload_n 0, 1) := by decide +kernel
theorem dX12_poke_25 : decode cX12_poke 25 = .ok (.getfield 80, 3) := by decide +kernel
theorem dX12_poke_28 : decode cX12_poke 28 = .ok (.iload_n 1, 1) := by decide +kernel
theorem dX12_poke_29 : decode cX12_poke 29 = .ok (.iaload, 1) := by decide +kernel
theorem dX12_poke_30 : decode cX12_poke 30 = .ok (.bipush 99, 2) := by decide +kernel
theorem dX12_poke_32 : decode cX12_poke 32 = .ok (.if_icmp .eq 14, 3) := by decide +kernel
theorem dX12_poke_35 : decode cX12_poke 35 = .ok (.aload_n 0, 1) := by decide +kernel
theorem dX12_poke_36 : decode cX12_poke 36 = .ok (.getfield 80, 3) := by decide +kernel
theorem dX12_poke_39 : decode cX12_poke 39 = .ok (.iload_n 1, 1) := by decide +kernel
theorem dX12_poke_40 : decode cX12_poke 40 = .ok (.iaload, 1) := by decide +kernel
theorem dX12_poke_41 : decode cX12_poke 41 = .ok (.bipush 116, 2) := by decide +kernel
theorem dX12_poke_43 : decode cX12_poke 43 = .ok (.if_icmp .ne 12, 3) := by decide +kernel
theorem dX12_poke_46 : decode cX12_poke 46 = .ok (.aload_n 0, 1) := by decide +kernel
theorem dX12_poke_47 : decode cX12_poke 47 = .ok (.iload_n 1, 1) := by decide +kernel
theorem dX12_poke_48 : decode cX12_poke 48 = .ok (.iload_n 2, 1) := by decide +kernel
theorem dX12_poke_49 : decode cX12_poke 49 = .ok (.invokevirtual 334, 3) := by decide +kernel
theorem dX12_poke_52 : decode cX12_poke 52 = .ok (.ifCond .ne 5, 3) := by decide +kernel
theorem dX12_poke_55 : decode cX12_poke 55 = .ok (.iconst 0, 1) := by decide +kernel
theorem dX12_poke_56 : decode cX12_poke 56 = .ok (.ireturn, 1) := by decide +kernel
theorem dX12_poke_57 : decode cX12_poke 57 = .ok (.aload_n 0, 1) := by decide +kernel
theorem dX12_poke_58 : decode cX12_poke 58 = .ok (.getfield 107, 3) := by decide +kernel
theorem dX12_poke_61 : decode cX12_poke 61 = .ok (.iload_n 1, 1) := by decide +kernel
theorem dX12_poke_62 : decode cX12_poke 62 = .ok (.iload_n 2, 1) := by decide +kernel
theorem dX12_poke_63 : decode cX12_poke 63 = .ok (.iastore, 1) := by decide +kernel
theorem dX12_poke_64 : decode cX12_poke 64 = .ok (.iconst 1, 1) := by decide +kernel
theorem dX12_poke_65 : decode cX12_poke 65 = .ok (.ireturn, 1) := by decide +kernel
theorem dX12_put_0 : decode cX12_put 0 = .ok (.aload_n 0, 1) := by decide +kernel
theorem dX12_put_1 : decode cX12_put 1 = .ok (.iconst 0, 1) := by decide +kernel
theorem dX12_put_2 : decode cX12_put 2 = .ok (.putfield 161, 3) := by decide +kernel
theorem dX12_put_5 : decode cX12_put 5 = .ok (.aload_n 0, 1) := by decide +kernel
theorem dX12_put_6 : decode cX12_put 6 = .ok (.iload_n 1, 1) := by decide +kernel
theorem dX12_put_7 : decode cX12_put 7 = .ok (.iload_n 2, 1) := by decide +kernel
theorem dX12_put_8 : decode cX12_put 8 = .ok (.invokevirtual 366, 3) := by decide +kernel
theorem dX12_put_11 : decode cX12_put 11 = .ok (.ifCond .eq 10, 3) := by decide +kernel
theorem dX12_put_14 : decode cX12_put 14 = .ok (.aload_n 0, 1) := by decide +kernel
theorem dX12_put_15 : decode cX12_put 15 = .ok (.getfield 288, 3) := by decide +kernel
theorem dX12_put_18 : decode cX12_put 18 = .ok (.ifCond .le 5, 3) := by decide +kernel
theorem dX12_put_21 : decode cX12_put 21 = .ok (.iconst (-1), 1) := by decide +kernel
theorem dX12_put_22 : decode cX12_put 22 = .ok (.ireturn, 1) := by decide +kernel
theorem dX12_put_23 : decode cX12_put 23 = .ok (.aload_n 0, 1) := by decide +kernel
theorem dX12_put_24 : decode cX12_put 24 = .ok (.invokevirtual 369, 3) := by decide +kernel
theorem dX12_put_27 : decode cX12_put 27 = .ok (.aload_n 0, 1) := by decide +kernel
theorem dX12_put_28 : decode cX12_put 28 = .ok (.iload_n 1, 1) := by decide +kernel
theorem dX12_put_29 : decode cX12_put 29 = .ok (.iload_n 2, 1) := by decide +kernel
theorem dX12_put_30 : decode cX12_put 30 = .ok (.invokevirtual 372, 3) := by decide +kernel
theorem dX12_put_33 : decode cX12_put 33 = .ok (.aload_n 0, 1) := by decide +kernel
theorem dX12_put_34 : decode cX12_put 34 = .ok (.invokevirtual 375, 3) := by decide +kernel
theorem dX12_put_37 : decode cX12_put 37 = .ok (.ireturn, 1) := by decide +kernel
theorem dX12_raise_0 : decode cX12_raise 0 = .ok (.aload_n 0, 1) := by decide +kernel
theorem dX12_raise_1 : decode cX12_raise 1 = .ok (.iload_n 1, 1) := by decide +kernel
theorem dX12_raise_2 : decode cX12_raise 2 = .ok (.putfield 161, 3) := by decide +kernel
theorem dX12_raise_5 : decode cX12_raise 5 = .ok (.iconst 0, 1) := by decide +kernel
theorem dX12_raise_6 : decode cX12_raise 6 = .ok (.ireturn, 1) := by decide +kernel
theorem dX12_reach_0 : decode cX12_reach 0 = .ok (.aload_n 0, 1) := by decide +kernel
theorem dX12_reach_1 : decode cX12_reach 1 = .ok (.iload_n 1, 1) := by decide +kernel
theorem dX12_reach_2 : decode cX12_reach 2 = .ok (.invokevirtual 314, 3) := by decide +kernel
theorem dX12_reach_5 : decode cX12_reach 5 = .ok (.ifCond .eq 4, 3) := by decide +kernel
theorem dX12_reach_8 : decode cX12_reach 8 = .ok (.return_, 1) := by decide +kernel
theorem dX12_reach_9 : decode cX12_reach 9 = .ok (.aload_n 0, 1) := by decide +kernel
theorem dX12_reach_10 : decode cX12_reach 10 = .ok (.getfield 70, 3) := by decide +kernel
theorem dX12_reach_13 : decode cX12_reach 13 = .ok (.iload_n 1, 1) := by decide +kernel
theorem dX12_reach_14 : decode cX12_reach 14 = .ok (.iaload, 1) := by decide +kernel
theorem dX12_reach_15 : decode cX12_reach 15 = .ok (.istore_n 2, 1) := by decide +kernel
theorem dX12_reach_16 : decode cX12_reach 16 = .ok (.aload_n 0, 1) := by decide +kernel
theorem dX12_reach_17 : decode cX12_reach 17 = .ok (.aload_n 0, 1) := by decide +kernel
theorem dX12_reach_18 : decode cX12_reach 18 = .ok (.getfield 83, 3) := by decide +kernel
theorem dX12_reach_21 : decode cX12_reach 21 = .ok (.iload_n 2, 1) := by decide +kernel
theorem dX12_reach_22 : decode cX12_reach 22 = .ok (.iaload, 1) := by decide +kernel
theorem dX12_reach_23 : decode cX12_reach 23 = .ok (.aload_n 0, 1) := by decide +kernel
theorem dX12_reach_24 : decode cX12_reach 24 = .ok (.aload_n 0, 1) := by decide +kernel
theorem dX12_reach_25 : decode cX12_reach 25 = .ok (.aload_n 0, 1) := by decide +kernel
theorem dX12_reach_26 : decode cX12_reach 26 = .ok (.getfield 83, 3) := by decide +kernel
theorem dX12_reach_29 : decode cX12_reach 29 = .ok (.iload_n 2, 1) := by decide +kernel
theorem dX12_reach_30 : decode cX12_reach 30 = .ok (.iaload, 1) := by decide +kernel
theorem dX12_reach_31 : decode cX12_reach 31 = .ok (.invokevirtual 343, 3) := by decide +kernel
theorem dX12_reach_34 : decode cX12_reach 34 = .ok (.iload_n 2, 1) := by decide +kernel
theorem dX12_reach_35 : decode cX12_reach 35 = .ok (.aload_n 0, 1) := by decide +kernel
theorem dX12_reach_36 : decode cX12_reach 36 = .ok (.getfield 73, 3) := by decide +kernel
theorem dX12_reach_39 : decode cX12_reach 39 = .ok (.iload_n 1, 1) := by decide +kernel
theorem dX12_reach_40 : decode cX12_reach 40 = .ok (.iaload, 1) := by decide +kernel
theorem dX12_reach_41 : decode cX12_reach 41 = .ok (.invokevirtual 346, 3) := by decide +kernel
theorem dX12_reach_44 : decode cX12_reach 44 = .ok (.invokevirtual 350, 3) := by decide +kernel
theorem dX12_reach_47 : decode cX12_reach 47 = .ok (.return_, 1) := by decide +kernel
theorem dX12_read_0 : decode cX12_read 0 = .ok (.iconst 0, 1) := by decide +kernel
theorem dX12_read_1 : decode cX12_read 1 = .ok (.istore_n 2, 1) := by decide +kernel
theorem dX12_read_2 : decode cX12_read 2 = .ok (.iconst 0, 1) := by decide +kernel
theorem dX12_read_3 : decode cX12_read 3 = .ok (.istore_n 3, 1) := by decide +kernel
theorem dX12_read_4 : decode cX12_read 4 = .ok (.iload_n 3, 1) := by decide +kernel
theorem dX12_read_5 : decode cX12_read 5 = .ok (.bipush 26, 2) := by decide +kernel
theorem dX12_read_7 : decode cX12_read 7 = .ok (.if_icmp .ge 118, 3) := by decide +kernel
theorem dX12_read_10 : decode cX12_read 10 = .ok (.aload_n 0, 1) := by decide +kernel
theorem dX12_read_11 : decode cX12_read 11 = .ok (.iload_n 3, 1) := by decide +kernel
theorem dX12_read_12 : decode cX12_read 12 = .ok (.iload_n 1, 1) := by decide +kernel
theorem dX12_read_13 : decode cX12_read 13 = .ok (.invokevirtual 291, 3) := by decide +kernel
theorem dX12_read_16 : decode cX12_read 16 = .ok (.ifCond .eq 103, 3) := by decide +kernel
theorem dX12_read_19 : decode cX12_read 19 = .ok (.aload_n 0, 1) := by decide +kernel
theorem dX12_read_20 : decode cX12_read 20 = .ok (.getfield 80, 3) := by decide +kernel
theorem dX12_read_23 : decode cX12_read 23 = .ok (.iload_n 3, 1) := by decide +kernel
theorem dX12_read_24 : decode cX12_read 24 = .ok (.iaload, 1) := by decide +kernel
theorem dX12_read_25 : decode cX12_read 25 = .ok (.bipush 111, 2) := by decide +kernel
theorem dX12_read_27 : decode cX12_read 27 = .ok (.if_icmp .ne 6, 3) := by decide +kernel
theorem dX12_read_30 : decode cX12_read 30 = .ok (.goto 89, 3) := by decide +kernel
theorem dX12_read_33 : decode cX12_read 33 = .ok (.iload_n 2, 1) := by decide +kernel
theorem dX12_read_34 : decode cX12_read 34 = .ok (.aload_n 0, 1) := by decide +kernel
theorem dX12_read_35 : decode cX12_read 35 = .ok (.getfield 107, 3) := by decide +kernel
theorem dX12_read_38 : decode cX12_read 38 = .ok (.iload_n 3, 1) := by decide +kernel
theorem dX12_read_39 : decode cX12_read 39 = .ok (.iaload, 1) := by decide +kernel
theorem dX12_read_40 : decode cX12_read 40 = .ok (.aload_n 0, 1) := by decide +kernel
theorem dX12_read_41 : decode cX12_read 41 = .ok (.getfield 86, 3) := by decide +kernel
theorem dX12_read_44 : decode cX12_read 44 = .ok (.iload_n 3, 1) := by decide +kernel
theorem dX12_read_45 : decode cX12_read 45 = .ok (.iaload, 1) := by decide +kernel
theorem dX12_read_46 : decode cX12_read 46 = .ok (.ishl, 1) := by decide +kernel
theorem dX12_read_47 : decode cX12_read 47 = .ok (.ior, 1) := by decide +kernel
theorem dX12_read_48 : decode cX12_read 48 = .ok (.istore_n 2, 1) := by decide +kernel
theorem dX12_read_49 : decode cX12_read 49 = .ok (.aload_n 0, 1) := by decide +kernel
theorem dX12_read_50 : decode cX12_read 50 = .ok (.getfield 80, 3) := by decide +kernel
theorem dX12_read_53 : decode cX12_read 53 = .ok (.iload_n 3, 1) := by decide +kernel
theorem dX12_read_54 : decode cX12_read 54 = .ok (.iaload, 1) := by decide +kernel
theorem dX12_read_55 : decode cX12_read 55 = .ok (.bipush 99, 2) := by decide +kernel
theorem dX12_read_57 : decode cX12_read 57 = .ok (.if_icmp .ne 25, 3) := by decide +kernel
theorem dX12_read_60 : decode cX12_read 60 = .ok (.aload_n 0, 1) := by decide +kernel
theorem dX12_read_61 : decode cX12_read 61 = .ok (.getfield 113, 3) := by decide +kernel
theorem dX12_read_64 : decode cX12_read 64 = .ok (.iload_n 3, 1) := by decide +kernel
theorem dX12_read_65 : decode cX12_read 65 = .ok (.dup2, 1) := by decide +kernel
theorem dX12_read_66 : decode cX12_read 66 = .ok (.iaload, 1) := by decide +kernel
theorem dX12_read_67 : decode cX12_read 67 = .ok (.aload_n 0, 1) := by decide +kernel
theorem dX12_read_68 : decode cX12_read 68 = .ok (.getfield 107, 3) := by decide +kernel
theorem dX12_read_71 : decode cX12_read 71 = .ok (.iload_n 3, 1) := by decide +kernel
theorem dX12_read_72 : decode cX12_read 72 = .ok (.iaload, 1) := by decide +kernel
theorem dX12_read_73 : decode cX12_read 73 = .ok (.ior, 1) := by decide +kernel
theorem dX12_read_74 : decode cX12_read 74 = .ok (.iastore, 1) := by decide +kernel
theorem dX12_read_75 : decode cX12_read 75 = .ok (.aload_n 0, 1) := by decide +kernel
theorem dX12_read_76 : decode cX12_read 76 = .ok (.getfield 107, 3) := by decide +kernel
theorem dX12_read_79 : decode cX12_read 79 = .ok (.iload_n 3, 1) := by decide +kernel
theorem dX12_read_80 : decode cX12_read 80 = .ok (.iconst 0, 1) := by decide +kernel
theorem dX12_read_81 : decode cX12_read 81 = .ok (.iastore, 1) := by decide +kernel
theorem dX12_read_82 : decode cX12_read 82 = .ok (.aload_n 0, 1) := by decide +kernel
theorem dX12_read_83 : decode cX12_read 83 = .ok (.getfield 80, 3) := by decide +kernel
theorem dX12_read_86 : decode cX12_read 86 = .ok (.iload_n 3, 1) := by decide +kernel
theorem dX12_read_87 : decode cX12_read 87 = .ok (.iaload, 1) := by decide +kernel
theorem dX12_read_88 : decode cX12_read 88 = .ok (.bipush 112, 2) := by decide +kernel
theorem dX12_read_90 : decode cX12_read 90 = .ok (.if_icmp .ne 29, 3) := by decide +kernel
theorem dX12_read_93 : decode cX12_read 93 = .ok (.aload_n 0, 1) := by decide +kernel
theorem dX12_read_94 : decode cX12_read 94 = .ok (.getfield 110, 3) := by decide +kernel
theorem dX12_read_97 : decode cX12_read 97 = .ok (.iload_n 3, 1) := by decide +kernel
theorem dX12_read_98 : decode cX12_read 98 = .ok (.dup2, 1) := by decide +kernel
theorem dX12_read_99 : decode cX12_read 99 = .ok (.iaload, 1) := by decide +kernel
theorem dX12_read_100 : decode cX12_read 100 = .ok (.iconst 1, 1) := by decide +kernel
theorem dX12_read_101 : decode cX12_read 101 = .ok (.isub, 1) := by decide +kernel
theorem dX12_read_102 : decode cX12_read 102 = .ok (.iastore, 1) := by decide +kernel
theorem dX12_read_103 : decode cX12_read 103 = .ok (.aload_n 0, 1) := by decide +kernel
theorem dX12_read_104 : decode cX12_read 104 = .ok (.getfield 110, 3) := by decide +kernel
theorem dX12_read_107 : decode cX12_read 107 = .ok (.iload_n 3, 1) := by decide +kernel
theorem dX12_read_108 : decode cX12_read 108 = .ok (.iaload, 1) := by decide +kernel
theorem dX12_read_109 : decode cX12_read 109 = .ok (.ifCond .gt 10, 3) := by decide +kernel
theorem dX12_read_112 : decode cX12_read 112 = .ok (.aload_n 0, 1) := by decide +kernel
theorem dX12_read_113 : decode cX12_read 113 = .ok (.getfield 107, 3) := by decide +kernel
theorem dX12_read_116 : decode cX12_read 116 = .ok (.iload_n 3, 1) := by decide +kernel
theorem dX12_read_117 : decode cX12_read 117 = .ok (.iconst 0, 1) := by decide +kernel
theorem dX12_read_118 : decode cX12_read 118 = .ok (.iastore, 1) := by decide +kernel
theorem dX12_read_119 : decode cX12_read 119 = .ok (.iinc 3 1, 3) := by decide +kernel
theorem dX12_read_122 : decode cX12_read 122 = .ok (.goto (-118), 3) := by decide +kernel
theorem dX12_read_125 : decode cX12_read 125 = .ok (.aload_n 0, 1) := by decide +kernel
theorem dX12_read_126 : decode cX12_read 126 = .ok (.iconst 0, 1) := by decide +kernel
theorem dX12_read_127 : decode cX12_read 127 = .ok (.iload_n 1, 1) := by decide +kernel
theorem dX12_read_128 : decode cX12_read 128 = .ok (.iload_n 2, 1) := by decide +kernel
theorem dX12_read_129 : decode cX12_read 129 = .ok (.invokevirtual 310, 3) := by decide +kernel
theorem dX12_read_132 : decode cX12_read 132 = .ok (.iload_n 2, 1) := by decide +kernel
theorem dX12_read_133 : decode cX12_read 133 = .ok (.ireturn, 1) := by decide +kernel
theorem dX12_readAll_0 : decode cX12_readAll 0 = .ok (.aload_n 0, 1) := by decide +kernel
theorem dX12_readAll_1 : decode cX12_readAll 1 = .ok (.iconst 0, 1) := by decide +kernel
theorem dX12_readAll_2 : decode cX12_readAll 2 = .ok (.putfield 170, 3) := by decide +kernel
theorem dX12_readAll_5 : decode cX12_readAll 5 = .ok (.aload_n 0, 1) := by decide +kernel
theorem dX12_readAll_6 : decode cX12_readAll 6 = .ok (.iconst 0, 1) := by decide +kernel
theorem dX12_readAll_7 : decode cX12_readAll 7 = .ok (.putfield 201, 3) := by decide +kernel
theorem dX12_readAll_10 : decode cX12_readAll 10 = .ok (.aload_n 0, 1) := by decide +kernel
theorem dX12_readAll_11 : decode cX12_readAll 11 = .ok (.iconst 0, 1) := by decide +kernel
theorem dX12_readAll_12 : decode cX12_readAll 12 = .ok (.putfield 198, 3) := by decide +kernel
theorem dX12_readAll_15 : decode cX12_readAll 15 = .ok (.aload_n 0, 1) := by decide +kernel
theorem dX12_readAll_16 : decode cX12_readAll 16 = .ok (.iconst 0, 1) := by decide +kernel
theorem dX12_readAll_17 : decode cX12_readAll 17 = .ok (.putfield 223, 3) := by decide +kernel
theorem dX12_readAll_20 : decode cX12_readAll 20 = .ok (.aload_n 0, 1) := by decide +kernel
