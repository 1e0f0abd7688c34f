theorem dX0_busWrite_37 : decode cX0_busWrite 37 = .ok (.iload_n 3, 1) := by decide +kernel
theorem dX0_busWrite_38 : decode cX0_busWrite 38 = .ok (.iload_n 2, 1) := by decide +kernel
theorem dX0_busWrite_39 : decode cX0_busWrite 39 = .ok (.ldc 148, 2) := by decide +kernel
theorem dX0_busWrite_41 : decode cX0_busWrite 41 = .ok (.iand, 1) := by decide +kernel
theorem dX0_busWrite_42 : decode cX0_busWrite 42 = .ok (.invokevirtual 154, 3) := by decide +kernel
theorem dX0_busWrite_45 : decode cX0_busWrite 45 = .ok (.aload_n 0, 1) := by decide +kernel
theorem dX0_busWrite_46 : decode cX0_busWrite 46 = .ok (.getfield 44, 3) := by decide +kernel
theorem dX0_busWrite_49 : decode cX0_busWrite 49 = .ok (.dup, 1) := by decide +kernel
theorem dX0_busWrite_50 : decode cX0_busWrite 50 = .ok (.getfield 158, 3) := by decide +kernel
theorem dX0_busWrite_53 : decode cX0_busWrite 53 = .ok (.iload 4, 2) := by decide +kernel
theorem dX0_busWrite_55 : decode cX0_busWrite 55 = .ok (.invokestatic 161, 3) := by decide +kernel
theorem dX0_busWrite_58 : decode cX0_busWrite 58 = .ok (.iadd, 1) := by decide +kernel
theorem dX0_busWrite_59 : decode cX0_busWrite 59 = .ok (.putfield 158, 3) := by decide +kernel
theorem dX0_busWrite_62 : decode cX0_busWrite 62 = .ok (.iload 4, 2) := by decide +kernel
theorem dX0_busWrite_64 : decode cX0_busWrite 64 = .ok (.ifCond .ne 7, 3) := by decide +kernel
theorem dX0_busWrite_67 : decode cX0_busWrite 67 = .ok (.iconst 0, 1) := by decide +kernel
theorem dX0_busWrite_68 : decode cX0_busWrite 68 = .ok (.goto 10, 3) := by decide +kernel
theorem dX0_busWrite_71 : decode cX0_busWrite 71 = .ok (.iconst 1, 1) := by decide +kernel
theorem dX0_busWrite_72 : decode cX0_busWrite 72 = .ok (.iload 4, 2) := by decide +kernel
theorem dX0_busWrite_74 : decode cX0_busWrite 74 = .ok (.invokestatic 166, 3) := by decide +kernel
theorem dX0_busWrite_77 : decode cX0_busWrite 77 = .ok (.iadd, 1) := by decide +kernel
theorem dX0_busWrite_78 : decode cX0_busWrite 78 = .ok (.ireturn, 1) := by decide +kernel
theorem dX0_check_0 : decode cX0_check 0 = .ok (.aload_n 0, 1) := by decide +kernel
theorem dX0_check_1 : decode cX0_check 1 = .ok (.invokevirtual 138, 3) := by decide +kernel
theorem dX0_check_4 : decode cX0_check 4 = .ok (.ifCond .ne 5, 3) := by decide +kernel
theorem dX0_check_7 : decode cX0_check 7 = .ok (.iconst (-1), 1) := by decide +kernel
theorem dX0_check_8 : decode cX0_check 8 = .ok (.ireturn, 1) := by decide +kernel
theorem dX0_check_9 : decode cX0_check 9 = .ok (.aload_n 0, 1) := by decide +kernel
theorem dX0_check_10 : decode cX0_check 10 = .ok (.getfield 72, 3) := by decide +kernel
theorem dX0_check_13 : decode cX0_check 13 = .ok (.invokevirtual 245, 3) := by decide +kernel
theorem dX0_check_16 : decode cX0_check 16 = .ok (.iconst 0, 1) := by decide +kernel
theorem dX0_check_17 : decode cX0_check 17 = .ok (.istore_n 1, 1) := by decide +kernel
theorem dX0_check_18 : decode cX0_check 18 = .ok (.iload_n 1, 1) := by decide +kernel
theorem dX0_check_19 : decode cX0_check 19 = .ok (.sipush 1000, 3) := by decide +kernel
theorem dX0_check_22 : decode cX0_check 22 = .ok (.if_icmp .ge 41, 3) := by decide +kernel
theorem dX0_check_25 : decode cX0_check 25 = .ok (.iload_n 1, 1) := by decide +kernel
theorem dX0_check_26 : decode cX0_check 26 = .ok (.aload_n 0, 1) := by decide +kernel
theorem dX0_check_27 : decode cX0_check 27 = .ok (.getfield 72, 3) := by decide +kernel
theorem dX0_check_30 : decode cX0_check 30 = .ok (.getfield 247, 3) := by decide +kernel
theorem dX0_check_33 : decode cX0_check 33 = .ok (.if_icmp .ge 30, 3) := by decide +kernel
theorem dX0_check_36 : decode cX0_check 36 = .ok (.aload_n 0, 1) := by decide +kernel
theorem dX0_check_37 : decode cX0_check 37 = .ok (.getfield 72, 3) := by decide +kernel
theorem dX0_check_40 : decode cX0_check 40 = .ok (.getfield 248, 3) := by decide +kernel
theorem dX0_check_43 : decode cX0_check 43 = .ok (.ifCond .eq 6, 3) := by decide +kernel
theorem dX0_check_46 : decode cX0_check 46 = .ok (.goto 17, 3) := by decide +kernel
theorem dX0_check_49 : decode cX0_check 49 = .ok (.aload_n 0, 1) := by decide +kernel
theorem dX0_check_50 : decode cX0_check 50 = .ok (.getfield 72, 3) := by decide +kernel
theorem dX0_check_53 : decode cX0_check 53 = .ok (.iload_n 1, 1) := by decide +kernel
theorem dX0_check_54 : decode cX0_check 54 = .ok (.invokevirtual 252, 3) := by decide +kernel
theorem dX0_check_57 : decode cX0_check 57 = .ok (.iinc 1 1, 3) := by decide +kernel
theorem dX0_check_60 : decode cX0_check 60 = .ok (.goto (-42), 3) := by decide +kernel
theorem dX0_check_63 : decode cX0_check 63 = .ok (.aload_n 0, 1) := by decide +kernel
theorem dX0_check_64 : decode cX0_check 64 = .ok (.getfield 72, 3) := by decide +kernel
theorem dX0_check_67 : decode cX0_check 67 = .ok (.getfield 248, 3) := by decide +kernel
theorem dX0_check_70 : decode cX0_check 70 = .ok (.ifCond .eq 8, 3) := by decide +kernel
theorem dX0_check_73 : decode cX0_check 73 = .ok (.bipush (-2), 2) := by decide +kernel
theorem dX0_check_75 : decode cX0_check 75 = .ok (.goto 12, 3) := by decide +kernel
theorem dX0_check_78 : decode cX0_check 78 = .ok (.iconst 1, 1) := by decide +kernel
theorem dX0_check_79 : decode cX0_check 79 = .ok (.aload_n 0, 1) := by decide +kernel
theorem dX0_check_80 : decode cX0_check 80 = .ok (.getfield 72, 3) := by decide +kernel
theorem dX0_check_83 : decode cX0_check 83 = .ok (.getfield 255, 3) := by decide +kernel
theorem dX0_check_86 : decode cX0_check 86 = .ok (.iadd, 1) := by decide +kernel
theorem dX0_check_87 : decode cX0_check 87 = .ok (.ireturn, 1) := by decide +kernel
theorem dX0_compile_0 : decode cX0_compile 0 = .ok (.aload_n 0, 1) := by decide +kernel
theorem dX0_compile_1 : decode cX0_compile 1 = .ok (.getfield 21, 3) := by decide +kernel
theorem dX0_compile_4 : decode cX0_compile 4 = .ok (.invokevirtual 80, 3) := by decide +kernel
theorem dX0_compile_7 : decode cX0_compile 7 = .ok (.istore_n 1, 1) := by decide +kernel
theorem dX0_compile_8 : decode cX0_compile 8 = .ok (.aload_n 0, 1) := by decide +kernel
theorem dX0_compile_9 : decode cX0_compile 9 = .ok (.getfield 28, 3) := by decide +kernel
theorem dX0_compile_12 : decode cX0_compile 12 = .ok (.iload_n 1, 1) := by decide +kernel
theorem dX0_compile_13 : decode cX0_compile 13 = .ok (.aload_n 0, 1) := by decide +kernel
theorem dX0_compile_14 : decode cX0_compile 14 = .ok (.getfield 21, 3) := by decide +kernel
theorem dX0_compile_17 : decode cX0_compile 17 = .ok (.getfield 84, 3) := by decide +kernel
theorem dX0_compile_20 : decode cX0_compile 20 = .ok (.invokevirtual 88, 3) := by decide +kernel
theorem dX0_compile_23 : decode cX0_compile 23 = .ok (.aload_n 0, 1) := by decide +kernel
theorem dX0_compile_24 : decode cX0_compile 24 = .ok (.getfield 28, 3) := by decide +kernel
theorem dX0_compile_27 : decode cX0_compile 27 = .ok (.getfield 92, 3) := by decide +kernel
theorem dX0_compile_30 : decode cX0_compile 30 = .ok (.ifCond .eq 11, 3) := by decide +kernel
theorem dX0_compile_33 : decode cX0_compile 33 = .ok (.new 95, 3) := by decide +kernel
theorem dX0_compile_41 : decode cX0_compile 41 = .ok (.aload_n 0, 1) := by decide +kernel
theorem dX0_compile_42 : decode cX0_compile 42 = .ok (.getfield 35, 3) := by decide +kernel
theorem dX0_compile_45 : decode cX0_compile 45 = .ok (.aload_n 0, 1) := by decide +kernel
theorem dX0_compile_46 : decode cX0_compile 46 = .ok (.getfield 12, 3) := by decide +kernel
theorem dX0_compile_49 : decode cX0_compile 49 = .ok (.invokevirtual 98, 3) := by decide +kernel
theorem dX0_compile_52 : decode cX0_compile 52 = .ok (.aload_n 0, 1) := by decide +kernel
theorem dX0_compile_53 : decode cX0_compile 53 = .ok (.getfield 64, 3) := by decide +kernel
theorem dX0_compile_56 : decode cX0_compile 56 = .ok (.iconst 0, 1) := by decide +kernel
theorem dX0_compile_57 : decode cX0_compile 57 = .ok (.putfield 101, 3) := by decide +kernel
theorem dX0_compile_60 : decode cX0_compile 60 = .ok (.aload_n 0, 1) := by decide +kernel
theorem dX0_compile_61 : decode cX0_compile 61 = .ok (.invokevirtual 104, 3) := by decide +kernel
theorem dX0_compile_64 : decode cX0_compile 64 = .ok (.aload_n 0, 1) := by decide +kernel
theorem dX0_compile_65 : decode cX0_compile 65 = .ok (.getfield 35, 3) := by decide +kernel
theorem dX0_compile_68 : decode cX0_compile 68 = .ok (.getfield 107, 3) := by decide +kernel
theorem dX0_compile_71 : decode cX0_compile 71 = .ok (.ireturn, 1) := by decide +kernel
theorem dX0_doStep_0 : decode cX0_doStep 0 = .ok (.aload_n 0, 1) := by decide +kernel
theorem dX0_doStep_1 : decode cX0_doStep 1 = .ok (.getfield 64, 3) := by decide +kernel
theorem dX0_doStep_4 : decode cX0_doStep 4 = .ok (.getfield 280, 3) := by decide +kernel
theorem dX0_doStep_7 : decode cX0_doStep 7 = .ok (.iload_n 1, 1) := by decide +kernel
theorem dX0_doStep_8 : decode cX0_doStep 8 = .ok (.iaload, 1) := by decide +kernel
theorem dX0_doStep_9 : decode cX0_doStep 9 = .ok (.istore_n 2, 1) := by decide +kernel
theorem dX0_doStep_10 : decode cX0_doStep 10 = .ok (.aload_n 0, 1) := by decide +kernel
theorem dX0_doStep_11 : decode cX0_doStep 11 = .ok (.getfield 64, 3) := by decide +kernel
theorem dX0_doStep_14 : decode cX0_doStep 14 = .ok (.getfield 261, 3) := by decide +kernel
theorem dX0_doStep_17 : decode cX0_doStep 17 = .ok (.iload_n 1, 1) := by decide +kernel
theorem dX0_doStep_18 : decode cX0_doStep 18 = .ok (.iaload, 1) := by decide +kernel
theorem dX0_doStep_19 : decode cX0_doStep 19 = .ok (.iconst 1, 1) := by decide +kernel
theorem dX0_doStep_20 : decode cX0_doStep 20 = .ok (.if_icmp .ne 21, 3) := by decide +kernel
theorem dX0_doStep_23 : decode cX0_doStep 23 = .ok (.aload_n 0, 1) := by decide +kernel
theorem dX0_doStep_24 : decode cX0_doStep 24 = .ok (.iload_n 2, 1) := by decide +kernel
theorem dX0_doStep_25 : decode cX0_doStep 25 = .ok (.invokevirtual 202, 3) := by decide +kernel
theorem dX0_doStep_28 : decode cX0_doStep 28 = .ok (.ifCond .ne 5, 3) := by decide +kernel
theorem dX0_doStep_31 : decode cX0_doStep 31 = .ok (.iconst 0, 1) := by decide +kernel
theorem dX0_doStep_32 : decode cX0_doStep 32 = .ok (.ireturn, 1) := by decide +kernel
theorem dX0_doStep_33 : decode cX0_doStep 33 = .ok (.aload_n 0, 1) := by decide +kernel
theorem dX0_doStep_34 : decode cX0_doStep 34 = .ok (.iload_n 2, 1) := by decide +kernel
theorem dX0_doStep_35 : decode cX0_doStep 35 = .ok (.invokevirtual 208, 3) := by decide +kernel
theorem dX0_doStep_38 : decode cX0_doStep 38 = .ok (.pop, 1) := by decide +kernel
theorem dX0_doStep_39 : decode cX0_doStep 39 = .ok (.iconst 1, 1) := by decide +kernel
theorem dX0_doStep_40 : decode cX0_doStep 40 = .ok (.ireturn, 1) := by decide +kernel
theorem dX0_doStep_41 : decode cX0_doStep 41 = .ok (.aload_n 0, 1) := by decide +kernel
theorem dX0_doStep_42 : decode cX0_doStep 42 = .ok (.getfield 51, 3) := by decide +kernel
theorem dX0_doStep_45 : decode cX0_doStep 45 = .ok (.aload_n 0, 1) := by decide +kernel
theorem dX0_doStep_46 : decode cX0_doStep 46 = .ok (.getfield 44, 3) := by decide +kernel
theorem dX0_doStep_49 : decode cX0_doStep 49 = .ok (.getfield 144, 3) := by decide +kernel
theorem dX0_doStep_52 : decode cX0_doStep 52 = .ok (.invokevirtual 185, 3) := by decide +kernel
theorem dX0_doStep_55 : decode cX0_doStep 55 = .ok (.aload_n 0, 1) := by decide +kernel
theorem dX0_doStep_56 : decode cX0_doStep 56 = .ok (.getfield 51, 3) := by decide +kernel
theorem dX0_doStep_59 : decode cX0_doStep 59 = .ok (.iload_n 2, 1) := by decide +kernel
theorem dX0_doStep_60 : decode cX0_doStep 60 = .ok (.aload_n 0, 1) := by decide +kernel
theorem dX0_doStep_61 : decode cX0_doStep 61 = .ok (.getfield 64, 3) := by decide +kernel
theorem dX0_doStep_64 : decode cX0_doStep 64 = .ok (.getfield 263, 3) := by decide +kernel
theorem dX0_doStep_67 : decode cX0_doStep 67 = .ok (.iload_n 1, 1) := by decide +kernel
theorem dX0_doStep_68 : decode cX0_doStep 68 = .ok (.iaload, 1) := by decide +kernel
theorem dX0_doStep_69 : decode cX0_doStep 69 = .ok (.invokevirtual 189, 3) := by decide +kernel
theorem dX0_doStep_72 : decode cX0_doStep 72 = .ok (.aload_n 0, 1) := by decide +kernel
theorem dX0_doStep_73 : decode cX0_doStep 73 = .ok (.invokevirtual 192, 3) := by decide +kernel
theorem dX0_doStep_76 : decode cX0_doStep 76 = .ok (.bipush (-2), 2) := by decide +kernel
theorem dX0_doStep_78 : decode cX0_doStep 78 = .ok (.if_icmp .eq 7, 3) := by decide +kernel
theorem dX0_doStep_81 : decode cX0_doStep 81 = .ok (.iconst 1, 1) := by decide +kernel
theorem dX0_doStep_82 : decode cX0_doStep 82 = .ok (.goto 4, 3) := by decide +kernel
theorem dX0_doStep_85 : decode cX0_doStep 85 = .ok (.iconst 0, 1) := by decide +kernel
theorem dX0_doStep_86 : decode cX0_doStep 86 = .ok (.ireturn, 1) := by decide +kernel
theorem dX0_doWrites_0 : decode cX0_doWrites 0 = .ok (.aload_n 0, 1) := by decide +kernel
theorem dX0_doWrites_1 : decode cX0_doWrites 1 = .ok (.getfield 51, 3) := by decide +kernel
theorem dX0_doWrites_4 : decode cX0_doWrites 4 = .ok (.getfield 286, 3) := by decide +kernel
theorem dX0_doWrites_7 : decode cX0_doWrites 7 = .ok (.ifCond .eq 6, 3) := by decide +kernel
theorem dX0_doWrites_10 : decode cX0_doWrites 10 = .ok (.bipush (-2), 2) := by decide +kernel
theorem dX0_doWrites_12 : decode cX0_doWrites 12 = .ok (.ireturn, 1) := by decide +kernel
theorem dX0_doWrites_13 : decode cX0_doWrites 13 = .ok (.iconst 0, 1) := by decide +kernel
theorem dX0_doWrites_14 : decode cX0_doWrites 14 = .ok (.istore_n 1, 1) := by decide +kernel
theorem dX0_doWrites_15 : decode cX0_doWrites 15 = .ok (.iload_n 1, 1) := by decide +kernel
theorem dX0_doWrites_16 : decode cX0_doWrites 16 = .ok (.aload_n 0, 1) := by decide +kernel
theorem dX0_doWrites_17 : decode cX0_doWrites 17 = .ok (.getfield 51, 3) := by decide +kernel
theorem dX0_doWrites_20 : decode cX0_doWrites 20 = .ok (.getfield 289, 3) := by decide +kernel
theorem dX0_doWrites_23 : decode cX0_doWrites 23 = .ok (.if_icmp .ge 34, 3) := by decide +kernel
theorem dX0_doWrites_26 : decode cX0_doWrites 26 = .ok (.aload_n 0, 1) := by decide +kernel
theorem dX0_doWrites_27 : decode cX0_doWrites 27 = .ok (.getfield 44, 3) := by decide +kernel
theorem dX0_doWrites_30 : decode cX0_doWrites 30 = .ok (.aload_n 0, 1) := by decide +kernel
theorem dX0_doWrites_31 : decode cX0_doWrites 31 = .ok (.getfield 51, 3) := by decide +kernel
theorem dX0_doWrites_34 : decode cX0_doWrites 34 = .ok (.getfield 292, 3) := by decide +kernel
theorem dX0_doWrites_37 : decode cX0_doWrites 37 = .ok (.iload_n 1, 1) := by decide +kernel
theorem dX0_doWrites_38 : decode cX0_doWrites 38 = .ok (.iaload, 1) := by decide +kernel
theorem dX0_doWrites_39 : decode cX0_doWrites 39 = .ok (.aload_n 0, 1) := by decide +kernel
theorem dX0_doWrites_40 : decode cX0_doWrites 40 = .ok (.getfield 51, 3) := by decide +kernel
theorem dX0_doWrites_43 : decode cX0_doWrites 43 = .ok (.getfield 295, 3) := by decide +kernel
theorem dX0_doWrites_46 : decode cX0_doWrites 46 = .ok (.iload_n 1, 1) := by decide +kernel
theorem dX0_doWrites_47 : decode cX0_doWrites 47 = .ok (.iaload, 1) := by decide +kernel
theorem dX0_doWrites_48 : decode cX0_doWrites 48 = .ok (.invokevirtual 154, 3) := by decide +kernel
theorem dX0_doWrites_51 : decode cX0_doWrites 51 = .ok (.iinc 1 1, 3) := by decide +kernel
theorem dX0_doWrites_54 : decode cX0_doWrites 54 = .ok (.goto (-39), 3) := by decide +kernel
theorem dX0_doWrites_57 : decode cX0_doWrites 57 = .ok (.aload_n 0, 1) := by decide +kernel
theorem dX0_doWrites_58 : decode cX0_doWrites 58 = .ok (.getfield 51, 3) := by decide +kernel
theorem dX0_doWrites_61 : decode cX0_doWrites 61 = .ok (.getfield 289, 3) := by decide +kernel
theorem dX0_doWrites_64 : decode cX0_doWrites 64 = .ok (.ireturn, 1) := by decide +kernel
theorem dX0_drop_0 : decode cX0_drop 0 = .ok (.aload_n 0, 1) := by decide +kernel
theorem dX0_drop_1 : decode cX0_drop 1 = .ok (.getfield 60, 3) := by decide +kernel
theorem dX0_drop_4 : decode cX0_drop 4 = .ok (.invokevirtual 221, 3) := by decide +kernel
theorem dX0_drop_7 : decode cX0_drop 7 = .ok (.ireturn, 1) := by decide +kernel
theorem dX0_erase_0 : decode cX0_erase 0 = .ok (.aload_n 0, 1) := by decide +kernel
theorem dX0_erase_1 : decode cX0_erase 1 = .ok (.getfield 64, 3) := by decide +kernel
theorem dX0_erase_4 : decode cX0_erase 4 = .ok (.invokevirtual 221, 3) := by decide +kernel
theorem dX0_erase_7 : decode cX0_erase 7 = .ok (.ireturn, 1) := by decide +kernel
theorem dX0_fault_0 : decode cX0_fault 0 = .ok (.iload_n 1, 1) := by decide +kernel
theorem dX0_fault_1 : decode cX0_fault 1 = .ok (.lookupswitch 43 #[(0, 27), (1, 35)], 27) := by decide +kernel
theorem dX0_fault_28 : decode cX0_fault 28 = .ok (.aload_n 0, 1) := by decide +kernel
theorem dX0_fault_29 : decode cX0_fault 29 = .ok (.getfield 28, 3) := by decide +kernel
theorem dX0_fault_32 : decode cX0_fault 32 = .ok (.getfield 92, 3) := by decide +kernel
theorem dX0_fault_35 : decode cX0_fault 35 = .ok (.ireturn, 1) := by decide +kernel
theorem dX0_fault_36 : decode cX0_fault 36 = .ok (.aload_n 0, 1) := by decide +kernel
theorem dX0_fault_37 : decode cX0_fault 37 = .ok (.getfield 28, 3) := by decide +kernel
theorem dX0_fault_40 : decode cX0_fault 40 = .ok (.getfield 110, 3) := by decide +kernel
theorem dX0_fault_43 : decode cX0_fault 43 = .ok (.ireturn, 1) := by decide +kernel
theorem dX0_fault_44 : decode cX0_fault 44 = .ok (.iconst (-1), 1) := by decide +kernel
theorem dX0_fault_45 : decode cX0_fault 45 = .ok (.ireturn, 1) := by decide +kernel
theorem dX0_fetch_0 : decode cX0_fetch 0 = .ok (.aload_n 0, 1) := by decide +kernel
theorem dX0_fetch_1 : decode cX0_fetch 1 = .ok (.getfield 35, 3) := by decide +kernel
theorem dX0_fetch_4 : decode cX0_fetch 4 = .ok (.iload_n 1, 1) := by decide +kernel
theorem dX0_fetch_5 : decode cX0_fetch 5 = .ok (.invokevirtual 196, 3) := by decide +kernel
theorem dX0_fetch_8 : decode cX0_fetch 8 = .ok (.ifCond .ne 11, 3) := by decide +kernel
theorem dX0_fetch_11 : decode cX0_fetch 11 = .ok (.new 199, 3) := by decide +kernel
theorem dX0_fetch_19 : decode cX0_fetch 19 = .ok (.aload_n 0, 1) := by decide +kernel
theorem dX0_fetch_20 : decode cX0_fetch 20 = .ok (.getfield 60, 3) := by decide +kernel
theorem dX0_fetch_23 : decode cX0_fetch 23 = .ok (.getfield 101, 3) := by decide +kernel
theorem dX0_fetch_26 : decode cX0_fetch 26 = .ok (.ifCond .gt 11, 3) := by decide +kernel
theorem dX0_fetch_29 : decode cX0_fetch 29 = .ok (.aload_n 0, 1) := by decide +kernel
theorem dX0_fetch_30 : decode cX0_fetch 30 = .ok (.iload_n 1, 1) := by decide +kernel
theorem dX0_fetch_31 : decode cX0_fetch 31 = .ok (.invokevirtual 202, 3) := by decide +kernel
theorem dX0_fetch_34 : decode cX0_fetch 34 = .ok (.ifCond .ne 11, 3) := by decide +kernel
theorem dX0_fetch_37 : decode cX0_fetch 37 = .ok (.new 205, 3) := by decide +kernel
theorem dX0_fetch_45 : decode cX0_fetch 45 = .ok (.aload_n 0, 1) := by decide +kernel
theorem dX0_fetch_46 : decode cX0_fetch 46 = .ok (.iload_n 1, 1) := by decide +kernel
theorem dX0_fetch_47 : decode cX0_fetch 47 = .ok (.invokevirtual 208, 3) := by decide +kernel
theorem dX0_fetch_50 : decode cX0_fetch 50 = .ok (.ireturn, 1) := by decide +kernel
theorem dX0_field_0 : decode cX0_field 0 = .ok (.aload_n 0, 1) := by decide +kernel
theorem dX0_field_1 : decode cX0_field 1 = .ok (.getfield 35, 3) := by decide +kernel
theorem dX0_field_4 : decode cX0_field 4 = .ok (.iload_n 1, 1) := by decide +kernel
theorem dX0_field_5 : decode cX0_field 5 = .ok (.invokevirtual 113, 3) := by decide +kernel
theorem dX0_field_8 : decode cX0_field 8 = .ok (.ifCond .ne 5, 3) := by decide +kernel
theorem dX0_field_11 : decode cX0_field 11 = .ok (.iconst (-1), 1) := by decide +kernel
theorem dX0_field_12 : decode cX0_field 12 = .ok (.ireturn, 1) := by decide +kernel
theorem dX0_field_13 : decode cX0_field 13 = .ok (.iload_n 2, 1) := by decide +kernel
theorem dX0_field_14 : decode cX0_field 14 = .ok (.tableswitch 99 0 4 #[34, 44, 54, 64, 73], 34) := by decide +kernel
theorem dX0_field_48 : decode cX0_field 48 = .ok (.aload_n 0, 1) := by decide +kernel
theorem dX0_field_49 : decode cX0_field 49 = .ok (.getfield 35, 3) := by decide +kernel
theorem dX0_field_52 : decode cX0_field 52 = .ok (.getfield 117, 3) := by decide +kernel
theorem dX0_field_55 : decode cX0_field 55 = .ok (.iload_n 1, 1) := by decide +kernel
theorem dX0_field_56 : decode cX0_field 56 = .ok (.iaload, 1) := by decide +kernel
theorem dX0_field_57 : decode cX0_field 57 = .ok (.ireturn, 1) := by decide +kernel
theorem dX0_field_58 : decode cX0_field 58 = .ok (.aload_n 0, 1) := by decide +kernel
theorem dX0_field_59 : decode cX0_field 59 = .ok (.getfield 35, 3) := by decide +kernel
theorem dX0_field_62 : decode cX0_field 62 = .ok (.getfield 121, 3) := by decide +kernel
theorem dX0_field_65 : decode cX0_field 65 = .ok (.iload_n 1, 1) := by decide +kernel
theorem dX0_field_66 : decode cX0_field 66 = .ok (.iaload, 1) := by decide +kernel
theorem dX0_field_67 : decode cX0_field 67 = .ok (.ireturn, 1) := by decide +kernel
theorem dX0_field_68 : decode cX0_field 68 = .ok (.aload_n 0, 1) := by decide +kernel
theorem dX0_field_69 : decode cX0_field 69 = .ok (.getfield 35, 3) := by decide +kernel
theorem dX0_field_72 : decode cX0_field 72 = .ok (.getfield 124, 3) := by decide +kernel
theorem dX0_field_75 : decode cX0_field 75 = .ok (.iload_n 1, 1) := by decide +kernel
theorem dX0_field_76 : decode cX0_field 76 = .ok (.iaload, 1) := by decide +kernel
theorem dX0_field_77 : decode cX0_field 77 = .ok (.ireturn, 1) := by decide +kernel
theorem dX0_field_78 : decode cX0_field 78 = .ok (.aload_n 0, 1) := by decide +kernel
theorem dX0_field_79 : decode cX0_field 79 = .ok (.getfield 44, 3) := by decide +kernel
theorem dX0_field_82 : decode cX0_field 82 = .ok (.iload_n 1, 1) := by decide +kernel
theorem dX0_field_83 : decode cX0_field 83 = .ok (.invokevirtual 127, 3) := by decide +kernel
theorem dX0_field_86 : decode cX0_field 86 = .ok (.ireturn, 1) := by decide +kernel
theorem dX0_field_87 : decode cX0_field 87 = .ok (.aload_n 0, 1) := by decide +kernel
theorem dX0_field_88 : decode cX0_field 88 = .ok (.getfield 35, 3) := by decide +kernel
theorem dX0_field_91 : decode cX0_field 91 = .ok (.iload_n 1, 1) := by decide +kernel
theorem dX0_field_92 : decode cX0_field 92 = .ok (.aload_n 0, 1) := by decide +kernel
theorem dX0_field_93 : decode cX0_field 93 = .ok (.getfield 44, 3) := by decide +kernel
theorem dX0_field_96 : decode cX0_field 96 = .ok (.getfield 131, 3) := by decide +kernel
theorem dX0_field_99 : decode cX0_field 99 = .ok (.aload_n 0, 1) := by decide +kernel
theorem dX0_field_100 : decode cX0_field 100 = .ok (.getfield 35, 3) := by decide +kernel
theorem dX0_field_103 : decode cX0_field 103 = .ok (.getfield 117, 3) := by decide +kernel
theorem dX0_field_106 : decode cX0_field 106 = .ok (.iload_n 1, 1) := by decide +kernel
theorem dX0_field_107 : decode cX0_field 107 = .ok (.iaload, 1) := by decide +kernel
theorem dX0_field_108 : decode cX0_field 108 = .ok (.iaload, 1) := by decide +kernel
theorem dX0_field_109 : decode cX0_field 109 = .ok (.invokevirtual 134, 3) := by decide +kernel
theorem dX0_field_112 : decode cX0_field 112 = .ok (.ireturn, 1) := by decide +kernel
theorem dX0_field_113 : decode cX0_field 113 = .ok (.iconst (-1), 1) := by decide +kernel
