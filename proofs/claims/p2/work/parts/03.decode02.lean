theorem dX11_busRead_1 : decode cX11_busRead 1 = .ok (.getfield 44, 3) := by decide +kernel
theorem dX11_busRead_4 : decode cX11_busRead 4 = .ok (.iload_n 1, 1) := by decide +kernel
theorem dX11_busRead_5 : decode cX11_busRead 5 = .ok (.invokevirtual 141, 3) := by decide +kernel
theorem dX11_busRead_8 : decode cX11_busRead 8 = .ok (.istore_n 2, 1) := by decide +kernel
theorem dX11_busRead_9 : decode cX11_busRead 9 = .ok (.iload_n 2, 1) := by decide +kernel
theorem dX11_busRead_10 : decode cX11_busRead 10 = .ok (.iconst (-1), 1) := by decide +kernel
theorem dX11_busRead_11 : decode cX11_busRead 11 = .ok (.if_icmp .ne 7, 3) := by decide +kernel
theorem dX11_busRead_14 : decode cX11_busRead 14 = .ok (.iconst (-1), 1) := by decide +kernel
theorem dX11_busRead_15 : decode cX11_busRead 15 = .ok (.goto 11, 3) := by decide +kernel
theorem dX11_busRead_18 : decode cX11_busRead 18 = .ok (.aload_n 0, 1) := by decide +kernel
theorem dX11_busRead_19 : decode cX11_busRead 19 = .ok (.getfield 44, 3) := by decide +kernel
theorem dX11_busRead_22 : decode cX11_busRead 22 = .ok (.iload_n 2, 1) := by decide +kernel
theorem dX11_busRead_23 : decode cX11_busRead 23 = .ok (.invokevirtual 169, 3) := by decide +kernel
theorem dX11_busRead_26 : decode cX11_busRead 26 = .ok (.ireturn, 1) := by decide +kernel
theorem dX11_busWrite_0 : decode cX11_busWrite 0 = .ok (.aload_n 0, 1) := by decide +kernel
theorem dX11_busWrite_1 : decode cX11_busWrite 1 = .ok (.getfield 44, 3) := by decide +kernel
theorem dX11_busWrite_4 : decode cX11_busWrite 4 = .ok (.iload_n 1, 1) := by decide +kernel
theorem dX11_busWrite_5 : decode cX11_busWrite 5 = .ok (.invokevirtual 141, 3) := by decide +kernel
theorem dX11_busWrite_8 : decode cX11_busWrite 8 = .ok (.istore_n 3, 1) := by decide +kernel
theorem dX11_busWrite_9 : decode cX11_busWrite 9 = .ok (.iload_n 3, 1) := by decide +kernel
theorem dX11_busWrite_10 : decode cX11_busWrite 10 = .ok (.iconst (-1), 1) := by decide +kernel
theorem dX11_busWrite_11 : decode cX11_busWrite 11 = .ok (.if_icmp .ne 5, 3) := by decide +kernel
theorem dX11_busWrite_14 : decode cX11_busWrite 14 = .ok (.iconst (-1), 1) := by decide +kernel
theorem dX11_busWrite_15 : decode cX11_busWrite 15 = .ok (.ireturn, 1) := by decide +kernel
theorem dX11_busWrite_16 : decode cX11_busWrite 16 = .ok (.aload_n 0, 1) := by decide +kernel
theorem dX11_busWrite_17 : decode cX11_busWrite 17 = .ok (.getfield 44, 3) := by decide +kernel
theorem dX11_busWrite_20 : decode cX11_busWrite 20 = .ok (.getfield 144, 3) := by decide +kernel
theorem dX11_busWrite_23 : decode cX11_busWrite 23 = .ok (.iload_n 3, 1) := by decide +kernel
theorem dX11_busWrite_24 : decode cX11_busWrite 24 = .ok (.iload_n 2, 1) := by decide +kernel
theorem dX11_busWrite_25 : decode cX11_busWrite 25 = .ok (.ldc 148, 2) := by decide +kernel
theorem dX11_busWrite_27 : decode cX11_busWrite 27 = .ok (.iand, 1) := by decide +kernel
theorem dX11_busWrite_28 : decode cX11_busWrite 28 = .ok (.invokevirtual 149, 3) := by decide +kernel
theorem dX11_busWrite_31 : decode cX11_busWrite 31 = .ok (.istore 4, 2) := by decide +kernel
theorem dX11_busWrite_33 : decode cX11_busWrite 33 = .ok (.aload_n 0, 1) := by decide +kernel
theorem dX11_busWrite_34 : decode cX11_busWrite 34 = .ok (.getfield 44, 3) := by decide +kernel
theorem dX11_busWrite_37 : decode cX11_busWrite 37 = .ok (.iload_n 3, 1) := by decide +kernel
theorem dX11_busWrite_38 : decode cX11_busWrite 38 = .ok (.iload_n 2, 1) := by decide +kernel
theorem dX11_busWrite_39 : decode cX11_busWrite 39 = .ok (.ldc 148, 2) := by decide +kernel
theorem dX11_busWrite_41 : decode cX11_busWrite 41 = .ok (.iand, 1) := by decide +kernel
theorem dX11_busWrite_42 : decode cX11_busWrite 42 = .ok (.invokevirtual 154, 3) := by decide +kernel
theorem dX11_busWrite_45 : decode cX11_busWrite 45 = .ok (.aload_n 0, 1) := by decide +kernel
theorem dX11_busWrite_46 : decode cX11_busWrite 46 = .ok (.getfield 44, 3) := by decide +kernel
theorem dX11_busWrite_49 : decode cX11_busWrite 49 = .ok (.dup, 1) := by decide +kernel
theorem dX11_busWrite_50 : decode cX11_busWrite 50 = .ok (.getfield 158, 3) := by decide +kernel
theorem dX11_busWrite_53 : decode cX11_busWrite 53 = .ok (.iload 4, 2) := by decide +kernel
theorem dX11_busWrite_55 : decode cX11_busWrite 55 = .ok (.invokestatic 161, 3) := by decide +kernel
theorem dX11_busWrite_58 : decode cX11_busWrite 58 = .ok (.iadd, 1) := by decide +kernel
theorem dX11_busWrite_59 : decode cX11_busWrite 59 = .ok (.putfield 158, 3) := by decide +kernel
theorem dX11_busWrite_62 : decode cX11_busWrite 62 = .ok (.iload 4, 2) := by decide +kernel
theorem dX11_busWrite_64 : decode cX11_busWrite 64 = .ok (.ifCond .ne 7, 3) := by decide +kernel
theorem dX11_busWrite_67 : decode cX11_busWrite 67 = .ok (.iconst 0, 1) := by decide +kernel
theorem dX11_busWrite_68 : decode cX11_busWrite 68 = .ok (.goto 10, 3) := by decide +kernel
theorem dX11_busWrite_71 : decode cX11_busWrite 71 = .ok (.iconst 1, 1) := by decide +kernel
theorem dX11_busWrite_72 : decode cX11_busWrite 72 = .ok (.iload 4, 2) := by decide +kernel
theorem dX11_busWrite_74 : decode cX11_busWrite 74 = .ok (.invokestatic 166, 3) := by decide +kernel
theorem dX11_busWrite_77 : decode cX11_busWrite 77 = .ok (.iadd, 1) := by decide +kernel
theorem dX11_busWrite_78 : decode cX11_busWrite 78 = .ok (.ireturn, 1) := by decide +kernel
theorem dX11_check_0 : decode cX11_check 0 = .ok (.aload_n 0, 1) := by decide +kernel
theorem dX11_check_1 : decode cX11_check 1 = .ok (.invokevirtual 138, 3) := by decide +kernel
theorem dX11_check_4 : decode cX11_check 4 = .ok (.ifCond .ne 5, 3) := by decide +kernel
theorem dX11_check_7 : decode cX11_check 7 = .ok (.iconst (-1), 1) := by decide +kernel
theorem dX11_check_8 : decode cX11_check 8 = .ok (.ireturn, 1) := by decide +kernel
theorem dX11_check_9 : decode cX11_check 9 = .ok (.aload_n 0, 1) := by decide +kernel
theorem dX11_check_10 : decode cX11_check 10 = .ok (.getfield 72, 3) := by decide +kernel
theorem dX11_check_13 : decode cX11_check 13 = .ok (.invokevirtual 245, 3) := by decide +kernel
theorem dX11_check_16 : decode cX11_check 16 = .ok (.iconst 0, 1) := by decide +kernel
theorem dX11_check_17 : decode cX11_check 17 = .ok (.istore_n 1, 1) := by decide +kernel
theorem dX11_check_18 : decode cX11_check 18 = .ok (.iload_n 1, 1) := by decide +kernel
theorem dX11_check_19 : decode cX11_check 19 = .ok (.sipush 1000, 3) := by decide +kernel
theorem dX11_check_22 : decode cX11_check 22 = .ok (.if_icmp .ge 41, 3) := by decide +kernel
theorem dX11_check_25 : decode cX11_check 25 = .ok (.iload_n 1, 1) := by decide +kernel
theorem dX11_check_26 : decode cX11_check 26 = .ok (.aload_n 0, 1) := by decide +kernel
theorem dX11_check_27 : decode cX11_check 27 = .ok (.getfield 72, 3) := by decide +kernel
theorem dX11_check_30 : decode cX11_check 30 = .ok (.getfield 247, 3) := by decide +kernel
theorem dX11_check_33 : decode cX11_check 33 = .ok (.if_icmp .ge 30, 3) := by decide +kernel
theorem dX11_check_36 : decode cX11_check 36 = .ok (.aload_n 0, 1) := by decide +kernel
theorem dX11_check_37 : decode cX11_check 37 = .ok (.getfield 72, 3) := by decide +kernel
theorem dX11_check_40 : decode cX11_check 40 = .ok (.getfield 248, 3) := by decide +kernel
theorem dX11_check_43 : decode cX11_check 43 = .ok (.ifCond .eq 6, 3) := by decide +kernel
theorem dX11_check_46 : decode cX11_check 46 = .ok (.goto 17, 3) := by decide +kernel
theorem dX11_check_49 : decode cX11_check 49 = .ok (.aload_n 0, 1) := by decide +kernel
theorem dX11_check_50 : decode cX11_check 50 = .ok (.getfield 72, 3) := by decide +kernel
theorem dX11_check_53 : decode cX11_check 53 = .ok (.iload_n 1, 1) := by decide +kernel
theorem dX11_check_54 : decode cX11_check 54 = .ok (.invokevirtual 252, 3) := by decide +kernel
theorem dX11_check_57 : decode cX11_check 57 = .ok (.iinc 1 1, 3) := by decide +kernel
theorem dX11_check_60 : decode cX11_check 60 = .ok (.goto (-42), 3) := by decide +kernel
theorem dX11_check_63 : decode cX11_check 63 = .ok (.aload_n 0, 1) := by decide +kernel
theorem dX11_check_64 : decode cX11_check 64 = .ok (.getfield 72, 3) := by decide +kernel
theorem dX11_check_67 : decode cX11_check 67 = .ok (.getfield 248, 3) := by decide +kernel
theorem dX11_check_70 : decode cX11_check 70 = .ok (.ifCond .eq 8, 3) := by decide +kernel
theorem dX11_check_73 : decode cX11_check 73 = .ok (.bipush (-2), 2) := by decide +kernel
theorem dX11_check_75 : decode cX11_check 75 = .ok (.goto 12, 3) := by decide +kernel
theorem dX11_check_78 : decode cX11_check 78 = .ok (.iconst 1, 1) := by decide +kernel
theorem dX11_check_79 : decode cX11_check 79 = .ok (.aload_n 0, 1) := by decide +kernel
theorem dX11_check_80 : decode cX11_check 80 = .ok (.getfield 72, 3) := by decide +kernel
theorem dX11_check_83 : decode cX11_check 83 = .ok (.getfield 255, 3) := by decide +kernel
theorem dX11_check_86 : decode cX11_check 86 = .ok (.iadd, 1) := by decide +kernel
theorem dX11_check_87 : decode cX11_check 87 = .ok (.ireturn, 1) := by decide +kernel
theorem dX11_compile_0 : decode cX11_compile 0 = .ok (.aload_n 0, 1) := by decide +kernel
theorem dX11_compile_1 : decode cX11_compile 1 = .ok (.getfield 21, 3) := by decide +kernel
theorem dX11_compile_4 : decode cX11_compile 4 = .ok (.invokevirtual 80, 3) := by decide +kernel
theorem dX11_doStep_0 : decode cX11_doStep 0 = .ok (.aload_n 0, 1) := by decide +kernel
theorem dX11_doStep_1 : decode cX11_doStep 1 = .ok (.getfield 64, 3) := by decide +kernel
theorem dX11_doStep_4 : decode cX11_doStep 4 = .ok (.getfield 280, 3) := by decide +kernel
theorem dX11_doStep_7 : decode cX11_doStep 7 = .ok (.iload_n 1, 1) := by decide +kernel
theorem dX11_doStep_8 : decode cX11_doStep 8 = .ok (.iaload, 1) := by decide +kernel
theorem dX11_doStep_9 : decode cX11_doStep 9 = .ok (.istore_n 2, 1) := by decide +kernel
theorem dX11_doStep_10 : decode cX11_doStep 10 = .ok (.aload_n 0, 1) := by decide +kernel
theorem dX11_doStep_11 : decode cX11_doStep 11 = .ok (.getfield 64, 3) := by decide +kernel
theorem dX11_doStep_14 : decode cX11_doStep 14 = .ok (.getfield 261, 3) := by decide +kernel
theorem dX11_doStep_17 : decode cX11_doStep 17 = .ok (.iload_n 1, 1) := by decide +kernel
theorem dX11_doStep_18 : decode cX11_doStep 18 = .ok (.iaload, 1) := by decide +kernel
theorem dX11_doStep_19 : decode cX11_doStep 19 = .ok (.iconst 1, 1) := by decide +kernel
theorem dX11_doStep_20 : decode cX11_doStep 20 = .ok (.if_icmp .ne 21, 3) := by decide +kernel
theorem dX11_doStep_23 : decode cX11_doStep 23 = .ok (.aload_n 0, 1) := by decide +kernel
theorem dX11_doStep_24 : decode cX11_doStep 24 = .ok (.iload_n 2, 1) := by decide +kernel
theorem dX11_doStep_25 : decode cX11_doStep 25 = .ok (.invokevirtual 202, 3) := by decide +kernel
theorem dX11_doStep_28 : decode cX11_doStep 28 = .ok (.ifCond .ne 5, 3) := by decide +kernel
theorem dX11_doStep_31 : decode cX11_doStep 31 = .ok (.iconst 0, 1) := by decide +kernel
theorem dX11_doStep_32 : decode cX11_doStep 32 = .ok (.ireturn, 1) := by decide +kernel
theorem dX11_doStep_33 : decode cX11_doStep 33 = .ok (.aload_n 0, 1) := by decide +kernel
theorem dX11_doStep_34 : decode cX11_doStep 34 = .ok (.iload_n 2, 1) := by decide +kernel
theorem dX11_doStep_35 : decode cX11_doStep 35 = .ok (.invokevirtual 208, 3) := by decide +kernel
theorem dX11_doStep_38 : decode cX11_doStep 38 = .ok (.pop, 1) := by decide +kernel
theorem dX11_doStep_39 : decode cX11_doStep 39 = .ok (.iconst 1, 1) := by decide +kernel
theorem dX11_doStep_40 : decode cX11_doStep 40 = .ok (.ireturn, 1) := by decide +kernel
theorem dX11_doStep_41 : decode cX11_doStep 41 = .ok (.aload_n 0, 1) := by decide +kernel
theorem dX11_doStep_42 : decode cX11_doStep 42 = .ok (.getfield 51, 3) := by decide +kernel
theorem dX11_doStep_45 : decode cX11_doStep 45 = .ok (.aload_n 0, 1) := by decide +kernel
theorem dX11_doStep_46 : decode cX11_doStep 46 = .ok (.getfield 44, 3) := by decide +kernel
theorem dX11_doStep_49 : decode cX11_doStep 49 = .ok (.getfield 144, 3) := by decide +kernel
theorem dX11_doStep_52 : decode cX11_doStep 52 = .ok (.invokevirtual 185, 3) := by decide +kernel
theorem dX11_doStep_55 : decode cX11_doStep 55 = .ok (.aload_n 0, 1) := by decide +kernel
theorem dX11_doStep_56 : decode cX11_doStep 56 = .ok (.getfield 51, 3) := by decide +kernel
theorem dX11_doStep_59 : decode cX11_doStep 59 = .ok (.iload_n 2, 1) := by decide +kernel
theorem dX11_doStep_60 : decode cX11_doStep 60 = .ok (.aload_n 0, 1) := by decide +kernel
theorem dX11_doStep_61 : decode cX11_doStep 61 = .ok (.getfield 64, 3) := by decide +kernel
theorem dX11_doStep_64 : decode cX11_doStep 64 = .ok (.getfield 263, 3) := by decide +kernel
theorem dX11_doStep_67 : decode cX11_doStep 67 = .ok (.iload_n 1, 1) := by decide +kernel
theorem dX11_doStep_68 : decode cX11_doStep 68 = .ok (.iaload, 1) := by decide +kernel
theorem dX11_doStep_69 : decode cX11_doStep 69 = .ok (.invokevirtual 189, 3) := by decide +kernel
theorem dX11_doStep_72 : decode cX11_doStep 72 = .ok (.aload_n 0, 1) := by decide +kernel
theorem dX11_doStep_73 : decode cX11_doStep 73 = .ok (.invokevirtual 192, 3) := by decide +kernel
theorem dX11_doStep_76 : decode cX11_doStep 76 = .ok (.bipush (-2), 2) := by decide +kernel
theorem dX11_doStep_78 : decode cX11_doStep 78 = .ok (.if_icmp .eq 7, 3) := by decide +kernel
theorem dX11_doStep_81 : decode cX11_doStep 81 = .ok (.iconst 1, 1) := by decide +kernel
theorem dX11_doStep_82 : decode cX11_doStep 82 = .ok (.goto 4, 3) := by decide +kernel
theorem dX11_doStep_85 : decode cX11_doStep 85 = .ok (.iconst 0, 1) := by decide +kernel
theorem dX11_doStep_86 : decode cX11_doStep 86 = .ok (.ireturn, 1) := by decide +kernel
theorem dX11_doWrites_0 : decode cX11_doWrites 0 = .ok (.aload_n 0, 1) := by decide +kernel
theorem dX11_doWrites_1 : decode cX11_doWrites 1 = .ok (.getfield 51, 3) := by decide +kernel
theorem dX11_doWrites_4 : decode cX11_doWrites 4 = .ok (.getfield 286, 3) := by decide +kernel
theorem dX11_doWrites_7 : decode cX11_doWrites 7 = .ok (.ifCond .eq 6, 3) := by decide +kernel
theorem dX11_doWrites_10 : decode cX11_doWrites 10 = .ok (.bipush (-2), 2) := by decide +kernel
theorem dX11_doWrites_12 : decode cX11_doWrites 12 = .ok (.ireturn, 1) := by decide +kernel
theorem dX11_doWrites_13 : decode cX11_doWrites 13 = .ok (.iconst 0, 1) := by decide +kernel
theorem dX11_doWrites_14 : decode cX11_doWrites 14 = .ok (.istore_n 1, 1) := by decide +kernel
theorem dX11_doWrites_15 : decode cX11_doWrites 15 = .ok (.iload_n 1, 1) := by decide +kernel
theorem dX11_doWrites_16 : decode cX11_doWrites 16 = .ok (.aload_n 0, 1) := by decide +kernel
theorem dX11_doWrites_17 : decode cX11_doWrites 17 = .ok (.getfield 51, 3) := by decide +kernel
theorem dX11_doWrites_20 : decode cX11_doWrites 20 = .ok (.getfield 289, 3) := by decide +kernel
theorem dX11_doWrites_23 : decode cX11_doWrites 23 = .ok (.if_icmp .ge 34, 3) := by decide +kernel
theorem dX11_doWrites_26 : decode cX11_doWrites 26 = .ok (.aload_n 0, 1) := by decide +kernel
theorem dX11_doWrites_27 : decode cX11_doWrites 27 = .ok (.getfield 44, 3) := by decide +kernel
theorem dX11_doWrites_30 : decode cX11_doWrites 30 = .ok (.aload_n 0, 1) := by decide +kernel
theorem dX11_doWrites_31 : decode cX11_doWrites 31 = .ok (.getfield 51, 3) := by decide +kernel
theorem dX11_doWrites_34 : decode cX11_doWrites 34 = .ok (.getfield 292, 3) := by decide +kernel
theorem dX11_doWrites_37 : decode cX11_doWrites 37 = .ok (.iload_n 1, 1) := by decide +kernel
theorem dX11_doWrites_38 : decode cX11_doWrites 38 = .ok (.iaload, 1) := by decide +kernel
theorem dX11_doWrites_39 : decode cX11_doWrites 39 = .ok (.aload_n 0, 1) := by decide +kernel
theorem dX11_doWrites_40 : decode cX11_doWrites 40 = .ok (.getfield 51, 3) := by decide +kernel
theorem dX11_doWrites_43 : decode cX11_doWrites 43 = .ok (.getfield 295, 3) := by decide +kernel
theorem dX11_doWrites_46 : decode cX11_doWrites 46 = .ok (.iload_n 1, 1) := by decide +kernel
theorem dX11_doWrites_47 : decode cX11_doWrites 47 = .ok (.iaload, 1) := by decide +kernel
theorem dX11_doWrites_48 : decode cX11_doWrites 48 = .ok (.invokevirtual 154, 3) := by decide +kernel
theorem dX11_doWrites_51 : decode cX11_doWrites 51 = .ok (.iinc 1 1, 3) := by decide +kernel
theorem dX11_doWrites_54 : decode cX11_doWrites 54 = .ok (.goto (-39), 3) := by decide +kernel
theorem dX11_doWrites_57 : decode cX11_doWrites 57 = .ok (.aload_n 0, 1) := by decide +kernel
theorem dX11_doWrites_58 : decode cX11_doWrites 58 = .ok (.getfield 51, 3) := by decide +kernel
theorem dX11_doWrites_61 : decode cX11_doWrites 61 = .ok (.getfield 289, 3) := by decide +kernel
theorem dX11_doWrites_64 : decode cX11_doWrites 64 = .ok (.ireturn, 1) := by decide +kernel
theorem dX11_drop_0 : decode cX11_drop 0 = .ok (.aload_n 0, 1) := by decide +kernel
theorem dX11_drop_1 : decode cX11_drop 1 = .ok (.getfield 60, 3) := by decide +kernel
theorem dX11_drop_4 : decode cX11_drop 4 = .ok (.invokevirtual 221, 3) := by decide +kernel
theorem dX11_drop_7 : decode cX11_drop 7 = .ok (.ireturn, 1) := by decide +kernel
theorem dX11_erase_0 : decode cX11_erase 0 = .ok (.aload_n 0, 1) := by decide +kernel
theorem dX11_erase_1 : decode cX11_erase 1 = .ok (.getfield 64, 3) := by decide +kernel
theorem dX11_erase_4 : decode cX11_erase 4 = .ok (.invokevirtual 221, 3) := by decide +kernel
theorem dX11_erase_7 : decode cX11_erase 7 = .ok (.ireturn, 1) := by decide +kernel
theorem dX11_fault_0 : decode cX11_fault 0 = .ok (.iload_n 1, 1) := by decide +kernel
theorem dX11_fault_1 : decode cX11_fault 1 = .ok (.lookupswitch 43 #[(0, 27), (1, 35)], 27) := by decide +kernel
theorem dX11_fault_28 : decode cX11_fault 28 = .ok (.aload_n 0, 1) := by decide +kernel
theorem dX11_fault_29 : decode cX11_fault 29 = .ok (.getfield 28, 3) := by decide +kernel
theorem dX11_fault_32 : decode cX11_fault 32 = .ok (.getfield 92, 3) := by decide +kernel
theorem dX11_fault_35 : decode cX11_fault 35 = .ok (.ireturn, 1) := by decide +kernel
theorem dX11_fault_36 : decode cX11_fault 36 = .ok (.aload_n 0, 1) := by decide +kernel
theorem dX11_fault_37 : decode cX11_fault 37 = .ok (.getfield 28, 3) := by decide +kernel
theorem dX11_fault_40 : decode cX11_fault 40 = .ok (.getfield 110, 3) := by decide +kernel
theorem dX11_fault_43 : decode cX11_fault 43 = .ok (.ireturn, 1) := by decide +kernel
theorem dX11_fault_44 : decode cX11_fault 44 = .ok (.iconst (-1), 1) := by decide +kernel
theorem dX11_fault_45 : decode cX11_fault 45 = .ok (.ireturn, 1) := by decide +kernel
theorem dX11_fetch_0 : decode cX11_fetch 0 = .ok (.aload_n 0, 1) := by decide +kernel
theorem dX11_fetch_1 : decode cX11_fetch 1 = .ok (.getfield 35, 3) := by decide +kernel
theorem dX11_fetch_4 : decode cX11_fetch 4 = .ok (.iload_n 1, 1) := by decide +kernel
theorem dX11_fetch_5 : decode cX11_fetch 5 = .ok (.invokevirtual 196, 3) := by decide +kernel
theorem dX11_fetch_8 : decode cX11_fetch 8 = .ok (.ifCond .ne 11, 3) := by decide +kernel
theorem dX11_fetch_19 : decode cX11_fetch 19 = .ok (.aload_n 0, 1) := by decide +kernel
theorem dX11_fetch_20 : decode cX11_fetch 20 = .ok (.getfield 60, 3) := by decide +kernel
theorem dX11_fetch_23 : decode cX11_fetch 23 = .ok (.getfield 101, 3) := by decide +kernel
theorem dX11_fetch_26 : decode cX11_fetch 26 = .ok (.ifCond .gt 11, 3) := by decide +kernel
theorem dX11_fetch_37 : decode cX11_fetch 37 = .ok (.new 205, 3) := by decide +kernel
theorem dX11_field_0 : decode cX11_field 0 = .ok (.aload_n 0, 1) := by decide +kernel
theorem dX11_field_1 : decode cX11_field 1 = .ok (.getfield 35, 3) := by decide +kernel
theorem dX11_field_4 : decode cX11_field 4 = .ok (.iload_n 1, 1) := by decide +kernel
theorem dX11_field_5 : decode cX11_field 5 = .ok (.invokevirtual 113, 3) := by decide +kernel
theorem dX11_field_8 : decode cX11_field 8 = .ok (.ifCond .ne 5, 3) := by decide +kernel
theorem dX11_field_11 : decode cX11_field 11 = .ok (.iconst (-1), 1) := by decide +kernel
theorem dX11_field_12 : decode cX11_field 12 = .ok (.ireturn, 1) := by decide +kernel
theorem dX11_field_13 : decode cX11_field 13 = .ok (.iload_n 2, 1) := by decide +kernel
theorem dX11_field_14 : decode cX11_field 14 = .ok (.tableswitch 99 0 4 #[34, 44, 54, 64, 73], 34) := by decide +kernel
theorem dX11_field_48 : decode cX11_field 48 = .ok (.aload_n 0, 1) := by decide +kernel
theorem dX11_field_49 : decode cX11_field 49 = .ok (.getfield 35, 3) := by decide +kernel
theorem dX11_field_52 : decode cX11_field 52 = .ok (.getfield 117, 3) := by decide +kernel
theorem dX11_field_55 : decode cX11_field 55 = .ok (.iload_n 1, 1) := by decide +kernel
theorem dX11_field_56 : decode cX11_field 56 = .ok (.iaload, 1) := by decide +kernel
theorem dX11_field_57 : decode cX11_field 57 = .ok (.ireturn, 1) := by decide +kernel
theorem dX11_field_58 : decode cX11_field 58 = .ok (.aload_n 0, 1) := by decide +kernel
theorem dX11_field_59 : decode cX11_field 59 = .ok (.getfield 35, 3) := by decide +kernel
theorem dX11_field_62 : decode cX11_field 62 = .ok (.getfield 121, 3) := by decide +kernel
theorem dX11_field_65 : decode cX11_field 65 = .ok (.iload_n 1, 1) := by decide +kernel
theorem dX11_field_66 : decode cX11_field 66 = .ok (.iaload, 1) := by decide +kernel
theorem dX11_field_67 : decode cX11_field 67 = .ok (.ireturn, 1) := by decide +kernel
theorem dX11_field_68 : decode cX11_field 68 = .ok (.aload_n 0, 1) := by decide +kernel
theorem dX11_field_69 : decode cX11_field 69 = .ok (.getfield 35, 3) := by decide +kernel
theorem dX11_field_72 : decode cX11_field 72 = .ok (.getfield 124, 3) := by decide +kernel
theorem dX11_field_75 : decode cX11_field 75 = .ok (.iload_n 1, 1) := by decide +kernel
theorem dX11_field_76 : decode cX11_field 76 = .ok (.iaload, 1) := by decide +kernel
theorem dX11_field_77 : decode cX11_field 77 = .ok (.ireturn, 1) := by decide +kernel
theorem dX11_field_78 : decode cX11_field 78 = .ok (.aload_n 0, 1) := by decide +kernel
theorem dX11_field_79 : decode cX11_field 79 = .ok (.getfield 44, 3) := by decide +kernel
theorem dX11_field_82 : decode cX11_field 82 = .ok (.iload_n 1, 1) := by decide +kernel
theorem dX11_field_83 : decode cX11_field 83 = .ok (.invokevirtual 127, 3) := by decide +kernel
theorem dX11_field_86 : decode cX11_field 86 = .ok (.ireturn, 1) := by decide +kernel
theorem dX11_field_87 : decode cX11_field 87 = .ok (.aload_n 0, 1) := by decide +kernel
theorem dX11_field_88 : decode cX11_field 88 = .ok (.getfield 35, 3) := by decide +kernel
theorem dX11_field_91 : decode cX11_field 91 = .ok (.iload_n 1, 1) := by decide +kernel
theorem dX11_field_92 : decode cX11_field 92 = .ok (.aload_n 0, 1) := by decide +kernel
theorem dX11_field_93 : decode cX11_field 93 = .ok (.getfield 44, 3) := by decide +kernel
theorem dX11_field_96 : decode cX11_field 96 = .ok (.getfield 131, 3) := by decide +kernel
theorem dX11_field_99 : decode cX11_field 99 = .ok (.aload_n 0, 1) := by decide +kernel
theorem dX11_field_100 : decode cX11_field 100 = .ok (.getfield 35, 3) := by decide +kernel
theorem dX11_field_103 : decode cX11_field 103 = .ok (.getfield 117, 3) := by decide +kernel
theorem dX11_field_106 : decode cX11_field 106 = .ok (.iload_n 1, 1) := by decide +kernel
theorem dX11_field_107 : decode cX11_field 107 = .ok (.iaload, 1) := by decide +kernel
theorem dX11_field_108 : decode cX11_field 108 = .ok (.iaload, 1) := by decide +kernel
theorem dX11_field_109 : decode cX11_field 109 = .ok (.invokevirtual 134, 3) := by decide +kernel
theorem dX11_field_112 : decode cX11_field 112 = .ok (.ireturn, 1) := by decide +kernel
theorem dX11_field_113 : decode cX11_field 113 = .ok (.iconst (-1), 1) := by decide +kernel
theorem dX11_field_114 : decode cX11_field 114 = .ok (.ireturn, 1) := by decide +kernel
theorem dX11_flush_0 : decode cX11_flush 0 = .ok (.aload_n 0, 1) := by decide +kernel
