theorem dX3_read_46 : decode cX3_read 46 = .ok (.invokevirtual 89, 3) := by decide +kernel
theorem dX3_read_49 : decode cX3_read 49 = .ok (.aload_n 0, 1) := by decide +kernel
theorem dX3_read_50 : decode cX3_read 50 = .ok (.getfield 22, 3) := by decide +kernel
theorem dX3_read_53 : decode cX3_read 53 = .ok (.iload_n 1, 1) := by decide +kernel
theorem dX3_read_54 : decode cX3_read 54 = .ok (.dup2, 1) := by decide +kernel
theorem dX3_read_55 : decode cX3_read 55 = .ok (.iaload, 1) := by decide +kernel
theorem dX3_read_56 : decode cX3_read 56 = .ok (.aload_n 0, 1) := by decide +kernel
theorem dX3_read_57 : decode cX3_read 57 = .ok (.getfield 18, 3) := by decide +kernel
theorem dX3_read_60 : decode cX3_read 60 = .ok (.iload_n 1, 1) := by decide +kernel
theorem dX3_read_61 : decode cX3_read 61 = .ok (.iaload, 1) := by decide +kernel
theorem dX3_read_62 : decode cX3_read 62 = .ok (.aload_n 0, 1) := by decide +kernel
theorem dX3_read_63 : decode cX3_read 63 = .ok (.getfield 28, 3) := by decide +kernel
theorem dX3_read_66 : decode cX3_read 66 = .ok (.getfield 97, 3) := by decide +kernel
theorem dX3_read_69 : decode cX3_read 69 = .ok (.iconst 3, 1) := by decide +kernel
theorem dX3_read_70 : decode cX3_read 70 = .ok (.aaload, 1) := by decide +kernel
theorem dX3_read_71 : decode cX3_read 71 = .ok (.iload_n 1, 1) := by decide +kernel
theorem dX3_read_72 : decode cX3_read 72 = .ok (.iaload, 1) := by decide +kernel
theorem dX3_read_73 : decode cX3_read 73 = .ok (.iand, 1) := by decide +kernel
theorem dX3_read_74 : decode cX3_read 74 = .ok (.ior, 1) := by decide +kernel
theorem dX3_read_75 : decode cX3_read 75 = .ok (.iastore, 1) := by decide +kernel
theorem dX3_read_76 : decode cX3_read 76 = .ok (.aload_n 0, 1) := by decide +kernel
theorem dX3_read_77 : decode cX3_read 77 = .ok (.getfield 18, 3) := by decide +kernel
theorem dX3_read_80 : decode cX3_read 80 = .ok (.iload_n 1, 1) := by decide +kernel
theorem dX3_read_81 : decode cX3_read 81 = .ok (.dup2, 1) := by decide +kernel
theorem dX3_read_82 : decode cX3_read 82 = .ok (.iaload, 1) := by decide +kernel
theorem dX3_read_83 : decode cX3_read 83 = .ok (.aload_n 0, 1) := by decide +kernel
theorem dX3_read_84 : decode cX3_read 84 = .ok (.getfield 28, 3) := by decide +kernel
theorem dX3_read_87 : decode cX3_read 87 = .ok (.getfield 97, 3) := by decide +kernel
theorem dX3_read_90 : decode cX3_read 90 = .ok (.iconst 3, 1) := by decide +kernel
theorem dX3_read_91 : decode cX3_read 91 = .ok (.aaload, 1) := by decide +kernel
theorem dX3_read_92 : decode cX3_read 92 = .ok (.iload_n 1, 1) := by decide +kernel
theorem dX3_read_93 : decode cX3_read 93 = .ok (.iaload, 1) := by decide +kernel
theorem dX3_read_94 : decode cX3_read 94 = .ok (.iconst (-1), 1) := by decide +kernel
theorem dX3_read_95 : decode cX3_read 95 = .ok (.ixor, 1) := by decide +kernel
theorem dX3_read_96 : decode cX3_read 96 = .ok (.iand, 1) := by decide +kernel
theorem dX3_read_97 : decode cX3_read 97 = .ok (.iastore, 1) := by decide +kernel
theorem dX3_read_98 : decode cX3_read 98 = .ok (.aload_n 0, 1) := by decide +kernel
theorem dX3_read_99 : decode cX3_read 99 = .ok (.getfield 28, 3) := by decide +kernel
theorem dX3_read_102 : decode cX3_read 102 = .ok (.getfield 97, 3) := by decide +kernel
theorem dX3_read_105 : decode cX3_read 105 = .ok (.bipush 6, 2) := by decide +kernel
theorem dX3_read_107 : decode cX3_read 107 = .ok (.aaload, 1) := by decide +kernel
theorem dX3_read_108 : decode cX3_read 108 = .ok (.iload_n 1, 1) := by decide +kernel
theorem dX3_read_109 : decode cX3_read 109 = .ok (.iaload, 1) := by decide +kernel
theorem dX3_read_110 : decode cX3_read 110 = .ok (.ifCond .eq 8, 3) := by decide +kernel
theorem dX3_read_113 : decode cX3_read 113 = .ok (.aload_n 0, 1) := by decide +kernel
theorem dX3_read_114 : decode cX3_read 114 = .ok (.iload_n 1, 1) := by decide +kernel
theorem dX3_read_115 : decode cX3_read 115 = .ok (.invokevirtual 110, 3) := by decide +kernel
theorem dX3_read_118 : decode cX3_read 118 = .ok (.iload_n 2, 1) := by decide +kernel
theorem dX3_read_119 : decode cX3_read 119 = .ok (.ireturn, 1) := by decide +kernel
theorem dX3_registerAt_0 : decode cX3_registerAt 0 = .ok (.iconst 0, 1) := by decide +kernel
theorem dX3_registerAt_1 : decode cX3_registerAt 1 = .ok (.istore_n 2, 1) := by decide +kernel
theorem dX3_registerAt_2 : decode cX3_registerAt 2 = .ok (.iload_n 2, 1) := by decide +kernel
theorem dX3_registerAt_3 : decode cX3_registerAt 3 = .ok (.aload_n 0, 1) := by decide +kernel
theorem dX3_registerAt_4 : decode cX3_registerAt 4 = .ok (.getfield 28, 3) := by decide +kernel
theorem dX3_registerAt_7 : decode cX3_registerAt 7 = .ok (.getfield 65, 3) := by decide +kernel
theorem dX3_registerAt_10 : decode cX3_registerAt 10 = .ok (.if_icmp .ge 35, 3) := by decide +kernel
theorem dX3_registerAt_13 : decode cX3_registerAt 13 = .ok (.aload_n 0, 1) := by decide +kernel
theorem dX3_registerAt_14 : decode cX3_registerAt 14 = .ok (.getfield 28, 3) := by decide +kernel
theorem dX3_registerAt_17 : decode cX3_registerAt 17 = .ok (.getfield 68, 3) := by decide +kernel
theorem dX3_registerAt_20 : decode cX3_registerAt 20 = .ok (.iload_n 2, 1) := by decide +kernel
theorem dX3_registerAt_21 : decode cX3_registerAt 21 = .ok (.iaload, 1) := by decide +kernel
theorem dX3_registerAt_22 : decode cX3_registerAt 22 = .ok (.iload_n 1, 1) := by decide +kernel
theorem dX3_registerAt_23 : decode cX3_registerAt 23 = .ok (.if_icmp .ne 16, 3) := by decide +kernel
theorem dX3_registerAt_26 : decode cX3_registerAt 26 = .ok (.aload_n 0, 1) := by decide +kernel
theorem dX3_registerAt_27 : decode cX3_registerAt 27 = .ok (.getfield 37, 3) := by decide +kernel
theorem dX3_registerAt_30 : decode cX3_registerAt 30 = .ok (.iload_n 2, 1) := by decide +kernel
theorem dX3_registerAt_31 : decode cX3_registerAt 31 = .ok (.invokevirtual 71, 3) := by decide +kernel
theorem dX3_registerAt_34 : decode cX3_registerAt 34 = .ok (.ifCond .eq 5, 3) := by decide +kernel
theorem dX3_registerAt_37 : decode cX3_registerAt 37 = .ok (.iload_n 2, 1) := by decide +kernel
theorem dX3_registerAt_38 : decode cX3_registerAt 38 = .ok (.ireturn, 1) := by decide +kernel
theorem dX3_registerAt_39 : decode cX3_registerAt 39 = .ok (.iinc 2 1, 3) := by decide +kernel
theorem dX3_registerAt_42 : decode cX3_registerAt 42 = .ok (.goto (-40), 3) := by decide +kernel
theorem dX3_registerAt_45 : decode cX3_registerAt 45 = .ok (.iconst (-1), 1) := by decide +kernel
theorem dX3_registerAt_46 : decode cX3_registerAt 46 = .ok (.ireturn, 1) := by decide +kernel
theorem dX3_restart_0 : decode cX3_restart 0 = .ok (.aload_n 0, 1) := by decide +kernel
theorem dX3_restart_1 : decode cX3_restart 1 = .ok (.getfield 37, 3) := by decide +kernel
theorem dX3_restart_4 : decode cX3_restart 4 = .ok (.invokevirtual 41, 3) := by decide +kernel
theorem dX3_restart_7 : decode cX3_restart 7 = .ok (.iconst 0, 1) := by decide +kernel
theorem dX3_restart_8 : decode cX3_restart 8 = .ok (.istore_n 1, 1) := by decide +kernel
theorem dX3_restart_9 : decode cX3_restart 9 = .ok (.iload_n 1, 1) := by decide +kernel
theorem dX3_restart_10 : decode cX3_restart 10 = .ok (.bipush 16, 2) := by decide +kernel
theorem dX3_restart_12 : decode cX3_restart 12 = .ok (.if_icmp .ge 36, 3) := by decide +kernel
theorem dX3_restart_15 : decode cX3_restart 15 = .ok (.aload_n 0, 1) := by decide +kernel
theorem dX3_restart_16 : decode cX3_restart 16 = .ok (.getfield 18, 3) := by decide +kernel
theorem dX3_restart_19 : decode cX3_restart 19 = .ok (.iload_n 1, 1) := by decide +kernel
theorem dX3_restart_20 : decode cX3_restart 20 = .ok (.aload_n 0, 1) := by decide +kernel
theorem dX3_restart_21 : decode cX3_restart 21 = .ok (.getfield 28, 3) := by decide +kernel
theorem dX3_restart_24 : decode cX3_restart 24 = .ok (.getfield 44, 3) := by decide +kernel
theorem dX3_restart_27 : decode cX3_restart 27 = .ok (.iload_n 1, 1) := by decide +kernel
theorem dX3_restart_28 : decode cX3_restart 28 = .ok (.iaload, 1) := by decide +kernel
theorem dX3_restart_29 : decode cX3_restart 29 = .ok (.aload_n 0, 1) := by decide +kernel
theorem dX3_restart_30 : decode cX3_restart 30 = .ok (.getfield 28, 3) := by decide +kernel
theorem dX3_restart_33 : decode cX3_restart 33 = .ok (.getfield 49, 3) := by decide +kernel
theorem dX3_restart_36 : decode cX3_restart 36 = .ok (.iload_n 1, 1) := by decide +kernel
theorem dX3_restart_37 : decode cX3_restart 37 = .ok (.iaload, 1) := by decide +kernel
theorem dX3_restart_38 : decode cX3_restart 38 = .ok (.iconst (-1), 1) := by decide +kernel
theorem dX3_restart_39 : decode cX3_restart 39 = .ok (.ixor, 1) := by decide +kernel
theorem dX3_restart_40 : decode cX3_restart 40 = .ok (.iand, 1) := by decide +kernel
theorem dX3_restart_41 : decode cX3_restart 41 = .ok (.iastore, 1) := by decide +kernel
theorem dX3_restart_42 : decode cX3_restart 42 = .ok (.iinc 1 1, 3) := by decide +kernel
theorem dX3_restart_45 : decode cX3_restart 45 = .ok (.goto (-36), 3) := by decide +kernel
theorem dX3_restart_48 : decode cX3_restart 48 = .ok (.aload_n 0, 1) := by decide +kernel
theorem dX3_restart_49 : decode cX3_restart 49 = .ok (.getfield 22, 3) := by decide +kernel
theorem dX3_restart_52 : decode cX3_restart 52 = .ok (.iconst 0, 1) := by decide +kernel
theorem dX3_restart_53 : decode cX3_restart 53 = .ok (.invokestatic 52, 3) := by decide +kernel
theorem dX3_restart_56 : decode cX3_restart 56 = .ok (.aload_n 0, 1) := by decide +kernel
theorem dX3_restart_57 : decode cX3_restart 57 = .ok (.getfield 25, 3) := by decide +kernel
theorem dX3_restart_60 : decode cX3_restart 60 = .ok (.iconst 0, 1) := by decide +kernel
theorem dX3_restart_61 : decode cX3_restart 61 = .ok (.invokestatic 52, 3) := by decide +kernel
theorem dX3_restart_64 : decode cX3_restart 64 = .ok (.aload_n 0, 1) := by decide +kernel
theorem dX3_restart_65 : decode cX3_restart 65 = .ok (.iconst 0, 1) := by decide +kernel
theorem dX3_restart_66 : decode cX3_restart 66 = .ok (.putfield 58, 3) := by decide +kernel
theorem dX3_restart_69 : decode cX3_restart 69 = .ok (.aload_n 0, 1) := by decide +kernel
theorem dX3_restart_70 : decode cX3_restart 70 = .ok (.getfield 12, 3) := by decide +kernel
theorem dX3_restart_73 : decode cX3_restart 73 = .ok (.iconst 0, 1) := by decide +kernel
theorem dX3_restart_74 : decode cX3_restart 74 = .ok (.putfield 62, 3) := by decide +kernel
theorem dX3_restart_77 : decode cX3_restart 77 = .ok (.return_, 1) := by decide +kernel
theorem dX3_setLoose_0 : decode cX3_setLoose 0 = .ok (.aload_n 0, 1) := by decide +kernel
theorem dX3_setLoose_1 : decode cX3_setLoose 1 = .ok (.getfield 28, 3) := by decide +kernel
theorem dX3_setLoose_4 : decode cX3_setLoose 4 = .ok (.getfield 75, 3) := by decide +kernel
theorem dX3_setLoose_7 : decode cX3_setLoose 7 = .ok (.iload_n 1, 1) := by decide +kernel
theorem dX3_setLoose_8 : decode cX3_setLoose 8 = .ok (.iaload, 1) := by decide +kernel
theorem dX3_setLoose_9 : decode cX3_setLoose 9 = .ok (.istore_n 3, 1) := by decide +kernel
theorem dX3_setLoose_10 : decode cX3_setLoose 10 = .ok (.aload_n 0, 1) := by decide +kernel
theorem dX3_setLoose_11 : decode cX3_setLoose 11 = .ok (.getfield 18, 3) := by decide +kernel
theorem dX3_setLoose_14 : decode cX3_setLoose 14 = .ok (.iload_n 3, 1) := by decide +kernel
theorem dX3_setLoose_15 : decode cX3_setLoose 15 = .ok (.aload_n 0, 1) := by decide +kernel
theorem dX3_setLoose_16 : decode cX3_setLoose 16 = .ok (.getfield 18, 3) := by decide +kernel
theorem dX3_setLoose_19 : decode cX3_setLoose 19 = .ok (.iload_n 3, 1) := by decide +kernel
theorem dX3_setLoose_20 : decode cX3_setLoose 20 = .ok (.iaload, 1) := by decide +kernel
theorem dX3_setLoose_21 : decode cX3_setLoose 21 = .ok (.aload_n 0, 1) := by decide +kernel
theorem dX3_setLoose_22 : decode cX3_setLoose 22 = .ok (.getfield 28, 3) := by decide +kernel
theorem dX3_setLoose_25 : decode cX3_setLoose 25 = .ok (.getfield 83, 3) := by decide +kernel
theorem dX3_setLoose_28 : decode cX3_setLoose 28 = .ok (.iload_n 1, 1) := by decide +kernel
theorem dX3_setLoose_29 : decode cX3_setLoose 29 = .ok (.iaload, 1) := by decide +kernel
theorem dX3_setLoose_30 : decode cX3_setLoose 30 = .ok (.iconst (-1), 1) := by decide +kernel
theorem dX3_setLoose_31 : decode cX3_setLoose 31 = .ok (.ixor, 1) := by decide +kernel
theorem dX3_setLoose_32 : decode cX3_setLoose 32 = .ok (.iand, 1) := by decide +kernel
theorem dX3_setLoose_33 : decode cX3_setLoose 33 = .ok (.iload_n 2, 1) := by decide +kernel
theorem dX3_setLoose_34 : decode cX3_setLoose 34 = .ok (.aload_n 0, 1) := by decide +kernel
theorem dX3_setLoose_35 : decode cX3_setLoose 35 = .ok (.getfield 28, 3) := by decide +kernel
theorem dX3_setLoose_38 : decode cX3_setLoose 38 = .ok (.getfield 86, 3) := by decide +kernel
theorem dX3_setLoose_41 : decode cX3_setLoose 41 = .ok (.iload_n 1, 1) := by decide +kernel
theorem dX3_setLoose_42 : decode cX3_setLoose 42 = .ok (.iaload, 1) := by decide +kernel
theorem dX3_setLoose_43 : decode cX3_setLoose 43 = .ok (.ishl, 1) := by decide +kernel
theorem dX3_setLoose_44 : decode cX3_setLoose 44 = .ok (.ior, 1) := by decide +kernel
theorem dX3_setLoose_45 : decode cX3_setLoose 45 = .ok (.iastore, 1) := by decide +kernel
theorem dX3_setLoose_46 : decode cX3_setLoose 46 = .ok (.return_, 1) := by decide +kernel
theorem dX3_startPulses_0 : decode cX3_startPulses 0 = .ok (.iconst 0, 1) := by decide +kernel
theorem dX3_startPulses_1 : decode cX3_startPulses 1 = .ok (.istore_n 3, 1) := by decide +kernel
theorem dX3_startPulses_2 : decode cX3_startPulses 2 = .ok (.iload_n 3, 1) := by decide +kernel
theorem dX3_startPulses_3 : decode cX3_startPulses 3 = .ok (.bipush 26, 2) := by decide +kernel
theorem dX3_startPulses_5 : decode cX3_startPulses 5 = .ok (.if_icmp .ge 69, 3) := by decide +kernel
theorem dX3_startPulses_8 : decode cX3_startPulses 8 = .ok (.aload_n 0, 1) := by decide +kernel
theorem dX3_startPulses_9 : decode cX3_startPulses 9 = .ok (.getfield 28, 3) := by decide +kernel
theorem dX3_startPulses_12 : decode cX3_startPulses 12 = .ok (.getfield 75, 3) := by decide +kernel
theorem dX3_startPulses_15 : decode cX3_startPulses 15 = .ok (.iload_n 3, 1) := by decide +kernel
theorem dX3_startPulses_16 : decode cX3_startPulses 16 = .ok (.iaload, 1) := by decide +kernel
theorem dX3_startPulses_17 : decode cX3_startPulses 17 = .ok (.iload_n 1, 1) := by decide +kernel
theorem dX3_startPulses_18 : decode cX3_startPulses 18 = .ok (.if_icmp .ne 50, 3) := by decide +kernel
theorem dX3_startPulses_21 : decode cX3_startPulses 21 = .ok (.aload_n 0, 1) := by decide +kernel
theorem dX3_startPulses_22 : decode cX3_startPulses 22 = .ok (.getfield 28, 3) := by decide +kernel
theorem dX3_startPulses_25 : decode cX3_startPulses 25 = .ok (.getfield 104, 3) := by decide +kernel
theorem dX3_startPulses_28 : decode cX3_startPulses 28 = .ok (.iload_n 3, 1) := by decide +kernel
theorem dX3_startPulses_29 : decode cX3_startPulses 29 = .ok (.iaload, 1) := by decide +kernel
theorem dX3_startPulses_30 : decode cX3_startPulses 30 = .ok (.bipush 6, 2) := by decide +kernel
theorem dX3_startPulses_32 : decode cX3_startPulses 32 = .ok (.if_icmp .ne 36, 3) := by decide +kernel
theorem dX3_startPulses_35 : decode cX3_startPulses 35 = .ok (.aload_n 0, 1) := by decide +kernel
theorem dX3_startPulses_36 : decode cX3_startPulses 36 = .ok (.getfield 28, 3) := by decide +kernel
theorem dX3_startPulses_39 : decode cX3_startPulses 39 = .ok (.iload_n 3, 1) := by decide +kernel
theorem dX3_startPulses_40 : decode cX3_startPulses 40 = .ok (.iload_n 2, 1) := by decide +kernel
theorem dX3_startPulses_41 : decode cX3_startPulses 41 = .ok (.invokevirtual 79, 3) := by decide +kernel
theorem dX3_startPulses_44 : decode cX3_startPulses 44 = .ok (.ifCond .eq 24, 3) := by decide +kernel
theorem dX3_startPulses_47 : decode cX3_startPulses 47 = .ok (.aload_n 0, 1) := by decide +kernel
theorem dX3_startPulses_48 : decode cX3_startPulses 48 = .ok (.iload_n 3, 1) := by decide +kernel
theorem dX3_startPulses_49 : decode cX3_startPulses 49 = .ok (.aload_n 0, 1) := by decide +kernel
theorem dX3_startPulses_50 : decode cX3_startPulses 50 = .ok (.getfield 28, 3) := by decide +kernel
theorem dX3_startPulses_53 : decode cX3_startPulses 53 = .ok (.iload_n 3, 1) := by decide +kernel
theorem dX3_startPulses_54 : decode cX3_startPulses 54 = .ok (.iload_n 2, 1) := by decide +kernel
theorem dX3_startPulses_55 : decode cX3_startPulses 55 = .ok (.invokevirtual 79, 3) := by decide +kernel
theorem dX3_startPulses_58 : decode cX3_startPulses 58 = .ok (.invokevirtual 107, 3) := by decide +kernel
theorem dX3_startPulses_61 : decode cX3_startPulses 61 = .ok (.aload_n 0, 1) := by decide +kernel
theorem dX3_startPulses_62 : decode cX3_startPulses 62 = .ok (.getfield 25, 3) := by decide +kernel
theorem dX3_startPulses_65 : decode cX3_startPulses 65 = .ok (.iload_n 3, 1) := by decide +kernel
theorem dX3_startPulses_66 : decode cX3_startPulses 66 = .ok (.iconst 2, 1) := by decide +kernel
theorem dX3_startPulses_67 : decode cX3_startPulses 67 = .ok (.iastore, 1) := by decide +kernel
theorem dX3_startPulses_68 : decode cX3_startPulses 68 = .ok (.iinc 3 1, 3) := by decide +kernel
theorem dX3_startPulses_71 : decode cX3_startPulses 71 = .ok (.goto (-69), 3) := by decide +kernel
theorem dX3_startPulses_74 : decode cX3_startPulses 74 = .ok (.return_, 1) := by decide +kernel
theorem dX3_takeKept_0 : decode cX3_takeKept 0 = .ok (.aload_n 0, 1) := by decide +kernel
theorem dX3_takeKept_1 : decode cX3_takeKept 1 = .ok (.getfield 28, 3) := by decide +kernel
theorem dX3_takeKept_4 : decode cX3_takeKept 4 = .ok (.getfield 75, 3) := by decide +kernel
theorem dX3_takeKept_7 : decode cX3_takeKept 7 = .ok (.iload_n 1, 1) := by decide +kernel
theorem dX3_takeKept_8 : decode cX3_takeKept 8 = .ok (.iaload, 1) := by decide +kernel
theorem dX3_takeKept_9 : decode cX3_takeKept 9 = .ok (.istore_n 2, 1) := by decide +kernel
theorem dX3_takeKept_10 : decode cX3_takeKept 10 = .ok (.aload_n 0, 1) := by decide +kernel
theorem dX3_takeKept_11 : decode cX3_takeKept 11 = .ok (.getfield 28, 3) := by decide +kernel
theorem dX3_takeKept_14 : decode cX3_takeKept 14 = .ok (.iload_n 1, 1) := by decide +kernel
theorem dX3_takeKept_15 : decode cX3_takeKept 15 = .ok (.aload_n 0, 1) := by decide +kernel
theorem dX3_takeKept_16 : decode cX3_takeKept 16 = .ok (.getfield 22, 3) := by decide +kernel
theorem dX3_takeKept_19 : decode cX3_takeKept 19 = .ok (.iload_n 2, 1) := by decide +kernel
theorem dX3_takeKept_20 : decode cX3_takeKept 20 = .ok (.iaload, 1) := by decide +kernel
theorem dX3_takeKept_21 : decode cX3_takeKept 21 = .ok (.invokevirtual 79, 3) := by decide +kernel
theorem dX3_takeKept_24 : decode cX3_takeKept 24 = .ok (.istore_n 3, 1) := by decide +kernel
theorem dX3_takeKept_25 : decode cX3_takeKept 25 = .ok (.aload_n 0, 1) := by decide +kernel
theorem dX3_takeKept_26 : decode cX3_takeKept 26 = .ok (.getfield 22, 3) := by decide +kernel
theorem dX3_takeKept_29 : decode cX3_takeKept 29 = .ok (.iload_n 2, 1) := by decide +kernel
theorem dX3_takeKept_30 : decode cX3_takeKept 30 = .ok (.dup2, 1) := by decide +kernel
theorem dX3_takeKept_31 : decode cX3_takeKept 31 = .ok (.iaload, 1) := by decide +kernel
theorem dX3_takeKept_32 : decode cX3_takeKept 32 = .ok (.aload_n 0, 1) := by decide +kernel
theorem dX3_takeKept_33 : decode cX3_takeKept 33 = .ok (.getfield 28, 3) := by decide +kernel
theorem dX3_takeKept_36 : decode cX3_takeKept 36 = .ok (.getfield 83, 3) := by decide +kernel
theorem dX3_takeKept_39 : decode cX3_takeKept 39 = .ok (.iload_n 1, 1) := by decide +kernel
theorem dX3_takeKept_40 : decode cX3_takeKept 40 = .ok (.iaload, 1) := by decide +kernel
theorem dX3_takeKept_41 : decode cX3_takeKept 41 = .ok (.iconst (-1), 1) := by decide +kernel
theorem dX3_takeKept_42 : decode cX3_takeKept 42 = .ok (.ixor, 1) := by decide +kernel
theorem dX3_takeKept_43 : decode cX3_takeKept 43 = .ok (.iand, 1) := by decide +kernel
theorem dX3_takeKept_44 : decode cX3_takeKept 44 = .ok (.iastore, 1) := by decide +kernel
theorem dX3_takeKept_45 : decode cX3_takeKept 45 = .ok (.iload_n 3, 1) := by decide +kernel
theorem dX3_takeKept_46 : decode cX3_takeKept 46 = .ok (.ireturn, 1) := by decide +kernel
theorem dX3_valueOf_0 : decode cX3_valueOf 0 = .ok (.aload_n 0, 1) := by decide +kernel
theorem dX3_valueOf_1 : decode cX3_valueOf 1 = .ok (.getfield 28, 3) := by decide +kernel
theorem dX3_valueOf_4 : decode cX3_valueOf 4 = .ok (.getfield 75, 3) := by decide +kernel
theorem dX3_valueOf_7 : decode cX3_valueOf 7 = .ok (.iload_n 1, 1) := by decide +kernel
theorem dX3_valueOf_8 : decode cX3_valueOf 8 = .ok (.iaload, 1) := by decide +kernel
theorem dX3_valueOf_9 : decode cX3_valueOf 9 = .ok (.istore_n 2, 1) := by decide +kernel
theorem dX3_valueOf_10 : decode cX3_valueOf 10 = .ok (.aload_n 0, 1) := by decide +kernel
theorem dX3_valueOf_11 : decode cX3_valueOf 11 = .ok (.getfield 28, 3) := by decide +kernel
theorem dX3_valueOf_14 : decode cX3_valueOf 14 = .ok (.iload_n 1, 1) := by decide +kernel
theorem dX3_valueOf_15 : decode cX3_valueOf 15 = .ok (.aload_n 0, 1) := by decide +kernel
theorem dX3_valueOf_16 : decode cX3_valueOf 16 = .ok (.getfield 37, 3) := by decide +kernel
theorem dX3_valueOf_19 : decode cX3_valueOf 19 = .ok (.getfield 78, 3) := by decide +kernel
theorem dX3_valueOf_22 : decode cX3_valueOf 22 = .ok (.iload_n 2, 1) := by decide +kernel
theorem dX3_valueOf_23 : decode cX3_valueOf 23 = .ok (.iaload, 1) := by decide +kernel
theorem dX3_valueOf_24 : decode cX3_valueOf 24 = .ok (.aload_n 0, 1) := by decide +kernel
theorem dX3_valueOf_25 : decode cX3_valueOf 25 = .ok (.getfield 18, 3) := by decide +kernel
theorem dX3_valueOf_28 : decode cX3_valueOf 28 = .ok (.iload_n 2, 1) := by decide +kernel
theorem dX3_valueOf_29 : decode cX3_valueOf 29 = .ok (.iaload, 1) := by decide +kernel
theorem dX3_valueOf_30 : decode cX3_valueOf 30 = .ok (.ior, 1) := by decide +kernel
theorem dX3_valueOf_31 : decode cX3_valueOf 31 = .ok (.invokevirtual 79, 3) := by decide +kernel
theorem dX3_valueOf_34 : decode cX3_valueOf 34 = .ok (.ireturn, 1) := by decide +kernel
theorem dX3_write_0 : decode cX3_write 0 = .ok (.aload_n 0, 1) := by decide +kernel
theorem dX3_write_1 : decode cX3_write 1 = .ok (.getfield 12, 3) := by decide +kernel
theorem dX3_write_4 : decode cX3_write 4 = .ok (.iconst 1, 1) := by decide +kernel
theorem dX3_write_5 : decode cX3_write 5 = .ok (.aload_n 0, 1) := by decide +kernel
theorem dX3_write_6 : decode cX3_write 6 = .ok (.getfield 28, 3) := by decide +kernel
theorem dX3_write_9 : decode cX3_write 9 = .ok (.getfield 68, 3) := by decide +kernel
theorem dX3_write_12 : decode cX3_write 12 = .ok (.iload_n 1, 1) := by decide +kernel
theorem dX3_write_13 : decode cX3_write 13 = .ok (.iaload, 1) := by decide +kernel
theorem dX3_write_14 : decode cX3_write 14 = .ok (.iload_n 2, 1) := by decide +kernel
theorem dX3_write_15 : decode cX3_write 15 = .ok (.invokevirtual 89, 3) := by decide +kernel
theorem dX3_write_18 : decode cX3_write 18 = .ok (.aload_n 0, 1) := by decide +kernel
theorem dX3_write_19 : decode cX3_write 19 = .ok (.getfield 37, 3) := by decide +kernel
theorem dX3_write_22 : decode cX3_write 22 = .ok (.iload_n 1, 1) := by decide +kernel
theorem dX3_write_23 : decode cX3_write 23 = .ok (.iload_n 2, 1) := by decide +kernel
theorem dX3_write_24 : decode cX3_write 24 = .ok (.invokevirtual 93, 3) := by decide +kernel
theorem dX3_write_27 : decode cX3_write 27 = .ok (.aload_n 0, 1) := by decide +kernel
theorem dX3_write_28 : decode cX3_write 28 = .ok (.getfield 18, 3) := by decide +kernel
theorem dX3_write_31 : decode cX3_write 31 = .ok (.iload_n 1, 1) := by decide +kernel
theorem dX3_write_32 : decode cX3_write 32 = .ok (.dup2, 1) := by decide +kernel
