theorem dX1_registerAt_3 : decode cX1_registerAt 3 = .ok (.aload_n 0, 1) := by decide +kernel
theorem dX1_registerAt_4 : decode cX1_registerAt 4 = .ok (.getfield 28, 3) := by decide +kernel
theorem dX1_registerAt_7 : decode cX1_registerAt 7 = .ok (.getfield 65, 3) := by decide +kernel
theorem dX1_registerAt_10 : decode cX1_registerAt 10 = .ok (.if_icmp .ge 35, 3) := by decide +kernel
theorem dX1_registerAt_13 : decode cX1_registerAt 13 = .ok (.aload_n 0, 1) := by decide +kernel
theorem dX1_registerAt_14 : decode cX1_registerAt 14 = .ok (.getfield 28, 3) := by decide +kernel
theorem dX1_registerAt_17 : decode cX1_registerAt 17 = .ok (.getfield 68, 3) := by decide +kernel
theorem dX1_registerAt_20 : decode cX1_registerAt 20 = .ok (.iload_n 2, 1) := by decide +kernel
theorem dX1_registerAt_21 : decode cX1_registerAt 21 = .ok (.iaload, 1) := by decide +kernel
theorem dX1_registerAt_22 : decode cX1_registerAt 22 = .ok (.iload_n 1, 1) := by decide +kernel
theorem dX1_registerAt_23 : decode cX1_registerAt 23 = .ok (.if_icmp .ne 16, 3) := by decide +kernel
theorem dX1_registerAt_26 : decode cX1_registerAt 26 = .ok (.aload_n 0, 1) := by decide +kernel
theorem dX1_registerAt_27 : decode cX1_registerAt 27 = .ok (.getfield 37, 3) := by decide +kernel
theorem dX1_registerAt_30 : decode cX1_registerAt 30 = .ok (.iload_n 2, 1) := by decide +kernel
theorem dX1_registerAt_31 : decode cX1_registerAt 31 = .ok (.invokevirtual 71, 3) := by decide +kernel
theorem dX1_registerAt_34 : decode cX1_registerAt 34 = .ok (.ifCond .eq 5, 3) := by decide +kernel
theorem dX1_registerAt_37 : decode cX1_registerAt 37 = .ok (.iload_n 2, 1) := by decide +kernel
theorem dX1_registerAt_38 : decode cX1_registerAt 38 = .ok (.ireturn, 1) := by decide +kernel
theorem dX1_registerAt_39 : decode cX1_registerAt 39 = .ok (.iinc 2 1, 3) := by decide +kernel
theorem dX1_registerAt_42 : decode cX1_registerAt 42 = .ok (.goto (-40), 3) := by decide +kernel
theorem dX1_registerAt_45 : decode cX1_registerAt 45 = .ok (.iconst (-1), 1) := by decide +kernel
theorem dX1_registerAt_46 : decode cX1_registerAt 46 = .ok (.ireturn, 1) := by decide +kernel
theorem dX1_restart_0 : decode cX1_restart 0 = .ok (.aload_n 0, 1) := by decide +kernel
theorem dX1_restart_1 : decode cX1_restart 1 = .ok (.getfield 37, 3) := by decide +kernel
theorem dX1_restart_4 : decode cX1_restart 4 = .ok (.invokevirtual 41, 3) := by decide +kernel
theorem dX1_restart_7 : decode cX1_restart 7 = .ok (.iconst 0, 1) := by decide +kernel
theorem dX1_restart_8 : decode cX1_restart 8 = .ok (.istore_n 1, 1) := by decide +kernel
theorem dX1_restart_9 : decode cX1_restart 9 = .ok (.iload_n 1, 1) := by decide +kernel
theorem dX1_restart_10 : decode cX1_restart 10 = .ok (.bipush 16, 2) := by decide +kernel
theorem dX1_restart_12 : decode cX1_restart 12 = .ok (.if_icmp .ge 36, 3) := by decide +kernel
theorem dX1_restart_15 : decode cX1_restart 15 = .ok (.aload_n 0, 1) := by decide +kernel
theorem dX1_restart_16 : decode cX1_restart 16 = .ok (.getfield 18, 3) := by decide +kernel
theorem dX1_restart_19 : decode cX1_restart 19 = .ok (.iload_n 1, 1) := by decide +kernel
theorem dX1_restart_20 : decode cX1_restart 20 = .ok (.aload_n 0, 1) := by decide +kernel
theorem dX1_restart_21 : decode cX1_restart 21 = .ok (.getfield 28, 3) := by decide +kernel
theorem dX1_restart_24 : decode cX1_restart 24 = .ok (.getfield 44, 3) := by decide +kernel
theorem dX1_restart_27 : decode cX1_restart 27 = .ok (.iload_n 1, 1) := by decide +kernel
theorem dX1_restart_28 : decode cX1_restart 28 = .ok (.iaload, 1) := by decide +kernel
theorem dX1_restart_29 : decode cX1_restart 29 = .ok (.aload_n 0, 1) := by decide +kernel
theorem dX1_restart_30 : decode cX1_restart 30 = .ok (.getfield 28, 3) := by decide +kernel
theorem dX1_restart_33 : decode cX1_restart 33 = .ok (.getfield 49, 3) := by decide +kernel
theorem dX1_restart_36 : decode cX1_restart 36 = .ok (.iload_n 1, 1) := by decide +kernel
theorem dX1_restart_37 : decode cX1_restart 37 = .ok (.iaload, 1) := by decide +kernel
theorem dX1_restart_38 : decode cX1_restart 38 = .ok (.iconst (-1), 1) := by decide +kernel
theorem dX1_restart_39 : decode cX1_restart 39 = .ok (.ixor, 1) := by decide +kernel
theorem dX1_restart_40 : decode cX1_restart 40 = .ok (.iand, 1) := by decide +kernel
theorem dX1_restart_41 : decode cX1_restart 41 = .ok (.iastore, 1) := by decide +kernel
theorem dX1_restart_42 : decode cX1_restart 42 = .ok (.iinc 1 1, 3) := by decide +kernel
theorem dX1_restart_45 : decode cX1_restart 45 = .ok (.goto (-36), 3) := by decide +kernel
theorem dX1_restart_48 : decode cX1_restart 48 = .ok (.aload_n 0, 1) := by decide +kernel
theorem dX1_restart_49 : decode cX1_restart 49 = .ok (.getfield 22, 3) := by decide +kernel
theorem dX1_restart_52 : decode cX1_restart 52 = .ok (.iconst 0, 1) := by decide +kernel
theorem dX1_restart_53 : decode cX1_restart 53 = .ok (.invokestatic 52, 3) := by decide +kernel
theorem dX1_restart_56 : decode cX1_restart 56 = .ok (.aload_n 0, 1) := by decide +kernel
theorem dX1_restart_57 : decode cX1_restart 57 = .ok (.getfield 25, 3) := by decide +kernel
theorem dX1_restart_60 : decode cX1_restart 60 = .ok (.iconst 0, 1) := by decide +kernel
theorem dX1_restart_61 : decode cX1_restart 61 = .ok (.invokestatic 52, 3) := by decide +kernel
theorem dX1_restart_64 : decode cX1_restart 64 = .ok (.aload_n 0, 1) := by decide +kernel
theorem dX1_restart_65 : decode cX1_restart 65 = .ok (.iconst 0, 1) := by decide +kernel
theorem dX1_restart_66 : decode cX1_restart 66 = .ok (.putfield 58, 3) := by decide +kernel
theorem dX1_restart_69 : decode cX1_restart 69 = .ok (.aload_n 0, 1) := by decide +kernel
theorem dX1_restart_70 : decode cX1_restart 70 = .ok (.getfield 12, 3) := by decide +kernel
theorem dX1_restart_73 : decode cX1_restart 73 = .ok (.iconst 0, 1) := by decide +kernel
theorem dX1_restart_74 : decode cX1_restart 74 = .ok (.putfield 62, 3) := by decide +kernel
theorem dX1_restart_77 : decode cX1_restart 77 = .ok (.return_, 1) := by decide +kernel
theorem dX1_setLoose_0 : decode cX1_setLoose 0 = .ok (.aload_n 0, 1) := by decide +kernel
theorem dX1_setLoose_1 : decode cX1_setLoose 1 = .ok (.getfield 28, 3) := by decide +kernel
theorem dX1_setLoose_4 : decode cX1_setLoose 4 = .ok (.getfield 75, 3) := by decide +kernel
theorem dX1_setLoose_7 : decode cX1_setLoose 7 = .ok (.iload_n 1, 1) := by decide +kernel
theorem dX1_setLoose_8 : decode cX1_setLoose 8 = .ok (.iaload, 1) := by decide +kernel
theorem dX1_setLoose_9 : decode cX1_setLoose 9 = .ok (.istore_n 3, 1) := by decide +kernel
theorem dX1_setLoose_10 : decode cX1_setLoose 10 = .ok (.aload_n 0, 1) := by decide +kernel
theorem dX1_setLoose_11 : decode cX1_setLoose 11 = .ok (.getfield 18, 3) := by decide +kernel
theorem dX1_setLoose_14 : decode cX1_setLoose 14 = .ok (.iload_n 3, 1) := by decide +kernel
theorem dX1_setLoose_15 : decode cX1_setLoose 15 = .ok (.aload_n 0, 1) := by decide +kernel
theorem dX1_setLoose_16 : decode cX1_setLoose 16 = .ok (.getfield 18, 3) := by decide +kernel
theorem dX1_setLoose_19 : decode cX1_setLoose 19 = .ok (.iload_n 3, 1) := by decide +kernel
theorem dX1_setLoose_20 : decode cX1_setLoose 20 = .ok (.iaload, 1) := by decide +kernel
theorem dX1_setLoose_21 : decode cX1_setLoose 21 = .ok (.aload_n 0, 1) := by decide +kernel
theorem dX1_setLoose_22 : decode cX1_setLoose 22 = .ok (.getfield 28, 3) := by decide +kernel
theorem dX1_setLoose_25 : decode cX1_setLoose 25 = .ok (.getfield 83, 3) := by decide +kernel
theorem dX1_setLoose_28 : decode cX1_setLoose 28 = .ok (.iload_n 1, 1) := by decide +kernel
theorem dX1_setLoose_29 : decode cX1_setLoose 29 = .ok (.iaload, 1) := by decide +kernel
theorem dX1_setLoose_30 : decode cX1_setLoose 30 = .ok (.iconst (-1), 1) := by decide +kernel
theorem dX1_setLoose_31 : decode cX1_setLoose 31 = .ok (.ixor, 1) := by decide +kernel
theorem dX1_setLoose_32 : decode cX1_setLoose 32 = .ok (.iand, 1) := by decide +kernel
theorem dX1_setLoose_33 : decode cX1_setLoose 33 = .ok (.iload_n 2, 1) := by decide +kernel
theorem dX1_setLoose_34 : decode cX1_setLoose 34 = .ok (.aload_n 0, 1) := by decide +kernel
theorem dX1_setLoose_35 : decode cX1_setLoose 35 = .ok (.getfield 28, 3) := by decide +kernel
theorem dX1_setLoose_38 : decode cX1_setLoose 38 = .ok (.getfield 86, 3) := by decide +kernel
theorem dX1_setLoose_41 : decode cX1_setLoose 41 = .ok (.iload_n 1, 1) := by decide +kernel
theorem dX1_setLoose_42 : decode cX1_setLoose 42 = .ok (.iaload, 1) := by decide +kernel
theorem dX1_setLoose_43 : decode cX1_setLoose 43 = .ok (.ishl, 1) := by decide +kernel
theorem dX1_setLoose_44 : decode cX1_setLoose 44 = .ok (.ior, 1) := by decide +kernel
theorem dX1_setLoose_45 : decode cX1_setLoose 45 = .ok (.iastore, 1) := by decide +kernel
theorem dX1_setLoose_46 : decode cX1_setLoose 46 = .ok (.return_, 1) := by decide +kernel
theorem dX1_startPulses_0 : decode cX1_startPulses 0 = .ok (.iconst 0, 1) := by decide +kernel
theorem dX1_startPulses_1 : decode cX1_startPulses 1 = .ok (.istore_n 3, 1) := by decide +kernel
theorem dX1_startPulses_2 : decode cX1_startPulses 2 = .ok (.iload_n 3, 1) := by decide +kernel
theorem dX1_startPulses_3 : decode cX1_startPulses 3 = .ok (.bipush 26, 2) := by decide +kernel
theorem dX1_startPulses_5 : decode cX1_startPulses 5 = .ok (.if_icmp .ge 69, 3) := by decide +kernel
theorem dX1_startPulses_8 : decode cX1_startPulses 8 = .ok (.aload_n 0, 1) := by decide +kernel
theorem dX1_startPulses_9 : decode cX1_startPulses 9 = .ok (.getfield 28, 3) := by decide +kernel
theorem dX1_startPulses_12 : decode cX1_startPulses 12 = .ok (.getfield 75, 3) := by decide +kernel
theorem dX1_startPulses_15 : decode cX1_startPulses 15 = .ok (.iload_n 3, 1) := by decide +kernel
theorem dX1_startPulses_16 : decode cX1_startPulses 16 = .ok (.iaload, 1) := by decide +kernel
theorem dX1_startPulses_17 : decode cX1_startPulses 17 = .ok (.iload_n 1, 1) := by decide +kernel
theorem dX1_startPulses_18 : decode cX1_startPulses 18 = .ok (.if_icmp .ne 50, 3) := by decide +kernel
theorem dX1_startPulses_21 : decode cX1_startPulses 21 = .ok (.aload_n 0, 1) := by decide +kernel
theorem dX1_startPulses_22 : decode cX1_startPulses 22 = .ok (.getfield 28, 3) := by decide +kernel
theorem dX1_startPulses_25 : decode cX1_startPulses 25 = .ok (.getfield 104, 3) := by decide +kernel
theorem dX1_startPulses_28 : decode cX1_startPulses 28 = .ok (.iload_n 3, 1) := by decide +kernel
theorem dX1_startPulses_29 : decode cX1_startPulses 29 = .ok (.iaload, 1) := by decide +kernel
theorem dX1_startPulses_30 : decode cX1_startPulses 30 = .ok (.bipush 6, 2) := by decide +kernel
theorem dX1_startPulses_32 : decode cX1_startPulses 32 = .ok (.if_icmp .ne 36, 3) := by decide +kernel
theorem dX1_startPulses_35 : decode cX1_startPulses 35 = .ok (.aload_n 0, 1) := by decide +kernel
theorem dX1_startPulses_36 : decode cX1_startPulses 36 = .ok (.getfield 28, 3) := by decide +kernel
theorem dX1_startPulses_39 : decode cX1_startPulses 39 = .ok (.iload_n 3, 1) := by decide +kernel
theorem dX1_startPulses_40 : decode cX1_startPulses 40 = .ok (.iload_n 2, 1) := by decide +kernel
theorem dX1_startPulses_41 : decode cX1_startPulses 41 = .ok (.invokevirtual 79, 3) := by decide +kernel
theorem dX1_startPulses_44 : decode cX1_startPulses 44 = .ok (.ifCond .eq 24, 3) := by decide +kernel
theorem dX1_startPulses_47 : decode cX1_startPulses 47 = .ok (.aload_n 0, 1) := by decide +kernel
theorem dX1_startPulses_48 : decode cX1_startPulses 48 = .ok (.iload_n 3, 1) := by decide +kernel
theorem dX1_startPulses_49 : decode cX1_startPulses 49 = .ok (.aload_n 0, 1) := by decide +kernel
theorem dX1_startPulses_50 : decode cX1_startPulses 50 = .ok (.getfield 28, 3) := by decide +kernel
theorem dX1_startPulses_53 : decode cX1_startPulses 53 = .ok (.iload_n 3, 1) := by decide +kernel
theorem dX1_startPulses_54 : decode cX1_startPulses 54 = .ok (.iload_n 2, 1) := by decide +kernel
theorem dX1_startPulses_55 : decode cX1_startPulses 55 = .ok (.invokevirtual 79, 3) := by decide +kernel
theorem dX1_startPulses_58 : decode cX1_startPulses 58 = .ok (.invokevirtual 107, 3) := by decide +kernel
theorem dX1_startPulses_61 : decode cX1_startPulses 61 = .ok (.aload_n 0, 1) := by decide +kernel
theorem dX1_startPulses_62 : decode cX1_startPulses 62 = .ok (.getfield 25, 3) := by decide +kernel
theorem dX1_startPulses_65 : decode cX1_startPulses 65 = .ok (.iload_n 3, 1) := by decide +kernel
theorem dX1_startPulses_66 : decode cX1_startPulses 66 = .ok (.iconst 2, 1) := by decide +kernel
theorem dX1_startPulses_67 : decode cX1_startPulses 67 = .ok (.iastore, 1) := by decide +kernel
theorem dX1_startPulses_68 : decode cX1_startPulses 68 = .ok (.iinc 3 1, 3) := by decide +kernel
theorem dX1_startPulses_71 : decode cX1_startPulses 71 = .ok (.goto (-69), 3) := by decide +kernel
theorem dX1_startPulses_74 : decode cX1_startPulses 74 = .ok (.return_, 1) := by decide +kernel
theorem dX1_takeKept_0 : decode cX1_takeKept 0 = .ok (.aload_n 0, 1) := by decide +kernel
theorem dX1_takeKept_1 : decode cX1_takeKept 1 = .ok (.getfield 28, 3) := by decide +kernel
theorem dX1_takeKept_4 : decode cX1_takeKept 4 = .ok (.getfield 75, 3) := by decide +kernel
theorem dX1_takeKept_7 : decode cX1_takeKept 7 = .ok (.iload_n 1, 1) := by decide +kernel
theorem dX1_takeKept_8 : decode cX1_takeKept 8 = .ok (.iaload, 1) := by decide +kernel
theorem dX1_takeKept_9 : decode cX1_takeKept 9 = .ok (.istore_n 2, 1) := by decide +kernel
theorem dX1_takeKept_10 : decode cX1_takeKept 10 = .ok (.aload_n 0, 1) := by decide +kernel
theorem dX1_takeKept_11 : decode cX1_takeKept 11 = .ok (.getfield 28, 3) := by decide +kernel
theorem dX1_takeKept_14 : decode cX1_takeKept 14 = .ok (.iload_n 1, 1) := by decide +kernel
theorem dX1_takeKept_15 : decode cX1_takeKept 15 = .ok (.aload_n 0, 1) := by decide +kernel
theorem dX1_takeKept_16 : decode cX1_takeKept 16 = .ok (.getfield 22, 3) := by decide +kernel
theorem dX1_takeKept_19 : decode cX1_takeKept 19 = .ok (.iload_n 2, 1) := by decide +kernel
theorem dX1_takeKept_20 : decode cX1_takeKept 20 = .ok (.iaload, 1) := by decide +kernel
theorem dX1_takeKept_21 : decode cX1_takeKept 21 = .ok (.invokevirtual 79, 3) := by decide +kernel
theorem dX1_takeKept_24 : decode cX1_takeKept 24 = .ok (.istore_n 3, 1) := by decide +kernel
theorem dX1_takeKept_25 : decode cX1_takeKept 25 = .ok (.aload_n 0, 1) := by decide +kernel
theorem dX1_takeKept_26 : decode cX1_takeKept 26 = .ok (.getfield 22, 3) := by decide +kernel
theorem dX1_takeKept_29 : decode cX1_takeKept 29 = .ok (.iload_n 2, 1) := by decide +kernel
theorem dX1_takeKept_30 : decode cX1_takeKept 30 = .ok (.dup2, 1) := by decide +kernel
theorem dX1_takeKept_31 : decode cX1_takeKept 31 = .ok (.iaload, 1) := by decide +kernel
theorem dX1_takeKept_32 : decode cX1_takeKept 32 = .ok (.aload_n 0, 1) := by decide +kernel
theorem dX1_takeKept_33 : decode cX1_takeKept 33 = .ok (.getfield 28, 3) := by decide +kernel
theorem dX1_takeKept_36 : decode cX1_takeKept 36 = .ok (.getfield 83, 3) := by decide +kernel
theorem dX1_takeKept_39 : decode cX1_takeKept 39 = .ok (.iload_n 1, 1) := by decide +kernel
theorem dX1_takeKept_40 : decode cX1_takeKept 40 = .ok (.iaload, 1) := by decide +kernel
theorem dX1_takeKept_41 : decode cX1_takeKept 41 = .ok (.iconst (-1), 1) := by decide +kernel
theorem dX1_takeKept_42 : decode cX1_takeKept 42 = .ok (.ixor, 1) := by decide +kernel
theorem dX1_takeKept_43 : decode cX1_takeKept 43 = .ok (.iand, 1) := by decide +kernel
theorem dX1_takeKept_44 : decode cX1_takeKept 44 = .ok (.iastore, 1) := by decide +kernel
theorem dX1_takeKept_45 : decode cX1_takeKept 45 = .ok (.iload_n 3, 1) := by decide +kernel
theorem dX1_takeKept_46 : decode cX1_takeKept 46 = .ok (.ireturn, 1) := by decide +kernel
theorem dX1_valueOf_0 : decode cX1_valueOf 0 = .ok (.aload_n 0, 1) := by decide +kernel
theorem dX1_valueOf_1 : decode cX1_valueOf 1 = .ok (.getfield 28, 3) := by decide +kernel
theorem dX1_valueOf_4 : decode cX1_valueOf 4 = .ok (.getfield 75, 3) := by decide +kernel
theorem dX1_valueOf_7 : decode cX1_valueOf 7 = .ok (.iload_n 1, 1) := by decide +kernel
theorem dX1_valueOf_8 : decode cX1_valueOf 8 = .ok (.iaload, 1) := by decide +kernel
theorem dX1_valueOf_9 : decode cX1_valueOf 9 = .ok (.istore_n 2, 1) := by decide +kernel
theorem dX1_valueOf_10 : decode cX1_valueOf 10 = .ok (.aload_n 0, 1) := by decide +kernel
theorem dX1_valueOf_11 : decode cX1_valueOf 11 = .ok (.getfield 28, 3) := by decide +kernel
theorem dX1_valueOf_14 : decode cX1_valueOf 14 = .ok (.iload_n 1, 1) := by decide +kernel
theorem dX1_valueOf_15 : decode cX1_valueOf 15 = .ok (.aload_n 0, 1) := by decide +kernel
theorem dX1_valueOf_16 : decode cX1_valueOf 16 = .ok (.getfield 37, 3) := by decide +kernel
theorem dX1_valueOf_19 : decode cX1_valueOf 19 = .ok (.getfield 78, 3) := by decide +kernel
theorem dX1_valueOf_22 : decode cX1_valueOf 22 = .ok (.iload_n 2, 1) := by decide +kernel
theorem dX1_valueOf_23 : decode cX1_valueOf 23 = .ok (.iaload, 1) := by decide +kernel
theorem dX1_valueOf_24 : decode cX1_valueOf 24 = .ok (.aload_n 0, 1) := by decide +kernel
theorem dX1_valueOf_25 : decode cX1_valueOf 25 = .ok (.getfield 18, 3) := by decide +kernel
theorem dX1_valueOf_28 : decode cX1_valueOf 28 = .ok (.iload_n 2, 1) := by decide +kernel
theorem dX1_valueOf_29 : decode cX1_valueOf 29 = .ok (.iaload, 1) := by decide +kernel
theorem dX1_valueOf_30 : decode cX1_valueOf 30 = .ok (.ior, 1) := by decide +kernel
theorem dX1_valueOf_31 : decode cX1_valueOf 31 = .ok (.invokevirtual 79, 3) := by decide +kernel
theorem dX1_valueOf_34 : decode cX1_valueOf 34 = .ok (.ireturn, 1) := by decide +kernel
theorem dX1_write_0 : decode cX1_write 0 = .ok (.aload_n 0, 1) := by decide +kernel
theorem dX1_write_1 : decode cX1_write 1 = .ok (.getfield 12, 3) := by decide +kernel
theorem dX1_write_4 : decode cX1_write 4 = .ok (.iconst 1, 1) := by decide +kernel
theorem dX1_write_5 : decode cX1_write 5 = .ok (.aload_n 0, 1) := by decide +kernel
theorem dX1_write_6 : decode cX1_write 6 = .ok (.getfield 28, 3) := by decide +kernel
theorem dX1_write_9 : decode cX1_write 9 = .ok (.getfield 68, 3) := by decide +kernel
theorem dX1_write_12 : decode cX1_write 12 = .ok (.iload_n 1, 1) := by decide +kernel
theorem dX1_write_13 : decode cX1_write 13 = .ok (.iaload, 1) := by decide +kernel
theorem dX1_write_14 : decode cX1_write 14 = .ok (.iload_n 2, 1) := by decide +kernel
theorem dX1_write_15 : decode cX1_write 15 = .ok (.invokevirtual 89, 3) := by decide +kernel
theorem dX1_write_18 : decode cX1_write 18 = .ok (.aload_n 0, 1) := by decide +kernel
theorem dX1_write_19 : decode cX1_write 19 = .ok (.getfield 37, 3) := by decide +kernel
theorem dX1_write_22 : decode cX1_write 22 = .ok (.iload_n 1, 1) := by decide +kernel
theorem dX1_write_23 : decode cX1_write 23 = .ok (.iload_n 2, 1) := by decide +kernel
theorem dX1_write_24 : decode cX1_write 24 = .ok (.invokevirtual 93, 3) := by decide +kernel
theorem dX1_write_27 : decode cX1_write 27 = .ok (.aload_n 0, 1) := by decide +kernel
theorem dX1_write_28 : decode cX1_write 28 = .ok (.getfield 18, 3) := by decide +kernel
theorem dX1_write_31 : decode cX1_write 31 = .ok (.iload_n 1, 1) := by decide +kernel
theorem dX1_write_32 : decode cX1_write 32 = .ok (.dup2, 1) := by decide +kernel
theorem dX1_write_33 : decode cX1_write 33 = .ok (.iaload, 1) := by decide +kernel
theorem dX1_write_34 : decode cX1_write 34 = .ok (.iload_n 2, 1) := by decide +kernel
theorem dX1_write_35 : decode cX1_write 35 = .ok (.aload_n 0, 1) := by decide +kernel
theorem dX1_write_36 : decode cX1_write 36 = .ok (.getfield 28, 3) := by decide +kernel
theorem dX1_write_39 : decode cX1_write 39 = .ok (.getfield 97, 3) := by decide +kernel
theorem dX1_write_42 : decode cX1_write 42 = .ok (.iconst 4, 1) := by decide +kernel
theorem dX1_write_43 : decode cX1_write 43 = .ok (.aaload, 1) := by decide +kernel
theorem dX1_write_44 : decode cX1_write 44 = .ok (.iload_n 1, 1) := by decide +kernel
theorem dX1_write_45 : decode cX1_write 45 = .ok (.iaload, 1) := by decide +kernel
theorem dX1_write_46 : decode cX1_write 46 = .ok (.iand, 1) := by decide +kernel
theorem dX1_write_47 : decode cX1_write 47 = .ok (.iconst (-1), 1) := by decide +kernel
theorem dX1_write_48 : decode cX1_write 48 = .ok (.ixor, 1) := by decide +kernel
theorem dX1_write_49 : decode cX1_write 49 = .ok (.iand, 1) := by decide +kernel
theorem dX1_write_50 : decode cX1_write 50 = .ok (.iastore, 1) := by decide +kernel
theorem dX1_write_51 : decode cX1_write 51 = .ok (.aload_n 0, 1) := by decide +kernel
theorem dX1_write_52 : decode cX1_write 52 = .ok (.getfield 18, 3) := by decide +kernel
theorem dX1_write_55 : decode cX1_write 55 = .ok (.iload_n 1, 1) := by decide +kernel
theorem dX1_write_56 : decode cX1_write 56 = .ok (.dup2, 1) := by decide +kernel
theorem dX1_write_57 : decode cX1_write 57 = .ok (.iaload, 1) := by decide +kernel
theorem dX1_write_58 : decode cX1_write 58 = .ok (.iload_n 2, 1) := by decide +kernel
theorem dX1_write_59 : decode cX1_write 59 = .ok (.aload_n 0, 1) := by decide +kernel
theorem dX1_write_60 : decode cX1_write 60 = .ok (.getfield 28, 3) := by decide +kernel
theorem dX1_write_63 : decode cX1_write 63 = .ok (.getfield 97, 3) := by decide +kernel
theorem dX1_write_66 : decode cX1_write 66 = .ok (.iconst 5, 1) := by decide +kernel
theorem dX1_write_67 : decode cX1_write 67 = .ok (.aaload, 1) := by decide +kernel
theorem dX1_write_68 : decode cX1_write 68 = .ok (.iload_n 1, 1) := by decide +kernel
theorem dX1_write_69 : decode cX1_write 69 = .ok (.iaload, 1) := by decide +kernel
theorem dX1_write_70 : decode cX1_write 70 = .ok (.iand, 1) := by decide +kernel
theorem dX1_write_71 : decode cX1_write 71 = .ok (.ior, 1) := by decide +kernel
theorem dX1_write_72 : decode cX1_write 72 = .ok (.iastore, 1) := by decide +kernel
theorem dX1_write_73 : decode cX1_write 73 = .ok (.iload_n 2, 1) := by decide +kernel
theorem dX1_write_74 : decode cX1_write 74 = .ok (.aload_n 0, 1) := by decide +kernel
theorem dX1_write_75 : decode cX1_write 75 = .ok (.getfield 28, 3) := by decide +kernel
theorem dX1_write_78 : decode cX1_write 78 = .ok (.getfield 97, 3) := by decide +kernel
theorem dX1_write_81 : decode cX1_write 81 = .ok (.bipush 6, 2) := by decide +kernel
theorem dX1_write_83 : decode cX1_write 83 = .ok (.aaload, 1) := by decide +kernel
theorem dX1_write_84 : decode cX1_write 84 = .ok (.iload_n 1, 1) := by decide +kernel
theorem dX1_write_85 : decode cX1_write 85 = .ok (.iaload, 1) := by decide +kernel
theorem dX1_write_86 : decode cX1_write 86 = .ok (.iand, 1) := by decide +kernel
theorem dX1_write_87 : decode cX1_write 87 = .ok (.ifCond .eq 9, 3) := by decide +kernel
theorem dX1_write_90 : decode cX1_write 90 = .ok (.aload_n 0, 1) := by decide +kernel
theorem dX1_write_91 : decode cX1_write 91 = .ok (.iload_n 1, 1) := by decide +kernel
theorem dX1_write_92 : decode cX1_write 92 = .ok (.iload_n 2, 1) := by decide +kernel
theorem dX1_write_93 : decode cX1_write 93 = .ok (.invokevirtual 101, 3) := by decide +kernel
theorem dX1_write_96 : decode cX1_write 96 = .ok (.return_, 1) := by decide +kernel
theorem dX2_clear_0 : decode cX2_clear 0 = .ok (.aload_n 0, 1) := by decide +kernel
theorem dX2_clear_1 : decode cX2_clear 1 = .ok (.iconst 0, 1) := by decide +kernel
theorem dX2_clear_2 : decode cX2_clear 2 = .ok (.putfield 55, 3) := by decide +kernel
theorem dX2_clear_5 : decode cX2_clear 5 = .ok (.aload_n 0, 1) := by decide +kernel
theorem dX2_clear_6 : decode cX2_clear 6 = .ok (.iconst 0, 1) := by decide +kernel
theorem dX2_clear_7 : decode cX2_clear 7 = .ok (.putfield 59, 3) := by decide +kernel
theorem dX2_clear_10 : decode cX2_clear 10 = .ok (.aload_n 0, 1) := by decide +kernel
