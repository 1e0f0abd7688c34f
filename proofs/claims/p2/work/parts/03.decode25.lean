theorem dX8_readRule_12 : decode cX8_readRule 12 = .ok (.iload_n 1, 1) := by decide +kernel
theorem dX8_readRule_13 : decode cX8_readRule 13 = .ok (.aload_n 0, 1) := by decide +kernel
theorem dX8_readRule_14 : decode cX8_readRule 14 = .ok (.getfield 32, 3) := by decide +kernel
theorem dX8_readRule_17 : decode cX8_readRule 17 = .ok (.iastore, 1) := by decide +kernel
theorem dX8_readRule_18 : decode cX8_readRule 18 = .ok (.aload_n 2, 1) := by decide +kernel
theorem dX8_readRule_19 : decode cX8_readRule 19 = .ok (.getfield 134, 3) := by decide +kernel
theorem dX8_readRule_22 : decode cX8_readRule 22 = .ok (.iload_n 1, 1) := by decide +kernel
theorem dX8_readRule_23 : decode cX8_readRule 23 = .ok (.aload_n 0, 1) := by decide +kernel
theorem dX8_readRule_24 : decode cX8_readRule 24 = .ok (.invokevirtual 92, 3) := by decide +kernel
theorem dX8_readRule_27 : decode cX8_readRule 27 = .ok (.iastore, 1) := by decide +kernel
theorem dX8_readRule_28 : decode cX8_readRule 28 = .ok (.aload_n 2, 1) := by decide +kernel
theorem dX8_readRule_29 : decode cX8_readRule 29 = .ok (.getfield 134, 3) := by decide +kernel
theorem dX8_readRule_32 : decode cX8_readRule 32 = .ok (.iload_n 1, 1) := by decide +kernel
theorem dX8_readRule_33 : decode cX8_readRule 33 = .ok (.iaload, 1) := by decide +kernel
theorem dX8_readRule_34 : decode cX8_readRule 34 = .ok (.iconst (-1), 1) := by decide +kernel
theorem dX8_readRule_35 : decode cX8_readRule 35 = .ok (.if_icmp .ne 5, 3) := by decide +kernel
theorem dX8_readRule_40 : decode cX8_readRule 40 = .ok (.aload_n 2, 1) := by decide +kernel
theorem dX8_readRule_41 : decode cX8_readRule 41 = .ok (.getfield 137, 3) := by decide +kernel
theorem dX8_readRule_44 : decode cX8_readRule 44 = .ok (.iload_n 1, 1) := by decide +kernel
theorem dX8_readRule_45 : decode cX8_readRule 45 = .ok (.aload_n 0, 1) := by decide +kernel
theorem dX8_readRule_46 : decode cX8_readRule 46 = .ok (.ldc 140, 2) := by decide +kernel
theorem dX8_readRules_0 : decode cX8_readRules 0 = .ok (.iconst 0, 1) := by decide +kernel
theorem dX8_readRules_1 : decode cX8_readRules 1 = .ok (.istore_n 1, 1) := by decide +kernel
theorem dX8_readRules_2 : decode cX8_readRules 2 = .ok (.iload_n 1, 1) := by decide +kernel
theorem dX8_readRules_3 : decode cX8_readRules 3 = .ok (.bipush 12, 2) := by decide +kernel
theorem dX8_readRules_5 : decode cX8_readRules 5 = .ok (.if_icmp .ge 46, 3) := by decide +kernel
theorem dX8_readRules_8 : decode cX8_readRules 8 = .ok (.aload_n 0, 1) := by decide +kernel
theorem dX8_readRules_9 : decode cX8_readRules 9 = .ok (.getfield 32, 3) := by decide +kernel
theorem dX8_readRules_12 : decode cX8_readRules 12 = .ok (.aload_n 0, 1) := by decide +kernel
theorem dX8_readRules_13 : decode cX8_readRules 13 = .ok (.getfield 19, 3) := by decide +kernel
theorem dX8_readRules_16 : decode cX8_readRules 16 = .ok (.if_icmp .lt 6, 3) := by decide +kernel
theorem dX8_readRules_22 : decode cX8_readRules 22 = .ok (.aload_n 0, 1) := by decide +kernel
theorem dX8_readRules_23 : decode cX8_readRules 23 = .ok (.iload_n 1, 1) := by decide +kernel
theorem dX8_readRules_24 : decode cX8_readRules 24 = .ok (.invokevirtual 53, 3) := by decide +kernel
theorem dX8_readRules_51 : decode cX8_readRules 51 = .ok (.iconst 1, 1) := by decide +kernel
theorem dX8_readRules_52 : decode cX8_readRules 52 = .ok (.ireturn, 1) := by decide +kernel
theorem dX8_take_0 : decode cX8_take 0 = .ok (.aload_n 0, 1) := by decide +kernel
theorem dX8_take_1 : decode cX8_take 1 = .ok (.invokevirtual 42, 3) := by decide +kernel
theorem dX8_take_4 : decode cX8_take 4 = .ok (.iload_n 1, 1) := by decide +kernel
theorem dX8_take_5 : decode cX8_take 5 = .ok (.if_icmp .eq 5, 3) := by decide +kernel
theorem dX8_take_8 : decode cX8_take 8 = .ok (.iconst 0, 1) := by decide +kernel
theorem dX8_take_9 : decode cX8_take 9 = .ok (.ireturn, 1) := by decide +kernel
theorem dX8_take_10 : decode cX8_take 10 = .ok (.aload_n 0, 1) := by decide +kernel
theorem dX8_take_11 : decode cX8_take 11 = .ok (.dup, 1) := by decide +kernel
theorem dX8_take_12 : decode cX8_take 12 = .ok (.getfield 32, 3) := by decide +kernel
theorem dX8_take_15 : decode cX8_take 15 = .ok (.iconst 1, 1) := by decide +kernel
theorem dX8_take_16 : decode cX8_take 16 = .ok (.iadd, 1) := by decide +kernel
theorem dX8_take_17 : decode cX8_take 17 = .ok (.putfield 32, 3) := by decide +kernel
theorem dX8_take_20 : decode cX8_take 20 = .ok (.iconst 1, 1) := by decide +kernel
theorem dX8_take_21 : decode cX8_take 21 = .ok (.ireturn, 1) := by decide +kernel
