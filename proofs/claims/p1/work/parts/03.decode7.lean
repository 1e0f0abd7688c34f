theorem dX8_readRegister_13 : decode cX8_readRegister 13 = .ok (.aload_n 0, 1) := by decide +kernel
theorem dX8_readRegister_14 : decode cX8_readRegister 14 = .ok (.bipush 64, 2) := by decide +kernel
theorem dX8_readRegister_16 : decode cX8_readRegister 16 = .ok (.invokevirtual 69, 3) := by decide +kernel
theorem dX8_readRegister_19 : decode cX8_readRegister 19 = .ok (.ifCond .ne 5, 3) := by decide +kernel
theorem dX8_readRegister_22 : decode cX8_readRegister 22 = .ok (.iconst 0, 1) := by decide +kernel
theorem dX8_readRegister_23 : decode cX8_readRegister 23 = .ok (.ireturn, 1) := by decide +kernel
theorem dX8_readRegisters_0 : decode cX8_readRegisters 0 = .ok (.iconst 0, 1) := by decide +kernel
theorem dX8_readRegisters_1 : decode cX8_readRegisters 1 = .ok (.istore_n 1, 1) := by decide +kernel
theorem dX8_readRegisters_2 : decode cX8_readRegisters 2 = .ok (.iload_n 1, 1) := by decide +kernel
theorem dX8_readRegisters_3 : decode cX8_readRegisters 3 = .ok (.bipush 16, 2) := by decide +kernel
theorem dX8_readRegisters_5 : decode cX8_readRegisters 5 = .ok (.if_icmp .ge 45, 3) := by decide +kernel
theorem dX8_readRegisters_8 : decode cX8_readRegisters 8 = .ok (.iload_n 1, 1) := by decide +kernel
theorem dX8_readRegisters_9 : decode cX8_readRegisters 9 = .ok (.ifCond .le 15, 3) := by decide +kernel
theorem dX8_readRegisters_24 : decode cX8_readRegisters 24 = .ok (.aload_n 0, 1) := by decide +kernel
theorem dX8_readRegisters_25 : decode cX8_readRegisters 25 = .ok (.iload_n 1, 1) := by decide +kernel
theorem dX8_readRegisters_26 : decode cX8_readRegisters 26 = .ok (.invokevirtual 46, 3) := by decide +kernel
theorem dX8_readRegisters_29 : decode cX8_readRegisters 29 = .ok (.ifCond .ne 5, 3) := by decide +kernel
theorem dX8_readRegisters_32 : decode cX8_readRegisters 32 = .ok (.iconst 0, 1) := by decide +kernel
theorem dX8_readRegisters_33 : decode cX8_readRegisters 33 = .ok (.ireturn, 1) := by decide +kernel
theorem dX8_take_0 : decode cX8_take 0 = .ok (.aload_n 0, 1) := by decide +kernel
theorem dX8_take_1 : decode cX8_take 1 = .ok (.invokevirtual 42, 3) := by decide +kernel
theorem dX8_take_4 : decode cX8_take 4 = .ok (.iload_n 1, 1) := by decide +kernel
theorem dX8_take_5 : decode cX8_take 5 = .ok (.if_icmp .eq 5, 3) := by decide +kernel
theorem dX8_take_8 : decode cX8_take 8 = .ok (.iconst 0, 1) := by decide +kernel
theorem dX8_take_9 : decode cX8_take 9 = .ok (.ireturn, 1) := by decide +kernel
theorem dX9_init_0 : decode cX9_init 0 = .ok (.aload_n 0, 1) := by decide +kernel
theorem dX9_init_1 : decode cX9_init 1 = .ok (.invokespecial 3, 3) := by decide +kernel
theorem dX9_init_4 : decode cX9_init 4 = .ok (.aload_n 0, 1) := by decide +kernel
theorem dX9_init_5 : decode cX9_init 5 = .ok (.bipush 12, 2) := by decide +kernel
theorem dX9_init_7 : decode cX9_init 7 = .ok (.newarray .int, 2) := by decide +kernel
theorem dX9_init_9 : decode cX9_init 9 = .ok (.putfield 9, 3) := by decide +kernel
theorem dX9_init_12 : decode cX9_init 12 = .ok (.aload_n 0, 1) := by decide +kernel
theorem dX9_init_13 : decode cX9_init 13 = .ok (.bipush 12, 2) := by decide +kernel
theorem dX9_init_15 : decode cX9_init 15 = .ok (.newarray .int, 2) := by decide +kernel
theorem dX9_init_17 : decode cX9_init 17 = .ok (.putfield 15, 3) := by decide +kernel
theorem dX9_init_20 : decode cX9_init 20 = .ok (.aload_n 0, 1) := by decide +kernel
theorem dX9_init_21 : decode cX9_init 21 = .ok (.bipush 12, 2) := by decide +kernel
theorem dX9_init_23 : decode cX9_init 23 = .ok (.newarray .int, 2) := by decide +kernel
theorem dX9_init_25 : decode cX9_init 25 = .ok (.putfield 18, 3) := by decide +kernel
theorem dX9_init_28 : decode cX9_init 28 = .ok (.aload_n 0, 1) := by decide +kernel
theorem dX9_init_29 : decode cX9_init 29 = .ok (.bipush 12, 2) := by decide +kernel
theorem dX9_init_31 : decode cX9_init 31 = .ok (.newarray .int, 2) := by decide +kernel
theorem dX9_init_33 : decode cX9_init 33 = .ok (.putfield 21, 3) := by decide +kernel
theorem dX9_init_36 : decode cX9_init 36 = .ok (.aload_n 0, 1) := by decide +kernel
theorem dX9_init_37 : decode cX9_init 37 = .ok (.bipush 12, 2) := by decide +kernel
theorem dX9_init_39 : decode cX9_init 39 = .ok (.newarray .int, 2) := by decide +kernel
theorem dX9_init_41 : decode cX9_init 41 = .ok (.putfield 24, 3) := by decide +kernel
theorem dX9_init_44 : decode cX9_init 44 = .ok (.aload_n 0, 1) := by decide +kernel
theorem dX9_init_45 : decode cX9_init 45 = .ok (.bipush 12, 2) := by decide +kernel
theorem dX9_init_47 : decode cX9_init 47 = .ok (.newarray .int, 2) := by decide +kernel
theorem dX9_init_49 : decode cX9_init 49 = .ok (.putfield 27, 3) := by decide +kernel
theorem dX9_init_52 : decode cX9_init 52 = .ok (.return_, 1) := by decide +kernel
