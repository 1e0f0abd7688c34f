theorem dX10_take_4 : decode cX10_take 4 = .ok (.iload_n 1, 1) := by decide +kernel
theorem dX10_take_5 : decode cX10_take 5 = .ok (.if_icmp .eq 5, 3) := by decide +kernel
theorem dX10_take_8 : decode cX10_take 8 = .ok (.iconst 0, 1) := by decide +kernel
theorem dX10_take_9 : decode cX10_take 9 = .ok (.ireturn, 1) := by decide +kernel
theorem dX10_take_10 : decode cX10_take 10 = .ok (.aload_n 0, 1) := by decide +kernel
theorem dX10_take_11 : decode cX10_take 11 = .ok (.dup, 1) := by decide +kernel
theorem dX10_take_12 : decode cX10_take 12 = .ok (.getfield 32, 3) := by decide +kernel
theorem dX10_take_15 : decode cX10_take 15 = .ok (.iconst 1, 1) := by decide +kernel
theorem dX10_take_16 : decode cX10_take 16 = .ok (.iadd, 1) := by decide +kernel
theorem dX10_take_17 : decode cX10_take 17 = .ok (.putfield 32, 3) := by decide +kernel
theorem dX10_take_20 : decode cX10_take 20 = .ok (.iconst 1, 1) := by decide +kernel
theorem dX10_take_21 : decode cX10_take 21 = .ok (.ireturn, 1) := by decide +kernel
theorem dX11_copy_0 : decode cX11_copy 0 = .ok (.aload_n 0, 1) := by decide +kernel
theorem dX11_copy_1 : decode cX11_copy 1 = .ok (.aload_n 1, 1) := by decide +kernel
theorem dX11_copy_2 : decode cX11_copy 2 = .ok (.getfield 30, 3) := by decide +kernel
theorem dX11_copy_5 : decode cX11_copy 5 = .ok (.putfield 30, 3) := by decide +kernel
theorem dX11_copy_8 : decode cX11_copy 8 = .ok (.aload_n 1, 1) := by decide +kernel
theorem dX11_copy_9 : decode cX11_copy 9 = .ok (.getfield 9, 3) := by decide +kernel
theorem dX11_copy_12 : decode cX11_copy 12 = .ok (.iconst 0, 1) := by decide +kernel
theorem dX11_copy_13 : decode cX11_copy 13 = .ok (.aload_n 0, 1) := by decide +kernel
theorem dX11_copy_14 : decode cX11_copy 14 = .ok (.getfield 9, 3) := by decide +kernel
theorem dX11_copy_17 : decode cX11_copy 17 = .ok (.iconst 0, 1) := by decide +kernel
theorem dX11_copy_18 : decode cX11_copy 18 = .ok (.bipush 12, 2) := by decide +kernel
theorem dX11_copy_20 : decode cX11_copy 20 = .ok (.invokestatic 34, 3) := by decide +kernel
theorem dX11_copy_23 : decode cX11_copy 23 = .ok (.aload_n 1, 1) := by decide +kernel
theorem dX11_copy_24 : decode cX11_copy 24 = .ok (.getfield 15, 3) := by decide +kernel
theorem dX11_copy_27 : decode cX11_copy 27 = .ok (.iconst 0, 1) := by decide +kernel
theorem dX11_copy_28 : decode cX11_copy 28 = .ok (.aload_n 0, 1) := by decide +kernel
theorem dX11_copy_29 : decode cX11_copy 29 = .ok (.getfield 15, 3) := by decide +kernel
theorem dX11_copy_32 : decode cX11_copy 32 = .ok (.iconst 0, 1) := by decide +kernel
theorem dX11_copy_33 : decode cX11_copy 33 = .ok (.bipush 12, 2) := by decide +kernel
theorem dX11_copy_35 : decode cX11_copy 35 = .ok (.invokestatic 34, 3) := by decide +kernel
theorem dX11_copy_38 : decode cX11_copy 38 = .ok (.aload_n 1, 1) := by decide +kernel
theorem dX11_copy_39 : decode cX11_copy 39 = .ok (.getfield 18, 3) := by decide +kernel
theorem dX11_copy_42 : decode cX11_copy 42 = .ok (.iconst 0, 1) := by decide +kernel
theorem dX11_copy_43 : decode cX11_copy 43 = .ok (.aload_n 0, 1) := by decide +kernel
theorem dX11_copy_44 : decode cX11_copy 44 = .ok (.getfield 18, 3) := by decide +kernel
theorem dX11_copy_47 : decode cX11_copy 47 = .ok (.iconst 0, 1) := by decide +kernel
theorem dX11_copy_48 : decode cX11_copy 48 = .ok (.bipush 12, 2) := by decide +kernel
theorem dX11_copy_50 : decode cX11_copy 50 = .ok (.invokestatic 34, 3) := by decide +kernel
theorem dX11_copy_53 : decode cX11_copy 53 = .ok (.aload_n 1, 1) := by decide +kernel
theorem dX11_copy_54 : decode cX11_copy 54 = .ok (.getfield 21, 3) := by decide +kernel
theorem dX11_copy_57 : decode cX11_copy 57 = .ok (.iconst 0, 1) := by decide +kernel
theorem dX11_copy_58 : decode cX11_copy 58 = .ok (.aload_n 0, 1) := by decide +kernel
theorem dX11_copy_59 : decode cX11_copy 59 = .ok (.getfield 21, 3) := by decide +kernel
theorem dX11_copy_62 : decode cX11_copy 62 = .ok (.iconst 0, 1) := by decide +kernel
theorem dX11_copy_63 : decode cX11_copy 63 = .ok (.bipush 12, 2) := by decide +kernel
theorem dX11_copy_65 : decode cX11_copy 65 = .ok (.invokestatic 34, 3) := by decide +kernel
theorem dX11_copy_68 : decode cX11_copy 68 = .ok (.return_, 1) := by decide +kernel
theorem dX12_append_0 : decode cX12_append 0 = .ok (.aload_n 0, 1) := by decide +kernel
theorem dX12_append_1 : decode cX12_append 1 = .ok (.getfield 7, 3) := by decide +kernel
theorem dX12_append_4 : decode cX12_append 4 = .ok (.aload_n 0, 1) := by decide +kernel
theorem dX12_append_5 : decode cX12_append 5 = .ok (.getfield 19, 3) := by decide +kernel
theorem dX12_append_8 : decode cX12_append 8 = .ok (.iload_n 1, 1) := by decide +kernel
theorem dX12_append_9 : decode cX12_append 9 = .ok (.iastore, 1) := by decide +kernel
theorem dX12_append_10 : decode cX12_append 10 = .ok (.aload_n 0, 1) := by decide +kernel
theorem dX12_append_11 : decode cX12_append 11 = .ok (.getfield 13, 3) := by decide +kernel
theorem dX12_append_14 : decode cX12_append 14 = .ok (.aload_n 0, 1) := by decide +kernel
theorem dX12_append_15 : decode cX12_append 15 = .ok (.getfield 19, 3) := by decide +kernel
theorem dX12_append_18 : decode cX12_append 18 = .ok (.iload_n 2, 1) := by decide +kernel
theorem dX12_append_19 : decode cX12_append 19 = .ok (.iastore, 1) := by decide +kernel
theorem dX12_append_20 : decode cX12_append 20 = .ok (.aload_n 0, 1) := by decide +kernel
theorem dX12_append_21 : decode cX12_append 21 = .ok (.getfield 16, 3) := by decide +kernel
theorem dX12_append_24 : decode cX12_append 24 = .ok (.aload_n 0, 1) := by decide +kernel
theorem dX12_append_25 : decode cX12_append 25 = .ok (.getfield 19, 3) := by decide +kernel
theorem dX12_append_28 : decode cX12_append 28 = .ok (.iload_n 3, 1) := by decide +kernel
theorem dX12_append_29 : decode cX12_append 29 = .ok (.iastore, 1) := by decide +kernel
theorem dX12_append_30 : decode cX12_append 30 = .ok (.aload_n 0, 1) := by decide +kernel
theorem dX12_append_31 : decode cX12_append 31 = .ok (.dup, 1) := by decide +kernel
theorem dX12_append_32 : decode cX12_append 32 = .ok (.getfield 19, 3) := by decide +kernel
theorem dX12_append_35 : decode cX12_append 35 = .ok (.iconst 1, 1) := by decide +kernel
theorem dX12_append_36 : decode cX12_append 36 = .ok (.iadd, 1) := by decide +kernel
theorem dX12_append_37 : decode cX12_append 37 = .ok (.putfield 19, 3) := by decide +kernel
theorem dX12_append_40 : decode cX12_append 40 = .ok (.return_, 1) := by decide +kernel
theorem dX12_empty_0 : decode cX12_empty 0 = .ok (.aload_n 0, 1) := by decide +kernel
theorem dX12_empty_1 : decode cX12_empty 1 = .ok (.getfield 19, 3) := by decide +kernel
theorem dX12_empty_4 : decode cX12_empty 4 = .ok (.istore_n 1, 1) := by decide +kernel
theorem dX12_empty_5 : decode cX12_empty 5 = .ok (.aload_n 0, 1) := by decide +kernel
theorem dX12_empty_6 : decode cX12_empty 6 = .ok (.iconst 0, 1) := by decide +kernel
theorem dX12_empty_7 : decode cX12_empty 7 = .ok (.putfield 19, 3) := by decide +kernel
theorem dX12_empty_10 : decode cX12_empty 10 = .ok (.iload_n 1, 1) := by decide +kernel
theorem dX12_empty_11 : decode cX12_empty 11 = .ok (.ireturn, 1) := by decide +kernel
theorem dX12_isFull_0 : decode cX12_isFull 0 = .ok (.aload_n 0, 1) := by decide +kernel
theorem dX12_isFull_1 : decode cX12_isFull 1 = .ok (.getfield 19, 3) := by decide +kernel
theorem dX12_isFull_4 : decode cX12_isFull 4 = .ok (.aload_n 0, 1) := by decide +kernel
theorem dX12_isFull_5 : decode cX12_isFull 5 = .ok (.getfield 7, 3) := by decide +kernel
theorem dX12_isFull_8 : decode cX12_isFull 8 = .ok (.arraylength, 1) := by decide +kernel
theorem dX12_isFull_9 : decode cX12_isFull 9 = .ok (.if_icmp .lt 7, 3) := by decide +kernel
theorem dX12_isFull_12 : decode cX12_isFull 12 = .ok (.iconst 1, 1) := by decide +kernel
theorem dX12_isFull_13 : decode cX12_isFull 13 = .ok (.goto 4, 3) := by decide +kernel
theorem dX12_isFull_16 : decode cX12_isFull 16 = .ok (.iconst 0, 1) := by decide +kernel
theorem dX12_isFull_17 : decode cX12_isFull 17 = .ok (.ireturn, 1) := by decide +kernel
theorem dX1_begin_0 : decode cX1_begin 0 = .ok (.aload_n 0, 1) := by decide +kernel
theorem dX1_begin_1 : decode cX1_begin 1 = .ok (.iconst 0, 1) := by decide +kernel
theorem dX1_begin_2 : decode cX1_begin 2 = .ok (.putfield 337, 3) := by decide +kernel
theorem dX1_begin_5 : decode cX1_begin 5 = .ok (.aload_n 0, 1) := by decide +kernel
theorem dX1_begin_6 : decode cX1_begin 6 = .ok (.iconst 0, 1) := by decide +kernel
theorem dX1_begin_7 : decode cX1_begin 7 = .ok (.iconst 1, 1) := by decide +kernel
theorem dX1_begin_8 : decode cX1_begin 8 = .ok (.invokevirtual 360, 3) := by decide +kernel
theorem dX1_begin_11 : decode cX1_begin 11 = .ok (.aload_n 0, 1) := by decide +kernel
theorem dX1_begin_12 : decode cX1_begin 12 = .ok (.aload_n 0, 1) := by decide +kernel
theorem dX1_begin_13 : decode cX1_begin 13 = .ok (.getfield 282, 3) := by decide +kernel
theorem dX1_begin_16 : decode cX1_begin 16 = .ok (.putfield 363, 3) := by decide +kernel
theorem dX1_begin_19 : decode cX1_begin 19 = .ok (.iconst 0, 1) := by decide +kernel
theorem dX1_begin_20 : decode cX1_begin 20 = .ok (.istore_n 1, 1) := by decide +kernel
theorem dX1_begin_21 : decode cX1_begin 21 = .ok (.iload_n 1, 1) := by decide +kernel
theorem dX1_begin_22 : decode cX1_begin 22 = .ok (.bipush 64, 2) := by decide +kernel
theorem dX1_begin_24 : decode cX1_begin 24 = .ok (.if_icmp .ge 45, 3) := by decide +kernel
theorem dX1_begin_27 : decode cX1_begin 27 = .ok (.aload_n 0, 1) := by decide +kernel
theorem dX1_begin_28 : decode cX1_begin 28 = .ok (.getfield 152, 3) := by decide +kernel
theorem dX1_begin_31 : decode cX1_begin 31 = .ok (.iload_n 1, 1) := by decide +kernel
theorem dX1_begin_32 : decode cX1_begin 32 = .ok (.aload_n 0, 1) := by decide +kernel
theorem dX1_begin_33 : decode cX1_begin 33 = .ok (.getfield 119, 3) := by decide +kernel
theorem dX1_begin_36 : decode cX1_begin 36 = .ok (.iload_n 1, 1) := by decide +kernel
theorem dX1_begin_37 : decode cX1_begin 37 = .ok (.iaload, 1) := by decide +kernel
theorem dX1_begin_38 : decode cX1_begin 38 = .ok (.iastore, 1) := by decide +kernel
theorem dX1_begin_39 : decode cX1_begin 39 = .ok (.aload_n 0, 1) := by decide +kernel
theorem dX1_begin_40 : decode cX1_begin 40 = .ok (.getfield 155, 3) := by decide +kernel
theorem dX1_begin_43 : decode cX1_begin 43 = .ok (.iload_n 1, 1) := by decide +kernel
theorem dX1_begin_44 : decode cX1_begin 44 = .ok (.aload_n 0, 1) := by decide +kernel
theorem dX1_begin_45 : decode cX1_begin 45 = .ok (.getfield 122, 3) := by decide +kernel
theorem dX1_begin_48 : decode cX1_begin 48 = .ok (.iload_n 1, 1) := by decide +kernel
theorem dX1_begin_49 : decode cX1_begin 49 = .ok (.iaload, 1) := by decide +kernel
theorem dX1_begin_50 : decode cX1_begin 50 = .ok (.iastore, 1) := by decide +kernel
theorem dX1_begin_51 : decode cX1_begin 51 = .ok (.aload_n 0, 1) := by decide +kernel
theorem dX1_begin_52 : decode cX1_begin 52 = .ok (.getfield 158, 3) := by decide +kernel
theorem dX1_begin_55 : decode cX1_begin 55 = .ok (.iload_n 1, 1) := by decide +kernel
theorem dX1_begin_56 : decode cX1_begin 56 = .ok (.aload_n 0, 1) := by decide +kernel
theorem dX1_begin_57 : decode cX1_begin 57 = .ok (.getfield 125, 3) := by decide +kernel
theorem dX1_begin_60 : decode cX1_begin 60 = .ok (.iload_n 1, 1) := by decide +kernel
theorem dX1_begin_61 : decode cX1_begin 61 = .ok (.iaload, 1) := by decide +kernel
theorem dX1_begin_62 : decode cX1_begin 62 = .ok (.iastore, 1) := by decide +kernel
theorem dX1_begin_63 : decode cX1_begin 63 = .ok (.iinc 1 1, 3) := by decide +kernel
theorem dX1_begin_66 : decode cX1_begin 66 = .ok (.goto (-45), 3) := by decide +kernel
theorem dX1_begin_69 : decode cX1_begin 69 = .ok (.return_, 1) := by decide +kernel
theorem dX1_breaks_0 : decode cX1_breaks 0 = .ok (.aload_n 0, 1) := by decide +kernel
theorem dX1_breaks_1 : decode cX1_breaks 1 = .ok (.aload_n 0, 1) := by decide +kernel
theorem dX1_breaks_2 : decode cX1_breaks 2 = .ok (.getfield 98, 3) := by decide +kernel
theorem dX1_breaks_5 : decode cX1_breaks 5 = .ok (.iload_n 1, 1) := by decide +kernel
theorem dX1_breaks_6 : decode cX1_breaks 6 = .ok (.iaload, 1) := by decide +kernel
theorem dX1_breaks_7 : decode cX1_breaks 7 = .ok (.iload_n 2, 1) := by decide +kernel
theorem dX1_breaks_8 : decode cX1_breaks 8 = .ok (.iload_n 3, 1) := by decide +kernel
theorem dX1_breaks_9 : decode cX1_breaks 9 = .ok (.invokevirtual 300, 3) := by decide +kernel
theorem dX1_breaks_12 : decode cX1_breaks 12 = .ok (.istore 4, 2) := by decide +kernel
theorem dX1_breaks_14 : decode cX1_breaks 14 = .ok (.aload_n 0, 1) := by decide +kernel
theorem dX1_breaks_15 : decode cX1_breaks 15 = .ok (.aload_n 0, 1) := by decide +kernel
theorem dX1_breaks_16 : decode cX1_breaks 16 = .ok (.getfield 101, 3) := by decide +kernel
theorem dX1_breaks_19 : decode cX1_breaks 19 = .ok (.iload_n 1, 1) := by decide +kernel
theorem dX1_breaks_20 : decode cX1_breaks 20 = .ok (.iaload, 1) := by decide +kernel
theorem dX1_breaks_21 : decode cX1_breaks 21 = .ok (.iload_n 2, 1) := by decide +kernel
theorem dX1_breaks_22 : decode cX1_breaks 22 = .ok (.iload_n 3, 1) := by decide +kernel
theorem dX1_breaks_23 : decode cX1_breaks 23 = .ok (.invokevirtual 300, 3) := by decide +kernel
theorem dX1_breaks_26 : decode cX1_breaks 26 = .ok (.istore 5, 2) := by decide +kernel
theorem dX1_breaks_28 : decode cX1_breaks 28 = .ok (.aload_n 0, 1) := by decide +kernel
theorem dX1_breaks_29 : decode cX1_breaks 29 = .ok (.getfield 95, 3) := by decide +kernel
theorem dX1_breaks_32 : decode cX1_breaks 32 = .ok (.iload_n 1, 1) := by decide +kernel
theorem dX1_breaks_33 : decode cX1_breaks 33 = .ok (.iaload, 1) := by decide +kernel
theorem dX1_breaks_34 : decode cX1_breaks 34 = .ok (.bipush 60, 2) := by decide +kernel
theorem dX1_breaks_36 : decode cX1_breaks 36 = .ok (.if_icmp .ne 23, 3) := by decide +kernel
theorem dX1_breaks_39 : decode cX1_breaks 39 = .ok (.iload 5, 2) := by decide +kernel
theorem dX1_breaks_41 : decode cX1_breaks 41 = .ok (.ifCond .eq 16, 3) := by decide +kernel
theorem dX1_breaks_44 : decode cX1_breaks 44 = .ok (.aload_n 0, 1) := by decide +kernel
theorem dX1_breaks_45 : decode cX1_breaks 45 = .ok (.getfield 116, 3) := by decide +kernel
theorem dX1_breaks_48 : decode cX1_breaks 48 = .ok (.iload_n 1, 1) := by decide +kernel
theorem dX1_breaks_49 : decode cX1_breaks 49 = .ok (.baload, 1) := by decide +kernel
theorem dX1_breaks_50 : decode cX1_breaks 50 = .ok (.ifCond .ne 7, 3) := by decide +kernel
theorem dX1_breaks_53 : decode cX1_breaks 53 = .ok (.iconst 1, 1) := by decide +kernel
theorem dX1_breaks_54 : decode cX1_breaks 54 = .ok (.goto 4, 3) := by decide +kernel
theorem dX1_breaks_57 : decode cX1_breaks 57 = .ok (.iconst 0, 1) := by decide +kernel
theorem dX1_breaks_58 : decode cX1_breaks 58 = .ok (.ireturn, 1) := by decide +kernel
theorem dX1_breaks_59 : decode cX1_breaks 59 = .ok (.aload_n 0, 1) := by decide +kernel
theorem dX1_breaks_60 : decode cX1_breaks 60 = .ok (.getfield 95, 3) := by decide +kernel
theorem dX1_breaks_63 : decode cX1_breaks 63 = .ok (.iload_n 1, 1) := by decide +kernel
theorem dX1_breaks_64 : decode cX1_breaks 64 = .ok (.iaload, 1) := by decide +kernel
theorem dX1_breaks_65 : decode cX1_breaks 65 = .ok (.bipush 38, 2) := by decide +kernel
theorem dX1_breaks_67 : decode cX1_breaks 67 = .ok (.if_icmp .ne 34, 3) := by decide +kernel
theorem dX1_breaks_70 : decode cX1_breaks 70 = .ok (.iload 4, 2) := by decide +kernel
theorem dX1_breaks_72 : decode cX1_breaks 72 = .ok (.ifCond .eq 27, 3) := by decide +kernel
theorem dX1_breaks_75 : decode cX1_breaks 75 = .ok (.aload_n 0, 1) := by decide +kernel
theorem dX1_breaks_76 : decode cX1_breaks 76 = .ok (.getfield 107, 3) := by decide +kernel
theorem dX1_breaks_79 : decode cX1_breaks 79 = .ok (.aload_n 0, 1) := by decide +kernel
theorem dX1_breaks_80 : decode cX1_breaks 80 = .ok (.getfield 101, 3) := by decide +kernel
theorem dX1_breaks_83 : decode cX1_breaks 83 = .ok (.iload_n 1, 1) := by decide +kernel
theorem dX1_breaks_84 : decode cX1_breaks 84 = .ok (.iaload, 1) := by decide +kernel
theorem dX1_breaks_85 : decode cX1_breaks 85 = .ok (.iaload, 1) := by decide +kernel
theorem dX1_breaks_86 : decode cX1_breaks 86 = .ok (.aload_n 0, 1) := by decide +kernel
theorem dX1_breaks_87 : decode cX1_breaks 87 = .ok (.getfield 104, 3) := by decide +kernel
theorem dX1_breaks_90 : decode cX1_breaks 90 = .ok (.iload_n 1, 1) := by decide +kernel
theorem dX1_breaks_91 : decode cX1_breaks 91 = .ok (.iaload, 1) := by decide +kernel
theorem dX1_breaks_92 : decode cX1_breaks 92 = .ok (.if_icmp .eq 7, 3) := by decide +kernel
theorem dX1_breaks_95 : decode cX1_breaks 95 = .ok (.iconst 1, 1) := by decide +kernel
theorem dX1_breaks_96 : decode cX1_breaks 96 = .ok (.goto 4, 3) := by decide +kernel
theorem dX1_breaks_99 : decode cX1_breaks 99 = .ok (.iconst 0, 1) := by decide +kernel
theorem dX1_breaks_100 : decode cX1_breaks 100 = .ok (.ireturn, 1) := by decide +kernel
theorem dX1_breaks_101 : decode cX1_breaks 101 = .ok (.iload 4, 2) := by decide +kernel
theorem dX1_breaks_103 : decode cX1_breaks 103 = .ok (.ifCond .eq 16, 3) := by decide +kernel
theorem dX1_breaks_106 : decode cX1_breaks 106 = .ok (.aload_n 0, 1) := by decide +kernel
theorem dX1_breaks_107 : decode cX1_breaks 107 = .ok (.getfield 116, 3) := by decide +kernel
theorem dX1_breaks_110 : decode cX1_breaks 110 = .ok (.iload_n 1, 1) := by decide +kernel
theorem dX1_breaks_111 : decode cX1_breaks 111 = .ok (.baload, 1) := by decide +kernel
theorem dX1_breaks_112 : decode cX1_breaks 112 = .ok (.ifCond .eq 7, 3) := by decide +kernel
theorem dX1_breaks_115 : decode cX1_breaks 115 = .ok (.iconst 1, 1) := by decide +kernel
theorem dX1_breaks_116 : decode cX1_breaks 116 = .ok (.goto 4, 3) := by decide +kernel
theorem dX1_breaks_119 : decode cX1_breaks 119 = .ok (.iconst 0, 1) := by decide +kernel
theorem dX1_breaks_120 : decode cX1_breaks 120 = .ok (.ireturn, 1) := by decide +kernel
theorem dX1_busRead_0 : decode cX1_busRead 0 = .ok (.aload_n 0, 1) := by decide +kernel
theorem dX1_busRead_1 : decode cX1_busRead 1 = .ok (.iconst 0, 1) := by decide +kernel
theorem dX1_busRead_2 : decode cX1_busRead 2 = .ok (.putfield 161, 3) := by decide +kernel
theorem dX1_busRead_5 : decode cX1_busRead 5 = .ok (.aload_n 0, 1) := by decide +kernel
theorem dX1_busRead_6 : decode cX1_busRead 6 = .ok (.getfield 257, 3) := by decide +kernel
theorem dX1_busRead_9 : decode cX1_busRead 9 = .ok (.ifCond .eq 11, 3) := by decide +kernel
theorem dX1_busRead_12 : decode cX1_busRead 12 = .ok (.aload_n 0, 1) := by decide +kernel
theorem dX1_busRead_13 : decode cX1_busRead 13 = .ok (.iload_n 1, 1) := by decide +kernel
theorem dX1_busRead_14 : decode cX1_busRead 14 = .ok (.invokevirtual 320, 3) := by decide +kernel
theorem dX1_busRead_17 : decode cX1_busRead 17 = .ok (.goto 4, 3) := by decide +kernel
theorem dX1_busRead_20 : decode cX1_busRead 20 = .ok (.iconst (-1), 1) := by decide +kernel
theorem dX1_busRead_21 : decode cX1_busRead 21 = .ok (.istore_n 2, 1) := by decide +kernel
theorem dX1_busRead_22 : decode cX1_busRead 22 = .ok (.iload_n 2, 1) := by decide +kernel
theorem dX1_busRead_23 : decode cX1_busRead 23 = .ok (.iconst (-1), 1) := by decide +kernel
theorem dX1_busRead_24 : decode cX1_busRead 24 = .ok (.if_icmp .ne 7, 3) := by decide +kernel
theorem dX1_busRead_27 : decode cX1_busRead 27 = .ok (.iconst (-1), 1) := by decide +kernel
theorem dX1_busRead_28 : decode cX1_busRead 28 = .ok (.goto 8, 3) := by decide +kernel
theorem dX1_busRead_31 : decode cX1_busRead 31 = .ok (.aload_n 0, 1) := by decide +kernel
theorem dX1_busRead_32 : decode cX1_busRead 32 = .ok (.iload_n 2, 1) := by decide +kernel
theorem dX1_busRead_33 : decode cX1_busRead 33 = .ok (.invokevirtual 331, 3) := by decide +kernel
theorem dX1_busRead_36 : decode cX1_busRead 36 = .ok (.ireturn, 1) := by decide +kernel
theorem dX1_busWrite_0 : decode cX1_busWrite 0 = .ok (.aload_n 0, 1) := by decide +kernel
theorem dX1_busWrite_1 : decode cX1_busWrite 1 = .ok (.iconst 0, 1) := by decide +kernel
theorem dX1_busWrite_2 : decode cX1_busWrite 2 = .ok (.putfield 161, 3) := by decide +kernel
theorem dX1_busWrite_5 : decode cX1_busWrite 5 = .ok (.aload_n 0, 1) := by decide +kernel
theorem dX1_busWrite_6 : decode cX1_busWrite 6 = .ok (.getfield 257, 3) := by decide +kernel
theorem dX1_busWrite_9 : decode cX1_busWrite 9 = .ok (.ifCond .eq 11, 3) := by decide +kernel
theorem dX1_busWrite_12 : decode cX1_busWrite 12 = .ok (.aload_n 0, 1) := by decide +kernel
theorem dX1_busWrite_13 : decode cX1_busWrite 13 = .ok (.iload_n 1, 1) := by decide +kernel
theorem dX1_busWrite_14 : decode cX1_busWrite 14 = .ok (.invokevirtual 320, 3) := by decide +kernel
theorem dX1_busWrite_17 : decode cX1_busWrite 17 = .ok (.goto 4, 3) := by decide +kernel
theorem dX1_busWrite_20 : decode cX1_busWrite 20 = .ok (.iconst (-1), 1) := by decide +kernel
theorem dX1_busWrite_21 : decode cX1_busWrite 21 = .ok (.istore_n 3, 1) := by decide +kernel
theorem dX1_busWrite_22 : decode cX1_busWrite 22 = .ok (.iload_n 3, 1) := by decide +kernel
theorem dX1_busWrite_23 : decode cX1_busWrite 23 = .ok (.iconst (-1), 1) := by decide +kernel
theorem dX1_busWrite_24 : decode cX1_busWrite 24 = .ok (.if_icmp .ne 5, 3) := by decide +kernel
theorem dX1_busWrite_27 : decode cX1_busWrite 27 = .ok (.iconst (-1), 1) := by decide +kernel
theorem dX1_busWrite_28 : decode cX1_busWrite 28 = .ok (.ireturn, 1) := by decide +kernel
theorem dX1_busWrite_29 : decode cX1_busWrite 29 = .ok (.iload_n 2, 1) := by decide +kernel
theorem dX1_busWrite_30 : decode cX1_busWrite 30 = .ok (.ldc_w 323, 3) := by decide +kernel
theorem dX1_busWrite_33 : decode cX1_busWrite 33 = .ok (.iand, 1) := by decide +kernel
theorem dX1_busWrite_34 : decode cX1_busWrite 34 = .ok (.istore 4, 2) := by decide +kernel
theorem dX1_busWrite_36 : decode cX1_busWrite 36 = .ok (.aload_n 0, 1) := by decide +kernel
theorem dX1_busWrite_37 : decode cX1_busWrite 37 = .ok (.iload_n 3, 1) := by decide +kernel
theorem dX1_busWrite_38 : decode cX1_busWrite 38 = .ok (.iload 4, 2) := by decide +kernel
theorem dX1_busWrite_40 : decode cX1_busWrite 40 = .ok (.invokevirtual 324, 3) := by decide +kernel
theorem dX1_busWrite_43 : decode cX1_busWrite 43 = .ok (.istore 5, 2) := by decide +kernel
theorem dX1_busWrite_45 : decode cX1_busWrite 45 = .ok (.iconst 0, 1) := by decide +kernel
theorem dX1_busWrite_46 : decode cX1_busWrite 46 = .ok (.istore 6, 2) := by decide +kernel
theorem dX1_busWrite_48 : decode cX1_busWrite 48 = .ok (.iload 6, 2) := by decide +kernel
theorem dX1_busWrite_50 : decode cX1_busWrite 50 = .ok (.aload_n 0, 1) := by decide +kernel
theorem dX1_busWrite_51 : decode cX1_busWrite 51 = .ok (.getfield 264, 3) := by decide +kernel
theorem dX1_busWrite_54 : decode cX1_busWrite 54 = .ok (.if_icmp .ge 35, 3) := by decide +kernel
theorem dX1_busWrite_57 : decode cX1_busWrite 57 = .ok (.aload_n 0, 1) := by decide +kernel
theorem dX1_busWrite_58 : decode cX1_busWrite 58 = .ok (.dup, 1) := by decide +kernel
