theorem dX3_write_33 : decode cX3_write 33 = .ok (.iaload, 1) := by decide +kernel
theorem dX3_write_34 : decode cX3_write 34 = .ok (.iload_n 2, 1) := by decide +kernel
theorem dX3_write_35 : decode cX3_write 35 = .ok (.aload_n 0, 1) := by decide +kernel
theorem dX3_write_36 : decode cX3_write 36 = .ok (.getfield 28, 3) := by decide +kernel
theorem dX3_write_39 : decode cX3_write 39 = .ok (.getfield 97, 3) := by decide +kernel
theorem dX3_write_42 : decode cX3_write 42 = .ok (.iconst 4, 1) := by decide +kernel
theorem dX3_write_43 : decode cX3_write 43 = .ok (.aaload, 1) := by decide +kernel
theorem dX3_write_44 : decode cX3_write 44 = .ok (.iload_n 1, 1) := by decide +kernel
theorem dX3_write_45 : decode cX3_write 45 = .ok (.iaload, 1) := by decide +kernel
theorem dX3_write_46 : decode cX3_write 46 = .ok (.iand, 1) := by decide +kernel
theorem dX3_write_47 : decode cX3_write 47 = .ok (.iconst (-1), 1) := by decide +kernel
theorem dX3_write_48 : decode cX3_write 48 = .ok (.ixor, 1) := by decide +kernel
theorem dX3_write_49 : decode cX3_write 49 = .ok (.iand, 1) := by decide +kernel
theorem dX3_write_50 : decode cX3_write 50 = .ok (.iastore, 1) := by decide +kernel
theorem dX3_write_51 : decode cX3_write 51 = .ok (.aload_n 0, 1) := by decide +kernel
theorem dX3_write_52 : decode cX3_write 52 = .ok (.getfield 18, 3) := by decide +kernel
theorem dX3_write_55 : decode cX3_write 55 = .ok (.iload_n 1, 1) := by decide +kernel
theorem dX3_write_56 : decode cX3_write 56 = .ok (.dup2, 1) := by decide +kernel
theorem dX3_write_57 : decode cX3_write 57 = .ok (.iaload, 1) := by decide +kernel
theorem dX3_write_58 : decode cX3_write 58 = .ok (.iload_n 2, 1) := by decide +kernel
theorem dX3_write_59 : decode cX3_write 59 = .ok (.aload_n 0, 1) := by decide +kernel
theorem dX3_write_60 : decode cX3_write 60 = .ok (.getfield 28, 3) := by decide +kernel
theorem dX3_write_63 : decode cX3_write 63 = .ok (.getfield 97, 3) := by decide +kernel
theorem dX3_write_66 : decode cX3_write 66 = .ok (.iconst 5, 1) := by decide +kernel
theorem dX3_write_67 : decode cX3_write 67 = .ok (.aaload, 1) := by decide +kernel
theorem dX3_write_68 : decode cX3_write 68 = .ok (.iload_n 1, 1) := by decide +kernel
theorem dX3_write_69 : decode cX3_write 69 = .ok (.iaload, 1) := by decide +kernel
theorem dX3_write_70 : decode cX3_write 70 = .ok (.iand, 1) := by decide +kernel
theorem dX3_write_71 : decode cX3_write 71 = .ok (.ior, 1) := by decide +kernel
theorem dX3_write_72 : decode cX3_write 72 = .ok (.iastore, 1) := by decide +kernel
theorem dX3_write_73 : decode cX3_write 73 = .ok (.iload_n 2, 1) := by decide +kernel
theorem dX3_write_74 : decode cX3_write 74 = .ok (.aload_n 0, 1) := by decide +kernel
theorem dX3_write_75 : decode cX3_write 75 = .ok (.getfield 28, 3) := by decide +kernel
theorem dX3_write_78 : decode cX3_write 78 = .ok (.getfield 97, 3) := by decide +kernel
theorem dX3_write_81 : decode cX3_write 81 = .ok (.bipush 6, 2) := by decide +kernel
theorem dX3_write_83 : decode cX3_write 83 = .ok (.aaload, 1) := by decide +kernel
theorem dX3_write_84 : decode cX3_write 84 = .ok (.iload_n 1, 1) := by decide +kernel
theorem dX3_write_85 : decode cX3_write 85 = .ok (.iaload, 1) := by decide +kernel
theorem dX3_write_86 : decode cX3_write 86 = .ok (.iand, 1) := by decide +kernel
theorem dX3_write_87 : decode cX3_write 87 = .ok (.ifCond .eq 9, 3) := by decide +kernel
theorem dX3_write_90 : decode cX3_write 90 = .ok (.aload_n 0, 1) := by decide +kernel
theorem dX3_write_91 : decode cX3_write 91 = .ok (.iload_n 1, 1) := by decide +kernel
theorem dX3_write_92 : decode cX3_write 92 = .ok (.iload_n 2, 1) := by decide +kernel
theorem dX3_write_93 : decode cX3_write 93 = .ok (.invokevirtual 101, 3) := by decide +kernel
theorem dX3_write_96 : decode cX3_write 96 = .ok (.return_, 1) := by decide +kernel
theorem dX4_clear_0 : decode cX4_clear 0 = .ok (.aload_n 0, 1) := by decide +kernel
theorem dX4_clear_1 : decode cX4_clear 1 = .ok (.iconst 0, 1) := by decide +kernel
theorem dX4_clear_2 : decode cX4_clear 2 = .ok (.putfield 55, 3) := by decide +kernel
theorem dX4_clear_5 : decode cX4_clear 5 = .ok (.aload_n 0, 1) := by decide +kernel
theorem dX4_clear_6 : decode cX4_clear 6 = .ok (.iconst 0, 1) := by decide +kernel
theorem dX4_clear_7 : decode cX4_clear 7 = .ok (.putfield 59, 3) := by decide +kernel
theorem dX4_clear_10 : decode cX4_clear 10 = .ok (.aload_n 0, 1) := by decide +kernel
theorem dX4_clear_11 : decode cX4_clear 11 = .ok (.getfield 51, 3) := by decide +kernel
theorem dX4_clear_14 : decode cX4_clear 14 = .ok (.iconst 0, 1) := by decide +kernel
theorem dX4_clear_15 : decode cX4_clear 15 = .ok (.putfield 62, 3) := by decide +kernel
theorem dX4_clear_18 : decode cX4_clear 18 = .ok (.return_, 1) := by decide +kernel
theorem dX4_fits_0 : decode cX4_fits 0 = .ok (.iload_n 2, 1) := by decide +kernel
theorem dX4_fits_1 : decode cX4_fits 1 = .ok (.aload_n 0, 1) := by decide +kernel
theorem dX4_fits_2 : decode cX4_fits 2 = .ok (.getfield 39, 3) := by decide +kernel
theorem dX4_fits_5 : decode cX4_fits 5 = .ok (.iload_n 1, 1) := by decide +kernel
theorem dX4_fits_6 : decode cX4_fits 6 = .ok (.iaload, 1) := by decide +kernel
theorem dX4_fits_7 : decode cX4_fits 7 = .ok (.aload_n 0, 1) := by decide +kernel
theorem dX4_fits_8 : decode cX4_fits 8 = .ok (.getfield 42, 3) := by decide +kernel
theorem dX4_fits_11 : decode cX4_fits 11 = .ok (.iload_n 1, 1) := by decide +kernel
theorem dX4_fits_12 : decode cX4_fits 12 = .ok (.iaload, 1) := by decide +kernel
theorem dX4_fits_13 : decode cX4_fits 13 = .ok (.isub, 1) := by decide +kernel
theorem dX4_fits_14 : decode cX4_fits 14 = .ok (.iconst 1, 1) := by decide +kernel
theorem dX4_fits_15 : decode cX4_fits 15 = .ok (.iadd, 1) := by decide +kernel
theorem dX4_fits_16 : decode cX4_fits 16 = .ok (.ishr, 1) := by decide +kernel
theorem dX4_fits_17 : decode cX4_fits 17 = .ok (.ifCond .ne 7, 3) := by decide +kernel
theorem dX4_fits_20 : decode cX4_fits 20 = .ok (.iconst 1, 1) := by decide +kernel
theorem dX4_fits_21 : decode cX4_fits 21 = .ok (.goto 4, 3) := by decide +kernel
theorem dX4_fits_24 : decode cX4_fits 24 = .ok (.iconst 0, 1) := by decide +kernel
theorem dX4_fits_25 : decode cX4_fits 25 = .ok (.ireturn, 1) := by decide +kernel
theorem dX4_rowOf_0 : decode cX4_rowOf 0 = .ok (.iconst 0, 1) := by decide +kernel
theorem dX4_rowOf_1 : decode cX4_rowOf 1 = .ok (.istore_n 2, 1) := by decide +kernel
theorem dX4_rowOf_2 : decode cX4_rowOf 2 = .ok (.iload_n 2, 1) := by decide +kernel
theorem dX4_rowOf_3 : decode cX4_rowOf 3 = .ok (.aload_n 0, 1) := by decide +kernel
theorem dX4_rowOf_4 : decode cX4_rowOf 4 = .ok (.getfield 59, 3) := by decide +kernel
theorem dX4_rowOf_7 : decode cX4_rowOf 7 = .ok (.if_icmp .ge 21, 3) := by decide +kernel
theorem dX4_rowOf_10 : decode cX4_rowOf 10 = .ok (.aload_n 0, 1) := by decide +kernel
theorem dX4_rowOf_11 : decode cX4_rowOf 11 = .ok (.getfield 27, 3) := by decide +kernel
theorem dX4_rowOf_14 : decode cX4_rowOf 14 = .ok (.iload_n 2, 1) := by decide +kernel
theorem dX4_rowOf_15 : decode cX4_rowOf 15 = .ok (.iaload, 1) := by decide +kernel
theorem dX4_rowOf_16 : decode cX4_rowOf 16 = .ok (.iload_n 1, 1) := by decide +kernel
theorem dX4_rowOf_17 : decode cX4_rowOf 17 = .ok (.if_icmp .ne 5, 3) := by decide +kernel
theorem dX4_rowOf_20 : decode cX4_rowOf 20 = .ok (.iload_n 2, 1) := by decide +kernel
theorem dX4_rowOf_21 : decode cX4_rowOf 21 = .ok (.ireturn, 1) := by decide +kernel
theorem dX4_rowOf_22 : decode cX4_rowOf 22 = .ok (.iinc 2 1, 3) := by decide +kernel
theorem dX4_rowOf_25 : decode cX4_rowOf 25 = .ok (.goto (-23), 3) := by decide +kernel
theorem dX4_rowOf_28 : decode cX4_rowOf 28 = .ok (.iconst (-1), 1) := by decide +kernel
theorem dX4_rowOf_29 : decode cX4_rowOf 29 = .ok (.ireturn, 1) := by decide +kernel
theorem dX5_areApart_0 : decode cX5_areApart 0 = .ok (.aload_n 0, 1) := by decide +kernel
theorem dX5_areApart_1 : decode cX5_areApart 1 = .ok (.getfield 9, 3) := by decide +kernel
theorem dX5_areApart_4 : decode cX5_areApart 4 = .ok (.getfield 69, 3) := by decide +kernel
theorem dX5_areApart_7 : decode cX5_areApart 7 = .ok (.iload_n 1, 1) := by decide +kernel
theorem dX5_areApart_8 : decode cX5_areApart 8 = .ok (.iaload, 1) := by decide +kernel
theorem dX5_areApart_9 : decode cX5_areApart 9 = .ok (.iconst (-1), 1) := by decide +kernel
theorem dX5_areApart_10 : decode cX5_areApart 10 = .ok (.if_icmp .eq 49, 3) := by decide +kernel
theorem dX5_areApart_13 : decode cX5_areApart 13 = .ok (.aload_n 0, 1) := by decide +kernel
theorem dX5_areApart_14 : decode cX5_areApart 14 = .ok (.getfield 9, 3) := by decide +kernel
theorem dX5_areApart_17 : decode cX5_areApart 17 = .ok (.getfield 69, 3) := by decide +kernel
theorem dX5_areApart_20 : decode cX5_areApart 20 = .ok (.iload_n 1, 1) := by decide +kernel
theorem dX5_areApart_21 : decode cX5_areApart 21 = .ok (.iaload, 1) := by decide +kernel
theorem dX5_areApart_22 : decode cX5_areApart 22 = .ok (.aload_n 0, 1) := by decide +kernel
theorem dX5_areApart_23 : decode cX5_areApart 23 = .ok (.getfield 9, 3) := by decide +kernel
theorem dX5_areApart_26 : decode cX5_areApart 26 = .ok (.getfield 69, 3) := by decide +kernel
theorem dX5_areApart_29 : decode cX5_areApart 29 = .ok (.iload_n 2, 1) := by decide +kernel
theorem dX5_areApart_30 : decode cX5_areApart 30 = .ok (.iaload, 1) := by decide +kernel
theorem dX5_areApart_31 : decode cX5_areApart 31 = .ok (.if_icmp .ne 28, 3) := by decide +kernel
theorem dX5_areApart_34 : decode cX5_areApart 34 = .ok (.aload_n 0, 1) := by decide +kernel
theorem dX5_areApart_35 : decode cX5_areApart 35 = .ok (.getfield 9, 3) := by decide +kernel
theorem dX5_areApart_38 : decode cX5_areApart 38 = .ok (.getfield 72, 3) := by decide +kernel
theorem dX5_areApart_41 : decode cX5_areApart 41 = .ok (.iload_n 1, 1) := by decide +kernel
theorem dX5_areApart_42 : decode cX5_areApart 42 = .ok (.iaload, 1) := by decide +kernel
theorem dX5_areApart_43 : decode cX5_areApart 43 = .ok (.aload_n 0, 1) := by decide +kernel
theorem dX5_areApart_44 : decode cX5_areApart 44 = .ok (.getfield 9, 3) := by decide +kernel
theorem dX5_areApart_47 : decode cX5_areApart 47 = .ok (.getfield 72, 3) := by decide +kernel
theorem dX5_areApart_50 : decode cX5_areApart 50 = .ok (.iload_n 2, 1) := by decide +kernel
theorem dX5_areApart_51 : decode cX5_areApart 51 = .ok (.iaload, 1) := by decide +kernel
theorem dX5_areApart_52 : decode cX5_areApart 52 = .ok (.if_icmp .eq 7, 3) := by decide +kernel
theorem dX5_areApart_55 : decode cX5_areApart 55 = .ok (.iconst 1, 1) := by decide +kernel
theorem dX5_areApart_56 : decode cX5_areApart 56 = .ok (.goto 4, 3) := by decide +kernel
theorem dX5_areApart_59 : decode cX5_areApart 59 = .ok (.iconst 0, 1) := by decide +kernel
theorem dX5_areApart_60 : decode cX5_areApart 60 = .ok (.ireturn, 1) := by decide +kernel
theorem dX5_badBank_0 : decode cX5_badBank 0 = .ok (.iconst 0, 1) := by decide +kernel
theorem dX5_badBank_1 : decode cX5_badBank 1 = .ok (.istore_n 1, 1) := by decide +kernel
theorem dX5_badBank_2 : decode cX5_badBank 2 = .ok (.iload_n 1, 1) := by decide +kernel
theorem dX5_badBank_3 : decode cX5_badBank 3 = .ok (.aload_n 0, 1) := by decide +kernel
theorem dX5_badBank_4 : decode cX5_badBank 4 = .ok (.getfield 9, 3) := by decide +kernel
theorem dX5_badBank_7 : decode cX5_badBank 7 = .ok (.getfield 66, 3) := by decide +kernel
theorem dX5_badBank_10 : decode cX5_badBank 10 = .ok (.if_icmp .ge 64, 3) := by decide +kernel
theorem dX5_badBank_13 : decode cX5_badBank 13 = .ok (.aload_n 0, 1) := by decide +kernel
theorem dX5_badBank_14 : decode cX5_badBank 14 = .ok (.getfield 9, 3) := by decide +kernel
theorem dX5_badBank_17 : decode cX5_badBank 17 = .ok (.getfield 69, 3) := by decide +kernel
theorem dX5_badBank_20 : decode cX5_badBank 20 = .ok (.iload_n 1, 1) := by decide +kernel
theorem dX5_badBank_21 : decode cX5_badBank 21 = .ok (.iaload, 1) := by decide +kernel
theorem dX5_badBank_22 : decode cX5_badBank 22 = .ok (.iconst (-1), 1) := by decide +kernel
theorem dX5_badBank_23 : decode cX5_badBank 23 = .ok (.if_icmp .eq 45, 3) := by decide +kernel
theorem dX5_badBank_26 : decode cX5_badBank 26 = .ok (.aload_n 0, 1) := by decide +kernel
theorem dX5_badBank_27 : decode cX5_badBank 27 = .ok (.aload_n 0, 1) := by decide +kernel
theorem dX5_badBank_28 : decode cX5_badBank 28 = .ok (.getfield 9, 3) := by decide +kernel
theorem dX5_badBank_31 : decode cX5_badBank 31 = .ok (.aload_n 0, 1) := by decide +kernel
theorem dX5_badBank_32 : decode cX5_badBank 32 = .ok (.getfield 9, 3) := by decide +kernel
theorem dX5_badBank_35 : decode cX5_badBank 35 = .ok (.getfield 69, 3) := by decide +kernel
theorem dX5_badBank_38 : decode cX5_badBank 38 = .ok (.iload_n 1, 1) := by decide +kernel
theorem dX5_badBank_39 : decode cX5_badBank 39 = .ok (.iaload, 1) := by decide +kernel
theorem dX5_badBank_40 : decode cX5_badBank 40 = .ok (.invokevirtual 53, 3) := by decide +kernel
theorem dX5_badBank_43 : decode cX5_badBank 43 = .ok (.aload_n 0, 1) := by decide +kernel
theorem dX5_badBank_44 : decode cX5_badBank 44 = .ok (.getfield 9, 3) := by decide +kernel
theorem dX5_badBank_47 : decode cX5_badBank 47 = .ok (.getfield 72, 3) := by decide +kernel
theorem dX5_badBank_50 : decode cX5_badBank 50 = .ok (.iload_n 1, 1) := by decide +kernel
theorem dX5_badBank_51 : decode cX5_badBank 51 = .ok (.iaload, 1) := by decide +kernel
theorem dX5_badBank_52 : decode cX5_badBank 52 = .ok (.invokevirtual 75, 3) := by decide +kernel
theorem dX5_badBank_55 : decode cX5_badBank 55 = .ok (.ifCond .ne 13, 3) := by decide +kernel
theorem dX5_badBank_58 : decode cX5_badBank 58 = .ok (.aload_n 0, 1) := by decide +kernel
theorem dX5_badBank_59 : decode cX5_badBank 59 = .ok (.getfield 9, 3) := by decide +kernel
theorem dX5_badBank_62 : decode cX5_badBank 62 = .ok (.getfield 78, 3) := by decide +kernel
theorem dX5_badBank_65 : decode cX5_badBank 65 = .ok (.iload_n 1, 1) := by decide +kernel
theorem dX5_badBank_66 : decode cX5_badBank 66 = .ok (.iaload, 1) := by decide +kernel
theorem dX5_badBank_67 : decode cX5_badBank 67 = .ok (.ireturn, 1) := by decide +kernel
theorem dX5_badBank_68 : decode cX5_badBank 68 = .ok (.iinc 1 1, 3) := by decide +kernel
theorem dX5_badBank_71 : decode cX5_badBank 71 = .ok (.goto (-69), 3) := by decide +kernel
theorem dX5_badBank_74 : decode cX5_badBank 74 = .ok (.iconst (-1), 1) := by decide +kernel
theorem dX5_badBank_75 : decode cX5_badBank 75 = .ok (.ireturn, 1) := by decide +kernel
theorem dX5_badField_0 : decode cX5_badField 0 = .ok (.iconst 0, 1) := by decide +kernel
theorem dX5_badField_1 : decode cX5_badField 1 = .ok (.istore_n 1, 1) := by decide +kernel
theorem dX5_badField_2 : decode cX5_badField 2 = .ok (.iconst 0, 1) := by decide +kernel
theorem dX5_badField_3 : decode cX5_badField 3 = .ok (.istore_n 2, 1) := by decide +kernel
theorem dX5_badField_4 : decode cX5_badField 4 = .ok (.iload_n 2, 1) := by decide +kernel
theorem dX5_badField_5 : decode cX5_badField 5 = .ok (.aload_n 0, 1) := by decide +kernel
theorem dX5_badField_6 : decode cX5_badField 6 = .ok (.getfield 9, 3) := by decide +kernel
theorem dX5_badField_9 : decode cX5_badField 9 = .ok (.getfield 35, 3) := by decide +kernel
theorem dX5_badField_12 : decode cX5_badField 12 = .ok (.if_icmp .ge 158, 3) := by decide +kernel
theorem dX5_badField_15 : decode cX5_badField 15 = .ok (.iload_n 2, 1) := by decide +kernel
theorem dX5_badField_16 : decode cX5_badField 16 = .ok (.ifCond .eq 26, 3) := by decide +kernel
theorem dX5_badField_19 : decode cX5_badField 19 = .ok (.aload_n 0, 1) := by decide +kernel
theorem dX5_badField_20 : decode cX5_badField 20 = .ok (.getfield 9, 3) := by decide +kernel
theorem dX5_badField_23 : decode cX5_badField 23 = .ok (.getfield 40, 3) := by decide +kernel
theorem dX5_badField_26 : decode cX5_badField 26 = .ok (.iload_n 2, 1) := by decide +kernel
theorem dX5_badField_27 : decode cX5_badField 27 = .ok (.iaload, 1) := by decide +kernel
theorem dX5_badField_28 : decode cX5_badField 28 = .ok (.aload_n 0, 1) := by decide +kernel
theorem dX5_badField_29 : decode cX5_badField 29 = .ok (.getfield 9, 3) := by decide +kernel
theorem dX5_badField_32 : decode cX5_badField 32 = .ok (.getfield 40, 3) := by decide +kernel
theorem dX5_badField_35 : decode cX5_badField 35 = .ok (.iload_n 2, 1) := by decide +kernel
theorem dX5_badField_36 : decode cX5_badField 36 = .ok (.iconst 1, 1) := by decide +kernel
theorem dX5_badField_37 : decode cX5_badField 37 = .ok (.isub, 1) := by decide +kernel
theorem dX5_badField_38 : decode cX5_badField 38 = .ok (.iaload, 1) := by decide +kernel
theorem dX5_badField_39 : decode cX5_badField 39 = .ok (.if_icmp .eq 5, 3) := by decide +kernel
theorem dX5_badField_42 : decode cX5_badField 42 = .ok (.iconst 0, 1) := by decide +kernel
theorem dX5_badField_43 : decode cX5_badField 43 = .ok (.istore_n 1, 1) := by decide +kernel
theorem dX5_badField_44 : decode cX5_badField 44 = .ok (.aload_n 0, 1) := by decide +kernel
theorem dX5_badField_45 : decode cX5_badField 45 = .ok (.getfield 9, 3) := by decide +kernel
theorem dX5_badField_48 : decode cX5_badField 48 = .ok (.getfield 44, 3) := by decide +kernel
theorem dX5_badField_51 : decode cX5_badField 51 = .ok (.iload_n 2, 1) := by decide +kernel
theorem dX5_badField_52 : decode cX5_badField 52 = .ok (.iaload, 1) := by decide +kernel
theorem dX5_badField_53 : decode cX5_badField 53 = .ok (.istore_n 3, 1) := by decide +kernel
theorem dX5_badField_54 : decode cX5_badField 54 = .ok (.aload_n 0, 1) := by decide +kernel
theorem dX5_badField_55 : decode cX5_badField 55 = .ok (.getfield 9, 3) := by decide +kernel
theorem dX5_badField_58 : decode cX5_badField 58 = .ok (.getfield 47, 3) := by decide +kernel
theorem dX5_badField_61 : decode cX5_badField 61 = .ok (.iload_n 2, 1) := by decide +kernel
theorem dX5_badField_62 : decode cX5_badField 62 = .ok (.iaload, 1) := by decide +kernel
theorem dX5_badField_63 : decode cX5_badField 63 = .ok (.istore 4, 2) := by decide +kernel
theorem dX5_badField_65 : decode cX5_badField 65 = .ok (.aload_n 0, 1) := by decide +kernel
theorem dX5_badField_66 : decode cX5_badField 66 = .ok (.getfield 9, 3) := by decide +kernel
theorem dX5_badField_69 : decode cX5_badField 69 = .ok (.aload_n 0, 1) := by decide +kernel
theorem dX5_badField_70 : decode cX5_badField 70 = .ok (.getfield 9, 3) := by decide +kernel
theorem dX5_badField_73 : decode cX5_badField 73 = .ok (.getfield 50, 3) := by decide +kernel
theorem dX5_badField_76 : decode cX5_badField 76 = .ok (.iload_n 2, 1) := by decide +kernel
theorem dX5_badField_77 : decode cX5_badField 77 = .ok (.iaload, 1) := by decide +kernel
theorem dX5_badField_78 : decode cX5_badField 78 = .ok (.invokevirtual 53, 3) := by decide +kernel
theorem dX5_badField_81 : decode cX5_badField 81 = .ok (.iload_n 2, 1) := by decide +kernel
theorem dX5_badField_82 : decode cX5_badField 82 = .ok (.if_icmp .lt 35, 3) := by decide +kernel
theorem dX5_badField_85 : decode cX5_badField 85 = .ok (.iload_n 3, 1) := by decide +kernel
theorem dX5_badField_86 : decode cX5_badField 86 = .ok (.bipush 16, 2) := by decide +kernel
theorem dX5_badField_88 : decode cX5_badField 88 = .ok (.if_icmp .ge 29, 3) := by decide +kernel
theorem dX5_badField_91 : decode cX5_badField 91 = .ok (.iload_n 3, 1) := by decide +kernel
theorem dX5_badField_92 : decode cX5_badField 92 = .ok (.iload 4, 2) := by decide +kernel
theorem dX5_badField_94 : decode cX5_badField 94 = .ok (.if_icmp .lt 23, 3) := by decide +kernel
theorem dX5_badField_97 : decode cX5_badField 97 = .ok (.aload_n 0, 1) := by decide +kernel
theorem dX5_badField_98 : decode cX5_badField 98 = .ok (.getfield 9, 3) := by decide +kernel
theorem dX5_badField_101 : decode cX5_badField 101 = .ok (.iload_n 2, 1) := by decide +kernel
theorem dX5_badField_102 : decode cX5_badField 102 = .ok (.aload_n 0, 1) := by decide +kernel
theorem dX5_badField_103 : decode cX5_badField 103 = .ok (.getfield 9, 3) := by decide +kernel
theorem dX5_badField_106 : decode cX5_badField 106 = .ok (.getfield 57, 3) := by decide +kernel
theorem dX5_badField_109 : decode cX5_badField 109 = .ok (.iload_n 2, 1) := by decide +kernel
theorem dX5_badField_110 : decode cX5_badField 110 = .ok (.iaload, 1) := by decide +kernel
theorem dX5_badField_111 : decode cX5_badField 111 = .ok (.invokevirtual 60, 3) := by decide +kernel
theorem dX5_badField_114 : decode cX5_badField 114 = .ok (.ifCond .ne 13, 3) := by decide +kernel
theorem dX5_badField_117 : decode cX5_badField 117 = .ok (.aload_n 0, 1) := by decide +kernel
theorem dX5_badField_118 : decode cX5_badField 118 = .ok (.getfield 9, 3) := by decide +kernel
theorem dX5_badField_121 : decode cX5_badField 121 = .ok (.getfield 64, 3) := by decide +kernel
theorem dX5_badField_124 : decode cX5_badField 124 = .ok (.iload_n 2, 1) := by decide +kernel
theorem dX5_badField_125 : decode cX5_badField 125 = .ok (.iaload, 1) := by decide +kernel
theorem dX5_badField_126 : decode cX5_badField 126 = .ok (.ireturn, 1) := by decide +kernel
theorem dX5_badField_127 : decode cX5_badField 127 = .ok (.iconst 1, 1) := by decide +kernel
theorem dX5_badField_128 : decode cX5_badField 128 = .ok (.iload_n 3, 1) := by decide +kernel
theorem dX5_badField_129 : decode cX5_badField 129 = .ok (.iload 4, 2) := by decide +kernel
theorem dX5_badField_131 : decode cX5_badField 131 = .ok (.isub, 1) := by decide +kernel
theorem dX5_badField_132 : decode cX5_badField 132 = .ok (.iconst 1, 1) := by decide +kernel
theorem dX5_badField_133 : decode cX5_badField 133 = .ok (.iadd, 1) := by decide +kernel
theorem dX5_badField_134 : decode cX5_badField 134 = .ok (.ishl, 1) := by decide +kernel
theorem dX5_badField_135 : decode cX5_badField 135 = .ok (.iconst 1, 1) := by decide +kernel
theorem dX5_badField_136 : decode cX5_badField 136 = .ok (.isub, 1) := by decide +kernel
theorem dX5_badField_137 : decode cX5_badField 137 = .ok (.iload 4, 2) := by decide +kernel
theorem dX5_badField_139 : decode cX5_badField 139 = .ok (.ishl, 1) := by decide +kernel
theorem dX5_badField_140 : decode cX5_badField 140 = .ok (.istore 5, 2) := by decide +kernel
theorem dX5_badField_142 : decode cX5_badField 142 = .ok (.iload_n 1, 1) := by decide +kernel
theorem dX5_badField_143 : decode cX5_badField 143 = .ok (.iload 5, 2) := by decide +kernel
theorem dX5_badField_145 : decode cX5_badField 145 = .ok (.iand, 1) := by decide +kernel
theorem dX5_badField_146 : decode cX5_badField 146 = .ok (.ifCond .eq 13, 3) := by decide +kernel
theorem dX5_badField_149 : decode cX5_badField 149 = .ok (.aload_n 0, 1) := by decide +kernel
theorem dX5_badField_150 : decode cX5_badField 150 = .ok (.getfield 9, 3) := by decide +kernel
theorem dX5_badField_153 : decode cX5_badField 153 = .ok (.getfield 64, 3) := by decide +kernel
theorem dX5_badField_156 : decode cX5_badField 156 = .ok (.iload_n 2, 1) := by decide +kernel
theorem dX5_badField_157 : decode cX5_badField 157 = .ok (.iaload, 1) := by decide +kernel
theorem dX5_badField_158 : decode cX5_badField 158 = .ok (.ireturn, 1) := by decide +kernel
theorem dX5_badField_159 : decode cX5_badField 159 = .ok (.iload_n 1, 1) := by decide +kernel
theorem dX5_badField_160 : decode cX5_badField 160 = .ok (.iload 5, 2) := by decide +kernel
theorem dX5_badField_162 : decode cX5_badField 162 = .ok (.ior, 1) := by decide +kernel
