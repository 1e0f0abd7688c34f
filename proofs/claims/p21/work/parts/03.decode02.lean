theorem dX0_field_114 : decode cX0_field 114 = .ok (.ireturn, 1) := by decide +kernel
theorem dX0_flush_0 : decode cX0_flush 0 = .ok (.aload_n 0, 1) := by decide +kernel
theorem dX0_flush_1 : decode cX0_flush 1 = .ok (.getfield 51, 3) := by decide +kernel
theorem dX0_flush_4 : decode cX0_flush 4 = .ok (.aload_n 0, 1) := by decide +kernel
theorem dX0_flush_5 : decode cX0_flush 5 = .ok (.getfield 44, 3) := by decide +kernel
theorem dX0_flush_8 : decode cX0_flush 8 = .ok (.getfield 144, 3) := by decide +kernel
theorem dX0_flush_11 : decode cX0_flush 11 = .ok (.invokevirtual 185, 3) := by decide +kernel
theorem dX0_flush_14 : decode cX0_flush 14 = .ok (.aload_n 0, 1) := by decide +kernel
theorem dX0_flush_15 : decode cX0_flush 15 = .ok (.getfield 51, 3) := by decide +kernel
theorem dX0_flush_18 : decode cX0_flush 18 = .ok (.aload_n 0, 1) := by decide +kernel
theorem dX0_flush_19 : decode cX0_flush 19 = .ok (.getfield 60, 3) := by decide +kernel
theorem dX0_flush_22 : decode cX0_flush 22 = .ok (.invokevirtual 217, 3) := by decide +kernel
theorem dX0_flush_25 : decode cX0_flush 25 = .ok (.aload_n 0, 1) := by decide +kernel
theorem dX0_flush_26 : decode cX0_flush 26 = .ok (.invokevirtual 192, 3) := by decide +kernel
theorem dX0_flush_29 : decode cX0_flush 29 = .ok (.istore_n 1, 1) := by decide +kernel
theorem dX0_flush_30 : decode cX0_flush 30 = .ok (.iload_n 1, 1) := by decide +kernel
theorem dX0_flush_31 : decode cX0_flush 31 = .ok (.bipush (-2), 2) := by decide +kernel
theorem dX0_flush_33 : decode cX0_flush 33 = .ok (.if_icmp .eq 11, 3) := by decide +kernel
theorem dX0_flush_36 : decode cX0_flush 36 = .ok (.aload_n 0, 1) := by decide +kernel
theorem dX0_flush_37 : decode cX0_flush 37 = .ok (.getfield 60, 3) := by decide +kernel
theorem dX0_flush_40 : decode cX0_flush 40 = .ok (.iconst 0, 1) := by decide +kernel
theorem dX0_flush_41 : decode cX0_flush 41 = .ok (.putfield 101, 3) := by decide +kernel
theorem dX0_flush_44 : decode cX0_flush 44 = .ok (.iload_n 1, 1) := by decide +kernel
theorem dX0_flush_45 : decode cX0_flush 45 = .ok (.ireturn, 1) := by decide +kernel
theorem dX0_found_0 : decode cX0_found 0 = .ok (.iload_n 1, 1) := by decide +kernel
theorem dX0_found_1 : decode cX0_found 1 = .ok (.lookupswitch 57 #[(0, 27), (1, 35)], 27) := by decide +kernel
theorem dX0_found_28 : decode cX0_found 28 = .ok (.aload_n 0, 1) := by decide +kernel
theorem dX0_found_29 : decode cX0_found 29 = .ok (.getfield 72, 3) := by decide +kernel
theorem dX0_found_32 : decode cX0_found 32 = .ok (.getfield 247, 3) := by decide +kernel
theorem dX0_found_35 : decode cX0_found 35 = .ok (.ireturn, 1) := by decide +kernel
theorem dX0_found_36 : decode cX0_found 36 = .ok (.aload_n 0, 1) := by decide +kernel
theorem dX0_found_37 : decode cX0_found 37 = .ok (.getfield 72, 3) := by decide +kernel
theorem dX0_found_40 : decode cX0_found 40 = .ok (.getfield 248, 3) := by decide +kernel
theorem dX0_found_43 : decode cX0_found 43 = .ok (.ifCond .eq 7, 3) := by decide +kernel
theorem dX0_found_46 : decode cX0_found 46 = .ok (.iconst 0, 1) := by decide +kernel
theorem dX0_found_47 : decode cX0_found 47 = .ok (.goto 10, 3) := by decide +kernel
theorem dX0_found_50 : decode cX0_found 50 = .ok (.aload_n 0, 1) := by decide +kernel
theorem dX0_found_51 : decode cX0_found 51 = .ok (.getfield 72, 3) := by decide +kernel
theorem dX0_found_54 : decode cX0_found 54 = .ok (.getfield 258, 3) := by decide +kernel
theorem dX0_found_57 : decode cX0_found 57 = .ok (.ireturn, 1) := by decide +kernel
theorem dX0_found_58 : decode cX0_found 58 = .ok (.iconst (-1), 1) := by decide +kernel
theorem dX0_found_59 : decode cX0_found 59 = .ok (.ireturn, 1) := by decide +kernel
theorem dX0_hasMap_0 : decode cX0_hasMap 0 = .ok (.aload_n 0, 1) := by decide +kernel
theorem dX0_hasMap_1 : decode cX0_hasMap 1 = .ok (.getfield 35, 3) := by decide +kernel
theorem dX0_hasMap_4 : decode cX0_hasMap 4 = .ok (.getfield 107, 3) := by decide +kernel
theorem dX0_hasMap_7 : decode cX0_hasMap 7 = .ok (.ifCond .le 7, 3) := by decide +kernel
theorem dX0_hasMap_10 : decode cX0_hasMap 10 = .ok (.iconst 1, 1) := by decide +kernel
theorem dX0_hasMap_11 : decode cX0_hasMap 11 = .ok (.goto 4, 3) := by decide +kernel
theorem dX0_hasMap_14 : decode cX0_hasMap 14 = .ok (.iconst 0, 1) := by decide +kernel
theorem dX0_hasMap_15 : decode cX0_hasMap 15 = .ok (.ireturn, 1) := by decide +kernel
theorem dX0_isStep_0 : decode cX0_isStep 0 = .ok (.iload_n 1, 1) := by decide +kernel
theorem dX0_isStep_1 : decode cX0_isStep 1 = .ok (.tableswitch 62 0 2 #[27, 37, 46], 27) := by decide +kernel
theorem dX0_isStep_28 : decode cX0_isStep 28 = .ok (.aload_n 0, 1) := by decide +kernel
theorem dX0_isStep_29 : decode cX0_isStep 29 = .ok (.getfield 35, 3) := by decide +kernel
theorem dX0_isStep_32 : decode cX0_isStep 32 = .ok (.iload_n 2, 1) := by decide +kernel
theorem dX0_isStep_33 : decode cX0_isStep 33 = .ok (.iload_n 3, 1) := by decide +kernel
theorem dX0_isStep_34 : decode cX0_isStep 34 = .ok (.invokevirtual 182, 3) := by decide +kernel
theorem dX0_isStep_37 : decode cX0_isStep 37 = .ok (.ireturn, 1) := by decide +kernel
theorem dX0_isStep_38 : decode cX0_isStep 38 = .ok (.aload_n 0, 1) := by decide +kernel
theorem dX0_isStep_39 : decode cX0_isStep 39 = .ok (.getfield 35, 3) := by decide +kernel
theorem dX0_isStep_42 : decode cX0_isStep 42 = .ok (.iload_n 2, 1) := by decide +kernel
theorem dX0_isStep_43 : decode cX0_isStep 43 = .ok (.invokevirtual 196, 3) := by decide +kernel
theorem dX0_isStep_46 : decode cX0_isStep 46 = .ok (.ireturn, 1) := by decide +kernel
theorem dX0_isStep_47 : decode cX0_isStep 47 = .ok (.iload_n 3, 1) := by decide +kernel
theorem dX0_isStep_48 : decode cX0_isStep 48 = .ok (.ifCond .lt 13, 3) := by decide +kernel
theorem dX0_isStep_51 : decode cX0_isStep 51 = .ok (.iload_n 3, 1) := by decide +kernel
theorem dX0_isStep_52 : decode cX0_isStep 52 = .ok (.bipush 40, 2) := by decide +kernel
theorem dX0_isStep_54 : decode cX0_isStep 54 = .ok (.if_icmp .gt 7, 3) := by decide +kernel
theorem dX0_isStep_57 : decode cX0_isStep 57 = .ok (.iconst 1, 1) := by decide +kernel
theorem dX0_isStep_58 : decode cX0_isStep 58 = .ok (.goto 4, 3) := by decide +kernel
theorem dX0_isStep_61 : decode cX0_isStep 61 = .ok (.iconst 0, 1) := by decide +kernel
theorem dX0_isStep_62 : decode cX0_isStep 62 = .ok (.ireturn, 1) := by decide +kernel
theorem dX0_isStep_63 : decode cX0_isStep 63 = .ok (.iload_n 1, 1) := by decide +kernel
theorem dX0_isStep_64 : decode cX0_isStep 64 = .ok (.iconst 3, 1) := by decide +kernel
theorem dX0_isStep_65 : decode cX0_isStep 65 = .ok (.if_icmp .ne 7, 3) := by decide +kernel
theorem dX0_isStep_68 : decode cX0_isStep 68 = .ok (.iconst 1, 1) := by decide +kernel
theorem dX0_isStep_69 : decode cX0_isStep 69 = .ok (.goto 4, 3) := by decide +kernel
theorem dX0_isStep_72 : decode cX0_isStep 72 = .ok (.iconst 0, 1) := by decide +kernel
theorem dX0_isStep_73 : decode cX0_isStep 73 = .ok (.ireturn, 1) := by decide +kernel
theorem dX0_join_0 : decode cX0_join 0 = .ok (.aload_n 0, 1) := by decide +kernel
theorem dX0_join_1 : decode cX0_join 1 = .ok (.getfield 35, 3) := by decide +kernel
theorem dX0_join_4 : decode cX0_join 4 = .ok (.iload_n 1, 1) := by decide +kernel
theorem dX0_join_5 : decode cX0_join 5 = .ok (.iload_n 2, 1) := by decide +kernel
theorem dX0_join_6 : decode cX0_join 6 = .ok (.invokevirtual 182, 3) := by decide +kernel
theorem dX0_join_9 : decode cX0_join 9 = .ok (.ifCond .eq 13, 3) := by decide +kernel
theorem dX0_join_12 : decode cX0_join 12 = .ok (.aload_n 0, 1) := by decide +kernel
theorem dX0_join_13 : decode cX0_join 13 = .ok (.getfield 60, 3) := by decide +kernel
theorem dX0_join_16 : decode cX0_join 16 = .ok (.invokevirtual 211, 3) := by decide +kernel
theorem dX0_join_19 : decode cX0_join 19 = .ok (.ifCond .eq 5, 3) := by decide +kernel
theorem dX0_join_22 : decode cX0_join 22 = .ok (.iconst (-1), 1) := by decide +kernel
theorem dX0_join_23 : decode cX0_join 23 = .ok (.ireturn, 1) := by decide +kernel
theorem dX0_join_24 : decode cX0_join 24 = .ok (.aload_n 0, 1) := by decide +kernel
theorem dX0_join_25 : decode cX0_join 25 = .ok (.getfield 60, 3) := by decide +kernel
theorem dX0_join_28 : decode cX0_join 28 = .ok (.iconst 0, 1) := by decide +kernel
theorem dX0_join_29 : decode cX0_join 29 = .ok (.iload_n 1, 1) := by decide +kernel
theorem dX0_join_30 : decode cX0_join 30 = .ok (.iload_n 2, 1) := by decide +kernel
theorem dX0_join_31 : decode cX0_join 31 = .ok (.invokevirtual 214, 3) := by decide +kernel
theorem dX0_join_34 : decode cX0_join 34 = .ok (.aload_n 0, 1) := by decide +kernel
theorem dX0_join_35 : decode cX0_join 35 = .ok (.getfield 60, 3) := by decide +kernel
theorem dX0_join_38 : decode cX0_join 38 = .ok (.getfield 101, 3) := by decide +kernel
theorem dX0_join_41 : decode cX0_join 41 = .ok (.ireturn, 1) := by decide +kernel
theorem dX0_poke_0 : decode cX0_poke 0 = .ok (.aload_n 0, 1) := by decide +kernel
theorem dX0_poke_1 : decode cX0_poke 1 = .ok (.getfield 35, 3) := by decide +kernel
theorem dX0_poke_4 : decode cX0_poke 4 = .ok (.iload_n 1, 1) := by decide +kernel
theorem dX0_poke_5 : decode cX0_poke 5 = .ok (.invokevirtual 113, 3) := by decide +kernel
theorem dX0_poke_8 : decode cX0_poke 8 = .ok (.ifCond .eq 15, 3) := by decide +kernel
theorem dX0_poke_11 : decode cX0_poke 11 = .ok (.aload_n 0, 1) := by decide +kernel
theorem dX0_poke_12 : decode cX0_poke 12 = .ok (.getfield 35, 3) := by decide +kernel
theorem dX0_poke_15 : decode cX0_poke 15 = .ok (.iload_n 1, 1) := by decide +kernel
theorem dX0_poke_16 : decode cX0_poke 16 = .ok (.iload_n 2, 1) := by decide +kernel
theorem dX0_poke_17 : decode cX0_poke 17 = .ok (.invokevirtual 172, 3) := by decide +kernel
theorem dX0_poke_20 : decode cX0_poke 20 = .ok (.ifCond .ne 5, 3) := by decide +kernel
theorem dX0_poke_23 : decode cX0_poke 23 = .ok (.iconst 0, 1) := by decide +kernel
theorem dX0_poke_24 : decode cX0_poke 24 = .ok (.ireturn, 1) := by decide +kernel
theorem dX0_poke_25 : decode cX0_poke 25 = .ok (.aload_n 0, 1) := by decide +kernel
theorem dX0_poke_26 : decode cX0_poke 26 = .ok (.getfield 35, 3) := by decide +kernel
theorem dX0_poke_29 : decode cX0_poke 29 = .ok (.getfield 176, 3) := by decide +kernel
theorem dX0_poke_32 : decode cX0_poke 32 = .ok (.iload_n 1, 1) := by decide +kernel
theorem dX0_poke_33 : decode cX0_poke 33 = .ok (.iaload, 1) := by decide +kernel
theorem dX0_poke_34 : decode cX0_poke 34 = .ok (.istore_n 3, 1) := by decide +kernel
theorem dX0_poke_35 : decode cX0_poke 35 = .ok (.iload_n 3, 1) := by decide +kernel
theorem dX0_poke_36 : decode cX0_poke 36 = .ok (.iconst 1, 1) := by decide +kernel
theorem dX0_poke_37 : decode cX0_poke 37 = .ok (.if_icmp .eq 15, 3) := by decide +kernel
theorem dX0_poke_40 : decode cX0_poke 40 = .ok (.iload_n 3, 1) := by decide +kernel
theorem dX0_poke_41 : decode cX0_poke 41 = .ok (.iconst 3, 1) := by decide +kernel
theorem dX0_poke_42 : decode cX0_poke 42 = .ok (.if_icmp .eq 10, 3) := by decide +kernel
theorem dX0_poke_45 : decode cX0_poke 45 = .ok (.iload_n 3, 1) := by decide +kernel
theorem dX0_poke_46 : decode cX0_poke 46 = .ok (.iconst 4, 1) := by decide +kernel
theorem dX0_poke_47 : decode cX0_poke 47 = .ok (.if_icmp .eq 5, 3) := by decide +kernel
theorem dX0_poke_50 : decode cX0_poke 50 = .ok (.iconst 0, 1) := by decide +kernel
theorem dX0_poke_51 : decode cX0_poke 51 = .ok (.ireturn, 1) := by decide +kernel
theorem dX0_poke_52 : decode cX0_poke 52 = .ok (.aload_n 0, 1) := by decide +kernel
theorem dX0_poke_53 : decode cX0_poke 53 = .ok (.getfield 44, 3) := by decide +kernel
theorem dX0_poke_56 : decode cX0_poke 56 = .ok (.iload_n 1, 1) := by decide +kernel
theorem dX0_poke_57 : decode cX0_poke 57 = .ok (.iload_n 2, 1) := by decide +kernel
theorem dX0_poke_58 : decode cX0_poke 58 = .ok (.invokevirtual 179, 3) := by decide +kernel
theorem dX0_poke_61 : decode cX0_poke 61 = .ok (.iconst 1, 1) := by decide +kernel
theorem dX0_poke_62 : decode cX0_poke 62 = .ok (.ireturn, 1) := by decide +kernel
theorem dX0_put_0 : decode cX0_put 0 = .ok (.aload_n 0, 1) := by decide +kernel
theorem dX0_put_1 : decode cX0_put 1 = .ok (.getfield 35, 3) := by decide +kernel
theorem dX0_put_4 : decode cX0_put 4 = .ok (.iload_n 1, 1) := by decide +kernel
theorem dX0_put_5 : decode cX0_put 5 = .ok (.iload_n 2, 1) := by decide +kernel
theorem dX0_put_6 : decode cX0_put 6 = .ok (.invokevirtual 182, 3) := by decide +kernel
theorem dX0_put_9 : decode cX0_put 9 = .ok (.ifCond .eq 13, 3) := by decide +kernel
theorem dX0_put_12 : decode cX0_put 12 = .ok (.aload_n 0, 1) := by decide +kernel
theorem dX0_put_13 : decode cX0_put 13 = .ok (.getfield 60, 3) := by decide +kernel
theorem dX0_put_16 : decode cX0_put 16 = .ok (.getfield 101, 3) := by decide +kernel
theorem dX0_put_19 : decode cX0_put 19 = .ok (.ifCond .le 5, 3) := by decide +kernel
theorem dX0_put_22 : decode cX0_put 22 = .ok (.iconst (-1), 1) := by decide +kernel
theorem dX0_put_23 : decode cX0_put 23 = .ok (.ireturn, 1) := by decide +kernel
theorem dX0_put_24 : decode cX0_put 24 = .ok (.aload_n 0, 1) := by decide +kernel
theorem dX0_put_25 : decode cX0_put 25 = .ok (.getfield 51, 3) := by decide +kernel
theorem dX0_put_28 : decode cX0_put 28 = .ok (.aload_n 0, 1) := by decide +kernel
theorem dX0_put_29 : decode cX0_put 29 = .ok (.getfield 44, 3) := by decide +kernel
theorem dX0_put_32 : decode cX0_put 32 = .ok (.getfield 144, 3) := by decide +kernel
theorem dX0_put_35 : decode cX0_put 35 = .ok (.invokevirtual 185, 3) := by decide +kernel
theorem dX0_put_38 : decode cX0_put 38 = .ok (.aload_n 0, 1) := by decide +kernel
theorem dX0_put_39 : decode cX0_put 39 = .ok (.getfield 51, 3) := by decide +kernel
theorem dX0_put_42 : decode cX0_put 42 = .ok (.iload_n 1, 1) := by decide +kernel
theorem dX0_put_43 : decode cX0_put 43 = .ok (.iload_n 2, 1) := by decide +kernel
theorem dX0_put_44 : decode cX0_put 44 = .ok (.invokevirtual 189, 3) := by decide +kernel
theorem dX0_put_47 : decode cX0_put 47 = .ok (.aload_n 0, 1) := by decide +kernel
theorem dX0_put_48 : decode cX0_put 48 = .ok (.invokevirtual 192, 3) := by decide +kernel
theorem dX0_put_51 : decode cX0_put 51 = .ok (.ireturn, 1) := by decide +kernel
theorem dX0_reachForFetch_0 : decode cX0_reachForFetch 0 = .ok (.aload_n 0, 1) := by decide +kernel
theorem dX0_reachForFetch_1 : decode cX0_reachForFetch 1 = .ok (.getfield 51, 3) := by decide +kernel
theorem dX0_reachForFetch_4 : decode cX0_reachForFetch 4 = .ok (.aload_n 0, 1) := by decide +kernel
theorem dX0_reachForFetch_5 : decode cX0_reachForFetch 5 = .ok (.getfield 44, 3) := by decide +kernel
theorem dX0_reachForFetch_8 : decode cX0_reachForFetch 8 = .ok (.getfield 144, 3) := by decide +kernel
theorem dX0_reachForFetch_11 : decode cX0_reachForFetch 11 = .ok (.invokevirtual 185, 3) := by decide +kernel
theorem dX0_reachForFetch_14 : decode cX0_reachForFetch 14 = .ok (.aload_n 0, 1) := by decide +kernel
theorem dX0_reachForFetch_15 : decode cX0_reachForFetch 15 = .ok (.getfield 51, 3) := by decide +kernel
theorem dX0_reachForFetch_18 : decode cX0_reachForFetch 18 = .ok (.iload_n 1, 1) := by decide +kernel
theorem dX0_reachForFetch_19 : decode cX0_reachForFetch 19 = .ok (.invokevirtual 283, 3) := by decide +kernel
theorem dX0_reachForFetch_22 : decode cX0_reachForFetch 22 = .ok (.aload_n 0, 1) := by decide +kernel
theorem dX0_reachForFetch_23 : decode cX0_reachForFetch 23 = .ok (.invokevirtual 192, 3) := by decide +kernel
theorem dX0_reachForFetch_26 : decode cX0_reachForFetch 26 = .ok (.bipush (-2), 2) := by decide +kernel
theorem dX0_reachForFetch_28 : decode cX0_reachForFetch 28 = .ok (.if_icmp .eq 7, 3) := by decide +kernel
theorem dX0_reachForFetch_31 : decode cX0_reachForFetch 31 = .ok (.iconst 1, 1) := by decide +kernel
theorem dX0_reachForFetch_32 : decode cX0_reachForFetch 32 = .ok (.goto 4, 3) := by decide +kernel
theorem dX0_reachForFetch_35 : decode cX0_reachForFetch 35 = .ok (.iconst 0, 1) := by decide +kernel
theorem dX0_reachForFetch_36 : decode cX0_reachForFetch 36 = .ok (.ireturn, 1) := by decide +kernel
theorem dX0_readOut_0 : decode cX0_readOut 0 = .ok (.aload_n 0, 1) := by decide +kernel
theorem dX0_readOut_1 : decode cX0_readOut 1 = .ok (.getfield 35, 3) := by decide +kernel
theorem dX0_readOut_4 : decode cX0_readOut 4 = .ok (.getfield 176, 3) := by decide +kernel
theorem dX0_readOut_7 : decode cX0_readOut 7 = .ok (.iload_n 1, 1) := by decide +kernel
theorem dX0_readOut_8 : decode cX0_readOut 8 = .ok (.iaload, 1) := by decide +kernel
theorem dX0_readOut_9 : decode cX0_readOut 9 = .ok (.istore_n 2, 1) := by decide +kernel
theorem dX0_readOut_10 : decode cX0_readOut 10 = .ok (.iload_n 2, 1) := by decide +kernel
theorem dX0_readOut_11 : decode cX0_readOut 11 = .ok (.ifCond .ne 12, 3) := by decide +kernel
theorem dX0_readOut_14 : decode cX0_readOut 14 = .ok (.aload_n 0, 1) := by decide +kernel
theorem dX0_readOut_15 : decode cX0_readOut 15 = .ok (.getfield 44, 3) := by decide +kernel
theorem dX0_readOut_18 : decode cX0_readOut 18 = .ok (.iload_n 1, 1) := by decide +kernel
theorem dX0_readOut_19 : decode cX0_readOut 19 = .ok (.invokevirtual 127, 3) := by decide +kernel
theorem dX0_readOut_22 : decode cX0_readOut 22 = .ok (.ireturn, 1) := by decide +kernel
theorem dX0_readOut_23 : decode cX0_readOut 23 = .ok (.aload_n 0, 1) := by decide +kernel
theorem dX0_readOut_24 : decode cX0_readOut 24 = .ok (.getfield 35, 3) := by decide +kernel
theorem dX0_readOut_27 : decode cX0_readOut 27 = .ok (.getfield 117, 3) := by decide +kernel
theorem dX0_readOut_30 : decode cX0_readOut 30 = .ok (.iload_n 1, 1) := by decide +kernel
theorem dX0_readOut_31 : decode cX0_readOut 31 = .ok (.iaload, 1) := by decide +kernel
theorem dX0_readOut_32 : decode cX0_readOut 32 = .ok (.istore_n 3, 1) := by decide +kernel
theorem dX0_readOut_33 : decode cX0_readOut 33 = .ok (.aload_n 0, 1) := by decide +kernel
theorem dX0_readOut_34 : decode cX0_readOut 34 = .ok (.getfield 44, 3) := by decide +kernel
theorem dX0_readOut_37 : decode cX0_readOut 37 = .ok (.iload_n 3, 1) := by decide +kernel
theorem dX0_readOut_38 : decode cX0_readOut 38 = .ok (.invokevirtual 169, 3) := by decide +kernel
theorem dX0_readOut_41 : decode cX0_readOut 41 = .ok (.istore 4, 2) := by decide +kernel
theorem dX0_readOut_43 : decode cX0_readOut 43 = .ok (.iload_n 2, 1) := by decide +kernel
theorem dX0_readOut_44 : decode cX0_readOut 44 = .ok (.iconst 3, 1) := by decide +kernel
theorem dX0_readOut_45 : decode cX0_readOut 45 = .ok (.if_icmp .ne 14, 3) := by decide +kernel
theorem dX0_readOut_48 : decode cX0_readOut 48 = .ok (.aload_n 0, 1) := by decide +kernel
theorem dX0_readOut_49 : decode cX0_readOut 49 = .ok (.getfield 44, 3) := by decide +kernel
theorem dX0_readOut_52 : decode cX0_readOut 52 = .ok (.iload_n 1, 1) := by decide +kernel
theorem dX0_readOut_53 : decode cX0_readOut 53 = .ok (.invokevirtual 296, 3) := by decide +kernel
theorem dX0_readOut_56 : decode cX0_readOut 56 = .ok (.goto 13, 3) := by decide +kernel
theorem dX0_readOut_59 : decode cX0_readOut 59 = .ok (.aload_n 0, 1) := by decide +kernel
theorem dX0_readOut_60 : decode cX0_readOut 60 = .ok (.getfield 35, 3) := by decide +kernel
theorem dX0_readOut_63 : decode cX0_readOut 63 = .ok (.iload_n 1, 1) := by decide +kernel
theorem dX0_readOut_64 : decode cX0_readOut 64 = .ok (.iload 4, 2) := by decide +kernel
theorem dX0_readOut_66 : decode cX0_readOut 66 = .ok (.invokevirtual 134, 3) := by decide +kernel
theorem dX0_readOut_69 : decode cX0_readOut 69 = .ok (.ireturn, 1) := by decide +kernel
theorem dX0_reset_0 : decode cX0_reset 0 = .ok (.aload_n 0, 1) := by decide +kernel
theorem dX0_reset_1 : decode cX0_reset 1 = .ok (.invokevirtual 138, 3) := by decide +kernel
theorem dX0_reset_4 : decode cX0_reset 4 = .ok (.ifCond .ne 5, 3) := by decide +kernel
theorem dX0_reset_7 : decode cX0_reset 7 = .ok (.iconst 0, 1) := by decide +kernel
theorem dX0_reset_8 : decode cX0_reset 8 = .ok (.ireturn, 1) := by decide +kernel
theorem dX0_reset_9 : decode cX0_reset 9 = .ok (.aload_n 0, 1) := by decide +kernel
theorem dX0_reset_10 : decode cX0_reset 10 = .ok (.invokevirtual 104, 3) := by decide +kernel
theorem dX0_reset_13 : decode cX0_reset 13 = .ok (.iconst 1, 1) := by decide +kernel
theorem dX0_reset_14 : decode cX0_reset 14 = .ok (.ireturn, 1) := by decide +kernel
theorem dX0_run_0 : decode cX0_run 0 = .ok (.aload_n 0, 1) := by decide +kernel
theorem dX0_run_1 : decode cX0_run 1 = .ok (.invokevirtual 138, 3) := by decide +kernel
theorem dX0_run_4 : decode cX0_run 4 = .ok (.ifCond .eq 13, 3) := by decide +kernel
theorem dX0_run_7 : decode cX0_run 7 = .ok (.aload_n 0, 1) := by decide +kernel
theorem dX0_run_8 : decode cX0_run 8 = .ok (.getfield 60, 3) := by decide +kernel
theorem dX0_run_11 : decode cX0_run 11 = .ok (.getfield 101, 3) := by decide +kernel
theorem dX0_run_14 : decode cX0_run 14 = .ok (.ifCond .le 5, 3) := by decide +kernel
theorem dX0_run_17 : decode cX0_run 17 = .ok (.iconst (-1), 1) := by decide +kernel
theorem dX0_run_18 : decode cX0_run 18 = .ok (.ireturn, 1) := by decide +kernel
theorem dX0_run_19 : decode cX0_run 19 = .ok (.iconst 0, 1) := by decide +kernel
theorem dX0_run_20 : decode cX0_run 20 = .ok (.istore_n 2, 1) := by decide +kernel
theorem dX0_run_21 : decode cX0_run 21 = .ok (.iconst 0, 1) := by decide +kernel
theorem dX0_run_22 : decode cX0_run 22 = .ok (.istore_n 3, 1) := by decide +kernel
theorem dX0_run_23 : decode cX0_run 23 = .ok (.iconst 0, 1) := by decide +kernel
theorem dX0_run_24 : decode cX0_run 24 = .ok (.istore 4, 2) := by decide +kernel
theorem dX0_run_26 : decode cX0_run 26 = .ok (.iload 4, 2) := by decide +kernel
theorem dX0_run_28 : decode cX0_run 28 = .ok (.sipush 300, 3) := by decide +kernel
theorem dX0_run_31 : decode cX0_run 31 = .ok (.if_icmp .ge 112, 3) := by decide +kernel
theorem dX0_run_34 : decode cX0_run 34 = .ok (.iload_n 2, 1) := by decide +kernel
theorem dX0_run_35 : decode cX0_run 35 = .ok (.aload_n 0, 1) := by decide +kernel
theorem dX0_run_36 : decode cX0_run 36 = .ok (.getfield 64, 3) := by decide +kernel
theorem dX0_run_39 : decode cX0_run 39 = .ok (.getfield 101, 3) := by decide +kernel
theorem dX0_run_42 : decode cX0_run 42 = .ok (.if_icmp .ge 16, 3) := by decide +kernel
theorem dX0_run_45 : decode cX0_run 45 = .ok (.aload_n 0, 1) := by decide +kernel
theorem dX0_run_46 : decode cX0_run 46 = .ok (.getfield 64, 3) := by decide +kernel
theorem dX0_run_49 : decode cX0_run 49 = .ok (.getfield 261, 3) := by decide +kernel
theorem dX0_run_52 : decode cX0_run 52 = .ok (.iload_n 2, 1) := by decide +kernel
theorem dX0_run_53 : decode cX0_run 53 = .ok (.iaload, 1) := by decide +kernel
theorem dX0_run_54 : decode cX0_run 54 = .ok (.iconst 3, 1) := by decide +kernel
theorem dX0_run_55 : decode cX0_run 55 = .ok (.if_icmp .ne 5, 3) := by decide +kernel
theorem dX0_run_58 : decode cX0_run 58 = .ok (.iconst 0, 1) := by decide +kernel
