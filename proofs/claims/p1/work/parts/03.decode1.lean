theorem dL_law_592 : decode cL_law 592 = .ok (.aload_n 0, 1) := by decide +kernel
theorem dL_law_593 : decode cL_law 593 = .ok (.iload 4, 2) := by decide +kernel
theorem dL_law_595 : decode cL_law 595 = .ok (.iconst 1, 1) := by decide +kernel
theorem dL_law_596 : decode cL_law 596 = .ok (.iadd, 1) := by decide +kernel
theorem dL_law_597 : decode cL_law 597 = .ok (.iaload, 1) := by decide +kernel
theorem dL_law_598 : decode cL_law 598 = .ok (.aload_n 0, 1) := by decide +kernel
theorem dL_law_599 : decode cL_law 599 = .ok (.iload 4, 2) := by decide +kernel
theorem dL_law_601 : decode cL_law 601 = .ok (.iconst 2, 1) := by decide +kernel
theorem dL_law_602 : decode cL_law 602 = .ok (.iadd, 1) := by decide +kernel
theorem dL_law_603 : decode cL_law 603 = .ok (.iaload, 1) := by decide +kernel
theorem dL_law_604 : decode cL_law 604 = .ok (.invokevirtual 93, 3) := by decide +kernel
theorem dL_law_607 : decode cL_law 607 = .ok (.if_icmp .eq 155, 3) := by decide +kernel
theorem dL_law_612 : decode cL_law 612 = .ok (.aload_n 1, 1) := by decide +kernel
theorem dL_law_613 : decode cL_law 613 = .ok (.aload_n 0, 1) := by decide +kernel
theorem dL_law_614 : decode cL_law 614 = .ok (.iload 4, 2) := by decide +kernel
theorem dL_law_616 : decode cL_law 616 = .ok (.iconst 1, 1) := by decide +kernel
theorem dL_law_617 : decode cL_law 617 = .ok (.iadd, 1) := by decide +kernel
theorem dL_law_618 : decode cL_law 618 = .ok (.iaload, 1) := by decide +kernel
theorem dL_law_619 : decode cL_law 619 = .ok (.aload_n 0, 1) := by decide +kernel
theorem dL_law_620 : decode cL_law 620 = .ok (.iload 4, 2) := by decide +kernel
theorem dL_law_622 : decode cL_law 622 = .ok (.iconst 2, 1) := by decide +kernel
theorem dL_law_623 : decode cL_law 623 = .ok (.iadd, 1) := by decide +kernel
theorem dL_law_624 : decode cL_law 624 = .ok (.iaload, 1) := by decide +kernel
theorem dL_law_625 : decode cL_law 625 = .ok (.aload_n 0, 1) := by decide +kernel
theorem dL_law_626 : decode cL_law 626 = .ok (.iload 4, 2) := by decide +kernel
theorem dL_law_628 : decode cL_law 628 = .ok (.iconst 3, 1) := by decide +kernel
theorem dL_law_629 : decode cL_law 629 = .ok (.iadd, 1) := by decide +kernel
theorem dL_law_630 : decode cL_law 630 = .ok (.iaload, 1) := by decide +kernel
theorem dL_law_631 : decode cL_law 631 = .ok (.invokevirtual 94, 3) := by decide +kernel
theorem dL_law_634 : decode cL_law 634 = .ok (.aload_n 2, 1) := by decide +kernel
theorem dL_law_635 : decode cL_law 635 = .ok (.aload_n 0, 1) := by decide +kernel
theorem dL_law_636 : decode cL_law 636 = .ok (.iload 4, 2) := by decide +kernel
theorem dL_law_638 : decode cL_law 638 = .ok (.iconst 1, 1) := by decide +kernel
theorem dL_law_639 : decode cL_law 639 = .ok (.iadd, 1) := by decide +kernel
theorem dL_law_640 : decode cL_law 640 = .ok (.iaload, 1) := by decide +kernel
theorem dL_law_641 : decode cL_law 641 = .ok (.aload_n 0, 1) := by decide +kernel
theorem dL_law_642 : decode cL_law 642 = .ok (.iload 4, 2) := by decide +kernel
theorem dL_law_644 : decode cL_law 644 = .ok (.iconst 2, 1) := by decide +kernel
theorem dL_law_645 : decode cL_law 645 = .ok (.iadd, 1) := by decide +kernel
theorem dL_law_646 : decode cL_law 646 = .ok (.iaload, 1) := by decide +kernel
theorem dL_law_647 : decode cL_law 647 = .ok (.aload_n 0, 1) := by decide +kernel
theorem dL_law_648 : decode cL_law 648 = .ok (.iload 4, 2) := by decide +kernel
theorem dL_law_650 : decode cL_law 650 = .ok (.iconst 3, 1) := by decide +kernel
theorem dL_law_651 : decode cL_law 651 = .ok (.iadd, 1) := by decide +kernel
theorem dL_law_652 : decode cL_law 652 = .ok (.iaload, 1) := by decide +kernel
theorem dL_law_653 : decode cL_law 653 = .ok (.invokevirtual 98, 3) := by decide +kernel
theorem dL_law_656 : decode cL_law 656 = .ok (.if_icmp .eq 106, 3) := by decide +kernel
theorem dL_law_661 : decode cL_law 661 = .ok (.aload_n 1, 1) := by decide +kernel
theorem dL_law_662 : decode cL_law 662 = .ok (.invokevirtual 99, 3) := by decide +kernel
theorem dL_law_665 : decode cL_law 665 = .ok (.aload_n 2, 1) := by decide +kernel
theorem dL_law_666 : decode cL_law 666 = .ok (.invokevirtual 102, 3) := by decide +kernel
theorem dL_law_669 : decode cL_law 669 = .ok (.if_icmp .eq 93, 3) := by decide +kernel
theorem dL_law_674 : decode cL_law 674 = .ok (.aload_n 1, 1) := by decide +kernel
theorem dL_law_675 : decode cL_law 675 = .ok (.invokevirtual 103, 3) := by decide +kernel
theorem dL_law_678 : decode cL_law 678 = .ok (.aload_n 2, 1) := by decide +kernel
theorem dL_law_679 : decode cL_law 679 = .ok (.invokevirtual 106, 3) := by decide +kernel
theorem dL_law_682 : decode cL_law 682 = .ok (.if_icmp .eq 80, 3) := by decide +kernel
theorem dL_law_687 : decode cL_law 687 = .ok (.aload_n 1, 1) := by decide +kernel
theorem dL_law_688 : decode cL_law 688 = .ok (.aload_n 0, 1) := by decide +kernel
theorem dL_law_689 : decode cL_law 689 = .ok (.iload 4, 2) := by decide +kernel
theorem dL_law_691 : decode cL_law 691 = .ok (.iconst 1, 1) := by decide +kernel
theorem dL_law_692 : decode cL_law 692 = .ok (.iadd, 1) := by decide +kernel
theorem dL_law_693 : decode cL_law 693 = .ok (.iaload, 1) := by decide +kernel
theorem dL_law_694 : decode cL_law 694 = .ok (.invokevirtual 107, 3) := by decide +kernel
theorem dL_law_697 : decode cL_law 697 = .ok (.aload_n 2, 1) := by decide +kernel
theorem dL_law_698 : decode cL_law 698 = .ok (.aload_n 0, 1) := by decide +kernel
theorem dL_law_699 : decode cL_law 699 = .ok (.iload 4, 2) := by decide +kernel
theorem dL_law_701 : decode cL_law 701 = .ok (.iconst 1, 1) := by decide +kernel
theorem dL_law_702 : decode cL_law 702 = .ok (.iadd, 1) := by decide +kernel
theorem dL_law_703 : decode cL_law 703 = .ok (.iaload, 1) := by decide +kernel
theorem dL_law_704 : decode cL_law 704 = .ok (.invokevirtual 110, 3) := by decide +kernel
theorem dL_law_707 : decode cL_law 707 = .ok (.if_icmp .eq 55, 3) := by decide +kernel
theorem dL_law_712 : decode cL_law 712 = .ok (.aload_n 1, 1) := by decide +kernel
theorem dL_law_713 : decode cL_law 713 = .ok (.aload_n 0, 1) := by decide +kernel
theorem dL_law_714 : decode cL_law 714 = .ok (.iload 4, 2) := by decide +kernel
theorem dL_law_716 : decode cL_law 716 = .ok (.iconst 1, 1) := by decide +kernel
theorem dL_law_717 : decode cL_law 717 = .ok (.iadd, 1) := by decide +kernel
theorem dL_law_718 : decode cL_law 718 = .ok (.iaload, 1) := by decide +kernel
theorem dL_law_719 : decode cL_law 719 = .ok (.invokevirtual 111, 3) := by decide +kernel
theorem dL_law_722 : decode cL_law 722 = .ok (.aload_n 2, 1) := by decide +kernel
theorem dL_law_723 : decode cL_law 723 = .ok (.aload_n 0, 1) := by decide +kernel
theorem dL_law_724 : decode cL_law 724 = .ok (.iload 4, 2) := by decide +kernel
theorem dL_law_726 : decode cL_law 726 = .ok (.iconst 1, 1) := by decide +kernel
theorem dL_law_727 : decode cL_law 727 = .ok (.iadd, 1) := by decide +kernel
theorem dL_law_728 : decode cL_law 728 = .ok (.iaload, 1) := by decide +kernel
theorem dL_law_729 : decode cL_law 729 = .ok (.invokevirtual 114, 3) := by decide +kernel
theorem dL_law_732 : decode cL_law 732 = .ok (.if_icmp .eq 30, 3) := by decide +kernel
theorem dL_law_737 : decode cL_law 737 = .ok (.aload_n 1, 1) := by decide +kernel
theorem dL_law_738 : decode cL_law 738 = .ok (.aload_n 0, 1) := by decide +kernel
theorem dL_law_739 : decode cL_law 739 = .ok (.iload 4, 2) := by decide +kernel
theorem dL_law_741 : decode cL_law 741 = .ok (.iconst 1, 1) := by decide +kernel
theorem dL_law_742 : decode cL_law 742 = .ok (.iadd, 1) := by decide +kernel
theorem dL_law_743 : decode cL_law 743 = .ok (.iaload, 1) := by decide +kernel
theorem dL_law_744 : decode cL_law 744 = .ok (.invokevirtual 115, 3) := by decide +kernel
theorem dL_law_747 : decode cL_law 747 = .ok (.aload_n 2, 1) := by decide +kernel
theorem dL_law_748 : decode cL_law 748 = .ok (.aload_n 0, 1) := by decide +kernel
theorem dL_law_749 : decode cL_law 749 = .ok (.iload 4, 2) := by decide +kernel
theorem dL_law_751 : decode cL_law 751 = .ok (.iconst 1, 1) := by decide +kernel
theorem dL_law_752 : decode cL_law 752 = .ok (.iadd, 1) := by decide +kernel
theorem dL_law_753 : decode cL_law 753 = .ok (.iaload, 1) := by decide +kernel
theorem dL_law_754 : decode cL_law 754 = .ok (.invokevirtual 118, 3) := by decide +kernel
theorem dL_law_757 : decode cL_law 757 = .ok (.if_icmp .eq 5, 3) := by decide +kernel
theorem dX0_init_0 : decode cX0_init 0 = .ok (.aload_n 0, 1) := by decide +kernel
theorem dX0_init_1 : decode cX0_init 1 = .ok (.invokespecial 5, 3) := by decide +kernel
theorem dX0_init_4 : decode cX0_init 4 = .ok (.aload_n 0, 1) := by decide +kernel
theorem dX0_init_5 : decode cX0_init 5 = .ok (.sipush 5000, 3) := by decide +kernel
theorem dX0_init_8 : decode cX0_init 8 = .ok (.newarray .long, 2) := by decide +kernel
theorem dX0_init_10 : decode cX0_init 10 = .ok (.putfield 11, 3) := by decide +kernel
theorem dX0_init_13 : decode cX0_init 13 = .ok (.aload_n 0, 1) := by decide +kernel
theorem dX0_init_14 : decode cX0_init 14 = .ok (.iconst 5, 1) := by decide +kernel
theorem dX0_init_15 : decode cX0_init 15 = .ok (.newarray .long, 2) := by decide +kernel
theorem dX0_init_17 : decode cX0_init 17 = .ok (.putfield 15, 3) := by decide +kernel
theorem dX0_init_20 : decode cX0_init 20 = .ok (.aload_n 0, 1) := by decide +kernel
theorem dX0_init_21 : decode cX0_init 21 = .ok (.sipush 2048, 3) := by decide +kernel
theorem dX0_init_24 : decode cX0_init 24 = .ok (.newarray .int, 2) := by decide +kernel
theorem dX0_init_26 : decode cX0_init 26 = .ok (.putfield 18, 3) := by decide +kernel
theorem dX0_init_29 : decode cX0_init 29 = .ok (.aload_n 0, 1) := by decide +kernel
theorem dX0_init_30 : decode cX0_init 30 = .ok (.iconst (-1), 1) := by decide +kernel
theorem dX0_init_31 : decode cX0_init 31 = .ok (.putfield 22, 3) := by decide +kernel
theorem dX0_init_34 : decode cX0_init 34 = .ok (.aload_n 0, 1) := by decide +kernel
theorem dX0_init_35 : decode cX0_init 35 = .ok (.aload_n 1, 1) := by decide +kernel
theorem dX0_init_36 : decode cX0_init 36 = .ok (.putfield 26, 3) := by decide +kernel
theorem dX0_init_39 : decode cX0_init 39 = .ok (.aload_n 0, 1) := by decide +kernel
theorem dX0_init_40 : decode cX0_init 40 = .ok (.aload_n 2, 1) := by decide +kernel
theorem dX0_init_41 : decode cX0_init 41 = .ok (.putfield 30, 3) := by decide +kernel
theorem dX0_init_44 : decode cX0_init 44 = .ok (.aload_n 0, 1) := by decide +kernel
theorem dX0_init_45 : decode cX0_init 45 = .ok (.aload_n 3, 1) := by decide +kernel
theorem dX0_init_46 : decode cX0_init 46 = .ok (.putfield 34, 3) := by decide +kernel
theorem dX0_init_49 : decode cX0_init 49 = .ok (.return_, 1) := by decide +kernel
theorem dX10_empty_0 : decode cX10_empty 0 = .ok (.aload_n 0, 1) := by decide +kernel
theorem dX10_empty_1 : decode cX10_empty 1 = .ok (.getfield 19, 3) := by decide +kernel
theorem dX10_empty_4 : decode cX10_empty 4 = .ok (.istore_n 1, 1) := by decide +kernel
theorem dX10_empty_5 : decode cX10_empty 5 = .ok (.aload_n 0, 1) := by decide +kernel
theorem dX10_empty_6 : decode cX10_empty 6 = .ok (.iconst 0, 1) := by decide +kernel
theorem dX10_empty_7 : decode cX10_empty 7 = .ok (.putfield 19, 3) := by decide +kernel
theorem dX10_empty_10 : decode cX10_empty 10 = .ok (.iload_n 1, 1) := by decide +kernel
theorem dX10_empty_11 : decode cX10_empty 11 = .ok (.ireturn, 1) := by decide +kernel
theorem dX10_init_0 : decode cX10_init 0 = .ok (.aload_n 0, 1) := by decide +kernel
theorem dX10_init_1 : decode cX10_init 1 = .ok (.invokespecial 1, 3) := by decide +kernel
theorem dX10_init_4 : decode cX10_init 4 = .ok (.aload_n 0, 1) := by decide +kernel
theorem dX10_init_5 : decode cX10_init 5 = .ok (.iload_n 1, 1) := by decide +kernel
theorem dX10_init_6 : decode cX10_init 6 = .ok (.newarray .int, 2) := by decide +kernel
theorem dX10_init_8 : decode cX10_init 8 = .ok (.putfield 7, 3) := by decide +kernel
theorem dX10_init_11 : decode cX10_init 11 = .ok (.aload_n 0, 1) := by decide +kernel
theorem dX10_init_12 : decode cX10_init 12 = .ok (.iload_n 1, 1) := by decide +kernel
theorem dX10_init_13 : decode cX10_init 13 = .ok (.newarray .int, 2) := by decide +kernel
theorem dX10_init_15 : decode cX10_init 15 = .ok (.putfield 13, 3) := by decide +kernel
theorem dX10_init_18 : decode cX10_init 18 = .ok (.aload_n 0, 1) := by decide +kernel
theorem dX10_init_19 : decode cX10_init 19 = .ok (.iload_n 1, 1) := by decide +kernel
theorem dX10_init_20 : decode cX10_init 20 = .ok (.newarray .int, 2) := by decide +kernel
theorem dX10_init_22 : decode cX10_init 22 = .ok (.putfield 16, 3) := by decide +kernel
theorem dX10_init_25 : decode cX10_init 25 = .ok (.return_, 1) := by decide +kernel
theorem dX10_isFull_0 : decode cX10_isFull 0 = .ok (.aload_n 0, 1) := by decide +kernel
theorem dX10_isFull_1 : decode cX10_isFull 1 = .ok (.getfield 19, 3) := by decide +kernel
theorem dX10_isFull_4 : decode cX10_isFull 4 = .ok (.aload_n 0, 1) := by decide +kernel
theorem dX10_isFull_5 : decode cX10_isFull 5 = .ok (.getfield 7, 3) := by decide +kernel
theorem dX10_isFull_8 : decode cX10_isFull 8 = .ok (.arraylength, 1) := by decide +kernel
theorem dX10_isFull_9 : decode cX10_isFull 9 = .ok (.if_icmp .lt 7, 3) := by decide +kernel
theorem dX10_isFull_16 : decode cX10_isFull 16 = .ok (.iconst 0, 1) := by decide +kernel
theorem dX10_isFull_17 : decode cX10_isFull 17 = .ok (.ireturn, 1) := by decide +kernel
theorem dX11_busRead_0 : decode cX11_busRead 0 = .ok (.aload_n 0, 1) := by decide +kernel
theorem dX11_busRead_1 : decode cX11_busRead 1 = .ok (.getfield 44, 3) := by decide +kernel
theorem dX11_busRead_4 : decode cX11_busRead 4 = .ok (.iload_n 1, 1) := by decide +kernel
theorem dX11_busRead_5 : decode cX11_busRead 5 = .ok (.invokevirtual 141, 3) := by decide +kernel
theorem dX11_busRead_8 : decode cX11_busRead 8 = .ok (.istore_n 2, 1) := by decide +kernel
theorem dX11_busRead_9 : decode cX11_busRead 9 = .ok (.iload_n 2, 1) := by decide +kernel
theorem dX11_busRead_10 : decode cX11_busRead 10 = .ok (.iconst (-1), 1) := by decide +kernel
theorem dX11_busRead_11 : decode cX11_busRead 11 = .ok (.if_icmp .ne 7, 3) := by decide +kernel
theorem dX11_busRead_14 : decode cX11_busRead 14 = .ok (.iconst (-1), 1) := by decide +kernel
theorem dX11_busRead_15 : decode cX11_busRead 15 = .ok (.goto 11, 3) := by decide +kernel
theorem dX11_busRead_26 : decode cX11_busRead 26 = .ok (.ireturn, 1) := by decide +kernel
theorem dX11_busWrite_0 : decode cX11_busWrite 0 = .ok (.aload_n 0, 1) := by decide +kernel
theorem dX11_busWrite_1 : decode cX11_busWrite 1 = .ok (.getfield 44, 3) := by decide +kernel
theorem dX11_busWrite_4 : decode cX11_busWrite 4 = .ok (.iload_n 1, 1) := by decide +kernel
theorem dX11_busWrite_5 : decode cX11_busWrite 5 = .ok (.invokevirtual 141, 3) := by decide +kernel
theorem dX11_busWrite_8 : decode cX11_busWrite 8 = .ok (.istore_n 3, 1) := by decide +kernel
theorem dX11_busWrite_9 : decode cX11_busWrite 9 = .ok (.iload_n 3, 1) := by decide +kernel
theorem dX11_busWrite_10 : decode cX11_busWrite 10 = .ok (.iconst (-1), 1) := by decide +kernel
theorem dX11_busWrite_11 : decode cX11_busWrite 11 = .ok (.if_icmp .ne 5, 3) := by decide +kernel
theorem dX11_busWrite_14 : decode cX11_busWrite 14 = .ok (.iconst (-1), 1) := by decide +kernel
theorem dX11_busWrite_15 : decode cX11_busWrite 15 = .ok (.ireturn, 1) := by decide +kernel
theorem dX11_check_0 : decode cX11_check 0 = .ok (.aload_n 0, 1) := by decide +kernel
theorem dX11_check_1 : decode cX11_check 1 = .ok (.invokevirtual 138, 3) := by decide +kernel
theorem dX11_check_4 : decode cX11_check 4 = .ok (.ifCond .ne 5, 3) := by decide +kernel
theorem dX11_check_7 : decode cX11_check 7 = .ok (.iconst (-1), 1) := by decide +kernel
theorem dX11_check_8 : decode cX11_check 8 = .ok (.ireturn, 1) := by decide +kernel
theorem dX11_doWrites_0 : decode cX11_doWrites 0 = .ok (.aload_n 0, 1) := by decide +kernel
theorem dX11_doWrites_1 : decode cX11_doWrites 1 = .ok (.getfield 51, 3) := by decide +kernel
theorem dX11_doWrites_4 : decode cX11_doWrites 4 = .ok (.getfield 286, 3) := by decide +kernel
theorem dX11_doWrites_7 : decode cX11_doWrites 7 = .ok (.ifCond .eq 6, 3) := by decide +kernel
theorem dX11_doWrites_13 : decode cX11_doWrites 13 = .ok (.iconst 0, 1) := by decide +kernel
theorem dX11_doWrites_14 : decode cX11_doWrites 14 = .ok (.istore_n 1, 1) := by decide +kernel
theorem dX11_doWrites_15 : decode cX11_doWrites 15 = .ok (.iload_n 1, 1) := by decide +kernel
theorem dX11_doWrites_16 : decode cX11_doWrites 16 = .ok (.aload_n 0, 1) := by decide +kernel
theorem dX11_doWrites_17 : decode cX11_doWrites 17 = .ok (.getfield 51, 3) := by decide +kernel
theorem dX11_doWrites_20 : decode cX11_doWrites 20 = .ok (.getfield 289, 3) := by decide +kernel
theorem dX11_doWrites_23 : decode cX11_doWrites 23 = .ok (.if_icmp .ge 34, 3) := by decide +kernel
theorem dX11_doWrites_57 : decode cX11_doWrites 57 = .ok (.aload_n 0, 1) := by decide +kernel
theorem dX11_doWrites_58 : decode cX11_doWrites 58 = .ok (.getfield 51, 3) := by decide +kernel
theorem dX11_doWrites_61 : decode cX11_doWrites 61 = .ok (.getfield 289, 3) := by decide +kernel
theorem dX11_doWrites_64 : decode cX11_doWrites 64 = .ok (.ireturn, 1) := by decide +kernel
theorem dX11_drop_0 : decode cX11_drop 0 = .ok (.aload_n 0, 1) := by decide +kernel
theorem dX11_drop_1 : decode cX11_drop 1 = .ok (.getfield 60, 3) := by decide +kernel
theorem dX11_drop_4 : decode cX11_drop 4 = .ok (.invokevirtual 221, 3) := by decide +kernel
theorem dX11_drop_7 : decode cX11_drop 7 = .ok (.ireturn, 1) := by decide +kernel
theorem dX11_erase_0 : decode cX11_erase 0 = .ok (.aload_n 0, 1) := by decide +kernel
theorem dX11_erase_1 : decode cX11_erase 1 = .ok (.getfield 64, 3) := by decide +kernel
theorem dX11_erase_4 : decode cX11_erase 4 = .ok (.invokevirtual 221, 3) := by decide +kernel
theorem dX11_erase_7 : decode cX11_erase 7 = .ok (.ireturn, 1) := by decide +kernel
theorem dX11_fault_0 : decode cX11_fault 0 = .ok (.iload_n 1, 1) := by decide +kernel
theorem dX11_fault_1 : decode cX11_fault 1 = .ok (.lookupswitch 43 #[(0, 27), (1, 35)], 27) := by decide +kernel
theorem dX11_fault_28 : decode cX11_fault 28 = .ok (.aload_n 0, 1) := by decide +kernel
theorem dX11_fault_29 : decode cX11_fault 29 = .ok (.getfield 28, 3) := by decide +kernel
theorem dX11_fault_32 : decode cX11_fault 32 = .ok (.getfield 92, 3) := by decide +kernel
theorem dX11_fault_35 : decode cX11_fault 35 = .ok (.ireturn, 1) := by decide +kernel
theorem dX11_fault_36 : decode cX11_fault 36 = .ok (.aload_n 0, 1) := by decide +kernel
theorem dX11_fault_37 : decode cX11_fault 37 = .ok (.getfield 28, 3) := by decide +kernel
theorem dX11_fault_40 : decode cX11_fault 40 = .ok (.getfield 110, 3) := by decide +kernel
theorem dX11_fault_43 : decode cX11_fault 43 = .ok (.ireturn, 1) := by decide +kernel
theorem dX11_fault_44 : decode cX11_fault 44 = .ok (.iconst (-1), 1) := by decide +kernel
theorem dX11_fault_45 : decode cX11_fault 45 = .ok (.ireturn, 1) := by decide +kernel
theorem dX11_field_0 : decode cX11_field 0 = .ok (.aload_n 0, 1) := by decide +kernel
theorem dX11_field_1 : decode cX11_field 1 = .ok (.getfield 35, 3) := by decide +kernel
theorem dX11_field_4 : decode cX11_field 4 = .ok (.iload_n 1, 1) := by decide +kernel
theorem dX11_field_5 : decode cX11_field 5 = .ok (.invokevirtual 113, 3) := by decide +kernel
theorem dX11_field_8 : decode cX11_field 8 = .ok (.ifCond .ne 5, 3) := by decide +kernel
theorem dX11_field_11 : decode cX11_field 11 = .ok (.iconst (-1), 1) := by decide +kernel
theorem dX11_field_12 : decode cX11_field 12 = .ok (.ireturn, 1) := by decide +kernel
theorem dX11_flush_0 : decode cX11_flush 0 = .ok (.aload_n 0, 1) := by decide +kernel
theorem dX11_flush_1 : decode cX11_flush 1 = .ok (.getfield 51, 3) := by decide +kernel
theorem dX11_flush_4 : decode cX11_flush 4 = .ok (.aload_n 0, 1) := by decide +kernel
theorem dX11_flush_5 : decode cX11_flush 5 = .ok (.getfield 44, 3) := by decide +kernel
theorem dX11_flush_8 : decode cX11_flush 8 = .ok (.getfield 144, 3) := by decide +kernel
theorem dX11_flush_11 : decode cX11_flush 11 = .ok (.invokevirtual 185, 3) := by decide +kernel
theorem dX11_flush_14 : decode cX11_flush 14 = .ok (.aload_n 0, 1) := by decide +kernel
theorem dX11_flush_15 : decode cX11_flush 15 = .ok (.getfield 51, 3) := by decide +kernel
theorem dX11_flush_18 : decode cX11_flush 18 = .ok (.aload_n 0, 1) := by decide +kernel
theorem dX11_flush_19 : decode cX11_flush 19 = .ok (.getfield 60, 3) := by decide +kernel
theorem dX11_flush_22 : decode cX11_flush 22 = .ok (.invokevirtual 217, 3) := by decide +kernel
theorem dX11_flush_25 : decode cX11_flush 25 = .ok (.aload_n 0, 1) := by decide +kernel
theorem dX11_flush_26 : decode cX11_flush 26 = .ok (.invokevirtual 192, 3) := by decide +kernel
theorem dX11_flush_29 : decode cX11_flush 29 = .ok (.istore_n 1, 1) := by decide +kernel
theorem dX11_flush_30 : decode cX11_flush 30 = .ok (.iload_n 1, 1) := by decide +kernel
theorem dX11_flush_31 : decode cX11_flush 31 = .ok (.bipush (-2), 2) := by decide +kernel
theorem dX11_flush_33 : decode cX11_flush 33 = .ok (.if_icmp .eq 11, 3) := by decide +kernel
theorem dX11_flush_36 : decode cX11_flush 36 = .ok (.aload_n 0, 1) := by decide +kernel
theorem dX11_flush_37 : decode cX11_flush 37 = .ok (.getfield 60, 3) := by decide +kernel
theorem dX11_flush_40 : decode cX11_flush 40 = .ok (.iconst 0, 1) := by decide +kernel
theorem dX11_flush_41 : decode cX11_flush 41 = .ok (.putfield 101, 3) := by decide +kernel
theorem dX11_flush_44 : decode cX11_flush 44 = .ok (.iload_n 1, 1) := by decide +kernel
theorem dX11_flush_45 : decode cX11_flush 45 = .ok (.ireturn, 1) := by decide +kernel
theorem dX11_found_0 : decode cX11_found 0 = .ok (.iload_n 1, 1) := by decide +kernel
theorem dX11_found_1 : decode cX11_found 1 = .ok (.lookupswitch 57 #[(0, 27), (1, 35)], 27) := by decide +kernel
theorem dX11_found_28 : decode cX11_found 28 = .ok (.aload_n 0, 1) := by decide +kernel
theorem dX11_found_29 : decode cX11_found 29 = .ok (.getfield 72, 3) := by decide +kernel
theorem dX11_found_32 : decode cX11_found 32 = .ok (.getfield 247, 3) := by decide +kernel
theorem dX11_found_35 : decode cX11_found 35 = .ok (.ireturn, 1) := by decide +kernel
theorem dX11_found_36 : decode cX11_found 36 = .ok (.aload_n 0, 1) := by decide +kernel
theorem dX11_found_37 : decode cX11_found 37 = .ok (.getfield 72, 3) := by decide +kernel
theorem dX11_found_40 : decode cX11_found 40 = .ok (.getfield 248, 3) := by decide +kernel
