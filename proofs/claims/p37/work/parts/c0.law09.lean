theorem dL_hangs_599 : decode cL_hangs 599 = .ok (.istore 7, 2) := by decide +kernel
theorem dL_hangs_601 : decode cL_hangs 601 = .ok (.aload_n 0, 1) := by decide +kernel
theorem dL_hangs_602 : decode cL_hangs 602 = .ok (.iload_n 1, 1) := by decide +kernel
theorem dL_hangs_603 : decode cL_hangs 603 = .ok (.bipush 8, 2) := by decide +kernel
theorem dL_hangs_605 : decode cL_hangs 605 = .ok (.irem, 1) := by decide +kernel
theorem dL_hangs_606 : decode cL_hangs 606 = .ok (.invokevirtual 113, 3) := by decide +kernel
theorem dL_hangs_609 : decode cL_hangs 609 = .ok (.istore 13, 2) := by decide +kernel
theorem dL_hangs_611 : decode cL_hangs 611 = .ok (.iload 7, 2) := by decide +kernel
theorem dL_hangs_613 : decode cL_hangs 613 = .ok (.ifCond .eq 35, 3) := by decide +kernel
theorem dL_hangs_616 : decode cL_hangs 616 = .ok (.iload 13, 2) := by decide +kernel
theorem dL_hangs_618 : decode cL_hangs 618 = .ok (.ifCond .lt 30, 3) := by decide +kernel
theorem dL_hangs_621 : decode cL_hangs 621 = .ok (.iload 13, 2) := by decide +kernel
theorem dL_hangs_623 : decode cL_hangs 623 = .ok (.iconst 4, 1) := by decide +kernel
theorem dL_hangs_624 : decode cL_hangs 624 = .ok (.if_icmp .ge 24, 3) := by decide +kernel
theorem dL_hangs_627 : decode cL_hangs 627 = .ok (.aload_n 0, 1) := by decide +kernel
theorem dL_hangs_628 : decode cL_hangs 628 = .ok (.iload 13, 2) := by decide +kernel
theorem dL_hangs_630 : decode cL_hangs 630 = .ok (.invokevirtual 80, 3) := by decide +kernel
theorem dL_hangs_633 : decode cL_hangs 633 = .ok (.iconst 1, 1) := by decide +kernel
theorem dL_hangs_634 : decode cL_hangs 634 = .ok (.if_icmp .ne 10, 3) := by decide +kernel
theorem dL_hangs_637 : decode cL_hangs 637 = .ok (.iload 10, 2) := by decide +kernel
theorem dL_hangs_639 : decode cL_hangs 639 = .ok (.iload 13, 2) := by decide +kernel
theorem dL_hangs_641 : decode cL_hangs 641 = .ok (.if_icmp .ne 7, 3) := by decide +kernel
theorem dL_hangs_644 : decode cL_hangs 644 = .ok (.iconst 1, 1) := by decide +kernel
theorem dL_hangs_645 : decode cL_hangs 645 = .ok (.goto 4, 3) := by decide +kernel
theorem dL_hangs_648 : decode cL_hangs 648 = .ok (.iconst 0, 1) := by decide +kernel
theorem dL_hangs_649 : decode cL_hangs 649 = .ok (.istore 7, 2) := by decide +kernel
theorem dL_hangs_651 : decode cL_hangs 651 = .ok (.iconst 0, 1) := by decide +kernel
theorem dL_hangs_652 : decode cL_hangs 652 = .ok (.istore 14, 2) := by decide +kernel
theorem dL_hangs_654 : decode cL_hangs 654 = .ok (.iload 14, 2) := by decide +kernel
theorem dL_hangs_656 : decode cL_hangs 656 = .ok (.bipush 48, 2) := by decide +kernel
theorem dL_hangs_658 : decode cL_hangs 658 = .ok (.if_icmp .ge 131, 3) := by decide +kernel
theorem dL_hangs_661 : decode cL_hangs 661 = .ok (.iload 7, 2) := by decide +kernel
theorem dL_hangs_663 : decode cL_hangs 663 = .ok (.ifCond .eq 126, 3) := by decide +kernel
theorem dL_hangs_666 : decode cL_hangs 666 = .ok (.aload_n 0, 1) := by decide +kernel
theorem dL_hangs_667 : decode cL_hangs 667 = .ok (.iload 14, 2) := by decide +kernel
theorem dL_hangs_669 : decode cL_hangs 669 = .ok (.invokevirtual 116, 3) := by decide +kernel
theorem dL_hangs_672 : decode cL_hangs 672 = .ok (.istore 15, 2) := by decide +kernel
theorem dL_hangs_674 : decode cL_hangs 674 = .ok (.iload 15, 2) := by decide +kernel
theorem dL_hangs_676 : decode cL_hangs 676 = .ok (.ifCond .lt 104, 3) := by decide +kernel
theorem dL_hangs_679 : decode cL_hangs 679 = .ok (.iload 15, 2) := by decide +kernel
theorem dL_hangs_681 : decode cL_hangs 681 = .ok (.bipush 12, 2) := by decide +kernel
theorem dL_hangs_683 : decode cL_hangs 683 = .ok (.if_icmp .ge 97, 3) := by decide +kernel
theorem dL_hangs_686 : decode cL_hangs 686 = .ok (.aload_n 0, 1) := by decide +kernel
theorem dL_hangs_687 : decode cL_hangs 687 = .ok (.iload 14, 2) := by decide +kernel
theorem dL_hangs_689 : decode cL_hangs 689 = .ok (.iconst 0, 1) := by decide +kernel
theorem dL_hangs_690 : decode cL_hangs 690 = .ok (.invokevirtual 119, 3) := by decide +kernel
theorem dL_hangs_693 : decode cL_hangs 693 = .ok (.ldc 102, 2) := by decide +kernel
theorem dL_hangs_695 : decode cL_hangs 695 = .ok (.if_icmp .ne 7, 3) := by decide +kernel
theorem dL_hangs_698 : decode cL_hangs 698 = .ok (.iconst 1, 1) := by decide +kernel
theorem dL_hangs_699 : decode cL_hangs 699 = .ok (.goto 4, 3) := by decide +kernel
theorem dL_hangs_702 : decode cL_hangs 702 = .ok (.iconst 0, 1) := by decide +kernel
theorem dL_hangs_703 : decode cL_hangs 703 = .ok (.iload 15, 2) := by decide +kernel
theorem dL_hangs_705 : decode cL_hangs 705 = .ok (.bipush 9, 2) := by decide +kernel
theorem dL_hangs_707 : decode cL_hangs 707 = .ok (.if_icmp .le 7, 3) := by decide +kernel
theorem dL_hangs_710 : decode cL_hangs 710 = .ok (.iconst 1, 1) := by decide +kernel
theorem dL_hangs_711 : decode cL_hangs 711 = .ok (.goto 4, 3) := by decide +kernel
theorem dL_hangs_714 : decode cL_hangs 714 = .ok (.iconst 0, 1) := by decide +kernel
theorem dL_hangs_715 : decode cL_hangs 715 = .ok (.if_icmp .ne 65, 3) := by decide +kernel
theorem dL_hangs_718 : decode cL_hangs 718 = .ok (.aload_n 0, 1) := by decide +kernel
theorem dL_hangs_719 : decode cL_hangs 719 = .ok (.iload 14, 2) := by decide +kernel
theorem dL_hangs_721 : decode cL_hangs 721 = .ok (.iconst 1, 1) := by decide +kernel
theorem dL_hangs_722 : decode cL_hangs 722 = .ok (.invokevirtual 119, 3) := by decide +kernel
theorem dL_hangs_725 : decode cL_hangs 725 = .ok (.ldc 102, 2) := by decide +kernel
theorem dL_hangs_727 : decode cL_hangs 727 = .ok (.if_icmp .ne 7, 3) := by decide +kernel
theorem dL_hangs_730 : decode cL_hangs 730 = .ok (.iconst 1, 1) := by decide +kernel
theorem dL_hangs_731 : decode cL_hangs 731 = .ok (.goto 4, 3) := by decide +kernel
theorem dL_hangs_734 : decode cL_hangs 734 = .ok (.iconst 0, 1) := by decide +kernel
theorem dL_hangs_735 : decode cL_hangs 735 = .ok (.iload 15, 2) := by decide +kernel
theorem dL_hangs_737 : decode cL_hangs 737 = .ok (.bipush 9, 2) := by decide +kernel
theorem dL_hangs_739 : decode cL_hangs 739 = .ok (.if_icmp .gt 10, 3) := by decide +kernel
theorem dL_hangs_742 : decode cL_hangs 742 = .ok (.iload 15, 2) := by decide +kernel
theorem dL_hangs_744 : decode cL_hangs 744 = .ok (.bipush 7, 2) := by decide +kernel
theorem dL_hangs_746 : decode cL_hangs 746 = .ok (.if_icmp .ne 7, 3) := by decide +kernel
theorem dL_hangs_749 : decode cL_hangs 749 = .ok (.iconst 1, 1) := by decide +kernel
theorem dL_hangs_750 : decode cL_hangs 750 = .ok (.goto 4, 3) := by decide +kernel
theorem dL_hangs_753 : decode cL_hangs 753 = .ok (.iconst 0, 1) := by decide +kernel
theorem dL_hangs_754 : decode cL_hangs 754 = .ok (.if_icmp .ne 26, 3) := by decide +kernel
theorem dL_hangs_757 : decode cL_hangs 757 = .ok (.aload_n 0, 1) := by decide +kernel
theorem dL_hangs_758 : decode cL_hangs 758 = .ok (.iload 14, 2) := by decide +kernel
theorem dL_hangs_760 : decode cL_hangs 760 = .ok (.invokevirtual 122, 3) := by decide +kernel
theorem dL_hangs_763 : decode cL_hangs 763 = .ok (.ifCond .lt 17, 3) := by decide +kernel
theorem dL_hangs_766 : decode cL_hangs 766 = .ok (.aload_n 0, 1) := by decide +kernel
theorem dL_hangs_767 : decode cL_hangs 767 = .ok (.iload 14, 2) := by decide +kernel
theorem dL_hangs_769 : decode cL_hangs 769 = .ok (.invokevirtual 122, 3) := by decide +kernel
theorem dL_hangs_772 : decode cL_hangs 772 = .ok (.iconst 2, 1) := by decide +kernel
theorem dL_hangs_773 : decode cL_hangs 773 = .ok (.if_icmp .ge 7, 3) := by decide +kernel
theorem dL_hangs_776 : decode cL_hangs 776 = .ok (.iconst 1, 1) := by decide +kernel
theorem dL_hangs_777 : decode cL_hangs 777 = .ok (.goto 4, 3) := by decide +kernel
theorem dL_hangs_780 : decode cL_hangs 780 = .ok (.iconst 0, 1) := by decide +kernel
theorem dL_hangs_781 : decode cL_hangs 781 = .ok (.istore 7, 2) := by decide +kernel
theorem dL_hangs_783 : decode cL_hangs 783 = .ok (.iinc 14 1, 3) := by decide +kernel
theorem dL_hangs_786 : decode cL_hangs 786 = .ok (.goto (-132), 3) := by decide +kernel
theorem dL_hangs_789 : decode cL_hangs 789 = .ok (.iload 7, 2) := by decide +kernel
theorem dL_hangs_791 : decode cL_hangs 791 = .ok (.ifCond .eq 17, 3) := by decide +kernel
theorem dL_hangs_794 : decode cL_hangs 794 = .ok (.iload 6, 2) := by decide +kernel
theorem dL_hangs_796 : decode cL_hangs 796 = .ok (.ifCond .eq 8, 3) := by decide +kernel
theorem dL_hangs_799 : decode cL_hangs 799 = .ok (.iload 4, 2) := by decide +kernel
theorem dL_hangs_801 : decode cL_hangs 801 = .ok (.ifCond .ne 7, 3) := by decide +kernel
theorem dL_hangs_804 : decode cL_hangs 804 = .ok (.iconst 1, 1) := by decide +kernel
theorem dL_hangs_805 : decode cL_hangs 805 = .ok (.goto 4, 3) := by decide +kernel
theorem dL_hangs_808 : decode cL_hangs 808 = .ok (.iconst 0, 1) := by decide +kernel
theorem dL_hangs_809 : decode cL_hangs 809 = .ok (.ireturn, 1) := by decide +kernel
set_option maxRecDepth 20000 in
theorem ggL_same_X6_cycle : GoodIn wsL_same wsX6_cycle := goodIn_r _ [5, 6, 249, 250, 251, 252, 253, 254, 255, 256, 257, 258, 259, 260, 261] (by decide +kernel) (by decide +kernel)
