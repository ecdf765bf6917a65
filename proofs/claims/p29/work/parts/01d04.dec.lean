theorem dL_isRefused_602 : decode cL_isRefused 602 = .ok (.bipush 9, 2) := by decide +kernel
theorem dL_isRefused_604 : decode cL_isRefused 604 = .ok (.iload 9, 2) := by decide +kernel
theorem dL_isRefused_606 : decode cL_isRefused 606 = .ok (.iload_n 3, 1) := by decide +kernel
theorem dL_isRefused_607 : decode cL_isRefused 607 = .ok (.ifCond .eq 7, 3) := by decide +kernel
theorem dL_isRefused_610 : decode cL_isRefused 610 = .ok (.iconst (-1), 1) := by decide +kernel
theorem dL_isRefused_611 : decode cL_isRefused 611 = .ok (.goto 5, 3) := by decide +kernel
theorem dL_isRefused_614 : decode cL_isRefused 614 = .ok (.ldc 136, 2) := by decide +kernel
theorem dL_isRefused_616 : decode cL_isRefused 616 = .ok (.invokestatic 137, 3) := by decide +kernel
theorem dL_isRefused_619 : decode cL_isRefused 619 = .ok (.ldc 47, 2) := by decide +kernel
theorem dL_isRefused_621 : decode cL_isRefused 621 = .ok (.if_icmp .ne 101, 3) := by decide +kernel
theorem dL_isRefused_624 : decode cL_isRefused 624 = .ok (.iload 10, 2) := by decide +kernel
theorem dL_isRefused_626 : decode cL_isRefused 626 = .ok (.iconst 1, 1) := by decide +kernel
theorem dL_isRefused_627 : decode cL_isRefused 627 = .ok (.if_icmp .eq 17, 3) := by decide +kernel
theorem dL_isRefused_630 : decode cL_isRefused 630 = .ok (.aload_n 0, 1) := by decide +kernel
theorem dL_isRefused_631 : decode cL_isRefused 631 = .ok (.iconst 4, 1) := by decide +kernel
theorem dL_isRefused_632 : decode cL_isRefused 632 = .ok (.iload 9, 2) := by decide +kernel
theorem dL_isRefused_634 : decode cL_isRefused 634 = .ok (.iconst 0, 1) := by decide +kernel
theorem dL_isRefused_635 : decode cL_isRefused 635 = .ok (.iconst 0, 1) := by decide +kernel
theorem dL_isRefused_636 : decode cL_isRefused 636 = .ok (.invokestatic 128, 3) := by decide +kernel
theorem dL_isRefused_639 : decode cL_isRefused 639 = .ok (.ldc 50, 2) := by decide +kernel
theorem dL_isRefused_641 : decode cL_isRefused 641 = .ok (.if_icmp .ne 81, 3) := by decide +kernel
theorem dL_isRefused_644 : decode cL_isRefused 644 = .ok (.iload 10, 2) := by decide +kernel
theorem dL_isRefused_646 : decode cL_isRefused 646 = .ok (.iconst 2, 1) := by decide +kernel
theorem dL_isRefused_647 : decode cL_isRefused 647 = .ok (.if_icmp .lt 17, 3) := by decide +kernel
theorem dL_isRefused_650 : decode cL_isRefused 650 = .ok (.aload_n 0, 1) := by decide +kernel
theorem dL_isRefused_651 : decode cL_isRefused 651 = .ok (.iconst 5, 1) := by decide +kernel
theorem dL_isRefused_652 : decode cL_isRefused 652 = .ok (.iload 9, 2) := by decide +kernel
theorem dL_isRefused_654 : decode cL_isRefused 654 = .ok (.iconst 0, 1) := by decide +kernel
theorem dL_isRefused_655 : decode cL_isRefused 655 = .ok (.iconst 0, 1) := by decide +kernel
theorem dL_isRefused_656 : decode cL_isRefused 656 = .ok (.invokestatic 128, 3) := by decide +kernel
theorem dL_isRefused_659 : decode cL_isRefused 659 = .ok (.ldc 50, 2) := by decide +kernel
theorem dL_isRefused_661 : decode cL_isRefused 661 = .ok (.if_icmp .ne 61, 3) := by decide +kernel
theorem dL_isRefused_664 : decode cL_isRefused 664 = .ok (.iload 10, 2) := by decide +kernel
theorem dL_isRefused_666 : decode cL_isRefused 666 = .ok (.iconst 2, 1) := by decide +kernel
theorem dL_isRefused_667 : decode cL_isRefused 667 = .ok (.if_icmp .ne 15, 3) := by decide +kernel
theorem dL_isRefused_670 : decode cL_isRefused 670 = .ok (.aload_n 1, 1) := by decide +kernel
theorem dL_isRefused_671 : decode cL_isRefused 671 = .ok (.bipush 24, 2) := by decide +kernel
theorem dL_isRefused_673 : decode cL_isRefused 673 = .ok (.iaload, 1) := by decide +kernel
theorem dL_isRefused_674 : decode cL_isRefused 674 = .ok (.iload 9, 2) := by decide +kernel
theorem dL_isRefused_676 : decode cL_isRefused 676 = .ok (.ishr, 1) := by decide +kernel
theorem dL_isRefused_677 : decode cL_isRefused 677 = .ok (.iconst 1, 1) := by decide +kernel
theorem dL_isRefused_678 : decode cL_isRefused 678 = .ok (.iand, 1) := by decide +kernel
theorem dL_isRefused_679 : decode cL_isRefused 679 = .ok (.ifCond .eq 18, 3) := by decide +kernel
theorem dL_isRefused_682 : decode cL_isRefused 682 = .ok (.aload_n 0, 1) := by decide +kernel
theorem dL_isRefused_683 : decode cL_isRefused 683 = .ok (.bipush 6, 2) := by decide +kernel
theorem dL_isRefused_685 : decode cL_isRefused 685 = .ok (.iload 9, 2) := by decide +kernel
theorem dL_isRefused_687 : decode cL_isRefused 687 = .ok (.iconst 0, 1) := by decide +kernel
theorem dL_isRefused_688 : decode cL_isRefused 688 = .ok (.iconst 0, 1) := by decide +kernel
theorem dL_isRefused_689 : decode cL_isRefused 689 = .ok (.invokestatic 128, 3) := by decide +kernel
theorem dL_isRefused_692 : decode cL_isRefused 692 = .ok (.ldc 50, 2) := by decide +kernel
theorem dL_isRefused_694 : decode cL_isRefused 694 = .ok (.if_icmp .ne 28, 3) := by decide +kernel
theorem dL_isRefused_697 : decode cL_isRefused 697 = .ok (.iload 10, 2) := by decide +kernel
theorem dL_isRefused_699 : decode cL_isRefused 699 = .ok (.iconst 3, 1) := by decide +kernel
theorem dL_isRefused_700 : decode cL_isRefused 700 = .ok (.if_icmp .eq 18, 3) := by decide +kernel
theorem dL_isRefused_703 : decode cL_isRefused 703 = .ok (.aload_n 0, 1) := by decide +kernel
theorem dL_isRefused_704 : decode cL_isRefused 704 = .ok (.bipush 7, 2) := by decide +kernel
theorem dL_isRefused_706 : decode cL_isRefused 706 = .ok (.iload 9, 2) := by decide +kernel
theorem dL_isRefused_708 : decode cL_isRefused 708 = .ok (.iconst 0, 1) := by decide +kernel
theorem dL_isRefused_709 : decode cL_isRefused 709 = .ok (.iconst 0, 1) := by decide +kernel
theorem dL_isRefused_710 : decode cL_isRefused 710 = .ok (.invokestatic 128, 3) := by decide +kernel
theorem dL_isRefused_713 : decode cL_isRefused 713 = .ok (.ldc 50, 2) := by decide +kernel
theorem dL_isRefused_715 : decode cL_isRefused 715 = .ok (.if_icmp .ne 7, 3) := by decide +kernel
theorem dL_isRefused_718 : decode cL_isRefused 718 = .ok (.iconst 1, 1) := by decide +kernel
theorem dL_isRefused_719 : decode cL_isRefused 719 = .ok (.goto 4, 3) := by decide +kernel
theorem dL_isRefused_722 : decode cL_isRefused 722 = .ok (.iconst 0, 1) := by decide +kernel
theorem dL_isRefused_723 : decode cL_isRefused 723 = .ok (.istore 8, 2) := by decide +kernel
theorem dL_isRefused_725 : decode cL_isRefused 725 = .ok (.iinc 9 1, 3) := by decide +kernel
theorem dL_isRefused_728 : decode cL_isRefused 728 = .ok (.goto (-172), 3) := by decide +kernel
theorem dL_isRefused_731 : decode cL_isRefused 731 = .ok (.iconst 0, 1) := by decide +kernel
theorem dL_isRefused_732 : decode cL_isRefused 732 = .ok (.istore 9, 2) := by decide +kernel
theorem dL_isRefused_734 : decode cL_isRefused 734 = .ok (.iload 9, 2) := by decide +kernel
theorem dL_isRefused_736 : decode cL_isRefused 736 = .ok (.aload_n 0, 1) := by decide +kernel
theorem dL_isRefused_737 : decode cL_isRefused 737 = .ok (.invokevirtual 112, 3) := by decide +kernel
theorem dL_isRefused_740 : decode cL_isRefused 740 = .ok (.if_icmp .ge 44, 3) := by decide +kernel
theorem dL_isRefused_743 : decode cL_isRefused 743 = .ok (.iload 8, 2) := by decide +kernel
theorem dL_isRefused_745 : decode cL_isRefused 745 = .ok (.ifCond .eq 39, 3) := by decide +kernel
theorem dL_isRefused_748 : decode cL_isRefused 748 = .ok (.aload_n 0, 1) := by decide +kernel
theorem dL_isRefused_749 : decode cL_isRefused 749 = .ok (.iload 9, 2) := by decide +kernel
theorem dL_isRefused_751 : decode cL_isRefused 751 = .ok (.invokevirtual 76, 3) := by decide +kernel
theorem dL_isRefused_754 : decode cL_isRefused 754 = .ok (.ifCond .eq 17, 3) := by decide +kernel
theorem dL_isRefused_757 : decode cL_isRefused 757 = .ok (.aload_n 0, 1) := by decide +kernel
theorem dL_isRefused_758 : decode cL_isRefused 758 = .ok (.iconst 3, 1) := by decide +kernel
theorem dL_isRefused_759 : decode cL_isRefused 759 = .ok (.iload 9, 2) := by decide +kernel
theorem dL_isRefused_761 : decode cL_isRefused 761 = .ok (.iconst 0, 1) := by decide +kernel
theorem dL_isRefused_762 : decode cL_isRefused 762 = .ok (.iconst 0, 1) := by decide +kernel
theorem dL_isRefused_763 : decode cL_isRefused 763 = .ok (.invokestatic 128, 3) := by decide +kernel
theorem dL_isRefused_766 : decode cL_isRefused 766 = .ok (.ldc 50, 2) := by decide +kernel
theorem dL_isRefused_768 : decode cL_isRefused 768 = .ok (.if_icmp .ne 7, 3) := by decide +kernel
theorem dL_isRefused_771 : decode cL_isRefused 771 = .ok (.iconst 1, 1) := by decide +kernel
theorem dL_isRefused_772 : decode cL_isRefused 772 = .ok (.goto 4, 3) := by decide +kernel
theorem dL_isRefused_775 : decode cL_isRefused 775 = .ok (.iconst 0, 1) := by decide +kernel
theorem dL_isRefused_776 : decode cL_isRefused 776 = .ok (.istore 8, 2) := by decide +kernel
theorem dL_isRefused_778 : decode cL_isRefused 778 = .ok (.iinc 9 1, 3) := by decide +kernel
theorem dL_isRefused_781 : decode cL_isRefused 781 = .ok (.goto (-47), 3) := by decide +kernel
theorem dL_isRefused_784 : decode cL_isRefused 784 = .ok (.iload 8, 2) := by decide +kernel
theorem dL_isRefused_786 : decode cL_isRefused 786 = .ok (.ifCond .eq 17, 3) := by decide +kernel
theorem dL_isRefused_789 : decode cL_isRefused 789 = .ok (.aload_n 0, 1) := by decide +kernel
theorem dL_isRefused_790 : decode cL_isRefused 790 = .ok (.invokestatic 123, 3) := by decide +kernel
theorem dL_isRefused_793 : decode cL_isRefused 793 = .ok (.lload 6, 2) := by decide +kernel
theorem dL_isRefused_795 : decode cL_isRefused 795 = .ok (.lcmp, 1) := by decide +kernel
theorem dL_isRefused_796 : decode cL_isRefused 796 = .ok (.ifCond .ne 7, 3) := by decide +kernel
theorem dL_isRefused_799 : decode cL_isRefused 799 = .ok (.iconst 1, 1) := by decide +kernel
theorem dL_isRefused_800 : decode cL_isRefused 800 = .ok (.goto 4, 3) := by decide +kernel
theorem dL_isRefused_803 : decode cL_isRefused 803 = .ok (.iconst 0, 1) := by decide +kernel
theorem dL_isRefused_804 : decode cL_isRefused 804 = .ok (.ireturn, 1) := by decide +kernel
