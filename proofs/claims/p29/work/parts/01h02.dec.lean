theorem dL_law_536 : decode cL_law 536 = .ok (.iload 11, 2) := by decide +kernel
theorem dL_law_538 : decode cL_law 538 = .ok (.bipush 20, 2) := by decide +kernel
theorem dL_law_540 : decode cL_law 540 = .ok (.if_icmp .ge 7, 3) := by decide +kernel
theorem dL_law_543 : decode cL_law 543 = .ok (.iconst 4, 1) := by decide +kernel
theorem dL_law_544 : decode cL_law 544 = .ok (.goto 28, 3) := by decide +kernel
theorem dL_law_547 : decode cL_law 547 = .ok (.iload 11, 2) := by decide +kernel
theorem dL_law_549 : decode cL_law 549 = .ok (.bipush 20, 2) := by decide +kernel
theorem dL_law_551 : decode cL_law 551 = .ok (.if_icmp .ne 7, 3) := by decide +kernel
theorem dL_law_554 : decode cL_law 554 = .ok (.iconst 5, 1) := by decide +kernel
theorem dL_law_555 : decode cL_law 555 = .ok (.goto 17, 3) := by decide +kernel
theorem dL_law_558 : decode cL_law 558 = .ok (.iload 11, 2) := by decide +kernel
theorem dL_law_560 : decode cL_law 560 = .ok (.bipush 23, 2) := by decide +kernel
theorem dL_law_562 : decode cL_law 562 = .ok (.if_icmp .ge 8, 3) := by decide +kernel
theorem dL_law_565 : decode cL_law 565 = .ok (.bipush 6, 2) := by decide +kernel
theorem dL_law_567 : decode cL_law 567 = .ok (.goto 5, 3) := by decide +kernel
theorem dL_law_570 : decode cL_law 570 = .ok (.bipush 7, 2) := by decide +kernel
theorem dL_law_572 : decode cL_law 572 = .ok (.iload 14, 2) := by decide +kernel
theorem dL_law_574 : decode cL_law 574 = .ok (.iload 10, 2) := by decide +kernel
theorem dL_law_576 : decode cL_law 576 = .ok (.bipush 24, 2) := by decide +kernel
theorem dL_law_578 : decode cL_law 578 = .ok (.idiv, 1) := by decide +kernel
theorem dL_law_579 : decode cL_law 579 = .ok (.iconst 3, 1) := by decide +kernel
theorem dL_law_580 : decode cL_law 580 = .ok (.irem, 1) := by decide +kernel
theorem dL_law_581 : decode cL_law 581 = .ok (.ifCond .le 7, 3) := by decide +kernel
theorem dL_law_584 : decode cL_law 584 = .ok (.iconst 1, 1) := by decide +kernel
theorem dL_law_585 : decode cL_law 585 = .ok (.goto 4, 3) := by decide +kernel
theorem dL_law_588 : decode cL_law 588 = .ok (.iconst 0, 1) := by decide +kernel
theorem dL_law_589 : decode cL_law 589 = .ok (.invokestatic 160, 3) := by decide +kernel
theorem dL_law_592 : decode cL_law 592 = .ok (.istore 7, 2) := by decide +kernel
theorem dL_law_594 : decode cL_law 594 = .ok (.goto 135, 3) := by decide +kernel
theorem dL_law_597 : decode cL_law 597 = .ok (.iload 11, 2) := by decide +kernel
theorem dL_law_599 : decode cL_law 599 = .ok (.bipush 28, 2) := by decide +kernel
theorem dL_law_601 : decode cL_law 601 = .ok (.if_icmp .ge 50, 3) := by decide +kernel
theorem dL_law_604 : decode cL_law 604 = .ok (.iload 13, 2) := by decide +kernel
theorem dL_law_606 : decode cL_law 606 = .ok (.bipush 35, 2) := by decide +kernel
theorem dL_law_608 : decode cL_law 608 = .ok (.if_icmp .gt 33, 3) := by decide +kernel
theorem dL_law_611 : decode cL_law 611 = .ok (.aload_n 1, 1) := by decide +kernel
theorem dL_law_612 : decode cL_law 612 = .ok (.aload 4, 2) := by decide +kernel
theorem dL_law_614 : decode cL_law 614 = .ok (.aload 5, 2) := by decide +kernel
theorem dL_law_616 : decode cL_law 616 = .ok (.iload 10, 2) := by decide +kernel
theorem dL_law_618 : decode cL_law 618 = .ok (.iconst 3, 1) := by decide +kernel
theorem dL_law_619 : decode cL_law 619 = .ok (.irem, 1) := by decide +kernel
theorem dL_law_620 : decode cL_law 620 = .ok (.ifCond .le 7, 3) := by decide +kernel
theorem dL_law_623 : decode cL_law 623 = .ok (.iconst 0, 1) := by decide +kernel
theorem dL_law_624 : decode cL_law 624 = .ok (.goto 11, 3) := by decide +kernel
theorem dL_law_627 : decode cL_law 627 = .ok (.iload 10, 2) := by decide +kernel
theorem dL_law_629 : decode cL_law 629 = .ok (.iconst 3, 1) := by decide +kernel
theorem dL_law_630 : decode cL_law 630 = .ok (.idiv, 1) := by decide +kernel
theorem dL_law_631 : decode cL_law 631 = .ok (.sipush 300, 3) := by decide +kernel
theorem dL_law_634 : decode cL_law 634 = .ok (.irem, 1) := by decide +kernel
theorem dL_law_635 : decode cL_law 635 = .ok (.invokestatic 164, 3) := by decide +kernel
theorem dL_law_638 : decode cL_law 638 = .ok (.ifCond .eq 7, 3) := by decide +kernel
theorem dL_law_641 : decode cL_law 641 = .ok (.iconst 1, 1) := by decide +kernel
theorem dL_law_642 : decode cL_law 642 = .ok (.goto 4, 3) := by decide +kernel
theorem dL_law_645 : decode cL_law 645 = .ok (.iconst 0, 1) := by decide +kernel
theorem dL_law_646 : decode cL_law 646 = .ok (.istore 7, 2) := by decide +kernel
theorem dL_law_648 : decode cL_law 648 = .ok (.goto 81, 3) := by decide +kernel
theorem dL_law_651 : decode cL_law 651 = .ok (.iload 13, 2) := by decide +kernel
theorem dL_law_653 : decode cL_law 653 = .ok (.ifCond .le 76, 3) := by decide +kernel
theorem dL_law_656 : decode cL_law 656 = .ok (.iload 10, 2) := by decide +kernel
theorem dL_law_658 : decode cL_law 658 = .ok (.iload 13, 2) := by decide +kernel
theorem dL_law_660 : decode cL_law 660 = .ok (.irem, 1) := by decide +kernel
theorem dL_law_661 : decode cL_law 661 = .ok (.istore 15, 2) := by decide +kernel
theorem dL_law_663 : decode cL_law 663 = .ok (.aload_n 1, 1) := by decide +kernel
theorem dL_law_664 : decode cL_law 664 = .ok (.iload 15, 2) := by decide +kernel
theorem dL_law_666 : decode cL_law 666 = .ok (.invokevirtual 76, 3) := by decide +kernel
theorem dL_law_669 : decode cL_law 669 = .ok (.ifCond .ne 7, 3) := by decide +kernel
theorem dL_law_672 : decode cL_law 672 = .ok (.iconst 1, 1) := by decide +kernel
theorem dL_law_673 : decode cL_law 673 = .ok (.goto 4, 3) := by decide +kernel
theorem dL_law_676 : decode cL_law 676 = .ok (.iconst 0, 1) := by decide +kernel
theorem dL_law_677 : decode cL_law 677 = .ok (.istore 16, 2) := by decide +kernel
theorem dL_law_679 : decode cL_law 679 = .ok (.aload_n 1, 1) := by decide +kernel
theorem dL_law_680 : decode cL_law 680 = .ok (.iconst 3, 1) := by decide +kernel
theorem dL_law_681 : decode cL_law 681 = .ok (.iload 15, 2) := by decide +kernel
theorem dL_law_683 : decode cL_law 683 = .ok (.iconst 0, 1) := by decide +kernel
theorem dL_law_684 : decode cL_law 684 = .ok (.iconst 0, 1) := by decide +kernel
theorem dL_law_685 : decode cL_law 685 = .ok (.invokestatic 128, 3) := by decide +kernel
theorem dL_law_688 : decode cL_law 688 = .ok (.iload 16, 2) := by decide +kernel
theorem dL_law_690 : decode cL_law 690 = .ok (.ifCond .eq 12, 3) := by decide +kernel
theorem dL_law_693 : decode cL_law 693 = .ok (.aload_n 1, 1) := by decide +kernel
theorem dL_law_694 : decode cL_law 694 = .ok (.iload 15, 2) := by decide +kernel
theorem dL_law_696 : decode cL_law 696 = .ok (.invokevirtual 73, 3) := by decide +kernel
theorem dL_law_699 : decode cL_law 699 = .ok (.goto 5, 3) := by decide +kernel
theorem dL_law_702 : decode cL_law 702 = .ok (.ldc 50, 2) := by decide +kernel
theorem dL_law_704 : decode cL_law 704 = .ok (.if_icmp .ne 22, 3) := by decide +kernel
theorem dL_law_707 : decode cL_law 707 = .ok (.iload 16, 2) := by decide +kernel
theorem dL_law_709 : decode cL_law 709 = .ok (.ifCond .eq 13, 3) := by decide +kernel
theorem dL_law_712 : decode cL_law 712 = .ok (.aload_n 1, 1) := by decide +kernel
theorem dL_law_713 : decode cL_law 713 = .ok (.iload 15, 2) := by decide +kernel
theorem dL_law_715 : decode cL_law 715 = .ok (.invokevirtual 76, 3) := by decide +kernel
theorem dL_law_718 : decode cL_law 718 = .ok (.iconst 1, 1) := by decide +kernel
theorem dL_law_719 : decode cL_law 719 = .ok (.if_icmp .ne 7, 3) := by decide +kernel
theorem dL_law_722 : decode cL_law 722 = .ok (.iconst 1, 1) := by decide +kernel
theorem dL_law_723 : decode cL_law 723 = .ok (.goto 4, 3) := by decide +kernel
theorem dL_law_726 : decode cL_law 726 = .ok (.iconst 0, 1) := by decide +kernel
theorem dL_law_727 : decode cL_law 727 = .ok (.istore 7, 2) := by decide +kernel
theorem dL_law_729 : decode cL_law 729 = .ok (.iload 7, 2) := by decide +kernel
theorem dL_law_731 : decode cL_law 731 = .ok (.ifCond .eq 61, 3) := by decide +kernel
theorem dL_law_734 : decode cL_law 734 = .ok (.aload_n 1, 1) := by decide +kernel
theorem dL_law_735 : decode cL_law 735 = .ok (.aload_n 2, 1) := by decide +kernel
theorem dL_law_736 : decode cL_law 736 = .ok (.invokestatic 168, 3) := by decide +kernel
theorem dL_law_739 : decode cL_law 739 = .ok (.ifCond .eq 53, 3) := by decide +kernel
theorem dL_law_742 : decode cL_law 742 = .ok (.iload 8, 2) := by decide +kernel
theorem dL_law_744 : decode cL_law 744 = .ok (.bipush 6, 2) := by decide +kernel
theorem dL_law_746 : decode cL_law 746 = .ok (.irem, 1) := by decide +kernel
theorem dL_law_747 : decode cL_law 747 = .ok (.ifCond .gt 21, 3) := by decide +kernel
theorem dL_law_750 : decode cL_law 750 = .ok (.aload_n 1, 1) := by decide +kernel
theorem dL_law_751 : decode cL_law 751 = .ok (.aload_n 2, 1) := by decide +kernel
theorem dL_law_752 : decode cL_law 752 = .ok (.aload 6, 2) := by decide +kernel
theorem dL_law_754 : decode cL_law 754 = .ok (.aload 5, 2) := by decide +kernel
theorem dL_law_756 : decode cL_law 756 = .ok (.iload 10, 2) := by decide +kernel
theorem dL_law_758 : decode cL_law 758 = .ok (.sipush 400, 3) := by decide +kernel
theorem dL_law_761 : decode cL_law 761 = .ok (.irem, 1) := by decide +kernel
theorem dL_law_762 : decode cL_law 762 = .ok (.invokestatic 172, 3) := by decide +kernel
theorem dL_law_765 : decode cL_law 765 = .ok (.ifCond .eq 27, 3) := by decide +kernel
theorem dL_law_768 : decode cL_law 768 = .ok (.iload 8, 2) := by decide +kernel
theorem dL_law_770 : decode cL_law 770 = .ok (.bipush 20, 2) := by decide +kernel
theorem dL_law_772 : decode cL_law 772 = .ok (.irem, 1) := by decide +kernel
theorem dL_law_773 : decode cL_law 773 = .ok (.ifCond .gt 15, 3) := by decide +kernel
theorem dL_law_776 : decode cL_law 776 = .ok (.aload_n 1, 1) := by decide +kernel
theorem dL_law_777 : decode cL_law 777 = .ok (.aload_n 3, 1) := by decide +kernel
theorem dL_law_778 : decode cL_law 778 = .ok (.iload 9, 2) := by decide +kernel
theorem dL_law_780 : decode cL_law 780 = .ok (.iconst 3, 1) := by decide +kernel
theorem dL_law_781 : decode cL_law 781 = .ok (.idiv, 1) := by decide +kernel
theorem dL_law_782 : decode cL_law 782 = .ok (.invokestatic 142, 3) := by decide +kernel
theorem dL_law_785 : decode cL_law 785 = .ok (.ifCond .eq 7, 3) := by decide +kernel
theorem dL_law_788 : decode cL_law 788 = .ok (.iconst 1, 1) := by decide +kernel
theorem dL_law_789 : decode cL_law 789 = .ok (.goto 4, 3) := by decide +kernel
theorem dL_law_792 : decode cL_law 792 = .ok (.iconst 0, 1) := by decide +kernel
theorem dL_law_793 : decode cL_law 793 = .ok (.istore 7, 2) := by decide +kernel
theorem dL_law_795 : decode cL_law 795 = .ok (.iinc 8 1, 3) := by decide +kernel
theorem dL_law_798 : decode cL_law 798 = .ok (.goto (-703), 3) := by decide +kernel
theorem dL_law_801 : decode cL_law 801 = .ok (.iload 7, 2) := by decide +kernel
theorem dL_law_803 : decode cL_law 803 = .ok (.ireturn, 1) := by decide +kernel
