theorem dL_law_607 : decode code 607 = .ok (.iconst 2, 1) := by decide +kernel
theorem dL_law_608 : decode code 608 = .ok (.invokevirtual 70, 3) := by decide +kernel
theorem dL_law_611 : decode code 611 = .ok (.bipush (-3), 2) := by decide +kernel
theorem dL_law_613 : decode code 613 = .ok (.if_icmp .ne 18, 3) := by decide +kernel
theorem dL_law_616 : decode code 616 = .ok (.aload_n 1, 1) := by decide +kernel
theorem dL_law_617 : decode code 617 = .ok (.iconst 2, 1) := by decide +kernel
theorem dL_law_618 : decode code 618 = .ok (.iconst 0, 1) := by decide +kernel
theorem dL_law_619 : decode code 619 = .ok (.invokevirtual 73, 3) := by decide +kernel
theorem dL_law_622 : decode code 622 = .ok (.bipush (-3), 2) := by decide +kernel
theorem dL_law_624 : decode code 624 = .ok (.if_icmp .ne 7, 3) := by decide +kernel
theorem dL_law_627 : decode code 627 = .ok (.iconst 1, 1) := by decide +kernel
theorem dL_law_628 : decode code 628 = .ok (.goto 4, 3) := by decide +kernel
theorem dL_law_631 : decode code 631 = .ok (.iconst 0, 1) := by decide +kernel
theorem dL_law_632 : decode code 632 = .ok (.ireturn, 1) := by decide +kernel
theorem dL_law_633 : decode code 633 = .ok (.aload_n 0, 1) := by decide +kernel
theorem dL_law_634 : decode code 634 = .ok (.bipush 7, 2) := by decide +kernel
theorem dL_law_636 : decode code 636 = .ok (.iconst 2, 1) := by decide +kernel
theorem dL_law_637 : decode code 637 = .ok (.invokestatic 14, 3) := by decide +kernel
theorem dL_law_640 : decode code 640 = .ok (.istore 13, 2) := by decide +kernel
theorem dL_law_642 : decode code 642 = .ok (.iload 13, 2) := by decide +kernel
theorem dL_law_644 : decode code 644 = .ok (.iconst 1, 1) := by decide +kernel
theorem dL_law_645 : decode code 645 = .ok (.if_icmp .ne 7, 3) := by decide +kernel
theorem dL_law_648 : decode code 648 = .ok (.iconst 2, 1) := by decide +kernel
theorem dL_law_649 : decode code 649 = .ok (.goto 4, 3) := by decide +kernel
theorem dL_law_652 : decode code 652 = .ok (.iconst 3, 1) := by decide +kernel
theorem dL_law_653 : decode code 653 = .ok (.istore 14, 2) := by decide +kernel
theorem dL_law_655 : decode code 655 = .ok (.aload_n 1, 1) := by decide +kernel
theorem dL_law_656 : decode code 656 = .ok (.iload 14, 2) := by decide +kernel
theorem dL_law_658 : decode code 658 = .ok (.iload 13, 2) := by decide +kernel
theorem dL_law_660 : decode code 660 = .ok (.invokevirtual 73, 3) := by decide +kernel
theorem dL_law_663 : decode code 663 = .ok (.ifCond .ne 23, 3) := by decide +kernel
theorem dL_law_666 : decode code 666 = .ok (.aload_n 1, 1) := by decide +kernel
theorem dL_law_667 : decode code 667 = .ok (.iconst 0, 1) := by decide +kernel
theorem dL_law_668 : decode code 668 = .ok (.invokevirtual 76, 3) := by decide +kernel
theorem dL_law_671 : decode code 671 = .ok (.bipush (-3), 2) := by decide +kernel
theorem dL_law_673 : decode code 673 = .ok (.if_icmp .ne 13, 3) := by decide +kernel
theorem dL_law_676 : decode code 676 = .ok (.aload_n 1, 1) := by decide +kernel
theorem dL_law_677 : decode code 677 = .ok (.iconst 0, 1) := by decide +kernel
theorem dL_law_678 : decode code 678 = .ok (.iconst 1, 1) := by decide +kernel
theorem dL_law_679 : decode code 679 = .ok (.invokevirtual 79, 3) := by decide +kernel
theorem dL_law_682 : decode code 682 = .ok (.iconst 1, 1) := by decide +kernel
theorem dL_law_683 : decode code 683 = .ok (.if_icmp .eq 5, 3) := by decide +kernel
theorem dL_law_686 : decode code 686 = .ok (.iconst 0, 1) := by decide +kernel
theorem dL_law_687 : decode code 687 = .ok (.ireturn, 1) := by decide +kernel
theorem dL_law_688 : decode code 688 = .ok (.iload 13, 2) := by decide +kernel
theorem dL_law_690 : decode code 690 = .ok (.ifCond .ne 210, 3) := by decide +kernel
theorem dL_law_693 : decode code 693 = .ok (.iload 4, 2) := by decide +kernel
theorem dL_law_695 : decode code 695 = .ok (.ldc 82, 2) := by decide +kernel
theorem dL_law_697 : decode code 697 = .ok (.iadd, 1) := by decide +kernel
theorem dL_law_698 : decode code 698 = .ok (.ldc 83, 2) := by decide +kernel
theorem dL_law_700 : decode code 700 = .ok (.if_icmp .le 8, 3) := by decide +kernel
theorem dL_law_703 : decode code 703 = .ok (.ldc 83, 2) := by decide +kernel
theorem dL_law_705 : decode code 705 = .ok (.goto 8, 3) := by decide +kernel
theorem dL_law_708 : decode code 708 = .ok (.iload 4, 2) := by decide +kernel
theorem dL_law_710 : decode code 710 = .ok (.ldc 82, 2) := by decide +kernel
theorem dL_law_712 : decode code 712 = .ok (.iadd, 1) := by decide +kernel
theorem dL_law_713 : decode code 713 = .ok (.istore 15, 2) := by decide +kernel
theorem dL_law_715 : decode code 715 = .ok (.aload_n 1, 1) := by decide +kernel
theorem dL_law_716 : decode code 716 = .ok (.iconst 0, 1) := by decide +kernel
theorem dL_law_717 : decode code 717 = .ok (.invokevirtual 76, 3) := by decide +kernel
theorem dL_law_720 : decode code 720 = .ok (.iconst 1, 1) := by decide +kernel
theorem dL_law_721 : decode code 721 = .ok (.if_icmp .ne 119, 3) := by decide +kernel
theorem dL_law_724 : decode code 724 = .ok (.aload_n 1, 1) := by decide +kernel
theorem dL_law_725 : decode code 725 = .ok (.iconst 3, 1) := by decide +kernel
theorem dL_law_726 : decode code 726 = .ok (.iconst 3, 1) := by decide +kernel
theorem dL_law_727 : decode code 727 = .ok (.invokevirtual 20, 3) := by decide +kernel
theorem dL_law_730 : decode code 730 = .ok (.iload 15, 2) := by decide +kernel
theorem dL_law_732 : decode code 732 = .ok (.if_icmp .ne 108, 3) := by decide +kernel
theorem dL_law_735 : decode code 735 = .ok (.aload_n 1, 1) := by decide +kernel
theorem dL_law_736 : decode code 736 = .ok (.iconst 2, 1) := by decide +kernel
theorem dL_law_737 : decode code 737 = .ok (.iconst 3, 1) := by decide +kernel
theorem dL_law_738 : decode code 738 = .ok (.invokevirtual 20, 3) := by decide +kernel
theorem dL_law_741 : decode code 741 = .ok (.iload_n 3, 1) := by decide +kernel
theorem dL_law_742 : decode code 742 = .ok (.iload 15, 2) := by decide +kernel
theorem dL_law_744 : decode code 744 = .ok (.if_icmp .le 7, 3) := by decide +kernel
theorem dL_law_747 : decode code 747 = .ok (.iload_n 3, 1) := by decide +kernel
theorem dL_law_748 : decode code 748 = .ok (.goto 5, 3) := by decide +kernel
theorem dL_law_751 : decode code 751 = .ok (.iload 15, 2) := by decide +kernel
theorem dL_law_753 : decode code 753 = .ok (.if_icmp .ne 87, 3) := by decide +kernel
theorem dL_law_756 : decode code 756 = .ok (.aload_n 1, 1) := by decide +kernel
theorem dL_law_757 : decode code 757 = .ok (.iconst 1, 1) := by decide +kernel
theorem dL_law_758 : decode code 758 = .ok (.iconst 3, 1) := by decide +kernel
theorem dL_law_759 : decode code 759 = .ok (.invokevirtual 20, 3) := by decide +kernel
theorem dL_law_762 : decode code 762 = .ok (.iload_n 2, 1) := by decide +kernel
theorem dL_law_763 : decode code 763 = .ok (.iload 15, 2) := by decide +kernel
theorem dL_law_765 : decode code 765 = .ok (.if_icmp .le 7, 3) := by decide +kernel
theorem dL_law_768 : decode code 768 = .ok (.iload_n 2, 1) := by decide +kernel
theorem dL_law_769 : decode code 769 = .ok (.goto 5, 3) := by decide +kernel
theorem dL_law_772 : decode code 772 = .ok (.iload 15, 2) := by decide +kernel
theorem dL_law_774 : decode code 774 = .ok (.if_icmp .ne 66, 3) := by decide +kernel
theorem dL_law_777 : decode code 777 = .ok (.aload_n 1, 1) := by decide +kernel
theorem dL_law_778 : decode code 778 = .ok (.iconst 0, 1) := by decide +kernel
theorem dL_law_779 : decode code 779 = .ok (.iconst 3, 1) := by decide +kernel
theorem dL_law_780 : decode code 780 = .ok (.invokevirtual 20, 3) := by decide +kernel
theorem dL_law_783 : decode code 783 = .ok (.ldc 83, 2) := by decide +kernel
theorem dL_law_785 : decode code 785 = .ok (.if_icmp .ne 55, 3) := by decide +kernel
theorem dL_law_788 : decode code 788 = .ok (.aload_n 1, 1) := by decide +kernel
theorem dL_law_789 : decode code 789 = .ok (.iconst 3, 1) := by decide +kernel
theorem dL_law_790 : decode code 790 = .ok (.bipush 8, 2) := by decide +kernel
theorem dL_law_792 : decode code 792 = .ok (.invokevirtual 20, 3) := by decide +kernel
theorem dL_law_795 : decode code 795 = .ok (.ifCond .ne 45, 3) := by decide +kernel
theorem dL_law_798 : decode code 798 = .ok (.aload_n 1, 1) := by decide +kernel
theorem dL_law_799 : decode code 799 = .ok (.iconst 2, 1) := by decide +kernel
theorem dL_law_800 : decode code 800 = .ok (.bipush 8, 2) := by decide +kernel
theorem dL_law_802 : decode code 802 = .ok (.invokevirtual 20, 3) := by decide +kernel
theorem dL_law_805 : decode code 805 = .ok (.sipush 500, 3) := by decide +kernel
theorem dL_law_808 : decode code 808 = .ok (.if_icmp .ne 32, 3) := by decide +kernel
theorem dL_law_811 : decode code 811 = .ok (.aload_n 1, 1) := by decide +kernel
theorem dL_law_812 : decode code 812 = .ok (.iconst 0, 1) := by decide +kernel
theorem dL_law_813 : decode code 813 = .ok (.invokevirtual 84, 3) := by decide +kernel
