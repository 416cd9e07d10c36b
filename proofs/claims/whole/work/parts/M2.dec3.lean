theorem d_L_law_638 : decode code 638 = .ok (.invokestatic 106, 3) := by decide +kernel
theorem d_L_law_641 : decode code 641 = .ok (.istore 6, 2) := by decide +kernel
theorem d_L_law_643 : decode code 643 = .ok (.aload_n 2, 1) := by decide +kernel
theorem d_L_law_644 : decode code 644 = .ok (.invokevirtual 108, 3) := by decide +kernel
theorem d_L_law_647 : decode code 647 = .ok (.istore 7, 2) := by decide +kernel
theorem d_L_law_649 : decode code 649 = .ok (.aload_n 2, 1) := by decide +kernel
theorem d_L_law_650 : decode code 650 = .ok (.invokevirtual 78, 3) := by decide +kernel
theorem d_L_law_653 : decode code 653 = .ok (.iload 6, 2) := by decide +kernel
theorem d_L_law_655 : decode code 655 = .ok (.if_icmp .eq 5, 3) := by decide +kernel
theorem d_L_law_658 : decode code 658 = .ok (.iconst 0, 1) := by decide +kernel
theorem d_L_law_659 : decode code 659 = .ok (.ireturn, 1) := by decide +kernel
theorem d_L_law_660 : decode code 660 = .ok (.iload 6, 2) := by decide +kernel
theorem d_L_law_662 : decode code 662 = .ok (.ifCond .ne 15, 3) := by decide +kernel
theorem d_L_law_665 : decode code 665 = .ok (.aload_n 3, 1) := by decide +kernel
theorem d_L_law_666 : decode code 666 = .ok (.iconst 0, 1) := by decide +kernel
theorem d_L_law_667 : decode code 667 = .ok (.laload, 1) := by decide +kernel
theorem d_L_law_668 : decode code 668 = .ok (.iload 7, 2) := by decide +kernel
theorem d_L_law_670 : decode code 670 = .ok (.i2l, 1) := by decide +kernel
theorem d_L_law_671 : decode code 671 = .ok (.lcmp, 1) := by decide +kernel
theorem d_L_law_672 : decode code 672 = .ok (.ifCond .eq 5, 3) := by decide +kernel
theorem d_L_law_675 : decode code 675 = .ok (.iconst 0, 1) := by decide +kernel
theorem d_L_law_676 : decode code 676 = .ok (.ireturn, 1) := by decide +kernel
theorem d_L_law_677 : decode code 677 = .ok (.goto 334, 3) := by decide +kernel
theorem d_L_law_680 : decode code 680 = .ok (.aload_n 1, 1) := by decide +kernel
theorem d_L_law_681 : decode code 681 = .ok (.aload_n 0, 1) := by decide +kernel
theorem d_L_law_682 : decode code 682 = .ok (.iload 5, 2) := by decide +kernel
theorem d_L_law_684 : decode code 684 = .ok (.iconst 1, 1) := by decide +kernel
theorem d_L_law_685 : decode code 685 = .ok (.iadd, 1) := by decide +kernel
theorem d_L_law_686 : decode code 686 = .ok (.iaload, 1) := by decide +kernel
theorem d_L_law_687 : decode code 687 = .ok (.aload 4, 2) := by decide +kernel
theorem d_L_law_689 : decode code 689 = .ok (.invokestatic 109, 3) := by decide +kernel
theorem d_L_law_692 : decode code 692 = .ok (.istore 6, 2) := by decide +kernel
theorem d_L_law_694 : decode code 694 = .ok (.aload_n 2, 1) := by decide +kernel
theorem d_L_law_695 : decode code 695 = .ok (.aload_n 0, 1) := by decide +kernel
theorem d_L_law_696 : decode code 696 = .ok (.iload 5, 2) := by decide +kernel
theorem d_L_law_698 : decode code 698 = .ok (.iconst 1, 1) := by decide +kernel
theorem d_L_law_699 : decode code 699 = .ok (.iadd, 1) := by decide +kernel
theorem d_L_law_700 : decode code 700 = .ok (.iaload, 1) := by decide +kernel
theorem d_L_law_701 : decode code 701 = .ok (.invokevirtual 112, 3) := by decide +kernel
theorem d_L_law_704 : decode code 704 = .ok (.dstore 7, 2) := by decide +kernel
theorem d_L_law_706 : decode code 706 = .ok (.aload_n 2, 1) := by decide +kernel
theorem d_L_law_707 : decode code 707 = .ok (.invokevirtual 78, 3) := by decide +kernel
theorem d_L_law_710 : decode code 710 = .ok (.iload 6, 2) := by decide +kernel
theorem d_L_law_712 : decode code 712 = .ok (.if_icmp .eq 5, 3) := by decide +kernel
theorem d_L_law_715 : decode code 715 = .ok (.iconst 0, 1) := by decide +kernel
theorem d_L_law_716 : decode code 716 = .ok (.ireturn, 1) := by decide +kernel
theorem d_L_law_717 : decode code 717 = .ok (.iload 6, 2) := by decide +kernel
theorem d_L_law_719 : decode code 719 = .ok (.ifCond .ne 35, 3) := by decide +kernel
theorem d_L_law_722 : decode code 722 = .ok (.aload 4, 2) := by decide +kernel
theorem d_L_law_724 : decode code 724 = .ok (.iconst 0, 1) := by decide +kernel
theorem d_L_law_725 : decode code 725 = .ok (.daload, 1) := by decide +kernel
theorem d_L_law_726 : decode code 726 = .ok (.dload 7, 2) := by decide +kernel
theorem d_L_law_728 : decode code 728 = .ok (.dcmp .l, 1) := by decide +kernel
theorem d_L_law_729 : decode code 729 = .ok (.ifCond .eq 25, 3) := by decide +kernel
theorem d_L_law_732 : decode code 732 = .ok (.aload 4, 2) := by decide +kernel
theorem d_L_law_734 : decode code 734 = .ok (.iconst 0, 1) := by decide +kernel
theorem d_L_law_735 : decode code 735 = .ok (.daload, 1) := by decide +kernel
theorem d_L_law_736 : decode code 736 = .ok (.aload 4, 2) := by decide +kernel
theorem d_L_law_738 : decode code 738 = .ok (.iconst 0, 1) := by decide +kernel
theorem d_L_law_739 : decode code 739 = .ok (.daload, 1) := by decide +kernel
theorem d_L_law_740 : decode code 740 = .ok (.dcmp .l, 1) := by decide +kernel
theorem d_L_law_741 : decode code 741 = .ok (.ifCond .eq 11, 3) := by decide +kernel
theorem d_L_law_744 : decode code 744 = .ok (.dload 7, 2) := by decide +kernel
theorem d_L_law_746 : decode code 746 = .ok (.dload 7, 2) := by decide +kernel
theorem d_L_law_748 : decode code 748 = .ok (.dcmp .l, 1) := by decide +kernel
theorem d_L_law_749 : decode code 749 = .ok (.ifCond .ne 5, 3) := by decide +kernel
theorem d_L_law_752 : decode code 752 = .ok (.iconst 0, 1) := by decide +kernel
theorem d_L_law_753 : decode code 753 = .ok (.ireturn, 1) := by decide +kernel
theorem d_L_law_754 : decode code 754 = .ok (.goto 257, 3) := by decide +kernel
theorem d_L_law_757 : decode code 757 = .ok (.aload_n 1, 1) := by decide +kernel
theorem d_L_law_758 : decode code 758 = .ok (.aload_n 0, 1) := by decide +kernel
theorem d_L_law_759 : decode code 759 = .ok (.iload 5, 2) := by decide +kernel
theorem d_L_law_761 : decode code 761 = .ok (.iconst 1, 1) := by decide +kernel
theorem d_L_law_762 : decode code 762 = .ok (.iadd, 1) := by decide +kernel
theorem d_L_law_763 : decode code 763 = .ok (.iaload, 1) := by decide +kernel
theorem d_L_law_764 : decode code 764 = .ok (.aload_n 0, 1) := by decide +kernel
theorem d_L_law_765 : decode code 765 = .ok (.iload 5, 2) := by decide +kernel
theorem d_L_law_767 : decode code 767 = .ok (.iconst 2, 1) := by decide +kernel
theorem d_L_law_768 : decode code 768 = .ok (.iadd, 1) := by decide +kernel
theorem d_L_law_769 : decode code 769 = .ok (.iaload, 1) := by decide +kernel
theorem d_L_law_770 : decode code 770 = .ok (.aload 4, 2) := by decide +kernel
theorem d_L_law_772 : decode code 772 = .ok (.invokestatic 113, 3) := by decide +kernel
theorem d_L_law_775 : decode code 775 = .ok (.istore 6, 2) := by decide +kernel
theorem d_L_law_777 : decode code 777 = .ok (.aload_n 2, 1) := by decide +kernel
theorem d_L_law_778 : decode code 778 = .ok (.aload_n 0, 1) := by decide +kernel
theorem d_L_law_779 : decode code 779 = .ok (.iload 5, 2) := by decide +kernel
theorem d_L_law_781 : decode code 781 = .ok (.iconst 1, 1) := by decide +kernel
theorem d_L_law_782 : decode code 782 = .ok (.iadd, 1) := by decide +kernel
theorem d_L_law_783 : decode code 783 = .ok (.iaload, 1) := by decide +kernel
theorem d_L_law_784 : decode code 784 = .ok (.aload_n 0, 1) := by decide +kernel
theorem d_L_law_785 : decode code 785 = .ok (.iload 5, 2) := by decide +kernel
theorem d_L_law_787 : decode code 787 = .ok (.iconst 2, 1) := by decide +kernel
theorem d_L_law_788 : decode code 788 = .ok (.iadd, 1) := by decide +kernel
theorem d_L_law_789 : decode code 789 = .ok (.iaload, 1) := by decide +kernel
theorem d_L_law_790 : decode code 790 = .ok (.invokevirtual 116, 3) := by decide +kernel
theorem d_L_law_793 : decode code 793 = .ok (.dstore 7, 2) := by decide +kernel
theorem d_L_law_795 : decode code 795 = .ok (.aload_n 2, 1) := by decide +kernel
theorem d_L_law_796 : decode code 796 = .ok (.invokevirtual 78, 3) := by decide +kernel
theorem d_L_law_799 : decode code 799 = .ok (.iload 6, 2) := by decide +kernel
theorem d_L_law_801 : decode code 801 = .ok (.if_icmp .eq 5, 3) := by decide +kernel
theorem d_L_law_804 : decode code 804 = .ok (.iconst 0, 1) := by decide +kernel
theorem d_L_law_805 : decode code 805 = .ok (.ireturn, 1) := by decide +kernel
theorem d_L_law_806 : decode code 806 = .ok (.iload 6, 2) := by decide +kernel
theorem d_L_law_808 : decode code 808 = .ok (.ifCond .ne 35, 3) := by decide +kernel
theorem d_L_law_811 : decode code 811 = .ok (.aload 4, 2) := by decide +kernel
theorem d_L_law_813 : decode code 813 = .ok (.iconst 0, 1) := by decide +kernel
theorem d_L_law_814 : decode code 814 = .ok (.daload, 1) := by decide +kernel
theorem d_L_law_815 : decode code 815 = .ok (.dload 7, 2) := by decide +kernel
theorem d_L_law_817 : decode code 817 = .ok (.dcmp .l, 1) := by decide +kernel
theorem d_L_law_818 : decode code 818 = .ok (.ifCond .eq 25, 3) := by decide +kernel
theorem d_L_law_821 : decode code 821 = .ok (.aload 4, 2) := by decide +kernel
theorem d_L_law_823 : decode code 823 = .ok (.iconst 0, 1) := by decide +kernel
theorem d_L_law_824 : decode code 824 = .ok (.daload, 1) := by decide +kernel
theorem d_L_law_825 : decode code 825 = .ok (.aload 4, 2) := by decide +kernel
theorem d_L_law_827 : decode code 827 = .ok (.iconst 0, 1) := by decide +kernel
theorem d_L_law_828 : decode code 828 = .ok (.daload, 1) := by decide +kernel
theorem d_L_law_829 : decode code 829 = .ok (.dcmp .l, 1) := by decide +kernel
theorem d_L_law_830 : decode code 830 = .ok (.ifCond .eq 11, 3) := by decide +kernel
theorem d_L_law_833 : decode code 833 = .ok (.dload 7, 2) := by decide +kernel
theorem d_L_law_835 : decode code 835 = .ok (.dload 7, 2) := by decide +kernel
