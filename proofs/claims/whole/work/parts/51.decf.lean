theorem d_L_law_706 : decode mb_L_law 706 = .ok (.aload_n 0, 1) := by decide +kernel
theorem d_L_law_707 : decode mb_L_law 707 = .ok (.iload 4, 2) := by decide +kernel
theorem d_L_law_709 : decode mb_L_law 709 = .ok (.iconst 3, 1) := by decide +kernel
theorem d_L_law_710 : decode mb_L_law 710 = .ok (.iadd, 1) := by decide +kernel
theorem d_L_law_711 : decode mb_L_law 711 = .ok (.iaload, 1) := by decide +kernel
theorem d_L_law_712 : decode mb_L_law 712 = .ok (.i2l, 1) := by decide +kernel
theorem d_L_law_713 : decode mb_L_law 713 = .ok (.bipush 32, 2) := by decide +kernel
theorem d_L_law_715 : decode mb_L_law 715 = .ok (.lshl, 1) := by decide +kernel
theorem d_L_law_716 : decode mb_L_law 716 = .ok (.aload_n 0, 1) := by decide +kernel
theorem d_L_law_717 : decode mb_L_law 717 = .ok (.iload 4, 2) := by decide +kernel
theorem d_L_law_719 : decode mb_L_law 719 = .ok (.iconst 4, 1) := by decide +kernel
theorem d_L_law_720 : decode mb_L_law 720 = .ok (.iadd, 1) := by decide +kernel
theorem d_L_law_721 : decode mb_L_law 721 = .ok (.iaload, 1) := by decide +kernel
theorem d_L_law_722 : decode mb_L_law 722 = .ok (.i2l, 1) := by decide +kernel
theorem d_L_law_723 : decode mb_L_law 723 = .ok (.ldc2_w 52, 3) := by decide +kernel
theorem d_L_law_726 : decode mb_L_law 726 = .ok (.land, 1) := by decide +kernel
theorem d_L_law_727 : decode mb_L_law 727 = .ok (.lor, 1) := by decide +kernel
theorem d_L_law_728 : decode mb_L_law 728 = .ok (.aload_n 3, 1) := by decide +kernel
theorem d_L_law_729 : decode mb_L_law 729 = .ok (.invokestatic 88, 3) := by decide +kernel
theorem d_L_law_732 : decode mb_L_law 732 = .ok (.istore 5, 2) := by decide +kernel
theorem d_L_law_734 : decode mb_L_law 734 = .ok (.aload_n 2, 1) := by decide +kernel
theorem d_L_law_735 : decode mb_L_law 735 = .ok (.aload_n 0, 1) := by decide +kernel
theorem d_L_law_736 : decode mb_L_law 736 = .ok (.iload 4, 2) := by decide +kernel
theorem d_L_law_738 : decode mb_L_law 738 = .ok (.iconst 1, 1) := by decide +kernel
theorem d_L_law_739 : decode mb_L_law 739 = .ok (.iadd, 1) := by decide +kernel
theorem d_L_law_740 : decode mb_L_law 740 = .ok (.iaload, 1) := by decide +kernel
theorem d_L_law_741 : decode mb_L_law 741 = .ok (.aload_n 0, 1) := by decide +kernel
theorem d_L_law_742 : decode mb_L_law 742 = .ok (.iload 4, 2) := by decide +kernel
theorem d_L_law_744 : decode mb_L_law 744 = .ok (.iconst 2, 1) := by decide +kernel
theorem d_L_law_745 : decode mb_L_law 745 = .ok (.iadd, 1) := by decide +kernel
theorem d_L_law_746 : decode mb_L_law 746 = .ok (.iaload, 1) := by decide +kernel
theorem d_L_law_747 : decode mb_L_law 747 = .ok (.aload_n 0, 1) := by decide +kernel
theorem d_L_law_748 : decode mb_L_law 748 = .ok (.iload 4, 2) := by decide +kernel
theorem d_L_law_750 : decode mb_L_law 750 = .ok (.iconst 3, 1) := by decide +kernel
theorem d_L_law_751 : decode mb_L_law 751 = .ok (.iadd, 1) := by decide +kernel
theorem d_L_law_752 : decode mb_L_law 752 = .ok (.iaload, 1) := by decide +kernel
theorem d_L_law_753 : decode mb_L_law 753 = .ok (.i2l, 1) := by decide +kernel
theorem d_L_law_754 : decode mb_L_law 754 = .ok (.bipush 32, 2) := by decide +kernel
theorem d_L_law_756 : decode mb_L_law 756 = .ok (.lshl, 1) := by decide +kernel
theorem d_L_law_757 : decode mb_L_law 757 = .ok (.aload_n 0, 1) := by decide +kernel
theorem d_L_law_758 : decode mb_L_law 758 = .ok (.iload 4, 2) := by decide +kernel
theorem d_L_law_760 : decode mb_L_law 760 = .ok (.iconst 4, 1) := by decide +kernel
theorem d_L_law_761 : decode mb_L_law 761 = .ok (.iadd, 1) := by decide +kernel
theorem d_L_law_762 : decode mb_L_law 762 = .ok (.iaload, 1) := by decide +kernel
theorem d_L_law_763 : decode mb_L_law 763 = .ok (.i2l, 1) := by decide +kernel
theorem d_L_law_764 : decode mb_L_law 764 = .ok (.ldc2_w 52, 3) := by decide +kernel
theorem d_L_law_767 : decode mb_L_law 767 = .ok (.land, 1) := by decide +kernel
theorem d_L_law_768 : decode mb_L_law 768 = .ok (.lor, 1) := by decide +kernel
theorem d_L_law_769 : decode mb_L_law 769 = .ok (.invokevirtual 90, 3) := by decide +kernel
theorem d_L_law_772 : decode mb_L_law 772 = .ok (.istore 6, 2) := by decide +kernel
theorem d_L_law_774 : decode mb_L_law 774 = .ok (.aload_n 2, 1) := by decide +kernel
theorem d_L_law_775 : decode mb_L_law 775 = .ok (.invokevirtual 76, 3) := by decide +kernel
theorem d_L_law_778 : decode mb_L_law 778 = .ok (.iload 5, 2) := by decide +kernel
theorem d_L_law_780 : decode mb_L_law 780 = .ok (.if_icmp .eq 5, 3) := by decide +kernel
theorem d_L_law_783 : decode mb_L_law 783 = .ok (.iconst 0, 1) := by decide +kernel
theorem d_L_law_784 : decode mb_L_law 784 = .ok (.ireturn, 1) := by decide +kernel
theorem d_L_law_785 : decode mb_L_law 785 = .ok (.iload 5, 2) := by decide +kernel
theorem d_L_law_787 : decode mb_L_law 787 = .ok (.ifCond .ne 15, 3) := by decide +kernel
theorem d_L_law_790 : decode mb_L_law 790 = .ok (.aload_n 3, 1) := by decide +kernel
theorem d_L_law_791 : decode mb_L_law 791 = .ok (.iconst 0, 1) := by decide +kernel
theorem d_L_law_792 : decode mb_L_law 792 = .ok (.laload, 1) := by decide +kernel
theorem d_L_law_793 : decode mb_L_law 793 = .ok (.iload 6, 2) := by decide +kernel
theorem d_L_law_795 : decode mb_L_law 795 = .ok (.i2l, 1) := by decide +kernel
theorem d_L_law_796 : decode mb_L_law 796 = .ok (.lcmp, 1) := by decide +kernel
theorem d_L_law_797 : decode mb_L_law 797 = .ok (.ifCond .eq 5, 3) := by decide +kernel
theorem d_L_law_800 : decode mb_L_law 800 = .ok (.iconst 0, 1) := by decide +kernel
theorem d_L_law_801 : decode mb_L_law 801 = .ok (.ireturn, 1) := by decide +kernel
theorem d_L_law_802 : decode mb_L_law 802 = .ok (.goto 203, 3) := by decide +kernel
theorem d_L_law_805 : decode mb_L_law 805 = .ok (.aload_n 1, 1) := by decide +kernel
theorem d_L_law_806 : decode mb_L_law 806 = .ok (.aload_n 0, 1) := by decide +kernel
theorem d_L_law_807 : decode mb_L_law 807 = .ok (.iload 4, 2) := by decide +kernel
theorem d_L_law_809 : decode mb_L_law 809 = .ok (.iconst 1, 1) := by decide +kernel
theorem d_L_law_810 : decode mb_L_law 810 = .ok (.iadd, 1) := by decide +kernel
theorem d_L_law_811 : decode mb_L_law 811 = .ok (.iaload, 1) := by decide +kernel
theorem d_L_law_812 : decode mb_L_law 812 = .ok (.invokevirtual 91, 3) := by decide +kernel
theorem d_L_law_815 : decode mb_L_law 815 = .ok (.aload_n 2, 1) := by decide +kernel
theorem d_L_law_816 : decode mb_L_law 816 = .ok (.aload_n 0, 1) := by decide +kernel
theorem d_L_law_817 : decode mb_L_law 817 = .ok (.iload 4, 2) := by decide +kernel
theorem d_L_law_819 : decode mb_L_law 819 = .ok (.iconst 1, 1) := by decide +kernel
theorem d_L_law_820 : decode mb_L_law 820 = .ok (.iadd, 1) := by decide +kernel
theorem d_L_law_821 : decode mb_L_law 821 = .ok (.iaload, 1) := by decide +kernel
theorem d_L_law_822 : decode mb_L_law 822 = .ok (.invokevirtual 94, 3) := by decide +kernel
theorem d_L_law_825 : decode mb_L_law 825 = .ok (.lcmp, 1) := by decide +kernel
theorem d_L_law_826 : decode mb_L_law 826 = .ok (.ifCond .eq 179, 3) := by decide +kernel
theorem d_L_law_829 : decode mb_L_law 829 = .ok (.iconst 0, 1) := by decide +kernel
theorem d_L_law_830 : decode mb_L_law 830 = .ok (.ireturn, 1) := by decide +kernel
theorem d_L_law_831 : decode mb_L_law 831 = .ok (.aload_n 1, 1) := by decide +kernel
theorem d_L_law_832 : decode mb_L_law 832 = .ok (.aload_n 0, 1) := by decide +kernel
theorem d_L_law_833 : decode mb_L_law 833 = .ok (.iload 4, 2) := by decide +kernel
theorem d_L_law_835 : decode mb_L_law 835 = .ok (.iconst 1, 1) := by decide +kernel
