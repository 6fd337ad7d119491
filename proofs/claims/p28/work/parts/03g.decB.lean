theorem dL_isSo_644 : decode cL_isSo 644 = .ok (.aload_n 0, 1) := by decide +kernel
theorem dL_isSo_645 : decode cL_isSo 645 = .ok (.bipush 10, 2) := by decide +kernel
theorem dL_isSo_647 : decode cL_isSo 647 = .ok (.invokevirtual 98, 3) := by decide +kernel
theorem dL_isSo_650 : decode cL_isSo 650 = .ok (.aload_n 0, 1) := by decide +kernel
theorem dL_isSo_651 : decode cL_isSo 651 = .ok (.bipush 8, 2) := by decide +kernel
theorem dL_isSo_653 : decode cL_isSo 653 = .ok (.invokevirtual 98, 3) := by decide +kernel
theorem dL_isSo_656 : decode cL_isSo 656 = .ok (.aload_n 0, 1) := by decide +kernel
theorem dL_isSo_657 : decode cL_isSo 657 = .ok (.bipush 9, 2) := by decide +kernel
theorem dL_isSo_659 : decode cL_isSo 659 = .ok (.invokevirtual 98, 3) := by decide +kernel
theorem dL_isSo_662 : decode cL_isSo 662 = .ok (.iadd, 1) := by decide +kernel
theorem dL_isSo_663 : decode cL_isSo 663 = .ok (.aload_n 0, 1) := by decide +kernel
theorem dL_isSo_664 : decode cL_isSo 664 = .ok (.bipush 11, 2) := by decide +kernel
theorem dL_isSo_666 : decode cL_isSo 666 = .ok (.invokevirtual 98, 3) := by decide +kernel
theorem dL_isSo_669 : decode cL_isSo 669 = .ok (.iadd, 1) := by decide +kernel
theorem dL_isSo_670 : decode cL_isSo 670 = .ok (.aload_n 0, 1) := by decide +kernel
theorem dL_isSo_671 : decode cL_isSo 671 = .ok (.bipush 12, 2) := by decide +kernel
theorem dL_isSo_673 : decode cL_isSo 673 = .ok (.invokevirtual 98, 3) := by decide +kernel
theorem dL_isSo_676 : decode cL_isSo 676 = .ok (.iadd, 1) := by decide +kernel
theorem dL_isSo_677 : decode cL_isSo 677 = .ok (.if_icmp .ne 14, 3) := by decide +kernel
theorem dL_isSo_680 : decode cL_isSo 680 = .ok (.iload 9, 2) := by decide +kernel
theorem dL_isSo_682 : decode cL_isSo 682 = .ok (.iload 8, 2) := by decide +kernel
theorem dL_isSo_684 : decode cL_isSo 684 = .ok (.if_icmp .ne 7, 3) := by decide +kernel
theorem dL_isSo_687 : decode cL_isSo 687 = .ok (.iconst 1, 1) := by decide +kernel
theorem dL_isSo_688 : decode cL_isSo 688 = .ok (.goto 4, 3) := by decide +kernel
theorem dL_isSo_691 : decode cL_isSo 691 = .ok (.iconst 0, 1) := by decide +kernel
theorem dL_isSo_692 : decode cL_isSo 692 = .ok (.istore 6, 2) := by decide +kernel
theorem dL_isSo_694 : decode cL_isSo 694 = .ok (.aload_n 1, 1) := by decide +kernel
theorem dL_isSo_695 : decode cL_isSo 695 = .ok (.iconst 5, 1) := by decide +kernel
theorem dL_isSo_696 : decode cL_isSo 696 = .ok (.iaload, 1) := by decide +kernel
theorem dL_isSo_697 : decode cL_isSo 697 = .ok (.i2l, 1) := by decide +kernel
theorem dL_isSo_698 : decode cL_isSo 698 = .ok (.aload_n 1, 1) := by decide +kernel
theorem dL_isSo_699 : decode cL_isSo 699 = .ok (.bipush 7, 2) := by decide +kernel
theorem dL_isSo_701 : decode cL_isSo 701 = .ok (.iaload, 1) := by decide +kernel
theorem dL_isSo_702 : decode cL_isSo 702 = .ok (.i2l, 1) := by decide +kernel
theorem dL_isSo_703 : decode cL_isSo 703 = .ok (.lmul, 1) := by decide +kernel
theorem dL_isSo_704 : decode cL_isSo 704 = .ok (.ldc2_w 63, 3) := by decide +kernel
theorem dL_isSo_707 : decode cL_isSo 707 = .ok (.ldiv, 1) := by decide +kernel
theorem dL_isSo_708 : decode cL_isSo 708 = .ok (.lstore 10, 2) := by decide +kernel
theorem dL_isSo_710 : decode cL_isSo 710 = .ok (.iload 6, 2) := by decide +kernel
theorem dL_isSo_712 : decode cL_isSo 712 = .ok (.ifCond .eq 137, 3) := by decide +kernel
theorem dL_isSo_715 : decode cL_isSo 715 = .ok (.aload_n 0, 1) := by decide +kernel
theorem dL_isSo_716 : decode cL_isSo 716 = .ok (.iconst 0, 1) := by decide +kernel
theorem dL_isSo_717 : decode cL_isSo 717 = .ok (.invokevirtual 101, 3) := by decide +kernel
theorem dL_isSo_720 : decode cL_isSo 720 = .ok (.aload_n 2, 1) := by decide +kernel
theorem dL_isSo_721 : decode cL_isSo 721 = .ok (.iconst 4, 1) := by decide +kernel
theorem dL_isSo_722 : decode cL_isSo 722 = .ok (.bipush 7, 2) := by decide +kernel
theorem dL_isSo_724 : decode cL_isSo 724 = .ok (.invokestatic 9, 3) := by decide +kernel
theorem dL_isSo_727 : decode cL_isSo 727 = .ok (.aload_n 1, 1) := by decide +kernel
theorem dL_isSo_728 : decode cL_isSo 728 = .ok (.iconst 3, 1) := by decide +kernel
theorem dL_isSo_729 : decode cL_isSo 729 = .ok (.iaload, 1) := by decide +kernel
theorem dL_isSo_730 : decode cL_isSo 730 = .ok (.iadd, 1) := by decide +kernel
theorem dL_isSo_731 : decode cL_isSo 731 = .ok (.aload_n 1, 1) := by decide +kernel
theorem dL_isSo_732 : decode cL_isSo 732 = .ok (.iconst 4, 1) := by decide +kernel
theorem dL_isSo_733 : decode cL_isSo 733 = .ok (.iaload, 1) := by decide +kernel
theorem dL_isSo_734 : decode cL_isSo 734 = .ok (.isub, 1) := by decide +kernel
theorem dL_isSo_735 : decode cL_isSo 735 = .ok (.ldc 58, 2) := by decide +kernel
theorem dL_isSo_737 : decode cL_isSo 737 = .ok (.iadd, 1) := by decide +kernel
theorem dL_isSo_738 : decode cL_isSo 738 = .ok (.if_icmp .ne 111, 3) := by decide +kernel
theorem dL_isSo_741 : decode cL_isSo 741 = .ok (.aload_n 0, 1) := by decide +kernel
theorem dL_isSo_742 : decode cL_isSo 742 = .ok (.iconst 1, 1) := by decide +kernel
theorem dL_isSo_743 : decode cL_isSo 743 = .ok (.invokevirtual 101, 3) := by decide +kernel
theorem dL_isSo_746 : decode cL_isSo 746 = .ok (.aload_n 1, 1) := by decide +kernel
theorem dL_isSo_747 : decode cL_isSo 747 = .ok (.iconst 3, 1) := by decide +kernel
theorem dL_isSo_748 : decode cL_isSo 748 = .ok (.iaload, 1) := by decide +kernel
theorem dL_isSo_749 : decode cL_isSo 749 = .ok (.ldc 58, 2) := by decide +kernel
theorem dL_isSo_751 : decode cL_isSo 751 = .ok (.iadd, 1) := by decide +kernel
theorem dL_isSo_752 : decode cL_isSo 752 = .ok (.if_icmp .ne 97, 3) := by decide +kernel
theorem dL_isSo_755 : decode cL_isSo 755 = .ok (.aload_n 0, 1) := by decide +kernel
theorem dL_isSo_756 : decode cL_isSo 756 = .ok (.iconst 2, 1) := by decide +kernel
theorem dL_isSo_757 : decode cL_isSo 757 = .ok (.invokevirtual 101, 3) := by decide +kernel
theorem dL_isSo_760 : decode cL_isSo 760 = .ok (.aload_n 1, 1) := by decide +kernel
theorem dL_isSo_761 : decode cL_isSo 761 = .ok (.iconst 4, 1) := by decide +kernel
theorem dL_isSo_762 : decode cL_isSo 762 = .ok (.iaload, 1) := by decide +kernel
theorem dL_isSo_763 : decode cL_isSo 763 = .ok (.ldc 58, 2) := by decide +kernel
theorem dL_isSo_765 : decode cL_isSo 765 = .ok (.iadd, 1) := by decide +kernel
theorem dL_isSo_766 : decode cL_isSo 766 = .ok (.if_icmp .ne 83, 3) := by decide +kernel
theorem dL_isSo_769 : decode cL_isSo 769 = .ok (.aload_n 0, 1) := by decide +kernel
theorem dL_isSo_770 : decode cL_isSo 770 = .ok (.iconst 3, 1) := by decide +kernel
theorem dL_isSo_771 : decode cL_isSo 771 = .ok (.invokevirtual 101, 3) := by decide +kernel
theorem dL_isSo_774 : decode cL_isSo 774 = .ok (.aload_n 1, 1) := by decide +kernel
theorem dL_isSo_775 : decode cL_isSo 775 = .ok (.iconst 5, 1) := by decide +kernel
theorem dL_isSo_776 : decode cL_isSo 776 = .ok (.iaload, 1) := by decide +kernel
theorem dL_isSo_777 : decode cL_isSo 777 = .ok (.ldc 83, 2) := by decide +kernel
theorem dL_isSo_779 : decode cL_isSo 779 = .ok (.iadd, 1) := by decide +kernel
theorem dL_isSo_780 : decode cL_isSo 780 = .ok (.if_icmp .ne 69, 3) := by decide +kernel
theorem dL_isSo_783 : decode cL_isSo 783 = .ok (.aload_n 0, 1) := by decide +kernel
theorem dL_isSo_784 : decode cL_isSo 784 = .ok (.iconst 4, 1) := by decide +kernel
theorem dL_isSo_785 : decode cL_isSo 785 = .ok (.invokevirtual 101, 3) := by decide +kernel
theorem dL_isSo_788 : decode cL_isSo 788 = .ok (.i2l, 1) := by decide +kernel
theorem dL_isSo_789 : decode cL_isSo 789 = .ok (.lload 10, 2) := by decide +kernel
theorem dL_isSo_791 : decode cL_isSo 791 = .ok (.ldc2_w 104, 3) := by decide +kernel
theorem dL_isSo_794 : decode cL_isSo 794 = .ok (.ladd, 1) := by decide +kernel
theorem dL_isSo_795 : decode cL_isSo 795 = .ok (.lcmp, 1) := by decide +kernel
theorem dL_isSo_796 : decode cL_isSo 796 = .ok (.ifCond .ne 53, 3) := by decide +kernel
theorem dL_isSo_799 : decode cL_isSo 799 = .ok (.aload_n 0, 1) := by decide +kernel
theorem dL_isSo_800 : decode cL_isSo 800 = .ok (.iconst 5, 1) := by decide +kernel
theorem dL_isSo_801 : decode cL_isSo 801 = .ok (.invokevirtual 101, 3) := by decide +kernel
theorem dL_isSo_804 : decode cL_isSo 804 = .ok (.aload_n 1, 1) := by decide +kernel
theorem dL_isSo_805 : decode cL_isSo 805 = .ok (.bipush 7, 2) := by decide +kernel
theorem dL_isSo_807 : decode cL_isSo 807 = .ok (.iaload, 1) := by decide +kernel
theorem dL_isSo_808 : decode cL_isSo 808 = .ok (.if_icmp .ne 41, 3) := by decide +kernel
theorem dL_isSo_811 : decode cL_isSo 811 = .ok (.aload_n 0, 1) := by decide +kernel
theorem dL_isSo_812 : decode cL_isSo 812 = .ok (.bipush 6, 2) := by decide +kernel
theorem dL_isSo_814 : decode cL_isSo 814 = .ok (.invokevirtual 101, 3) := by decide +kernel
theorem dL_isSo_817 : decode cL_isSo 817 = .ok (.aload_n 1, 1) := by decide +kernel
theorem dL_isSo_818 : decode cL_isSo 818 = .ok (.bipush 8, 2) := by decide +kernel
theorem dL_isSo_820 : decode cL_isSo 820 = .ok (.iaload, 1) := by decide +kernel
theorem dL_isSo_821 : decode cL_isSo 821 = .ok (.if_icmp .ne 28, 3) := by decide +kernel
theorem dL_isSo_824 : decode cL_isSo 824 = .ok (.aload_n 0, 1) := by decide +kernel
theorem dL_isSo_825 : decode cL_isSo 825 = .ok (.invokevirtual 106, 3) := by decide +kernel
theorem dL_isSo_828 : decode cL_isSo 828 = .ok (.i2l, 1) := by decide +kernel
theorem dL_isSo_829 : decode cL_isSo 829 = .ok (.lload 10, 2) := by decide +kernel
theorem dL_isSo_831 : decode cL_isSo 831 = .ok (.aload_n 1, 1) := by decide +kernel
theorem dL_isSo_832 : decode cL_isSo 832 = .ok (.bipush 11, 2) := by decide +kernel
theorem dL_isSo_834 : decode cL_isSo 834 = .ok (.iaload, 1) := by decide +kernel
theorem dL_isSo_835 : decode cL_isSo 835 = .ok (.i2l, 1) := by decide +kernel
theorem dL_isSo_836 : decode cL_isSo 836 = .ok (.lsub, 1) := by decide +kernel
theorem dL_isSo_837 : decode cL_isSo 837 = .ok (.ldc2_w 104, 3) := by decide +kernel
theorem dL_isSo_840 : decode cL_isSo 840 = .ok (.ladd, 1) := by decide +kernel
theorem dL_isSo_841 : decode cL_isSo 841 = .ok (.lcmp, 1) := by decide +kernel
theorem dL_isSo_842 : decode cL_isSo 842 = .ok (.ifCond .ne 7, 3) := by decide +kernel
theorem dL_isSo_845 : decode cL_isSo 845 = .ok (.iconst 1, 1) := by decide +kernel
theorem dL_isSo_846 : decode cL_isSo 846 = .ok (.goto 4, 3) := by decide +kernel
theorem dL_isSo_849 : decode cL_isSo 849 = .ok (.iconst 0, 1) := by decide +kernel
theorem dL_isSo_850 : decode cL_isSo 850 = .ok (.istore 6, 2) := by decide +kernel
theorem dL_isSo_852 : decode cL_isSo 852 = .ok (.iload 6, 2) := by decide +kernel
theorem dL_isSo_854 : decode cL_isSo 854 = .ok (.ifCond .eq 41, 3) := by decide +kernel
theorem dL_isSo_857 : decode cL_isSo 857 = .ok (.aload_n 0, 1) := by decide +kernel
theorem dL_isSo_858 : decode cL_isSo 858 = .ok (.bipush 15, 2) := by decide +kernel
theorem dL_isSo_860 : decode cL_isSo 860 = .ok (.invokevirtual 98, 3) := by decide +kernel
theorem dL_isSo_863 : decode cL_isSo 863 = .ok (.ifCond .ne 32, 3) := by decide +kernel
theorem dL_isSo_866 : decode cL_isSo 866 = .ok (.aload_n 0, 1) := by decide +kernel
theorem dL_isSo_867 : decode cL_isSo 867 = .ok (.bipush 7, 2) := by decide +kernel
theorem dL_isSo_869 : decode cL_isSo 869 = .ok (.invokevirtual 101, 3) := by decide +kernel
theorem dL_isSo_872 : decode cL_isSo 872 = .ok (.ldc 62, 2) := by decide +kernel
theorem dL_isSo_874 : decode cL_isSo 874 = .ok (.if_icmp .ne 21, 3) := by decide +kernel
theorem dL_isSo_877 : decode cL_isSo 877 = .ok (.aload_n 0, 1) := by decide +kernel
theorem dL_isSo_878 : decode cL_isSo 878 = .ok (.aload_n 1, 1) := by decide +kernel
theorem dL_isSo_879 : decode cL_isSo 879 = .ok (.bipush 14, 2) := by decide +kernel
theorem dL_isSo_881 : decode cL_isSo 881 = .ok (.iaload, 1) := by decide +kernel
theorem dL_isSo_882 : decode cL_isSo 882 = .ok (.iconst 0, 1) := by decide +kernel
theorem dL_isSo_883 : decode cL_isSo 883 = .ok (.invokevirtual 95, 3) := by decide +kernel
theorem dL_isSo_886 : decode cL_isSo 886 = .ok (.ldc 62, 2) := by decide +kernel
theorem dL_isSo_888 : decode cL_isSo 888 = .ok (.if_icmp .ne 7, 3) := by decide +kernel
theorem dL_isSo_891 : decode cL_isSo 891 = .ok (.iconst 1, 1) := by decide +kernel
theorem dL_isSo_892 : decode cL_isSo 892 = .ok (.goto 4, 3) := by decide +kernel
theorem dL_isSo_895 : decode cL_isSo 895 = .ok (.iconst 0, 1) := by decide +kernel
theorem dL_isSo_896 : decode cL_isSo 896 = .ok (.ireturn, 1) := by decide +kernel
theorem dL_law_0 : decode cL_law 0 = .ok (.new 24, 3) := by decide +kernel
theorem dL_law_3 : decode cL_law 3 = .ok (.dup, 1) := by decide +kernel
theorem dL_law_4 : decode cL_law 4 = .ok (.invokespecial 109, 3) := by decide +kernel
theorem dL_law_7 : decode cL_law 7 = .ok (.astore_n 1, 1) := by decide +kernel
theorem dL_law_8 : decode cL_law 8 = .ok (.bipush 21, 2) := by decide +kernel
theorem dL_law_10 : decode cL_law 10 = .ok (.newarray .int, 2) := by decide +kernel
theorem dL_law_12 : decode cL_law 12 = .ok (.astore_n 2, 1) := by decide +kernel
theorem dL_law_13 : decode cL_law 13 = .ok (.bipush 48, 2) := by decide +kernel
theorem dL_law_15 : decode cL_law 15 = .ok (.newarray .int, 2) := by decide +kernel
theorem dL_law_17 : decode cL_law 17 = .ok (.astore_n 3, 1) := by decide +kernel
theorem dL_law_18 : decode cL_law 18 = .ok (.bipush 12, 2) := by decide +kernel
theorem dL_law_20 : decode cL_law 20 = .ok (.newarray .int, 2) := by decide +kernel
theorem dL_law_22 : decode cL_law 22 = .ok (.astore 4, 2) := by decide +kernel
theorem dL_law_24 : decode cL_law 24 = .ok (.bipush 48, 2) := by decide +kernel
theorem dL_law_26 : decode cL_law 26 = .ok (.newarray .int, 2) := by decide +kernel
theorem dL_law_28 : decode cL_law 28 = .ok (.astore 5, 2) := by decide +kernel
theorem dL_law_30 : decode cL_law 30 = .ok (.bipush 20, 2) := by decide +kernel
theorem dL_law_32 : decode cL_law 32 = .ok (.newarray .int, 2) := by decide +kernel
theorem dL_law_34 : decode cL_law 34 = .ok (.astore 6, 2) := by decide +kernel
theorem dL_law_36 : decode cL_law 36 = .ok (.aload_n 2, 1) := by decide +kernel
theorem dL_law_37 : decode cL_law 37 = .ok (.iconst 0, 1) := by decide +kernel
theorem dL_law_38 : decode cL_law 38 = .ok (.bipush 50, 2) := by decide +kernel
theorem dL_law_40 : decode cL_law 40 = .ok (.iastore, 1) := by decide +kernel
theorem dL_law_41 : decode cL_law 41 = .ok (.aload_n 2, 1) := by decide +kernel
theorem dL_law_42 : decode cL_law 42 = .ok (.bipush 7, 2) := by decide +kernel
theorem dL_law_44 : decode cL_law 44 = .ok (.sipush 1000, 3) := by decide +kernel
theorem dL_law_47 : decode cL_law 47 = .ok (.iastore, 1) := by decide +kernel
theorem dL_law_48 : decode cL_law 48 = .ok (.aload_n 2, 1) := by decide +kernel
theorem dL_law_49 : decode cL_law 49 = .ok (.bipush 14, 2) := by decide +kernel
theorem dL_law_51 : decode cL_law 51 = .ok (.iconst 1, 1) := by decide +kernel
theorem dL_law_52 : decode cL_law 52 = .ok (.iastore, 1) := by decide +kernel
theorem dL_law_53 : decode cL_law 53 = .ok (.aload_n 2, 1) := by decide +kernel
theorem dL_law_54 : decode cL_law 54 = .ok (.bipush 18, 2) := by decide +kernel
theorem dL_law_56 : decode cL_law 56 = .ok (.bipush 120, 2) := by decide +kernel
theorem dL_law_58 : decode cL_law 58 = .ok (.iastore, 1) := by decide +kernel
theorem dL_law_59 : decode cL_law 59 = .ok (.aload_n 2, 1) := by decide +kernel
theorem dL_law_60 : decode cL_law 60 = .ok (.bipush 19, 2) := by decide +kernel
theorem dL_law_62 : decode cL_law 62 = .ok (.bipush 20, 2) := by decide +kernel
theorem dL_law_64 : decode cL_law 64 = .ok (.iastore, 1) := by decide +kernel
theorem dL_law_65 : decode cL_law 65 = .ok (.aload_n 2, 1) := by decide +kernel
theorem dL_law_66 : decode cL_law 66 = .ok (.bipush 20, 2) := by decide +kernel
theorem dL_law_68 : decode cL_law 68 = .ok (.iconst 1, 1) := by decide +kernel
theorem dL_law_69 : decode cL_law 69 = .ok (.iastore, 1) := by decide +kernel
theorem dL_law_70 : decode cL_law 70 = .ok (.aload 6, 2) := by decide +kernel
theorem dL_law_72 : decode cL_law 72 = .ok (.iconst 0, 1) := by decide +kernel
theorem dL_law_73 : decode cL_law 73 = .ok (.ldc 94, 2) := by decide +kernel
theorem dL_law_75 : decode cL_law 75 = .ok (.iastore, 1) := by decide +kernel
theorem dL_law_76 : decode cL_law 76 = .ok (.aload_n 1, 1) := by decide +kernel
theorem dL_law_77 : decode cL_law 77 = .ok (.aload_n 2, 1) := by decide +kernel
theorem dL_law_78 : decode cL_law 78 = .ok (.aload_n 3, 1) := by decide +kernel
theorem dL_law_79 : decode cL_law 79 = .ok (.aload 4, 2) := by decide +kernel
theorem dL_law_81 : decode cL_law 81 = .ok (.aload 5, 2) := by decide +kernel
theorem dL_law_83 : decode cL_law 83 = .ok (.aload 6, 2) := by decide +kernel
theorem dL_law_85 : decode cL_law 85 = .ok (.invokestatic 110, 3) := by decide +kernel
theorem dL_law_88 : decode cL_law 88 = .ok (.istore 7, 2) := by decide +kernel
theorem dL_law_90 : decode cL_law 90 = .ok (.iconst 0, 1) := by decide +kernel
theorem dL_law_91 : decode cL_law 91 = .ok (.istore 8, 2) := by decide +kernel
theorem dL_law_93 : decode cL_law 93 = .ok (.iload 8, 2) := by decide +kernel
theorem dL_law_95 : decode cL_law 95 = .ok (.iconst 3, 1) := by decide +kernel
theorem dL_law_96 : decode cL_law 96 = .ok (.if_icmp .ge 61, 3) := by decide +kernel
theorem dL_law_99 : decode cL_law 99 = .ok (.iload 7, 2) := by decide +kernel
theorem dL_law_101 : decode cL_law 101 = .ok (.ifCond .eq 56, 3) := by decide +kernel
theorem dL_law_104 : decode cL_law 104 = .ok (.aload_n 1, 1) := by decide +kernel
theorem dL_law_105 : decode cL_law 105 = .ok (.aload_n 2, 1) := by decide +kernel
theorem dL_law_106 : decode cL_law 106 = .ok (.aload_n 3, 1) := by decide +kernel
theorem dL_law_107 : decode cL_law 107 = .ok (.aload 4, 2) := by decide +kernel
theorem dL_law_109 : decode cL_law 109 = .ok (.aload 5, 2) := by decide +kernel
theorem dL_law_111 : decode cL_law 111 = .ok (.aload 6, 2) := by decide +kernel
theorem dL_law_113 : decode cL_law 113 = .ok (.aload_n 0, 1) := by decide +kernel
theorem dL_law_114 : decode cL_law 114 = .ok (.iconst 1, 1) := by decide +kernel
theorem dL_law_115 : decode cL_law 115 = .ok (.iload 8, 2) := by decide +kernel
theorem dL_law_117 : decode cL_law 117 = .ok (.iadd, 1) := by decide +kernel
theorem dL_law_118 : decode cL_law 118 = .ok (.invokestatic 114, 3) := by decide +kernel
theorem dL_law_121 : decode cL_law 121 = .ok (.ldc 8, 2) := by decide +kernel
theorem dL_law_123 : decode cL_law 123 = .ok (.iand, 1) := by decide +kernel
theorem dL_law_124 : decode cL_law 124 = .ok (.sipush 832, 3) := by decide +kernel
theorem dL_law_127 : decode cL_law 127 = .ok (.idiv, 1) := by decide +kernel
theorem dL_law_128 : decode cL_law 128 = .ok (.sipush 832, 3) := by decide +kernel
theorem dL_law_131 : decode cL_law 131 = .ok (.imul, 1) := by decide +kernel
theorem dL_law_132 : decode cL_law 132 = .ok (.iload 8, 2) := by decide +kernel
theorem dL_law_134 : decode cL_law 134 = .ok (.iconst 1, 1) := by decide +kernel
theorem dL_law_135 : decode cL_law 135 = .ok (.if_icmp .ne 8, 3) := by decide +kernel
theorem dL_law_138 : decode cL_law 138 = .ok (.bipush 10, 2) := by decide +kernel
theorem dL_law_140 : decode cL_law 140 = .ok (.goto 5, 3) := by decide +kernel
theorem dL_law_143 : decode cL_law 143 = .ok (.bipush 14, 2) := by decide +kernel
theorem dL_law_145 : decode cL_law 145 = .ok (.iadd, 1) := by decide +kernel
theorem dL_law_146 : decode cL_law 146 = .ok (.invokestatic 118, 3) := by decide +kernel
theorem dL_law_149 : decode cL_law 149 = .ok (.istore 7, 2) := by decide +kernel
theorem dL_law_151 : decode cL_law 151 = .ok (.iinc 8 1, 3) := by decide +kernel
theorem dL_law_154 : decode cL_law 154 = .ok (.goto (-61), 3) := by decide +kernel
theorem dL_law_157 : decode cL_law 157 = .ok (.bipush 12, 2) := by decide +kernel
theorem dL_law_159 : decode cL_law 159 = .ok (.aload_n 0, 1) := by decide +kernel
theorem dL_law_160 : decode cL_law 160 = .ok (.iconst 0, 1) := by decide +kernel
theorem dL_law_161 : decode cL_law 161 = .ok (.invokestatic 114, 3) := by decide +kernel
theorem dL_law_164 : decode cL_law 164 = .ok (.bipush 50, 2) := by decide +kernel
theorem dL_law_166 : decode cL_law 166 = .ok (.invokestatic 41, 3) := by decide +kernel
theorem dL_law_169 : decode cL_law 169 = .ok (.iadd, 1) := by decide +kernel
theorem dL_law_170 : decode cL_law 170 = .ok (.istore 8, 2) := by decide +kernel
theorem dL_law_172 : decode cL_law 172 = .ok (.iconst 0, 1) := by decide +kernel
theorem dL_law_173 : decode cL_law 173 = .ok (.istore 9, 2) := by decide +kernel
theorem dL_law_175 : decode cL_law 175 = .ok (.iload 9, 2) := by decide +kernel
theorem dL_law_177 : decode cL_law 177 = .ok (.iload 8, 2) := by decide +kernel
theorem dL_law_179 : decode cL_law 179 = .ok (.if_icmp .ge 66, 3) := by decide +kernel
theorem dL_law_182 : decode cL_law 182 = .ok (.iload 7, 2) := by decide +kernel
