theorem d_L_law_686 : decode b_L_law 686 = .ok (.iload 5, 2) := by decide +kernel
theorem d_L_law_688 : decode b_L_law 688 = .ok (.if_icmp .eq 5, 3) := by decide +kernel
theorem d_L_law_691 : decode b_L_law 691 = .ok (.iconst 0, 1) := by decide +kernel
theorem d_L_law_692 : decode b_L_law 692 = .ok (.ireturn, 1) := by decide +kernel
theorem d_L_law_693 : decode b_L_law 693 = .ok (.iload 5, 2) := by decide +kernel
theorem d_L_law_695 : decode b_L_law 695 = .ok (.ifCond .ne 14, 3) := by decide +kernel
theorem d_L_law_698 : decode b_L_law 698 = .ok (.aload_n 3, 1) := by decide +kernel
theorem d_L_law_699 : decode b_L_law 699 = .ok (.iconst 0, 1) := by decide +kernel
theorem d_L_law_700 : decode b_L_law 700 = .ok (.laload, 1) := by decide +kernel
theorem d_L_law_701 : decode b_L_law 701 = .ok (.lload 6, 2) := by decide +kernel
theorem d_L_law_703 : decode b_L_law 703 = .ok (.lcmp, 1) := by decide +kernel
theorem d_L_law_704 : decode b_L_law 704 = .ok (.ifCond .eq 5, 3) := by decide +kernel
theorem d_L_law_707 : decode b_L_law 707 = .ok (.iconst 0, 1) := by decide +kernel
theorem d_L_law_708 : decode b_L_law 708 = .ok (.ireturn, 1) := by decide +kernel
theorem d_L_law_709 : decode b_L_law 709 = .ok (.goto 956, 3) := by decide +kernel
theorem d_L_law_712 : decode b_L_law 712 = .ok (.aload_n 1, 1) := by decide +kernel
theorem d_L_law_713 : decode b_L_law 713 = .ok (.invokevirtual 119, 3) := by decide +kernel
theorem d_L_law_716 : decode b_L_law 716 = .ok (.aload_n 2, 1) := by decide +kernel
theorem d_L_law_717 : decode b_L_law 717 = .ok (.invokevirtual 122, 3) := by decide +kernel
theorem d_L_law_720 : decode b_L_law 720 = .ok (.if_icmp .eq 945, 3) := by decide +kernel
theorem d_L_law_723 : decode b_L_law 723 = .ok (.iconst 0, 1) := by decide +kernel
theorem d_L_law_724 : decode b_L_law 724 = .ok (.ireturn, 1) := by decide +kernel
theorem d_L_law_725 : decode b_L_law 725 = .ok (.aload_n 1, 1) := by decide +kernel
theorem d_L_law_726 : decode b_L_law 726 = .ok (.aload_n 0, 1) := by decide +kernel
theorem d_L_law_727 : decode b_L_law 727 = .ok (.iload 4, 2) := by decide +kernel
theorem d_L_law_729 : decode b_L_law 729 = .ok (.iconst 1, 1) := by decide +kernel
theorem d_L_law_730 : decode b_L_law 730 = .ok (.iadd, 1) := by decide +kernel
theorem d_L_law_731 : decode b_L_law 731 = .ok (.iaload, 1) := by decide +kernel
theorem d_L_law_732 : decode b_L_law 732 = .ok (.aload_n 0, 1) := by decide +kernel
theorem d_L_law_733 : decode b_L_law 733 = .ok (.iload 4, 2) := by decide +kernel
theorem d_L_law_735 : decode b_L_law 735 = .ok (.iconst 2, 1) := by decide +kernel
theorem d_L_law_736 : decode b_L_law 736 = .ok (.iadd, 1) := by decide +kernel
theorem d_L_law_737 : decode b_L_law 737 = .ok (.iaload, 1) := by decide +kernel
theorem d_L_law_738 : decode b_L_law 738 = .ok (.i2l, 1) := by decide +kernel
theorem d_L_law_739 : decode b_L_law 739 = .ok (.bipush 32, 2) := by decide +kernel
theorem d_L_law_741 : decode b_L_law 741 = .ok (.lshl, 1) := by decide +kernel
theorem d_L_law_742 : decode b_L_law 742 = .ok (.aload_n 0, 1) := by decide +kernel
theorem d_L_law_743 : decode b_L_law 743 = .ok (.iload 4, 2) := by decide +kernel
theorem d_L_law_745 : decode b_L_law 745 = .ok (.iconst 3, 1) := by decide +kernel
theorem d_L_law_746 : decode b_L_law 746 = .ok (.iadd, 1) := by decide +kernel
theorem d_L_law_747 : decode b_L_law 747 = .ok (.iaload, 1) := by decide +kernel
theorem d_L_law_748 : decode b_L_law 748 = .ok (.i2l, 1) := by decide +kernel
theorem d_L_law_749 : decode b_L_law 749 = .ok (.ldc2_w 90, 3) := by decide +kernel
theorem d_L_law_752 : decode b_L_law 752 = .ok (.land, 1) := by decide +kernel
theorem d_L_law_753 : decode b_L_law 753 = .ok (.lor, 1) := by decide +kernel
theorem d_L_law_754 : decode b_L_law 754 = .ok (.aload_n 0, 1) := by decide +kernel
theorem d_L_law_755 : decode b_L_law 755 = .ok (.iload 4, 2) := by decide +kernel
theorem d_L_law_757 : decode b_L_law 757 = .ok (.iconst 4, 1) := by decide +kernel
theorem d_L_law_758 : decode b_L_law 758 = .ok (.iadd, 1) := by decide +kernel
theorem d_L_law_759 : decode b_L_law 759 = .ok (.iaload, 1) := by decide +kernel
theorem d_L_law_760 : decode b_L_law 760 = .ok (.aload_n 0, 1) := by decide +kernel
theorem d_L_law_761 : decode b_L_law 761 = .ok (.iload 4, 2) := by decide +kernel
theorem d_L_law_763 : decode b_L_law 763 = .ok (.iconst 5, 1) := by decide +kernel
theorem d_L_law_764 : decode b_L_law 764 = .ok (.iadd, 1) := by decide +kernel
theorem d_L_law_765 : decode b_L_law 765 = .ok (.iaload, 1) := by decide +kernel
theorem d_L_law_766 : decode b_L_law 766 = .ok (.aload_n 3, 1) := by decide +kernel
theorem d_L_law_767 : decode b_L_law 767 = .ok (.invokestatic 123, 3) := by decide +kernel
theorem d_L_law_770 : decode b_L_law 770 = .ok (.istore 5, 2) := by decide +kernel
theorem d_L_law_772 : decode b_L_law 772 = .ok (.aload_n 2, 1) := by decide +kernel
theorem d_L_law_773 : decode b_L_law 773 = .ok (.aload_n 0, 1) := by decide +kernel
theorem d_L_law_774 : decode b_L_law 774 = .ok (.iload 4, 2) := by decide +kernel
theorem d_L_law_776 : decode b_L_law 776 = .ok (.iconst 1, 1) := by decide +kernel
theorem d_L_law_777 : decode b_L_law 777 = .ok (.iadd, 1) := by decide +kernel
theorem d_L_law_778 : decode b_L_law 778 = .ok (.iaload, 1) := by decide +kernel
theorem d_L_law_779 : decode b_L_law 779 = .ok (.aload_n 0, 1) := by decide +kernel
theorem d_L_law_780 : decode b_L_law 780 = .ok (.iload 4, 2) := by decide +kernel
theorem d_L_law_782 : decode b_L_law 782 = .ok (.iconst 2, 1) := by decide +kernel
theorem d_L_law_783 : decode b_L_law 783 = .ok (.iadd, 1) := by decide +kernel
theorem d_L_law_784 : decode b_L_law 784 = .ok (.iaload, 1) := by decide +kernel
theorem d_L_law_785 : decode b_L_law 785 = .ok (.i2l, 1) := by decide +kernel
theorem d_L_law_786 : decode b_L_law 786 = .ok (.bipush 32, 2) := by decide +kernel
theorem d_L_law_788 : decode b_L_law 788 = .ok (.lshl, 1) := by decide +kernel
theorem d_L_law_789 : decode b_L_law 789 = .ok (.aload_n 0, 1) := by decide +kernel
theorem d_L_law_790 : decode b_L_law 790 = .ok (.iload 4, 2) := by decide +kernel
theorem d_L_law_792 : decode b_L_law 792 = .ok (.iconst 3, 1) := by decide +kernel
theorem d_L_law_793 : decode b_L_law 793 = .ok (.iadd, 1) := by decide +kernel
theorem d_L_law_794 : decode b_L_law 794 = .ok (.iaload, 1) := by decide +kernel
theorem d_L_law_795 : decode b_L_law 795 = .ok (.i2l, 1) := by decide +kernel
theorem d_L_law_796 : decode b_L_law 796 = .ok (.ldc2_w 90, 3) := by decide +kernel
theorem d_L_law_799 : decode b_L_law 799 = .ok (.land, 1) := by decide +kernel
theorem d_L_law_800 : decode b_L_law 800 = .ok (.lor, 1) := by decide +kernel
theorem d_L_law_801 : decode b_L_law 801 = .ok (.aload_n 0, 1) := by decide +kernel
theorem d_L_law_802 : decode b_L_law 802 = .ok (.iload 4, 2) := by decide +kernel
theorem d_L_law_804 : decode b_L_law 804 = .ok (.iconst 4, 1) := by decide +kernel
theorem d_L_law_805 : decode b_L_law 805 = .ok (.iadd, 1) := by decide +kernel
theorem d_L_law_806 : decode b_L_law 806 = .ok (.iaload, 1) := by decide +kernel
theorem d_L_law_807 : decode b_L_law 807 = .ok (.aload_n 0, 1) := by decide +kernel
theorem d_L_law_808 : decode b_L_law 808 = .ok (.iload 4, 2) := by decide +kernel
theorem d_L_law_810 : decode b_L_law 810 = .ok (.iconst 5, 1) := by decide +kernel
theorem d_L_law_811 : decode b_L_law 811 = .ok (.iadd, 1) := by decide +kernel
theorem d_L_law_812 : decode b_L_law 812 = .ok (.iaload, 1) := by decide +kernel
theorem d_L_law_813 : decode b_L_law 813 = .ok (.invokevirtual 126, 3) := by decide +kernel
theorem d_L_law_816 : decode b_L_law 816 = .ok (.istore 6, 2) := by decide +kernel
theorem d_L_law_818 : decode b_L_law 818 = .ok (.aload_n 2, 1) := by decide +kernel
theorem d_L_law_819 : decode b_L_law 819 = .ok (.invokevirtual 86, 3) := by decide +kernel
theorem d_L_law_822 : decode b_L_law 822 = .ok (.iload 5, 2) := by decide +kernel
theorem d_L_law_824 : decode b_L_law 824 = .ok (.if_icmp .eq 5, 3) := by decide +kernel
theorem d_L_law_827 : decode b_L_law 827 = .ok (.iconst 0, 1) := by decide +kernel
theorem d_L_law_828 : decode b_L_law 828 = .ok (.ireturn, 1) := by decide +kernel
theorem d_L_law_829 : decode b_L_law 829 = .ok (.iload 5, 2) := by decide +kernel
theorem d_L_law_831 : decode b_L_law 831 = .ok (.ifCond .ne 22, 3) := by decide +kernel
theorem d_L_law_834 : decode b_L_law 834 = .ok (.aload_n 3, 1) := by decide +kernel
theorem d_L_law_835 : decode b_L_law 835 = .ok (.iconst 0, 1) := by decide +kernel
theorem d_L_law_836 : decode b_L_law 836 = .ok (.laload, 1) := by decide +kernel
theorem d_L_law_837 : decode b_L_law 837 = .ok (.iload 6, 2) := by decide +kernel
theorem d_L_law_839 : decode b_L_law 839 = .ok (.ifCond .eq 7, 3) := by decide +kernel
theorem d_L_law_842 : decode b_L_law 842 = .ok (.lconst 1, 1) := by decide +kernel
theorem d_L_law_843 : decode b_L_law 843 = .ok (.goto 4, 3) := by decide +kernel
theorem d_L_law_846 : decode b_L_law 846 = .ok (.lconst 0, 1) := by decide +kernel
theorem d_L_law_847 : decode b_L_law 847 = .ok (.lcmp, 1) := by decide +kernel
theorem d_L_law_848 : decode b_L_law 848 = .ok (.ifCond .eq 5, 3) := by decide +kernel
theorem d_L_law_851 : decode b_L_law 851 = .ok (.iconst 0, 1) := by decide +kernel
theorem d_L_law_852 : decode b_L_law 852 = .ok (.ireturn, 1) := by decide +kernel
theorem d_L_law_853 : decode b_L_law 853 = .ok (.goto 812, 3) := by decide +kernel
theorem d_L_law_856 : decode b_L_law 856 = .ok (.aload_n 1, 1) := by decide +kernel
theorem d_L_law_857 : decode b_L_law 857 = .ok (.aload_n 0, 1) := by decide +kernel
theorem d_L_law_858 : decode b_L_law 858 = .ok (.iload 4, 2) := by decide +kernel
theorem d_L_law_860 : decode b_L_law 860 = .ok (.iconst 1, 1) := by decide +kernel
theorem d_L_law_861 : decode b_L_law 861 = .ok (.iadd, 1) := by decide +kernel
theorem d_L_law_862 : decode b_L_law 862 = .ok (.iaload, 1) := by decide +kernel
theorem d_L_law_863 : decode b_L_law 863 = .ok (.aload_n 0, 1) := by decide +kernel
theorem d_L_law_864 : decode b_L_law 864 = .ok (.iload 4, 2) := by decide +kernel
theorem d_L_law_866 : decode b_L_law 866 = .ok (.iconst 2, 1) := by decide +kernel
theorem d_L_law_867 : decode b_L_law 867 = .ok (.iadd, 1) := by decide +kernel
theorem d_L_law_868 : decode b_L_law 868 = .ok (.iaload, 1) := by decide +kernel
theorem d_L_law_869 : decode b_L_law 869 = .ok (.i2l, 1) := by decide +kernel
theorem d_L_law_870 : decode b_L_law 870 = .ok (.bipush 32, 2) := by decide +kernel
theorem d_L_law_872 : decode b_L_law 872 = .ok (.lshl, 1) := by decide +kernel
theorem d_L_law_873 : decode b_L_law 873 = .ok (.aload_n 0, 1) := by decide +kernel
theorem d_L_law_874 : decode b_L_law 874 = .ok (.iload 4, 2) := by decide +kernel
theorem d_L_law_876 : decode b_L_law 876 = .ok (.iconst 3, 1) := by decide +kernel
theorem d_L_law_877 : decode b_L_law 877 = .ok (.iadd, 1) := by decide +kernel
theorem d_L_law_878 : decode b_L_law 878 = .ok (.iaload, 1) := by decide +kernel
theorem d_L_law_879 : decode b_L_law 879 = .ok (.i2l, 1) := by decide +kernel
theorem d_L_law_880 : decode b_L_law 880 = .ok (.ldc2_w 90, 3) := by decide +kernel
theorem d_L_law_883 : decode b_L_law 883 = .ok (.land, 1) := by decide +kernel
theorem d_L_law_884 : decode b_L_law 884 = .ok (.lor, 1) := by decide +kernel
theorem d_L_law_885 : decode b_L_law 885 = .ok (.aload_n 0, 1) := by decide +kernel
theorem d_L_law_886 : decode b_L_law 886 = .ok (.iload 4, 2) := by decide +kernel
theorem d_L_law_888 : decode b_L_law 888 = .ok (.iconst 4, 1) := by decide +kernel
theorem d_L_law_889 : decode b_L_law 889 = .ok (.iadd, 1) := by decide +kernel
theorem d_L_law_890 : decode b_L_law 890 = .ok (.iaload, 1) := by decide +kernel
theorem d_L_law_891 : decode b_L_law 891 = .ok (.aload_n 0, 1) := by decide +kernel
theorem d_L_law_892 : decode b_L_law 892 = .ok (.iload 4, 2) := by decide +kernel
theorem d_L_law_894 : decode b_L_law 894 = .ok (.iconst 5, 1) := by decide +kernel
theorem d_L_law_895 : decode b_L_law 895 = .ok (.iadd, 1) := by decide +kernel
theorem d_L_law_896 : decode b_L_law 896 = .ok (.iaload, 1) := by decide +kernel
theorem d_L_law_897 : decode b_L_law 897 = .ok (.aload_n 0, 1) := by decide +kernel
theorem d_L_law_898 : decode b_L_law 898 = .ok (.iload 4, 2) := by decide +kernel
theorem d_L_law_900 : decode b_L_law 900 = .ok (.bipush 6, 2) := by decide +kernel
theorem d_L_law_902 : decode b_L_law 902 = .ok (.iadd, 1) := by decide +kernel
theorem d_L_law_903 : decode b_L_law 903 = .ok (.iaload, 1) := by decide +kernel
theorem d_L_law_904 : decode b_L_law 904 = .ok (.aload_n 3, 1) := by decide +kernel
theorem d_L_law_905 : decode b_L_law 905 = .ok (.invokestatic 127, 3) := by decide +kernel
theorem d_L_law_908 : decode b_L_law 908 = .ok (.istore 5, 2) := by decide +kernel
theorem d_L_law_910 : decode b_L_law 910 = .ok (.aload_n 2, 1) := by decide +kernel
theorem d_L_law_911 : decode b_L_law 911 = .ok (.aload_n 0, 1) := by decide +kernel
theorem d_L_law_912 : decode b_L_law 912 = .ok (.iload 4, 2) := by decide +kernel
theorem d_L_law_914 : decode b_L_law 914 = .ok (.iconst 1, 1) := by decide +kernel
theorem d_L_law_915 : decode b_L_law 915 = .ok (.iadd, 1) := by decide +kernel
theorem d_L_law_916 : decode b_L_law 916 = .ok (.iaload, 1) := by decide +kernel
theorem d_L_law_917 : decode b_L_law 917 = .ok (.aload_n 0, 1) := by decide +kernel
theorem d_L_law_918 : decode b_L_law 918 = .ok (.iload 4, 2) := by decide +kernel
theorem d_L_law_920 : decode b_L_law 920 = .ok (.iconst 2, 1) := by decide +kernel
theorem d_L_law_921 : decode b_L_law 921 = .ok (.iadd, 1) := by decide +kernel
theorem d_L_law_922 : decode b_L_law 922 = .ok (.iaload, 1) := by decide +kernel
theorem d_L_law_923 : decode b_L_law 923 = .ok (.i2l, 1) := by decide +kernel
theorem d_L_law_924 : decode b_L_law 924 = .ok (.bipush 32, 2) := by decide +kernel
theorem d_L_law_926 : decode b_L_law 926 = .ok (.lshl, 1) := by decide +kernel
theorem d_L_law_927 : decode b_L_law 927 = .ok (.aload_n 0, 1) := by decide +kernel
theorem d_L_law_928 : decode b_L_law 928 = .ok (.iload 4, 2) := by decide +kernel
theorem d_L_law_930 : decode b_L_law 930 = .ok (.iconst 3, 1) := by decide +kernel
theorem d_L_law_931 : decode b_L_law 931 = .ok (.iadd, 1) := by decide +kernel
theorem d_L_law_932 : decode b_L_law 932 = .ok (.iaload, 1) := by decide +kernel
theorem d_L_law_933 : decode b_L_law 933 = .ok (.i2l, 1) := by decide +kernel
theorem d_L_law_934 : decode b_L_law 934 = .ok (.ldc2_w 90, 3) := by decide +kernel
theorem d_L_law_937 : decode b_L_law 937 = .ok (.land, 1) := by decide +kernel
theorem d_L_law_938 : decode b_L_law 938 = .ok (.lor, 1) := by decide +kernel
theorem d_L_law_939 : decode b_L_law 939 = .ok (.aload_n 0, 1) := by decide +kernel
theorem d_L_law_940 : decode b_L_law 940 = .ok (.iload 4, 2) := by decide +kernel
theorem d_L_law_942 : decode b_L_law 942 = .ok (.iconst 4, 1) := by decide +kernel
theorem d_L_law_943 : decode b_L_law 943 = .ok (.iadd, 1) := by decide +kernel
theorem d_L_law_944 : decode b_L_law 944 = .ok (.iaload, 1) := by decide +kernel
theorem d_L_law_945 : decode b_L_law 945 = .ok (.aload_n 0, 1) := by decide +kernel
theorem d_L_law_946 : decode b_L_law 946 = .ok (.iload 4, 2) := by decide +kernel
theorem d_L_law_948 : decode b_L_law 948 = .ok (.iconst 5, 1) := by decide +kernel
theorem d_L_law_949 : decode b_L_law 949 = .ok (.iadd, 1) := by decide +kernel
theorem d_L_law_950 : decode b_L_law 950 = .ok (.iaload, 1) := by decide +kernel
theorem d_L_law_951 : decode b_L_law 951 = .ok (.aload_n 0, 1) := by decide +kernel
theorem d_L_law_952 : decode b_L_law 952 = .ok (.iload 4, 2) := by decide +kernel
theorem d_L_law_954 : decode b_L_law 954 = .ok (.bipush 6, 2) := by decide +kernel
theorem d_L_law_956 : decode b_L_law 956 = .ok (.iadd, 1) := by decide +kernel
theorem d_L_law_957 : decode b_L_law 957 = .ok (.iaload, 1) := by decide +kernel
theorem d_L_law_958 : decode b_L_law 958 = .ok (.invokevirtual 130, 3) := by decide +kernel
theorem d_L_law_961 : decode b_L_law 961 = .ok (.lstore 6, 2) := by decide +kernel
theorem d_L_law_963 : decode b_L_law 963 = .ok (.aload_n 2, 1) := by decide +kernel
theorem d_L_law_964 : decode b_L_law 964 = .ok (.invokevirtual 86, 3) := by decide +kernel
theorem d_L_law_967 : decode b_L_law 967 = .ok (.iload 5, 2) := by decide +kernel
theorem d_L_law_969 : decode b_L_law 969 = .ok (.if_icmp .eq 5, 3) := by decide +kernel
theorem d_L_law_972 : decode b_L_law 972 = .ok (.iconst 0, 1) := by decide +kernel
theorem d_L_law_973 : decode b_L_law 973 = .ok (.ireturn, 1) := by decide +kernel
theorem d_L_law_974 : decode b_L_law 974 = .ok (.iload 5, 2) := by decide +kernel
theorem d_L_law_976 : decode b_L_law 976 = .ok (.ifCond .ne 14, 3) := by decide +kernel
theorem d_L_law_979 : decode b_L_law 979 = .ok (.aload_n 3, 1) := by decide +kernel
theorem d_L_law_980 : decode b_L_law 980 = .ok (.iconst 0, 1) := by decide +kernel
theorem d_L_law_981 : decode b_L_law 981 = .ok (.laload, 1) := by decide +kernel
theorem d_L_law_982 : decode b_L_law 982 = .ok (.lload 6, 2) := by decide +kernel
theorem d_L_law_984 : decode b_L_law 984 = .ok (.lcmp, 1) := by decide +kernel
theorem d_L_law_985 : decode b_L_law 985 = .ok (.ifCond .eq 5, 3) := by decide +kernel
theorem d_L_law_988 : decode b_L_law 988 = .ok (.iconst 0, 1) := by decide +kernel
theorem d_L_law_989 : decode b_L_law 989 = .ok (.ireturn, 1) := by decide +kernel
theorem d_L_law_990 : decode b_L_law 990 = .ok (.goto 675, 3) := by decide +kernel
theorem d_L_law_993 : decode b_L_law 993 = .ok (.aload_n 1, 1) := by decide +kernel
theorem d_L_law_994 : decode b_L_law 994 = .ok (.aload_n 0, 1) := by decide +kernel
theorem d_L_law_995 : decode b_L_law 995 = .ok (.iload 4, 2) := by decide +kernel
theorem d_L_law_997 : decode b_L_law 997 = .ok (.iconst 1, 1) := by decide +kernel
theorem d_L_law_998 : decode b_L_law 998 = .ok (.iadd, 1) := by decide +kernel
theorem d_L_law_999 : decode b_L_law 999 = .ok (.iaload, 1) := by decide +kernel
theorem d_L_law_1000 : decode b_L_law 1000 = .ok (.aload_n 0, 1) := by decide +kernel
theorem d_L_law_1001 : decode b_L_law 1001 = .ok (.iload 4, 2) := by decide +kernel
theorem d_L_law_1003 : decode b_L_law 1003 = .ok (.iconst 2, 1) := by decide +kernel
theorem d_L_law_1004 : decode b_L_law 1004 = .ok (.iadd, 1) := by decide +kernel
theorem d_L_law_1005 : decode b_L_law 1005 = .ok (.iaload, 1) := by decide +kernel
theorem d_L_law_1006 : decode b_L_law 1006 = .ok (.i2l, 1) := by decide +kernel
theorem d_L_law_1007 : decode b_L_law 1007 = .ok (.bipush 32, 2) := by decide +kernel
theorem d_L_law_1009 : decode b_L_law 1009 = .ok (.lshl, 1) := by decide +kernel
theorem d_L_law_1010 : decode b_L_law 1010 = .ok (.aload_n 0, 1) := by decide +kernel
theorem d_L_law_1011 : decode b_L_law 1011 = .ok (.iload 4, 2) := by decide +kernel
theorem d_L_law_1013 : decode b_L_law 1013 = .ok (.iconst 3, 1) := by decide +kernel
theorem d_L_law_1014 : decode b_L_law 1014 = .ok (.iadd, 1) := by decide +kernel
theorem d_L_law_1015 : decode b_L_law 1015 = .ok (.iaload, 1) := by decide +kernel
theorem d_L_law_1016 : decode b_L_law 1016 = .ok (.i2l, 1) := by decide +kernel
theorem d_L_law_1017 : decode b_L_law 1017 = .ok (.ldc2_w 90, 3) := by decide +kernel
theorem d_L_law_1020 : decode b_L_law 1020 = .ok (.land, 1) := by decide +kernel
theorem d_L_law_1021 : decode b_L_law 1021 = .ok (.lor, 1) := by decide +kernel
theorem d_L_law_1022 : decode b_L_law 1022 = .ok (.aload_n 0, 1) := by decide +kernel
theorem d_L_law_1023 : decode b_L_law 1023 = .ok (.iload 4, 2) := by decide +kernel
theorem d_L_law_1025 : decode b_L_law 1025 = .ok (.iconst 4, 1) := by decide +kernel
theorem d_L_law_1026 : decode b_L_law 1026 = .ok (.iadd, 1) := by decide +kernel
theorem d_L_law_1027 : decode b_L_law 1027 = .ok (.iaload, 1) := by decide +kernel
theorem d_L_law_1028 : decode b_L_law 1028 = .ok (.i2l, 1) := by decide +kernel
theorem d_L_law_1029 : decode b_L_law 1029 = .ok (.bipush 32, 2) := by decide +kernel
theorem d_L_law_1031 : decode b_L_law 1031 = .ok (.lshl, 1) := by decide +kernel
theorem d_L_law_1032 : decode b_L_law 1032 = .ok (.aload_n 0, 1) := by decide +kernel
theorem d_L_law_1033 : decode b_L_law 1033 = .ok (.iload 4, 2) := by decide +kernel
theorem d_L_law_1035 : decode b_L_law 1035 = .ok (.iconst 5, 1) := by decide +kernel
theorem d_L_law_1036 : decode b_L_law 1036 = .ok (.iadd, 1) := by decide +kernel
theorem d_L_law_1037 : decode b_L_law 1037 = .ok (.iaload, 1) := by decide +kernel
theorem d_L_law_1038 : decode b_L_law 1038 = .ok (.i2l, 1) := by decide +kernel
theorem d_L_law_1039 : decode b_L_law 1039 = .ok (.ldc2_w 90, 3) := by decide +kernel
theorem d_L_law_1042 : decode b_L_law 1042 = .ok (.land, 1) := by decide +kernel
theorem d_L_law_1043 : decode b_L_law 1043 = .ok (.lor, 1) := by decide +kernel
theorem d_L_law_1044 : decode b_L_law 1044 = .ok (.aload_n 3, 1) := by decide +kernel
theorem d_L_law_1045 : decode b_L_law 1045 = .ok (.invokestatic 131, 3) := by decide +kernel
theorem d_L_law_1048 : decode b_L_law 1048 = .ok (.istore 5, 2) := by decide +kernel
theorem d_L_law_1050 : decode b_L_law 1050 = .ok (.aload_n 2, 1) := by decide +kernel
theorem d_L_law_1051 : decode b_L_law 1051 = .ok (.aload_n 0, 1) := by decide +kernel
theorem d_L_law_1052 : decode b_L_law 1052 = .ok (.iload 4, 2) := by decide +kernel
theorem d_L_law_1054 : decode b_L_law 1054 = .ok (.iconst 1, 1) := by decide +kernel
theorem d_L_law_1055 : decode b_L_law 1055 = .ok (.iadd, 1) := by decide +kernel
theorem d_L_law_1056 : decode b_L_law 1056 = .ok (.iaload, 1) := by decide +kernel
theorem d_L_law_1057 : decode b_L_law 1057 = .ok (.aload_n 0, 1) := by decide +kernel
theorem d_L_law_1058 : decode b_L_law 1058 = .ok (.iload 4, 2) := by decide +kernel
theorem d_L_law_1060 : decode b_L_law 1060 = .ok (.iconst 2, 1) := by decide +kernel
theorem d_L_law_1061 : decode b_L_law 1061 = .ok (.iadd, 1) := by decide +kernel
theorem d_L_law_1062 : decode b_L_law 1062 = .ok (.iaload, 1) := by decide +kernel
theorem d_L_law_1063 : decode b_L_law 1063 = .ok (.i2l, 1) := by decide +kernel
theorem d_L_law_1064 : decode b_L_law 1064 = .ok (.bipush 32, 2) := by decide +kernel
theorem d_L_law_1066 : decode b_L_law 1066 = .ok (.lshl, 1) := by decide +kernel
theorem d_L_law_1067 : decode b_L_law 1067 = .ok (.aload_n 0, 1) := by decide +kernel
theorem d_L_law_1068 : decode b_L_law 1068 = .ok (.iload 4, 2) := by decide +kernel
theorem d_L_law_1070 : decode b_L_law 1070 = .ok (.iconst 3, 1) := by decide +kernel
theorem d_L_law_1071 : decode b_L_law 1071 = .ok (.iadd, 1) := by decide +kernel
theorem d_L_law_1072 : decode b_L_law 1072 = .ok (.iaload, 1) := by decide +kernel
theorem d_L_law_1073 : decode b_L_law 1073 = .ok (.i2l, 1) := by decide +kernel
theorem d_L_law_1074 : decode b_L_law 1074 = .ok (.ldc2_w 90, 3) := by decide +kernel
theorem d_L_law_1077 : decode b_L_law 1077 = .ok (.land, 1) := by decide +kernel
theorem d_L_law_1078 : decode b_L_law 1078 = .ok (.lor, 1) := by decide +kernel
theorem d_L_law_1079 : decode b_L_law 1079 = .ok (.aload_n 0, 1) := by decide +kernel
theorem d_L_law_1080 : decode b_L_law 1080 = .ok (.iload 4, 2) := by decide +kernel
theorem d_L_law_1082 : decode b_L_law 1082 = .ok (.iconst 4, 1) := by decide +kernel
theorem d_L_law_1083 : decode b_L_law 1083 = .ok (.iadd, 1) := by decide +kernel
theorem d_L_law_1084 : decode b_L_law 1084 = .ok (.iaload, 1) := by decide +kernel
theorem d_L_law_1085 : decode b_L_law 1085 = .ok (.i2l, 1) := by decide +kernel
theorem d_L_law_1086 : decode b_L_law 1086 = .ok (.bipush 32, 2) := by decide +kernel
theorem d_L_law_1088 : decode b_L_law 1088 = .ok (.lshl, 1) := by decide +kernel
theorem d_L_law_1089 : decode b_L_law 1089 = .ok (.aload_n 0, 1) := by decide +kernel
theorem d_L_law_1090 : decode b_L_law 1090 = .ok (.iload 4, 2) := by decide +kernel
theorem d_L_law_1092 : decode b_L_law 1092 = .ok (.iconst 5, 1) := by decide +kernel
theorem d_L_law_1093 : decode b_L_law 1093 = .ok (.iadd, 1) := by decide +kernel
theorem d_L_law_1094 : decode b_L_law 1094 = .ok (.iaload, 1) := by decide +kernel
theorem d_L_law_1095 : decode b_L_law 1095 = .ok (.i2l, 1) := by decide +kernel
theorem d_L_law_1096 : decode b_L_law 1096 = .ok (.ldc2_w 90, 3) := by decide +kernel
theorem d_L_law_1099 : decode b_L_law 1099 = .ok (.land, 1) := by decide +kernel
theorem d_L_law_1100 : decode b_L_law 1100 = .ok (.lor, 1) := by decide +kernel
theorem d_L_law_1101 : decode b_L_law 1101 = .ok (.invokevirtual 134, 3) := by decide +kernel
theorem d_L_law_1104 : decode b_L_law 1104 = .ok (.lstore 6, 2) := by decide +kernel
theorem d_L_law_1106 : decode b_L_law 1106 = .ok (.aload_n 2, 1) := by decide +kernel
theorem d_L_law_1107 : decode b_L_law 1107 = .ok (.invokevirtual 86, 3) := by decide +kernel
theorem d_L_law_1110 : decode b_L_law 1110 = .ok (.iload 5, 2) := by decide +kernel
theorem d_L_law_1112 : decode b_L_law 1112 = .ok (.if_icmp .eq 5, 3) := by decide +kernel
theorem d_L_law_1115 : decode b_L_law 1115 = .ok (.iconst 0, 1) := by decide +kernel
theorem d_L_law_1116 : decode b_L_law 1116 = .ok (.ireturn, 1) := by decide +kernel
theorem d_L_law_1117 : decode b_L_law 1117 = .ok (.iload 5, 2) := by decide +kernel
theorem d_L_law_1119 : decode b_L_law 1119 = .ok (.ifCond .ne 14, 3) := by decide +kernel
theorem d_L_law_1122 : decode b_L_law 1122 = .ok (.aload_n 3, 1) := by decide +kernel
theorem d_L_law_1123 : decode b_L_law 1123 = .ok (.iconst 0, 1) := by decide +kernel
theorem d_L_law_1124 : decode b_L_law 1124 = .ok (.laload, 1) := by decide +kernel
theorem d_L_law_1125 : decode b_L_law 1125 = .ok (.lload 6, 2) := by decide +kernel
theorem d_L_law_1127 : decode b_L_law 1127 = .ok (.lcmp, 1) := by decide +kernel
theorem d_L_law_1128 : decode b_L_law 1128 = .ok (.ifCond .eq 5, 3) := by decide +kernel
theorem d_L_law_1131 : decode b_L_law 1131 = .ok (.iconst 0, 1) := by decide +kernel
theorem d_L_law_1132 : decode b_L_law 1132 = .ok (.ireturn, 1) := by decide +kernel
theorem d_L_law_1133 : decode b_L_law 1133 = .ok (.goto 532, 3) := by decide +kernel
theorem d_L_law_1136 : decode b_L_law 1136 = .ok (.aload_n 1, 1) := by decide +kernel
theorem d_L_law_1137 : decode b_L_law 1137 = .ok (.aload_n 0, 1) := by decide +kernel
theorem d_L_law_1138 : decode b_L_law 1138 = .ok (.iload 4, 2) := by decide +kernel
theorem d_L_law_1140 : decode b_L_law 1140 = .ok (.iconst 1, 1) := by decide +kernel
theorem d_L_law_1141 : decode b_L_law 1141 = .ok (.iadd, 1) := by decide +kernel
theorem d_L_law_1142 : decode b_L_law 1142 = .ok (.iaload, 1) := by decide +kernel
theorem d_L_law_1143 : decode b_L_law 1143 = .ok (.aload_n 0, 1) := by decide +kernel
theorem d_L_law_1144 : decode b_L_law 1144 = .ok (.iload 4, 2) := by decide +kernel
theorem d_L_law_1146 : decode b_L_law 1146 = .ok (.iconst 2, 1) := by decide +kernel
theorem d_L_law_1147 : decode b_L_law 1147 = .ok (.iadd, 1) := by decide +kernel
theorem d_L_law_1148 : decode b_L_law 1148 = .ok (.iaload, 1) := by decide +kernel
theorem d_L_law_1149 : decode b_L_law 1149 = .ok (.i2l, 1) := by decide +kernel
theorem d_L_law_1150 : decode b_L_law 1150 = .ok (.bipush 32, 2) := by decide +kernel
theorem d_L_law_1152 : decode b_L_law 1152 = .ok (.lshl, 1) := by decide +kernel
theorem d_L_law_1153 : decode b_L_law 1153 = .ok (.aload_n 0, 1) := by decide +kernel
theorem d_L_law_1154 : decode b_L_law 1154 = .ok (.iload 4, 2) := by decide +kernel
theorem d_L_law_1156 : decode b_L_law 1156 = .ok (.iconst 3, 1) := by decide +kernel
theorem d_L_law_1157 : decode b_L_law 1157 = .ok (.iadd, 1) := by decide +kernel
theorem d_L_law_1158 : decode b_L_law 1158 = .ok (.iaload, 1) := by decide +kernel
theorem d_L_law_1159 : decode b_L_law 1159 = .ok (.i2l, 1) := by decide +kernel
theorem d_L_law_1160 : decode b_L_law 1160 = .ok (.ldc2_w 90, 3) := by decide +kernel
theorem d_L_law_1163 : decode b_L_law 1163 = .ok (.land, 1) := by decide +kernel
theorem d_L_law_1164 : decode b_L_law 1164 = .ok (.lor, 1) := by decide +kernel
theorem d_L_law_1165 : decode b_L_law 1165 = .ok (.aload_n 0, 1) := by decide +kernel
theorem d_L_law_1166 : decode b_L_law 1166 = .ok (.iload 4, 2) := by decide +kernel
theorem d_L_law_1168 : decode b_L_law 1168 = .ok (.iconst 4, 1) := by decide +kernel
theorem d_L_law_1169 : decode b_L_law 1169 = .ok (.iadd, 1) := by decide +kernel
theorem d_L_law_1170 : decode b_L_law 1170 = .ok (.iaload, 1) := by decide +kernel
theorem d_L_law_1171 : decode b_L_law 1171 = .ok (.aload_n 0, 1) := by decide +kernel
theorem d_L_law_1172 : decode b_L_law 1172 = .ok (.iload 4, 2) := by decide +kernel
theorem d_L_law_1174 : decode b_L_law 1174 = .ok (.iconst 5, 1) := by decide +kernel
theorem d_L_law_1175 : decode b_L_law 1175 = .ok (.iadd, 1) := by decide +kernel
theorem d_L_law_1176 : decode b_L_law 1176 = .ok (.iaload, 1) := by decide +kernel
theorem d_L_law_1177 : decode b_L_law 1177 = .ok (.aload_n 3, 1) := by decide +kernel
theorem d_L_law_1178 : decode b_L_law 1178 = .ok (.invokestatic 135, 3) := by decide +kernel
theorem d_L_law_1181 : decode b_L_law 1181 = .ok (.istore 5, 2) := by decide +kernel
theorem d_L_law_1183 : decode b_L_law 1183 = .ok (.aload_n 2, 1) := by decide +kernel
theorem d_L_law_1184 : decode b_L_law 1184 = .ok (.aload_n 0, 1) := by decide +kernel
theorem d_L_law_1185 : decode b_L_law 1185 = .ok (.iload 4, 2) := by decide +kernel
theorem d_L_law_1187 : decode b_L_law 1187 = .ok (.iconst 1, 1) := by decide +kernel
theorem d_L_law_1188 : decode b_L_law 1188 = .ok (.iadd, 1) := by decide +kernel
theorem d_L_law_1189 : decode b_L_law 1189 = .ok (.iaload, 1) := by decide +kernel
theorem d_L_law_1190 : decode b_L_law 1190 = .ok (.aload_n 0, 1) := by decide +kernel
theorem d_L_law_1191 : decode b_L_law 1191 = .ok (.iload 4, 2) := by decide +kernel
theorem d_L_law_1193 : decode b_L_law 1193 = .ok (.iconst 2, 1) := by decide +kernel
theorem d_L_law_1194 : decode b_L_law 1194 = .ok (.iadd, 1) := by decide +kernel
theorem d_L_law_1195 : decode b_L_law 1195 = .ok (.iaload, 1) := by decide +kernel
theorem d_L_law_1196 : decode b_L_law 1196 = .ok (.i2l, 1) := by decide +kernel
theorem d_L_law_1197 : decode b_L_law 1197 = .ok (.bipush 32, 2) := by decide +kernel
theorem d_L_law_1199 : decode b_L_law 1199 = .ok (.lshl, 1) := by decide +kernel
theorem d_L_law_1200 : decode b_L_law 1200 = .ok (.aload_n 0, 1) := by decide +kernel
theorem d_L_law_1201 : decode b_L_law 1201 = .ok (.iload 4, 2) := by decide +kernel
theorem d_L_law_1203 : decode b_L_law 1203 = .ok (.iconst 3, 1) := by decide +kernel
theorem d_L_law_1204 : decode b_L_law 1204 = .ok (.iadd, 1) := by decide +kernel
theorem d_L_law_1205 : decode b_L_law 1205 = .ok (.iaload, 1) := by decide +kernel
theorem d_L_law_1206 : decode b_L_law 1206 = .ok (.i2l, 1) := by decide +kernel
theorem d_L_law_1207 : decode b_L_law 1207 = .ok (.ldc2_w 90, 3) := by decide +kernel
theorem d_L_law_1210 : decode b_L_law 1210 = .ok (.land, 1) := by decide +kernel
theorem d_L_law_1211 : decode b_L_law 1211 = .ok (.lor, 1) := by decide +kernel
theorem d_L_law_1212 : decode b_L_law 1212 = .ok (.aload_n 0, 1) := by decide +kernel
theorem d_L_law_1213 : decode b_L_law 1213 = .ok (.iload 4, 2) := by decide +kernel
theorem d_L_law_1215 : decode b_L_law 1215 = .ok (.iconst 4, 1) := by decide +kernel
theorem d_L_law_1216 : decode b_L_law 1216 = .ok (.iadd, 1) := by decide +kernel
theorem d_L_law_1217 : decode b_L_law 1217 = .ok (.iaload, 1) := by decide +kernel
theorem d_L_law_1218 : decode b_L_law 1218 = .ok (.aload_n 0, 1) := by decide +kernel
theorem d_L_law_1219 : decode b_L_law 1219 = .ok (.iload 4, 2) := by decide +kernel
theorem d_L_law_1221 : decode b_L_law 1221 = .ok (.iconst 5, 1) := by decide +kernel
theorem d_L_law_1222 : decode b_L_law 1222 = .ok (.iadd, 1) := by decide +kernel
theorem d_L_law_1223 : decode b_L_law 1223 = .ok (.iaload, 1) := by decide +kernel
theorem d_L_law_1224 : decode b_L_law 1224 = .ok (.invokevirtual 137, 3) := by decide +kernel
theorem d_L_law_1227 : decode b_L_law 1227 = .ok (.istore 6, 2) := by decide +kernel
theorem d_L_law_1229 : decode b_L_law 1229 = .ok (.aload_n 2, 1) := by decide +kernel
theorem d_L_law_1230 : decode b_L_law 1230 = .ok (.invokevirtual 86, 3) := by decide +kernel
theorem d_L_law_1233 : decode b_L_law 1233 = .ok (.iload 5, 2) := by decide +kernel
theorem d_L_law_1235 : decode b_L_law 1235 = .ok (.if_icmp .eq 5, 3) := by decide +kernel
theorem d_L_law_1238 : decode b_L_law 1238 = .ok (.iconst 0, 1) := by decide +kernel
theorem d_L_law_1239 : decode b_L_law 1239 = .ok (.ireturn, 1) := by decide +kernel
theorem d_L_law_1240 : decode b_L_law 1240 = .ok (.iload 5, 2) := by decide +kernel
theorem d_L_law_1242 : decode b_L_law 1242 = .ok (.ifCond .ne 22, 3) := by decide +kernel
theorem d_L_law_1245 : decode b_L_law 1245 = .ok (.aload_n 3, 1) := by decide +kernel
theorem d_L_law_1246 : decode b_L_law 1246 = .ok (.iconst 0, 1) := by decide +kernel
theorem d_L_law_1247 : decode b_L_law 1247 = .ok (.laload, 1) := by decide +kernel
theorem d_L_law_1248 : decode b_L_law 1248 = .ok (.iload 6, 2) := by decide +kernel
theorem d_L_law_1250 : decode b_L_law 1250 = .ok (.ifCond .eq 7, 3) := by decide +kernel
theorem d_L_law_1253 : decode b_L_law 1253 = .ok (.lconst 1, 1) := by decide +kernel
theorem d_L_law_1254 : decode b_L_law 1254 = .ok (.goto 4, 3) := by decide +kernel
