/-! The law: its rows 2 (written by wip/whole/genlaw.py) -/
section
theorem d417_744 : decode code 744 = .ok (.aload_n 2, 1) := by decide +kernel
theorem d417_745 : decode code 745 = .ok (.aload_n 0, 1) := by decide +kernel
theorem d417_746 : decode code 746 = .ok (.iload 4, 2) := by decide +kernel
theorem d417_748 : decode code 748 = .ok (.iconst 1, 1) := by decide +kernel
theorem d417_749 : decode code 749 = .ok (.iadd, 1) := by decide +kernel
theorem d417_750 : decode code 750 = .ok (.iaload, 1) := by decide +kernel
theorem d417_751 : decode code 751 = .ok (.invokevirtual 184, 3) := by decide +kernel
theorem d417_754 : decode code 754 = .ok (.istore 6, 2) := by decide +kernel
theorem d417_756 : decode code 756 = .ok (.aload_n 2, 1) := by decide +kernel
theorem d417_757 : decode code 757 = .ok (.invokevirtual 147, 3) := by decide +kernel
theorem d417_760 : decode code 760 = .ok (.iload 5, 2) := by decide +kernel
theorem d417_762 : decode code 762 = .ok (.if_icmp .eq 5, 3) := by decide +kernel
theorem d417_765 : decode code 765 = .ok (.iconst 0, 1) := by decide +kernel
theorem d417_766 : decode code 766 = .ok (.ireturn, 1) := by decide +kernel
theorem d417_767 : decode code 767 = .ok (.iload 5, 2) := by decide +kernel
theorem d417_769 : decode code 769 = .ok (.ifCond .ne 15, 3) := by decide +kernel
theorem d417_772 : decode code 772 = .ok (.aload_n 3, 1) := by decide +kernel
theorem d417_773 : decode code 773 = .ok (.iconst 0, 1) := by decide +kernel
theorem d417_774 : decode code 774 = .ok (.laload, 1) := by decide +kernel
theorem d417_775 : decode code 775 = .ok (.iload 6, 2) := by decide +kernel
theorem d417_777 : decode code 777 = .ok (.i2l, 1) := by decide +kernel
theorem d417_778 : decode code 778 = .ok (.lcmp, 1) := by decide +kernel
theorem d417_779 : decode code 779 = .ok (.ifCond .eq 5, 3) := by decide +kernel
theorem d417_782 : decode code 782 = .ok (.iconst 0, 1) := by decide +kernel
theorem d417_783 : decode code 783 = .ok (.ireturn, 1) := by decide +kernel
theorem d417_784 : decode code 784 = .ok (.goto 1999, 3) := by decide +kernel
theorem d417_787 : decode code 787 = .ok (.aload_n 1, 1) := by decide +kernel
theorem d417_788 : decode code 788 = .ok (.aload_n 0, 1) := by decide +kernel
theorem d417_789 : decode code 789 = .ok (.iload 4, 2) := by decide +kernel
theorem d417_791 : decode code 791 = .ok (.iconst 1, 1) := by decide +kernel
theorem d417_792 : decode code 792 = .ok (.iadd, 1) := by decide +kernel
theorem d417_793 : decode code 793 = .ok (.iaload, 1) := by decide +kernel
theorem d417_794 : decode code 794 = .ok (.aload_n 3, 1) := by decide +kernel
theorem d417_795 : decode code 795 = .ok (.invokestatic 185, 3) := by decide +kernel
theorem d417_798 : decode code 798 = .ok (.istore 5, 2) := by decide +kernel
theorem d417_800 : decode code 800 = .ok (.aload_n 2, 1) := by decide +kernel
theorem d417_801 : decode code 801 = .ok (.aload_n 0, 1) := by decide +kernel
theorem d417_802 : decode code 802 = .ok (.iload 4, 2) := by decide +kernel
theorem d417_804 : decode code 804 = .ok (.iconst 1, 1) := by decide +kernel
theorem d417_805 : decode code 805 = .ok (.iadd, 1) := by decide +kernel
theorem d417_806 : decode code 806 = .ok (.iaload, 1) := by decide +kernel
theorem d417_807 : decode code 807 = .ok (.invokevirtual 187, 3) := by decide +kernel
theorem d417_810 : decode code 810 = .ok (.istore 6, 2) := by decide +kernel
theorem d417_812 : decode code 812 = .ok (.aload_n 2, 1) := by decide +kernel
theorem d417_813 : decode code 813 = .ok (.invokevirtual 147, 3) := by decide +kernel
theorem d417_816 : decode code 816 = .ok (.iload 5, 2) := by decide +kernel
theorem d417_818 : decode code 818 = .ok (.if_icmp .eq 5, 3) := by decide +kernel
theorem d417_821 : decode code 821 = .ok (.iconst 0, 1) := by decide +kernel
theorem d417_822 : decode code 822 = .ok (.ireturn, 1) := by decide +kernel
theorem d417_823 : decode code 823 = .ok (.iload 5, 2) := by decide +kernel
theorem d417_825 : decode code 825 = .ok (.ifCond .ne 15, 3) := by decide +kernel
theorem d417_828 : decode code 828 = .ok (.aload_n 3, 1) := by decide +kernel
theorem d417_829 : decode code 829 = .ok (.iconst 0, 1) := by decide +kernel
theorem d417_830 : decode code 830 = .ok (.laload, 1) := by decide +kernel
theorem d417_831 : decode code 831 = .ok (.iload 6, 2) := by decide +kernel
theorem d417_833 : decode code 833 = .ok (.i2l, 1) := by decide +kernel
theorem d417_834 : decode code 834 = .ok (.lcmp, 1) := by decide +kernel
theorem d417_835 : decode code 835 = .ok (.ifCond .eq 5, 3) := by decide +kernel
theorem d417_838 : decode code 838 = .ok (.iconst 0, 1) := by decide +kernel
theorem d417_839 : decode code 839 = .ok (.ireturn, 1) := by decide +kernel
theorem d417_840 : decode code 840 = .ok (.goto 1943, 3) := by decide +kernel
theorem d417_843 : decode code 843 = .ok (.aload_n 1, 1) := by decide +kernel
theorem d417_844 : decode code 844 = .ok (.aload_n 0, 1) := by decide +kernel
theorem d417_845 : decode code 845 = .ok (.iload 4, 2) := by decide +kernel
theorem d417_847 : decode code 847 = .ok (.iconst 1, 1) := by decide +kernel
theorem d417_848 : decode code 848 = .ok (.iadd, 1) := by decide +kernel
theorem d417_849 : decode code 849 = .ok (.iaload, 1) := by decide +kernel
theorem d417_850 : decode code 850 = .ok (.aload_n 3, 1) := by decide +kernel
theorem d417_851 : decode code 851 = .ok (.invokestatic 188, 3) := by decide +kernel
theorem d417_854 : decode code 854 = .ok (.istore 5, 2) := by decide +kernel
theorem d417_856 : decode code 856 = .ok (.aload_n 2, 1) := by decide +kernel
theorem d417_857 : decode code 857 = .ok (.aload_n 0, 1) := by decide +kernel
theorem d417_858 : decode code 858 = .ok (.iload 4, 2) := by decide +kernel
theorem d417_860 : decode code 860 = .ok (.iconst 1, 1) := by decide +kernel
theorem d417_861 : decode code 861 = .ok (.iadd, 1) := by decide +kernel
theorem d417_862 : decode code 862 = .ok (.iaload, 1) := by decide +kernel
theorem d417_863 : decode code 863 = .ok (.invokevirtual 190, 3) := by decide +kernel
theorem d417_866 : decode code 866 = .ok (.istore 6, 2) := by decide +kernel
theorem d417_868 : decode code 868 = .ok (.aload_n 2, 1) := by decide +kernel
theorem d417_869 : decode code 869 = .ok (.invokevirtual 147, 3) := by decide +kernel
theorem d417_872 : decode code 872 = .ok (.iload 5, 2) := by decide +kernel
theorem d417_874 : decode code 874 = .ok (.if_icmp .eq 5, 3) := by decide +kernel
theorem d417_877 : decode code 877 = .ok (.iconst 0, 1) := by decide +kernel
theorem d417_878 : decode code 878 = .ok (.ireturn, 1) := by decide +kernel
theorem d417_879 : decode code 879 = .ok (.iload 5, 2) := by decide +kernel
theorem d417_881 : decode code 881 = .ok (.ifCond .ne 15, 3) := by decide +kernel
theorem d417_884 : decode code 884 = .ok (.aload_n 3, 1) := by decide +kernel
theorem d417_885 : decode code 885 = .ok (.iconst 0, 1) := by decide +kernel
theorem d417_886 : decode code 886 = .ok (.laload, 1) := by decide +kernel
theorem d417_887 : decode code 887 = .ok (.iload 6, 2) := by decide +kernel
theorem d417_889 : decode code 889 = .ok (.i2l, 1) := by decide +kernel
theorem d417_890 : decode code 890 = .ok (.lcmp, 1) := by decide +kernel
theorem d417_891 : decode code 891 = .ok (.ifCond .eq 5, 3) := by decide +kernel
theorem d417_894 : decode code 894 = .ok (.iconst 0, 1) := by decide +kernel
theorem d417_895 : decode code 895 = .ok (.ireturn, 1) := by decide +kernel
theorem d417_896 : decode code 896 = .ok (.goto 1887, 3) := by decide +kernel
theorem d417_899 : decode code 899 = .ok (.aload_n 1, 1) := by decide +kernel
theorem d417_900 : decode code 900 = .ok (.aload_n 3, 1) := by decide +kernel
theorem d417_901 : decode code 901 = .ok (.invokestatic 191, 3) := by decide +kernel
theorem d417_904 : decode code 904 = .ok (.istore 5, 2) := by decide +kernel
theorem d417_906 : decode code 906 = .ok (.aload_n 2, 1) := by decide +kernel
theorem d417_907 : decode code 907 = .ok (.invokevirtual 194, 3) := by decide +kernel
theorem d417_910 : decode code 910 = .ok (.istore 6, 2) := by decide +kernel
theorem d417_912 : decode code 912 = .ok (.aload_n 2, 1) := by decide +kernel
theorem d417_913 : decode code 913 = .ok (.invokevirtual 147, 3) := by decide +kernel
theorem d417_916 : decode code 916 = .ok (.iload 5, 2) := by decide +kernel
theorem d417_918 : decode code 918 = .ok (.if_icmp .eq 5, 3) := by decide +kernel
theorem d417_921 : decode code 921 = .ok (.iconst 0, 1) := by decide +kernel
theorem d417_922 : decode code 922 = .ok (.ireturn, 1) := by decide +kernel
theorem d417_923 : decode code 923 = .ok (.iload 5, 2) := by decide +kernel
theorem d417_925 : decode code 925 = .ok (.ifCond .ne 15, 3) := by decide +kernel
theorem d417_928 : decode code 928 = .ok (.aload_n 3, 1) := by decide +kernel
theorem d417_929 : decode code 929 = .ok (.iconst 0, 1) := by decide +kernel
theorem d417_930 : decode code 930 = .ok (.laload, 1) := by decide +kernel
theorem d417_931 : decode code 931 = .ok (.iload 6, 2) := by decide +kernel
theorem d417_933 : decode code 933 = .ok (.i2l, 1) := by decide +kernel
theorem d417_934 : decode code 934 = .ok (.lcmp, 1) := by decide +kernel
theorem d417_935 : decode code 935 = .ok (.ifCond .eq 5, 3) := by decide +kernel
theorem d417_938 : decode code 938 = .ok (.iconst 0, 1) := by decide +kernel
theorem d417_939 : decode code 939 = .ok (.ireturn, 1) := by decide +kernel
theorem d417_940 : decode code 940 = .ok (.goto 1843, 3) := by decide +kernel
theorem d417_943 : decode code 943 = .ok (.aload_n 1, 1) := by decide +kernel
theorem d417_944 : decode code 944 = .ok (.aload_n 3, 1) := by decide +kernel
theorem d417_945 : decode code 945 = .ok (.invokestatic 195, 3) := by decide +kernel
theorem d417_948 : decode code 948 = .ok (.istore 5, 2) := by decide +kernel
theorem d417_950 : decode code 950 = .ok (.aload_n 2, 1) := by decide +kernel
theorem d417_951 : decode code 951 = .ok (.invokevirtual 197, 3) := by decide +kernel
theorem d417_954 : decode code 954 = .ok (.istore 6, 2) := by decide +kernel
theorem d417_956 : decode code 956 = .ok (.aload_n 2, 1) := by decide +kernel
theorem d417_957 : decode code 957 = .ok (.invokevirtual 147, 3) := by decide +kernel
theorem d417_960 : decode code 960 = .ok (.iload 5, 2) := by decide +kernel
theorem d417_962 : decode code 962 = .ok (.if_icmp .eq 5, 3) := by decide +kernel
theorem d417_965 : decode code 965 = .ok (.iconst 0, 1) := by decide +kernel
theorem d417_966 : decode code 966 = .ok (.ireturn, 1) := by decide +kernel
theorem d417_967 : decode code 967 = .ok (.iload 5, 2) := by decide +kernel
theorem d417_969 : decode code 969 = .ok (.ifCond .ne 15, 3) := by decide +kernel
theorem d417_972 : decode code 972 = .ok (.aload_n 3, 1) := by decide +kernel
theorem d417_973 : decode code 973 = .ok (.iconst 0, 1) := by decide +kernel
theorem d417_974 : decode code 974 = .ok (.laload, 1) := by decide +kernel
theorem d417_975 : decode code 975 = .ok (.iload 6, 2) := by decide +kernel
theorem d417_977 : decode code 977 = .ok (.i2l, 1) := by decide +kernel
theorem d417_978 : decode code 978 = .ok (.lcmp, 1) := by decide +kernel
theorem d417_979 : decode code 979 = .ok (.ifCond .eq 5, 3) := by decide +kernel
theorem d417_982 : decode code 982 = .ok (.iconst 0, 1) := by decide +kernel
theorem d417_983 : decode code 983 = .ok (.ireturn, 1) := by decide +kernel
theorem d417_984 : decode code 984 = .ok (.goto 1799, 3) := by decide +kernel
theorem d417_987 : decode code 987 = .ok (.aload_n 1, 1) := by decide +kernel
theorem d417_988 : decode code 988 = .ok (.invokevirtual 198, 3) := by decide +kernel
theorem d417_991 : decode code 991 = .ok (.aload_n 2, 1) := by decide +kernel
theorem d417_992 : decode code 992 = .ok (.invokevirtual 201, 3) := by decide +kernel
theorem d417_995 : decode code 995 = .ok (.if_icmp .eq 1788, 3) := by decide +kernel
theorem d417_998 : decode code 998 = .ok (.iconst 0, 1) := by decide +kernel
theorem d417_999 : decode code 999 = .ok (.ireturn, 1) := by decide +kernel
theorem d417_1000 : decode code 1000 = .ok (.aload_n 1, 1) := by decide +kernel
theorem d417_1001 : decode code 1001 = .ok (.aload_n 3, 1) := by decide +kernel
theorem d417_1002 : decode code 1002 = .ok (.invokestatic 202, 3) := by decide +kernel
theorem d417_1005 : decode code 1005 = .ok (.istore 5, 2) := by decide +kernel
theorem d417_1007 : decode code 1007 = .ok (.aload_n 2, 1) := by decide +kernel
theorem d417_1008 : decode code 1008 = .ok (.invokevirtual 204, 3) := by decide +kernel
theorem d417_1011 : decode code 1011 = .ok (.istore 6, 2) := by decide +kernel
theorem d417_1013 : decode code 1013 = .ok (.aload_n 2, 1) := by decide +kernel
theorem d417_1014 : decode code 1014 = .ok (.invokevirtual 147, 3) := by decide +kernel
theorem d417_1017 : decode code 1017 = .ok (.iload 5, 2) := by decide +kernel
theorem d417_1019 : decode code 1019 = .ok (.if_icmp .eq 5, 3) := by decide +kernel
theorem d417_1022 : decode code 1022 = .ok (.iconst 0, 1) := by decide +kernel
theorem d417_1023 : decode code 1023 = .ok (.ireturn, 1) := by decide +kernel
theorem d417_1024 : decode code 1024 = .ok (.iload 5, 2) := by decide +kernel
theorem d417_1026 : decode code 1026 = .ok (.ifCond .ne 15, 3) := by decide +kernel
theorem d417_1029 : decode code 1029 = .ok (.aload_n 3, 1) := by decide +kernel
theorem d417_1030 : decode code 1030 = .ok (.iconst 0, 1) := by decide +kernel
end
