theorem d_132_748 : decode (mC 132) 748 = .ok (.aload_n 1, 1) := by decide +kernel
theorem d_132_749 : decode (mC 132) 749 = .ok (.aload_n 0, 1) := by decide +kernel
theorem d_132_750 : decode (mC 132) 750 = .ok (.iload 4, 2) := by decide +kernel
theorem d_132_752 : decode (mC 132) 752 = .ok (.iconst 1, 1) := by decide +kernel
theorem d_132_753 : decode (mC 132) 753 = .ok (.iadd, 1) := by decide +kernel
theorem d_132_754 : decode (mC 132) 754 = .ok (.iaload, 1) := by decide +kernel
theorem d_132_755 : decode (mC 132) 755 = .ok (.aload_n 0, 1) := by decide +kernel
theorem d_132_756 : decode (mC 132) 756 = .ok (.iload 4, 2) := by decide +kernel
theorem d_132_758 : decode (mC 132) 758 = .ok (.iconst 2, 1) := by decide +kernel
theorem d_132_759 : decode (mC 132) 759 = .ok (.iadd, 1) := by decide +kernel
theorem d_132_760 : decode (mC 132) 760 = .ok (.iaload, 1) := by decide +kernel
theorem d_132_761 : decode (mC 132) 761 = .ok (.aload_n 3, 1) := by decide +kernel
theorem d_132_762 : decode (mC 132) 762 = .ok (.invokestatic 121, 3) := by decide +kernel
theorem d_132_765 : decode (mC 132) 765 = .ok (.istore 5, 2) := by decide +kernel
theorem d_132_767 : decode (mC 132) 767 = .ok (.aload_n 2, 1) := by decide +kernel
theorem d_132_768 : decode (mC 132) 768 = .ok (.aload_n 0, 1) := by decide +kernel
theorem d_132_769 : decode (mC 132) 769 = .ok (.iload 4, 2) := by decide +kernel
theorem d_132_771 : decode (mC 132) 771 = .ok (.iconst 1, 1) := by decide +kernel
theorem d_132_772 : decode (mC 132) 772 = .ok (.iadd, 1) := by decide +kernel
theorem d_132_773 : decode (mC 132) 773 = .ok (.iaload, 1) := by decide +kernel
theorem d_132_774 : decode (mC 132) 774 = .ok (.aload_n 0, 1) := by decide +kernel
theorem d_132_775 : decode (mC 132) 775 = .ok (.iload 4, 2) := by decide +kernel
theorem d_132_777 : decode (mC 132) 777 = .ok (.iconst 2, 1) := by decide +kernel
theorem d_132_778 : decode (mC 132) 778 = .ok (.iadd, 1) := by decide +kernel
theorem d_132_779 : decode (mC 132) 779 = .ok (.iaload, 1) := by decide +kernel
theorem d_132_780 : decode (mC 132) 780 = .ok (.invokevirtual 123, 3) := by decide +kernel
theorem d_132_783 : decode (mC 132) 783 = .ok (.istore 6, 2) := by decide +kernel
theorem d_132_785 : decode (mC 132) 785 = .ok (.aload_n 2, 1) := by decide +kernel
theorem d_132_786 : decode (mC 132) 786 = .ok (.invokevirtual 82, 3) := by decide +kernel
theorem d_132_789 : decode (mC 132) 789 = .ok (.iload 5, 2) := by decide +kernel
theorem d_132_791 : decode (mC 132) 791 = .ok (.if_icmp .eq 5, 3) := by decide +kernel
theorem d_132_794 : decode (mC 132) 794 = .ok (.iconst 0, 1) := by decide +kernel
theorem d_132_795 : decode (mC 132) 795 = .ok (.ireturn, 1) := by decide +kernel
theorem d_132_796 : decode (mC 132) 796 = .ok (.iload 5, 2) := by decide +kernel
theorem d_132_798 : decode (mC 132) 798 = .ok (.ifCond .ne 15, 3) := by decide +kernel
theorem d_132_801 : decode (mC 132) 801 = .ok (.aload_n 3, 1) := by decide +kernel
theorem d_132_802 : decode (mC 132) 802 = .ok (.iconst 0, 1) := by decide +kernel
theorem d_132_803 : decode (mC 132) 803 = .ok (.laload, 1) := by decide +kernel
theorem d_132_804 : decode (mC 132) 804 = .ok (.iload 6, 2) := by decide +kernel
theorem d_132_806 : decode (mC 132) 806 = .ok (.i2l, 1) := by decide +kernel
theorem d_132_807 : decode (mC 132) 807 = .ok (.lcmp, 1) := by decide +kernel
theorem d_132_808 : decode (mC 132) 808 = .ok (.ifCond .eq 5, 3) := by decide +kernel
theorem d_132_811 : decode (mC 132) 811 = .ok (.iconst 0, 1) := by decide +kernel
theorem d_132_812 : decode (mC 132) 812 = .ok (.ireturn, 1) := by decide +kernel
theorem d_132_813 : decode (mC 132) 813 = .ok (.goto 254, 3) := by decide +kernel
theorem d_132_816 : decode (mC 132) 816 = .ok (.aload_n 1, 1) := by decide +kernel
theorem d_132_817 : decode (mC 132) 817 = .ok (.invokevirtual 124, 3) := by decide +kernel
theorem d_132_820 : decode (mC 132) 820 = .ok (.aload_n 2, 1) := by decide +kernel
theorem d_132_821 : decode (mC 132) 821 = .ok (.invokevirtual 127, 3) := by decide +kernel
theorem d_132_824 : decode (mC 132) 824 = .ok (.if_icmp .eq 243, 3) := by decide +kernel
theorem d_132_827 : decode (mC 132) 827 = .ok (.iconst 0, 1) := by decide +kernel
theorem d_132_828 : decode (mC 132) 828 = .ok (.ireturn, 1) := by decide +kernel
theorem d_132_829 : decode (mC 132) 829 = .ok (.aload_n 1, 1) := by decide +kernel
theorem d_132_830 : decode (mC 132) 830 = .ok (.aload_n 3, 1) := by decide +kernel
theorem d_132_831 : decode (mC 132) 831 = .ok (.invokestatic 128, 3) := by decide +kernel
theorem d_132_834 : decode (mC 132) 834 = .ok (.istore 5, 2) := by decide +kernel
theorem d_132_836 : decode (mC 132) 836 = .ok (.aload_n 2, 1) := by decide +kernel
theorem d_132_837 : decode (mC 132) 837 = .ok (.invokevirtual 131, 3) := by decide +kernel
theorem d_132_840 : decode (mC 132) 840 = .ok (.lstore 6, 2) := by decide +kernel
theorem d_132_842 : decode (mC 132) 842 = .ok (.aload_n 2, 1) := by decide +kernel
theorem d_132_843 : decode (mC 132) 843 = .ok (.invokevirtual 82, 3) := by decide +kernel
theorem d_132_846 : decode (mC 132) 846 = .ok (.iload 5, 2) := by decide +kernel
theorem d_132_848 : decode (mC 132) 848 = .ok (.if_icmp .eq 5, 3) := by decide +kernel
theorem d_132_851 : decode (mC 132) 851 = .ok (.iconst 0, 1) := by decide +kernel
theorem d_132_852 : decode (mC 132) 852 = .ok (.ireturn, 1) := by decide +kernel
theorem d_132_853 : decode (mC 132) 853 = .ok (.iload 5, 2) := by decide +kernel
theorem d_132_855 : decode (mC 132) 855 = .ok (.ifCond .ne 14, 3) := by decide +kernel
theorem d_132_858 : decode (mC 132) 858 = .ok (.aload_n 3, 1) := by decide +kernel
theorem d_132_859 : decode (mC 132) 859 = .ok (.iconst 0, 1) := by decide +kernel
theorem d_132_860 : decode (mC 132) 860 = .ok (.laload, 1) := by decide +kernel
theorem d_132_861 : decode (mC 132) 861 = .ok (.lload 6, 2) := by decide +kernel
theorem d_132_863 : decode (mC 132) 863 = .ok (.lcmp, 1) := by decide +kernel
theorem d_132_864 : decode (mC 132) 864 = .ok (.ifCond .eq 5, 3) := by decide +kernel
theorem d_132_867 : decode (mC 132) 867 = .ok (.iconst 0, 1) := by decide +kernel
theorem d_132_868 : decode (mC 132) 868 = .ok (.ireturn, 1) := by decide +kernel
theorem d_132_869 : decode (mC 132) 869 = .ok (.goto 198, 3) := by decide +kernel
theorem d_132_872 : decode (mC 132) 872 = .ok (.aload_n 1, 1) := by decide +kernel
theorem d_132_873 : decode (mC 132) 873 = .ok (.aload_n 0, 1) := by decide +kernel
theorem d_132_874 : decode (mC 132) 874 = .ok (.iload 4, 2) := by decide +kernel
theorem d_132_876 : decode (mC 132) 876 = .ok (.iconst 1, 1) := by decide +kernel
theorem d_132_877 : decode (mC 132) 877 = .ok (.iadd, 1) := by decide +kernel
theorem d_132_878 : decode (mC 132) 878 = .ok (.iaload, 1) := by decide +kernel
theorem d_132_879 : decode (mC 132) 879 = .ok (.aload_n 0, 1) := by decide +kernel
theorem d_132_880 : decode (mC 132) 880 = .ok (.iload 4, 2) := by decide +kernel
theorem d_132_882 : decode (mC 132) 882 = .ok (.iconst 2, 1) := by decide +kernel
theorem d_132_883 : decode (mC 132) 883 = .ok (.iadd, 1) := by decide +kernel
theorem d_132_884 : decode (mC 132) 884 = .ok (.iaload, 1) := by decide +kernel
theorem d_132_885 : decode (mC 132) 885 = .ok (.aload_n 0, 1) := by decide +kernel
theorem d_132_886 : decode (mC 132) 886 = .ok (.iload 4, 2) := by decide +kernel
theorem d_132_888 : decode (mC 132) 888 = .ok (.iconst 3, 1) := by decide +kernel
theorem d_132_889 : decode (mC 132) 889 = .ok (.iadd, 1) := by decide +kernel
theorem d_132_890 : decode (mC 132) 890 = .ok (.iaload, 1) := by decide +kernel
theorem d_132_891 : decode (mC 132) 891 = .ok (.ifCond .eq 7, 3) := by decide +kernel
theorem d_132_894 : decode (mC 132) 894 = .ok (.iconst 1, 1) := by decide +kernel
theorem d_132_895 : decode (mC 132) 895 = .ok (.goto 4, 3) := by decide +kernel
theorem d_132_898 : decode (mC 132) 898 = .ok (.iconst 0, 1) := by decide +kernel
theorem d_132_899 : decode (mC 132) 899 = .ok (.aload_n 0, 1) := by decide +kernel
theorem d_132_900 : decode (mC 132) 900 = .ok (.iload 4, 2) := by decide +kernel
theorem d_132_902 : decode (mC 132) 902 = .ok (.iconst 4, 1) := by decide +kernel
theorem d_132_903 : decode (mC 132) 903 = .ok (.iadd, 1) := by decide +kernel
theorem d_132_904 : decode (mC 132) 904 = .ok (.iaload, 1) := by decide +kernel
theorem d_132_905 : decode (mC 132) 905 = .ok (.aload_n 3, 1) := by decide +kernel
theorem d_132_906 : decode (mC 132) 906 = .ok (.invokestatic 132, 3) := by decide +kernel
theorem d_132_909 : decode (mC 132) 909 = .ok (.istore 5, 2) := by decide +kernel
theorem d_132_911 : decode (mC 132) 911 = .ok (.aload_n 2, 1) := by decide +kernel
theorem d_132_912 : decode (mC 132) 912 = .ok (.aload_n 0, 1) := by decide +kernel
theorem d_132_913 : decode (mC 132) 913 = .ok (.iload 4, 2) := by decide +kernel
theorem d_132_915 : decode (mC 132) 915 = .ok (.iconst 1, 1) := by decide +kernel
theorem d_132_916 : decode (mC 132) 916 = .ok (.iadd, 1) := by decide +kernel
theorem d_132_917 : decode (mC 132) 917 = .ok (.iaload, 1) := by decide +kernel
theorem d_132_918 : decode (mC 132) 918 = .ok (.aload_n 0, 1) := by decide +kernel
theorem d_132_919 : decode (mC 132) 919 = .ok (.iload 4, 2) := by decide +kernel
theorem d_132_921 : decode (mC 132) 921 = .ok (.iconst 2, 1) := by decide +kernel
theorem d_132_922 : decode (mC 132) 922 = .ok (.iadd, 1) := by decide +kernel
theorem d_132_923 : decode (mC 132) 923 = .ok (.iaload, 1) := by decide +kernel
theorem d_132_924 : decode (mC 132) 924 = .ok (.aload_n 0, 1) := by decide +kernel
theorem d_132_925 : decode (mC 132) 925 = .ok (.iload 4, 2) := by decide +kernel
theorem d_132_927 : decode (mC 132) 927 = .ok (.iconst 3, 1) := by decide +kernel
theorem d_132_928 : decode (mC 132) 928 = .ok (.iadd, 1) := by decide +kernel
theorem d_132_929 : decode (mC 132) 929 = .ok (.iaload, 1) := by decide +kernel
theorem d_132_930 : decode (mC 132) 930 = .ok (.ifCond .eq 7, 3) := by decide +kernel
theorem d_132_933 : decode (mC 132) 933 = .ok (.iconst 1, 1) := by decide +kernel
theorem d_132_934 : decode (mC 132) 934 = .ok (.goto 4, 3) := by decide +kernel
theorem d_132_937 : decode (mC 132) 937 = .ok (.iconst 0, 1) := by decide +kernel
theorem d_132_938 : decode (mC 132) 938 = .ok (.aload_n 0, 1) := by decide +kernel
theorem d_132_939 : decode (mC 132) 939 = .ok (.iload 4, 2) := by decide +kernel
theorem d_132_941 : decode (mC 132) 941 = .ok (.iconst 4, 1) := by decide +kernel
theorem d_132_942 : decode (mC 132) 942 = .ok (.iadd, 1) := by decide +kernel
theorem d_132_943 : decode (mC 132) 943 = .ok (.iaload, 1) := by decide +kernel
theorem d_132_944 : decode (mC 132) 944 = .ok (.invokevirtual 135, 3) := by decide +kernel
theorem d_132_947 : decode (mC 132) 947 = .ok (.lstore 6, 2) := by decide +kernel
theorem d_132_949 : decode (mC 132) 949 = .ok (.aload_n 2, 1) := by decide +kernel
theorem d_132_950 : decode (mC 132) 950 = .ok (.invokevirtual 82, 3) := by decide +kernel
theorem d_132_953 : decode (mC 132) 953 = .ok (.iload 5, 2) := by decide +kernel
theorem d_132_955 : decode (mC 132) 955 = .ok (.if_icmp .eq 5, 3) := by decide +kernel
theorem d_132_958 : decode (mC 132) 958 = .ok (.iconst 0, 1) := by decide +kernel
theorem d_132_959 : decode (mC 132) 959 = .ok (.ireturn, 1) := by decide +kernel
theorem d_132_960 : decode (mC 132) 960 = .ok (.iload 5, 2) := by decide +kernel
theorem d_132_962 : decode (mC 132) 962 = .ok (.ifCond .ne 14, 3) := by decide +kernel
theorem d_132_965 : decode (mC 132) 965 = .ok (.aload_n 3, 1) := by decide +kernel
theorem d_132_966 : decode (mC 132) 966 = .ok (.iconst 0, 1) := by decide +kernel
theorem d_132_967 : decode (mC 132) 967 = .ok (.laload, 1) := by decide +kernel
theorem d_132_968 : decode (mC 132) 968 = .ok (.lload 6, 2) := by decide +kernel
theorem d_132_970 : decode (mC 132) 970 = .ok (.lcmp, 1) := by decide +kernel
theorem d_132_971 : decode (mC 132) 971 = .ok (.ifCond .eq 5, 3) := by decide +kernel
theorem d_132_974 : decode (mC 132) 974 = .ok (.iconst 0, 1) := by decide +kernel
theorem d_132_975 : decode (mC 132) 975 = .ok (.ireturn, 1) := by decide +kernel
theorem d_132_976 : decode (mC 132) 976 = .ok (.goto 91, 3) := by decide +kernel
theorem d_132_979 : decode (mC 132) 979 = .ok (.aload_n 1, 1) := by decide +kernel
theorem d_132_980 : decode (mC 132) 980 = .ok (.aload_n 0, 1) := by decide +kernel
theorem d_132_981 : decode (mC 132) 981 = .ok (.iload 4, 2) := by decide +kernel
theorem d_132_983 : decode (mC 132) 983 = .ok (.iconst 1, 1) := by decide +kernel
theorem d_132_984 : decode (mC 132) 984 = .ok (.iadd, 1) := by decide +kernel
theorem d_132_985 : decode (mC 132) 985 = .ok (.iaload, 1) := by decide +kernel
theorem d_132_986 : decode (mC 132) 986 = .ok (.i2l, 1) := by decide +kernel
theorem d_132_987 : decode (mC 132) 987 = .ok (.bipush 32, 2) := by decide +kernel
theorem d_132_989 : decode (mC 132) 989 = .ok (.lshl, 1) := by decide +kernel
theorem d_132_990 : decode (mC 132) 990 = .ok (.aload_n 0, 1) := by decide +kernel
theorem d_132_991 : decode (mC 132) 991 = .ok (.iload 4, 2) := by decide +kernel
theorem d_132_993 : decode (mC 132) 993 = .ok (.iconst 2, 1) := by decide +kernel
theorem d_132_994 : decode (mC 132) 994 = .ok (.iadd, 1) := by decide +kernel
theorem d_132_995 : decode (mC 132) 995 = .ok (.iaload, 1) := by decide +kernel
theorem d_132_996 : decode (mC 132) 996 = .ok (.i2l, 1) := by decide +kernel
theorem d_132_997 : decode (mC 132) 997 = .ok (.ldc2_w 101, 3) := by decide +kernel
theorem d_132_1000 : decode (mC 132) 1000 = .ok (.land, 1) := by decide +kernel
theorem d_132_1001 : decode (mC 132) 1001 = .ok (.lor, 1) := by decide +kernel
theorem d_132_1002 : decode (mC 132) 1002 = .ok (.aload_n 3, 1) := by decide +kernel
theorem d_132_1003 : decode (mC 132) 1003 = .ok (.invokestatic 136, 3) := by decide +kernel
theorem d_132_1006 : decode (mC 132) 1006 = .ok (.istore 5, 2) := by decide +kernel
theorem d_132_1008 : decode (mC 132) 1008 = .ok (.aload_n 2, 1) := by decide +kernel
theorem d_132_1009 : decode (mC 132) 1009 = .ok (.aload_n 0, 1) := by decide +kernel
theorem d_132_1010 : decode (mC 132) 1010 = .ok (.iload 4, 2) := by decide +kernel
theorem d_132_1012 : decode (mC 132) 1012 = .ok (.iconst 1, 1) := by decide +kernel
theorem d_132_1013 : decode (mC 132) 1013 = .ok (.iadd, 1) := by decide +kernel
theorem d_132_1014 : decode (mC 132) 1014 = .ok (.iaload, 1) := by decide +kernel
theorem d_132_1015 : decode (mC 132) 1015 = .ok (.i2l, 1) := by decide +kernel
theorem d_132_1016 : decode (mC 132) 1016 = .ok (.bipush 32, 2) := by decide +kernel
theorem d_132_1018 : decode (mC 132) 1018 = .ok (.lshl, 1) := by decide +kernel
theorem d_132_1019 : decode (mC 132) 1019 = .ok (.aload_n 0, 1) := by decide +kernel
theorem d_132_1020 : decode (mC 132) 1020 = .ok (.iload 4, 2) := by decide +kernel
theorem d_132_1022 : decode (mC 132) 1022 = .ok (.iconst 2, 1) := by decide +kernel
theorem d_132_1023 : decode (mC 132) 1023 = .ok (.iadd, 1) := by decide +kernel
theorem d_132_1024 : decode (mC 132) 1024 = .ok (.iaload, 1) := by decide +kernel
theorem d_132_1025 : decode (mC 132) 1025 = .ok (.i2l, 1) := by decide +kernel
theorem d_132_1026 : decode (mC 132) 1026 = .ok (.ldc2_w 101, 3) := by decide +kernel
theorem d_132_1029 : decode (mC 132) 1029 = .ok (.land, 1) := by decide +kernel
theorem d_132_1030 : decode (mC 132) 1030 = .ok (.lor, 1) := by decide +kernel
theorem d_132_1031 : decode (mC 132) 1031 = .ok (.invokevirtual 139, 3) := by decide +kernel
theorem d_132_1034 : decode (mC 132) 1034 = .ok (.istore 6, 2) := by decide +kernel
theorem d_132_1036 : decode (mC 132) 1036 = .ok (.aload_n 2, 1) := by decide +kernel
theorem d_132_1037 : decode (mC 132) 1037 = .ok (.invokevirtual 82, 3) := by decide +kernel
theorem d_132_1040 : decode (mC 132) 1040 = .ok (.iload 5, 2) := by decide +kernel
theorem d_132_1042 : decode (mC 132) 1042 = .ok (.if_icmp .eq 5, 3) := by decide +kernel
theorem d_132_1045 : decode (mC 132) 1045 = .ok (.iconst 0, 1) := by decide +kernel
theorem d_132_1046 : decode (mC 132) 1046 = .ok (.ireturn, 1) := by decide +kernel
theorem d_132_1047 : decode (mC 132) 1047 = .ok (.iload 5, 2) := by decide +kernel
theorem d_132_1049 : decode (mC 132) 1049 = .ok (.ifCond .ne 15, 3) := by decide +kernel
theorem d_132_1052 : decode (mC 132) 1052 = .ok (.aload_n 3, 1) := by decide +kernel
theorem d_132_1053 : decode (mC 132) 1053 = .ok (.iconst 0, 1) := by decide +kernel
theorem d_132_1054 : decode (mC 132) 1054 = .ok (.laload, 1) := by decide +kernel
theorem d_132_1055 : decode (mC 132) 1055 = .ok (.iload 6, 2) := by decide +kernel
theorem d_132_1057 : decode (mC 132) 1057 = .ok (.i2l, 1) := by decide +kernel
theorem d_132_1058 : decode (mC 132) 1058 = .ok (.lcmp, 1) := by decide +kernel
theorem d_132_1059 : decode (mC 132) 1059 = .ok (.ifCond .eq 5, 3) := by decide +kernel
theorem d_132_1062 : decode (mC 132) 1062 = .ok (.iconst 0, 1) := by decide +kernel
theorem d_132_1063 : decode (mC 132) 1063 = .ok (.ireturn, 1) := by decide +kernel
theorem d_132_1064 : decode (mC 132) 1064 = .ok (.goto 3, 3) := by decide +kernel
theorem d_132_1067 : decode (mC 132) 1067 = .ok (.iinc 4 6, 3) := by decide +kernel
theorem d_132_1070 : decode (mC 132) 1070 = .ok (.goto (-1037), 3) := by decide +kernel
theorem d_132_1073 : decode (mC 132) 1073 = .ok (.iconst 1, 1) := by decide +kernel
theorem d_132_1074 : decode (mC 132) 1074 = .ok (.ireturn, 1) := by decide +kernel
