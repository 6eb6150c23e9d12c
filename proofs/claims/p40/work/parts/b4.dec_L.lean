theorem dL_law_738 : decode cL_law 738 = .ok (.iconst 4, 1) := by decide +kernel
theorem dL_law_739 : decode cL_law 739 = .ok (.invokevirtual 20, 3) := by decide +kernel
theorem dL_law_742 : decode cL_law 742 = .ok (.iastore, 1) := by decide +kernel
theorem dL_law_743 : decode cL_law 743 = .ok (.goto 415, 3) := by decide +kernel
theorem dL_law_746 : decode cL_law 746 = .ok (.iload 11, 2) := by decide +kernel
theorem dL_law_748 : decode cL_law 748 = .ok (.bipush 8, 2) := by decide +kernel
theorem dL_law_750 : decode cL_law 750 = .ok (.if_icmp .ne 219, 3) := by decide +kernel
theorem dL_law_753 : decode cL_law 753 = .ok (.aload 4, 2) := by decide +kernel
theorem dL_law_755 : decode cL_law 755 = .ok (.bipush 7, 2) := by decide +kernel
theorem dL_law_757 : decode cL_law 757 = .ok (.iaload, 1) := by decide +kernel
theorem dL_law_758 : decode cL_law 758 = .ok (.iconst 1, 1) := by decide +kernel
theorem dL_law_759 : decode cL_law 759 = .ok (.if_icmp .ne 127, 3) := by decide +kernel
theorem dL_law_762 : decode cL_law 762 = .ok (.iload 10, 2) := by decide +kernel
theorem dL_law_764 : decode cL_law 764 = .ok (.iconst 2, 1) := by decide +kernel
theorem dL_law_765 : decode cL_law 765 = .ok (.invokestatic 78, 3) := by decide +kernel
theorem dL_law_768 : decode cL_law 768 = .ok (.ifCond .ne 118, 3) := by decide +kernel
theorem dL_law_771 : decode cL_law 771 = .ok (.aload 4, 2) := by decide +kernel
theorem dL_law_773 : decode cL_law 773 = .ok (.invokestatic 36, 3) := by decide +kernel
theorem dL_law_776 : decode cL_law 776 = .ok (.ifCond .eq 20, 3) := by decide +kernel
theorem dL_law_779 : decode cL_law 779 = .ok (.aload 4, 2) := by decide +kernel
theorem dL_law_781 : decode cL_law 781 = .ok (.iload 12, 2) := by decide +kernel
theorem dL_law_783 : decode cL_law 783 = .ok (.iaload, 1) := by decide +kernel
theorem dL_law_784 : decode cL_law 784 = .ok (.aload 4, 2) := by decide +kernel
theorem dL_law_786 : decode cL_law 786 = .ok (.bipush 8, 2) := by decide +kernel
theorem dL_law_788 : decode cL_law 788 = .ok (.iaload, 1) := by decide +kernel
theorem dL_law_789 : decode cL_law 789 = .ok (.if_icmp .lt 7, 3) := by decide +kernel
theorem dL_law_792 : decode cL_law 792 = .ok (.iconst 1, 1) := by decide +kernel
theorem dL_law_793 : decode cL_law 793 = .ok (.goto 4, 3) := by decide +kernel
theorem dL_law_796 : decode cL_law 796 = .ok (.iconst 0, 1) := by decide +kernel
theorem dL_law_797 : decode cL_law 797 = .ok (.istore 13, 2) := by decide +kernel
theorem dL_law_799 : decode cL_law 799 = .ok (.aload_n 1, 1) := by decide +kernel
theorem dL_law_800 : decode cL_law 800 = .ok (.iload 12, 2) := by decide +kernel
theorem dL_law_802 : decode cL_law 802 = .ok (.invokestatic 99, 3) := by decide +kernel
theorem dL_law_805 : decode cL_law 805 = .ok (.istore 14, 2) := by decide +kernel
theorem dL_law_807 : decode cL_law 807 = .ok (.iload 14, 2) := by decide +kernel
theorem dL_law_809 : decode cL_law 809 = .ok (.iload 13, 2) := by decide +kernel
theorem dL_law_811 : decode cL_law 811 = .ok (.ifCond .eq 11, 3) := by decide +kernel
theorem dL_law_814 : decode cL_law 814 = .ok (.aload 4, 2) := by decide +kernel
theorem dL_law_816 : decode cL_law 816 = .ok (.bipush 8, 2) := by decide +kernel
theorem dL_law_818 : decode cL_law 818 = .ok (.iaload, 1) := by decide +kernel
theorem dL_law_819 : decode cL_law 819 = .ok (.goto 4, 3) := by decide +kernel
theorem dL_law_822 : decode cL_law 822 = .ok (.iconst (-1), 1) := by decide +kernel
theorem dL_law_823 : decode cL_law 823 = .ok (.if_icmp .eq 5, 3) := by decide +kernel
theorem dL_law_826 : decode cL_law 826 = .ok (.iconst 0, 1) := by decide +kernel
theorem dL_law_827 : decode cL_law 827 = .ok (.ireturn, 1) := by decide +kernel
theorem dL_law_828 : decode cL_law 828 = .ok (.iload 13, 2) := by decide +kernel
theorem dL_law_830 : decode cL_law 830 = .ok (.ifCond .eq 53, 3) := by decide +kernel
theorem dL_law_833 : decode cL_law 833 = .ok (.aload 4, 2) := by decide +kernel
theorem dL_law_835 : decode cL_law 835 = .ok (.bipush 6, 2) := by decide +kernel
theorem dL_law_837 : decode cL_law 837 = .ok (.iaload, 1) := by decide +kernel
theorem dL_law_838 : decode cL_law 838 = .ok (.ifCond .le 20, 3) := by decide +kernel
theorem dL_law_841 : decode cL_law 841 = .ok (.aload_n 3, 1) := by decide +kernel
theorem dL_law_842 : decode cL_law 842 = .ok (.aload 4, 2) := by decide +kernel
theorem dL_law_844 : decode cL_law 844 = .ok (.bipush 6, 2) := by decide +kernel
theorem dL_law_846 : decode cL_law 846 = .ok (.iaload, 1) := by decide +kernel
theorem dL_law_847 : decode cL_law 847 = .ok (.iconst 1, 1) := by decide +kernel
theorem dL_law_848 : decode cL_law 848 = .ok (.isub, 1) := by decide +kernel
theorem dL_law_849 : decode cL_law 849 = .ok (.dup2, 1) := by decide +kernel
theorem dL_law_850 : decode cL_law 850 = .ok (.iaload, 1) := by decide +kernel
theorem dL_law_851 : decode cL_law 851 = .ok (.aload 4, 2) := by decide +kernel
theorem dL_law_853 : decode cL_law 853 = .ok (.bipush 8, 2) := by decide +kernel
theorem dL_law_855 : decode cL_law 855 = .ok (.iaload, 1) := by decide +kernel
theorem dL_law_856 : decode cL_law 856 = .ok (.iadd, 1) := by decide +kernel
theorem dL_law_857 : decode cL_law 857 = .ok (.iastore, 1) := by decide +kernel
theorem dL_law_858 : decode cL_law 858 = .ok (.aload 4, 2) := by decide +kernel
theorem dL_law_860 : decode cL_law 860 = .ok (.iload 12, 2) := by decide +kernel
theorem dL_law_862 : decode cL_law 862 = .ok (.dup2, 1) := by decide +kernel
theorem dL_law_863 : decode cL_law 863 = .ok (.iaload, 1) := by decide +kernel
theorem dL_law_864 : decode cL_law 864 = .ok (.aload 4, 2) := by decide +kernel
theorem dL_law_866 : decode cL_law 866 = .ok (.bipush 8, 2) := by decide +kernel
theorem dL_law_868 : decode cL_law 868 = .ok (.iaload, 1) := by decide +kernel
theorem dL_law_869 : decode cL_law 869 = .ok (.isub, 1) := by decide +kernel
theorem dL_law_870 : decode cL_law 870 = .ok (.iastore, 1) := by decide +kernel
theorem dL_law_871 : decode cL_law 871 = .ok (.aload 4, 2) := by decide +kernel
theorem dL_law_873 : decode cL_law 873 = .ok (.bipush 8, 2) := by decide +kernel
theorem dL_law_875 : decode cL_law 875 = .ok (.iconst 0, 1) := by decide +kernel
theorem dL_law_876 : decode cL_law 876 = .ok (.iastore, 1) := by decide +kernel
theorem dL_law_877 : decode cL_law 877 = .ok (.aload 4, 2) := by decide +kernel
theorem dL_law_879 : decode cL_law 879 = .ok (.bipush 7, 2) := by decide +kernel
theorem dL_law_881 : decode cL_law 881 = .ok (.iconst 0, 1) := by decide +kernel
theorem dL_law_882 : decode cL_law 882 = .ok (.iastore, 1) := by decide +kernel
theorem dL_law_883 : decode cL_law 883 = .ok (.goto 275, 3) := by decide +kernel
theorem dL_law_886 : decode cL_law 886 = .ok (.aload 4, 2) := by decide +kernel
theorem dL_law_888 : decode cL_law 888 = .ok (.bipush 7, 2) := by decide +kernel
theorem dL_law_890 : decode cL_law 890 = .ok (.iaload, 1) := by decide +kernel
theorem dL_law_891 : decode cL_law 891 = .ok (.ifCond .ne 23, 3) := by decide +kernel
theorem dL_law_894 : decode cL_law 894 = .ok (.aload 4, 2) := by decide +kernel
theorem dL_law_896 : decode cL_law 896 = .ok (.bipush 6, 2) := by decide +kernel
theorem dL_law_898 : decode cL_law 898 = .ok (.iaload, 1) := by decide +kernel
theorem dL_law_899 : decode cL_law 899 = .ok (.ifCond .le 15, 3) := by decide +kernel
theorem dL_law_902 : decode cL_law 902 = .ok (.aload 4, 2) := by decide +kernel
theorem dL_law_904 : decode cL_law 904 = .ok (.bipush 12, 2) := by decide +kernel
theorem dL_law_906 : decode cL_law 906 = .ok (.iaload, 1) := by decide +kernel
theorem dL_law_907 : decode cL_law 907 = .ok (.ifCond .ne 7, 3) := by decide +kernel
theorem dL_law_910 : decode cL_law 910 = .ok (.iconst 1, 1) := by decide +kernel
theorem dL_law_911 : decode cL_law 911 = .ok (.goto 4, 3) := by decide +kernel
theorem dL_law_914 : decode cL_law 914 = .ok (.iconst 0, 1) := by decide +kernel
theorem dL_law_915 : decode cL_law 915 = .ok (.istore 13, 2) := by decide +kernel
theorem dL_law_917 : decode cL_law 917 = .ok (.aload_n 1, 1) := by decide +kernel
theorem dL_law_918 : decode cL_law 918 = .ok (.invokestatic 103, 3) := by decide +kernel
theorem dL_law_921 : decode cL_law 921 = .ok (.istore 14, 2) := by decide +kernel
theorem dL_law_923 : decode cL_law 923 = .ok (.iload 14, 2) := by decide +kernel
theorem dL_law_925 : decode cL_law 925 = .ok (.iload 13, 2) := by decide +kernel
theorem dL_law_927 : decode cL_law 927 = .ok (.ifCond .eq 13, 3) := by decide +kernel
theorem dL_law_930 : decode cL_law 930 = .ok (.aload 4, 2) := by decide +kernel
theorem dL_law_932 : decode cL_law 932 = .ok (.bipush 11, 2) := by decide +kernel
theorem dL_law_934 : decode cL_law 934 = .ok (.iaload, 1) := by decide +kernel
theorem dL_law_935 : decode cL_law 935 = .ok (.iconst 1, 1) := by decide +kernel
theorem dL_law_936 : decode cL_law 936 = .ok (.iadd, 1) := by decide +kernel
theorem dL_law_937 : decode cL_law 937 = .ok (.goto 4, 3) := by decide +kernel
theorem dL_law_940 : decode cL_law 940 = .ok (.iconst (-1), 1) := by decide +kernel
theorem dL_law_941 : decode cL_law 941 = .ok (.if_icmp .eq 5, 3) := by decide +kernel
theorem dL_law_944 : decode cL_law 944 = .ok (.iconst 0, 1) := by decide +kernel
theorem dL_law_945 : decode cL_law 945 = .ok (.ireturn, 1) := by decide +kernel
theorem dL_law_946 : decode cL_law 946 = .ok (.iload 13, 2) := by decide +kernel
theorem dL_law_948 : decode cL_law 948 = .ok (.ifCond .eq 18, 3) := by decide +kernel
theorem dL_law_951 : decode cL_law 951 = .ok (.aload 4, 2) := by decide +kernel
theorem dL_law_953 : decode cL_law 953 = .ok (.bipush 11, 2) := by decide +kernel
theorem dL_law_955 : decode cL_law 955 = .ok (.dup2, 1) := by decide +kernel
theorem dL_law_956 : decode cL_law 956 = .ok (.iaload, 1) := by decide +kernel
theorem dL_law_957 : decode cL_law 957 = .ok (.iconst 1, 1) := by decide +kernel
theorem dL_law_958 : decode cL_law 958 = .ok (.iadd, 1) := by decide +kernel
theorem dL_law_959 : decode cL_law 959 = .ok (.iastore, 1) := by decide +kernel
theorem dL_law_960 : decode cL_law 960 = .ok (.aload 4, 2) := by decide +kernel
theorem dL_law_962 : decode cL_law 962 = .ok (.bipush 12, 2) := by decide +kernel
theorem dL_law_964 : decode cL_law 964 = .ok (.iconst 1, 1) := by decide +kernel
theorem dL_law_965 : decode cL_law 965 = .ok (.iastore, 1) := by decide +kernel
theorem dL_law_966 : decode cL_law 966 = .ok (.goto 192, 3) := by decide +kernel
theorem dL_law_969 : decode cL_law 969 = .ok (.iload 10, 2) := by decide +kernel
theorem dL_law_971 : decode cL_law 971 = .ok (.bipush 40, 2) := by decide +kernel
theorem dL_law_973 : decode cL_law 973 = .ok (.invokestatic 78, 3) := by decide +kernel
theorem dL_law_976 : decode cL_law 976 = .ok (.istore 13, 2) := by decide +kernel
theorem dL_law_978 : decode cL_law 978 = .ok (.aload 4, 2) := by decide +kernel
theorem dL_law_980 : decode cL_law 980 = .ok (.invokestatic 36, 3) := by decide +kernel
theorem dL_law_983 : decode cL_law 983 = .ok (.ifCond .eq 60, 3) := by decide +kernel
theorem dL_law_986 : decode cL_law 986 = .ok (.aload 4, 2) := by decide +kernel
theorem dL_law_988 : decode cL_law 988 = .ok (.bipush 7, 2) := by decide +kernel
theorem dL_law_990 : decode cL_law 990 = .ok (.iaload, 1) := by decide +kernel
theorem dL_law_991 : decode cL_law 991 = .ok (.iconst 1, 1) := by decide +kernel
theorem dL_law_992 : decode cL_law 992 = .ok (.if_icmp .ne 51, 3) := by decide +kernel
theorem dL_law_995 : decode cL_law 995 = .ok (.iload 13, 2) := by decide +kernel
theorem dL_law_997 : decode cL_law 997 = .ok (.aload 4, 2) := by decide +kernel
theorem dL_law_999 : decode cL_law 999 = .ok (.bipush 6, 2) := by decide +kernel
theorem dL_law_1001 : decode cL_law 1001 = .ok (.iaload, 1) := by decide +kernel
theorem dL_law_1002 : decode cL_law 1002 = .ok (.iconst 1, 1) := by decide +kernel
theorem dL_law_1003 : decode cL_law 1003 = .ok (.isub, 1) := by decide +kernel
theorem dL_law_1004 : decode cL_law 1004 = .ok (.if_icmp .ge 39, 3) := by decide +kernel
theorem dL_law_1007 : decode cL_law 1007 = .ok (.aload 4, 2) := by decide +kernel
theorem dL_law_1009 : decode cL_law 1009 = .ok (.iload 12, 2) := by decide +kernel
theorem dL_law_1011 : decode cL_law 1011 = .ok (.iaload, 1) := by decide +kernel
theorem dL_law_1012 : decode cL_law 1012 = .ok (.aload_n 3, 1) := by decide +kernel
theorem dL_law_1013 : decode cL_law 1013 = .ok (.iload 13, 2) := by decide +kernel
theorem dL_law_1015 : decode cL_law 1015 = .ok (.bipush 40, 2) := by decide +kernel
theorem dL_law_1017 : decode cL_law 1017 = .ok (.if_icmp .ge 8, 3) := by decide +kernel
theorem dL_law_1020 : decode cL_law 1020 = .ok (.iload 13, 2) := by decide +kernel
theorem dL_law_1022 : decode cL_law 1022 = .ok (.goto 4, 3) := by decide +kernel
theorem dL_law_1025 : decode cL_law 1025 = .ok (.iconst 0, 1) := by decide +kernel
theorem dL_law_1026 : decode cL_law 1026 = .ok (.iaload, 1) := by decide +kernel
theorem dL_law_1027 : decode cL_law 1027 = .ok (.iconst 2, 1) := by decide +kernel
theorem dL_law_1028 : decode cL_law 1028 = .ok (.aload_n 2, 1) := by decide +kernel
theorem dL_law_1029 : decode cL_law 1029 = .ok (.iload 13, 2) := by decide +kernel
theorem dL_law_1031 : decode cL_law 1031 = .ok (.invokestatic 10, 3) := by decide +kernel
theorem dL_law_1034 : decode cL_law 1034 = .ok (.imul, 1) := by decide +kernel
theorem dL_law_1035 : decode cL_law 1035 = .ok (.iadd, 1) := by decide +kernel
theorem dL_law_1036 : decode cL_law 1036 = .ok (.if_icmp .lt 7, 3) := by decide +kernel
theorem dL_law_1039 : decode cL_law 1039 = .ok (.iconst 1, 1) := by decide +kernel
theorem dL_law_1040 : decode cL_law 1040 = .ok (.goto 4, 3) := by decide +kernel
theorem dL_law_1043 : decode cL_law 1043 = .ok (.iconst 0, 1) := by decide +kernel
theorem dL_law_1044 : decode cL_law 1044 = .ok (.istore 14, 2) := by decide +kernel
theorem dL_law_1046 : decode cL_law 1046 = .ok (.aload_n 1, 1) := by decide +kernel
theorem dL_law_1047 : decode cL_law 1047 = .ok (.iload 13, 2) := by decide +kernel
theorem dL_law_1049 : decode cL_law 1049 = .ok (.iload 12, 2) := by decide +kernel
theorem dL_law_1051 : decode cL_law 1051 = .ok (.invokestatic 107, 3) := by decide +kernel
theorem dL_law_1054 : decode cL_law 1054 = .ok (.istore 15, 2) := by decide +kernel
theorem dL_law_1056 : decode cL_law 1056 = .ok (.iload 15, 2) := by decide +kernel
theorem dL_law_1058 : decode cL_law 1058 = .ok (.iload 14, 2) := by decide +kernel
theorem dL_law_1060 : decode cL_law 1060 = .ok (.ifCond .eq 7, 3) := by decide +kernel
theorem dL_law_1063 : decode cL_law 1063 = .ok (.iconst 0, 1) := by decide +kernel
theorem dL_law_1064 : decode cL_law 1064 = .ok (.goto 4, 3) := by decide +kernel
theorem dL_law_1067 : decode cL_law 1067 = .ok (.iconst (-1), 1) := by decide +kernel
theorem dL_law_1068 : decode cL_law 1068 = .ok (.if_icmp .eq 5, 3) := by decide +kernel
theorem dL_law_1071 : decode cL_law 1071 = .ok (.iconst 0, 1) := by decide +kernel
theorem dL_law_1072 : decode cL_law 1072 = .ok (.ireturn, 1) := by decide +kernel
theorem dL_law_1073 : decode cL_law 1073 = .ok (.iload 14, 2) := by decide +kernel
theorem dL_law_1075 : decode cL_law 1075 = .ok (.ifCond .eq 83, 3) := by decide +kernel
theorem dL_law_1078 : decode cL_law 1078 = .ok (.aload 4, 2) := by decide +kernel
theorem dL_law_1080 : decode cL_law 1080 = .ok (.iload 12, 2) := by decide +kernel
theorem dL_law_1082 : decode cL_law 1082 = .ok (.dup2, 1) := by decide +kernel
theorem dL_law_1083 : decode cL_law 1083 = .ok (.iaload, 1) := by decide +kernel
theorem dL_law_1084 : decode cL_law 1084 = .ok (.aload_n 3, 1) := by decide +kernel
theorem dL_law_1085 : decode cL_law 1085 = .ok (.iload 13, 2) := by decide +kernel
theorem dL_law_1087 : decode cL_law 1087 = .ok (.iaload, 1) := by decide +kernel
theorem dL_law_1088 : decode cL_law 1088 = .ok (.iconst 2, 1) := by decide +kernel
theorem dL_law_1089 : decode cL_law 1089 = .ok (.aload_n 2, 1) := by decide +kernel
theorem dL_law_1090 : decode cL_law 1090 = .ok (.iload 13, 2) := by decide +kernel
theorem dL_law_1092 : decode cL_law 1092 = .ok (.invokestatic 10, 3) := by decide +kernel
theorem dL_law_1095 : decode cL_law 1095 = .ok (.imul, 1) := by decide +kernel
theorem dL_law_1096 : decode cL_law 1096 = .ok (.iadd, 1) := by decide +kernel
theorem dL_law_1097 : decode cL_law 1097 = .ok (.isub, 1) := by decide +kernel
theorem dL_law_1098 : decode cL_law 1098 = .ok (.iastore, 1) := by decide +kernel
theorem dL_law_1099 : decode cL_law 1099 = .ok (.aload 4, 2) := by decide +kernel
theorem dL_law_1101 : decode cL_law 1101 = .ok (.bipush 9, 2) := by decide +kernel
theorem dL_law_1103 : decode cL_law 1103 = .ok (.dup2, 1) := by decide +kernel
theorem dL_law_1104 : decode cL_law 1104 = .ok (.iaload, 1) := by decide +kernel
theorem dL_law_1105 : decode cL_law 1105 = .ok (.aload_n 3, 1) := by decide +kernel
theorem dL_law_1106 : decode cL_law 1106 = .ok (.iload 13, 2) := by decide +kernel
theorem dL_law_1108 : decode cL_law 1108 = .ok (.iaload, 1) := by decide +kernel
theorem dL_law_1109 : decode cL_law 1109 = .ok (.iadd, 1) := by decide +kernel
theorem dL_law_1110 : decode cL_law 1110 = .ok (.iastore, 1) := by decide +kernel
theorem dL_law_1111 : decode cL_law 1111 = .ok (.aload_n 3, 1) := by decide +kernel
theorem dL_law_1112 : decode cL_law 1112 = .ok (.iload 13, 2) := by decide +kernel
theorem dL_law_1114 : decode cL_law 1114 = .ok (.dup2, 1) := by decide +kernel
theorem dL_law_1115 : decode cL_law 1115 = .ok (.iaload, 1) := by decide +kernel
theorem dL_law_1116 : decode cL_law 1116 = .ok (.iconst 2, 1) := by decide +kernel
theorem dL_law_1117 : decode cL_law 1117 = .ok (.aload_n 2, 1) := by decide +kernel
theorem dL_law_1118 : decode cL_law 1118 = .ok (.iload 13, 2) := by decide +kernel
theorem dL_law_1120 : decode cL_law 1120 = .ok (.invokestatic 10, 3) := by decide +kernel
theorem dL_law_1123 : decode cL_law 1123 = .ok (.imul, 1) := by decide +kernel
theorem dL_law_1124 : decode cL_law 1124 = .ok (.iadd, 1) := by decide +kernel
theorem dL_law_1125 : decode cL_law 1125 = .ok (.iastore, 1) := by decide +kernel
theorem dL_law_1126 : decode cL_law 1126 = .ok (.aload 4, 2) := by decide +kernel
theorem dL_law_1128 : decode cL_law 1128 = .ok (.bipush 10, 2) := by decide +kernel
theorem dL_law_1130 : decode cL_law 1130 = .ok (.aload 4, 2) := by decide +kernel
theorem dL_law_1132 : decode cL_law 1132 = .ok (.iconst 3, 1) := by decide +kernel
theorem dL_law_1133 : decode cL_law 1133 = .ok (.iaload, 1) := by decide +kernel
theorem dL_law_1134 : decode cL_law 1134 = .ok (.iconst 3, 1) := by decide +kernel
theorem dL_law_1135 : decode cL_law 1135 = .ok (.iadd, 1) := by decide +kernel
theorem dL_law_1136 : decode cL_law 1136 = .ok (.aload_n 2, 1) := by decide +kernel
theorem dL_law_1137 : decode cL_law 1137 = .ok (.iload 13, 2) := by decide +kernel
theorem dL_law_1139 : decode cL_law 1139 = .ok (.invokestatic 10, 3) := by decide +kernel
theorem dL_law_1142 : decode cL_law 1142 = .ok (.sipush 1000, 3) := by decide +kernel
theorem dL_law_1145 : decode cL_law 1145 = .ok (.idiv, 1) := by decide +kernel
theorem dL_law_1146 : decode cL_law 1146 = .ok (.iadd, 1) := by decide +kernel
theorem dL_law_1147 : decode cL_law 1147 = .ok (.iastore, 1) := by decide +kernel
theorem dL_law_1148 : decode cL_law 1148 = .ok (.aload 4, 2) := by decide +kernel
theorem dL_law_1150 : decode cL_law 1150 = .ok (.bipush 11, 2) := by decide +kernel
theorem dL_law_1152 : decode cL_law 1152 = .ok (.aload_n 1, 1) := by decide +kernel
theorem dL_law_1153 : decode cL_law 1153 = .ok (.iconst 4, 1) := by decide +kernel
theorem dL_law_1154 : decode cL_law 1154 = .ok (.invokevirtual 20, 3) := by decide +kernel
theorem dL_law_1157 : decode cL_law 1157 = .ok (.iastore, 1) := by decide +kernel
theorem dL_law_1158 : decode cL_law 1158 = .ok (.aload_n 1, 1) := by decide +kernel
theorem dL_law_1159 : decode cL_law 1159 = .ok (.aload_n 2, 1) := by decide +kernel
theorem dL_law_1160 : decode cL_law 1160 = .ok (.aload_n 3, 1) := by decide +kernel
theorem dL_law_1161 : decode cL_law 1161 = .ok (.aload 4, 2) := by decide +kernel
theorem dL_law_1163 : decode cL_law 1163 = .ok (.invokestatic 111, 3) := by decide +kernel
theorem dL_law_1166 : decode cL_law 1166 = .ok (.ifCond .ne 5, 3) := by decide +kernel
theorem dL_law_1169 : decode cL_law 1169 = .ok (.iconst 0, 1) := by decide +kernel
theorem dL_law_1170 : decode cL_law 1170 = .ok (.ireturn, 1) := by decide +kernel
theorem dL_law_1171 : decode cL_law 1171 = .ok (.iinc 8 1, 3) := by decide +kernel
theorem dL_law_1174 : decode cL_law 1174 = .ok (.goto (-1011), 3) := by decide +kernel
theorem dL_law_1177 : decode cL_law 1177 = .ok (.iconst 1, 1) := by decide +kernel
theorem dL_law_1178 : decode cL_law 1178 = .ok (.ireturn, 1) := by decide +kernel
