theorem dL_law_751 : decode cL_law 751 = .ok (.ifCond .ne 8, 3) := by decide +kernel
theorem dL_law_754 : decode cL_law 754 = .ok (.bipush (-13), 2) := by decide +kernel
theorem dL_law_756 : decode cL_law 756 = .ok (.goto 8, 3) := by decide +kernel
theorem dL_law_759 : decode cL_law 759 = .ok (.aload 6, 2) := by decide +kernel
theorem dL_law_761 : decode cL_law 761 = .ok (.iload 19, 2) := by decide +kernel
theorem dL_law_763 : decode cL_law 763 = .ok (.iaload, 1) := by decide +kernel
theorem dL_law_764 : decode cL_law 764 = .ok (.if_icmp .ne 66, 3) := by decide +kernel
theorem dL_law_767 : decode cL_law 767 = .ok (.iload 25, 2) := by decide +kernel
theorem dL_law_769 : decode cL_law 769 = .ok (.ifCond .lt 57, 3) := by decide +kernel
theorem dL_law_772 : decode cL_law 772 = .ok (.iload 25, 2) := by decide +kernel
theorem dL_law_774 : decode cL_law 774 = .ok (.bipush 8, 2) := by decide +kernel
theorem dL_law_776 : decode cL_law 776 = .ok (.if_icmp .le 11, 3) := by decide +kernel
theorem dL_law_779 : decode cL_law 779 = .ok (.aload_n 2, 1) := by decide +kernel
theorem dL_law_780 : decode cL_law 780 = .ok (.iload 19, 2) := by decide +kernel
theorem dL_law_782 : decode cL_law 782 = .ok (.iaload, 1) := by decide +kernel
theorem dL_law_783 : decode cL_law 783 = .ok (.iconst 1, 1) := by decide +kernel
theorem dL_law_784 : decode cL_law 784 = .ok (.if_icmp .eq 42, 3) := by decide +kernel
theorem dL_law_787 : decode cL_law 787 = .ok (.aload_n 1, 1) := by decide +kernel
theorem dL_law_788 : decode cL_law 788 = .ok (.iconst 0, 1) := by decide +kernel
theorem dL_law_789 : decode cL_law 789 = .ok (.iload 19, 2) := by decide +kernel
theorem dL_law_791 : decode cL_law 791 = .ok (.iload 25, 2) := by decide +kernel
theorem dL_law_793 : decode cL_law 793 = .ok (.invokestatic 54, 3) := by decide +kernel
theorem dL_law_796 : decode cL_law 796 = .ok (.iload 23, 2) := by decide +kernel
theorem dL_law_798 : decode cL_law 798 = .ok (.if_icmp .ne 32, 3) := by decide +kernel
theorem dL_law_801 : decode cL_law 801 = .ok (.aload_n 1, 1) := by decide +kernel
theorem dL_law_802 : decode cL_law 802 = .ok (.iload 19, 2) := by decide +kernel
theorem dL_law_804 : decode cL_law 804 = .ok (.invokevirtual 47, 3) := by decide +kernel
theorem dL_law_807 : decode cL_law 807 = .ok (.iload 24, 2) := by decide +kernel
theorem dL_law_809 : decode cL_law 809 = .ok (.if_icmp .ne 21, 3) := by decide +kernel
theorem dL_law_812 : decode cL_law 812 = .ok (.aload_n 1, 1) := by decide +kernel
theorem dL_law_813 : decode cL_law 813 = .ok (.iconst 0, 1) := by decide +kernel
theorem dL_law_814 : decode cL_law 814 = .ok (.iload 19, 2) := by decide +kernel
theorem dL_law_816 : decode cL_law 816 = .ok (.iload 23, 2) := by decide +kernel
theorem dL_law_818 : decode cL_law 818 = .ok (.invokestatic 54, 3) := by decide +kernel
theorem dL_law_821 : decode cL_law 821 = .ok (.iload 25, 2) := by decide +kernel
theorem dL_law_823 : decode cL_law 823 = .ok (.if_icmp .ne 7, 3) := by decide +kernel
theorem dL_law_826 : decode cL_law 826 = .ok (.iconst 1, 1) := by decide +kernel
theorem dL_law_827 : decode cL_law 827 = .ok (.goto 4, 3) := by decide +kernel
theorem dL_law_830 : decode cL_law 830 = .ok (.iconst 0, 1) := by decide +kernel
theorem dL_law_831 : decode cL_law 831 = .ok (.istore 12, 2) := by decide +kernel
theorem dL_law_833 : decode cL_law 833 = .ok (.aload 6, 2) := by decide +kernel
theorem dL_law_835 : decode cL_law 835 = .ok (.iload 19, 2) := by decide +kernel
theorem dL_law_837 : decode cL_law 837 = .ok (.iload 25, 2) := by decide +kernel
theorem dL_law_839 : decode cL_law 839 = .ok (.ifCond .ge 11, 3) := by decide +kernel
theorem dL_law_842 : decode cL_law 842 = .ok (.aload 6, 2) := by decide +kernel
theorem dL_law_844 : decode cL_law 844 = .ok (.iload 19, 2) := by decide +kernel
theorem dL_law_846 : decode cL_law 846 = .ok (.iaload, 1) := by decide +kernel
theorem dL_law_847 : decode cL_law 847 = .ok (.goto 5, 3) := by decide +kernel
theorem dL_law_850 : decode cL_law 850 = .ok (.iload 23, 2) := by decide +kernel
theorem dL_law_852 : decode cL_law 852 = .ok (.iastore, 1) := by decide +kernel
theorem dL_law_853 : decode cL_law 853 = .ok (.goto 777, 3) := by decide +kernel
theorem dL_law_856 : decode cL_law 856 = .ok (.iload 17, 2) := by decide +kernel
theorem dL_law_858 : decode cL_law 858 = .ok (.bipush 7, 2) := by decide +kernel
theorem dL_law_860 : decode cL_law 860 = .ok (.if_icmp .ne 59, 3) := by decide +kernel
theorem dL_law_863 : decode cL_law 863 = .ok (.iload 10, 2) := by decide +kernel
theorem dL_law_865 : decode cL_law 865 = .ok (.ifCond .le 54, 3) := by decide +kernel
theorem dL_law_868 : decode cL_law 868 = .ok (.aload_n 1, 1) := by decide +kernel
theorem dL_law_869 : decode cL_law 869 = .ok (.iload 19, 2) := by decide +kernel
theorem dL_law_871 : decode cL_law 871 = .ok (.invokevirtual 95, 3) := by decide +kernel
theorem dL_law_874 : decode cL_law 874 = .ok (.istore 23, 2) := by decide +kernel
theorem dL_law_876 : decode cL_law 876 = .ok (.iload 23, 2) := by decide +kernel
theorem dL_law_878 : decode cL_law 878 = .ok (.ifCond .lt 35, 3) := by decide +kernel
theorem dL_law_881 : decode cL_law 881 = .ok (.iload 23, 2) := by decide +kernel
theorem dL_law_883 : decode cL_law 883 = .ok (.ldc 98, 2) := by decide +kernel
theorem dL_law_885 : decode cL_law 885 = .ok (.if_icmp .ge 28, 3) := by decide +kernel
theorem dL_law_888 : decode cL_law 888 = .ok (.aload_n 1, 1) := by decide +kernel
theorem dL_law_889 : decode cL_law 889 = .ok (.iload 19, 2) := by decide +kernel
theorem dL_law_891 : decode cL_law 891 = .ok (.invokevirtual 95, 3) := by decide +kernel
theorem dL_law_894 : decode cL_law 894 = .ok (.iload 23, 2) := by decide +kernel
theorem dL_law_896 : decode cL_law 896 = .ok (.if_icmp .ne 17, 3) := by decide +kernel
theorem dL_law_899 : decode cL_law 899 = .ok (.aload_n 1, 1) := by decide +kernel
theorem dL_law_900 : decode cL_law 900 = .ok (.iload 19, 2) := by decide +kernel
theorem dL_law_902 : decode cL_law 902 = .ok (.invokevirtual 47, 3) := by decide +kernel
theorem dL_law_905 : decode cL_law 905 = .ok (.iconst 4, 1) := by decide +kernel
theorem dL_law_906 : decode cL_law 906 = .ok (.if_icmp .eq 7, 3) := by decide +kernel
theorem dL_law_909 : decode cL_law 909 = .ok (.iconst 1, 1) := by decide +kernel
theorem dL_law_910 : decode cL_law 910 = .ok (.goto 4, 3) := by decide +kernel
theorem dL_law_913 : decode cL_law 913 = .ok (.iconst 0, 1) := by decide +kernel
theorem dL_law_914 : decode cL_law 914 = .ok (.istore 12, 2) := by decide +kernel
theorem dL_law_916 : decode cL_law 916 = .ok (.goto 714, 3) := by decide +kernel
theorem dL_law_919 : decode cL_law 919 = .ok (.iload 17, 2) := by decide +kernel
theorem dL_law_921 : decode cL_law 921 = .ok (.bipush 8, 2) := by decide +kernel
theorem dL_law_923 : decode cL_law 923 = .ok (.if_icmp .ne 72, 3) := by decide +kernel
theorem dL_law_926 : decode cL_law 926 = .ok (.iload 10, 2) := by decide +kernel
theorem dL_law_928 : decode cL_law 928 = .ok (.ifCond .le 67, 3) := by decide +kernel
theorem dL_law_931 : decode cL_law 931 = .ok (.iload 16, 2) := by decide +kernel
theorem dL_law_933 : decode cL_law 933 = .ok (.iconst 3, 1) := by decide +kernel
theorem dL_law_934 : decode cL_law 934 = .ok (.iand, 1) := by decide +kernel
theorem dL_law_935 : decode cL_law 935 = .ok (.ifCond .ne 60, 3) := by decide +kernel
theorem dL_law_938 : decode cL_law 938 = .ok (.aload_n 1, 1) := by decide +kernel
theorem dL_law_939 : decode cL_law 939 = .ok (.iload 19, 2) := by decide +kernel
theorem dL_law_941 : decode cL_law 941 = .ok (.invokevirtual 47, 3) := by decide +kernel
theorem dL_law_944 : decode cL_law 944 = .ok (.istore 23, 2) := by decide +kernel
theorem dL_law_946 : decode cL_law 946 = .ok (.aload_n 1, 1) := by decide +kernel
theorem dL_law_947 : decode cL_law 947 = .ok (.iload 19, 2) := by decide +kernel
theorem dL_law_949 : decode cL_law 949 = .ok (.invokevirtual 99, 3) := by decide +kernel
theorem dL_law_952 : decode cL_law 952 = .ok (.istore 24, 2) := by decide +kernel
theorem dL_law_954 : decode cL_law 954 = .ok (.aload_n 1, 1) := by decide +kernel
theorem dL_law_955 : decode cL_law 955 = .ok (.iload 19, 2) := by decide +kernel
theorem dL_law_957 : decode cL_law 957 = .ok (.invokevirtual 47, 3) := by decide +kernel
theorem dL_law_960 : decode cL_law 960 = .ok (.iload 23, 2) := by decide +kernel
theorem dL_law_962 : decode cL_law 962 = .ok (.if_icmp .ne 27, 3) := by decide +kernel
theorem dL_law_965 : decode cL_law 965 = .ok (.aload_n 1, 1) := by decide +kernel
theorem dL_law_966 : decode cL_law 966 = .ok (.iload 19, 2) := by decide +kernel
theorem dL_law_968 : decode cL_law 968 = .ok (.invokevirtual 99, 3) := by decide +kernel
theorem dL_law_971 : decode cL_law 971 = .ok (.ifCond .ne 18, 3) := by decide +kernel
theorem dL_law_974 : decode cL_law 974 = .ok (.iload 23, 2) := by decide +kernel
theorem dL_law_976 : decode cL_law 976 = .ok (.iconst 2, 1) := by decide +kernel
theorem dL_law_977 : decode cL_law 977 = .ok (.if_icmp .ne 8, 3) := by decide +kernel
theorem dL_law_980 : decode cL_law 980 = .ok (.iload 24, 2) := by decide +kernel
theorem dL_law_982 : decode cL_law 982 = .ok (.ifCond .ne 7, 3) := by decide +kernel
theorem dL_law_985 : decode cL_law 985 = .ok (.iconst 1, 1) := by decide +kernel
theorem dL_law_986 : decode cL_law 986 = .ok (.goto 4, 3) := by decide +kernel
theorem dL_law_989 : decode cL_law 989 = .ok (.iconst 0, 1) := by decide +kernel
theorem dL_law_990 : decode cL_law 990 = .ok (.istore 12, 2) := by decide +kernel
theorem dL_law_992 : decode cL_law 992 = .ok (.goto 638, 3) := by decide +kernel
theorem dL_law_995 : decode cL_law 995 = .ok (.iload 17, 2) := by decide +kernel
theorem dL_law_997 : decode cL_law 997 = .ok (.bipush 10, 2) := by decide +kernel
theorem dL_law_999 : decode cL_law 999 = .ok (.if_icmp .ge 58, 3) := by decide +kernel
theorem dL_law_1002 : decode cL_law 1002 = .ok (.aload_n 1, 1) := by decide +kernel
theorem dL_law_1003 : decode cL_law 1003 = .ok (.iload 18, 2) := by decide +kernel
theorem dL_law_1005 : decode cL_law 1005 = .ok (.iload 16, 2) := by decide +kernel
theorem dL_law_1007 : decode cL_law 1007 = .ok (.iconst 3, 1) := by decide +kernel
theorem dL_law_1008 : decode cL_law 1008 = .ok (.ishr, 1) := by decide +kernel
theorem dL_law_1009 : decode cL_law 1009 = .ok (.bipush 101, 2) := by decide +kernel
theorem dL_law_1011 : decode cL_law 1011 = .ok (.irem, 1) := by decide +kernel
theorem dL_law_1012 : decode cL_law 1012 = .ok (.invokevirtual 103, 3) := by decide +kernel
theorem dL_law_1015 : decode cL_law 1015 = .ok (.istore 23, 2) := by decide +kernel
theorem dL_law_1017 : decode cL_law 1017 = .ok (.iload 23, 2) := by decide +kernel
theorem dL_law_1019 : decode cL_law 1019 = .ok (.ifCond .lt 32, 3) := by decide +kernel
theorem dL_law_1022 : decode cL_law 1022 = .ok (.iload 23, 2) := by decide +kernel
theorem dL_law_1024 : decode cL_law 1024 = .ok (.iload 10, 2) := by decide +kernel
theorem dL_law_1026 : decode cL_law 1026 = .ok (.if_icmp .gt 25, 3) := by decide +kernel
theorem dL_law_1029 : decode cL_law 1029 = .ok (.aload_n 1, 1) := by decide +kernel
theorem dL_law_1030 : decode cL_law 1030 = .ok (.iload 18, 2) := by decide +kernel
theorem dL_law_1032 : decode cL_law 1032 = .ok (.iload 16, 2) := by decide +kernel
theorem dL_law_1034 : decode cL_law 1034 = .ok (.iconst 3, 1) := by decide +kernel
theorem dL_law_1035 : decode cL_law 1035 = .ok (.ishr, 1) := by decide +kernel
theorem dL_law_1036 : decode cL_law 1036 = .ok (.bipush 101, 2) := by decide +kernel
theorem dL_law_1038 : decode cL_law 1038 = .ok (.irem, 1) := by decide +kernel
theorem dL_law_1039 : decode cL_law 1039 = .ok (.invokevirtual 103, 3) := by decide +kernel
theorem dL_law_1042 : decode cL_law 1042 = .ok (.iload 23, 2) := by decide +kernel
theorem dL_law_1044 : decode cL_law 1044 = .ok (.if_icmp .ne 7, 3) := by decide +kernel
theorem dL_law_1047 : decode cL_law 1047 = .ok (.iconst 1, 1) := by decide +kernel
theorem dL_law_1048 : decode cL_law 1048 = .ok (.goto 4, 3) := by decide +kernel
theorem dL_law_1051 : decode cL_law 1051 = .ok (.iconst 0, 1) := by decide +kernel
theorem dL_law_1052 : decode cL_law 1052 = .ok (.istore 12, 2) := by decide +kernel
theorem dL_law_1054 : decode cL_law 1054 = .ok (.goto 576, 3) := by decide +kernel
theorem dL_law_1057 : decode cL_law 1057 = .ok (.iload 17, 2) := by decide +kernel
theorem dL_law_1059 : decode cL_law 1059 = .ok (.bipush 10, 2) := by decide +kernel
theorem dL_law_1061 : decode cL_law 1061 = .ok (.if_icmp .ne 88, 3) := by decide +kernel
theorem dL_law_1064 : decode cL_law 1064 = .ok (.iload 16, 2) := by decide +kernel
theorem dL_law_1066 : decode cL_law 1066 = .ok (.iconst 1, 1) := by decide +kernel
theorem dL_law_1067 : decode cL_law 1067 = .ok (.iand, 1) := by decide +kernel
theorem dL_law_1068 : decode cL_law 1068 = .ok (.ifCond .ne 81, 3) := by decide +kernel
theorem dL_law_1071 : decode cL_law 1071 = .ok (.aload_n 1, 1) := by decide +kernel
theorem dL_law_1072 : decode cL_law 1072 = .ok (.invokevirtual 106, 3) := by decide +kernel
theorem dL_law_1075 : decode cL_law 1075 = .ok (.istore 23, 2) := by decide +kernel
theorem dL_law_1077 : decode cL_law 1077 = .ok (.iconst 1, 1) := by decide +kernel
theorem dL_law_1078 : decode cL_law 1078 = .ok (.iload 16, 2) := by decide +kernel
theorem dL_law_1080 : decode cL_law 1080 = .ok (.iconst 3, 1) := by decide +kernel
theorem dL_law_1081 : decode cL_law 1081 = .ok (.ishr, 1) := by decide +kernel
theorem dL_law_1082 : decode cL_law 1082 = .ok (.bipush 12, 2) := by decide +kernel
theorem dL_law_1084 : decode cL_law 1084 = .ok (.irem, 1) := by decide +kernel
theorem dL_law_1085 : decode cL_law 1085 = .ok (.iadd, 1) := by decide +kernel
theorem dL_law_1086 : decode cL_law 1086 = .ok (.istore 24, 2) := by decide +kernel
theorem dL_law_1088 : decode cL_law 1088 = .ok (.iload 16, 2) := by decide +kernel
theorem dL_law_1090 : decode cL_law 1090 = .ok (.iconst 1, 1) := by decide +kernel
theorem dL_law_1091 : decode cL_law 1091 = .ok (.ishr, 1) := by decide +kernel
theorem dL_law_1092 : decode cL_law 1092 = .ok (.iconst 3, 1) := by decide +kernel
theorem dL_law_1093 : decode cL_law 1093 = .ok (.iand, 1) := by decide +kernel
theorem dL_law_1094 : decode cL_law 1094 = .ok (.ifCond .ne 31, 3) := by decide +kernel
theorem dL_law_1097 : decode cL_law 1097 = .ok (.aload_n 1, 1) := by decide +kernel
theorem dL_law_1098 : decode cL_law 1098 = .ok (.iconst 5, 1) := by decide +kernel
theorem dL_law_1099 : decode cL_law 1099 = .ok (.iload 18, 2) := by decide +kernel
theorem dL_law_1101 : decode cL_law 1101 = .ok (.iconst 0, 1) := by decide +kernel
theorem dL_law_1102 : decode cL_law 1102 = .ok (.invokestatic 54, 3) := by decide +kernel
theorem dL_law_1105 : decode cL_law 1105 = .ok (.ifCond .eq 16, 3) := by decide +kernel
theorem dL_law_1108 : decode cL_law 1108 = .ok (.aload_n 1, 1) := by decide +kernel
theorem dL_law_1109 : decode cL_law 1109 = .ok (.invokevirtual 106, 3) := by decide +kernel
theorem dL_law_1112 : decode cL_law 1112 = .ok (.iload 23, 2) := by decide +kernel
theorem dL_law_1114 : decode cL_law 1114 = .ok (.if_icmp .ne 7, 3) := by decide +kernel
theorem dL_law_1117 : decode cL_law 1117 = .ok (.iconst 1, 1) := by decide +kernel
theorem dL_law_1118 : decode cL_law 1118 = .ok (.goto 26, 3) := by decide +kernel
theorem dL_law_1121 : decode cL_law 1121 = .ok (.iconst 0, 1) := by decide +kernel
theorem dL_law_1122 : decode cL_law 1122 = .ok (.goto 22, 3) := by decide +kernel
theorem dL_law_1125 : decode cL_law 1125 = .ok (.aload_n 1, 1) := by decide +kernel
theorem dL_law_1126 : decode cL_law 1126 = .ok (.iload 24, 2) := by decide +kernel
theorem dL_law_1128 : decode cL_law 1128 = .ok (.invokevirtual 109, 3) := by decide +kernel
theorem dL_law_1131 : decode cL_law 1131 = .ok (.iload 23, 2) := by decide +kernel
theorem dL_law_1133 : decode cL_law 1133 = .ok (.iload 24, 2) := by decide +kernel
theorem dL_law_1135 : decode cL_law 1135 = .ok (.iadd, 1) := by decide +kernel
theorem dL_law_1136 : decode cL_law 1136 = .ok (.if_icmp .ne 7, 3) := by decide +kernel
theorem dL_law_1139 : decode cL_law 1139 = .ok (.iconst 1, 1) := by decide +kernel
theorem dL_law_1140 : decode cL_law 1140 = .ok (.goto 4, 3) := by decide +kernel
theorem dL_law_1143 : decode cL_law 1143 = .ok (.iconst 0, 1) := by decide +kernel
theorem dL_law_1144 : decode cL_law 1144 = .ok (.istore 12, 2) := by decide +kernel
theorem dL_law_1146 : decode cL_law 1146 = .ok (.goto 484, 3) := by decide +kernel
theorem dL_law_1149 : decode cL_law 1149 = .ok (.iload 17, 2) := by decide +kernel
theorem dL_law_1151 : decode cL_law 1151 = .ok (.bipush 13, 2) := by decide +kernel
theorem dL_law_1153 : decode cL_law 1153 = .ok (.if_icmp .ge 211, 3) := by decide +kernel
theorem dL_law_1156 : decode cL_law 1156 = .ok (.iload 11, 2) := by decide +kernel
theorem dL_law_1158 : decode cL_law 1158 = .ok (.bipush 8, 2) := by decide +kernel
theorem dL_law_1160 : decode cL_law 1160 = .ok (.if_icmp .ge 204, 3) := by decide +kernel
theorem dL_law_1163 : decode cL_law 1163 = .ok (.iconst 1, 1) := by decide +kernel
theorem dL_law_1164 : decode cL_law 1164 = .ok (.iload 16, 2) := by decide +kernel
theorem dL_law_1166 : decode cL_law 1166 = .ok (.iconst 3, 1) := by decide +kernel
theorem dL_law_1167 : decode cL_law 1167 = .ok (.ishr, 1) := by decide +kernel
theorem dL_law_1168 : decode cL_law 1168 = .ok (.bipush 6, 2) := by decide +kernel
theorem dL_law_1170 : decode cL_law 1170 = .ok (.irem, 1) := by decide +kernel
theorem dL_law_1171 : decode cL_law 1171 = .ok (.iadd, 1) := by decide +kernel
theorem dL_law_1172 : decode cL_law 1172 = .ok (.istore 23, 2) := by decide +kernel
theorem dL_law_1174 : decode cL_law 1174 = .ok (.bipush 7, 2) := by decide +kernel
theorem dL_law_1176 : decode cL_law 1176 = .ok (.iload 11, 2) := by decide +kernel
theorem dL_law_1178 : decode cL_law 1178 = .ok (.imul, 1) := by decide +kernel
theorem dL_law_1179 : decode cL_law 1179 = .ok (.istore 24, 2) := by decide +kernel
theorem dL_law_1181 : decode cL_law 1181 = .ok (.iconst 0, 1) := by decide +kernel
theorem dL_law_1182 : decode cL_law 1182 = .ok (.istore 25, 2) := by decide +kernel
theorem dL_law_1184 : decode cL_law 1184 = .ok (.iload 25, 2) := by decide +kernel
theorem dL_law_1186 : decode cL_law 1186 = .ok (.iload 23, 2) := by decide +kernel
theorem dL_law_1188 : decode cL_law 1188 = .ok (.if_icmp .ge 113, 3) := by decide +kernel
theorem dL_law_1191 : decode cL_law 1191 = .ok (.iload 12, 2) := by decide +kernel
theorem dL_law_1193 : decode cL_law 1193 = .ok (.ifCond .eq 108, 3) := by decide +kernel
theorem dL_law_1196 : decode cL_law 1196 = .ok (.iload 16, 2) := by decide +kernel
theorem dL_law_1198 : decode cL_law 1198 = .ok (.iconst 4, 1) := by decide +kernel
theorem dL_law_1199 : decode cL_law 1199 = .ok (.iconst 3, 1) := by decide +kernel
theorem dL_law_1200 : decode cL_law 1200 = .ok (.iload 25, 2) := by decide +kernel
theorem dL_law_1202 : decode cL_law 1202 = .ok (.imul, 1) := by decide +kernel
theorem dL_law_1203 : decode cL_law 1203 = .ok (.iadd, 1) := by decide +kernel
theorem dL_law_1204 : decode cL_law 1204 = .ok (.ishr, 1) := by decide +kernel
theorem dL_law_1205 : decode cL_law 1205 = .ok (.bipush 7, 2) := by decide +kernel
theorem dL_law_1207 : decode cL_law 1207 = .ok (.iand, 1) := by decide +kernel
theorem dL_law_1208 : decode cL_law 1208 = .ok (.bipush 7, 2) := by decide +kernel
theorem dL_law_1210 : decode cL_law 1210 = .ok (.irem, 1) := by decide +kernel
theorem dL_law_1211 : decode cL_law 1211 = .ok (.istore 26, 2) := by decide +kernel
theorem dL_law_1213 : decode cL_law 1213 = .ok (.aload_n 1, 1) := by decide +kernel
theorem dL_law_1214 : decode cL_law 1214 = .ok (.iload 26, 2) := by decide +kernel
theorem dL_law_1216 : decode cL_law 1216 = .ok (.invokevirtual 112, 3) := by decide +kernel
theorem dL_law_1219 : decode cL_law 1219 = .ok (.iload 25, 2) := by decide +kernel
theorem dL_law_1221 : decode cL_law 1221 = .ok (.iconst 1, 1) := by decide +kernel
theorem dL_law_1222 : decode cL_law 1222 = .ok (.iadd, 1) := by decide +kernel
theorem dL_law_1223 : decode cL_law 1223 = .ok (.if_icmp .ne 7, 3) := by decide +kernel
theorem dL_law_1226 : decode cL_law 1226 = .ok (.iconst 1, 1) := by decide +kernel
theorem dL_law_1227 : decode cL_law 1227 = .ok (.goto 4, 3) := by decide +kernel
theorem dL_law_1230 : decode cL_law 1230 = .ok (.iconst 0, 1) := by decide +kernel
theorem dL_law_1231 : decode cL_law 1231 = .ok (.istore 12, 2) := by decide +kernel
theorem dL_law_1233 : decode cL_law 1233 = .ok (.aload 8, 2) := by decide +kernel
theorem dL_law_1235 : decode cL_law 1235 = .ok (.iload 24, 2) := by decide +kernel
theorem dL_law_1237 : decode cL_law 1237 = .ok (.iaload, 1) := by decide +kernel
theorem dL_law_1238 : decode cL_law 1238 = .ok (.ifCond .le 23, 3) := by decide +kernel
theorem dL_law_1241 : decode cL_law 1241 = .ok (.aload 8, 2) := by decide +kernel
theorem dL_law_1243 : decode cL_law 1243 = .ok (.iload 24, 2) := by decide +kernel
theorem dL_law_1245 : decode cL_law 1245 = .ok (.aload 8, 2) := by decide +kernel
theorem dL_law_1247 : decode cL_law 1247 = .ok (.iload 24, 2) := by decide +kernel
theorem dL_law_1249 : decode cL_law 1249 = .ok (.iaload, 1) := by decide +kernel
theorem dL_law_1250 : decode cL_law 1250 = .ok (.iadd, 1) := by decide +kernel
theorem dL_law_1251 : decode cL_law 1251 = .ok (.iaload, 1) := by decide +kernel
theorem dL_law_1252 : decode cL_law 1252 = .ok (.iload 26, 2) := by decide +kernel
theorem dL_law_1254 : decode cL_law 1254 = .ok (.if_icmp .ne 7, 3) := by decide +kernel
theorem dL_law_1257 : decode cL_law 1257 = .ok (.iconst 1, 1) := by decide +kernel
theorem dL_law_1258 : decode cL_law 1258 = .ok (.goto 4, 3) := by decide +kernel
theorem dL_law_1261 : decode cL_law 1261 = .ok (.iconst 0, 1) := by decide +kernel
theorem dL_law_1262 : decode cL_law 1262 = .ok (.istore 27, 2) := by decide +kernel
theorem dL_law_1264 : decode cL_law 1264 = .ok (.aload 8, 2) := by decide +kernel
theorem dL_law_1266 : decode cL_law 1266 = .ok (.iload 24, 2) := by decide +kernel
theorem dL_law_1268 : decode cL_law 1268 = .ok (.dup2, 1) := by decide +kernel
theorem dL_law_1269 : decode cL_law 1269 = .ok (.iaload, 1) := by decide +kernel
theorem dL_law_1270 : decode cL_law 1270 = .ok (.iload 27, 2) := by decide +kernel
theorem dL_law_1272 : decode cL_law 1272 = .ok (.ifCond .eq 7, 3) := by decide +kernel
theorem dL_law_1275 : decode cL_law 1275 = .ok (.iconst 0, 1) := by decide +kernel
theorem dL_law_1276 : decode cL_law 1276 = .ok (.goto 4, 3) := by decide +kernel
theorem dL_law_1279 : decode cL_law 1279 = .ok (.iconst 1, 1) := by decide +kernel
theorem dL_law_1280 : decode cL_law 1280 = .ok (.iadd, 1) := by decide +kernel
theorem dL_law_1281 : decode cL_law 1281 = .ok (.iastore, 1) := by decide +kernel
theorem dL_law_1282 : decode cL_law 1282 = .ok (.aload 8, 2) := by decide +kernel
theorem dL_law_1284 : decode cL_law 1284 = .ok (.iload 24, 2) := by decide +kernel
theorem dL_law_1286 : decode cL_law 1286 = .ok (.aload 8, 2) := by decide +kernel
theorem dL_law_1288 : decode cL_law 1288 = .ok (.iload 24, 2) := by decide +kernel
theorem dL_law_1290 : decode cL_law 1290 = .ok (.iaload, 1) := by decide +kernel
theorem dL_law_1291 : decode cL_law 1291 = .ok (.iadd, 1) := by decide +kernel
theorem dL_law_1292 : decode cL_law 1292 = .ok (.iload 26, 2) := by decide +kernel
theorem dL_law_1294 : decode cL_law 1294 = .ok (.iastore, 1) := by decide +kernel
theorem dL_law_1295 : decode cL_law 1295 = .ok (.iinc 25 1, 3) := by decide +kernel
theorem dL_law_1298 : decode cL_law 1298 = .ok (.goto (-114), 3) := by decide +kernel
theorem dL_law_1301 : decode cL_law 1301 = .ok (.iload 12, 2) := by decide +kernel
theorem dL_law_1303 : decode cL_law 1303 = .ok (.ifCond .eq 52, 3) := by decide +kernel
theorem dL_law_1306 : decode cL_law 1306 = .ok (.aload_n 1, 1) := by decide +kernel
theorem dL_law_1307 : decode cL_law 1307 = .ok (.iload 22, 2) := by decide +kernel
theorem dL_law_1309 : decode cL_law 1309 = .ok (.iload 21, 2) := by decide +kernel
theorem dL_law_1311 : decode cL_law 1311 = .ok (.invokevirtual 115, 3) := by decide +kernel
theorem dL_law_1314 : decode cL_law 1314 = .ok (.iload 11, 2) := by decide +kernel
theorem dL_law_1316 : decode cL_law 1316 = .ok (.if_icmp .ne 39, 3) := by decide +kernel
theorem dL_law_1319 : decode cL_law 1319 = .ok (.aload_n 1, 1) := by decide +kernel
theorem dL_law_1320 : decode cL_law 1320 = .ok (.invokevirtual 118, 3) := by decide +kernel
theorem dL_law_1323 : decode cL_law 1323 = .ok (.iload 11, 2) := by decide +kernel
theorem dL_law_1325 : decode cL_law 1325 = .ok (.iconst 1, 1) := by decide +kernel
theorem dL_law_1326 : decode cL_law 1326 = .ok (.iadd, 1) := by decide +kernel
theorem dL_law_1327 : decode cL_law 1327 = .ok (.if_icmp .ne 28, 3) := by decide +kernel
theorem dL_law_1330 : decode cL_law 1330 = .ok (.aload_n 1, 1) := by decide +kernel
theorem dL_law_1331 : decode cL_law 1331 = .ok (.aload 8, 2) := by decide +kernel
theorem dL_law_1333 : decode cL_law 1333 = .ok (.iload 24, 2) := by decide +kernel
theorem dL_law_1335 : decode cL_law 1335 = .ok (.iconst 1, 1) := by decide +kernel
theorem dL_law_1336 : decode cL_law 1336 = .ok (.iadd, 1) := by decide +kernel
theorem dL_law_1337 : decode cL_law 1337 = .ok (.iaload, 1) := by decide +kernel
theorem dL_law_1338 : decode cL_law 1338 = .ok (.invokevirtual 70, 3) := by decide +kernel
theorem dL_law_1341 : decode cL_law 1341 = .ok (.iconst 1, 1) := by decide +kernel
theorem dL_law_1342 : decode cL_law 1342 = .ok (.bipush 8, 2) := by decide +kernel
theorem dL_law_1344 : decode cL_law 1344 = .ok (.iload 21, 2) := by decide +kernel
theorem dL_law_1346 : decode cL_law 1346 = .ok (.isub, 1) := by decide +kernel
theorem dL_law_1347 : decode cL_law 1347 = .ok (.ishl, 1) := by decide +kernel
theorem dL_law_1348 : decode cL_law 1348 = .ok (.if_icmp .lt 7, 3) := by decide +kernel
theorem dL_law_1351 : decode cL_law 1351 = .ok (.iconst 1, 1) := by decide +kernel
theorem dL_law_1352 : decode cL_law 1352 = .ok (.goto 4, 3) := by decide +kernel
theorem dL_law_1355 : decode cL_law 1355 = .ok (.iconst 0, 1) := by decide +kernel
theorem dL_law_1356 : decode cL_law 1356 = .ok (.istore 12, 2) := by decide +kernel
theorem dL_law_1358 : decode cL_law 1358 = .ok (.iinc 11 1, 3) := by decide +kernel
theorem dL_law_1361 : decode cL_law 1361 = .ok (.goto 269, 3) := by decide +kernel
theorem dL_law_1364 : decode cL_law 1364 = .ok (.iload 17, 2) := by decide +kernel
theorem dL_law_1366 : decode cL_law 1366 = .ok (.bipush 13, 2) := by decide +kernel
theorem dL_law_1368 : decode cL_law 1368 = .ok (.if_icmp .ne 104, 3) := by decide +kernel
theorem dL_law_1371 : decode cL_law 1371 = .ok (.iload 11, 2) := by decide +kernel
theorem dL_law_1373 : decode cL_law 1373 = .ok (.ifCond .le 99, 3) := by decide +kernel
theorem dL_law_1376 : decode cL_law 1376 = .ok (.iload 16, 2) := by decide +kernel
theorem dL_law_1378 : decode cL_law 1378 = .ok (.iconst 3, 1) := by decide +kernel
theorem dL_law_1379 : decode cL_law 1379 = .ok (.iand, 1) := by decide +kernel
theorem dL_law_1380 : decode cL_law 1380 = .ok (.ifCond .ne 92, 3) := by decide +kernel
theorem dL_law_1383 : decode cL_law 1383 = .ok (.iload 16, 2) := by decide +kernel
theorem dL_law_1385 : decode cL_law 1385 = .ok (.iconst 2, 1) := by decide +kernel
theorem dL_law_1386 : decode cL_law 1386 = .ok (.ishr, 1) := by decide +kernel
theorem dL_law_1387 : decode cL_law 1387 = .ok (.iload 11, 2) := by decide +kernel
theorem dL_law_1389 : decode cL_law 1389 = .ok (.irem, 1) := by decide +kernel
theorem dL_law_1390 : decode cL_law 1390 = .ok (.istore 23, 2) := by decide +kernel
theorem dL_law_1392 : decode cL_law 1392 = .ok (.aload_n 1, 1) := by decide +kernel
theorem dL_law_1393 : decode cL_law 1393 = .ok (.iconst 1, 1) := by decide +kernel
theorem dL_law_1394 : decode cL_law 1394 = .ok (.iload 23, 2) := by decide +kernel
theorem dL_law_1396 : decode cL_law 1396 = .ok (.iconst 0, 1) := by decide +kernel
theorem dL_law_1397 : decode cL_law 1397 = .ok (.invokestatic 54, 3) := by decide +kernel
theorem dL_law_1400 : decode cL_law 1400 = .ok (.istore 24, 2) := by decide +kernel
theorem dL_law_1402 : decode cL_law 1402 = .ok (.aload 8, 2) := by decide +kernel
theorem dL_law_1404 : decode cL_law 1404 = .ok (.bipush 7, 2) := by decide +kernel
theorem dL_law_1406 : decode cL_law 1406 = .ok (.iload 23, 2) := by decide +kernel
theorem dL_law_1408 : decode cL_law 1408 = .ok (.imul, 1) := by decide +kernel
theorem dL_law_1409 : decode cL_law 1409 = .ok (.iaload, 1) := by decide +kernel
theorem dL_law_1410 : decode cL_law 1410 = .ok (.ifCond .ne 18, 3) := by decide +kernel
theorem dL_law_1413 : decode cL_law 1413 = .ok (.iload 24, 2) := by decide +kernel
theorem dL_law_1415 : decode cL_law 1415 = .ok (.bipush (-13), 2) := by decide +kernel
theorem dL_law_1417 : decode cL_law 1417 = .ok (.if_icmp .ne 7, 3) := by decide +kernel
theorem dL_law_1420 : decode cL_law 1420 = .ok (.iconst 1, 1) := by decide +kernel
theorem dL_law_1421 : decode cL_law 1421 = .ok (.goto 37, 3) := by decide +kernel
theorem dL_law_1424 : decode cL_law 1424 = .ok (.iconst 0, 1) := by decide +kernel
theorem dL_law_1425 : decode cL_law 1425 = .ok (.goto 33, 3) := by decide +kernel
theorem dL_law_1428 : decode cL_law 1428 = .ok (.iload 24, 2) := by decide +kernel
theorem dL_law_1430 : decode cL_law 1430 = .ok (.ifCond .lt 27, 3) := by decide +kernel
theorem dL_law_1433 : decode cL_law 1433 = .ok (.iload 24, 2) := by decide +kernel
theorem dL_law_1435 : decode cL_law 1435 = .ok (.iload 11, 2) := by decide +kernel
theorem dL_law_1437 : decode cL_law 1437 = .ok (.if_icmp .ge 20, 3) := by decide +kernel
theorem dL_law_1440 : decode cL_law 1440 = .ok (.aload_n 1, 1) := by decide +kernel
theorem dL_law_1441 : decode cL_law 1441 = .ok (.iconst 1, 1) := by decide +kernel
theorem dL_law_1442 : decode cL_law 1442 = .ok (.iload 23, 2) := by decide +kernel
theorem dL_law_1444 : decode cL_law 1444 = .ok (.iconst 0, 1) := by decide +kernel
theorem dL_law_1445 : decode cL_law 1445 = .ok (.invokestatic 54, 3) := by decide +kernel
theorem dL_law_1448 : decode cL_law 1448 = .ok (.bipush (-13), 2) := by decide +kernel
theorem dL_law_1450 : decode cL_law 1450 = .ok (.if_icmp .ne 7, 3) := by decide +kernel
theorem dL_law_1453 : decode cL_law 1453 = .ok (.iconst 1, 1) := by decide +kernel
theorem dL_law_1454 : decode cL_law 1454 = .ok (.goto 4, 3) := by decide +kernel
theorem dL_law_1457 : decode cL_law 1457 = .ok (.iconst 0, 1) := by decide +kernel
theorem dL_law_1458 : decode cL_law 1458 = .ok (.istore 12, 2) := by decide +kernel
theorem dL_law_1460 : decode cL_law 1460 = .ok (.aload 8, 2) := by decide +kernel
theorem dL_law_1462 : decode cL_law 1462 = .ok (.bipush 7, 2) := by decide +kernel
theorem dL_law_1464 : decode cL_law 1464 = .ok (.iload 23, 2) := by decide +kernel
theorem dL_law_1466 : decode cL_law 1466 = .ok (.imul, 1) := by decide +kernel
theorem dL_law_1467 : decode cL_law 1467 = .ok (.iconst 0, 1) := by decide +kernel
theorem dL_law_1468 : decode cL_law 1468 = .ok (.iastore, 1) := by decide +kernel
theorem dL_law_1469 : decode cL_law 1469 = .ok (.goto 161, 3) := by decide +kernel
theorem dL_law_1472 : decode cL_law 1472 = .ok (.iload 20, 2) := by decide +kernel
theorem dL_law_1474 : decode cL_law 1474 = .ok (.iconst 1, 1) := by decide +kernel
theorem dL_law_1475 : decode cL_law 1475 = .ok (.iadd, 1) := by decide +kernel
theorem dL_law_1476 : decode cL_law 1476 = .ok (.iload 16, 2) := by decide +kernel
theorem dL_law_1478 : decode cL_law 1478 = .ok (.iconst 5, 1) := by decide +kernel
theorem dL_law_1479 : decode cL_law 1479 = .ok (.ishr, 1) := by decide +kernel
theorem dL_law_1480 : decode cL_law 1480 = .ok (.bipush 6, 2) := by decide +kernel
theorem dL_law_1482 : decode cL_law 1482 = .ok (.irem, 1) := by decide +kernel
theorem dL_law_1483 : decode cL_law 1483 = .ok (.iadd, 1) := by decide +kernel
theorem dL_law_1484 : decode cL_law 1484 = .ok (.bipush 7, 2) := by decide +kernel
theorem dL_law_1486 : decode cL_law 1486 = .ok (.irem, 1) := by decide +kernel
theorem dL_law_1487 : decode cL_law 1487 = .ok (.istore 23, 2) := by decide +kernel
theorem dL_law_1489 : decode cL_law 1489 = .ok (.iload 16, 2) := by decide +kernel
theorem dL_law_1491 : decode cL_law 1491 = .ok (.bipush 8, 2) := by decide +kernel
theorem dL_law_1493 : decode cL_law 1493 = .ok (.ishr, 1) := by decide +kernel
theorem dL_law_1494 : decode cL_law 1494 = .ok (.bipush 7, 2) := by decide +kernel
theorem dL_law_1496 : decode cL_law 1496 = .ok (.iand, 1) := by decide +kernel
theorem dL_law_1497 : decode cL_law 1497 = .ok (.iconst 4, 1) := by decide +kernel
theorem dL_law_1498 : decode cL_law 1498 = .ok (.if_icmp .le 7, 3) := by decide +kernel
theorem dL_law_1501 : decode cL_law 1501 = .ok (.iconst 3, 1) := by decide +kernel
theorem dL_law_1502 : decode cL_law 1502 = .ok (.goto 35, 3) := by decide +kernel
theorem dL_law_1505 : decode cL_law 1505 = .ok (.iload 16, 2) := by decide +kernel
theorem dL_law_1507 : decode cL_law 1507 = .ok (.bipush 8, 2) := by decide +kernel
theorem dL_law_1509 : decode cL_law 1509 = .ok (.ishr, 1) := by decide +kernel
theorem dL_law_1510 : decode cL_law 1510 = .ok (.bipush 7, 2) := by decide +kernel
theorem dL_law_1512 : decode cL_law 1512 = .ok (.iand, 1) := by decide +kernel
theorem dL_law_1513 : decode cL_law 1513 = .ok (.iconst 2, 1) := by decide +kernel
theorem dL_law_1514 : decode cL_law 1514 = .ok (.if_icmp .le 7, 3) := by decide +kernel
theorem dL_law_1517 : decode cL_law 1517 = .ok (.iconst 2, 1) := by decide +kernel
theorem dL_law_1518 : decode cL_law 1518 = .ok (.goto 19, 3) := by decide +kernel
theorem dL_law_1521 : decode cL_law 1521 = .ok (.iload 16, 2) := by decide +kernel
theorem dL_law_1523 : decode cL_law 1523 = .ok (.bipush 8, 2) := by decide +kernel
theorem dL_law_1525 : decode cL_law 1525 = .ok (.ishr, 1) := by decide +kernel
theorem dL_law_1526 : decode cL_law 1526 = .ok (.bipush 7, 2) := by decide +kernel
theorem dL_law_1528 : decode cL_law 1528 = .ok (.iand, 1) := by decide +kernel
theorem dL_law_1529 : decode cL_law 1529 = .ok (.ifCond .le 7, 3) := by decide +kernel
theorem dL_law_1532 : decode cL_law 1532 = .ok (.iconst 1, 1) := by decide +kernel
theorem dL_law_1533 : decode cL_law 1533 = .ok (.goto 4, 3) := by decide +kernel
theorem dL_law_1536 : decode cL_law 1536 = .ok (.iconst 0, 1) := by decide +kernel
theorem dL_law_1537 : decode cL_law 1537 = .ok (.istore 24, 2) := by decide +kernel
theorem dL_law_1539 : decode cL_law 1539 = .ok (.aload_n 1, 1) := by decide +kernel
theorem dL_law_1540 : decode cL_law 1540 = .ok (.iload 20, 2) := by decide +kernel
theorem dL_law_1542 : decode cL_law 1542 = .ok (.iload 23, 2) := by decide +kernel
theorem dL_law_1544 : decode cL_law 1544 = .ok (.iload 24, 2) := by decide +kernel
theorem dL_law_1546 : decode cL_law 1546 = .ok (.invokevirtual 121, 3) := by decide +kernel
theorem dL_law_1549 : decode cL_law 1549 = .ok (.ifCond .lt 78, 3) := by decide +kernel
theorem dL_law_1552 : decode cL_law 1552 = .ok (.aload_n 1, 1) := by decide +kernel
theorem dL_law_1553 : decode cL_law 1553 = .ok (.iload 23, 2) := by decide +kernel
theorem dL_law_1555 : decode cL_law 1555 = .ok (.iload 20, 2) := by decide +kernel
theorem dL_law_1557 : decode cL_law 1557 = .ok (.iload 24, 2) := by decide +kernel
theorem dL_law_1559 : decode cL_law 1559 = .ok (.iconst 1, 1) := by decide +kernel
theorem dL_law_1560 : decode cL_law 1560 = .ok (.if_icmp .ne 7, 3) := by decide +kernel
theorem dL_law_1563 : decode cL_law 1563 = .ok (.iconst 2, 1) := by decide +kernel
theorem dL_law_1564 : decode cL_law 1564 = .ok (.goto 15, 3) := by decide +kernel
theorem dL_law_1567 : decode cL_law 1567 = .ok (.iload 24, 2) := by decide +kernel
theorem dL_law_1569 : decode cL_law 1569 = .ok (.iconst 2, 1) := by decide +kernel
theorem dL_law_1570 : decode cL_law 1570 = .ok (.if_icmp .ne 7, 3) := by decide +kernel
theorem dL_law_1573 : decode cL_law 1573 = .ok (.iconst 1, 1) := by decide +kernel
theorem dL_law_1574 : decode cL_law 1574 = .ok (.goto 5, 3) := by decide +kernel
theorem dL_law_1577 : decode cL_law 1577 = .ok (.iload 24, 2) := by decide +kernel
theorem dL_law_1579 : decode cL_law 1579 = .ok (.invokevirtual 121, 3) := by decide +kernel
theorem dL_law_1582 : decode cL_law 1582 = .ok (.iload 24, 2) := by decide +kernel
theorem dL_law_1584 : decode cL_law 1584 = .ok (.iconst 1, 1) := by decide +kernel
theorem dL_law_1585 : decode cL_law 1585 = .ok (.if_icmp .ne 7, 3) := by decide +kernel
theorem dL_law_1588 : decode cL_law 1588 = .ok (.iconst 2, 1) := by decide +kernel
theorem dL_law_1589 : decode cL_law 1589 = .ok (.goto 15, 3) := by decide +kernel
theorem dL_law_1592 : decode cL_law 1592 = .ok (.iload 24, 2) := by decide +kernel
theorem dL_law_1594 : decode cL_law 1594 = .ok (.iconst 2, 1) := by decide +kernel
theorem dL_law_1595 : decode cL_law 1595 = .ok (.if_icmp .ne 7, 3) := by decide +kernel
theorem dL_law_1598 : decode cL_law 1598 = .ok (.iconst 1, 1) := by decide +kernel
theorem dL_law_1599 : decode cL_law 1599 = .ok (.goto 5, 3) := by decide +kernel
theorem dL_law_1602 : decode cL_law 1602 = .ok (.iload 24, 2) := by decide +kernel
theorem dL_law_1604 : decode cL_law 1604 = .ok (.if_icmp .ne 23, 3) := by decide +kernel
theorem dL_law_1607 : decode cL_law 1607 = .ok (.iload 24, 2) := by decide +kernel
theorem dL_law_1609 : decode cL_law 1609 = .ok (.ifCond .eq 14, 3) := by decide +kernel
theorem dL_law_1612 : decode cL_law 1612 = .ok (.aload_n 1, 1) := by decide +kernel
theorem dL_law_1613 : decode cL_law 1613 = .ok (.iload 20, 2) := by decide +kernel
theorem dL_law_1615 : decode cL_law 1615 = .ok (.iload 23, 2) := by decide +kernel
theorem dL_law_1617 : decode cL_law 1617 = .ok (.invokevirtual 124, 3) := by decide +kernel
theorem dL_law_1620 : decode cL_law 1620 = .ok (.ifCond .le 7, 3) := by decide +kernel
theorem dL_law_1623 : decode cL_law 1623 = .ok (.iconst 1, 1) := by decide +kernel
theorem dL_law_1624 : decode cL_law 1624 = .ok (.goto 4, 3) := by decide +kernel
theorem dL_law_1627 : decode cL_law 1627 = .ok (.iconst 0, 1) := by decide +kernel
theorem dL_law_1628 : decode cL_law 1628 = .ok (.istore 12, 2) := by decide +kernel
theorem dL_law_1630 : decode cL_law 1630 = .ok (.iload 12, 2) := by decide +kernel
theorem dL_law_1632 : decode cL_law 1632 = .ok (.ifCond .eq 100, 3) := by decide +kernel
theorem dL_law_1635 : decode cL_law 1635 = .ok (.iload 14, 2) := by decide +kernel
theorem dL_law_1637 : decode cL_law 1637 = .ok (.iconst 2, 1) := by decide +kernel
theorem dL_law_1638 : decode cL_law 1638 = .ok (.irem, 1) := by decide +kernel
theorem dL_law_1639 : decode cL_law 1639 = .ok (.ifCond .gt 26, 3) := by decide +kernel
theorem dL_law_1642 : decode cL_law 1642 = .ok (.aload_n 1, 1) := by decide +kernel
theorem dL_law_1643 : decode cL_law 1643 = .ok (.aload_n 2, 1) := by decide +kernel
theorem dL_law_1644 : decode cL_law 1644 = .ok (.aload_n 3, 1) := by decide +kernel
theorem dL_law_1645 : decode cL_law 1645 = .ok (.aload 4, 2) := by decide +kernel
theorem dL_law_1647 : decode cL_law 1647 = .ok (.aload 5, 2) := by decide +kernel
theorem dL_law_1649 : decode cL_law 1649 = .ok (.iload 10, 2) := by decide +kernel
theorem dL_law_1651 : decode cL_law 1651 = .ok (.iload 18, 2) := by decide +kernel
theorem dL_law_1653 : decode cL_law 1653 = .ok (.iload 20, 2) := by decide +kernel
theorem dL_law_1655 : decode cL_law 1655 = .ok (.iload 22, 2) := by decide +kernel
theorem dL_law_1657 : decode cL_law 1657 = .ok (.iload 21, 2) := by decide +kernel
theorem dL_law_1659 : decode cL_law 1659 = .ok (.invokestatic 127, 3) := by decide +kernel
theorem dL_law_1662 : decode cL_law 1662 = .ok (.ifCond .eq 70, 3) := by decide +kernel
theorem dL_law_1665 : decode cL_law 1665 = .ok (.iload 14, 2) := by decide +kernel
theorem dL_law_1667 : decode cL_law 1667 = .ok (.iconst 4, 1) := by decide +kernel
theorem dL_law_1668 : decode cL_law 1668 = .ok (.irem, 1) := by decide +kernel
theorem dL_law_1669 : decode cL_law 1669 = .ok (.iconst 1, 1) := by decide +kernel
theorem dL_law_1670 : decode cL_law 1670 = .ok (.if_icmp .ne 24, 3) := by decide +kernel
theorem dL_law_1673 : decode cL_law 1673 = .ok (.aload_n 1, 1) := by decide +kernel
theorem dL_law_1674 : decode cL_law 1674 = .ok (.iload 20, 2) := by decide +kernel
theorem dL_law_1676 : decode cL_law 1676 = .ok (.iload 16, 2) := by decide +kernel
theorem dL_law_1678 : decode cL_law 1678 = .ok (.bipush 9, 2) := by decide +kernel
theorem dL_law_1680 : decode cL_law 1680 = .ok (.ishr, 1) := by decide +kernel
theorem dL_law_1681 : decode cL_law 1681 = .ok (.bipush 7, 2) := by decide +kernel
theorem dL_law_1683 : decode cL_law 1683 = .ok (.irem, 1) := by decide +kernel
theorem dL_law_1684 : decode cL_law 1684 = .ok (.iload 16, 2) := by decide +kernel
theorem dL_law_1686 : decode cL_law 1686 = .ok (.iconst 3, 1) := by decide +kernel
theorem dL_law_1687 : decode cL_law 1687 = .ok (.irem, 1) := by decide +kernel
theorem dL_law_1688 : decode cL_law 1688 = .ok (.invokestatic 131, 3) := by decide +kernel
theorem dL_law_1691 : decode cL_law 1691 = .ok (.ifCond .eq 41, 3) := by decide +kernel
theorem dL_law_1694 : decode cL_law 1694 = .ok (.iload 14, 2) := by decide +kernel
theorem dL_law_1696 : decode cL_law 1696 = .ok (.bipush 8, 2) := by decide +kernel
theorem dL_law_1698 : decode cL_law 1698 = .ok (.irem, 1) := by decide +kernel
theorem dL_law_1699 : decode cL_law 1699 = .ok (.iconst 3, 1) := by decide +kernel
theorem dL_law_1700 : decode cL_law 1700 = .ok (.if_icmp .ne 28, 3) := by decide +kernel
theorem dL_law_1703 : decode cL_law 1703 = .ok (.aload_n 1, 1) := by decide +kernel
theorem dL_law_1704 : decode cL_law 1704 = .ok (.iload 20, 2) := by decide +kernel
theorem dL_law_1706 : decode cL_law 1706 = .ok (.iload 16, 2) := by decide +kernel
theorem dL_law_1708 : decode cL_law 1708 = .ok (.bipush 7, 2) := by decide +kernel
theorem dL_law_1710 : decode cL_law 1710 = .ok (.irem, 1) := by decide +kernel
theorem dL_law_1711 : decode cL_law 1711 = .ok (.invokevirtual 124, 3) := by decide +kernel
theorem dL_law_1714 : decode cL_law 1714 = .ok (.aload_n 1, 1) := by decide +kernel
theorem dL_law_1715 : decode cL_law 1715 = .ok (.iload 16, 2) := by decide +kernel
theorem dL_law_1717 : decode cL_law 1717 = .ok (.bipush 7, 2) := by decide +kernel
theorem dL_law_1719 : decode cL_law 1719 = .ok (.irem, 1) := by decide +kernel
theorem dL_law_1720 : decode cL_law 1720 = .ok (.iload 20, 2) := by decide +kernel
theorem dL_law_1722 : decode cL_law 1722 = .ok (.invokevirtual 124, 3) := by decide +kernel
theorem dL_law_1725 : decode cL_law 1725 = .ok (.if_icmp .ne 7, 3) := by decide +kernel
theorem dL_law_1728 : decode cL_law 1728 = .ok (.iconst 1, 1) := by decide +kernel
theorem dL_law_1729 : decode cL_law 1729 = .ok (.goto 4, 3) := by decide +kernel
theorem dL_law_1732 : decode cL_law 1732 = .ok (.iconst 0, 1) := by decide +kernel
theorem dL_law_1733 : decode cL_law 1733 = .ok (.istore 12, 2) := by decide +kernel
theorem dL_law_1735 : decode cL_law 1735 = .ok (.iload 14, 2) := by decide +kernel
theorem dL_law_1737 : decode cL_law 1737 = .ok (.iconst 3, 1) := by decide +kernel
theorem dL_law_1738 : decode cL_law 1738 = .ok (.irem, 1) := by decide +kernel
theorem dL_law_1739 : decode cL_law 1739 = .ok (.istore 23, 2) := by decide +kernel
theorem dL_law_1741 : decode cL_law 1741 = .ok (.iload 23, 2) := by decide +kernel
theorem dL_law_1743 : decode cL_law 1743 = .ok (.iload 11, 2) := by decide +kernel
theorem dL_law_1745 : decode cL_law 1745 = .ok (.if_icmp .ge 32, 3) := by decide +kernel
theorem dL_law_1748 : decode cL_law 1748 = .ok (.iload 12, 2) := by decide +kernel
theorem dL_law_1750 : decode cL_law 1750 = .ok (.ifCond .eq 27, 3) := by decide +kernel
theorem dL_law_1753 : decode cL_law 1753 = .ok (.aload_n 1, 1) := by decide +kernel
theorem dL_law_1754 : decode cL_law 1754 = .ok (.aload 8, 2) := by decide +kernel
theorem dL_law_1756 : decode cL_law 1756 = .ok (.iload 23, 2) := by decide +kernel
theorem dL_law_1758 : decode cL_law 1758 = .ok (.iload 16, 2) := by decide +kernel
theorem dL_law_1760 : decode cL_law 1760 = .ok (.iconst 3, 1) := by decide +kernel
theorem dL_law_1761 : decode cL_law 1761 = .ok (.ishr, 1) := by decide +kernel
theorem dL_law_1762 : decode cL_law 1762 = .ok (.sipush 1023, 3) := by decide +kernel
theorem dL_law_1765 : decode cL_law 1765 = .ok (.iand, 1) := by decide +kernel
theorem dL_law_1766 : decode cL_law 1766 = .ok (.invokestatic 135, 3) := by decide +kernel
theorem dL_law_1769 : decode cL_law 1769 = .ok (.istore 12, 2) := by decide +kernel
theorem dL_law_1771 : decode cL_law 1771 = .ok (.iinc 23 3, 3) := by decide +kernel
theorem dL_law_1774 : decode cL_law 1774 = .ok (.goto (-33), 3) := by decide +kernel
theorem dL_law_1777 : decode cL_law 1777 = .ok (.iinc 14 1, 3) := by decide +kernel
theorem dL_law_1780 : decode cL_law 1780 = .ok (.goto (-1664), 3) := by decide +kernel
theorem dL_law_1783 : decode cL_law 1783 = .ok (.iload 12, 2) := by decide +kernel
theorem dL_law_1785 : decode cL_law 1785 = .ok (.ifCond .eq 14, 3) := by decide +kernel
theorem dL_law_1788 : decode cL_law 1788 = .ok (.aload_n 1, 1) := by decide +kernel
theorem dL_law_1789 : decode cL_law 1789 = .ok (.invokevirtual 139, 3) := by decide +kernel
theorem dL_law_1792 : decode cL_law 1792 = .ok (.ifCond .lt 7, 3) := by decide +kernel
theorem dL_law_1795 : decode cL_law 1795 = .ok (.iconst 1, 1) := by decide +kernel
theorem dL_law_1796 : decode cL_law 1796 = .ok (.goto 4, 3) := by decide +kernel
theorem dL_law_1799 : decode cL_law 1799 = .ok (.iconst 0, 1) := by decide +kernel
theorem dL_law_1800 : decode cL_law 1800 = .ok (.ireturn, 1) := by decide +kernel
