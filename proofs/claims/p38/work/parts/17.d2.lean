theorem dL_law_798 : decode cL_law 798 = .ok (.iconst 1, 1) := by decide +kernel
theorem dL_law_799 : decode cL_law 799 = .ok (.goto 4, 3) := by decide +kernel
theorem dL_law_802 : decode cL_law 802 = .ok (.iconst 0, 1) := by decide +kernel
theorem dL_law_803 : decode cL_law 803 = .ok (.istore 20, 2) := by decide +kernel
theorem dL_law_805 : decode cL_law 805 = .ok (.aload_n 1, 1) := by decide +kernel
theorem dL_law_806 : decode cL_law 806 = .ok (.iload 13, 2) := by decide +kernel
theorem dL_law_808 : decode cL_law 808 = .ok (.iload 9, 2) := by decide +kernel
theorem dL_law_810 : decode cL_law 810 = .ok (.iload 10, 2) := by decide +kernel
theorem dL_law_812 : decode cL_law 812 = .ok (.iload 11, 2) := by decide +kernel
theorem dL_law_814 : decode cL_law 814 = .ok (.invokestatic 107, 3) := by decide +kernel
theorem dL_law_817 : decode cL_law 817 = .ok (.istore 21, 2) := by decide +kernel
theorem dL_law_819 : decode cL_law 819 = .ok (.iload 21, 2) := by decide +kernel
theorem dL_law_821 : decode cL_law 821 = .ok (.iload 20, 2) := by decide +kernel
theorem dL_law_823 : decode cL_law 823 = .ok (.ifCond .ne 9, 3) := by decide +kernel
theorem dL_law_826 : decode cL_law 826 = .ok (.sipush (-200), 3) := by decide +kernel
theorem dL_law_829 : decode cL_law 829 = .ok (.goto 37, 3) := by decide +kernel
theorem dL_law_832 : decode cL_law 832 = .ok (.iload 13, 2) := by decide +kernel
theorem dL_law_834 : decode cL_law 834 = .ok (.ifCond .ne 11, 3) := by decide +kernel
theorem dL_law_837 : decode cL_law 837 = .ok (.iload 16, 2) := by decide +kernel
theorem dL_law_839 : decode cL_law 839 = .ok (.iload 11, 2) := by decide +kernel
theorem dL_law_841 : decode cL_law 841 = .ok (.iadd, 1) := by decide +kernel
theorem dL_law_842 : decode cL_law 842 = .ok (.goto 24, 3) := by decide +kernel
theorem dL_law_845 : decode cL_law 845 = .ok (.iload 13, 2) := by decide +kernel
theorem dL_law_847 : decode cL_law 847 = .ok (.iconst 1, 1) := by decide +kernel
theorem dL_law_848 : decode cL_law 848 = .ok (.if_icmp .ne 11, 3) := by decide +kernel
theorem dL_law_851 : decode cL_law 851 = .ok (.iload 18, 2) := by decide +kernel
theorem dL_law_853 : decode cL_law 853 = .ok (.iload 11, 2) := by decide +kernel
theorem dL_law_855 : decode cL_law 855 = .ok (.iadd, 1) := by decide +kernel
theorem dL_law_856 : decode cL_law 856 = .ok (.goto 10, 3) := by decide +kernel
theorem dL_law_859 : decode cL_law 859 = .ok (.aload_n 1, 1) := by decide +kernel
theorem dL_law_860 : decode cL_law 860 = .ok (.iload 10, 2) := by decide +kernel
theorem dL_law_862 : decode cL_law 862 = .ok (.iconst 5, 1) := by decide +kernel
theorem dL_law_863 : decode cL_law 863 = .ok (.invokevirtual 60, 3) := by decide +kernel
theorem dL_law_866 : decode cL_law 866 = .ok (.if_icmp .eq 5, 3) := by decide +kernel
theorem dL_law_869 : decode cL_law 869 = .ok (.iconst 0, 1) := by decide +kernel
theorem dL_law_870 : decode cL_law 870 = .ok (.ireturn, 1) := by decide +kernel
theorem dL_law_871 : decode cL_law 871 = .ok (.iload 20, 2) := by decide +kernel
theorem dL_law_873 : decode cL_law 873 = .ok (.ifCond .eq 63, 3) := by decide +kernel
theorem dL_law_876 : decode cL_law 876 = .ok (.aload_n 1, 1) := by decide +kernel
theorem dL_law_877 : decode cL_law 877 = .ok (.iload 9, 2) := by decide +kernel
theorem dL_law_879 : decode cL_law 879 = .ok (.iload 10, 2) := by decide +kernel
theorem dL_law_881 : decode cL_law 881 = .ok (.iconst 0, 1) := by decide +kernel
theorem dL_law_882 : decode cL_law 882 = .ok (.invokevirtual 57, 3) := by decide +kernel
theorem dL_law_885 : decode cL_law 885 = .ok (.iload 13, 2) := by decide +kernel
theorem dL_law_887 : decode cL_law 887 = .ok (.iconst 2, 1) := by decide +kernel
theorem dL_law_888 : decode cL_law 888 = .ok (.if_icmp .ne 11, 3) := by decide +kernel
theorem dL_law_891 : decode cL_law 891 = .ok (.iload 16, 2) := by decide +kernel
theorem dL_law_893 : decode cL_law 893 = .ok (.iload 11, 2) := by decide +kernel
theorem dL_law_895 : decode cL_law 895 = .ok (.isub, 1) := by decide +kernel
theorem dL_law_896 : decode cL_law 896 = .ok (.goto 8, 3) := by decide +kernel
theorem dL_law_899 : decode cL_law 899 = .ok (.iload 16, 2) := by decide +kernel
theorem dL_law_901 : decode cL_law 901 = .ok (.iload 11, 2) := by decide +kernel
theorem dL_law_903 : decode cL_law 903 = .ok (.iadd, 1) := by decide +kernel
theorem dL_law_904 : decode cL_law 904 = .ok (.if_icmp .ne 30, 3) := by decide +kernel
theorem dL_law_907 : decode cL_law 907 = .ok (.aload_n 1, 1) := by decide +kernel
theorem dL_law_908 : decode cL_law 908 = .ok (.iload 9, 2) := by decide +kernel
theorem dL_law_910 : decode cL_law 910 = .ok (.iload 10, 2) := by decide +kernel
theorem dL_law_912 : decode cL_law 912 = .ok (.iconst 3, 1) := by decide +kernel
theorem dL_law_913 : decode cL_law 913 = .ok (.invokevirtual 57, 3) := by decide +kernel
theorem dL_law_916 : decode cL_law 916 = .ok (.iload 19, 2) := by decide +kernel
theorem dL_law_918 : decode cL_law 918 = .ok (.iload 13, 2) := by decide +kernel
theorem dL_law_920 : decode cL_law 920 = .ok (.iconst 2, 1) := by decide +kernel
theorem dL_law_921 : decode cL_law 921 = .ok (.if_icmp .ne 8, 3) := by decide +kernel
theorem dL_law_924 : decode cL_law 924 = .ok (.iload 11, 2) := by decide +kernel
theorem dL_law_926 : decode cL_law 926 = .ok (.goto 4, 3) := by decide +kernel
theorem dL_law_929 : decode cL_law 929 = .ok (.iconst 0, 1) := by decide +kernel
theorem dL_law_930 : decode cL_law 930 = .ok (.iadd, 1) := by decide +kernel
theorem dL_law_931 : decode cL_law 931 = .ok (.if_icmp .eq 5, 3) := by decide +kernel
theorem dL_law_934 : decode cL_law 934 = .ok (.iconst 0, 1) := by decide +kernel
theorem dL_law_935 : decode cL_law 935 = .ok (.ireturn, 1) := by decide +kernel
theorem dL_law_936 : decode cL_law 936 = .ok (.goto 626, 3) := by decide +kernel
theorem dL_law_939 : decode cL_law 939 = .ok (.iload 12, 2) := by decide +kernel
theorem dL_law_941 : decode cL_law 941 = .ok (.bipush 6, 2) := by decide +kernel
theorem dL_law_943 : decode cL_law 943 = .ok (.if_icmp .ne 124, 3) := by decide +kernel
theorem dL_law_946 : decode cL_law 946 = .ok (.iload 6, 2) := by decide +kernel
theorem dL_law_948 : decode cL_law 948 = .ok (.iload_n 2, 1) := by decide +kernel
theorem dL_law_949 : decode cL_law 949 = .ok (.invokestatic 70, 3) := by decide +kernel
theorem dL_law_952 : decode cL_law 952 = .ok (.istore 13, 2) := by decide +kernel
theorem dL_law_954 : decode cL_law 954 = .ok (.iconst 1, 1) := by decide +kernel
theorem dL_law_955 : decode cL_law 955 = .ok (.iload 6, 2) := by decide +kernel
theorem dL_law_957 : decode cL_law 957 = .ok (.iconst 4, 1) := by decide +kernel
theorem dL_law_958 : decode cL_law 958 = .ok (.ishr, 1) := by decide +kernel
theorem dL_law_959 : decode cL_law 959 = .ok (.bipush 30, 2) := by decide +kernel
theorem dL_law_961 : decode cL_law 961 = .ok (.invokestatic 70, 3) := by decide +kernel
theorem dL_law_964 : decode cL_law 964 = .ok (.iadd, 1) := by decide +kernel
theorem dL_law_965 : decode cL_law 965 = .ok (.istore 14, 2) := by decide +kernel
theorem dL_law_967 : decode cL_law 967 = .ok (.aload_n 1, 1) := by decide +kernel
theorem dL_law_968 : decode cL_law 968 = .ok (.iload 8, 2) := by decide +kernel
theorem dL_law_970 : decode cL_law 970 = .ok (.iconst 4, 1) := by decide +kernel
theorem dL_law_971 : decode cL_law 971 = .ok (.invokevirtual 48, 3) := by decide +kernel
theorem dL_law_974 : decode cL_law 974 = .ok (.istore 15, 2) := by decide +kernel
theorem dL_law_976 : decode cL_law 976 = .ok (.aload_n 1, 1) := by decide +kernel
theorem dL_law_977 : decode cL_law 977 = .ok (.iload 13, 2) := by decide +kernel
theorem dL_law_979 : decode cL_law 979 = .ok (.iconst 4, 1) := by decide +kernel
theorem dL_law_980 : decode cL_law 980 = .ok (.invokevirtual 48, 3) := by decide +kernel
theorem dL_law_983 : decode cL_law 983 = .ok (.istore 16, 2) := by decide +kernel
theorem dL_law_985 : decode cL_law 985 = .ok (.aload_n 1, 1) := by decide +kernel
theorem dL_law_986 : decode cL_law 986 = .ok (.iconst 0, 1) := by decide +kernel
theorem dL_law_987 : decode cL_law 987 = .ok (.iload 8, 2) := by decide +kernel
theorem dL_law_989 : decode cL_law 989 = .ok (.iload 13, 2) := by decide +kernel
theorem dL_law_991 : decode cL_law 991 = .ok (.iload 14, 2) := by decide +kernel
theorem dL_law_993 : decode cL_law 993 = .ok (.invokestatic 110, 3) := by decide +kernel
theorem dL_law_996 : decode cL_law 996 = .ok (.istore 17, 2) := by decide +kernel
theorem dL_law_998 : decode cL_law 998 = .ok (.iload 13, 2) := by decide +kernel
theorem dL_law_1000 : decode cL_law 1000 = .ok (.iload 8, 2) := by decide +kernel
theorem dL_law_1002 : decode cL_law 1002 = .ok (.if_icmp .ne 13, 3) := by decide +kernel
theorem dL_law_1005 : decode cL_law 1005 = .ok (.iload 17, 2) := by decide +kernel
theorem dL_law_1007 : decode cL_law 1007 = .ok (.bipush (-100), 2) := by decide +kernel
theorem dL_law_1009 : decode cL_law 1009 = .ok (.if_icmp .eq 55, 3) := by decide +kernel
theorem dL_law_1012 : decode cL_law 1012 = .ok (.goto 50, 3) := by decide +kernel
theorem dL_law_1015 : decode cL_law 1015 = .ok (.iload 17, 2) := by decide +kernel
theorem dL_law_1017 : decode cL_law 1017 = .ok (.sipush (-200), 3) := by decide +kernel
theorem dL_law_1020 : decode cL_law 1020 = .ok (.if_icmp .eq 44, 3) := by decide +kernel
theorem dL_law_1023 : decode cL_law 1023 = .ok (.iload 17, 2) := by decide +kernel
theorem dL_law_1025 : decode cL_law 1025 = .ok (.iload 16, 2) := by decide +kernel
theorem dL_law_1027 : decode cL_law 1027 = .ok (.if_icmp .lt 35, 3) := by decide +kernel
theorem dL_law_1030 : decode cL_law 1030 = .ok (.iload 17, 2) := by decide +kernel
theorem dL_law_1032 : decode cL_law 1032 = .ok (.iload 16, 2) := by decide +kernel
theorem dL_law_1034 : decode cL_law 1034 = .ok (.iload 14, 2) := by decide +kernel
theorem dL_law_1036 : decode cL_law 1036 = .ok (.iadd, 1) := by decide +kernel
theorem dL_law_1037 : decode cL_law 1037 = .ok (.if_icmp .gt 25, 3) := by decide +kernel
theorem dL_law_1040 : decode cL_law 1040 = .ok (.iload 15, 2) := by decide +kernel
theorem dL_law_1042 : decode cL_law 1042 = .ok (.iload 14, 2) := by decide +kernel
theorem dL_law_1044 : decode cL_law 1044 = .ok (.if_icmp .lt 18, 3) := by decide +kernel
theorem dL_law_1047 : decode cL_law 1047 = .ok (.aload_n 1, 1) := by decide +kernel
theorem dL_law_1048 : decode cL_law 1048 = .ok (.iload 8, 2) := by decide +kernel
theorem dL_law_1050 : decode cL_law 1050 = .ok (.iconst 4, 1) := by decide +kernel
theorem dL_law_1051 : decode cL_law 1051 = .ok (.invokevirtual 48, 3) := by decide +kernel
theorem dL_law_1054 : decode cL_law 1054 = .ok (.iload 15, 2) := by decide +kernel
theorem dL_law_1056 : decode cL_law 1056 = .ok (.iload 14, 2) := by decide +kernel
theorem dL_law_1058 : decode cL_law 1058 = .ok (.isub, 1) := by decide +kernel
theorem dL_law_1059 : decode cL_law 1059 = .ok (.if_icmp .eq 5, 3) := by decide +kernel
theorem dL_law_1062 : decode cL_law 1062 = .ok (.iconst 0, 1) := by decide +kernel
theorem dL_law_1063 : decode cL_law 1063 = .ok (.ireturn, 1) := by decide +kernel
theorem dL_law_1064 : decode cL_law 1064 = .ok (.goto 498, 3) := by decide +kernel
theorem dL_law_1067 : decode cL_law 1067 = .ok (.iload 12, 2) := by decide +kernel
theorem dL_law_1069 : decode cL_law 1069 = .ok (.bipush 7, 2) := by decide +kernel
theorem dL_law_1071 : decode cL_law 1071 = .ok (.if_icmp .ne 73, 3) := by decide +kernel
theorem dL_law_1074 : decode cL_law 1074 = .ok (.aload_n 1, 1) := by decide +kernel
theorem dL_law_1075 : decode cL_law 1075 = .ok (.iload 8, 2) := by decide +kernel
theorem dL_law_1077 : decode cL_law 1077 = .ok (.iconst 4, 1) := by decide +kernel
theorem dL_law_1078 : decode cL_law 1078 = .ok (.invokevirtual 48, 3) := by decide +kernel
theorem dL_law_1081 : decode cL_law 1081 = .ok (.istore 13, 2) := by decide +kernel
theorem dL_law_1083 : decode cL_law 1083 = .ok (.aload_n 1, 1) := by decide +kernel
theorem dL_law_1084 : decode cL_law 1084 = .ok (.iload 6, 2) := by decide +kernel
theorem dL_law_1086 : decode cL_law 1086 = .ok (.iconst 4, 1) := by decide +kernel
theorem dL_law_1087 : decode cL_law 1087 = .ok (.invokestatic 70, 3) := by decide +kernel
theorem dL_law_1090 : decode cL_law 1090 = .ok (.ifCond .ne 7, 3) := by decide +kernel
theorem dL_law_1093 : decode cL_law 1093 = .ok (.iconst 1, 1) := by decide +kernel
theorem dL_law_1094 : decode cL_law 1094 = .ok (.goto 4, 3) := by decide +kernel
theorem dL_law_1097 : decode cL_law 1097 = .ok (.iconst 3, 1) := by decide +kernel
theorem dL_law_1098 : decode cL_law 1098 = .ok (.iload 8, 2) := by decide +kernel
theorem dL_law_1100 : decode cL_law 1100 = .ok (.iload 9, 2) := by decide +kernel
theorem dL_law_1102 : decode cL_law 1102 = .ok (.iconst 0, 1) := by decide +kernel
theorem dL_law_1103 : decode cL_law 1103 = .ok (.invokestatic 110, 3) := by decide +kernel
theorem dL_law_1106 : decode cL_law 1106 = .ok (.istore 14, 2) := by decide +kernel
theorem dL_law_1108 : decode cL_law 1108 = .ok (.iload 6, 2) := by decide +kernel
theorem dL_law_1110 : decode cL_law 1110 = .ok (.iconst 4, 1) := by decide +kernel
theorem dL_law_1111 : decode cL_law 1111 = .ok (.invokestatic 70, 3) := by decide +kernel
theorem dL_law_1114 : decode cL_law 1114 = .ok (.ifCond .ne 27, 3) := by decide +kernel
theorem dL_law_1117 : decode cL_law 1117 = .ok (.iload 14, 2) := by decide +kernel
theorem dL_law_1119 : decode cL_law 1119 = .ok (.ifCond .lt 22, 3) := by decide +kernel
theorem dL_law_1122 : decode cL_law 1122 = .ok (.iload 14, 2) := by decide +kernel
theorem dL_law_1124 : decode cL_law 1124 = .ok (.iload 13, 2) := by decide +kernel
theorem dL_law_1126 : decode cL_law 1126 = .ok (.if_icmp .ne 13, 3) := by decide +kernel
theorem dL_law_1129 : decode cL_law 1129 = .ok (.aload_n 1, 1) := by decide +kernel
theorem dL_law_1130 : decode cL_law 1130 = .ok (.iload 8, 2) := by decide +kernel
theorem dL_law_1132 : decode cL_law 1132 = .ok (.iconst 4, 1) := by decide +kernel
theorem dL_law_1133 : decode cL_law 1133 = .ok (.invokevirtual 48, 3) := by decide +kernel
theorem dL_law_1136 : decode cL_law 1136 = .ok (.ifCond .eq 5, 3) := by decide +kernel
theorem dL_law_1139 : decode cL_law 1139 = .ok (.iconst 0, 1) := by decide +kernel
theorem dL_law_1140 : decode cL_law 1140 = .ok (.ireturn, 1) := by decide +kernel
theorem dL_law_1141 : decode cL_law 1141 = .ok (.goto 421, 3) := by decide +kernel
theorem dL_law_1144 : decode cL_law 1144 = .ok (.iload 12, 2) := by decide +kernel
theorem dL_law_1146 : decode cL_law 1146 = .ok (.bipush 8, 2) := by decide +kernel
theorem dL_law_1148 : decode cL_law 1148 = .ok (.if_icmp .ne 86, 3) := by decide +kernel
theorem dL_law_1151 : decode cL_law 1151 = .ok (.aload_n 1, 1) := by decide +kernel
theorem dL_law_1152 : decode cL_law 1152 = .ok (.iload 10, 2) := by decide +kernel
theorem dL_law_1154 : decode cL_law 1154 = .ok (.iconst 5, 1) := by decide +kernel
theorem dL_law_1155 : decode cL_law 1155 = .ok (.invokevirtual 60, 3) := by decide +kernel
theorem dL_law_1158 : decode cL_law 1158 = .ok (.istore 13, 2) := by decide +kernel
theorem dL_law_1160 : decode cL_law 1160 = .ok (.aload_n 1, 1) := by decide +kernel
theorem dL_law_1161 : decode cL_law 1161 = .ok (.iconst 2, 1) := by decide +kernel
theorem dL_law_1162 : decode cL_law 1162 = .ok (.iload 8, 2) := by decide +kernel
theorem dL_law_1164 : decode cL_law 1164 = .ok (.iload 10, 2) := by decide +kernel
theorem dL_law_1166 : decode cL_law 1166 = .ok (.iload 11, 2) := by decide +kernel
theorem dL_law_1168 : decode cL_law 1168 = .ok (.invokestatic 110, 3) := by decide +kernel
theorem dL_law_1171 : decode cL_law 1171 = .ok (.istore 14, 2) := by decide +kernel
theorem dL_law_1173 : decode cL_law 1173 = .ok (.iload 14, 2) := by decide +kernel
theorem dL_law_1175 : decode cL_law 1175 = .ok (.ifCond .lt 30, 3) := by decide +kernel
theorem dL_law_1178 : decode cL_law 1178 = .ok (.iload 14, 2) := by decide +kernel
theorem dL_law_1180 : decode cL_law 1180 = .ok (.iload 11, 2) := by decide +kernel
theorem dL_law_1182 : decode cL_law 1182 = .ok (.iconst 2, 1) := by decide +kernel
theorem dL_law_1183 : decode cL_law 1183 = .ok (.idiv, 1) := by decide +kernel
theorem dL_law_1184 : decode cL_law 1184 = .ok (.if_icmp .lt 29, 3) := by decide +kernel
theorem dL_law_1187 : decode cL_law 1187 = .ok (.aload_n 1, 1) := by decide +kernel
theorem dL_law_1188 : decode cL_law 1188 = .ok (.iload 10, 2) := by decide +kernel
theorem dL_law_1190 : decode cL_law 1190 = .ok (.iconst 5, 1) := by decide +kernel
theorem dL_law_1191 : decode cL_law 1191 = .ok (.invokevirtual 60, 3) := by decide +kernel
theorem dL_law_1194 : decode cL_law 1194 = .ok (.iload 13, 2) := by decide +kernel
theorem dL_law_1196 : decode cL_law 1196 = .ok (.iload 11, 2) := by decide +kernel
theorem dL_law_1198 : decode cL_law 1198 = .ok (.isub, 1) := by decide +kernel
theorem dL_law_1199 : decode cL_law 1199 = .ok (.if_icmp .eq 16, 3) := by decide +kernel
theorem dL_law_1202 : decode cL_law 1202 = .ok (.goto 11, 3) := by decide +kernel
theorem dL_law_1205 : decode cL_law 1205 = .ok (.iload 14, 2) := by decide +kernel
theorem dL_law_1207 : decode cL_law 1207 = .ok (.sipush (-200), 3) := by decide +kernel
theorem dL_law_1210 : decode cL_law 1210 = .ok (.if_icmp .eq 5, 3) := by decide +kernel
theorem dL_law_1213 : decode cL_law 1213 = .ok (.iconst 0, 1) := by decide +kernel
theorem dL_law_1214 : decode cL_law 1214 = .ok (.ireturn, 1) := by decide +kernel
