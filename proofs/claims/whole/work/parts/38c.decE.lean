/-! The law's decode rows, 3 of 4. -/
theorem d_Law_law_867 : decode b_Law_law 867 = .ok (.iconst 2, 1) := by decide +kernel
theorem d_Law_law_868 : decode b_Law_law 868 = .ok (.iadd, 1) := by decide +kernel
theorem d_Law_law_869 : decode b_Law_law 869 = .ok (.iaload, 1) := by decide +kernel
theorem d_Law_law_870 : decode b_Law_law 870 = .ok (.aload_n 0, 1) := by decide +kernel
theorem d_Law_law_871 : decode b_Law_law 871 = .ok (.iload 4, 2) := by decide +kernel
theorem d_Law_law_873 : decode b_Law_law 873 = .ok (.iconst 3, 1) := by decide +kernel
theorem d_Law_law_874 : decode b_Law_law 874 = .ok (.iadd, 1) := by decide +kernel
theorem d_Law_law_875 : decode b_Law_law 875 = .ok (.iaload, 1) := by decide +kernel
theorem d_Law_law_876 : decode b_Law_law 876 = .ok (.invokevirtual 133, 3) := by decide +kernel
theorem d_Law_law_879 : decode b_Law_law 879 = .ok (.istore 6, 2) := by decide +kernel
theorem d_Law_law_881 : decode b_Law_law 881 = .ok (.aload_n 2, 1) := by decide +kernel
theorem d_Law_law_882 : decode b_Law_law 882 = .ok (.invokevirtual 97, 3) := by decide +kernel
theorem d_Law_law_885 : decode b_Law_law 885 = .ok (.iload 5, 2) := by decide +kernel
theorem d_Law_law_887 : decode b_Law_law 887 = .ok (.if_icmp .eq 5, 3) := by decide +kernel
theorem d_Law_law_892 : decode b_Law_law 892 = .ok (.iload 5, 2) := by decide +kernel
theorem d_Law_law_894 : decode b_Law_law 894 = .ok (.ifCond .ne 15, 3) := by decide +kernel
theorem d_Law_law_897 : decode b_Law_law 897 = .ok (.aload_n 3, 1) := by decide +kernel
theorem d_Law_law_898 : decode b_Law_law 898 = .ok (.iconst 0, 1) := by decide +kernel
theorem d_Law_law_899 : decode b_Law_law 899 = .ok (.laload, 1) := by decide +kernel
theorem d_Law_law_900 : decode b_Law_law 900 = .ok (.iload 6, 2) := by decide +kernel
theorem d_Law_law_902 : decode b_Law_law 902 = .ok (.i2l, 1) := by decide +kernel
theorem d_Law_law_903 : decode b_Law_law 903 = .ok (.lcmp, 1) := by decide +kernel
theorem d_Law_law_904 : decode b_Law_law 904 = .ok (.ifCond .eq 5, 3) := by decide +kernel
theorem d_Law_law_909 : decode b_Law_law 909 = .ok (.goto 739, 3) := by decide +kernel
theorem d_Law_law_912 : decode b_Law_law 912 = .ok (.aload_n 1, 1) := by decide +kernel
theorem d_Law_law_913 : decode b_Law_law 913 = .ok (.aload_n 0, 1) := by decide +kernel
theorem d_Law_law_914 : decode b_Law_law 914 = .ok (.iload 4, 2) := by decide +kernel
theorem d_Law_law_916 : decode b_Law_law 916 = .ok (.iconst 1, 1) := by decide +kernel
theorem d_Law_law_917 : decode b_Law_law 917 = .ok (.iadd, 1) := by decide +kernel
theorem d_Law_law_918 : decode b_Law_law 918 = .ok (.iaload, 1) := by decide +kernel
theorem d_Law_law_919 : decode b_Law_law 919 = .ok (.aload_n 0, 1) := by decide +kernel
theorem d_Law_law_920 : decode b_Law_law 920 = .ok (.iload 4, 2) := by decide +kernel
theorem d_Law_law_922 : decode b_Law_law 922 = .ok (.iconst 2, 1) := by decide +kernel
theorem d_Law_law_923 : decode b_Law_law 923 = .ok (.iadd, 1) := by decide +kernel
theorem d_Law_law_924 : decode b_Law_law 924 = .ok (.iaload, 1) := by decide +kernel
theorem d_Law_law_925 : decode b_Law_law 925 = .ok (.aload_n 0, 1) := by decide +kernel
theorem d_Law_law_926 : decode b_Law_law 926 = .ok (.iload 4, 2) := by decide +kernel
theorem d_Law_law_928 : decode b_Law_law 928 = .ok (.iconst 3, 1) := by decide +kernel
theorem d_Law_law_929 : decode b_Law_law 929 = .ok (.iadd, 1) := by decide +kernel
theorem d_Law_law_930 : decode b_Law_law 930 = .ok (.iaload, 1) := by decide +kernel
theorem d_Law_law_931 : decode b_Law_law 931 = .ok (.aload_n 3, 1) := by decide +kernel
theorem d_Law_law_932 : decode b_Law_law 932 = .ok (.invokestatic 134, 3) := by decide +kernel
theorem d_Law_law_935 : decode b_Law_law 935 = .ok (.istore 5, 2) := by decide +kernel
theorem d_Law_law_937 : decode b_Law_law 937 = .ok (.aload_n 2, 1) := by decide +kernel
theorem d_Law_law_938 : decode b_Law_law 938 = .ok (.aload_n 0, 1) := by decide +kernel
theorem d_Law_law_939 : decode b_Law_law 939 = .ok (.iload 4, 2) := by decide +kernel
theorem d_Law_law_941 : decode b_Law_law 941 = .ok (.iconst 1, 1) := by decide +kernel
theorem d_Law_law_942 : decode b_Law_law 942 = .ok (.iadd, 1) := by decide +kernel
theorem d_Law_law_943 : decode b_Law_law 943 = .ok (.iaload, 1) := by decide +kernel
theorem d_Law_law_944 : decode b_Law_law 944 = .ok (.aload_n 0, 1) := by decide +kernel
theorem d_Law_law_945 : decode b_Law_law 945 = .ok (.iload 4, 2) := by decide +kernel
theorem d_Law_law_947 : decode b_Law_law 947 = .ok (.iconst 2, 1) := by decide +kernel
theorem d_Law_law_948 : decode b_Law_law 948 = .ok (.iadd, 1) := by decide +kernel
theorem d_Law_law_949 : decode b_Law_law 949 = .ok (.iaload, 1) := by decide +kernel
theorem d_Law_law_950 : decode b_Law_law 950 = .ok (.aload_n 0, 1) := by decide +kernel
theorem d_Law_law_951 : decode b_Law_law 951 = .ok (.iload 4, 2) := by decide +kernel
theorem d_Law_law_953 : decode b_Law_law 953 = .ok (.iconst 3, 1) := by decide +kernel
theorem d_Law_law_954 : decode b_Law_law 954 = .ok (.iadd, 1) := by decide +kernel
theorem d_Law_law_955 : decode b_Law_law 955 = .ok (.iaload, 1) := by decide +kernel
theorem d_Law_law_956 : decode b_Law_law 956 = .ok (.invokevirtual 136, 3) := by decide +kernel
theorem d_Law_law_959 : decode b_Law_law 959 = .ok (.istore 6, 2) := by decide +kernel
theorem d_Law_law_961 : decode b_Law_law 961 = .ok (.aload_n 2, 1) := by decide +kernel
theorem d_Law_law_962 : decode b_Law_law 962 = .ok (.invokevirtual 97, 3) := by decide +kernel
theorem d_Law_law_965 : decode b_Law_law 965 = .ok (.iload 5, 2) := by decide +kernel
theorem d_Law_law_967 : decode b_Law_law 967 = .ok (.if_icmp .eq 5, 3) := by decide +kernel
theorem d_Law_law_972 : decode b_Law_law 972 = .ok (.iload 5, 2) := by decide +kernel
theorem d_Law_law_974 : decode b_Law_law 974 = .ok (.ifCond .ne 15, 3) := by decide +kernel
theorem d_Law_law_977 : decode b_Law_law 977 = .ok (.aload_n 3, 1) := by decide +kernel
theorem d_Law_law_978 : decode b_Law_law 978 = .ok (.iconst 0, 1) := by decide +kernel
theorem d_Law_law_979 : decode b_Law_law 979 = .ok (.laload, 1) := by decide +kernel
theorem d_Law_law_980 : decode b_Law_law 980 = .ok (.iload 6, 2) := by decide +kernel
theorem d_Law_law_982 : decode b_Law_law 982 = .ok (.i2l, 1) := by decide +kernel
theorem d_Law_law_983 : decode b_Law_law 983 = .ok (.lcmp, 1) := by decide +kernel
theorem d_Law_law_984 : decode b_Law_law 984 = .ok (.ifCond .eq 5, 3) := by decide +kernel
theorem d_Law_law_989 : decode b_Law_law 989 = .ok (.goto 659, 3) := by decide +kernel
theorem d_Law_law_992 : decode b_Law_law 992 = .ok (.aload_n 1, 1) := by decide +kernel
theorem d_Law_law_993 : decode b_Law_law 993 = .ok (.aload_n 0, 1) := by decide +kernel
theorem d_Law_law_994 : decode b_Law_law 994 = .ok (.iload 4, 2) := by decide +kernel
theorem d_Law_law_996 : decode b_Law_law 996 = .ok (.iconst 1, 1) := by decide +kernel
theorem d_Law_law_997 : decode b_Law_law 997 = .ok (.iadd, 1) := by decide +kernel
theorem d_Law_law_998 : decode b_Law_law 998 = .ok (.iaload, 1) := by decide +kernel
theorem d_Law_law_999 : decode b_Law_law 999 = .ok (.aload_n 0, 1) := by decide +kernel
theorem d_Law_law_1000 : decode b_Law_law 1000 = .ok (.iload 4, 2) := by decide +kernel
theorem d_Law_law_1002 : decode b_Law_law 1002 = .ok (.iconst 2, 1) := by decide +kernel
theorem d_Law_law_1003 : decode b_Law_law 1003 = .ok (.iadd, 1) := by decide +kernel
theorem d_Law_law_1004 : decode b_Law_law 1004 = .ok (.iaload, 1) := by decide +kernel
theorem d_Law_law_1005 : decode b_Law_law 1005 = .ok (.aload_n 3, 1) := by decide +kernel
theorem d_Law_law_1006 : decode b_Law_law 1006 = .ok (.invokestatic 137, 3) := by decide +kernel
theorem d_Law_law_1009 : decode b_Law_law 1009 = .ok (.istore 5, 2) := by decide +kernel
theorem d_Law_law_1011 : decode b_Law_law 1011 = .ok (.aload_n 2, 1) := by decide +kernel
theorem d_Law_law_1012 : decode b_Law_law 1012 = .ok (.aload_n 0, 1) := by decide +kernel
theorem d_Law_law_1013 : decode b_Law_law 1013 = .ok (.iload 4, 2) := by decide +kernel
theorem d_Law_law_1015 : decode b_Law_law 1015 = .ok (.iconst 1, 1) := by decide +kernel
theorem d_Law_law_1016 : decode b_Law_law 1016 = .ok (.iadd, 1) := by decide +kernel
theorem d_Law_law_1017 : decode b_Law_law 1017 = .ok (.iaload, 1) := by decide +kernel
theorem d_Law_law_1018 : decode b_Law_law 1018 = .ok (.aload_n 0, 1) := by decide +kernel
theorem d_Law_law_1019 : decode b_Law_law 1019 = .ok (.iload 4, 2) := by decide +kernel
theorem d_Law_law_1021 : decode b_Law_law 1021 = .ok (.iconst 2, 1) := by decide +kernel
theorem d_Law_law_1022 : decode b_Law_law 1022 = .ok (.iadd, 1) := by decide +kernel
theorem d_Law_law_1023 : decode b_Law_law 1023 = .ok (.iaload, 1) := by decide +kernel
theorem d_Law_law_1024 : decode b_Law_law 1024 = .ok (.invokevirtual 139, 3) := by decide +kernel
theorem d_Law_law_1027 : decode b_Law_law 1027 = .ok (.istore 6, 2) := by decide +kernel
theorem d_Law_law_1029 : decode b_Law_law 1029 = .ok (.aload_n 2, 1) := by decide +kernel
theorem d_Law_law_1030 : decode b_Law_law 1030 = .ok (.invokevirtual 97, 3) := by decide +kernel
theorem d_Law_law_1033 : decode b_Law_law 1033 = .ok (.iload 5, 2) := by decide +kernel
theorem d_Law_law_1035 : decode b_Law_law 1035 = .ok (.if_icmp .eq 5, 3) := by decide +kernel
theorem d_Law_law_1040 : decode b_Law_law 1040 = .ok (.iload 5, 2) := by decide +kernel
theorem d_Law_law_1042 : decode b_Law_law 1042 = .ok (.ifCond .ne 15, 3) := by decide +kernel
theorem d_Law_law_1045 : decode b_Law_law 1045 = .ok (.aload_n 3, 1) := by decide +kernel
theorem d_Law_law_1046 : decode b_Law_law 1046 = .ok (.iconst 0, 1) := by decide +kernel
theorem d_Law_law_1047 : decode b_Law_law 1047 = .ok (.laload, 1) := by decide +kernel
theorem d_Law_law_1048 : decode b_Law_law 1048 = .ok (.iload 6, 2) := by decide +kernel
theorem d_Law_law_1050 : decode b_Law_law 1050 = .ok (.i2l, 1) := by decide +kernel
theorem d_Law_law_1051 : decode b_Law_law 1051 = .ok (.lcmp, 1) := by decide +kernel
theorem d_Law_law_1052 : decode b_Law_law 1052 = .ok (.ifCond .eq 5, 3) := by decide +kernel
theorem d_Law_law_1057 : decode b_Law_law 1057 = .ok (.goto 591, 3) := by decide +kernel
theorem d_Law_law_1060 : decode b_Law_law 1060 = .ok (.aload_n 1, 1) := by decide +kernel
theorem d_Law_law_1061 : decode b_Law_law 1061 = .ok (.aload_n 0, 1) := by decide +kernel
theorem d_Law_law_1062 : decode b_Law_law 1062 = .ok (.iload 4, 2) := by decide +kernel
theorem d_Law_law_1064 : decode b_Law_law 1064 = .ok (.iconst 1, 1) := by decide +kernel
theorem d_Law_law_1065 : decode b_Law_law 1065 = .ok (.iadd, 1) := by decide +kernel
theorem d_Law_law_1066 : decode b_Law_law 1066 = .ok (.iaload, 1) := by decide +kernel
theorem d_Law_law_1067 : decode b_Law_law 1067 = .ok (.aload_n 0, 1) := by decide +kernel
theorem d_Law_law_1068 : decode b_Law_law 1068 = .ok (.iload 4, 2) := by decide +kernel
theorem d_Law_law_1070 : decode b_Law_law 1070 = .ok (.iconst 2, 1) := by decide +kernel
theorem d_Law_law_1071 : decode b_Law_law 1071 = .ok (.iadd, 1) := by decide +kernel
theorem d_Law_law_1072 : decode b_Law_law 1072 = .ok (.iaload, 1) := by decide +kernel
theorem d_Law_law_1073 : decode b_Law_law 1073 = .ok (.aload_n 3, 1) := by decide +kernel
theorem d_Law_law_1074 : decode b_Law_law 1074 = .ok (.invokestatic 140, 3) := by decide +kernel
theorem d_Law_law_1077 : decode b_Law_law 1077 = .ok (.istore 5, 2) := by decide +kernel
theorem d_Law_law_1079 : decode b_Law_law 1079 = .ok (.aload_n 2, 1) := by decide +kernel
theorem d_Law_law_1080 : decode b_Law_law 1080 = .ok (.aload_n 0, 1) := by decide +kernel
theorem d_Law_law_1081 : decode b_Law_law 1081 = .ok (.iload 4, 2) := by decide +kernel
theorem d_Law_law_1083 : decode b_Law_law 1083 = .ok (.iconst 1, 1) := by decide +kernel
theorem d_Law_law_1084 : decode b_Law_law 1084 = .ok (.iadd, 1) := by decide +kernel
theorem d_Law_law_1085 : decode b_Law_law 1085 = .ok (.iaload, 1) := by decide +kernel
theorem d_Law_law_1086 : decode b_Law_law 1086 = .ok (.aload_n 0, 1) := by decide +kernel
theorem d_Law_law_1087 : decode b_Law_law 1087 = .ok (.iload 4, 2) := by decide +kernel
theorem d_Law_law_1089 : decode b_Law_law 1089 = .ok (.iconst 2, 1) := by decide +kernel
theorem d_Law_law_1090 : decode b_Law_law 1090 = .ok (.iadd, 1) := by decide +kernel
theorem d_Law_law_1091 : decode b_Law_law 1091 = .ok (.iaload, 1) := by decide +kernel
theorem d_Law_law_1092 : decode b_Law_law 1092 = .ok (.invokevirtual 142, 3) := by decide +kernel
theorem d_Law_law_1095 : decode b_Law_law 1095 = .ok (.istore 6, 2) := by decide +kernel
theorem d_Law_law_1097 : decode b_Law_law 1097 = .ok (.aload_n 2, 1) := by decide +kernel
theorem d_Law_law_1098 : decode b_Law_law 1098 = .ok (.invokevirtual 97, 3) := by decide +kernel
theorem d_Law_law_1101 : decode b_Law_law 1101 = .ok (.iload 5, 2) := by decide +kernel
theorem d_Law_law_1103 : decode b_Law_law 1103 = .ok (.if_icmp .eq 5, 3) := by decide +kernel
theorem d_Law_law_1108 : decode b_Law_law 1108 = .ok (.iload 5, 2) := by decide +kernel
theorem d_Law_law_1110 : decode b_Law_law 1110 = .ok (.ifCond .ne 15, 3) := by decide +kernel
theorem d_Law_law_1113 : decode b_Law_law 1113 = .ok (.aload_n 3, 1) := by decide +kernel
theorem d_Law_law_1114 : decode b_Law_law 1114 = .ok (.iconst 0, 1) := by decide +kernel
theorem d_Law_law_1115 : decode b_Law_law 1115 = .ok (.laload, 1) := by decide +kernel
theorem d_Law_law_1116 : decode b_Law_law 1116 = .ok (.iload 6, 2) := by decide +kernel
theorem d_Law_law_1118 : decode b_Law_law 1118 = .ok (.i2l, 1) := by decide +kernel
theorem d_Law_law_1119 : decode b_Law_law 1119 = .ok (.lcmp, 1) := by decide +kernel
theorem d_Law_law_1120 : decode b_Law_law 1120 = .ok (.ifCond .eq 5, 3) := by decide +kernel
theorem d_Law_law_1125 : decode b_Law_law 1125 = .ok (.goto 523, 3) := by decide +kernel
theorem d_Law_law_1128 : decode b_Law_law 1128 = .ok (.aload_n 1, 1) := by decide +kernel
theorem d_Law_law_1129 : decode b_Law_law 1129 = .ok (.aload_n 0, 1) := by decide +kernel
theorem d_Law_law_1130 : decode b_Law_law 1130 = .ok (.iload 4, 2) := by decide +kernel
theorem d_Law_law_1132 : decode b_Law_law 1132 = .ok (.iconst 1, 1) := by decide +kernel
theorem d_Law_law_1133 : decode b_Law_law 1133 = .ok (.iadd, 1) := by decide +kernel
theorem d_Law_law_1134 : decode b_Law_law 1134 = .ok (.iaload, 1) := by decide +kernel
theorem d_Law_law_1135 : decode b_Law_law 1135 = .ok (.aload_n 0, 1) := by decide +kernel
theorem d_Law_law_1136 : decode b_Law_law 1136 = .ok (.iload 4, 2) := by decide +kernel
theorem d_Law_law_1138 : decode b_Law_law 1138 = .ok (.iconst 2, 1) := by decide +kernel
theorem d_Law_law_1139 : decode b_Law_law 1139 = .ok (.iadd, 1) := by decide +kernel
theorem d_Law_law_1140 : decode b_Law_law 1140 = .ok (.iaload, 1) := by decide +kernel
theorem d_Law_law_1141 : decode b_Law_law 1141 = .ok (.aload_n 3, 1) := by decide +kernel
theorem d_Law_law_1142 : decode b_Law_law 1142 = .ok (.invokestatic 143, 3) := by decide +kernel
theorem d_Law_law_1145 : decode b_Law_law 1145 = .ok (.istore 5, 2) := by decide +kernel
theorem d_Law_law_1147 : decode b_Law_law 1147 = .ok (.aload_n 2, 1) := by decide +kernel
theorem d_Law_law_1148 : decode b_Law_law 1148 = .ok (.aload_n 0, 1) := by decide +kernel
theorem d_Law_law_1149 : decode b_Law_law 1149 = .ok (.iload 4, 2) := by decide +kernel
theorem d_Law_law_1151 : decode b_Law_law 1151 = .ok (.iconst 1, 1) := by decide +kernel
theorem d_Law_law_1152 : decode b_Law_law 1152 = .ok (.iadd, 1) := by decide +kernel
theorem d_Law_law_1153 : decode b_Law_law 1153 = .ok (.iaload, 1) := by decide +kernel
theorem d_Law_law_1154 : decode b_Law_law 1154 = .ok (.aload_n 0, 1) := by decide +kernel
theorem d_Law_law_1155 : decode b_Law_law 1155 = .ok (.iload 4, 2) := by decide +kernel
theorem d_Law_law_1157 : decode b_Law_law 1157 = .ok (.iconst 2, 1) := by decide +kernel
theorem d_Law_law_1158 : decode b_Law_law 1158 = .ok (.iadd, 1) := by decide +kernel
theorem d_Law_law_1159 : decode b_Law_law 1159 = .ok (.iaload, 1) := by decide +kernel
theorem d_Law_law_1160 : decode b_Law_law 1160 = .ok (.invokevirtual 145, 3) := by decide +kernel
theorem d_Law_law_1163 : decode b_Law_law 1163 = .ok (.istore 6, 2) := by decide +kernel
theorem d_Law_law_1165 : decode b_Law_law 1165 = .ok (.aload_n 2, 1) := by decide +kernel
theorem d_Law_law_1166 : decode b_Law_law 1166 = .ok (.invokevirtual 97, 3) := by decide +kernel
theorem d_Law_law_1169 : decode b_Law_law 1169 = .ok (.iload 5, 2) := by decide +kernel
theorem d_Law_law_1171 : decode b_Law_law 1171 = .ok (.if_icmp .eq 5, 3) := by decide +kernel
theorem d_Law_law_1176 : decode b_Law_law 1176 = .ok (.iload 5, 2) := by decide +kernel
theorem d_Law_law_1178 : decode b_Law_law 1178 = .ok (.ifCond .ne 15, 3) := by decide +kernel
theorem d_Law_law_1181 : decode b_Law_law 1181 = .ok (.aload_n 3, 1) := by decide +kernel
theorem d_Law_law_1182 : decode b_Law_law 1182 = .ok (.iconst 0, 1) := by decide +kernel
theorem d_Law_law_1183 : decode b_Law_law 1183 = .ok (.laload, 1) := by decide +kernel
theorem d_Law_law_1184 : decode b_Law_law 1184 = .ok (.iload 6, 2) := by decide +kernel
theorem d_Law_law_1186 : decode b_Law_law 1186 = .ok (.i2l, 1) := by decide +kernel
theorem d_Law_law_1187 : decode b_Law_law 1187 = .ok (.lcmp, 1) := by decide +kernel
theorem d_Law_law_1188 : decode b_Law_law 1188 = .ok (.ifCond .eq 5, 3) := by decide +kernel
theorem d_Law_law_1193 : decode b_Law_law 1193 = .ok (.goto 455, 3) := by decide +kernel
theorem d_Law_law_1196 : decode b_Law_law 1196 = .ok (.aload_n 1, 1) := by decide +kernel
theorem d_Law_law_1197 : decode b_Law_law 1197 = .ok (.aload_n 0, 1) := by decide +kernel
theorem d_Law_law_1198 : decode b_Law_law 1198 = .ok (.iload 4, 2) := by decide +kernel
theorem d_Law_law_1200 : decode b_Law_law 1200 = .ok (.iconst 1, 1) := by decide +kernel
theorem d_Law_law_1201 : decode b_Law_law 1201 = .ok (.iadd, 1) := by decide +kernel
theorem d_Law_law_1202 : decode b_Law_law 1202 = .ok (.iaload, 1) := by decide +kernel
theorem d_Law_law_1203 : decode b_Law_law 1203 = .ok (.aload_n 3, 1) := by decide +kernel
theorem d_Law_law_1204 : decode b_Law_law 1204 = .ok (.invokestatic 146, 3) := by decide +kernel
theorem d_Law_law_1207 : decode b_Law_law 1207 = .ok (.istore 5, 2) := by decide +kernel
theorem d_Law_law_1209 : decode b_Law_law 1209 = .ok (.aload_n 2, 1) := by decide +kernel
theorem d_Law_law_1210 : decode b_Law_law 1210 = .ok (.aload_n 0, 1) := by decide +kernel
theorem d_Law_law_1211 : decode b_Law_law 1211 = .ok (.iload 4, 2) := by decide +kernel
theorem d_Law_law_1213 : decode b_Law_law 1213 = .ok (.iconst 1, 1) := by decide +kernel
theorem d_Law_law_1214 : decode b_Law_law 1214 = .ok (.iadd, 1) := by decide +kernel
theorem d_Law_law_1215 : decode b_Law_law 1215 = .ok (.iaload, 1) := by decide +kernel
theorem d_Law_law_1216 : decode b_Law_law 1216 = .ok (.invokevirtual 148, 3) := by decide +kernel
theorem d_Law_law_1219 : decode b_Law_law 1219 = .ok (.istore 6, 2) := by decide +kernel
theorem d_Law_law_1221 : decode b_Law_law 1221 = .ok (.aload_n 2, 1) := by decide +kernel
theorem d_Law_law_1222 : decode b_Law_law 1222 = .ok (.invokevirtual 97, 3) := by decide +kernel
theorem d_Law_law_1225 : decode b_Law_law 1225 = .ok (.iload 5, 2) := by decide +kernel
theorem d_Law_law_1227 : decode b_Law_law 1227 = .ok (.if_icmp .eq 5, 3) := by decide +kernel
theorem d_Law_law_1232 : decode b_Law_law 1232 = .ok (.iload 5, 2) := by decide +kernel
theorem d_Law_law_1234 : decode b_Law_law 1234 = .ok (.ifCond .ne 15, 3) := by decide +kernel
theorem d_Law_law_1237 : decode b_Law_law 1237 = .ok (.aload_n 3, 1) := by decide +kernel
theorem d_Law_law_1238 : decode b_Law_law 1238 = .ok (.iconst 0, 1) := by decide +kernel
theorem d_Law_law_1239 : decode b_Law_law 1239 = .ok (.laload, 1) := by decide +kernel
theorem d_Law_law_1240 : decode b_Law_law 1240 = .ok (.iload 6, 2) := by decide +kernel
theorem d_Law_law_1242 : decode b_Law_law 1242 = .ok (.i2l, 1) := by decide +kernel
theorem d_Law_law_1243 : decode b_Law_law 1243 = .ok (.lcmp, 1) := by decide +kernel
theorem d_Law_law_1244 : decode b_Law_law 1244 = .ok (.ifCond .eq 5, 3) := by decide +kernel
theorem d_Law_law_1249 : decode b_Law_law 1249 = .ok (.goto 399, 3) := by decide +kernel
theorem d_Law_law_1252 : decode b_Law_law 1252 = .ok (.aload_n 1, 1) := by decide +kernel
theorem d_Law_law_1253 : decode b_Law_law 1253 = .ok (.aload_n 0, 1) := by decide +kernel
theorem d_Law_law_1254 : decode b_Law_law 1254 = .ok (.iload 4, 2) := by decide +kernel
theorem d_Law_law_1256 : decode b_Law_law 1256 = .ok (.iconst 1, 1) := by decide +kernel
theorem d_Law_law_1257 : decode b_Law_law 1257 = .ok (.iadd, 1) := by decide +kernel
theorem d_Law_law_1258 : decode b_Law_law 1258 = .ok (.iaload, 1) := by decide +kernel
theorem d_Law_law_1259 : decode b_Law_law 1259 = .ok (.aload_n 0, 1) := by decide +kernel
