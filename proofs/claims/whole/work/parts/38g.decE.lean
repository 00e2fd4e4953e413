/-! The law's decode rows, 7 of 10. -/
theorem d_Law_law_1022 : decode b_Law_law 1022 = .ok (.iadd, 1) := by decide +kernel
theorem d_Law_law_1023 : decode b_Law_law 1023 = .ok (.iaload, 1) := by decide +kernel
theorem d_Law_law_1024 : decode b_Law_law 1024 = .ok (.invokevirtual 139, 3) := by decide +kernel
theorem d_Law_law_1027 : decode b_Law_law 1027 = .ok (.istore 6, 2) := by decide +kernel
theorem d_Law_law_1029 : decode b_Law_law 1029 = .ok (.aload_n 2, 1) := by decide +kernel
theorem d_Law_law_1030 : decode b_Law_law 1030 = .ok (.invokevirtual 97, 3) := by decide +kernel
theorem d_Law_law_1033 : decode b_Law_law 1033 = .ok (.iload 5, 2) := by decide +kernel
theorem d_Law_law_1035 : decode b_Law_law 1035 = .ok (.if_icmp .eq 5, 3) := by decide +kernel
theorem d_Law_law_1040 : decode b_Law_law 1040 = .ok (.iload 5, 2) := by decide +kernel
theorem d_Law_law_1042 : decode b_Law_law 1042 = .ok (.ifCond .ne 15, 3) := by decide +kernel
theorem d_Law_law_1045 : decode b_Law_law 1045 = .ok (.aload_n 3, 1) := by decide +kernel
theorem d_Law_law_1046 : decode b_Law_law 1046 = .ok (.iconst 0, 1) := by decide +kernel
theorem d_Law_law_1047 : decode b_Law_law 1047 = .ok (.laload, 1) := by decide +kernel
theorem d_Law_law_1048 : decode b_Law_law 1048 = .ok (.iload 6, 2) := by decide +kernel
theorem d_Law_law_1050 : decode b_Law_law 1050 = .ok (.i2l, 1) := by decide +kernel
theorem d_Law_law_1051 : decode b_Law_law 1051 = .ok (.lcmp, 1) := by decide +kernel
theorem d_Law_law_1052 : decode b_Law_law 1052 = .ok (.ifCond .eq 5, 3) := by decide +kernel
theorem d_Law_law_1057 : decode b_Law_law 1057 = .ok (.goto 591, 3) := by decide +kernel
theorem d_Law_law_1060 : decode b_Law_law 1060 = .ok (.aload_n 1, 1) := by decide +kernel
theorem d_Law_law_1061 : decode b_Law_law 1061 = .ok (.aload_n 0, 1) := by decide +kernel
theorem d_Law_law_1062 : decode b_Law_law 1062 = .ok (.iload 4, 2) := by decide +kernel
theorem d_Law_law_1064 : decode b_Law_law 1064 = .ok (.iconst 1, 1) := by decide +kernel
theorem d_Law_law_1065 : decode b_Law_law 1065 = .ok (.iadd, 1) := by decide +kernel
theorem d_Law_law_1066 : decode b_Law_law 1066 = .ok (.iaload, 1) := by decide +kernel
theorem d_Law_law_1067 : decode b_Law_law 1067 = .ok (.aload_n 0, 1) := by decide +kernel
theorem d_Law_law_1068 : decode b_Law_law 1068 = .ok (.iload 4, 2) := by decide +kernel
theorem d_Law_law_1070 : decode b_Law_law 1070 = .ok (.iconst 2, 1) := by decide +kernel
theorem d_Law_law_1071 : decode b_Law_law 1071 = .ok (.iadd, 1) := by decide +kernel
theorem d_Law_law_1072 : decode b_Law_law 1072 = .ok (.iaload, 1) := by decide +kernel
theorem d_Law_law_1073 : decode b_Law_law 1073 = .ok (.aload_n 3, 1) := by decide +kernel
theorem d_Law_law_1074 : decode b_Law_law 1074 = .ok (.invokestatic 140, 3) := by decide +kernel
theorem d_Law_law_1077 : decode b_Law_law 1077 = .ok (.istore 5, 2) := by decide +kernel
theorem d_Law_law_1079 : decode b_Law_law 1079 = .ok (.aload_n 2, 1) := by decide +kernel
theorem d_Law_law_1080 : decode b_Law_law 1080 = .ok (.aload_n 0, 1) := by decide +kernel
theorem d_Law_law_1081 : decode b_Law_law 1081 = .ok (.iload 4, 2) := by decide +kernel
theorem d_Law_law_1083 : decode b_Law_law 1083 = .ok (.iconst 1, 1) := by decide +kernel
theorem d_Law_law_1084 : decode b_Law_law 1084 = .ok (.iadd, 1) := by decide +kernel
theorem d_Law_law_1085 : decode b_Law_law 1085 = .ok (.iaload, 1) := by decide +kernel
theorem d_Law_law_1086 : decode b_Law_law 1086 = .ok (.aload_n 0, 1) := by decide +kernel
theorem d_Law_law_1087 : decode b_Law_law 1087 = .ok (.iload 4, 2) := by decide +kernel
theorem d_Law_law_1089 : decode b_Law_law 1089 = .ok (.iconst 2, 1) := by decide +kernel
theorem d_Law_law_1090 : decode b_Law_law 1090 = .ok (.iadd, 1) := by decide +kernel
theorem d_Law_law_1091 : decode b_Law_law 1091 = .ok (.iaload, 1) := by decide +kernel
theorem d_Law_law_1092 : decode b_Law_law 1092 = .ok (.invokevirtual 142, 3) := by decide +kernel
theorem d_Law_law_1095 : decode b_Law_law 1095 = .ok (.istore 6, 2) := by decide +kernel
theorem d_Law_law_1097 : decode b_Law_law 1097 = .ok (.aload_n 2, 1) := by decide +kernel
theorem d_Law_law_1098 : decode b_Law_law 1098 = .ok (.invokevirtual 97, 3) := by decide +kernel
theorem d_Law_law_1101 : decode b_Law_law 1101 = .ok (.iload 5, 2) := by decide +kernel
theorem d_Law_law_1103 : decode b_Law_law 1103 = .ok (.if_icmp .eq 5, 3) := by decide +kernel
theorem d_Law_law_1108 : decode b_Law_law 1108 = .ok (.iload 5, 2) := by decide +kernel
theorem d_Law_law_1110 : decode b_Law_law 1110 = .ok (.ifCond .ne 15, 3) := by decide +kernel
theorem d_Law_law_1113 : decode b_Law_law 1113 = .ok (.aload_n 3, 1) := by decide +kernel
theorem d_Law_law_1114 : decode b_Law_law 1114 = .ok (.iconst 0, 1) := by decide +kernel
theorem d_Law_law_1115 : decode b_Law_law 1115 = .ok (.laload, 1) := by decide +kernel
theorem d_Law_law_1116 : decode b_Law_law 1116 = .ok (.iload 6, 2) := by decide +kernel
theorem d_Law_law_1118 : decode b_Law_law 1118 = .ok (.i2l, 1) := by decide +kernel
theorem d_Law_law_1119 : decode b_Law_law 1119 = .ok (.lcmp, 1) := by decide +kernel
theorem d_Law_law_1120 : decode b_Law_law 1120 = .ok (.ifCond .eq 5, 3) := by decide +kernel
theorem d_Law_law_1125 : decode b_Law_law 1125 = .ok (.goto 523, 3) := by decide +kernel
theorem d_Law_law_1128 : decode b_Law_law 1128 = .ok (.aload_n 1, 1) := by decide +kernel
theorem d_Law_law_1129 : decode b_Law_law 1129 = .ok (.aload_n 0, 1) := by decide +kernel
theorem d_Law_law_1130 : decode b_Law_law 1130 = .ok (.iload 4, 2) := by decide +kernel
theorem d_Law_law_1132 : decode b_Law_law 1132 = .ok (.iconst 1, 1) := by decide +kernel
theorem d_Law_law_1133 : decode b_Law_law 1133 = .ok (.iadd, 1) := by decide +kernel
theorem d_Law_law_1134 : decode b_Law_law 1134 = .ok (.iaload, 1) := by decide +kernel
theorem d_Law_law_1135 : decode b_Law_law 1135 = .ok (.aload_n 0, 1) := by decide +kernel
theorem d_Law_law_1136 : decode b_Law_law 1136 = .ok (.iload 4, 2) := by decide +kernel
theorem d_Law_law_1138 : decode b_Law_law 1138 = .ok (.iconst 2, 1) := by decide +kernel
theorem d_Law_law_1139 : decode b_Law_law 1139 = .ok (.iadd, 1) := by decide +kernel
theorem d_Law_law_1140 : decode b_Law_law 1140 = .ok (.iaload, 1) := by decide +kernel
theorem d_Law_law_1141 : decode b_Law_law 1141 = .ok (.aload_n 3, 1) := by decide +kernel
theorem d_Law_law_1142 : decode b_Law_law 1142 = .ok (.invokestatic 143, 3) := by decide +kernel
theorem d_Law_law_1145 : decode b_Law_law 1145 = .ok (.istore 5, 2) := by decide +kernel
theorem d_Law_law_1147 : decode b_Law_law 1147 = .ok (.aload_n 2, 1) := by decide +kernel
theorem d_Law_law_1148 : decode b_Law_law 1148 = .ok (.aload_n 0, 1) := by decide +kernel
theorem d_Law_law_1149 : decode b_Law_law 1149 = .ok (.iload 4, 2) := by decide +kernel
theorem d_Law_law_1151 : decode b_Law_law 1151 = .ok (.iconst 1, 1) := by decide +kernel
theorem d_Law_law_1152 : decode b_Law_law 1152 = .ok (.iadd, 1) := by decide +kernel
theorem d_Law_law_1153 : decode b_Law_law 1153 = .ok (.iaload, 1) := by decide +kernel
theorem d_Law_law_1154 : decode b_Law_law 1154 = .ok (.aload_n 0, 1) := by decide +kernel
theorem d_Law_law_1155 : decode b_Law_law 1155 = .ok (.iload 4, 2) := by decide +kernel
theorem d_Law_law_1157 : decode b_Law_law 1157 = .ok (.iconst 2, 1) := by decide +kernel
theorem d_Law_law_1158 : decode b_Law_law 1158 = .ok (.iadd, 1) := by decide +kernel
theorem d_Law_law_1159 : decode b_Law_law 1159 = .ok (.iaload, 1) := by decide +kernel
theorem d_Law_law_1160 : decode b_Law_law 1160 = .ok (.invokevirtual 145, 3) := by decide +kernel
theorem d_Law_law_1163 : decode b_Law_law 1163 = .ok (.istore 6, 2) := by decide +kernel
theorem d_Law_law_1165 : decode b_Law_law 1165 = .ok (.aload_n 2, 1) := by decide +kernel
theorem d_Law_law_1166 : decode b_Law_law 1166 = .ok (.invokevirtual 97, 3) := by decide +kernel
theorem d_Law_law_1169 : decode b_Law_law 1169 = .ok (.iload 5, 2) := by decide +kernel
theorem d_Law_law_1171 : decode b_Law_law 1171 = .ok (.if_icmp .eq 5, 3) := by decide +kernel
theorem d_Law_law_1176 : decode b_Law_law 1176 = .ok (.iload 5, 2) := by decide +kernel
theorem d_Law_law_1178 : decode b_Law_law 1178 = .ok (.ifCond .ne 15, 3) := by decide +kernel
theorem d_Law_law_1181 : decode b_Law_law 1181 = .ok (.aload_n 3, 1) := by decide +kernel
theorem d_Law_law_1182 : decode b_Law_law 1182 = .ok (.iconst 0, 1) := by decide +kernel
theorem d_Law_law_1183 : decode b_Law_law 1183 = .ok (.laload, 1) := by decide +kernel
