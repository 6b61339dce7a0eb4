/-! Bytes of the law. -/
theorem d_law_1006 : decode code 1006 = .ok (.iconst 1, 1) := by decide +kernel
theorem d_law_1007 : decode code 1007 = .ok (.iadd, 1) := by decide +kernel
theorem d_law_1008 : decode code 1008 = .ok (.iaload, 1) := by decide +kernel
theorem d_law_1009 : decode code 1009 = .ok (.aload_n 0, 1) := by decide +kernel
theorem d_law_1010 : decode code 1010 = .ok (.iload_n 3, 1) := by decide +kernel
theorem d_law_1011 : decode code 1011 = .ok (.iconst 2, 1) := by decide +kernel
theorem d_law_1012 : decode code 1012 = .ok (.iadd, 1) := by decide +kernel
theorem d_law_1013 : decode code 1013 = .ok (.iaload, 1) := by decide +kernel
theorem d_law_1014 : decode code 1014 = .ok (.aload_n 0, 1) := by decide +kernel
theorem d_law_1015 : decode code 1015 = .ok (.iload_n 3, 1) := by decide +kernel
theorem d_law_1016 : decode code 1016 = .ok (.iconst 3, 1) := by decide +kernel
theorem d_law_1017 : decode code 1017 = .ok (.iadd, 1) := by decide +kernel
theorem d_law_1018 : decode code 1018 = .ok (.iaload, 1) := by decide +kernel
theorem d_law_1019 : decode code 1019 = .ok (.aload_n 0, 1) := by decide +kernel
theorem d_law_1020 : decode code 1020 = .ok (.iload_n 3, 1) := by decide +kernel
theorem d_law_1021 : decode code 1021 = .ok (.iconst 4, 1) := by decide +kernel
theorem d_law_1022 : decode code 1022 = .ok (.iadd, 1) := by decide +kernel
theorem d_law_1023 : decode code 1023 = .ok (.iaload, 1) := by decide +kernel
theorem d_law_1024 : decode code 1024 = .ok (.invokevirtual 137, 3) := by decide +kernel
theorem d_law_1027 : decode code 1027 = .ok (.aload_n 2, 1) := by decide +kernel
theorem d_law_1028 : decode code 1028 = .ok (.aload_n 0, 1) := by decide +kernel
theorem d_law_1029 : decode code 1029 = .ok (.iload_n 3, 1) := by decide +kernel
theorem d_law_1030 : decode code 1030 = .ok (.iconst 1, 1) := by decide +kernel
theorem d_law_1031 : decode code 1031 = .ok (.iadd, 1) := by decide +kernel
theorem d_law_1032 : decode code 1032 = .ok (.iaload, 1) := by decide +kernel
theorem d_law_1033 : decode code 1033 = .ok (.aload_n 0, 1) := by decide +kernel
theorem d_law_1034 : decode code 1034 = .ok (.iload_n 3, 1) := by decide +kernel
theorem d_law_1035 : decode code 1035 = .ok (.iconst 2, 1) := by decide +kernel
theorem d_law_1036 : decode code 1036 = .ok (.iadd, 1) := by decide +kernel
theorem d_law_1037 : decode code 1037 = .ok (.iaload, 1) := by decide +kernel
theorem d_law_1038 : decode code 1038 = .ok (.aload_n 0, 1) := by decide +kernel
theorem d_law_1039 : decode code 1039 = .ok (.iload_n 3, 1) := by decide +kernel
theorem d_law_1040 : decode code 1040 = .ok (.iconst 3, 1) := by decide +kernel
theorem d_law_1041 : decode code 1041 = .ok (.iadd, 1) := by decide +kernel
theorem d_law_1042 : decode code 1042 = .ok (.iaload, 1) := by decide +kernel
theorem d_law_1043 : decode code 1043 = .ok (.aload_n 0, 1) := by decide +kernel
theorem d_law_1044 : decode code 1044 = .ok (.iload_n 3, 1) := by decide +kernel
theorem d_law_1045 : decode code 1045 = .ok (.iconst 4, 1) := by decide +kernel
theorem d_law_1046 : decode code 1046 = .ok (.iadd, 1) := by decide +kernel
theorem d_law_1047 : decode code 1047 = .ok (.iaload, 1) := by decide +kernel
theorem d_law_1048 : decode code 1048 = .ok (.invokevirtual 141, 3) := by decide +kernel
theorem d_law_1051 : decode code 1051 = .ok (.if_icmp .eq 212, 3) := by decide +kernel
theorem d_law_1056 : decode code 1056 = .ok (.aload_n 1, 1) := by decide +kernel
theorem d_law_1057 : decode code 1057 = .ok (.aload_n 0, 1) := by decide +kernel
theorem d_law_1058 : decode code 1058 = .ok (.iload_n 3, 1) := by decide +kernel
theorem d_law_1059 : decode code 1059 = .ok (.iconst 1, 1) := by decide +kernel
theorem d_law_1060 : decode code 1060 = .ok (.iadd, 1) := by decide +kernel
theorem d_law_1061 : decode code 1061 = .ok (.iaload, 1) := by decide +kernel
theorem d_law_1062 : decode code 1062 = .ok (.aload_n 0, 1) := by decide +kernel
theorem d_law_1063 : decode code 1063 = .ok (.iload_n 3, 1) := by decide +kernel
theorem d_law_1064 : decode code 1064 = .ok (.iconst 2, 1) := by decide +kernel
theorem d_law_1065 : decode code 1065 = .ok (.iadd, 1) := by decide +kernel
theorem d_law_1066 : decode code 1066 = .ok (.iaload, 1) := by decide +kernel
theorem d_law_1067 : decode code 1067 = .ok (.aload_n 0, 1) := by decide +kernel
theorem d_law_1068 : decode code 1068 = .ok (.iload_n 3, 1) := by decide +kernel
theorem d_law_1069 : decode code 1069 = .ok (.iconst 3, 1) := by decide +kernel
theorem d_law_1070 : decode code 1070 = .ok (.iadd, 1) := by decide +kernel
theorem d_law_1071 : decode code 1071 = .ok (.iaload, 1) := by decide +kernel
theorem d_law_1072 : decode code 1072 = .ok (.ifCond .eq 7, 3) := by decide +kernel
theorem d_law_1075 : decode code 1075 = .ok (.iconst 1, 1) := by decide +kernel
theorem d_law_1076 : decode code 1076 = .ok (.goto 4, 3) := by decide +kernel
theorem d_law_1079 : decode code 1079 = .ok (.iconst 0, 1) := by decide +kernel
theorem d_law_1080 : decode code 1080 = .ok (.invokevirtual 142, 3) := by decide +kernel
theorem d_law_1083 : decode code 1083 = .ok (.aload_n 2, 1) := by decide +kernel
theorem d_law_1084 : decode code 1084 = .ok (.aload_n 0, 1) := by decide +kernel
theorem d_law_1085 : decode code 1085 = .ok (.iload_n 3, 1) := by decide +kernel
theorem d_law_1086 : decode code 1086 = .ok (.iconst 1, 1) := by decide +kernel
theorem d_law_1087 : decode code 1087 = .ok (.iadd, 1) := by decide +kernel
theorem d_law_1088 : decode code 1088 = .ok (.iaload, 1) := by decide +kernel
theorem d_law_1089 : decode code 1089 = .ok (.aload_n 0, 1) := by decide +kernel
theorem d_law_1090 : decode code 1090 = .ok (.iload_n 3, 1) := by decide +kernel
theorem d_law_1091 : decode code 1091 = .ok (.iconst 2, 1) := by decide +kernel
theorem d_law_1092 : decode code 1092 = .ok (.iadd, 1) := by decide +kernel
theorem d_law_1093 : decode code 1093 = .ok (.iaload, 1) := by decide +kernel
theorem d_law_1094 : decode code 1094 = .ok (.aload_n 0, 1) := by decide +kernel
theorem d_law_1095 : decode code 1095 = .ok (.iload_n 3, 1) := by decide +kernel
theorem d_law_1096 : decode code 1096 = .ok (.iconst 3, 1) := by decide +kernel
theorem d_law_1097 : decode code 1097 = .ok (.iadd, 1) := by decide +kernel
theorem d_law_1098 : decode code 1098 = .ok (.iaload, 1) := by decide +kernel
theorem d_law_1099 : decode code 1099 = .ok (.ifCond .eq 7, 3) := by decide +kernel
theorem d_law_1102 : decode code 1102 = .ok (.iconst 1, 1) := by decide +kernel
theorem d_law_1103 : decode code 1103 = .ok (.goto 4, 3) := by decide +kernel
theorem d_law_1106 : decode code 1106 = .ok (.iconst 0, 1) := by decide +kernel
theorem d_law_1107 : decode code 1107 = .ok (.invokevirtual 146, 3) := by decide +kernel
theorem d_law_1110 : decode code 1110 = .ok (.if_icmp .eq 153, 3) := by decide +kernel
theorem d_law_1115 : decode code 1115 = .ok (.aload_n 1, 1) := by decide +kernel
theorem d_law_1116 : decode code 1116 = .ok (.invokevirtual 147, 3) := by decide +kernel
theorem d_law_1119 : decode code 1119 = .ok (.aload_n 2, 1) := by decide +kernel
theorem d_law_1120 : decode code 1120 = .ok (.invokevirtual 150, 3) := by decide +kernel
theorem d_law_1123 : decode code 1123 = .ok (.if_icmp .eq 140, 3) := by decide +kernel
theorem d_law_1128 : decode code 1128 = .ok (.aload_n 1, 1) := by decide +kernel
theorem d_law_1129 : decode code 1129 = .ok (.aload_n 0, 1) := by decide +kernel
theorem d_law_1130 : decode code 1130 = .ok (.iload_n 3, 1) := by decide +kernel
theorem d_law_1131 : decode code 1131 = .ok (.iconst 1, 1) := by decide +kernel
theorem d_law_1132 : decode code 1132 = .ok (.iadd, 1) := by decide +kernel
theorem d_law_1133 : decode code 1133 = .ok (.iaload, 1) := by decide +kernel
theorem d_law_1134 : decode code 1134 = .ok (.aload_n 0, 1) := by decide +kernel
theorem d_law_1135 : decode code 1135 = .ok (.iload_n 3, 1) := by decide +kernel
theorem d_law_1136 : decode code 1136 = .ok (.iconst 2, 1) := by decide +kernel
theorem d_law_1137 : decode code 1137 = .ok (.iadd, 1) := by decide +kernel
theorem d_law_1138 : decode code 1138 = .ok (.iaload, 1) := by decide +kernel
theorem d_law_1139 : decode code 1139 = .ok (.invokevirtual 151, 3) := by decide +kernel
theorem d_law_1142 : decode code 1142 = .ok (.aload_n 2, 1) := by decide +kernel
theorem d_law_1143 : decode code 1143 = .ok (.aload_n 0, 1) := by decide +kernel
theorem d_law_1144 : decode code 1144 = .ok (.iload_n 3, 1) := by decide +kernel
theorem d_law_1145 : decode code 1145 = .ok (.iconst 1, 1) := by decide +kernel
theorem d_law_1146 : decode code 1146 = .ok (.iadd, 1) := by decide +kernel
theorem d_law_1147 : decode code 1147 = .ok (.iaload, 1) := by decide +kernel
theorem d_law_1148 : decode code 1148 = .ok (.aload_n 0, 1) := by decide +kernel
theorem d_law_1149 : decode code 1149 = .ok (.iload_n 3, 1) := by decide +kernel
theorem d_law_1150 : decode code 1150 = .ok (.iconst 2, 1) := by decide +kernel
theorem d_law_1151 : decode code 1151 = .ok (.iadd, 1) := by decide +kernel
theorem d_law_1152 : decode code 1152 = .ok (.iaload, 1) := by decide +kernel
theorem d_law_1153 : decode code 1153 = .ok (.invokevirtual 154, 3) := by decide +kernel
theorem d_law_1156 : decode code 1156 = .ok (.if_icmp .eq 107, 3) := by decide +kernel
theorem d_law_1161 : decode code 1161 = .ok (.aload_n 1, 1) := by decide +kernel
theorem d_law_1162 : decode code 1162 = .ok (.aload_n 0, 1) := by decide +kernel
theorem d_law_1163 : decode code 1163 = .ok (.iload_n 3, 1) := by decide +kernel
theorem d_law_1164 : decode code 1164 = .ok (.iconst 1, 1) := by decide +kernel
theorem d_law_1165 : decode code 1165 = .ok (.iadd, 1) := by decide +kernel
theorem d_law_1166 : decode code 1166 = .ok (.iaload, 1) := by decide +kernel
theorem d_law_1167 : decode code 1167 = .ok (.aload_n 0, 1) := by decide +kernel
theorem d_law_1168 : decode code 1168 = .ok (.iload_n 3, 1) := by decide +kernel
theorem d_law_1169 : decode code 1169 = .ok (.iconst 2, 1) := by decide +kernel
theorem d_law_1170 : decode code 1170 = .ok (.iadd, 1) := by decide +kernel
theorem d_law_1171 : decode code 1171 = .ok (.iaload, 1) := by decide +kernel
theorem d_law_1172 : decode code 1172 = .ok (.invokevirtual 155, 3) := by decide +kernel
theorem d_law_1175 : decode code 1175 = .ok (.aload_n 2, 1) := by decide +kernel
theorem d_law_1176 : decode code 1176 = .ok (.aload_n 0, 1) := by decide +kernel
theorem d_law_1177 : decode code 1177 = .ok (.iload_n 3, 1) := by decide +kernel
theorem d_law_1178 : decode code 1178 = .ok (.iconst 1, 1) := by decide +kernel
theorem d_law_1179 : decode code 1179 = .ok (.iadd, 1) := by decide +kernel
theorem d_law_1180 : decode code 1180 = .ok (.iaload, 1) := by decide +kernel
theorem d_law_1181 : decode code 1181 = .ok (.aload_n 0, 1) := by decide +kernel
theorem d_law_1182 : decode code 1182 = .ok (.iload_n 3, 1) := by decide +kernel
theorem d_law_1183 : decode code 1183 = .ok (.iconst 2, 1) := by decide +kernel
theorem d_law_1184 : decode code 1184 = .ok (.iadd, 1) := by decide +kernel
theorem d_law_1185 : decode code 1185 = .ok (.iaload, 1) := by decide +kernel
theorem d_law_1186 : decode code 1186 = .ok (.invokevirtual 158, 3) := by decide +kernel
theorem d_law_1189 : decode code 1189 = .ok (.if_icmp .eq 74, 3) := by decide +kernel
theorem d_law_1194 : decode code 1194 = .ok (.aload_n 1, 1) := by decide +kernel
theorem d_law_1195 : decode code 1195 = .ok (.aload_n 0, 1) := by decide +kernel
theorem d_law_1196 : decode code 1196 = .ok (.iload_n 3, 1) := by decide +kernel
theorem d_law_1197 : decode code 1197 = .ok (.iconst 1, 1) := by decide +kernel
theorem d_law_1198 : decode code 1198 = .ok (.iadd, 1) := by decide +kernel
theorem d_law_1199 : decode code 1199 = .ok (.iaload, 1) := by decide +kernel
theorem d_law_1200 : decode code 1200 = .ok (.invokevirtual 159, 3) := by decide +kernel
theorem d_law_1203 : decode code 1203 = .ok (.aload_n 2, 1) := by decide +kernel
theorem d_law_1204 : decode code 1204 = .ok (.aload_n 0, 1) := by decide +kernel
theorem d_law_1205 : decode code 1205 = .ok (.iload_n 3, 1) := by decide +kernel
