theorem dL_law_1034 : decode cL_law 1034 = .ok (.aload_n 1, 1) := z_dd_43 (by decide +kernel)
theorem dL_law_1035 : decode cL_law 1035 = .ok (.aload_n 0, 1) := z_dd_42 (by decide +kernel)
theorem dL_law_1036 : decode cL_law 1036 = .ok (.iload_n 3, 1) := z_dd_29 (by decide +kernel)
theorem dL_law_1037 : decode cL_law 1037 = .ok (.iconst 1, 1) := z_dd_4 (by decide +kernel)
theorem dL_law_1038 : decode cL_law 1038 = .ok (.iadd, 1) := z_dd_96 (by decide +kernel)
theorem dL_law_1039 : decode cL_law 1039 = .ok (.iaload, 1) := z_dd_46 (by decide +kernel)
theorem dL_law_1040 : decode cL_law 1040 = .ok (.invokevirtual 118, 3) := z_dd_182 (by decide +kernel)
theorem dL_law_1043 : decode cL_law 1043 = .ok (.pop, 1) := z_dd_87 (by decide +kernel)
theorem dL_law_1044 : decode cL_law 1044 = .ok (.aload_n 2, 1) := z_dd_44 (by decide +kernel)
theorem dL_law_1045 : decode cL_law 1045 = .ok (.aload_n 0, 1) := z_dd_42 (by decide +kernel)
theorem dL_law_1046 : decode cL_law 1046 = .ok (.iload_n 3, 1) := z_dd_29 (by decide +kernel)
theorem dL_law_1047 : decode cL_law 1047 = .ok (.iconst 1, 1) := z_dd_4 (by decide +kernel)
theorem dL_law_1048 : decode cL_law 1048 = .ok (.iadd, 1) := z_dd_96 (by decide +kernel)
theorem dL_law_1049 : decode cL_law 1049 = .ok (.iaload, 1) := z_dd_46 (by decide +kernel)
theorem dL_law_1050 : decode cL_law 1050 = .ok (.invokevirtual 121, 3) := z_dd_182 (by decide +kernel)
theorem dL_law_1053 : decode cL_law 1053 = .ok (.pop, 1) := z_dd_87 (by decide +kernel)
theorem dL_law_1054 : decode cL_law 1054 = .ok (.goto 454, 3) := z_dd_167 (by decide +kernel)
theorem dL_law_1057 : decode cL_law 1057 = .ok (.aload_n 1, 1) := z_dd_43 (by decide +kernel)
theorem dL_law_1058 : decode cL_law 1058 = .ok (.aload_n 0, 1) := z_dd_42 (by decide +kernel)
theorem dL_law_1059 : decode cL_law 1059 = .ok (.iload_n 3, 1) := z_dd_29 (by decide +kernel)
theorem dL_law_1060 : decode cL_law 1060 = .ok (.iconst 1, 1) := z_dd_4 (by decide +kernel)
theorem dL_law_1061 : decode cL_law 1061 = .ok (.iadd, 1) := z_dd_96 (by decide +kernel)
theorem dL_law_1062 : decode cL_law 1062 = .ok (.iaload, 1) := z_dd_46 (by decide +kernel)
theorem dL_law_1063 : decode cL_law 1063 = .ok (.aload_n 0, 1) := z_dd_42 (by decide +kernel)
theorem dL_law_1064 : decode cL_law 1064 = .ok (.iload_n 3, 1) := z_dd_29 (by decide +kernel)
theorem dL_law_1065 : decode cL_law 1065 = .ok (.iconst 2, 1) := z_dd_5 (by decide +kernel)
theorem dL_law_1066 : decode cL_law 1066 = .ok (.iadd, 1) := z_dd_96 (by decide +kernel)
theorem dL_law_1067 : decode cL_law 1067 = .ok (.iaload, 1) := z_dd_46 (by decide +kernel)
theorem dL_law_1068 : decode cL_law 1068 = .ok (.invokevirtual 122, 3) := z_dd_182 (by decide +kernel)
theorem dL_law_1071 : decode cL_law 1071 = .ok (.pop, 1) := z_dd_87 (by decide +kernel)
theorem dL_law_1072 : decode cL_law 1072 = .ok (.aload_n 2, 1) := z_dd_44 (by decide +kernel)
theorem dL_law_1073 : decode cL_law 1073 = .ok (.aload_n 0, 1) := z_dd_42 (by decide +kernel)
theorem dL_law_1074 : decode cL_law 1074 = .ok (.iload_n 3, 1) := z_dd_29 (by decide +kernel)
theorem dL_law_1075 : decode cL_law 1075 = .ok (.iconst 1, 1) := z_dd_4 (by decide +kernel)
theorem dL_law_1076 : decode cL_law 1076 = .ok (.iadd, 1) := z_dd_96 (by decide +kernel)
theorem dL_law_1077 : decode cL_law 1077 = .ok (.iaload, 1) := z_dd_46 (by decide +kernel)
theorem dL_law_1078 : decode cL_law 1078 = .ok (.aload_n 0, 1) := z_dd_42 (by decide +kernel)
theorem dL_law_1079 : decode cL_law 1079 = .ok (.iload_n 3, 1) := z_dd_29 (by decide +kernel)
theorem dL_law_1080 : decode cL_law 1080 = .ok (.iconst 2, 1) := z_dd_5 (by decide +kernel)
theorem dL_law_1081 : decode cL_law 1081 = .ok (.iadd, 1) := z_dd_96 (by decide +kernel)
theorem dL_law_1082 : decode cL_law 1082 = .ok (.iaload, 1) := z_dd_46 (by decide +kernel)
theorem dL_law_1083 : decode cL_law 1083 = .ok (.invokevirtual 125, 3) := z_dd_182 (by decide +kernel)
theorem dL_law_1086 : decode cL_law 1086 = .ok (.pop, 1) := z_dd_87 (by decide +kernel)
theorem dL_law_1087 : decode cL_law 1087 = .ok (.goto 421, 3) := z_dd_167 (by decide +kernel)
theorem dL_law_1090 : decode cL_law 1090 = .ok (.aload_n 1, 1) := z_dd_43 (by decide +kernel)
theorem dL_law_1091 : decode cL_law 1091 = .ok (.aload_n 0, 1) := z_dd_42 (by decide +kernel)
theorem dL_law_1092 : decode cL_law 1092 = .ok (.iload_n 3, 1) := z_dd_29 (by decide +kernel)
theorem dL_law_1093 : decode cL_law 1093 = .ok (.iconst 1, 1) := z_dd_4 (by decide +kernel)
theorem dL_law_1094 : decode cL_law 1094 = .ok (.iadd, 1) := z_dd_96 (by decide +kernel)
theorem dL_law_1095 : decode cL_law 1095 = .ok (.iaload, 1) := z_dd_46 (by decide +kernel)
theorem dL_law_1096 : decode cL_law 1096 = .ok (.aload_n 0, 1) := z_dd_42 (by decide +kernel)
theorem dL_law_1097 : decode cL_law 1097 = .ok (.iload_n 3, 1) := z_dd_29 (by decide +kernel)
theorem dL_law_1098 : decode cL_law 1098 = .ok (.iconst 2, 1) := z_dd_5 (by decide +kernel)
theorem dL_law_1099 : decode cL_law 1099 = .ok (.iadd, 1) := z_dd_96 (by decide +kernel)
theorem dL_law_1100 : decode cL_law 1100 = .ok (.iaload, 1) := z_dd_46 (by decide +kernel)
theorem dL_law_1101 : decode cL_law 1101 = .ok (.aload_n 0, 1) := z_dd_42 (by decide +kernel)
theorem dL_law_1102 : decode cL_law 1102 = .ok (.iload_n 3, 1) := z_dd_29 (by decide +kernel)
theorem dL_law_1103 : decode cL_law 1103 = .ok (.iconst 3, 1) := z_dd_6 (by decide +kernel)
theorem dL_law_1104 : decode cL_law 1104 = .ok (.iadd, 1) := z_dd_96 (by decide +kernel)
theorem dL_law_1105 : decode cL_law 1105 = .ok (.iaload, 1) := z_dd_46 (by decide +kernel)
theorem dL_law_1106 : decode cL_law 1106 = .ok (.invokevirtual 126, 3) := z_dd_182 (by decide +kernel)
theorem dL_law_1109 : decode cL_law 1109 = .ok (.pop, 1) := z_dd_87 (by decide +kernel)
theorem dL_law_1110 : decode cL_law 1110 = .ok (.aload_n 2, 1) := z_dd_44 (by decide +kernel)
theorem dL_law_1111 : decode cL_law 1111 = .ok (.aload_n 0, 1) := z_dd_42 (by decide +kernel)
theorem dL_law_1112 : decode cL_law 1112 = .ok (.iload_n 3, 1) := z_dd_29 (by decide +kernel)
theorem dL_law_1113 : decode cL_law 1113 = .ok (.iconst 1, 1) := z_dd_4 (by decide +kernel)
theorem dL_law_1114 : decode cL_law 1114 = .ok (.iadd, 1) := z_dd_96 (by decide +kernel)
theorem dL_law_1115 : decode cL_law 1115 = .ok (.iaload, 1) := z_dd_46 (by decide +kernel)
theorem dL_law_1116 : decode cL_law 1116 = .ok (.aload_n 0, 1) := z_dd_42 (by decide +kernel)
theorem dL_law_1117 : decode cL_law 1117 = .ok (.iload_n 3, 1) := z_dd_29 (by decide +kernel)
theorem dL_law_1118 : decode cL_law 1118 = .ok (.iconst 2, 1) := z_dd_5 (by decide +kernel)
theorem dL_law_1119 : decode cL_law 1119 = .ok (.iadd, 1) := z_dd_96 (by decide +kernel)
theorem dL_law_1120 : decode cL_law 1120 = .ok (.iaload, 1) := z_dd_46 (by decide +kernel)
theorem dL_law_1121 : decode cL_law 1121 = .ok (.aload_n 0, 1) := z_dd_42 (by decide +kernel)
theorem dL_law_1122 : decode cL_law 1122 = .ok (.iload_n 3, 1) := z_dd_29 (by decide +kernel)
theorem dL_law_1123 : decode cL_law 1123 = .ok (.iconst 3, 1) := z_dd_6 (by decide +kernel)
theorem dL_law_1124 : decode cL_law 1124 = .ok (.iadd, 1) := z_dd_96 (by decide +kernel)
theorem dL_law_1125 : decode cL_law 1125 = .ok (.iaload, 1) := z_dd_46 (by decide +kernel)
theorem dL_law_1126 : decode cL_law 1126 = .ok (.invokevirtual 130, 3) := z_dd_182 (by decide +kernel)
theorem dL_law_1129 : decode cL_law 1129 = .ok (.pop, 1) := z_dd_87 (by decide +kernel)
theorem dL_law_1130 : decode cL_law 1130 = .ok (.goto 378, 3) := z_dd_167 (by decide +kernel)
theorem dL_law_1133 : decode cL_law 1133 = .ok (.aload_n 1, 1) := z_dd_43 (by decide +kernel)
theorem dL_law_1134 : decode cL_law 1134 = .ok (.aload_n 0, 1) := z_dd_42 (by decide +kernel)
theorem dL_law_1135 : decode cL_law 1135 = .ok (.iload_n 3, 1) := z_dd_29 (by decide +kernel)
theorem dL_law_1136 : decode cL_law 1136 = .ok (.iconst 1, 1) := z_dd_4 (by decide +kernel)
theorem dL_law_1137 : decode cL_law 1137 = .ok (.iadd, 1) := z_dd_96 (by decide +kernel)
theorem dL_law_1138 : decode cL_law 1138 = .ok (.iaload, 1) := z_dd_46 (by decide +kernel)
theorem dL_law_1139 : decode cL_law 1139 = .ok (.aload_n 0, 1) := z_dd_42 (by decide +kernel)
theorem dL_law_1140 : decode cL_law 1140 = .ok (.iload_n 3, 1) := z_dd_29 (by decide +kernel)
theorem dL_law_1141 : decode cL_law 1141 = .ok (.iconst 2, 1) := z_dd_5 (by decide +kernel)
theorem dL_law_1142 : decode cL_law 1142 = .ok (.iadd, 1) := z_dd_96 (by decide +kernel)
theorem dL_law_1143 : decode cL_law 1143 = .ok (.iaload, 1) := z_dd_46 (by decide +kernel)
theorem dL_law_1144 : decode cL_law 1144 = .ok (.invokevirtual 131, 3) := z_dd_182 (by decide +kernel)
theorem dL_law_1147 : decode cL_law 1147 = .ok (.pop, 1) := z_dd_87 (by decide +kernel)
theorem dL_law_1148 : decode cL_law 1148 = .ok (.aload_n 2, 1) := z_dd_44 (by decide +kernel)
theorem dL_law_1149 : decode cL_law 1149 = .ok (.aload_n 0, 1) := z_dd_42 (by decide +kernel)
theorem dL_law_1150 : decode cL_law 1150 = .ok (.iload_n 3, 1) := z_dd_29 (by decide +kernel)
theorem dL_law_1151 : decode cL_law 1151 = .ok (.iconst 1, 1) := z_dd_4 (by decide +kernel)
theorem dL_law_1152 : decode cL_law 1152 = .ok (.iadd, 1) := z_dd_96 (by decide +kernel)
theorem dL_law_1153 : decode cL_law 1153 = .ok (.iaload, 1) := z_dd_46 (by decide +kernel)
theorem dL_law_1154 : decode cL_law 1154 = .ok (.aload_n 0, 1) := z_dd_42 (by decide +kernel)
theorem dL_law_1155 : decode cL_law 1155 = .ok (.iload_n 3, 1) := z_dd_29 (by decide +kernel)
theorem dL_law_1156 : decode cL_law 1156 = .ok (.iconst 2, 1) := z_dd_5 (by decide +kernel)
theorem dL_law_1157 : decode cL_law 1157 = .ok (.iadd, 1) := z_dd_96 (by decide +kernel)
theorem dL_law_1158 : decode cL_law 1158 = .ok (.iaload, 1) := z_dd_46 (by decide +kernel)
theorem dL_law_1159 : decode cL_law 1159 = .ok (.invokevirtual 134, 3) := z_dd_182 (by decide +kernel)
theorem dL_law_1162 : decode cL_law 1162 = .ok (.pop, 1) := z_dd_87 (by decide +kernel)
theorem dL_law_1163 : decode cL_law 1163 = .ok (.goto 345, 3) := z_dd_167 (by decide +kernel)
theorem dL_law_1166 : decode cL_law 1166 = .ok (.aload_n 1, 1) := z_dd_43 (by decide +kernel)
theorem dL_law_1167 : decode cL_law 1167 = .ok (.aload_n 0, 1) := z_dd_42 (by decide +kernel)
theorem dL_law_1168 : decode cL_law 1168 = .ok (.iload_n 3, 1) := z_dd_29 (by decide +kernel)
theorem dL_law_1169 : decode cL_law 1169 = .ok (.iconst 1, 1) := z_dd_4 (by decide +kernel)
theorem dL_law_1170 : decode cL_law 1170 = .ok (.iadd, 1) := z_dd_96 (by decide +kernel)
theorem dL_law_1171 : decode cL_law 1171 = .ok (.iaload, 1) := z_dd_46 (by decide +kernel)
theorem dL_law_1172 : decode cL_law 1172 = .ok (.aload_n 0, 1) := z_dd_42 (by decide +kernel)
theorem dL_law_1173 : decode cL_law 1173 = .ok (.iload_n 3, 1) := z_dd_29 (by decide +kernel)
theorem dL_law_1174 : decode cL_law 1174 = .ok (.iconst 2, 1) := z_dd_5 (by decide +kernel)
theorem dL_law_1175 : decode cL_law 1175 = .ok (.iadd, 1) := z_dd_96 (by decide +kernel)
theorem dL_law_1176 : decode cL_law 1176 = .ok (.iaload, 1) := z_dd_46 (by decide +kernel)
theorem dL_law_1177 : decode cL_law 1177 = .ok (.aload_n 0, 1) := z_dd_42 (by decide +kernel)
theorem dL_law_1178 : decode cL_law 1178 = .ok (.iload_n 3, 1) := z_dd_29 (by decide +kernel)
theorem dL_law_1179 : decode cL_law 1179 = .ok (.iconst 3, 1) := z_dd_6 (by decide +kernel)
theorem dL_law_1180 : decode cL_law 1180 = .ok (.iadd, 1) := z_dd_96 (by decide +kernel)
theorem dL_law_1181 : decode cL_law 1181 = .ok (.iaload, 1) := z_dd_46 (by decide +kernel)
theorem dL_law_1182 : decode cL_law 1182 = .ok (.aload_n 0, 1) := z_dd_42 (by decide +kernel)
theorem dL_law_1183 : decode cL_law 1183 = .ok (.iload_n 3, 1) := z_dd_29 (by decide +kernel)
theorem dL_law_1184 : decode cL_law 1184 = .ok (.iconst 4, 1) := z_dd_7 (by decide +kernel)
theorem dL_law_1185 : decode cL_law 1185 = .ok (.iadd, 1) := z_dd_96 (by decide +kernel)
theorem dL_law_1186 : decode cL_law 1186 = .ok (.iaload, 1) := z_dd_46 (by decide +kernel)
theorem dL_law_1187 : decode cL_law 1187 = .ok (.aload_n 0, 1) := z_dd_42 (by decide +kernel)
theorem dL_law_1188 : decode cL_law 1188 = .ok (.iload_n 3, 1) := z_dd_29 (by decide +kernel)
theorem dL_law_1189 : decode cL_law 1189 = .ok (.iconst 5, 1) := z_dd_8 (by decide +kernel)
theorem dL_law_1190 : decode cL_law 1190 = .ok (.iadd, 1) := z_dd_96 (by decide +kernel)
theorem dL_law_1191 : decode cL_law 1191 = .ok (.iaload, 1) := z_dd_46 (by decide +kernel)
theorem dL_law_1192 : decode cL_law 1192 = .ok (.aload_n 0, 1) := z_dd_42 (by decide +kernel)
theorem dL_law_1193 : decode cL_law 1193 = .ok (.iload_n 3, 1) := z_dd_29 (by decide +kernel)
theorem dL_law_1194 : decode cL_law 1194 = .ok (.bipush 6, 2) := z_dd_16 (by decide +kernel)
theorem dL_law_1196 : decode cL_law 1196 = .ok (.iadd, 1) := z_dd_96 (by decide +kernel)
theorem dL_law_1197 : decode cL_law 1197 = .ok (.iaload, 1) := z_dd_46 (by decide +kernel)
theorem dL_law_1198 : decode cL_law 1198 = .ok (.invokevirtual 135, 3) := z_dd_182 (by decide +kernel)
theorem dL_law_1201 : decode cL_law 1201 = .ok (.aload_n 2, 1) := z_dd_44 (by decide +kernel)
theorem dL_law_1202 : decode cL_law 1202 = .ok (.aload_n 0, 1) := z_dd_42 (by decide +kernel)
theorem dL_law_1203 : decode cL_law 1203 = .ok (.iload_n 3, 1) := z_dd_29 (by decide +kernel)
theorem dL_law_1204 : decode cL_law 1204 = .ok (.iconst 1, 1) := z_dd_4 (by decide +kernel)
theorem dL_law_1205 : decode cL_law 1205 = .ok (.iadd, 1) := z_dd_96 (by decide +kernel)
theorem dL_law_1206 : decode cL_law 1206 = .ok (.iaload, 1) := z_dd_46 (by decide +kernel)
theorem dL_law_1207 : decode cL_law 1207 = .ok (.aload_n 0, 1) := z_dd_42 (by decide +kernel)
theorem dL_law_1208 : decode cL_law 1208 = .ok (.iload_n 3, 1) := z_dd_29 (by decide +kernel)
theorem dL_law_1209 : decode cL_law 1209 = .ok (.iconst 2, 1) := z_dd_5 (by decide +kernel)
theorem dL_law_1210 : decode cL_law 1210 = .ok (.iadd, 1) := z_dd_96 (by decide +kernel)
theorem dL_law_1211 : decode cL_law 1211 = .ok (.iaload, 1) := z_dd_46 (by decide +kernel)
theorem dL_law_1212 : decode cL_law 1212 = .ok (.aload_n 0, 1) := z_dd_42 (by decide +kernel)
theorem dL_law_1213 : decode cL_law 1213 = .ok (.iload_n 3, 1) := z_dd_29 (by decide +kernel)
theorem dL_law_1214 : decode cL_law 1214 = .ok (.iconst 3, 1) := z_dd_6 (by decide +kernel)
theorem dL_law_1215 : decode cL_law 1215 = .ok (.iadd, 1) := z_dd_96 (by decide +kernel)
theorem dL_law_1216 : decode cL_law 1216 = .ok (.iaload, 1) := z_dd_46 (by decide +kernel)
theorem dL_law_1217 : decode cL_law 1217 = .ok (.aload_n 0, 1) := z_dd_42 (by decide +kernel)
theorem dL_law_1218 : decode cL_law 1218 = .ok (.iload_n 3, 1) := z_dd_29 (by decide +kernel)
theorem dL_law_1219 : decode cL_law 1219 = .ok (.iconst 4, 1) := z_dd_7 (by decide +kernel)
theorem dL_law_1220 : decode cL_law 1220 = .ok (.iadd, 1) := z_dd_96 (by decide +kernel)
theorem dL_law_1221 : decode cL_law 1221 = .ok (.iaload, 1) := z_dd_46 (by decide +kernel)
theorem dL_law_1222 : decode cL_law 1222 = .ok (.aload_n 0, 1) := z_dd_42 (by decide +kernel)
theorem dL_law_1223 : decode cL_law 1223 = .ok (.iload_n 3, 1) := z_dd_29 (by decide +kernel)
theorem dL_law_1224 : decode cL_law 1224 = .ok (.iconst 5, 1) := z_dd_8 (by decide +kernel)
theorem dL_law_1225 : decode cL_law 1225 = .ok (.iadd, 1) := z_dd_96 (by decide +kernel)
theorem dL_law_1226 : decode cL_law 1226 = .ok (.iaload, 1) := z_dd_46 (by decide +kernel)
theorem dL_law_1227 : decode cL_law 1227 = .ok (.aload_n 0, 1) := z_dd_42 (by decide +kernel)
theorem dL_law_1228 : decode cL_law 1228 = .ok (.iload_n 3, 1) := z_dd_29 (by decide +kernel)
theorem dL_law_1229 : decode cL_law 1229 = .ok (.bipush 6, 2) := z_dd_16 (by decide +kernel)
theorem dL_law_1231 : decode cL_law 1231 = .ok (.iadd, 1) := z_dd_96 (by decide +kernel)
theorem dL_law_1232 : decode cL_law 1232 = .ok (.iaload, 1) := z_dd_46 (by decide +kernel)
theorem dL_law_1233 : decode cL_law 1233 = .ok (.invokevirtual 139, 3) := z_dd_182 (by decide +kernel)
theorem dL_law_1236 : decode cL_law 1236 = .ok (.if_icmp .eq 272, 3) := z_dd_159 (by decide +kernel)
theorem dL_law_1241 : decode cL_law 1241 = .ok (.aload_n 1, 1) := z_dd_43 (by decide +kernel)
theorem dL_law_1242 : decode cL_law 1242 = .ok (.aload_n 0, 1) := z_dd_42 (by decide +kernel)
theorem dL_law_1243 : decode cL_law 1243 = .ok (.iload_n 3, 1) := z_dd_29 (by decide +kernel)
theorem dL_law_1244 : decode cL_law 1244 = .ok (.iconst 1, 1) := z_dd_4 (by decide +kernel)
theorem dL_law_1245 : decode cL_law 1245 = .ok (.iadd, 1) := z_dd_96 (by decide +kernel)
theorem dL_law_1246 : decode cL_law 1246 = .ok (.iaload, 1) := z_dd_46 (by decide +kernel)
theorem dL_law_1247 : decode cL_law 1247 = .ok (.aload_n 0, 1) := z_dd_42 (by decide +kernel)
theorem dL_law_1248 : decode cL_law 1248 = .ok (.iload_n 3, 1) := z_dd_29 (by decide +kernel)
theorem dL_law_1249 : decode cL_law 1249 = .ok (.iconst 2, 1) := z_dd_5 (by decide +kernel)
theorem dL_law_1250 : decode cL_law 1250 = .ok (.iadd, 1) := z_dd_96 (by decide +kernel)
theorem dL_law_1251 : decode cL_law 1251 = .ok (.iaload, 1) := z_dd_46 (by decide +kernel)
theorem dL_law_1252 : decode cL_law 1252 = .ok (.invokevirtual 140, 3) := z_dd_182 (by decide +kernel)
theorem dL_law_1255 : decode cL_law 1255 = .ok (.pop, 1) := z_dd_87 (by decide +kernel)
theorem dL_law_1256 : decode cL_law 1256 = .ok (.aload_n 2, 1) := z_dd_44 (by decide +kernel)
theorem dL_law_1257 : decode cL_law 1257 = .ok (.aload_n 0, 1) := z_dd_42 (by decide +kernel)
theorem dL_law_1258 : decode cL_law 1258 = .ok (.iload_n 3, 1) := z_dd_29 (by decide +kernel)
theorem dL_law_1259 : decode cL_law 1259 = .ok (.iconst 1, 1) := z_dd_4 (by decide +kernel)
theorem dL_law_1260 : decode cL_law 1260 = .ok (.iadd, 1) := z_dd_96 (by decide +kernel)
theorem dL_law_1261 : decode cL_law 1261 = .ok (.iaload, 1) := z_dd_46 (by decide +kernel)
theorem dL_law_1262 : decode cL_law 1262 = .ok (.aload_n 0, 1) := z_dd_42 (by decide +kernel)
theorem dL_law_1263 : decode cL_law 1263 = .ok (.iload_n 3, 1) := z_dd_29 (by decide +kernel)
theorem dL_law_1264 : decode cL_law 1264 = .ok (.iconst 2, 1) := z_dd_5 (by decide +kernel)
theorem dL_law_1265 : decode cL_law 1265 = .ok (.iadd, 1) := z_dd_96 (by decide +kernel)
theorem dL_law_1266 : decode cL_law 1266 = .ok (.iaload, 1) := z_dd_46 (by decide +kernel)
theorem dL_law_1267 : decode cL_law 1267 = .ok (.invokevirtual 143, 3) := z_dd_182 (by decide +kernel)
theorem dL_law_1270 : decode cL_law 1270 = .ok (.pop, 1) := z_dd_87 (by decide +kernel)
theorem dL_law_1271 : decode cL_law 1271 = .ok (.goto 237, 3) := z_dd_167 (by decide +kernel)
theorem dL_law_1274 : decode cL_law 1274 = .ok (.aload_n 1, 1) := z_dd_43 (by decide +kernel)
theorem dL_law_1275 : decode cL_law 1275 = .ok (.aload_n 0, 1) := z_dd_42 (by decide +kernel)
theorem dL_law_1276 : decode cL_law 1276 = .ok (.iload_n 3, 1) := z_dd_29 (by decide +kernel)
theorem dL_law_1277 : decode cL_law 1277 = .ok (.iconst 1, 1) := z_dd_4 (by decide +kernel)
theorem dL_law_1278 : decode cL_law 1278 = .ok (.iadd, 1) := z_dd_96 (by decide +kernel)
theorem dL_law_1279 : decode cL_law 1279 = .ok (.iaload, 1) := z_dd_46 (by decide +kernel)
theorem dL_law_1280 : decode cL_law 1280 = .ok (.aload_n 0, 1) := z_dd_42 (by decide +kernel)
theorem dL_law_1281 : decode cL_law 1281 = .ok (.iload_n 3, 1) := z_dd_29 (by decide +kernel)
theorem dL_law_1282 : decode cL_law 1282 = .ok (.iconst 2, 1) := z_dd_5 (by decide +kernel)
theorem dL_law_1283 : decode cL_law 1283 = .ok (.iadd, 1) := z_dd_96 (by decide +kernel)
theorem dL_law_1284 : decode cL_law 1284 = .ok (.iaload, 1) := z_dd_46 (by decide +kernel)
theorem dL_law_1285 : decode cL_law 1285 = .ok (.invokevirtual 144, 3) := z_dd_182 (by decide +kernel)
theorem dL_law_1288 : decode cL_law 1288 = .ok (.pop, 1) := z_dd_87 (by decide +kernel)
theorem dL_law_1289 : decode cL_law 1289 = .ok (.aload_n 2, 1) := z_dd_44 (by decide +kernel)
theorem dL_law_1290 : decode cL_law 1290 = .ok (.aload_n 0, 1) := z_dd_42 (by decide +kernel)
theorem dL_law_1291 : decode cL_law 1291 = .ok (.iload_n 3, 1) := z_dd_29 (by decide +kernel)
theorem dL_law_1292 : decode cL_law 1292 = .ok (.iconst 1, 1) := z_dd_4 (by decide +kernel)
theorem dL_law_1293 : decode cL_law 1293 = .ok (.iadd, 1) := z_dd_96 (by decide +kernel)
theorem dL_law_1294 : decode cL_law 1294 = .ok (.iaload, 1) := z_dd_46 (by decide +kernel)
theorem dL_law_1295 : decode cL_law 1295 = .ok (.aload_n 0, 1) := z_dd_42 (by decide +kernel)
theorem dL_law_1296 : decode cL_law 1296 = .ok (.iload_n 3, 1) := z_dd_29 (by decide +kernel)
theorem dL_law_1297 : decode cL_law 1297 = .ok (.iconst 2, 1) := z_dd_5 (by decide +kernel)
theorem dL_law_1298 : decode cL_law 1298 = .ok (.iadd, 1) := z_dd_96 (by decide +kernel)
theorem dL_law_1299 : decode cL_law 1299 = .ok (.iaload, 1) := z_dd_46 (by decide +kernel)
theorem dL_law_1300 : decode cL_law 1300 = .ok (.invokevirtual 147, 3) := z_dd_182 (by decide +kernel)
theorem dL_law_1303 : decode cL_law 1303 = .ok (.pop, 1) := z_dd_87 (z_b1_T (j := 23) (by decide +kernel))
theorem dL_law_1304 : decode cL_law 1304 = .ok (.goto 204, 3) := z_dd_167 (z_b3s_T (j := 24) (by decide +kernel))
theorem dL_law_1307 : decode cL_law 1307 = .ok (.aload_n 1, 1) := z_dd_43 (z_b1_T (j := 27) (by decide +kernel))
theorem dL_law_1308 : decode cL_law 1308 = .ok (.aload_n 0, 1) := z_dd_42 (z_b1_T (j := 28) (by decide +kernel))
theorem dL_law_1309 : decode cL_law 1309 = .ok (.iload_n 3, 1) := z_dd_29 (z_b1_T (j := 29) (by decide +kernel))
theorem dL_law_1310 : decode cL_law 1310 = .ok (.iconst 1, 1) := z_dd_4 (z_b1_T (j := 30) (by decide +kernel))
theorem dL_law_1311 : decode cL_law 1311 = .ok (.iadd, 1) := z_dd_96 (z_b1_T (j := 31) (by decide +kernel))
theorem dL_law_1312 : decode cL_law 1312 = .ok (.iaload, 1) := z_dd_46 (z_b1_T (j := 32) (by decide +kernel))
theorem dL_law_1313 : decode cL_law 1313 = .ok (.aload_n 0, 1) := z_dd_42 (z_b1_T (j := 33) (by decide +kernel))
theorem dL_law_1314 : decode cL_law 1314 = .ok (.iload_n 3, 1) := z_dd_29 (z_b1_T (j := 34) (by decide +kernel))
theorem dL_law_1315 : decode cL_law 1315 = .ok (.iconst 2, 1) := z_dd_5 (z_b1_T (j := 35) (by decide +kernel))
theorem dL_law_1316 : decode cL_law 1316 = .ok (.iadd, 1) := z_dd_96 (z_b1_T (j := 36) (by decide +kernel))
theorem dL_law_1317 : decode cL_law 1317 = .ok (.iaload, 1) := z_dd_46 (z_b1_T (j := 37) (by decide +kernel))
theorem dL_law_1318 : decode cL_law 1318 = .ok (.aload_n 0, 1) := z_dd_42 (z_b1_T (j := 38) (by decide +kernel))
theorem dL_law_1319 : decode cL_law 1319 = .ok (.iload_n 3, 1) := z_dd_29 (z_b1_T (j := 39) (by decide +kernel))
theorem dL_law_1320 : decode cL_law 1320 = .ok (.iconst 3, 1) := z_dd_6 (z_b1_T (j := 40) (by decide +kernel))
theorem dL_law_1321 : decode cL_law 1321 = .ok (.iadd, 1) := z_dd_96 (z_b1_T (j := 41) (by decide +kernel))
theorem dL_law_1322 : decode cL_law 1322 = .ok (.iaload, 1) := z_dd_46 (z_b1_T (j := 42) (by decide +kernel))
theorem dL_law_1323 : decode cL_law 1323 = .ok (.invokevirtual 148, 3) := z_dd_182 (z_b3_T (j := 43) (by decide +kernel))
theorem dL_law_1326 : decode cL_law 1326 = .ok (.pop, 1) := z_dd_87 (z_b1_T (j := 46) (by decide +kernel))
theorem dL_law_1327 : decode cL_law 1327 = .ok (.aload_n 2, 1) := z_dd_44 (z_b1_T (j := 47) (by decide +kernel))
theorem dL_law_1328 : decode cL_law 1328 = .ok (.aload_n 0, 1) := z_dd_42 (z_b1_T (j := 48) (by decide +kernel))
theorem dL_law_1329 : decode cL_law 1329 = .ok (.iload_n 3, 1) := z_dd_29 (z_b1_T (j := 49) (by decide +kernel))
theorem dL_law_1330 : decode cL_law 1330 = .ok (.iconst 1, 1) := z_dd_4 (z_b1_T (j := 50) (by decide +kernel))
theorem dL_law_1331 : decode cL_law 1331 = .ok (.iadd, 1) := z_dd_96 (z_b1_T (j := 51) (by decide +kernel))
theorem dL_law_1332 : decode cL_law 1332 = .ok (.iaload, 1) := z_dd_46 (z_b1_T (j := 52) (by decide +kernel))
theorem dL_law_1333 : decode cL_law 1333 = .ok (.aload_n 0, 1) := z_dd_42 (z_b1_T (j := 53) (by decide +kernel))
theorem dL_law_1334 : decode cL_law 1334 = .ok (.iload_n 3, 1) := z_dd_29 (z_b1_T (j := 54) (by decide +kernel))
theorem dL_law_1335 : decode cL_law 1335 = .ok (.iconst 2, 1) := z_dd_5 (z_b1_T (j := 55) (by decide +kernel))
theorem dL_law_1336 : decode cL_law 1336 = .ok (.iadd, 1) := z_dd_96 (z_b1_T (j := 56) (by decide +kernel))
theorem dL_law_1337 : decode cL_law 1337 = .ok (.iaload, 1) := z_dd_46 (z_b1_T (j := 57) (by decide +kernel))
theorem dL_law_1338 : decode cL_law 1338 = .ok (.aload_n 0, 1) := z_dd_42 (z_b1_T (j := 58) (by decide +kernel))
theorem dL_law_1339 : decode cL_law 1339 = .ok (.iload_n 3, 1) := z_dd_29 (z_b1_T (j := 59) (by decide +kernel))
theorem dL_law_1340 : decode cL_law 1340 = .ok (.iconst 3, 1) := z_dd_6 (z_b1_T (j := 60) (by decide +kernel))
theorem dL_law_1341 : decode cL_law 1341 = .ok (.iadd, 1) := z_dd_96 (z_b1_T (j := 61) (by decide +kernel))
theorem dL_law_1342 : decode cL_law 1342 = .ok (.iaload, 1) := z_dd_46 (z_b1_T (j := 62) (by decide +kernel))
theorem dL_law_1343 : decode cL_law 1343 = .ok (.invokevirtual 151, 3) := z_dd_182 (z_b3_T (j := 63) (by decide +kernel))
theorem dL_law_1346 : decode cL_law 1346 = .ok (.pop, 1) := z_dd_87 (z_b1_T (j := 66) (by decide +kernel))
theorem dL_law_1347 : decode cL_law 1347 = .ok (.goto 161, 3) := z_dd_167 (z_b3s_T (j := 67) (by decide +kernel))
theorem dL_law_1350 : decode cL_law 1350 = .ok (.aload_n 1, 1) := z_dd_43 (z_b1_T (j := 70) (by decide +kernel))
theorem dL_law_1351 : decode cL_law 1351 = .ok (.aload_n 0, 1) := z_dd_42 (z_b1_T (j := 71) (by decide +kernel))
theorem dL_law_1352 : decode cL_law 1352 = .ok (.iload_n 3, 1) := z_dd_29 (z_b1_T (j := 72) (by decide +kernel))
theorem dL_law_1353 : decode cL_law 1353 = .ok (.iconst 1, 1) := z_dd_4 (z_b1_T (j := 73) (by decide +kernel))
theorem dL_law_1354 : decode cL_law 1354 = .ok (.iadd, 1) := z_dd_96 (z_b1_T (j := 74) (by decide +kernel))
theorem dL_law_1355 : decode cL_law 1355 = .ok (.iaload, 1) := z_dd_46 (z_b1_T (j := 75) (by decide +kernel))
theorem dL_law_1356 : decode cL_law 1356 = .ok (.aload_n 0, 1) := z_dd_42 (z_b1_T (j := 76) (by decide +kernel))
theorem dL_law_1357 : decode cL_law 1357 = .ok (.iload_n 3, 1) := z_dd_29 (z_b1_T (j := 77) (by decide +kernel))
theorem dL_law_1358 : decode cL_law 1358 = .ok (.iconst 2, 1) := z_dd_5 (z_b1_T (j := 78) (by decide +kernel))
theorem dL_law_1359 : decode cL_law 1359 = .ok (.iadd, 1) := z_dd_96 (z_b1_T (j := 79) (by decide +kernel))
theorem dL_law_1360 : decode cL_law 1360 = .ok (.iaload, 1) := z_dd_46 (z_b1_T (j := 80) (by decide +kernel))
theorem dL_law_1361 : decode cL_law 1361 = .ok (.aload_n 0, 1) := z_dd_42 (z_b1_T (j := 81) (by decide +kernel))
theorem dL_law_1362 : decode cL_law 1362 = .ok (.iload_n 3, 1) := z_dd_29 (z_b1_T (j := 82) (by decide +kernel))
theorem dL_law_1363 : decode cL_law 1363 = .ok (.iconst 3, 1) := z_dd_6 (z_b1_T (j := 83) (by decide +kernel))
theorem dL_law_1364 : decode cL_law 1364 = .ok (.iadd, 1) := z_dd_96 (z_b1_T (j := 84) (by decide +kernel))
theorem dL_law_1365 : decode cL_law 1365 = .ok (.iaload, 1) := z_dd_46 (z_b1_T (j := 85) (by decide +kernel))
theorem dL_law_1366 : decode cL_law 1366 = .ok (.aload_n 0, 1) := z_dd_42 (z_b1_T (j := 86) (by decide +kernel))
theorem dL_law_1367 : decode cL_law 1367 = .ok (.iload_n 3, 1) := z_dd_29 (z_b1_T (j := 87) (by decide +kernel))
theorem dL_law_1368 : decode cL_law 1368 = .ok (.iconst 4, 1) := z_dd_7 (z_b1_T (j := 88) (by decide +kernel))
theorem dL_law_1369 : decode cL_law 1369 = .ok (.iadd, 1) := z_dd_96 (z_b1_T (j := 89) (by decide +kernel))
theorem dL_law_1370 : decode cL_law 1370 = .ok (.iaload, 1) := z_dd_46 (z_b1_T (j := 90) (by decide +kernel))
theorem dL_law_1371 : decode cL_law 1371 = .ok (.invokevirtual 152, 3) := z_dd_182 (z_b3_T (j := 91) (by decide +kernel))
theorem dL_law_1374 : decode cL_law 1374 = .ok (.pop, 1) := z_dd_87 (z_b1_T (j := 94) (by decide +kernel))
theorem dL_law_1375 : decode cL_law 1375 = .ok (.aload_n 2, 1) := z_dd_44 (z_b1_T (j := 95) (by decide +kernel))
theorem dL_law_1376 : decode cL_law 1376 = .ok (.aload_n 0, 1) := z_dd_42 (z_b1_T (j := 96) (by decide +kernel))
theorem dL_law_1377 : decode cL_law 1377 = .ok (.iload_n 3, 1) := z_dd_29 (z_b1_T (j := 97) (by decide +kernel))
theorem dL_law_1378 : decode cL_law 1378 = .ok (.iconst 1, 1) := z_dd_4 (z_b1_T (j := 98) (by decide +kernel))
theorem dL_law_1379 : decode cL_law 1379 = .ok (.iadd, 1) := z_dd_96 (z_b1_T (j := 99) (by decide +kernel))
theorem dL_law_1380 : decode cL_law 1380 = .ok (.iaload, 1) := z_dd_46 (z_b1_T (j := 100) (by decide +kernel))
theorem dL_law_1381 : decode cL_law 1381 = .ok (.aload_n 0, 1) := z_dd_42 (z_b1_T (j := 101) (by decide +kernel))
theorem dL_law_1382 : decode cL_law 1382 = .ok (.iload_n 3, 1) := z_dd_29 (z_b1_T (j := 102) (by decide +kernel))
theorem dL_law_1383 : decode cL_law 1383 = .ok (.iconst 2, 1) := z_dd_5 (z_b1_T (j := 103) (by decide +kernel))
theorem dL_law_1384 : decode cL_law 1384 = .ok (.iadd, 1) := z_dd_96 (z_b1_T (j := 104) (by decide +kernel))
theorem dL_law_1385 : decode cL_law 1385 = .ok (.iaload, 1) := z_dd_46 (z_b1_T (j := 105) (by decide +kernel))
theorem dL_law_1386 : decode cL_law 1386 = .ok (.aload_n 0, 1) := z_dd_42 (z_b1_T (j := 106) (by decide +kernel))
theorem dL_law_1387 : decode cL_law 1387 = .ok (.iload_n 3, 1) := z_dd_29 (z_b1_T (j := 107) (by decide +kernel))
theorem dL_law_1388 : decode cL_law 1388 = .ok (.iconst 3, 1) := z_dd_6 (z_b1_T (j := 108) (by decide +kernel))
theorem dL_law_1389 : decode cL_law 1389 = .ok (.iadd, 1) := z_dd_96 (z_b1_T (j := 109) (by decide +kernel))
theorem dL_law_1390 : decode cL_law 1390 = .ok (.iaload, 1) := z_dd_46 (z_b1_T (j := 110) (by decide +kernel))
theorem dL_law_1391 : decode cL_law 1391 = .ok (.aload_n 0, 1) := z_dd_42 (z_b1_T (j := 111) (by decide +kernel))
theorem dL_law_1392 : decode cL_law 1392 = .ok (.iload_n 3, 1) := z_dd_29 (z_b1_T (j := 112) (by decide +kernel))
theorem dL_law_1393 : decode cL_law 1393 = .ok (.iconst 4, 1) := z_dd_7 (z_b1_T (j := 113) (by decide +kernel))
theorem dL_law_1394 : decode cL_law 1394 = .ok (.iadd, 1) := z_dd_96 (z_b1_T (j := 114) (by decide +kernel))
theorem dL_law_1395 : decode cL_law 1395 = .ok (.iaload, 1) := z_dd_46 (z_b1_T (j := 115) (by decide +kernel))
theorem dL_law_1396 : decode cL_law 1396 = .ok (.invokevirtual 156, 3) := z_dd_182 (z_b3_T (j := 116) (by decide +kernel))
theorem dL_law_1399 : decode cL_law 1399 = .ok (.pop, 1) := z_dd_87 (z_b1_T (j := 119) (by decide +kernel))
theorem dL_law_1400 : decode cL_law 1400 = .ok (.goto 108, 3) := z_dd_167 (z_b3s_T (j := 120) (by decide +kernel))
theorem dL_law_1403 : decode cL_law 1403 = .ok (.aload_n 1, 1) := z_dd_43 (z_b1_T (j := 123) (by decide +kernel))
theorem dL_law_1404 : decode cL_law 1404 = .ok (.aload_n 0, 1) := z_dd_42 (z_b1_T (j := 124) (by decide +kernel))
theorem dL_law_1405 : decode cL_law 1405 = .ok (.iload_n 3, 1) := z_dd_29 (z_b1_T (j := 125) (by decide +kernel))
theorem dL_law_1406 : decode cL_law 1406 = .ok (.iconst 1, 1) := z_dd_4 (z_b1_T (j := 126) (by decide +kernel))
theorem dL_law_1407 : decode cL_law 1407 = .ok (.iadd, 1) := z_dd_96 (z_b1_T (j := 127) (by decide +kernel))
theorem dL_law_1408 : decode cL_law 1408 = .ok (.iaload, 1) := z_dd_46 (z_b1_T (j := 128) (by decide +kernel))
theorem dL_law_1409 : decode cL_law 1409 = .ok (.aload_n 0, 1) := z_dd_42 (z_b1_T (j := 129) (by decide +kernel))
theorem dL_law_1410 : decode cL_law 1410 = .ok (.iload_n 3, 1) := z_dd_29 (z_b1_T (j := 130) (by decide +kernel))
theorem dL_law_1411 : decode cL_law 1411 = .ok (.iconst 2, 1) := z_dd_5 (z_b1_T (j := 131) (by decide +kernel))
theorem dL_law_1412 : decode cL_law 1412 = .ok (.iadd, 1) := z_dd_96 (z_b1_T (j := 132) (by decide +kernel))
theorem dL_law_1413 : decode cL_law 1413 = .ok (.iaload, 1) := z_dd_46 (z_b1_T (j := 133) (by decide +kernel))
theorem dL_law_1414 : decode cL_law 1414 = .ok (.invokevirtual 157, 3) := z_dd_182 (z_b3_T (j := 134) (by decide +kernel))
theorem dL_law_1417 : decode cL_law 1417 = .ok (.pop, 1) := z_dd_87 (z_b1_T (j := 137) (by decide +kernel))
theorem dL_law_1418 : decode cL_law 1418 = .ok (.aload_n 2, 1) := z_dd_44 (z_b1_T (j := 138) (by decide +kernel))
theorem dL_law_1419 : decode cL_law 1419 = .ok (.aload_n 0, 1) := z_dd_42 (z_b1_T (j := 139) (by decide +kernel))
theorem dL_law_1420 : decode cL_law 1420 = .ok (.iload_n 3, 1) := z_dd_29 (z_b1_T (j := 140) (by decide +kernel))
theorem dL_law_1421 : decode cL_law 1421 = .ok (.iconst 1, 1) := z_dd_4 (z_b1_T (j := 141) (by decide +kernel))
theorem dL_law_1422 : decode cL_law 1422 = .ok (.iadd, 1) := z_dd_96 (z_b1_T (j := 142) (by decide +kernel))
theorem dL_law_1423 : decode cL_law 1423 = .ok (.iaload, 1) := z_dd_46 (z_b1_T (j := 143) (by decide +kernel))
theorem dL_law_1424 : decode cL_law 1424 = .ok (.aload_n 0, 1) := z_dd_42 (z_b1_T (j := 144) (by decide +kernel))
theorem dL_law_1425 : decode cL_law 1425 = .ok (.iload_n 3, 1) := z_dd_29 (z_b1_T (j := 145) (by decide +kernel))
theorem dL_law_1426 : decode cL_law 1426 = .ok (.iconst 2, 1) := z_dd_5 (z_b1_T (j := 146) (by decide +kernel))
theorem dL_law_1427 : decode cL_law 1427 = .ok (.iadd, 1) := z_dd_96 (z_b1_T (j := 147) (by decide +kernel))
theorem dL_law_1428 : decode cL_law 1428 = .ok (.iaload, 1) := z_dd_46 (z_b1_T (j := 148) (by decide +kernel))
theorem dL_law_1429 : decode cL_law 1429 = .ok (.invokevirtual 160, 3) := z_dd_182 (z_b3_T (j := 149) (by decide +kernel))
theorem dL_law_1432 : decode cL_law 1432 = .ok (.pop, 1) := z_dd_87 (z_b1_T (j := 152) (by decide +kernel))
theorem dL_law_1433 : decode cL_law 1433 = .ok (.goto 75, 3) := z_dd_167 (z_b3s_T (j := 153) (by decide +kernel))
theorem dL_law_1436 : decode cL_law 1436 = .ok (.aload_n 1, 1) := z_dd_43 (z_b1_T (j := 156) (by decide +kernel))
theorem dL_law_1437 : decode cL_law 1437 = .ok (.aload_n 0, 1) := z_dd_42 (z_b1_T (j := 157) (by decide +kernel))
theorem dL_law_1438 : decode cL_law 1438 = .ok (.iload_n 3, 1) := z_dd_29 (z_b1_T (j := 158) (by decide +kernel))
theorem dL_law_1439 : decode cL_law 1439 = .ok (.iconst 1, 1) := z_dd_4 (z_b1_T (j := 159) (by decide +kernel))
theorem dL_law_1440 : decode cL_law 1440 = .ok (.iadd, 1) := z_dd_96 (z_b1_T (j := 160) (by decide +kernel))
theorem dL_law_1441 : decode cL_law 1441 = .ok (.iaload, 1) := z_dd_46 (z_b1_T (j := 161) (by decide +kernel))
theorem dL_law_1442 : decode cL_law 1442 = .ok (.aload_n 0, 1) := z_dd_42 (z_b1_T (j := 162) (by decide +kernel))
theorem dL_law_1443 : decode cL_law 1443 = .ok (.iload_n 3, 1) := z_dd_29 (z_b1_T (j := 163) (by decide +kernel))
theorem dL_law_1444 : decode cL_law 1444 = .ok (.iconst 2, 1) := z_dd_5 (z_b1_T (j := 164) (by decide +kernel))
theorem dL_law_1445 : decode cL_law 1445 = .ok (.iadd, 1) := z_dd_96 (z_b1_T (j := 165) (by decide +kernel))
theorem dL_law_1446 : decode cL_law 1446 = .ok (.iaload, 1) := z_dd_46 (z_b1_T (j := 166) (by decide +kernel))
theorem dL_law_1447 : decode cL_law 1447 = .ok (.ifCond .eq 7, 3) := z_dd_153 (z_b3s_T (j := 167) (by decide +kernel))
theorem dL_law_1454 : decode cL_law 1454 = .ok (.iconst 0, 1) := z_dd_3 (z_b1_T (j := 174) (by decide +kernel))
theorem dL_law_1455 : decode cL_law 1455 = .ok (.invokevirtual 161, 3) := z_dd_182 (z_b3_T (j := 175) (by decide +kernel))
theorem dL_law_1458 : decode cL_law 1458 = .ok (.pop, 1) := z_dd_87 (z_b1_T (j := 178) (by decide +kernel))
theorem dL_law_1459 : decode cL_law 1459 = .ok (.aload_n 2, 1) := z_dd_44 (z_b1_T (j := 179) (by decide +kernel))
theorem dL_law_1460 : decode cL_law 1460 = .ok (.aload_n 0, 1) := z_dd_42 (z_b1_T (j := 180) (by decide +kernel))
theorem dL_law_1461 : decode cL_law 1461 = .ok (.iload_n 3, 1) := z_dd_29 (z_b1_T (j := 181) (by decide +kernel))
theorem dL_law_1462 : decode cL_law 1462 = .ok (.iconst 1, 1) := z_dd_4 (z_b1_T (j := 182) (by decide +kernel))
theorem dL_law_1463 : decode cL_law 1463 = .ok (.iadd, 1) := z_dd_96 (z_b1_T (j := 183) (by decide +kernel))
theorem dL_law_1464 : decode cL_law 1464 = .ok (.iaload, 1) := z_dd_46 (z_b1_T (j := 184) (by decide +kernel))
theorem dL_law_1465 : decode cL_law 1465 = .ok (.aload_n 0, 1) := z_dd_42 (z_b1_T (j := 185) (by decide +kernel))
theorem dL_law_1466 : decode cL_law 1466 = .ok (.iload_n 3, 1) := z_dd_29 (z_b1_T (j := 186) (by decide +kernel))
theorem dL_law_1467 : decode cL_law 1467 = .ok (.iconst 2, 1) := z_dd_5 (z_b1_T (j := 187) (by decide +kernel))
theorem dL_law_1468 : decode cL_law 1468 = .ok (.iadd, 1) := z_dd_96 (z_b1_T (j := 188) (by decide +kernel))
theorem dL_law_1469 : decode cL_law 1469 = .ok (.iaload, 1) := z_dd_46 (z_b1_T (j := 189) (by decide +kernel))
theorem dL_law_1470 : decode cL_law 1470 = .ok (.ifCond .eq 7, 3) := z_dd_153 (z_b3s_T (j := 190) (by decide +kernel))
theorem dL_law_1477 : decode cL_law 1477 = .ok (.iconst 0, 1) := z_dd_3 (z_b1_T (j := 197) (by decide +kernel))
theorem dL_law_1478 : decode cL_law 1478 = .ok (.invokevirtual 165, 3) := z_dd_182 (z_b3_T (j := 198) (by decide +kernel))
theorem dL_law_1481 : decode cL_law 1481 = .ok (.pop, 1) := z_dd_87 (z_b1_T (j := 201) (by decide +kernel))
theorem dL_law_1482 : decode cL_law 1482 = .ok (.goto 26, 3) := z_dd_167 (z_b3s_T (j := 202) (by decide +kernel))
theorem dL_law_1473 : decode cL_law 1473 = .ok (.iconst 1, 1) := z_dd_4 (z_b1_T (j := 193) (by decide +kernel))
theorem dL_law_1474 : decode cL_law 1474 = .ok (.goto 4, 3) := z_dd_167 (z_b3s_T (j := 194) (by decide +kernel))
theorem dL_law_1450 : decode cL_law 1450 = .ok (.iconst 1, 1) := z_dd_4 (z_b1_T (j := 170) (by decide +kernel))
theorem dL_law_1451 : decode cL_law 1451 = .ok (.goto 4, 3) := z_dd_167 (z_b3s_T (j := 171) (by decide +kernel))
theorem dL_law_1485 : decode cL_law 1485 = .ok (.aload_n 1, 1) := z_dd_43 (z_b1_T (j := 205) (by decide +kernel))
theorem dL_law_1486 : decode cL_law 1486 = .ok (.aload_n 0, 1) := z_dd_42 (z_b1_T (j := 206) (by decide +kernel))
theorem dL_law_1487 : decode cL_law 1487 = .ok (.iload_n 3, 1) := z_dd_29 (z_b1_T (j := 207) (by decide +kernel))
theorem dL_law_1488 : decode cL_law 1488 = .ok (.iconst 1, 1) := z_dd_4 (z_b1_T (j := 208) (by decide +kernel))
theorem dL_law_1489 : decode cL_law 1489 = .ok (.iadd, 1) := z_dd_96 (z_b1_T (j := 209) (by decide +kernel))
theorem dL_law_1490 : decode cL_law 1490 = .ok (.iaload, 1) := z_dd_46 (z_b1_T (j := 210) (by decide +kernel))
theorem dL_law_1491 : decode cL_law 1491 = .ok (.invokevirtual 166, 3) := z_dd_182 (z_b3_T (j := 211) (by decide +kernel))
theorem dL_law_1494 : decode cL_law 1494 = .ok (.pop, 1) := z_dd_87 (z_b1_T (j := 214) (by decide +kernel))
theorem dL_law_1495 : decode cL_law 1495 = .ok (.aload_n 2, 1) := z_dd_44 (z_b1_T (j := 215) (by decide +kernel))
theorem dL_law_1496 : decode cL_law 1496 = .ok (.aload_n 0, 1) := z_dd_42 (z_b1_T (j := 216) (by decide +kernel))
theorem dL_law_1497 : decode cL_law 1497 = .ok (.iload_n 3, 1) := z_dd_29 (z_b1_T (j := 217) (by decide +kernel))
theorem dL_law_1498 : decode cL_law 1498 = .ok (.iconst 1, 1) := z_dd_4 (z_b1_T (j := 218) (by decide +kernel))
theorem dL_law_1499 : decode cL_law 1499 = .ok (.iadd, 1) := z_dd_96 (z_b1_T (j := 219) (by decide +kernel))
theorem dL_law_1500 : decode cL_law 1500 = .ok (.iaload, 1) := z_dd_46 (z_b1_T (j := 220) (by decide +kernel))
theorem dL_law_1501 : decode cL_law 1501 = .ok (.invokevirtual 169, 3) := z_dd_182 (z_b3_T (j := 221) (by decide +kernel))
theorem dL_law_1504 : decode cL_law 1504 = .ok (.pop, 1) := z_dd_87 (z_b1_T (j := 224) (by decide +kernel))
theorem dL_law_1505 : decode cL_law 1505 = .ok (.goto 3, 3) := z_dd_167 (z_b3s_T (j := 225) (by decide +kernel))

set_option maxHeartbeats 8000000 in
set_option maxRecDepth 100000 in
theorem lc_24 {p : Program} {e : Env} {s : State} {m : MethodId} {below : List Frame} {meth : Method} {c0 : Code} {b L : Nat} {xs : Nat → Int32} (l : Launch) {G : z_G} {A : Nat → Prop} {adK adV : Nat → Nat} (hK : z_K G s) (hA : ∀ q : Nat, s.heap.size ≤ q → A q) (hAi : ∀ q : Nat, A q → s.heap.size ≤ q) (hSt : z_St A s s.heap) (hKn : z_Cq adK adV A s s.heap) (hL : L ≤ 3584) (C0 : lw_At p s m meth c0 b L xs) {c : z_C} {ad adM : Nat → Nat} {Ix Im : z_I} {Jm : z_J} (hLX : z_LX c Ix) (hLM : z_LM Im) (htd : z_EQ Ix Im) {H : Heap} {locs : List Loc} {ls : Array Slot} (hWX : z_W G A (shC c, ad, Ix, JX, PC c ad) H) (hWM : z_W G A (shM, adM, Im, Jm, PM adM) H) (hap : ∀ i j, shC c i ≠ none → shM j ≠ none → ad i ≠ adM j) (hS : va_S A s.heap H locs) {i : Int32} (hi0 : 0 ≤ i.toInt) (hiL : i.toInt + 7 ≤ (L : Int)) (hl : lv_has ls 4 [(3, .int i), (2, .ref (adM 0)), (1, .ref (ad 0)), (0, .ref b)]) {cells slots : Nat} (hce : cells + 8 ≤ 600000) (hsl : slots + 2006 ≤ 7302250) (kk : ∀ (c : z_C) (ad : Nat → Nat) (Ix Im : z_I) (Jm : z_J) (H : Heap) (locs : List Loc) (ls : Array Slot), z_LX c Ix → z_LM Im → z_EQ Ix Im → z_W G A (shC c, ad, Ix, JX, PC c ad) H → z_W G A (shM, adM, Im, Jm, PM adM) H → (∀ i j, shC c i ≠ none → shM j ≠ none → ad i ≠ adM j) → va_S A s.heap H locs → lv_has ls 4 [(3, .int i), (2, .ref (adM 0)), (1, .ref (ad 0)), (0, .ref b)] → W p l e room_1 s m #[Value.ref b] below meth c0 H locs (cells + 8) (slots + 2006) (lw_Z below #[Value.ref b] s) (F0 m 1508 ls [])) : W p l e room_1 s m #[Value.ref b] below meth c0 H locs (cells) (slots) (lw_Z below #[Value.ref b] s) (F0 m 1034 ls []) := by
  obtain ⟨hx, hb, hr, hml, hown, hts0, hX, hbl, hlocks, hgv⟩ := id C0
  have hown : s.vm.findClass RL = some m.cls := hown
  have hts : ∀ w ∈ wsL_law, w.before #[Value.ref b] s = true := fun w hw => hts0 w (wsL_law_in w hw)
  have hbA : ¬ A b := fun h => absurd (hAi b h) (Nat.not_le.mpr hbl)
  have hLi : (L : Int) ≤ 3584 := by omega
  refine lv_aload_n hx hb dL_law_1034 rfl (lv_at hl 2 rfl) ?_
  refine lv_aload_n hx hb dL_law_1035 rfl (lv_at hl 3 rfl) ?_
  refine lv_iload_n hx hb dL_law_1036 rfl (lv_at hl 0 rfl) ?_
  refine lv_iconst (v := 1) hx hb dL_law_1037 (by decide) ?_
  refine lv_iadd hx hb dL_law_1038 ?_
  refine lv_topi (fun x1 ex1 => ?_)
  have tx1 : x1.toInt = i.toInt + 1 := z_tadd ex1 rfl z_l1 (by omega) (by omega)
  refine va_sld hx hb hX hbl hbA hS (z_ix rfl (by omega) (by omega)) dL_law_1039 ?_
  refine lv_topi (fun x2 ex2 => ?_)
  refine z_ciD hWX hWM hap hS hA (va_runV (As := [.int x2]) (rest := []) ⟨hx, hb, hml, hown, hts0⟩ (sx_X11_port l G ad c Ix hLX.2.2.2.2.2.1 x2 hLX.2.2.2.2.2.2.2.2.2.1 hLX.2.2.2.2.2.2.2.2.2.2.1 _) (cwV 1 hts0 gV_X11_port rfl rfl rfl (by decide +kernel) ⟨(Nat.le_of_ble_eq_true rfl), (Nat.le_of_ble_eq_true rfl)⟩) (z_preV (i := 0) hK hWX rfl rfl) rfl rfl hl.1 rfl (lv_room (Nat.le_of_ble_eq_true rfl)) dL_law_1040 ⟨(by show cells + 0 ≤ 600000; omega), (by show slots + 0 ≤ 7302250; omega)⟩) (fun r u1 H locs hp hWX hWM hap hS => ?_)
  obtain ⟨I3, rfl, p5, p6⟩ := hp
  have hLXI3 : z_LX c I3 := ⟨⟨(by show 0 ≤ (I3 1 5).toInt ∧ (I3 1 5).toInt ≤ 30; rw [p6 1 5 (by decide)]; exact hLX.1.1), (by show 0 ≤ (I3 1 11).toInt ∧ (I3 1 11).toInt ≤ 200; rw [p6 1 11 (by decide)]; exact hLX.1.2)⟩, ⟨(by show 0 ≤ (I3 12 1).toInt ∧ (I3 12 1).toInt ≤ 500; rw [p6 12 1 (by decide)]; exact hLX.2.1.1), (by show 0 ≤ (I3 12 5).toInt ∧ (I3 12 5).toInt ≤ 501; rw [p6 12 5 (by decide)]; exact hLX.2.1.2.1), (by show (-1) ≤ (I3 12 6).toInt ∧ (I3 12 6).toInt ≤ 1000000; rw [p6 12 6 (by decide)]; exact hLX.2.1.2.2.1), (by show 0 ≤ (I3 12 9).toInt ∧ (I3 12 9).toInt ≤ 500; rw [p6 12 9 (by decide)]; exact hLX.2.1.2.2.2.1), (by show 0 ≤ (I3 12 13).toInt ∧ (I3 12 13).toInt ≤ 24; rw [p6 12 13 (by decide)]; exact hLX.2.1.2.2.2.2)⟩, (by show 0 ≤ (I3 21 2).toInt ∧ (I3 21 2).toInt ≤ 12; rw [p6 21 2 (by decide)]; exact hLX.2.2.1), (by show 0 ≤ (I3 26 4).toInt ∧ (I3 26 4).toInt ≤ 512; rw [p6 26 4 (by decide)]; exact hLX.2.2.2.1), (by show 0 ≤ (I3 30 8).toInt ∧ (I3 30 8).toInt ≤ 300; rw [p6 30 8 (by decide)]; exact hLX.2.2.2.2.1), p5, ⟨(by show 0 ≤ (I3 60 9).toInt ∧ (I3 60 9).toInt ≤ 60; rw [p6 60 9 (by decide)]; exact hLX.2.2.2.2.2.2.1.1), (by show 0 ≤ (I3 60 12).toInt ∧ (I3 60 12).toInt ≤ 12; rw [p6 60 12 (by decide)]; exact hLX.2.2.2.2.2.2.1.2)⟩, (by show 0 ≤ (I3 72 2).toInt ∧ (I3 72 2).toInt ≤ 30; rw [p6 72 2 (by decide)]; exact hLX.2.2.2.2.2.2.2.1), ⟨(by show 0 ≤ (I3 0 0).toInt ∧ (I3 0 0).toInt ≤ 719; rw [p6 0 0 (by decide)]; exact hLX.2.2.2.2.2.2.2.2.1.1), (by show 0 ≤ (I3 0 8).toInt ∧ (I3 0 8).toInt ≤ 10; rw [p6 0 8 (by decide)]; exact hLX.2.2.2.2.2.2.2.2.1.2)⟩, hLX.2.2.2.2.2.2.2.2.2.1, hLX.2.2.2.2.2.2.2.2.2.2.1, (z_iS_fr hLX.2.2.2.2.2.2.2.2.2.2.2.1 p6 (by decide)), (by rw [p6 0 8 (by decide)]; exact hLX.2.2.2.2.2.2.2.2.2.2.2.2.1), (by rw [p6 21 2 (by decide)]; exact hLX.2.2.2.2.2.2.2.2.2.2.2.2.2)⟩
  refine lv_topi (fun x7 ex7 => ?_)
  refine lv_pop hx hb dL_law_1043 rfl ?_
  refine lv_aload_n hx hb dL_law_1044 rfl (lv_at hl 1 rfl) ?_
  refine lv_aload_n hx hb dL_law_1045 rfl (lv_at hl 3 rfl) ?_
  refine lv_iload_n hx hb dL_law_1046 rfl (lv_at hl 0 rfl) ?_
  refine lv_iconst (v := 1) hx hb dL_law_1047 (by decide) ?_
  refine lv_iadd hx hb dL_law_1048 ?_
  refine lv_topi (fun x8 ex8 => ?_)
  have tx8 : x8.toInt = i.toInt + 1 := z_tadd ex8 rfl z_l1 (by omega) (by omega)
  refine va_sld hx hb hX hbl hbA hS (z_ix rfl (by omega) (by omega)) dL_law_1049 ?_
  refine lv_topi (fun x9 ex9 => ?_)
  refine z_ciD hWM hWX (fun i j hi hj e => hap j i hj hi e.symm) hS hA (va_runV (As := [.int x9]) (rest := []) ⟨hx, hb, hml, hown, hts0⟩ (sx_X12_port2 l G adM Im Jm hLM.2.2.2.2.2.2.2.2.1 hLM.2.2.2.2.2.2.2.2.2.2.2.2.2.2.2.2.2.2.2.2.2.2.1 x9 _) (cwV 1 hts0 gV_X12_port rfl rfl rfl (by decide +kernel) ⟨(Nat.le_of_ble_eq_true rfl), (Nat.le_of_ble_eq_true rfl)⟩) (z_preV (i := 0) hK hWM rfl rfl) rfl rfl hl.1 rfl (lv_room (Nat.le_of_ble_eq_true rfl)) dL_law_1050 ⟨(by show cells + 0 + 0 ≤ 600000; omega), (by show slots + 0 + 0 ≤ 7302250; omega)⟩) (fun r u1 H locs hp hWM hWX hapn hS => ?_)
  obtain ⟨I10, J11, rfl, p12, p13, p14⟩ := hp
  have hLMI10 : z_LM I10 := ⟨⟨(by show 0 ≤ (I10 0 0).toInt ∧ (I10 0 0).toInt ≤ 719; rw [p14 0 0 (by decide)]; exact hLM.1.1), (by show 0 ≤ (I10 0 1).toInt ∧ (I10 0 1).toInt ≤ 30; rw [p14 0 1 (by decide)]; exact hLM.1.2.1), (by show 0 ≤ (I10 0 2).toInt ∧ (I10 0 2).toInt ≤ 200; rw [p14 0 2 (by decide)]; exact hLM.1.2.2)⟩, ⟨(by show 0 ≤ (I10 0 13).toInt ∧ (I10 0 13).toInt ≤ 12; rw [p14 0 13 (by decide)]; exact hLM.2.1.1), (by show 0 ≤ (I10 0 14).toInt ∧ (I10 0 14).toInt ≤ 288; rw [p14 0 14 (by decide)]; exact hLM.2.1.2)⟩, (by show 0 ≤ (I10 0 15).toInt ∧ (I10 0 15).toInt ≤ 6100; rw [p14 0 15 (by decide)]; exact hLM.2.2.1), ⟨(by show 0 ≤ (I10 0 31).toInt ∧ (I10 0 31).toInt ≤ 500; rw [p14 0 31 (by decide)]; exact hLM.2.2.2.1.1), (by show 0 ≤ (I10 0 33).toInt ∧ (I10 0 33).toInt ≤ 500; rw [p14 0 33 (by decide)]; exact hLM.2.2.2.1.2.1), (by show 0 ≤ (I10 0 34).toInt ∧ (I10 0 34).toInt ≤ 500; rw [p14 0 34 (by decide)]; exact hLM.2.2.2.1.2.2.1), (by show 0 ≤ (I10 0 35).toInt ∧ (I10 0 35).toInt ≤ 500; rw [p14 0 35 (by decide)]; exact hLM.2.2.2.1.2.2.2)⟩, ⟨(by show 0 ≤ (I10 0 36).toInt ∧ (I10 0 36).toInt ≤ 4; rw [p14 0 36 (by decide)]; exact hLM.2.2.2.2.1.1), (by show 0 ≤ (I10 0 42).toInt ∧ (I10 0 42).toInt ≤ 1; rw [p14 0 42 (by decide)]; exact hLM.2.2.2.2.1.2)⟩, ⟨(by show 0 ≤ (I10 0 47).toInt ∧ (I10 0 47).toInt ≤ 119; rw [p14 0 47 (by decide)]; exact hLM.2.2.2.2.2.1.1), (by show 0 ≤ (I10 0 39).toInt ∧ (I10 0 39).toInt ≤ 100; rw [p14 0 39 (by decide)]; exact hLM.2.2.2.2.2.1.2)⟩, (by show 0 ≤ (I10 0 40).toInt ∧ (I10 0 40).toInt ≤ 6199; rw [p14 0 40 (by decide)]; exact hLM.2.2.2.2.2.2.1), ⟨(by show 0 ≤ (I10 0 54).toInt ∧ (I10 0 54).toInt ≤ 10; rw [p14 0 54 (by decide)]; exact hLM.2.2.2.2.2.2.2.1.1), (by show 0 ≤ (I10 0 55).toInt ∧ (I10 0 55).toInt ≤ 300; rw [p14 0 55 (by decide)]; exact hLM.2.2.2.2.2.2.2.1.2)⟩, p12, (by show 0 ≤ (I10 0 83).toInt ∧ (I10 0 83).toInt ≤ 60; rw [p14 0 83 (by decide)]; exact hLM.2.2.2.2.2.2.2.2.2.1), (z_rg_fr hLM.2.2.2.2.2.2.2.2.2.2.1 p14 (by decide)), (z_rg_fr hLM.2.2.2.2.2.2.2.2.2.2.2.1 p14 (by decide)), (z_rg_fr hLM.2.2.2.2.2.2.2.2.2.2.2.2.1 p14 (by decide)), (z_rg_fr hLM.2.2.2.2.2.2.2.2.2.2.2.2.2.1 p14 (by decide)), (z_rg_fr hLM.2.2.2.2.2.2.2.2.2.2.2.2.2.2.1 p14 (by decide)), (z_rg_fr hLM.2.2.2.2.2.2.2.2.2.2.2.2.2.2.2.1 p14 (by decide)), (z_rg_fr hLM.2.2.2.2.2.2.2.2.2.2.2.2.2.2.2.2.1 p14 (by decide)), (z_rg_fr hLM.2.2.2.2.2.2.2.2.2.2.2.2.2.2.2.2.2.1 p14 (by decide)), (z_rg_fr hLM.2.2.2.2.2.2.2.2.2.2.2.2.2.2.2.2.2.2.1 p14 (by decide)), (z_rg_fr hLM.2.2.2.2.2.2.2.2.2.2.2.2.2.2.2.2.2.2.2.1 p14 (by decide)), (z_Nd_fr hLM.2.2.2.2.2.2.2.2.2.2.2.2.2.2.2.2.2.2.2.2.1 p14 (by decide)), (z_Ex_fr hLM.2.2.2.2.2.2.2.2.2.2.2.2.2.2.2.2.2.2.2.2.2.1 p14 (by decide)), p13, (z_rg_fr hLM.2.2.2.2.2.2.2.2.2.2.2.2.2.2.2.2.2.2.2.2.2.2.2.1 p14 (by decide)), (z_rg_fr hLM.2.2.2.2.2.2.2.2.2.2.2.2.2.2.2.2.2.2.2.2.2.2.2.2.1 p14 (by decide)), (z_rg_fr hLM.2.2.2.2.2.2.2.2.2.2.2.2.2.2.2.2.2.2.2.2.2.2.2.2.2.1 p14 (by decide)), (z_rg_fr hLM.2.2.2.2.2.2.2.2.2.2.2.2.2.2.2.2.2.2.2.2.2.2.2.2.2.2.1 p14 (by decide)), (z_rg_fr hLM.2.2.2.2.2.2.2.2.2.2.2.2.2.2.2.2.2.2.2.2.2.2.2.2.2.2.2.1 p14 (by decide)), (z_rg_fr hLM.2.2.2.2.2.2.2.2.2.2.2.2.2.2.2.2.2.2.2.2.2.2.2.2.2.2.2.2.1 p14 (by decide)), (by unfold z_iro; rw [p14 0 13 (by decide), p14 0 14 (by decide), p14 0 15 (by decide)]; exact hLM.2.2.2.2.2.2.2.2.2.2.2.2.2.2.2.2.2.2.2.2.2.2.2.2.2.2.2.2.2)⟩
  have hap := fun i j hi hj e => hapn j i hj hi (Eq.symm e)
  refine lv_topi (fun x15 ex15 => ?_)
  refine lv_pop hx hb dL_law_1053 rfl ?_
  refine lv_goto (tgt := 1508) hx hb dL_law_1054 (by decide) ?_
  have hEQ9 : z_EQ I3 I10 := ⟨(by rw [p6 0 0 (by decide), p14 0 0 (by decide)]; exact htd.1), (by rw [p6 1 5 (by decide), p14 0 1 (by decide)]; exact htd.2.1), (by rw [p6 60 9 (by decide), p14 0 83 (by decide)]; exact htd.2.2)⟩
  refine W.widen (k := cells + 8) (n := slots + 2006) (by omega) (by omega) ?_
  exact kk c ad I3 I10 J11 _ _ _ hLXI3 hLMI10 hEQ9 hWX hWM hap hS (lv_sub hl [0, 1, 2, 3] rfl)
set_option maxHeartbeats 8000000 in
set_option maxRecDepth 100000 in
theorem lc_25 {p : Program} {e : Env} {s : State} {m : MethodId} {below : List Frame} {meth : Method} {c0 : Code} {b L : Nat} {xs : Nat → Int32} (l : Launch) {G : z_G} {A : Nat → Prop} {adK adV : Nat → Nat} (hK : z_K G s) (hA : ∀ q : Nat, s.heap.size ≤ q → A q) (hAi : ∀ q : Nat, A q → s.heap.size ≤ q) (hSt : z_St A s s.heap) (hKn : z_Cq adK adV A s s.heap) (hL : L ≤ 3584) (C0 : lw_At p s m meth c0 b L xs) {c : z_C} {ad adM : Nat → Nat} {Ix Im : z_I} {Jm : z_J} (hLX : z_LX c Ix) (hLM : z_LM Im) (htd : z_EQ Ix Im) {H : Heap} {locs : List Loc} {ls : Array Slot} (hWX : z_W G A (shC c, ad, Ix, JX, PC c ad) H) (hWM : z_W G A (shM, adM, Im, Jm, PM adM) H) (hap : ∀ i j, shC c i ≠ none → shM j ≠ none → ad i ≠ adM j) (hS : va_S A s.heap H locs) {i : Int32} (hi0 : 0 ≤ i.toInt) (hiL : i.toInt + 7 ≤ (L : Int)) (hl : lv_has ls 4 [(3, .int i), (2, .ref (adM 0)), (1, .ref (ad 0)), (0, .ref b)]) {cells slots : Nat} (hce : cells + 8 ≤ 600000) (hsl : slots + 2006 ≤ 7302250) (kk : ∀ (c : z_C) (ad : Nat → Nat) (Ix Im : z_I) (Jm : z_J) (H : Heap) (locs : List Loc) (ls : Array Slot), z_LX c Ix → z_LM Im → z_EQ Ix Im → z_W G A (shC c, ad, Ix, JX, PC c ad) H → z_W G A (shM, adM, Im, Jm, PM adM) H → (∀ i j, shC c i ≠ none → shM j ≠ none → ad i ≠ adM j) → va_S A s.heap H locs → lv_has ls 4 [(3, .int i), (2, .ref (adM 0)), (1, .ref (ad 0)), (0, .ref b)] → W p l e room_1 s m #[Value.ref b] below meth c0 H locs (cells + 8) (slots + 2006) (lw_Z below #[Value.ref b] s) (F0 m 1508 ls [])) : W p l e room_1 s m #[Value.ref b] below meth c0 H locs (cells) (slots) (lw_Z below #[Value.ref b] s) (F0 m 1057 ls []) := by
  obtain ⟨hx, hb, hr, hml, hown, hts0, hX, hbl, hlocks, hgv⟩ := id C0
  have hown : s.vm.findClass RL = some m.cls := hown
  have hts : ∀ w ∈ wsL_law, w.before #[Value.ref b] s = true := fun w hw => hts0 w (wsL_law_in w hw)
  have hbA : ¬ A b := fun h => absurd (hAi b h) (Nat.not_le.mpr hbl)
  have hLi : (L : Int) ≤ 3584 := by omega
  refine lv_aload_n hx hb dL_law_1057 rfl (lv_at hl 2 rfl) ?_
  refine lv_aload_n hx hb dL_law_1058 rfl (lv_at hl 3 rfl) ?_
  refine lv_iload_n hx hb dL_law_1059 rfl (lv_at hl 0 rfl) ?_
  refine lv_iconst (v := 1) hx hb dL_law_1060 (by decide) ?_
  refine lv_iadd hx hb dL_law_1061 ?_
  refine lv_topi (fun x1 ex1 => ?_)
  have tx1 : x1.toInt = i.toInt + 1 := z_tadd ex1 rfl z_l1 (by omega) (by omega)
  refine va_sld hx hb hX hbl hbA hS (z_ix rfl (by omega) (by omega)) dL_law_1062 ?_
  refine lv_topi (fun x2 ex2 => ?_)
  refine lv_aload_n hx hb dL_law_1063 rfl (lv_at hl 3 rfl) ?_
  refine lv_iload_n hx hb dL_law_1064 rfl (lv_at hl 0 rfl) ?_
  refine lv_iconst (v := 2) hx hb dL_law_1065 (by decide) ?_
  refine lv_iadd hx hb dL_law_1066 ?_
  refine lv_topi (fun x3 ex3 => ?_)
  have tx3 : x3.toInt = i.toInt + 2 := z_tadd ex3 rfl z_l2 (by omega) (by omega)
  refine va_sld hx hb hX hbl hbA hS (z_ix rfl (by omega) (by omega)) dL_law_1067 ?_
  refine lv_topi (fun x4 ex4 => ?_)
  refine z_ciD hWX hWM hap hS hA (va_runV (As := [.int x2, .int x4]) (rest := []) ⟨hx, hb, hml, hown, hts0⟩ (sx_X11_want l G ad c Ix hLX.2.2.2.2.2.2.2.2.1 x2 x4 hLX.2.2.2.2.2.2.2.2.2.1 hLX.2.2.2.2.2.2.2.2.2.2.1 _) (cwV 2 hts0 gV_X11_want rfl rfl rfl (by decide +kernel) ⟨(Nat.le_of_ble_eq_true rfl), (Nat.le_of_ble_eq_true rfl)⟩) (z_preV (i := 0) hK hWX rfl rfl) rfl rfl hl.1 rfl (lv_room (Nat.le_of_ble_eq_true rfl)) dL_law_1068 ⟨(by show cells + 0 ≤ 600000; omega), (by show slots + 0 ≤ 7302250; omega)⟩) (fun r u1 H locs hp hWX hWM hap hS => ?_)
  obtain ⟨I5, rfl, p7, p8, p9⟩ := hp
  have hLXI5 : z_LX c I5 := ⟨⟨(by show 0 ≤ (I5 1 5).toInt ∧ (I5 1 5).toInt ≤ 30; rw [p8 1 5 (by decide)]; exact hLX.1.1), (by show 0 ≤ (I5 1 11).toInt ∧ (I5 1 11).toInt ≤ 200; rw [p8 1 11 (by decide)]; exact hLX.1.2)⟩, ⟨(by show 0 ≤ (I5 12 1).toInt ∧ (I5 12 1).toInt ≤ 500; rw [p8 12 1 (by decide)]; exact hLX.2.1.1), (by show 0 ≤ (I5 12 5).toInt ∧ (I5 12 5).toInt ≤ 501; rw [p8 12 5 (by decide)]; exact hLX.2.1.2.1), (by show (-1) ≤ (I5 12 6).toInt ∧ (I5 12 6).toInt ≤ 1000000; rw [p8 12 6 (by decide)]; exact hLX.2.1.2.2.1), (by show 0 ≤ (I5 12 9).toInt ∧ (I5 12 9).toInt ≤ 500; rw [p8 12 9 (by decide)]; exact hLX.2.1.2.2.2.1), (by show 0 ≤ (I5 12 13).toInt ∧ (I5 12 13).toInt ≤ 24; rw [p8 12 13 (by decide)]; exact hLX.2.1.2.2.2.2)⟩, (by show 0 ≤ (I5 21 2).toInt ∧ (I5 21 2).toInt ≤ 12; rw [p8 21 2 (by decide)]; exact hLX.2.2.1), (by show 0 ≤ (I5 26 4).toInt ∧ (I5 26 4).toInt ≤ 512; rw [p8 26 4 (by decide)]; exact hLX.2.2.2.1), (by show 0 ≤ (I5 30 8).toInt ∧ (I5 30 8).toInt ≤ 300; rw [p8 30 8 (by decide)]; exact hLX.2.2.2.2.1), (by show 0 ≤ (I5 41 10).toInt ∧ (I5 41 10).toInt ≤ 4; rw [p8 41 10 (by decide)]; exact hLX.2.2.2.2.2.1), ⟨(by show 0 ≤ (I5 60 9).toInt ∧ (I5 60 9).toInt ≤ 60; rw [p8 60 9 (by decide)]; exact hLX.2.2.2.2.2.2.1.1), (by show 0 ≤ (I5 60 12).toInt ∧ (I5 60 12).toInt ≤ 12; rw [p8 60 12 (by decide)]; exact hLX.2.2.2.2.2.2.1.2)⟩, (by show 0 ≤ (I5 72 2).toInt ∧ (I5 72 2).toInt ≤ 30; rw [p8 72 2 (by decide)]; exact hLX.2.2.2.2.2.2.2.1), p7, hLX.2.2.2.2.2.2.2.2.2.1, hLX.2.2.2.2.2.2.2.2.2.2.1, (z_iS_fr hLX.2.2.2.2.2.2.2.2.2.2.2.1 p8 (by decide)), (by rw [p8 0 8 (by decide)]; exact hLX.2.2.2.2.2.2.2.2.2.2.2.2.1), (by rw [p8 21 2 (by decide)]; exact hLX.2.2.2.2.2.2.2.2.2.2.2.2.2)⟩
  refine lv_topi (fun x10 ex10 => ?_)
  refine lv_pop hx hb dL_law_1071 rfl ?_
  refine lv_aload_n hx hb dL_law_1072 rfl (lv_at hl 1 rfl) ?_
  refine lv_aload_n hx hb dL_law_1073 rfl (lv_at hl 3 rfl) ?_
  refine lv_iload_n hx hb dL_law_1074 rfl (lv_at hl 0 rfl) ?_
  refine lv_iconst (v := 1) hx hb dL_law_1075 (by decide) ?_
  refine lv_iadd hx hb dL_law_1076 ?_
  refine lv_topi (fun x11 ex11 => ?_)
  have tx11 : x11.toInt = i.toInt + 1 := z_tadd ex11 rfl z_l1 (by omega) (by omega)
  refine va_sld hx hb hX hbl hbA hS (z_ix rfl (by omega) (by omega)) dL_law_1077 ?_
  refine lv_topi (fun x12 ex12 => ?_)
  refine lv_aload_n hx hb dL_law_1078 rfl (lv_at hl 3 rfl) ?_
  refine lv_iload_n hx hb dL_law_1079 rfl (lv_at hl 0 rfl) ?_
  refine lv_iconst (v := 2) hx hb dL_law_1080 (by decide) ?_
  refine lv_iadd hx hb dL_law_1081 ?_
  refine lv_topi (fun x13 ex13 => ?_)
  have tx13 : x13.toInt = i.toInt + 2 := z_tadd ex13 rfl z_l2 (by omega) (by omega)
  refine va_sld hx hb hX hbl hbA hS (z_ix rfl (by omega) (by omega)) dL_law_1082 ?_
  refine lv_topi (fun x14 ex14 => ?_)
  refine z_ciD hWM hWX (fun i j hi hj e => hap j i hj hi e.symm) hS hA (va_runV (As := [.int x12, .int x14]) (rest := []) ⟨hx, hb, hml, hown, hts0⟩ (sx_X12_want2 l G adM Im Jm hLM.2.2.2.2.2.2.2.1 hLM.2.2.2.2.2.2.2.2.2.2.2.2.2.2.2.2.2.2.2.2.2.2.2.1 x12 x14 _) (cwV 2 hts0 gV_X12_want rfl rfl rfl (by decide +kernel) ⟨(Nat.le_of_ble_eq_true rfl), (Nat.le_of_ble_eq_true rfl)⟩) (z_preV (i := 0) hK hWM rfl rfl) rfl rfl hl.1 rfl (lv_room (Nat.le_of_ble_eq_true rfl)) dL_law_1083 ⟨(by show cells + 0 + 0 ≤ 600000; omega), (by show slots + 0 + 0 ≤ 7302250; omega)⟩) (fun r u1 H locs hp hWM hWX hapn hS => ?_)
  obtain ⟨I15, J16, rfl, p17, p18, p19, p20⟩ := hp
  have hLMI15 : z_LM I15 := ⟨⟨(by show 0 ≤ (I15 0 0).toInt ∧ (I15 0 0).toInt ≤ 719; rw [p19 0 0 (by decide)]; exact hLM.1.1), (by show 0 ≤ (I15 0 1).toInt ∧ (I15 0 1).toInt ≤ 30; rw [p19 0 1 (by decide)]; exact hLM.1.2.1), (by show 0 ≤ (I15 0 2).toInt ∧ (I15 0 2).toInt ≤ 200; rw [p19 0 2 (by decide)]; exact hLM.1.2.2)⟩, ⟨(by show 0 ≤ (I15 0 13).toInt ∧ (I15 0 13).toInt ≤ 12; rw [p19 0 13 (by decide)]; exact hLM.2.1.1), (by show 0 ≤ (I15 0 14).toInt ∧ (I15 0 14).toInt ≤ 288; rw [p19 0 14 (by decide)]; exact hLM.2.1.2)⟩, (by show 0 ≤ (I15 0 15).toInt ∧ (I15 0 15).toInt ≤ 6100; rw [p19 0 15 (by decide)]; exact hLM.2.2.1), ⟨(by show 0 ≤ (I15 0 31).toInt ∧ (I15 0 31).toInt ≤ 500; rw [p19 0 31 (by decide)]; exact hLM.2.2.2.1.1), (by show 0 ≤ (I15 0 33).toInt ∧ (I15 0 33).toInt ≤ 500; rw [p19 0 33 (by decide)]; exact hLM.2.2.2.1.2.1), (by show 0 ≤ (I15 0 34).toInt ∧ (I15 0 34).toInt ≤ 500; rw [p19 0 34 (by decide)]; exact hLM.2.2.2.1.2.2.1), (by show 0 ≤ (I15 0 35).toInt ∧ (I15 0 35).toInt ≤ 500; rw [p19 0 35 (by decide)]; exact hLM.2.2.2.1.2.2.2)⟩, ⟨(by show 0 ≤ (I15 0 36).toInt ∧ (I15 0 36).toInt ≤ 4; rw [p19 0 36 (by decide)]; exact hLM.2.2.2.2.1.1), (by show 0 ≤ (I15 0 42).toInt ∧ (I15 0 42).toInt ≤ 1; rw [p19 0 42 (by decide)]; exact hLM.2.2.2.2.1.2)⟩, ⟨(by show 0 ≤ (I15 0 47).toInt ∧ (I15 0 47).toInt ≤ 119; rw [p19 0 47 (by decide)]; exact hLM.2.2.2.2.2.1.1), (by show 0 ≤ (I15 0 39).toInt ∧ (I15 0 39).toInt ≤ 100; rw [p19 0 39 (by decide)]; exact hLM.2.2.2.2.2.1.2)⟩, (by show 0 ≤ (I15 0 40).toInt ∧ (I15 0 40).toInt ≤ 6199; rw [p19 0 40 (by decide)]; exact hLM.2.2.2.2.2.2.1), p17, (by show 0 ≤ (I15 0 75).toInt ∧ (I15 0 75).toInt ≤ 4; rw [p19 0 75 (by decide)]; exact hLM.2.2.2.2.2.2.2.2.1), (by show 0 ≤ (I15 0 83).toInt ∧ (I15 0 83).toInt ≤ 60; rw [p19 0 83 (by decide)]; exact hLM.2.2.2.2.2.2.2.2.2.1), (z_rg_fr hLM.2.2.2.2.2.2.2.2.2.2.1 p19 (by decide)), (z_rg_fr hLM.2.2.2.2.2.2.2.2.2.2.2.1 p19 (by decide)), (z_rg_fr hLM.2.2.2.2.2.2.2.2.2.2.2.2.1 p19 (by decide)), (z_rg_fr hLM.2.2.2.2.2.2.2.2.2.2.2.2.2.1 p19 (by decide)), (z_rg_fr hLM.2.2.2.2.2.2.2.2.2.2.2.2.2.2.1 p19 (by decide)), (z_rg_fr hLM.2.2.2.2.2.2.2.2.2.2.2.2.2.2.2.1 p19 (by decide)), (z_rg_fr hLM.2.2.2.2.2.2.2.2.2.2.2.2.2.2.2.2.1 p19 (by decide)), (z_rg_fr hLM.2.2.2.2.2.2.2.2.2.2.2.2.2.2.2.2.2.1 p19 (by decide)), (z_rg_fr hLM.2.2.2.2.2.2.2.2.2.2.2.2.2.2.2.2.2.2.1 p19 (by decide)), (z_rg_fr hLM.2.2.2.2.2.2.2.2.2.2.2.2.2.2.2.2.2.2.2.1 p19 (by decide)), (z_Nd_fr hLM.2.2.2.2.2.2.2.2.2.2.2.2.2.2.2.2.2.2.2.2.1 p19 (by decide)), (z_Ex_fr hLM.2.2.2.2.2.2.2.2.2.2.2.2.2.2.2.2.2.2.2.2.2.1 p19 (by decide)), (z_rg_fr hLM.2.2.2.2.2.2.2.2.2.2.2.2.2.2.2.2.2.2.2.2.2.2.1 p19 (by decide)), p18, (z_rg_fr hLM.2.2.2.2.2.2.2.2.2.2.2.2.2.2.2.2.2.2.2.2.2.2.2.2.1 p19 (by decide)), (z_rg_fr hLM.2.2.2.2.2.2.2.2.2.2.2.2.2.2.2.2.2.2.2.2.2.2.2.2.2.1 p19 (by decide)), (z_rg_fr hLM.2.2.2.2.2.2.2.2.2.2.2.2.2.2.2.2.2.2.2.2.2.2.2.2.2.2.1 p19 (by decide)), (z_rg_fr hLM.2.2.2.2.2.2.2.2.2.2.2.2.2.2.2.2.2.2.2.2.2.2.2.2.2.2.2.1 p19 (by decide)), (z_rg_fr hLM.2.2.2.2.2.2.2.2.2.2.2.2.2.2.2.2.2.2.2.2.2.2.2.2.2.2.2.2.1 p19 (by decide)), (by unfold z_iro; rw [p19 0 13 (by decide), p19 0 14 (by decide), p19 0 15 (by decide)]; exact hLM.2.2.2.2.2.2.2.2.2.2.2.2.2.2.2.2.2.2.2.2.2.2.2.2.2.2.2.2.2)⟩
  have hap := fun i j hi hj e => hapn j i hj hi (Eq.symm e)
  refine lv_topi (fun x21 ex21 => ?_)
  refine lv_pop hx hb dL_law_1086 rfl ?_
  refine lv_goto (tgt := 1508) hx hb dL_law_1087 (by decide) ?_
  have hEQ9 : z_EQ I5 I15 := ⟨(by rw [p8 0 0 (by decide), p19 0 0 (by decide)]; exact htd.1), (by rw [p8 1 5 (by decide), p19 0 1 (by decide)]; exact htd.2.1), (by rw [p8 60 9 (by decide), p19 0 83 (by decide)]; exact htd.2.2)⟩
  refine W.widen (k := cells + 8) (n := slots + 2006) (by omega) (by omega) ?_
  exact kk c ad I5 I15 J16 _ _ _ hLXI5 hLMI15 hEQ9 hWX hWM hap hS (lv_sub hl [0, 1, 2, 3] rfl)
set_option maxHeartbeats 8000000 in
set_option maxRecDepth 100000 in
theorem lc_26 {p : Program} {e : Env} {s : State} {m : MethodId} {below : List Frame} {meth : Method} {c0 : Code} {b L : Nat} {xs : Nat → Int32} (l : Launch) {G : z_G} {A : Nat → Prop} {adK adV : Nat → Nat} (hK : z_K G s) (hA : ∀ q : Nat, s.heap.size ≤ q → A q) (hAi : ∀ q : Nat, A q → s.heap.size ≤ q) (hSt : z_St A s s.heap) (hKn : z_Cq adK adV A s s.heap) (hL : L ≤ 3584) (C0 : lw_At p s m meth c0 b L xs) {c : z_C} {ad adM : Nat → Nat} {Ix Im : z_I} {Jm : z_J} (hLX : z_LX c Ix) (hLM : z_LM Im) (htd : z_EQ Ix Im) {H : Heap} {locs : List Loc} {ls : Array Slot} (hWX : z_W G A (shC c, ad, Ix, JX, PC c ad) H) (hWM : z_W G A (shM, adM, Im, Jm, PM adM) H) (hap : ∀ i j, shC c i ≠ none → shM j ≠ none → ad i ≠ adM j) (hS : va_S A s.heap H locs) {i : Int32} (hi0 : 0 ≤ i.toInt) (hiL : i.toInt + 7 ≤ (L : Int)) (hl : lv_has ls 4 [(3, .int i), (2, .ref (adM 0)), (1, .ref (ad 0)), (0, .ref b)]) {cells slots : Nat} (hce : cells + 8 ≤ 600000) (hsl : slots + 2006 ≤ 7302250) (kk : ∀ (c : z_C) (ad : Nat → Nat) (Ix Im : z_I) (Jm : z_J) (H : Heap) (locs : List Loc) (ls : Array Slot), z_LX c Ix → z_LM Im → z_EQ Ix Im → z_W G A (shC c, ad, Ix, JX, PC c ad) H → z_W G A (shM, adM, Im, Jm, PM adM) H → (∀ i j, shC c i ≠ none → shM j ≠ none → ad i ≠ adM j) → va_S A s.heap H locs → lv_has ls 4 [(3, .int i), (2, .ref (adM 0)), (1, .ref (ad 0)), (0, .ref b)] → W p l e room_1 s m #[Value.ref b] below meth c0 H locs (cells + 8) (slots + 2006) (lw_Z below #[Value.ref b] s) (F0 m 1508 ls [])) : W p l e room_1 s m #[Value.ref b] below meth c0 H locs (cells) (slots) (lw_Z below #[Value.ref b] s) (F0 m 1090 ls []) := by
  obtain ⟨hx, hb, hr, hml, hown, hts0, hX, hbl, hlocks, hgv⟩ := id C0
  have hown : s.vm.findClass RL = some m.cls := hown
  have hts : ∀ w ∈ wsL_law, w.before #[Value.ref b] s = true := fun w hw => hts0 w (wsL_law_in w hw)
  have hbA : ¬ A b := fun h => absurd (hAi b h) (Nat.not_le.mpr hbl)
  have hLi : (L : Int) ≤ 3584 := by omega
  refine lv_aload_n hx hb dL_law_1090 rfl (lv_at hl 2 rfl) ?_
  refine lv_aload_n hx hb dL_law_1091 rfl (lv_at hl 3 rfl) ?_
  refine lv_iload_n hx hb dL_law_1092 rfl (lv_at hl 0 rfl) ?_
  refine lv_iconst (v := 1) hx hb dL_law_1093 (by decide) ?_
  refine lv_iadd hx hb dL_law_1094 ?_
  refine lv_topi (fun x1 ex1 => ?_)
  have tx1 : x1.toInt = i.toInt + 1 := z_tadd ex1 rfl z_l1 (by omega) (by omega)
  refine va_sld hx hb hX hbl hbA hS (z_ix rfl (by omega) (by omega)) dL_law_1095 ?_
  refine lv_topi (fun x2 ex2 => ?_)
  refine lv_aload_n hx hb dL_law_1096 rfl (lv_at hl 3 rfl) ?_
  refine lv_iload_n hx hb dL_law_1097 rfl (lv_at hl 0 rfl) ?_
  refine lv_iconst (v := 2) hx hb dL_law_1098 (by decide) ?_
  refine lv_iadd hx hb dL_law_1099 ?_
  refine lv_topi (fun x3 ex3 => ?_)
  have tx3 : x3.toInt = i.toInt + 2 := z_tadd ex3 rfl z_l2 (by omega) (by omega)
  refine va_sld hx hb hX hbl hbA hS (z_ix rfl (by omega) (by omega)) dL_law_1100 ?_
  refine lv_topi (fun x4 ex4 => ?_)
  refine lv_aload_n hx hb dL_law_1101 rfl (lv_at hl 3 rfl) ?_
  refine lv_iload_n hx hb dL_law_1102 rfl (lv_at hl 0 rfl) ?_
  refine lv_iconst (v := 3) hx hb dL_law_1103 (by decide) ?_
  refine lv_iadd hx hb dL_law_1104 ?_
  refine lv_topi (fun x5 ex5 => ?_)
  have tx5 : x5.toInt = i.toInt + 3 := z_tadd ex5 rfl z_l3 (by omega) (by omega)
  refine va_sld hx hb hX hbl hbA hS (z_ix rfl (by omega) (by omega)) dL_law_1105 ?_
  refine lv_topi (fun x6 ex6 => ?_)
  refine z_ciD hWX hWM hap hS hA (va_runV (As := [.int x2, .int x4, .int x6]) (rest := []) ⟨hx, hb, hml, hown, hts0⟩ (sx_X11_road l G ad c Ix hLX.2.2.2.2.2.2.2.2.1 hLX.2.2.2.2.2.1 x2 x4 x6 hLX.2.2.2.2.2.2.2.2.2.1 hLX.2.2.2.2.2.2.2.2.2.2.1 _) (cwV 3 hts0 gV_X11_road rfl rfl rfl (by decide +kernel) ⟨(Nat.le_of_ble_eq_true rfl), (Nat.le_of_ble_eq_true rfl)⟩) (z_preV (i := 0) hK hWX rfl rfl) rfl rfl hl.1 rfl (lv_room (Nat.le_of_ble_eq_true rfl)) dL_law_1106 ⟨(by show cells + 0 ≤ 600000; omega), (by show slots + 0 ≤ 7302250; omega)⟩) (fun r u1 H locs hp hWX hWM hap hS => ?_)
  obtain ⟨I7, rfl, p9, p10, p11, p12⟩ := hp
  have hLXI7 : z_LX c I7 := ⟨⟨(by show 0 ≤ (I7 1 5).toInt ∧ (I7 1 5).toInt ≤ 30; rw [p11 1 5 (by decide)]; exact hLX.1.1), (by show 0 ≤ (I7 1 11).toInt ∧ (I7 1 11).toInt ≤ 200; rw [p11 1 11 (by decide)]; exact hLX.1.2)⟩, ⟨(by show 0 ≤ (I7 12 1).toInt ∧ (I7 12 1).toInt ≤ 500; rw [p11 12 1 (by decide)]; exact hLX.2.1.1), (by show 0 ≤ (I7 12 5).toInt ∧ (I7 12 5).toInt ≤ 501; rw [p11 12 5 (by decide)]; exact hLX.2.1.2.1), (by show (-1) ≤ (I7 12 6).toInt ∧ (I7 12 6).toInt ≤ 1000000; rw [p11 12 6 (by decide)]; exact hLX.2.1.2.2.1), (by show 0 ≤ (I7 12 9).toInt ∧ (I7 12 9).toInt ≤ 500; rw [p11 12 9 (by decide)]; exact hLX.2.1.2.2.2.1), (by show 0 ≤ (I7 12 13).toInt ∧ (I7 12 13).toInt ≤ 24; rw [p11 12 13 (by decide)]; exact hLX.2.1.2.2.2.2)⟩, (by show 0 ≤ (I7 21 2).toInt ∧ (I7 21 2).toInt ≤ 12; rw [p11 21 2 (by decide)]; exact hLX.2.2.1), (by show 0 ≤ (I7 26 4).toInt ∧ (I7 26 4).toInt ≤ 512; rw [p11 26 4 (by decide)]; exact hLX.2.2.2.1), (by show 0 ≤ (I7 30 8).toInt ∧ (I7 30 8).toInt ≤ 300; rw [p11 30 8 (by decide)]; exact hLX.2.2.2.2.1), p10, ⟨(by show 0 ≤ (I7 60 9).toInt ∧ (I7 60 9).toInt ≤ 60; rw [p11 60 9 (by decide)]; exact hLX.2.2.2.2.2.2.1.1), (by show 0 ≤ (I7 60 12).toInt ∧ (I7 60 12).toInt ≤ 12; rw [p11 60 12 (by decide)]; exact hLX.2.2.2.2.2.2.1.2)⟩, (by show 0 ≤ (I7 72 2).toInt ∧ (I7 72 2).toInt ≤ 30; rw [p11 72 2 (by decide)]; exact hLX.2.2.2.2.2.2.2.1), p9, hLX.2.2.2.2.2.2.2.2.2.1, hLX.2.2.2.2.2.2.2.2.2.2.1, (z_iS_fr hLX.2.2.2.2.2.2.2.2.2.2.2.1 p11 (by decide)), (by rw [p11 0 8 (by decide)]; exact hLX.2.2.2.2.2.2.2.2.2.2.2.2.1), (by rw [p11 21 2 (by decide)]; exact hLX.2.2.2.2.2.2.2.2.2.2.2.2.2)⟩
  refine lv_topi (fun x13 ex13 => ?_)
  refine lv_pop hx hb dL_law_1109 rfl ?_
  refine lv_aload_n hx hb dL_law_1110 rfl (lv_at hl 1 rfl) ?_
  refine lv_aload_n hx hb dL_law_1111 rfl (lv_at hl 3 rfl) ?_
  refine lv_iload_n hx hb dL_law_1112 rfl (lv_at hl 0 rfl) ?_
  refine lv_iconst (v := 1) hx hb dL_law_1113 (by decide) ?_
  refine lv_iadd hx hb dL_law_1114 ?_
  refine lv_topi (fun x14 ex14 => ?_)
  have tx14 : x14.toInt = i.toInt + 1 := z_tadd ex14 rfl z_l1 (by omega) (by omega)
  refine va_sld hx hb hX hbl hbA hS (z_ix rfl (by omega) (by omega)) dL_law_1115 ?_
  refine lv_topi (fun x15 ex15 => ?_)
  refine lv_aload_n hx hb dL_law_1116 rfl (lv_at hl 3 rfl) ?_
  refine lv_iload_n hx hb dL_law_1117 rfl (lv_at hl 0 rfl) ?_
  refine lv_iconst (v := 2) hx hb dL_law_1118 (by decide) ?_
  refine lv_iadd hx hb dL_law_1119 ?_
  refine lv_topi (fun x16 ex16 => ?_)
  have tx16 : x16.toInt = i.toInt + 2 := z_tadd ex16 rfl z_l2 (by omega) (by omega)
  refine va_sld hx hb hX hbl hbA hS (z_ix rfl (by omega) (by omega)) dL_law_1120 ?_
  refine lv_topi (fun x17 ex17 => ?_)
  refine lv_aload_n hx hb dL_law_1121 rfl (lv_at hl 3 rfl) ?_
  refine lv_iload_n hx hb dL_law_1122 rfl (lv_at hl 0 rfl) ?_
  refine lv_iconst (v := 3) hx hb dL_law_1123 (by decide) ?_
  refine lv_iadd hx hb dL_law_1124 ?_
  refine lv_topi (fun x18 ex18 => ?_)
  have tx18 : x18.toInt = i.toInt + 3 := z_tadd ex18 rfl z_l3 (by omega) (by omega)
  refine va_sld hx hb hX hbl hbA hS (z_ix rfl (by omega) (by omega)) dL_law_1125 ?_
  refine lv_topi (fun x19 ex19 => ?_)
  refine z_ciD hWM hWX (fun i j hi hj e => hap j i hj hi e.symm) hS hA (va_runV (As := [.int x15, .int x17, .int x19]) (rest := []) ⟨hx, hb, hml, hown, hts0⟩ (sx_X12_road2 l G adM Im Jm hLM.2.2.2.2.2.2.2.1 hLM.2.2.2.2.2.2.2.2.1 hLM.2.2.2.2.2.2.2.2.2.2.2.2.2.2.2.2.2.2.2.2.2.2.2.2.1 x15 x17 x19 _) (cwV 3 hts0 gV_X12_road rfl rfl rfl (by decide +kernel) ⟨(Nat.le_of_ble_eq_true rfl), (Nat.le_of_ble_eq_true rfl)⟩) (z_preV (i := 0) hK hWM rfl rfl) rfl rfl hl.1 rfl (lv_room (Nat.le_of_ble_eq_true rfl)) dL_law_1126 ⟨(by show cells + 0 + 0 ≤ 600000; omega), (by show slots + 0 + 0 ≤ 7302250; omega)⟩) (fun r u1 H locs hp hWM hWX hapn hS => ?_)
  obtain ⟨I20, J21, rfl, p22, p23, p24, p25, p26⟩ := hp
  have hLMI20 : z_LM I20 := ⟨⟨(by show 0 ≤ (I20 0 0).toInt ∧ (I20 0 0).toInt ≤ 719; rw [p25 0 0 (by decide)]; exact hLM.1.1), (by show 0 ≤ (I20 0 1).toInt ∧ (I20 0 1).toInt ≤ 30; rw [p25 0 1 (by decide)]; exact hLM.1.2.1), (by show 0 ≤ (I20 0 2).toInt ∧ (I20 0 2).toInt ≤ 200; rw [p25 0 2 (by decide)]; exact hLM.1.2.2)⟩, ⟨(by show 0 ≤ (I20 0 13).toInt ∧ (I20 0 13).toInt ≤ 12; rw [p25 0 13 (by decide)]; exact hLM.2.1.1), (by show 0 ≤ (I20 0 14).toInt ∧ (I20 0 14).toInt ≤ 288; rw [p25 0 14 (by decide)]; exact hLM.2.1.2)⟩, (by show 0 ≤ (I20 0 15).toInt ∧ (I20 0 15).toInt ≤ 6100; rw [p25 0 15 (by decide)]; exact hLM.2.2.1), ⟨(by show 0 ≤ (I20 0 31).toInt ∧ (I20 0 31).toInt ≤ 500; rw [p25 0 31 (by decide)]; exact hLM.2.2.2.1.1), (by show 0 ≤ (I20 0 33).toInt ∧ (I20 0 33).toInt ≤ 500; rw [p25 0 33 (by decide)]; exact hLM.2.2.2.1.2.1), (by show 0 ≤ (I20 0 34).toInt ∧ (I20 0 34).toInt ≤ 500; rw [p25 0 34 (by decide)]; exact hLM.2.2.2.1.2.2.1), (by show 0 ≤ (I20 0 35).toInt ∧ (I20 0 35).toInt ≤ 500; rw [p25 0 35 (by decide)]; exact hLM.2.2.2.1.2.2.2)⟩, ⟨(by show 0 ≤ (I20 0 36).toInt ∧ (I20 0 36).toInt ≤ 4; rw [p25 0 36 (by decide)]; exact hLM.2.2.2.2.1.1), (by show 0 ≤ (I20 0 42).toInt ∧ (I20 0 42).toInt ≤ 1; rw [p25 0 42 (by decide)]; exact hLM.2.2.2.2.1.2)⟩, ⟨(by show 0 ≤ (I20 0 47).toInt ∧ (I20 0 47).toInt ≤ 119; rw [p25 0 47 (by decide)]; exact hLM.2.2.2.2.2.1.1), (by show 0 ≤ (I20 0 39).toInt ∧ (I20 0 39).toInt ≤ 100; rw [p25 0 39 (by decide)]; exact hLM.2.2.2.2.2.1.2)⟩, (by show 0 ≤ (I20 0 40).toInt ∧ (I20 0 40).toInt ≤ 6199; rw [p25 0 40 (by decide)]; exact hLM.2.2.2.2.2.2.1), p22, p23, (by show 0 ≤ (I20 0 83).toInt ∧ (I20 0 83).toInt ≤ 60; rw [p25 0 83 (by decide)]; exact hLM.2.2.2.2.2.2.2.2.2.1), (z_rg_fr hLM.2.2.2.2.2.2.2.2.2.2.1 p25 (by decide)), (z_rg_fr hLM.2.2.2.2.2.2.2.2.2.2.2.1 p25 (by decide)), (z_rg_fr hLM.2.2.2.2.2.2.2.2.2.2.2.2.1 p25 (by decide)), (z_rg_fr hLM.2.2.2.2.2.2.2.2.2.2.2.2.2.1 p25 (by decide)), (z_rg_fr hLM.2.2.2.2.2.2.2.2.2.2.2.2.2.2.1 p25 (by decide)), (z_rg_fr hLM.2.2.2.2.2.2.2.2.2.2.2.2.2.2.2.1 p25 (by decide)), (z_rg_fr hLM.2.2.2.2.2.2.2.2.2.2.2.2.2.2.2.2.1 p25 (by decide)), (z_rg_fr hLM.2.2.2.2.2.2.2.2.2.2.2.2.2.2.2.2.2.1 p25 (by decide)), (z_rg_fr hLM.2.2.2.2.2.2.2.2.2.2.2.2.2.2.2.2.2.2.1 p25 (by decide)), (z_rg_fr hLM.2.2.2.2.2.2.2.2.2.2.2.2.2.2.2.2.2.2.2.1 p25 (by decide)), (z_Nd_fr hLM.2.2.2.2.2.2.2.2.2.2.2.2.2.2.2.2.2.2.2.2.1 p25 (by decide)), (z_Ex_fr hLM.2.2.2.2.2.2.2.2.2.2.2.2.2.2.2.2.2.2.2.2.2.1 p25 (by decide)), (z_rg_fr hLM.2.2.2.2.2.2.2.2.2.2.2.2.2.2.2.2.2.2.2.2.2.2.1 p25 (by decide)), (z_rg_fr hLM.2.2.2.2.2.2.2.2.2.2.2.2.2.2.2.2.2.2.2.2.2.2.2.1 p25 (by decide)), p24, (z_rg_fr hLM.2.2.2.2.2.2.2.2.2.2.2.2.2.2.2.2.2.2.2.2.2.2.2.2.2.1 p25 (by decide)), (z_rg_fr hLM.2.2.2.2.2.2.2.2.2.2.2.2.2.2.2.2.2.2.2.2.2.2.2.2.2.2.1 p25 (by decide)), (z_rg_fr hLM.2.2.2.2.2.2.2.2.2.2.2.2.2.2.2.2.2.2.2.2.2.2.2.2.2.2.2.1 p25 (by decide)), (z_rg_fr hLM.2.2.2.2.2.2.2.2.2.2.2.2.2.2.2.2.2.2.2.2.2.2.2.2.2.2.2.2.1 p25 (by decide)), (by unfold z_iro; rw [p25 0 13 (by decide), p25 0 14 (by decide), p25 0 15 (by decide)]; exact hLM.2.2.2.2.2.2.2.2.2.2.2.2.2.2.2.2.2.2.2.2.2.2.2.2.2.2.2.2.2)⟩
  have hap := fun i j hi hj e => hapn j i hj hi (Eq.symm e)
  refine lv_topi (fun x27 ex27 => ?_)
  refine lv_pop hx hb dL_law_1129 rfl ?_
  refine lv_goto (tgt := 1508) hx hb dL_law_1130 (by decide) ?_
  have hEQ9 : z_EQ I7 I20 := ⟨(by rw [p11 0 0 (by decide), p25 0 0 (by decide)]; exact htd.1), (by rw [p11 1 5 (by decide), p25 0 1 (by decide)]; exact htd.2.1), (by rw [p11 60 9 (by decide), p25 0 83 (by decide)]; exact htd.2.2)⟩
  refine W.widen (k := cells + 8) (n := slots + 2006) (by omega) (by omega) ?_
  exact kk c ad I7 I20 J21 _ _ _ hLXI7 hLMI20 hEQ9 hWX hWM hap hS (lv_sub hl [0, 1, 2, 3] rfl)
set_option maxHeartbeats 8000000 in
set_option maxRecDepth 100000 in
theorem lc_27 {p : Program} {e : Env} {s : State} {m : MethodId} {below : List Frame} {meth : Method} {c0 : Code} {b L : Nat} {xs : Nat → Int32} (l : Launch) {G : z_G} {A : Nat → Prop} {adK adV : Nat → Nat} (hK : z_K G s) (hA : ∀ q : Nat, s.heap.size ≤ q → A q) (hAi : ∀ q : Nat, A q → s.heap.size ≤ q) (hSt : z_St A s s.heap) (hKn : z_Cq adK adV A s s.heap) (hL : L ≤ 3584) (C0 : lw_At p s m meth c0 b L xs) {c : z_C} {ad adM : Nat → Nat} {Ix Im : z_I} {Jm : z_J} (hLX : z_LX c Ix) (hLM : z_LM Im) (htd : z_EQ Ix Im) {H : Heap} {locs : List Loc} {ls : Array Slot} (hWX : z_W G A (shC c, ad, Ix, JX, PC c ad) H) (hWM : z_W G A (shM, adM, Im, Jm, PM adM) H) (hap : ∀ i j, shC c i ≠ none → shM j ≠ none → ad i ≠ adM j) (hS : va_S A s.heap H locs) {i : Int32} (hi0 : 0 ≤ i.toInt) (hiL : i.toInt + 7 ≤ (L : Int)) (hl : lv_has ls 4 [(3, .int i), (2, .ref (adM 0)), (1, .ref (ad 0)), (0, .ref b)]) {cells slots : Nat} (hce : cells + 8 ≤ 600000) (hsl : slots + 2006 ≤ 7302250) (kk : ∀ (c : z_C) (ad : Nat → Nat) (Ix Im : z_I) (Jm : z_J) (H : Heap) (locs : List Loc) (ls : Array Slot), z_LX c Ix → z_LM Im → z_EQ Ix Im → z_W G A (shC c, ad, Ix, JX, PC c ad) H → z_W G A (shM, adM, Im, Jm, PM adM) H → (∀ i j, shC c i ≠ none → shM j ≠ none → ad i ≠ adM j) → va_S A s.heap H locs → lv_has ls 4 [(3, .int i), (2, .ref (adM 0)), (1, .ref (ad 0)), (0, .ref b)] → W p l e room_1 s m #[Value.ref b] below meth c0 H locs (cells + 8) (slots + 2006) (lw_Z below #[Value.ref b] s) (F0 m 1508 ls [])) : W p l e room_1 s m #[Value.ref b] below meth c0 H locs (cells) (slots) (lw_Z below #[Value.ref b] s) (F0 m 1133 ls []) := by
  obtain ⟨hx, hb, hr, hml, hown, hts0, hX, hbl, hlocks, hgv⟩ := id C0
  have hown : s.vm.findClass RL = some m.cls := hown
  have hts : ∀ w ∈ wsL_law, w.before #[Value.ref b] s = true := fun w hw => hts0 w (wsL_law_in w hw)
  have hbA : ¬ A b := fun h => absurd (hAi b h) (Nat.not_le.mpr hbl)
  have hLi : (L : Int) ≤ 3584 := by omega
  refine lv_aload_n hx hb dL_law_1133 rfl (lv_at hl 2 rfl) ?_
  refine lv_aload_n hx hb dL_law_1134 rfl (lv_at hl 3 rfl) ?_
  refine lv_iload_n hx hb dL_law_1135 rfl (lv_at hl 0 rfl) ?_
  refine lv_iconst (v := 1) hx hb dL_law_1136 (by decide) ?_
  refine lv_iadd hx hb dL_law_1137 ?_
  refine lv_topi (fun x1 ex1 => ?_)
  have tx1 : x1.toInt = i.toInt + 1 := z_tadd ex1 rfl z_l1 (by omega) (by omega)
  refine va_sld hx hb hX hbl hbA hS (z_ix rfl (by omega) (by omega)) dL_law_1138 ?_
  refine lv_topi (fun x2 ex2 => ?_)
  refine lv_aload_n hx hb dL_law_1139 rfl (lv_at hl 3 rfl) ?_
  refine lv_iload_n hx hb dL_law_1140 rfl (lv_at hl 0 rfl) ?_
  refine lv_iconst (v := 2) hx hb dL_law_1141 (by decide) ?_
  refine lv_iadd hx hb dL_law_1142 ?_
  refine lv_topi (fun x3 ex3 => ?_)
  have tx3 : x3.toInt = i.toInt + 2 := z_tadd ex3 rfl z_l2 (by omega) (by omega)
  refine va_sld hx hb hX hbl hbA hS (z_ix rfl (by omega) (by omega)) dL_law_1143 ?_
  refine lv_topi (fun x4 ex4 => ?_)
  refine z_ciD hWX hWM hap hS hA (va_runV (As := [.int x2, .int x4]) (rest := []) ⟨hx, hb, hml, hown, hts0⟩ (sx_X11_flow l G ad c Ix hLX.2.2.2.2.2.1 x2 x4 hLX.2.2.2.2.2.2.2.2.2.1 hLX.2.2.2.2.2.2.2.2.2.2.1 _) (cwV 2 hts0 gV_X11_flow rfl rfl rfl (by decide +kernel) ⟨(Nat.le_of_ble_eq_true rfl), (Nat.le_of_ble_eq_true rfl)⟩) (z_preV (i := 0) hK hWX rfl rfl) rfl rfl hl.1 rfl (lv_room (Nat.le_of_ble_eq_true rfl)) dL_law_1144 ⟨(by show cells + 0 ≤ 600000; omega), (by show slots + 0 ≤ 7302250; omega)⟩) (fun r u1 H locs hp hWX hWM hap hS => ?_)
  obtain ⟨I5, rfl, p7, p8⟩ := hp
  have hLXI5 : z_LX c I5 := ⟨⟨(by show 0 ≤ (I5 1 5).toInt ∧ (I5 1 5).toInt ≤ 30; rw [p8 1 5 (by decide)]; exact hLX.1.1), (by show 0 ≤ (I5 1 11).toInt ∧ (I5 1 11).toInt ≤ 200; rw [p8 1 11 (by decide)]; exact hLX.1.2)⟩, ⟨(by show 0 ≤ (I5 12 1).toInt ∧ (I5 12 1).toInt ≤ 500; rw [p8 12 1 (by decide)]; exact hLX.2.1.1), (by show 0 ≤ (I5 12 5).toInt ∧ (I5 12 5).toInt ≤ 501; rw [p8 12 5 (by decide)]; exact hLX.2.1.2.1), (by show (-1) ≤ (I5 12 6).toInt ∧ (I5 12 6).toInt ≤ 1000000; rw [p8 12 6 (by decide)]; exact hLX.2.1.2.2.1), (by show 0 ≤ (I5 12 9).toInt ∧ (I5 12 9).toInt ≤ 500; rw [p8 12 9 (by decide)]; exact hLX.2.1.2.2.2.1), (by show 0 ≤ (I5 12 13).toInt ∧ (I5 12 13).toInt ≤ 24; rw [p8 12 13 (by decide)]; exact hLX.2.1.2.2.2.2)⟩, (by show 0 ≤ (I5 21 2).toInt ∧ (I5 21 2).toInt ≤ 12; rw [p8 21 2 (by decide)]; exact hLX.2.2.1), (by show 0 ≤ (I5 26 4).toInt ∧ (I5 26 4).toInt ≤ 512; rw [p8 26 4 (by decide)]; exact hLX.2.2.2.1), (by show 0 ≤ (I5 30 8).toInt ∧ (I5 30 8).toInt ≤ 300; rw [p8 30 8 (by decide)]; exact hLX.2.2.2.2.1), p7, ⟨(by show 0 ≤ (I5 60 9).toInt ∧ (I5 60 9).toInt ≤ 60; rw [p8 60 9 (by decide)]; exact hLX.2.2.2.2.2.2.1.1), (by show 0 ≤ (I5 60 12).toInt ∧ (I5 60 12).toInt ≤ 12; rw [p8 60 12 (by decide)]; exact hLX.2.2.2.2.2.2.1.2)⟩, (by show 0 ≤ (I5 72 2).toInt ∧ (I5 72 2).toInt ≤ 30; rw [p8 72 2 (by decide)]; exact hLX.2.2.2.2.2.2.2.1), ⟨(by show 0 ≤ (I5 0 0).toInt ∧ (I5 0 0).toInt ≤ 719; rw [p8 0 0 (by decide)]; exact hLX.2.2.2.2.2.2.2.2.1.1), (by show 0 ≤ (I5 0 8).toInt ∧ (I5 0 8).toInt ≤ 10; rw [p8 0 8 (by decide)]; exact hLX.2.2.2.2.2.2.2.2.1.2)⟩, hLX.2.2.2.2.2.2.2.2.2.1, hLX.2.2.2.2.2.2.2.2.2.2.1, (z_iS_fr hLX.2.2.2.2.2.2.2.2.2.2.2.1 p8 (by decide)), (by rw [p8 0 8 (by decide)]; exact hLX.2.2.2.2.2.2.2.2.2.2.2.2.1), (by rw [p8 21 2 (by decide)]; exact hLX.2.2.2.2.2.2.2.2.2.2.2.2.2)⟩
  refine lv_topi (fun x9 ex9 => ?_)
  refine lv_pop hx hb dL_law_1147 rfl ?_
  refine lv_aload_n hx hb dL_law_1148 rfl (lv_at hl 1 rfl) ?_
  refine lv_aload_n hx hb dL_law_1149 rfl (lv_at hl 3 rfl) ?_
  refine lv_iload_n hx hb dL_law_1150 rfl (lv_at hl 0 rfl) ?_
  refine lv_iconst (v := 1) hx hb dL_law_1151 (by decide) ?_
  refine lv_iadd hx hb dL_law_1152 ?_
  refine lv_topi (fun x10 ex10 => ?_)
  have tx10 : x10.toInt = i.toInt + 1 := z_tadd ex10 rfl z_l1 (by omega) (by omega)
  refine va_sld hx hb hX hbl hbA hS (z_ix rfl (by omega) (by omega)) dL_law_1153 ?_
  refine lv_topi (fun x11 ex11 => ?_)
  refine lv_aload_n hx hb dL_law_1154 rfl (lv_at hl 3 rfl) ?_
  refine lv_iload_n hx hb dL_law_1155 rfl (lv_at hl 0 rfl) ?_
  refine lv_iconst (v := 2) hx hb dL_law_1156 (by decide) ?_
  refine lv_iadd hx hb dL_law_1157 ?_
  refine lv_topi (fun x12 ex12 => ?_)
  have tx12 : x12.toInt = i.toInt + 2 := z_tadd ex12 rfl z_l2 (by omega) (by omega)
  refine va_sld hx hb hX hbl hbA hS (z_ix rfl (by omega) (by omega)) dL_law_1158 ?_
  refine lv_topi (fun x13 ex13 => ?_)
  refine z_ciD hWM hWX (fun i j hi hj e => hap j i hj hi e.symm) hS hA (va_runV (As := [.int x11, .int x13]) (rest := []) ⟨hx, hb, hml, hown, hts0⟩ (sx_X12_flow l G adM Im Jm hLM.2.2.2.2.2.2.2.2.1 hLM.2.2.2.2.2.2.2.1 hLM.2.2.2.2.2.2.2.2.2.2.2.2.2.2.2.2.2.2.2.2.2.2.1 hLM.2.2.2.2.2.2.2.2.2.2.2.2.2.2.2.2.2.2.2.2.2.2.2.1 hLM.2.2.2.2.2.2.2.2.2.2.2.2.2.2.2.2.2.2.2.2.2.2.2.2.1 hLM.2.2.2.2.2.2.2.2.2.2.2.2.2.2.2.2.2.2.2.2.2.2.2.2.2.1 hLM.2.2.2.2.2.2.2.2.2.2.2.2.2.2.2.2.2.2.2.2.2.2.2.2.2.2.1 hLM.2.2.2.2.2.2.2.2.2.2.2.2.2.2.2.2.2.2.2.2.2.2.2.2.2.2.2.1 hLM.2.2.2.2.2.2.2.2.2.2.2.2.2.2.2.2.2.2.2.2.2.2.2.2.2.2.2.2.1 x11 x13 _) (cwV 2 hts0 gV_X12_flow rfl rfl rfl (by decide +kernel) ⟨(Nat.le_of_ble_eq_true rfl), (Nat.le_of_ble_eq_true rfl)⟩) (z_preV (i := 0) hK hWM rfl rfl) rfl rfl hl.1 rfl (lv_room (Nat.le_of_ble_eq_true rfl)) dL_law_1159 ⟨(by show cells + 0 + 0 ≤ 600000; omega), (by show slots + 0 + 0 ≤ 7302250; omega)⟩) (fun r u1 H locs hp hWM hWX hapn hS => ?_)
  obtain ⟨I14, J15, rfl, p16, p17, p18, p19, p20, p21, p22, p23, p24, p25⟩ := hp
  have hLMI14 : z_LM I14 := ⟨⟨(by show 0 ≤ (I14 0 0).toInt ∧ (I14 0 0).toInt ≤ 719; rw [p25 0 0 (by decide)]; exact hLM.1.1), (by show 0 ≤ (I14 0 1).toInt ∧ (I14 0 1).toInt ≤ 30; rw [p25 0 1 (by decide)]; exact hLM.1.2.1), (by show 0 ≤ (I14 0 2).toInt ∧ (I14 0 2).toInt ≤ 200; rw [p25 0 2 (by decide)]; exact hLM.1.2.2)⟩, ⟨(by show 0 ≤ (I14 0 13).toInt ∧ (I14 0 13).toInt ≤ 12; rw [p25 0 13 (by decide)]; exact hLM.2.1.1), (by show 0 ≤ (I14 0 14).toInt ∧ (I14 0 14).toInt ≤ 288; rw [p25 0 14 (by decide)]; exact hLM.2.1.2)⟩, (by show 0 ≤ (I14 0 15).toInt ∧ (I14 0 15).toInt ≤ 6100; rw [p25 0 15 (by decide)]; exact hLM.2.2.1), ⟨(by show 0 ≤ (I14 0 31).toInt ∧ (I14 0 31).toInt ≤ 500; rw [p25 0 31 (by decide)]; exact hLM.2.2.2.1.1), (by show 0 ≤ (I14 0 33).toInt ∧ (I14 0 33).toInt ≤ 500; rw [p25 0 33 (by decide)]; exact hLM.2.2.2.1.2.1), (by show 0 ≤ (I14 0 34).toInt ∧ (I14 0 34).toInt ≤ 500; rw [p25 0 34 (by decide)]; exact hLM.2.2.2.1.2.2.1), (by show 0 ≤ (I14 0 35).toInt ∧ (I14 0 35).toInt ≤ 500; rw [p25 0 35 (by decide)]; exact hLM.2.2.2.1.2.2.2)⟩, ⟨(by show 0 ≤ (I14 0 36).toInt ∧ (I14 0 36).toInt ≤ 4; rw [p25 0 36 (by decide)]; exact hLM.2.2.2.2.1.1), (by show 0 ≤ (I14 0 42).toInt ∧ (I14 0 42).toInt ≤ 1; rw [p25 0 42 (by decide)]; exact hLM.2.2.2.2.1.2)⟩, ⟨(by show 0 ≤ (I14 0 47).toInt ∧ (I14 0 47).toInt ≤ 119; rw [p25 0 47 (by decide)]; exact hLM.2.2.2.2.2.1.1), (by show 0 ≤ (I14 0 39).toInt ∧ (I14 0 39).toInt ≤ 100; rw [p25 0 39 (by decide)]; exact hLM.2.2.2.2.2.1.2)⟩, (by show 0 ≤ (I14 0 40).toInt ∧ (I14 0 40).toInt ≤ 6199; rw [p25 0 40 (by decide)]; exact hLM.2.2.2.2.2.2.1), p17, p16, (by show 0 ≤ (I14 0 83).toInt ∧ (I14 0 83).toInt ≤ 60; rw [p25 0 83 (by decide)]; exact hLM.2.2.2.2.2.2.2.2.2.1), (z_rg_fr hLM.2.2.2.2.2.2.2.2.2.2.1 p25 (by decide)), (z_rg_fr hLM.2.2.2.2.2.2.2.2.2.2.2.1 p25 (by decide)), (z_rg_fr hLM.2.2.2.2.2.2.2.2.2.2.2.2.1 p25 (by decide)), (z_rg_fr hLM.2.2.2.2.2.2.2.2.2.2.2.2.2.1 p25 (by decide)), (z_rg_fr hLM.2.2.2.2.2.2.2.2.2.2.2.2.2.2.1 p25 (by decide)), (z_rg_fr hLM.2.2.2.2.2.2.2.2.2.2.2.2.2.2.2.1 p25 (by decide)), (z_rg_fr hLM.2.2.2.2.2.2.2.2.2.2.2.2.2.2.2.2.1 p25 (by decide)), (z_rg_fr hLM.2.2.2.2.2.2.2.2.2.2.2.2.2.2.2.2.2.1 p25 (by decide)), (z_rg_fr hLM.2.2.2.2.2.2.2.2.2.2.2.2.2.2.2.2.2.2.1 p25 (by decide)), (z_rg_fr hLM.2.2.2.2.2.2.2.2.2.2.2.2.2.2.2.2.2.2.2.1 p25 (by decide)), (z_Nd_fr hLM.2.2.2.2.2.2.2.2.2.2.2.2.2.2.2.2.2.2.2.2.1 p25 (by decide)), (z_Ex_fr hLM.2.2.2.2.2.2.2.2.2.2.2.2.2.2.2.2.2.2.2.2.2.1 p25 (by decide)), p18, p19, p20, p21, p22, p23, p24, (by unfold z_iro; rw [p25 0 13 (by decide), p25 0 14 (by decide), p25 0 15 (by decide)]; exact hLM.2.2.2.2.2.2.2.2.2.2.2.2.2.2.2.2.2.2.2.2.2.2.2.2.2.2.2.2.2)⟩
  have hap := fun i j hi hj e => hapn j i hj hi (Eq.symm e)
  refine lv_topi (fun x26 ex26 => ?_)
  refine lv_pop hx hb dL_law_1162 rfl ?_
  refine lv_goto (tgt := 1508) hx hb dL_law_1163 (by decide) ?_
  have hEQ9 : z_EQ I5 I14 := ⟨(by rw [p8 0 0 (by decide), p25 0 0 (by decide)]; exact htd.1), (by rw [p8 1 5 (by decide), p25 0 1 (by decide)]; exact htd.2.1), (by rw [p8 60 9 (by decide), p25 0 83 (by decide)]; exact htd.2.2)⟩
  refine W.widen (k := cells + 8) (n := slots + 2006) (by omega) (by omega) ?_
  exact kk c ad I5 I14 J15 _ _ _ hLXI5 hLMI14 hEQ9 hWX hWM hap hS (lv_sub hl [0, 1, 2, 3] rfl)
set_option maxHeartbeats 8000000 in
set_option maxRecDepth 100000 in
theorem lc_28 {p : Program} {e : Env} {s : State} {m : MethodId} {below : List Frame} {meth : Method} {c0 : Code} {b L : Nat} {xs : Nat → Int32} (l : Launch) {G : z_G} {A : Nat → Prop} {adK adV : Nat → Nat} (hK : z_K G s) (hA : ∀ q : Nat, s.heap.size ≤ q → A q) (hAi : ∀ q : Nat, A q → s.heap.size ≤ q) (hSt : z_St A s s.heap) (hKn : z_Cq adK adV A s s.heap) (hL : L ≤ 3584) (C0 : lw_At p s m meth c0 b L xs) {c : z_C} {ad adM : Nat → Nat} {Ix Im : z_I} {Jm : z_J} (hLX : z_LX c Ix) (hLM : z_LM Im) (htd : z_EQ Ix Im) {H : Heap} {locs : List Loc} {ls : Array Slot} (hWX : z_W G A (shC c, ad, Ix, JX, PC c ad) H) (hWM : z_W G A (shM, adM, Im, Jm, PM adM) H) (hap : ∀ i j, shC c i ≠ none → shM j ≠ none → ad i ≠ adM j) (hS : va_S A s.heap H locs) {i : Int32} (hi0 : 0 ≤ i.toInt) (hiL : i.toInt + 7 ≤ (L : Int)) (hl : lv_has ls 4 [(3, .int i), (2, .ref (adM 0)), (1, .ref (ad 0)), (0, .ref b)]) {cells slots : Nat} (hce : cells + 8 ≤ 600000) (hsl : slots + 2006 ≤ 7302250) (kk : ∀ (c : z_C) (ad : Nat → Nat) (Ix Im : z_I) (Jm : z_J) (H : Heap) (locs : List Loc) (ls : Array Slot), z_LX c Ix → z_LM Im → z_EQ Ix Im → z_W G A (shC c, ad, Ix, JX, PC c ad) H → z_W G A (shM, adM, Im, Jm, PM adM) H → (∀ i j, shC c i ≠ none → shM j ≠ none → ad i ≠ adM j) → va_S A s.heap H locs → lv_has ls 4 [(3, .int i), (2, .ref (adM 0)), (1, .ref (ad 0)), (0, .ref b)] → W p l e room_1 s m #[Value.ref b] below meth c0 H locs (cells + 8) (slots + 2006) (lw_Z below #[Value.ref b] s) (F0 m 1508 ls [])) : W p l e room_1 s m #[Value.ref b] below meth c0 H locs (cells) (slots) (lw_Z below #[Value.ref b] s) (F0 m 1166 ls []) := by
  obtain ⟨hx, hb, hr, hml, hown, hts0, hX, hbl, hlocks, hgv⟩ := id C0
  have hown : s.vm.findClass RL = some m.cls := hown
  have hts : ∀ w ∈ wsL_law, w.before #[Value.ref b] s = true := fun w hw => hts0 w (wsL_law_in w hw)
  have hbA : ¬ A b := fun h => absurd (hAi b h) (Nat.not_le.mpr hbl)
  have hLi : (L : Int) ≤ 3584 := by omega
  refine lv_aload_n hx hb dL_law_1166 rfl (lv_at hl 2 rfl) ?_
  refine lv_aload_n hx hb dL_law_1167 rfl (lv_at hl 3 rfl) ?_
  refine lv_iload_n hx hb dL_law_1168 rfl (lv_at hl 0 rfl) ?_
  refine lv_iconst (v := 1) hx hb dL_law_1169 (by decide) ?_
  refine lv_iadd hx hb dL_law_1170 ?_
  refine lv_topi (fun x1 ex1 => ?_)
  have tx1 : x1.toInt = i.toInt + 1 := z_tadd ex1 rfl z_l1 (by omega) (by omega)
  refine va_sld hx hb hX hbl hbA hS (z_ix rfl (by omega) (by omega)) dL_law_1171 ?_
  refine lv_topi (fun x2 ex2 => ?_)
  refine lv_aload_n hx hb dL_law_1172 rfl (lv_at hl 3 rfl) ?_
  refine lv_iload_n hx hb dL_law_1173 rfl (lv_at hl 0 rfl) ?_
  refine lv_iconst (v := 2) hx hb dL_law_1174 (by decide) ?_
  refine lv_iadd hx hb dL_law_1175 ?_
  refine lv_topi (fun x3 ex3 => ?_)
  have tx3 : x3.toInt = i.toInt + 2 := z_tadd ex3 rfl z_l2 (by omega) (by omega)
  refine va_sld hx hb hX hbl hbA hS (z_ix rfl (by omega) (by omega)) dL_law_1176 ?_
  refine lv_topi (fun x4 ex4 => ?_)
  refine lv_aload_n hx hb dL_law_1177 rfl (lv_at hl 3 rfl) ?_
  refine lv_iload_n hx hb dL_law_1178 rfl (lv_at hl 0 rfl) ?_
  refine lv_iconst (v := 3) hx hb dL_law_1179 (by decide) ?_
  refine lv_iadd hx hb dL_law_1180 ?_
  refine lv_topi (fun x5 ex5 => ?_)
  have tx5 : x5.toInt = i.toInt + 3 := z_tadd ex5 rfl z_l3 (by omega) (by omega)
  refine va_sld hx hb hX hbl hbA hS (z_ix rfl (by omega) (by omega)) dL_law_1181 ?_
  refine lv_topi (fun x6 ex6 => ?_)
  refine lv_aload_n hx hb dL_law_1182 rfl (lv_at hl 3 rfl) ?_
  refine lv_iload_n hx hb dL_law_1183 rfl (lv_at hl 0 rfl) ?_
  refine lv_iconst (v := 4) hx hb dL_law_1184 (by decide) ?_
  refine lv_iadd hx hb dL_law_1185 ?_
  refine lv_topi (fun x7 ex7 => ?_)
  have tx7 : x7.toInt = i.toInt + 4 := z_tadd ex7 rfl z_l4 (by omega) (by omega)
  refine va_sld hx hb hX hbl hbA hS (z_ix rfl (by omega) (by omega)) dL_law_1186 ?_
  refine lv_topi (fun x8 ex8 => ?_)
  refine lv_aload_n hx hb dL_law_1187 rfl (lv_at hl 3 rfl) ?_
  refine lv_iload_n hx hb dL_law_1188 rfl (lv_at hl 0 rfl) ?_
  refine lv_iconst (v := 5) hx hb dL_law_1189 (by decide) ?_
  refine lv_iadd hx hb dL_law_1190 ?_
  refine lv_topi (fun x9 ex9 => ?_)
  have tx9 : x9.toInt = i.toInt + 5 := z_tadd ex9 rfl z_l5 (by omega) (by omega)
  refine va_sld hx hb hX hbl hbA hS (z_ix rfl (by omega) (by omega)) dL_law_1191 ?_
  refine lv_topi (fun x10 ex10 => ?_)
  refine lv_aload_n hx hb dL_law_1192 rfl (lv_at hl 3 rfl) ?_
  refine lv_iload_n hx hb dL_law_1193 rfl (lv_at hl 0 rfl) ?_
  refine lv_bipush (v := 6) hx hb dL_law_1194 (by decide) ?_
  refine lv_iadd hx hb dL_law_1196 ?_
  refine lv_topi (fun x11 ex11 => ?_)
  have tx11 : x11.toInt = i.toInt + 6 := z_tadd ex11 rfl z_l6 (by omega) (by omega)
  refine va_sld hx hb hX hbl hbA hS (z_ix rfl (by omega) (by omega)) dL_law_1197 ?_
  refine lv_topi (fun x12 ex12 => ?_)
  refine z_ciD hWX hWM hap hS hA (va_runV (As := [.int x2, .int x4, .int x6, .int x8, .int x10, .int x12]) (rest := []) ⟨hx, hb, hml, hown, hts0⟩ (sx_X11_ask_e l G ad c Ix hLX.2.2.1 hLX.1 hLX.2.2.2.2.2.2.1 hLX.2.2.2.2.2.2.2.2.1 x2 x4 x6 x8 x10 x12 hLX.2.2.2.2.2.2.2.2.2.1 hLX.2.2.2.2.2.2.2.2.2.2.1 _) (cwV 6 hts0 gV_X11_ask rfl rfl rfl (by decide +kernel) ⟨(Nat.le_of_ble_eq_true rfl), (Nat.le_of_ble_eq_true rfl)⟩) (z_preV (i := 0) hK hWX rfl rfl) rfl rfl hl.1 rfl (lv_room (Nat.le_of_ble_eq_true rfl)) dL_law_1198 ⟨(by show cells + 0 ≤ 600000; omega), (by show slots + 0 ≤ 7302250; omega)⟩) (fun r u1 H locs hp hWX hWM hap hS => ?_)
  obtain ⟨I13, rfl, p15, p16, p17, p18, p19, p20⟩ := hp
  have hLXI13 : z_LX c I13 := ⟨p16, ⟨(by show 0 ≤ (I13 12 1).toInt ∧ (I13 12 1).toInt ≤ 500; rw [p19 12 1 (by decide)]; exact hLX.2.1.1), (by show 0 ≤ (I13 12 5).toInt ∧ (I13 12 5).toInt ≤ 501; rw [p19 12 5 (by decide)]; exact hLX.2.1.2.1), (by show (-1) ≤ (I13 12 6).toInt ∧ (I13 12 6).toInt ≤ 1000000; rw [p19 12 6 (by decide)]; exact hLX.2.1.2.2.1), (by show 0 ≤ (I13 12 9).toInt ∧ (I13 12 9).toInt ≤ 500; rw [p19 12 9 (by decide)]; exact hLX.2.1.2.2.2.1), (by show 0 ≤ (I13 12 13).toInt ∧ (I13 12 13).toInt ≤ 24; rw [p19 12 13 (by decide)]; exact hLX.2.1.2.2.2.2)⟩, p15, (by show 0 ≤ (I13 26 4).toInt ∧ (I13 26 4).toInt ≤ 512; rw [p19 26 4 (by decide)]; exact hLX.2.2.2.1), (by show 0 ≤ (I13 30 8).toInt ∧ (I13 30 8).toInt ≤ 300; rw [p19 30 8 (by decide)]; exact hLX.2.2.2.2.1), (by show 0 ≤ (I13 41 10).toInt ∧ (I13 41 10).toInt ≤ 4; rw [p19 41 10 (by decide)]; exact hLX.2.2.2.2.2.1), p17, (by show 0 ≤ (I13 72 2).toInt ∧ (I13 72 2).toInt ≤ 30; rw [p19 72 2 (by decide)]; exact hLX.2.2.2.2.2.2.2.1), p18, hLX.2.2.2.2.2.2.2.2.2.1, hLX.2.2.2.2.2.2.2.2.2.2.1, (z_iS_fr hLX.2.2.2.2.2.2.2.2.2.2.2.1 p19 (by decide)), (by rw [p19 0 8 (by decide)]; exact hLX.2.2.2.2.2.2.2.2.2.2.2.2.1), (by rw [p19 21 2 (by decide)]; exact hLX.2.2.2.2.2.2.2.2.2.2.2.2.2)⟩
  refine lv_topi (fun x21 ex21 => ?_)
  rw [← ex21] at p20
  refine lv_aload_n hx hb dL_law_1201 rfl (lv_at hl 1 rfl) ?_
  refine lv_aload_n hx hb dL_law_1202 rfl (lv_at hl 3 rfl) ?_
  refine lv_iload_n hx hb dL_law_1203 rfl (lv_at hl 0 rfl) ?_
  refine lv_iconst (v := 1) hx hb dL_law_1204 (by decide) ?_
  refine lv_iadd hx hb dL_law_1205 ?_
  refine lv_topi (fun x22 ex22 => ?_)
  have tx22 : x22.toInt = i.toInt + 1 := z_tadd ex22 rfl z_l1 (by omega) (by omega)
  refine va_sld hx hb hX hbl hbA hS (z_ix rfl (by omega) (by omega)) dL_law_1206 ?_
  refine lv_topi (fun x23 ex23 => ?_)
  refine lv_aload_n hx hb dL_law_1207 rfl (lv_at hl 3 rfl) ?_
  refine lv_iload_n hx hb dL_law_1208 rfl (lv_at hl 0 rfl) ?_
  refine lv_iconst (v := 2) hx hb dL_law_1209 (by decide) ?_
  refine lv_iadd hx hb dL_law_1210 ?_
  refine lv_topi (fun x24 ex24 => ?_)
  have tx24 : x24.toInt = i.toInt + 2 := z_tadd ex24 rfl z_l2 (by omega) (by omega)
  refine va_sld hx hb hX hbl hbA hS (z_ix rfl (by omega) (by omega)) dL_law_1211 ?_
  refine lv_topi (fun x25 ex25 => ?_)
  refine lv_aload_n hx hb dL_law_1212 rfl (lv_at hl 3 rfl) ?_
  refine lv_iload_n hx hb dL_law_1213 rfl (lv_at hl 0 rfl) ?_
  refine lv_iconst (v := 3) hx hb dL_law_1214 (by decide) ?_
  refine lv_iadd hx hb dL_law_1215 ?_
  refine lv_topi (fun x26 ex26 => ?_)
  have tx26 : x26.toInt = i.toInt + 3 := z_tadd ex26 rfl z_l3 (by omega) (by omega)
  refine va_sld hx hb hX hbl hbA hS (z_ix rfl (by omega) (by omega)) dL_law_1216 ?_
  refine lv_topi (fun x27 ex27 => ?_)
  refine lv_aload_n hx hb dL_law_1217 rfl (lv_at hl 3 rfl) ?_
  refine lv_iload_n hx hb dL_law_1218 rfl (lv_at hl 0 rfl) ?_
  refine lv_iconst (v := 4) hx hb dL_law_1219 (by decide) ?_
  refine lv_iadd hx hb dL_law_1220 ?_
  refine lv_topi (fun x28 ex28 => ?_)
  have tx28 : x28.toInt = i.toInt + 4 := z_tadd ex28 rfl z_l4 (by omega) (by omega)
  refine va_sld hx hb hX hbl hbA hS (z_ix rfl (by omega) (by omega)) dL_law_1221 ?_
  refine lv_topi (fun x29 ex29 => ?_)
  refine lv_aload_n hx hb dL_law_1222 rfl (lv_at hl 3 rfl) ?_
  refine lv_iload_n hx hb dL_law_1223 rfl (lv_at hl 0 rfl) ?_
  refine lv_iconst (v := 5) hx hb dL_law_1224 (by decide) ?_
  refine lv_iadd hx hb dL_law_1225 ?_
  refine lv_topi (fun x30 ex30 => ?_)
  have tx30 : x30.toInt = i.toInt + 5 := z_tadd ex30 rfl z_l5 (by omega) (by omega)
  refine va_sld hx hb hX hbl hbA hS (z_ix rfl (by omega) (by omega)) dL_law_1226 ?_
  refine lv_topi (fun x31 ex31 => ?_)
  refine lv_aload_n hx hb dL_law_1227 rfl (lv_at hl 3 rfl) ?_
  refine lv_iload_n hx hb dL_law_1228 rfl (lv_at hl 0 rfl) ?_
  refine lv_bipush (v := 6) hx hb dL_law_1229 (by decide) ?_
  refine lv_iadd hx hb dL_law_1231 ?_
  refine lv_topi (fun x32 ex32 => ?_)
  have tx32 : x32.toInt = i.toInt + 6 := z_tadd ex32 rfl z_l6 (by omega) (by omega)
  refine va_sld hx hb hX hbl hbA hS (z_ix rfl (by omega) (by omega)) dL_law_1232 ?_
  refine lv_topi (fun x33 ex33 => ?_)
  refine z_ciD hWM hWX (fun i j hi hj e => hap j i hj hi e.symm) hS hA (va_runV (As := [.int x23, .int x25, .int x27, .int x29, .int x31, .int x33]) (rest := [.int x21]) ⟨hx, hb, hml, hown, hts0⟩ (sx_X12_ask_e l G adM Im Jm hLM.1 hLM.2.1 hLM.2.2.2.2.2.2.2.2.2.1 hLM.2.2.2.2.2.2.2.2.2.2.2.2.2.2.2.1 hLM.2.2.2.2.2.2.2.2.2.2.2.2.2.2.2.2.1 hLM.2.2.2.2.2.2.2.2.2.2.2.1 hLM.2.2.2.2.2.2.2.2.2.2.2.2.2.2.2.2.2.2.2.2.1 hLM.2.2.2.2.2.2.2.2.2.2.2.2.2.2.2.2.2.1 hLM.2.2.2.2.2.2.2.2.2.2.2.2.2.2.2.2.2.2.1 hLM.2.2.2.2.2.2.2.2.2.2.2.2.2.2.2.2.2.2.2.1 hLM.2.2.2.2.2.2.2.2.2.2.2.2.2.2.2.2.2.2.2.2.2.1 x23 x25 x27 x29 x31 x33 _) (cwV 6 hts0 gV_X12_ask rfl rfl rfl (by decide +kernel) ⟨(Nat.le_of_ble_eq_true rfl), (Nat.le_of_ble_eq_true rfl)⟩) (z_preV (i := 0) hK hWM rfl rfl) rfl rfl hl.1 rfl (lv_room (Nat.le_of_ble_eq_true rfl)) dL_law_1233 ⟨(by show cells + 0 + 0 ≤ 600000; omega), (by show slots + 0 + 0 ≤ 7302250; omega)⟩) (fun r u1 H locs hp hWM hWX hapn hS => ?_)
  obtain ⟨I34, J35, rfl, p36, p37, p38, p39, p40, p41, p42, p43, p44, p45, p46, p47, p48⟩ := hp
  have hLMI34 : z_LM I34 := ⟨p36, p37, (by show 0 ≤ (I34 0 15).toInt ∧ (I34 0 15).toInt ≤ 6100; rw [p47 0 15 (by decide)]; exact hLM.2.2.1), ⟨(by show 0 ≤ (I34 0 31).toInt ∧ (I34 0 31).toInt ≤ 500; rw [p47 0 31 (by decide)]; exact hLM.2.2.2.1.1), (by show 0 ≤ (I34 0 33).toInt ∧ (I34 0 33).toInt ≤ 500; rw [p47 0 33 (by decide)]; exact hLM.2.2.2.1.2.1), (by show 0 ≤ (I34 0 34).toInt ∧ (I34 0 34).toInt ≤ 500; rw [p47 0 34 (by decide)]; exact hLM.2.2.2.1.2.2.1), (by show 0 ≤ (I34 0 35).toInt ∧ (I34 0 35).toInt ≤ 500; rw [p47 0 35 (by decide)]; exact hLM.2.2.2.1.2.2.2)⟩, ⟨(by show 0 ≤ (I34 0 36).toInt ∧ (I34 0 36).toInt ≤ 4; rw [p47 0 36 (by decide)]; exact hLM.2.2.2.2.1.1), (by show 0 ≤ (I34 0 42).toInt ∧ (I34 0 42).toInt ≤ 1; rw [p47 0 42 (by decide)]; exact hLM.2.2.2.2.1.2)⟩, ⟨(by show 0 ≤ (I34 0 47).toInt ∧ (I34 0 47).toInt ≤ 119; rw [p47 0 47 (by decide)]; exact hLM.2.2.2.2.2.1.1), (by show 0 ≤ (I34 0 39).toInt ∧ (I34 0 39).toInt ≤ 100; rw [p47 0 39 (by decide)]; exact hLM.2.2.2.2.2.1.2)⟩, (by show 0 ≤ (I34 0 40).toInt ∧ (I34 0 40).toInt ≤ 6199; rw [p47 0 40 (by decide)]; exact hLM.2.2.2.2.2.2.1), ⟨(by show 0 ≤ (I34 0 54).toInt ∧ (I34 0 54).toInt ≤ 10; rw [p47 0 54 (by decide)]; exact hLM.2.2.2.2.2.2.2.1.1), (by show 0 ≤ (I34 0 55).toInt ∧ (I34 0 55).toInt ≤ 300; rw [p47 0 55 (by decide)]; exact hLM.2.2.2.2.2.2.2.1.2)⟩, (by show 0 ≤ (I34 0 75).toInt ∧ (I34 0 75).toInt ≤ 4; rw [p47 0 75 (by decide)]; exact hLM.2.2.2.2.2.2.2.2.1), p38, (z_rg_fr hLM.2.2.2.2.2.2.2.2.2.2.1 p47 (by decide)), p41, (z_rg_fr hLM.2.2.2.2.2.2.2.2.2.2.2.2.1 p47 (by decide)), (z_rg_fr hLM.2.2.2.2.2.2.2.2.2.2.2.2.2.1 p47 (by decide)), (z_rg_fr hLM.2.2.2.2.2.2.2.2.2.2.2.2.2.2.1 p47 (by decide)), p39, p40, p43, p44, p45, p42, p46, (z_rg_fr hLM.2.2.2.2.2.2.2.2.2.2.2.2.2.2.2.2.2.2.2.2.2.2.1 p47 (by decide)), (z_rg_fr hLM.2.2.2.2.2.2.2.2.2.2.2.2.2.2.2.2.2.2.2.2.2.2.2.1 p47 (by decide)), (z_rg_fr hLM.2.2.2.2.2.2.2.2.2.2.2.2.2.2.2.2.2.2.2.2.2.2.2.2.1 p47 (by decide)), (z_rg_fr hLM.2.2.2.2.2.2.2.2.2.2.2.2.2.2.2.2.2.2.2.2.2.2.2.2.2.1 p47 (by decide)), (z_rg_fr hLM.2.2.2.2.2.2.2.2.2.2.2.2.2.2.2.2.2.2.2.2.2.2.2.2.2.2.1 p47 (by decide)), (z_rg_fr hLM.2.2.2.2.2.2.2.2.2.2.2.2.2.2.2.2.2.2.2.2.2.2.2.2.2.2.2.1 p47 (by decide)), (z_rg_fr hLM.2.2.2.2.2.2.2.2.2.2.2.2.2.2.2.2.2.2.2.2.2.2.2.2.2.2.2.2.1 p47 (by decide)), (by unfold z_iro; rw [p47 0 13 (by decide), p47 0 14 (by decide), p47 0 15 (by decide)]; exact hLM.2.2.2.2.2.2.2.2.2.2.2.2.2.2.2.2.2.2.2.2.2.2.2.2.2.2.2.2.2)⟩
  have hap := fun i j hi hj e => hapn j i hj hi (Eq.symm e)
  refine lv_topi (fun x49 ex49 => ?_)
  rw [← ex49] at p48
  have hqtoday : (Ix 0 0).toInt = (Im 0 0).toInt := congrArg Int32.toInt (show Ix 0 0 = Im 0 0 from htd.1)
  have hqholders : (Ix 1 5).toInt = (Im 0 1).toInt := congrArg Int32.toInt (show Ix 1 5 = Im 0 1 from htd.2.1)
  have hqjourneys : (Ix 60 9).toInt = (Im 0 83).toInt := congrArg Int32.toInt (show Ix 60 9 = Im 0 83 from htd.2.2)
  have hv0 : x2.toInt = x23.toInt := by rw [ex2, ex23, ex1, ex22]
  have hv1 : x4.toInt = x25.toInt := by rw [ex4, ex25, ex3, ex24]
  have hv2 : x6.toInt = x27.toInt := by rw [ex6, ex27, ex5, ex26]
  have hv3 : x8.toInt = x29.toInt := by rw [ex8, ex29, ex7, ex28]
  have hv4 : x10.toInt = x31.toInt := by rw [ex10, ex31, ex9, ex30]
  have hv5 : x12.toInt = x33.toInt := by rw [ex12, ex33, ex11, ex32]
  have hrr : x21 = x49 := Int32.toInt_inj.mp (by omega)
  refine lv_icmp_eq (tgt := 1508) hx hb dL_law_1236 (by decide) (fun c9 => ?_) (fun c9 => absurd hrr c9)
  have hEQ9 : z_EQ I13 I34 := ⟨(by rw [p19 0 0 (by decide), p47 0 0 (by decide)]; exact htd.1), (by rw [p19 1 5 (by decide), p47 0 1 (by decide)]; exact htd.2.1), (Int32.toInt_inj.mp (by omega))⟩
  refine W.widen (k := cells + 8) (n := slots + 2006) (by omega) (by omega) ?_
  exact kk c ad I13 I34 J35 _ _ _ hLXI13 hLMI34 hEQ9 hWX hWM hap hS (lv_sub hl [0, 1, 2, 3] rfl)
set_option maxHeartbeats 8000000 in
set_option maxRecDepth 100000 in
theorem lc_29 {p : Program} {e : Env} {s : State} {m : MethodId} {below : List Frame} {meth : Method} {c0 : Code} {b L : Nat} {xs : Nat → Int32} (l : Launch) {G : z_G} {A : Nat → Prop} {adK adV : Nat → Nat} (hK : z_K G s) (hA : ∀ q : Nat, s.heap.size ≤ q → A q) (hAi : ∀ q : Nat, A q → s.heap.size ≤ q) (hSt : z_St A s s.heap) (hKn : z_Cq adK adV A s s.heap) (hL : L ≤ 3584) (C0 : lw_At p s m meth c0 b L xs) {c : z_C} {ad adM : Nat → Nat} {Ix Im : z_I} {Jm : z_J} (hLX : z_LX c Ix) (hLM : z_LM Im) (htd : z_EQ Ix Im) {H : Heap} {locs : List Loc} {ls : Array Slot} (hWX : z_W G A (shC c, ad, Ix, JX, PC c ad) H) (hWM : z_W G A (shM, adM, Im, Jm, PM adM) H) (hap : ∀ i j, shC c i ≠ none → shM j ≠ none → ad i ≠ adM j) (hS : va_S A s.heap H locs) {i : Int32} (hi0 : 0 ≤ i.toInt) (hiL : i.toInt + 7 ≤ (L : Int)) (hl : lv_has ls 4 [(3, .int i), (2, .ref (adM 0)), (1, .ref (ad 0)), (0, .ref b)]) {cells slots : Nat} (hce : cells + 8 ≤ 600000) (hsl : slots + 2006 ≤ 7302250) (kk : ∀ (c : z_C) (ad : Nat → Nat) (Ix Im : z_I) (Jm : z_J) (H : Heap) (locs : List Loc) (ls : Array Slot), z_LX c Ix → z_LM Im → z_EQ Ix Im → z_W G A (shC c, ad, Ix, JX, PC c ad) H → z_W G A (shM, adM, Im, Jm, PM adM) H → (∀ i j, shC c i ≠ none → shM j ≠ none → ad i ≠ adM j) → va_S A s.heap H locs → lv_has ls 4 [(3, .int i), (2, .ref (adM 0)), (1, .ref (ad 0)), (0, .ref b)] → W p l e room_1 s m #[Value.ref b] below meth c0 H locs (cells + 8) (slots + 2006) (lw_Z below #[Value.ref b] s) (F0 m 1508 ls [])) : W p l e room_1 s m #[Value.ref b] below meth c0 H locs (cells) (slots) (lw_Z below #[Value.ref b] s) (F0 m 1241 ls []) := by
  obtain ⟨hx, hb, hr, hml, hown, hts0, hX, hbl, hlocks, hgv⟩ := id C0
  have hown : s.vm.findClass RL = some m.cls := hown
  have hts : ∀ w ∈ wsL_law, w.before #[Value.ref b] s = true := fun w hw => hts0 w (wsL_law_in w hw)
  have hbA : ¬ A b := fun h => absurd (hAi b h) (Nat.not_le.mpr hbl)
  have hLi : (L : Int) ≤ 3584 := by omega
  refine lv_aload_n hx hb dL_law_1241 rfl (lv_at hl 2 rfl) ?_
  refine lv_aload_n hx hb dL_law_1242 rfl (lv_at hl 3 rfl) ?_
  refine lv_iload_n hx hb dL_law_1243 rfl (lv_at hl 0 rfl) ?_
  refine lv_iconst (v := 1) hx hb dL_law_1244 (by decide) ?_
  refine lv_iadd hx hb dL_law_1245 ?_
  refine lv_topi (fun x1 ex1 => ?_)
  have tx1 : x1.toInt = i.toInt + 1 := z_tadd ex1 rfl z_l1 (by omega) (by omega)
  refine va_sld hx hb hX hbl hbA hS (z_ix rfl (by omega) (by omega)) dL_law_1246 ?_
  refine lv_topi (fun x2 ex2 => ?_)
  refine lv_aload_n hx hb dL_law_1247 rfl (lv_at hl 3 rfl) ?_
  refine lv_iload_n hx hb dL_law_1248 rfl (lv_at hl 0 rfl) ?_
  refine lv_iconst (v := 2) hx hb dL_law_1249 (by decide) ?_
  refine lv_iadd hx hb dL_law_1250 ?_
  refine lv_topi (fun x3 ex3 => ?_)
  have tx3 : x3.toInt = i.toInt + 2 := z_tadd ex3 rfl z_l2 (by omega) (by omega)
  refine va_sld hx hb hX hbl hbA hS (z_ix rfl (by omega) (by omega)) dL_law_1251 ?_
  refine lv_topi (fun x4 ex4 => ?_)
  refine z_ciD hWX hWM hap hS hA (va_runV (As := [.int x2, .int x4]) (rest := []) ⟨hx, hb, hml, hown, hts0⟩ (sx_X11_appeal l G ad c Ix hLX.2.2.1 hLX.1 hLX.2.2.2.2.2.2.1 x2 x4 hLX.2.2.2.2.2.2.2.2.2.1 hLX.2.2.2.2.2.2.2.2.2.2.1 _) (cwV 2 hts0 gV_X11_appeal rfl rfl rfl (by decide +kernel) ⟨(Nat.le_of_ble_eq_true rfl), (Nat.le_of_ble_eq_true rfl)⟩) (z_preV (i := 0) hK hWX rfl rfl) rfl rfl hl.1 rfl (lv_room (Nat.le_of_ble_eq_true rfl)) dL_law_1252 ⟨(by show cells + 0 ≤ 600000; omega), (by show slots + 0 ≤ 7302250; omega)⟩) (fun r u1 H locs hp hWX hWM hap hS => ?_)
  obtain ⟨I5, rfl, p7, p8, p9, p10⟩ := hp
  have hLXI5 : z_LX c I5 := ⟨p8, ⟨(by show 0 ≤ (I5 12 1).toInt ∧ (I5 12 1).toInt ≤ 500; rw [p10 12 1 (by decide)]; exact hLX.2.1.1), (by show 0 ≤ (I5 12 5).toInt ∧ (I5 12 5).toInt ≤ 501; rw [p10 12 5 (by decide)]; exact hLX.2.1.2.1), (by show (-1) ≤ (I5 12 6).toInt ∧ (I5 12 6).toInt ≤ 1000000; rw [p10 12 6 (by decide)]; exact hLX.2.1.2.2.1), (by show 0 ≤ (I5 12 9).toInt ∧ (I5 12 9).toInt ≤ 500; rw [p10 12 9 (by decide)]; exact hLX.2.1.2.2.2.1), (by show 0 ≤ (I5 12 13).toInt ∧ (I5 12 13).toInt ≤ 24; rw [p10 12 13 (by decide)]; exact hLX.2.1.2.2.2.2)⟩, p7, (by show 0 ≤ (I5 26 4).toInt ∧ (I5 26 4).toInt ≤ 512; rw [p10 26 4 (by decide)]; exact hLX.2.2.2.1), (by show 0 ≤ (I5 30 8).toInt ∧ (I5 30 8).toInt ≤ 300; rw [p10 30 8 (by decide)]; exact hLX.2.2.2.2.1), (by show 0 ≤ (I5 41 10).toInt ∧ (I5 41 10).toInt ≤ 4; rw [p10 41 10 (by decide)]; exact hLX.2.2.2.2.2.1), p9, (by show 0 ≤ (I5 72 2).toInt ∧ (I5 72 2).toInt ≤ 30; rw [p10 72 2 (by decide)]; exact hLX.2.2.2.2.2.2.2.1), ⟨(by show 0 ≤ (I5 0 0).toInt ∧ (I5 0 0).toInt ≤ 719; rw [p10 0 0 (by decide)]; exact hLX.2.2.2.2.2.2.2.2.1.1), (by show 0 ≤ (I5 0 8).toInt ∧ (I5 0 8).toInt ≤ 10; rw [p10 0 8 (by decide)]; exact hLX.2.2.2.2.2.2.2.2.1.2)⟩, hLX.2.2.2.2.2.2.2.2.2.1, hLX.2.2.2.2.2.2.2.2.2.2.1, (z_iS_fr hLX.2.2.2.2.2.2.2.2.2.2.2.1 p10 (by decide)), (by rw [p10 0 8 (by decide)]; exact hLX.2.2.2.2.2.2.2.2.2.2.2.2.1), (by rw [p10 21 2 (by decide)]; exact hLX.2.2.2.2.2.2.2.2.2.2.2.2.2)⟩
  refine lv_topi (fun x11 ex11 => ?_)
  refine lv_pop hx hb dL_law_1255 rfl ?_
  refine lv_aload_n hx hb dL_law_1256 rfl (lv_at hl 1 rfl) ?_
  refine lv_aload_n hx hb dL_law_1257 rfl (lv_at hl 3 rfl) ?_
  refine lv_iload_n hx hb dL_law_1258 rfl (lv_at hl 0 rfl) ?_
  refine lv_iconst (v := 1) hx hb dL_law_1259 (by decide) ?_
  refine lv_iadd hx hb dL_law_1260 ?_
  refine lv_topi (fun x12 ex12 => ?_)
  have tx12 : x12.toInt = i.toInt + 1 := z_tadd ex12 rfl z_l1 (by omega) (by omega)
  refine va_sld hx hb hX hbl hbA hS (z_ix rfl (by omega) (by omega)) dL_law_1261 ?_
  refine lv_topi (fun x13 ex13 => ?_)
  refine lv_aload_n hx hb dL_law_1262 rfl (lv_at hl 3 rfl) ?_
  refine lv_iload_n hx hb dL_law_1263 rfl (lv_at hl 0 rfl) ?_
  refine lv_iconst (v := 2) hx hb dL_law_1264 (by decide) ?_
  refine lv_iadd hx hb dL_law_1265 ?_
  refine lv_topi (fun x14 ex14 => ?_)
  have tx14 : x14.toInt = i.toInt + 2 := z_tadd ex14 rfl z_l2 (by omega) (by omega)
  refine va_sld hx hb hX hbl hbA hS (z_ix rfl (by omega) (by omega)) dL_law_1266 ?_
  refine lv_topi (fun x15 ex15 => ?_)
  refine z_ciD hWM hWX (fun i j hi hj e => hap j i hj hi e.symm) hS hA (va_runV (As := [.int x13, .int x15]) (rest := []) ⟨hx, hb, hml, hown, hts0⟩ (sx_X12_appeal l G adM Im Jm hLM.1 hLM.2.1 hLM.2.2.2.2.2.2.2.2.2.1 hLM.2.2.2.2.2.2.2.2.2.2.2.2.2.2.2.1 hLM.2.2.2.2.2.2.2.2.2.2.2.2.2.2.2.2.1 hLM.2.2.2.2.2.2.2.2.2.2.2.1 hLM.2.2.2.2.2.2.2.2.2.2.2.2.2.2.2.2.2.2.2.2.1 hLM.2.2.2.2.2.2.2.2.2.2.2.2.2.2.2.2.2.1 hLM.2.2.2.2.2.2.2.2.2.2.2.2.2.2.2.2.2.2.1 hLM.2.2.2.2.2.2.2.2.2.2.2.2.2.2.2.2.2.2.2.1 hLM.2.2.2.2.2.2.2.2.2.2.2.2.2.2.2.2.2.2.2.2.2.1 x13 x15 _) (cwV 2 hts0 gV_X12_appeal rfl rfl rfl (by decide +kernel) ⟨(Nat.le_of_ble_eq_true rfl), (Nat.le_of_ble_eq_true rfl)⟩) (z_preV (i := 0) hK hWM rfl rfl) rfl rfl hl.1 rfl (lv_room (Nat.le_of_ble_eq_true rfl)) dL_law_1267 ⟨(by show cells + 0 + 0 ≤ 600000; omega), (by show slots + 0 + 0 ≤ 7302250; omega)⟩) (fun r u1 H locs hp hWM hWX hapn hS => ?_)
  obtain ⟨I16, J17, rfl, p18, p19, p20, p21, p22, p23, p24, p25, p26, p27, p28, p29⟩ := hp
  have hLMI16 : z_LM I16 := ⟨p18, p19, (by show 0 ≤ (I16 0 15).toInt ∧ (I16 0 15).toInt ≤ 6100; rw [p29 0 15 (by decide)]; exact hLM.2.2.1), ⟨(by show 0 ≤ (I16 0 31).toInt ∧ (I16 0 31).toInt ≤ 500; rw [p29 0 31 (by decide)]; exact hLM.2.2.2.1.1), (by show 0 ≤ (I16 0 33).toInt ∧ (I16 0 33).toInt ≤ 500; rw [p29 0 33 (by decide)]; exact hLM.2.2.2.1.2.1), (by show 0 ≤ (I16 0 34).toInt ∧ (I16 0 34).toInt ≤ 500; rw [p29 0 34 (by decide)]; exact hLM.2.2.2.1.2.2.1), (by show 0 ≤ (I16 0 35).toInt ∧ (I16 0 35).toInt ≤ 500; rw [p29 0 35 (by decide)]; exact hLM.2.2.2.1.2.2.2)⟩, ⟨(by show 0 ≤ (I16 0 36).toInt ∧ (I16 0 36).toInt ≤ 4; rw [p29 0 36 (by decide)]; exact hLM.2.2.2.2.1.1), (by show 0 ≤ (I16 0 42).toInt ∧ (I16 0 42).toInt ≤ 1; rw [p29 0 42 (by decide)]; exact hLM.2.2.2.2.1.2)⟩, ⟨(by show 0 ≤ (I16 0 47).toInt ∧ (I16 0 47).toInt ≤ 119; rw [p29 0 47 (by decide)]; exact hLM.2.2.2.2.2.1.1), (by show 0 ≤ (I16 0 39).toInt ∧ (I16 0 39).toInt ≤ 100; rw [p29 0 39 (by decide)]; exact hLM.2.2.2.2.2.1.2)⟩, (by show 0 ≤ (I16 0 40).toInt ∧ (I16 0 40).toInt ≤ 6199; rw [p29 0 40 (by decide)]; exact hLM.2.2.2.2.2.2.1), ⟨(by show 0 ≤ (I16 0 54).toInt ∧ (I16 0 54).toInt ≤ 10; rw [p29 0 54 (by decide)]; exact hLM.2.2.2.2.2.2.2.1.1), (by show 0 ≤ (I16 0 55).toInt ∧ (I16 0 55).toInt ≤ 300; rw [p29 0 55 (by decide)]; exact hLM.2.2.2.2.2.2.2.1.2)⟩, (by show 0 ≤ (I16 0 75).toInt ∧ (I16 0 75).toInt ≤ 4; rw [p29 0 75 (by decide)]; exact hLM.2.2.2.2.2.2.2.2.1), p20, (z_rg_fr hLM.2.2.2.2.2.2.2.2.2.2.1 p29 (by decide)), p23, (z_rg_fr hLM.2.2.2.2.2.2.2.2.2.2.2.2.1 p29 (by decide)), (z_rg_fr hLM.2.2.2.2.2.2.2.2.2.2.2.2.2.1 p29 (by decide)), (z_rg_fr hLM.2.2.2.2.2.2.2.2.2.2.2.2.2.2.1 p29 (by decide)), p21, p22, p25, p26, p27, p24, p28, (z_rg_fr hLM.2.2.2.2.2.2.2.2.2.2.2.2.2.2.2.2.2.2.2.2.2.2.1 p29 (by decide)), (z_rg_fr hLM.2.2.2.2.2.2.2.2.2.2.2.2.2.2.2.2.2.2.2.2.2.2.2.1 p29 (by decide)), (z_rg_fr hLM.2.2.2.2.2.2.2.2.2.2.2.2.2.2.2.2.2.2.2.2.2.2.2.2.1 p29 (by decide)), (z_rg_fr hLM.2.2.2.2.2.2.2.2.2.2.2.2.2.2.2.2.2.2.2.2.2.2.2.2.2.1 p29 (by decide)), (z_rg_fr hLM.2.2.2.2.2.2.2.2.2.2.2.2.2.2.2.2.2.2.2.2.2.2.2.2.2.2.1 p29 (by decide)), (z_rg_fr hLM.2.2.2.2.2.2.2.2.2.2.2.2.2.2.2.2.2.2.2.2.2.2.2.2.2.2.2.1 p29 (by decide)), (z_rg_fr hLM.2.2.2.2.2.2.2.2.2.2.2.2.2.2.2.2.2.2.2.2.2.2.2.2.2.2.2.2.1 p29 (by decide)), (by unfold z_iro; rw [p29 0 13 (by decide), p29 0 14 (by decide), p29 0 15 (by decide)]; exact hLM.2.2.2.2.2.2.2.2.2.2.2.2.2.2.2.2.2.2.2.2.2.2.2.2.2.2.2.2.2)⟩
  have hap := fun i j hi hj e => hapn j i hj hi (Eq.symm e)
  refine lv_topi (fun x30 ex30 => ?_)
  refine lv_pop hx hb dL_law_1270 rfl ?_
  refine lv_goto (tgt := 1508) hx hb dL_law_1271 (by decide) ?_
  have hEQ9 : z_EQ I5 I16 := ⟨(by rw [p10 0 0 (by decide), p29 0 0 (by decide)]; exact htd.1), (by rw [p10 1 5 (by decide), p29 0 1 (by decide)]; exact htd.2.1), (by rw [p10 60 9 (by decide), p29 0 83 (by decide)]; exact htd.2.2)⟩
  refine W.widen (k := cells + 8) (n := slots + 2006) (by omega) (by omega) ?_
  exact kk c ad I5 I16 J17 _ _ _ hLXI5 hLMI16 hEQ9 hWX hWM hap hS (lv_sub hl [0, 1, 2, 3] rfl)
set_option maxHeartbeats 8000000 in
set_option maxRecDepth 100000 in
theorem lc_30 {p : Program} {e : Env} {s : State} {m : MethodId} {below : List Frame} {meth : Method} {c0 : Code} {b L : Nat} {xs : Nat → Int32} (l : Launch) {G : z_G} {A : Nat → Prop} {adK adV : Nat → Nat} (hK : z_K G s) (hA : ∀ q : Nat, s.heap.size ≤ q → A q) (hAi : ∀ q : Nat, A q → s.heap.size ≤ q) (hSt : z_St A s s.heap) (hKn : z_Cq adK adV A s s.heap) (hL : L ≤ 3584) (C0 : lw_At p s m meth c0 b L xs) {c : z_C} {ad adM : Nat → Nat} {Ix Im : z_I} {Jm : z_J} (hLX : z_LX c Ix) (hLM : z_LM Im) (htd : z_EQ Ix Im) {H : Heap} {locs : List Loc} {ls : Array Slot} (hWX : z_W G A (shC c, ad, Ix, JX, PC c ad) H) (hWM : z_W G A (shM, adM, Im, Jm, PM adM) H) (hap : ∀ i j, shC c i ≠ none → shM j ≠ none → ad i ≠ adM j) (hS : va_S A s.heap H locs) {i : Int32} (hi0 : 0 ≤ i.toInt) (hiL : i.toInt + 7 ≤ (L : Int)) (hl : lv_has ls 4 [(3, .int i), (2, .ref (adM 0)), (1, .ref (ad 0)), (0, .ref b)]) {cells slots : Nat} (hce : cells + 8 ≤ 600000) (hsl : slots + 2006 ≤ 7302250) (kk : ∀ (c : z_C) (ad : Nat → Nat) (Ix Im : z_I) (Jm : z_J) (H : Heap) (locs : List Loc) (ls : Array Slot), z_LX c Ix → z_LM Im → z_EQ Ix Im → z_W G A (shC c, ad, Ix, JX, PC c ad) H → z_W G A (shM, adM, Im, Jm, PM adM) H → (∀ i j, shC c i ≠ none → shM j ≠ none → ad i ≠ adM j) → va_S A s.heap H locs → lv_has ls 4 [(3, .int i), (2, .ref (adM 0)), (1, .ref (ad 0)), (0, .ref b)] → W p l e room_1 s m #[Value.ref b] below meth c0 H locs (cells + 8) (slots + 2006) (lw_Z below #[Value.ref b] s) (F0 m 1508 ls [])) : W p l e room_1 s m #[Value.ref b] below meth c0 H locs (cells) (slots) (lw_Z below #[Value.ref b] s) (F0 m 1274 ls []) := by
  obtain ⟨hx, hb, hr, hml, hown, hts0, hX, hbl, hlocks, hgv⟩ := id C0
  have hown : s.vm.findClass RL = some m.cls := hown
  have hts : ∀ w ∈ wsL_law, w.before #[Value.ref b] s = true := fun w hw => hts0 w (wsL_law_in w hw)
  have hbA : ¬ A b := fun h => absurd (hAi b h) (Nat.not_le.mpr hbl)
  have hLi : (L : Int) ≤ 3584 := by omega
  refine lv_aload_n hx hb dL_law_1274 rfl (lv_at hl 2 rfl) ?_
  refine lv_aload_n hx hb dL_law_1275 rfl (lv_at hl 3 rfl) ?_
  refine lv_iload_n hx hb dL_law_1276 rfl (lv_at hl 0 rfl) ?_
  refine lv_iconst (v := 1) hx hb dL_law_1277 (by decide) ?_
  refine lv_iadd hx hb dL_law_1278 ?_
  refine lv_topi (fun x1 ex1 => ?_)
  have tx1 : x1.toInt = i.toInt + 1 := z_tadd ex1 rfl z_l1 (by omega) (by omega)
  refine va_sld hx hb hX hbl hbA hS (z_ix rfl (by omega) (by omega)) dL_law_1279 ?_
  refine lv_topi (fun x2 ex2 => ?_)
  refine lv_aload_n hx hb dL_law_1280 rfl (lv_at hl 3 rfl) ?_
  refine lv_iload_n hx hb dL_law_1281 rfl (lv_at hl 0 rfl) ?_
  refine lv_iconst (v := 2) hx hb dL_law_1282 (by decide) ?_
  refine lv_iadd hx hb dL_law_1283 ?_
  refine lv_topi (fun x3 ex3 => ?_)
  have tx3 : x3.toInt = i.toInt + 2 := z_tadd ex3 rfl z_l2 (by omega) (by omega)
  refine va_sld hx hb hX hbl hbA hS (z_ix rfl (by omega) (by omega)) dL_law_1284 ?_
  refine lv_topi (fun x4 ex4 => ?_)
  refine z_ciD hWX hWM hap hS hA (va_runV (As := [.int x2, .int x4]) (rest := []) ⟨hx, hb, hml, hown, hts0⟩ (sx_X11_journey l G ad c Ix hLX.1 hLX.2.2.2.2.2.2.1 hLX.2.2.2.2.2.2.2.2.1 x2 x4 hLX.2.2.2.2.2.2.2.2.2.1 hLX.2.2.2.2.2.2.2.2.2.2.1 _) (cwV 2 hts0 gV_X11_journey rfl rfl rfl (by decide +kernel) ⟨(Nat.le_of_ble_eq_true rfl), (Nat.le_of_ble_eq_true rfl)⟩) (z_preV (i := 0) hK hWX rfl rfl) rfl rfl hl.1 rfl (lv_room (Nat.le_of_ble_eq_true rfl)) dL_law_1285 ⟨(by show cells + 0 ≤ 600000; omega), (by show slots + 0 ≤ 7302250; omega)⟩) (fun r u1 H locs hp hWX hWM hap hS => ?_)
  subst hp
  refine lv_topi (fun x5 ex5 => ?_)
  refine lv_pop hx hb dL_law_1288 rfl ?_
  refine lv_aload_n hx hb dL_law_1289 rfl (lv_at hl 1 rfl) ?_
  refine lv_aload_n hx hb dL_law_1290 rfl (lv_at hl 3 rfl) ?_
  refine lv_iload_n hx hb dL_law_1291 rfl (lv_at hl 0 rfl) ?_
  refine lv_iconst (v := 1) hx hb dL_law_1292 (by decide) ?_
  refine lv_iadd hx hb dL_law_1293 ?_
  refine lv_topi (fun x6 ex6 => ?_)
  have tx6 : x6.toInt = i.toInt + 1 := z_tadd ex6 rfl z_l1 (by omega) (by omega)
  refine va_sld hx hb hX hbl hbA hS (z_ix rfl (by omega) (by omega)) dL_law_1294 ?_
  refine lv_topi (fun x7 ex7 => ?_)
  refine lv_aload_n hx hb dL_law_1295 rfl (lv_at hl 3 rfl) ?_
  refine lv_iload_n hx hb dL_law_1296 rfl (lv_at hl 0 rfl) ?_
  refine lv_iconst (v := 2) hx hb dL_law_1297 (by decide) ?_
  refine lv_iadd hx hb dL_law_1298 ?_
  refine lv_topi (fun x8 ex8 => ?_)
  have tx8 : x8.toInt = i.toInt + 2 := z_tadd ex8 rfl z_l2 (by omega) (by omega)
  refine va_sld hx hb hX hbl hbA hS (z_ix rfl (by omega) (by omega)) dL_law_1299 ?_
  refine lv_topi (fun x9 ex9 => ?_)
  refine z_ciD hWM hWX (fun i j hi hj e => hap j i hj hi e.symm) hS hA (va_runV (As := [.int x7, .int x9]) (rest := []) ⟨hx, hb, hml, hown, hts0⟩ (sx_X12_journey l G adM Im Jm hLM.1 hLM.2.2.2.2.2.2.2.2.2.1 x7 x9 _) (cwV 2 hts0 gV_X12_journey rfl rfl rfl (by decide +kernel) ⟨(Nat.le_of_ble_eq_true rfl), (Nat.le_of_ble_eq_true rfl)⟩) (z_preV (i := 0) hK hWM rfl rfl) rfl rfl hl.1 rfl (lv_room (Nat.le_of_ble_eq_true rfl)) dL_law_1300 ⟨(by show cells + 0 + 0 ≤ 600000; omega), (by show slots + 0 + 0 ≤ 7302250; omega)⟩) (fun r u1 H locs hp hWM hWX hapn hS => ?_)
  subst hp
  have hap := fun i j hi hj e => hapn j i hj hi (Eq.symm e)
  refine lv_topi (fun x10 ex10 => ?_)
  refine lv_pop hx hb dL_law_1303 rfl ?_
  refine lv_goto (tgt := 1508) hx hb dL_law_1304 (by decide) ?_
  have hEQ9 : z_EQ Ix Im := ⟨htd.1, htd.2.1, htd.2.2⟩
  refine W.widen (k := cells + 8) (n := slots + 2006) (by omega) (by omega) ?_
  exact kk c ad Ix Im Jm _ _ _ hLX hLM hEQ9 hWX hWM hap hS (lv_sub hl [0, 1, 2, 3] rfl)
set_option maxHeartbeats 8000000 in
set_option maxRecDepth 100000 in
theorem lc_31 {p : Program} {e : Env} {s : State} {m : MethodId} {below : List Frame} {meth : Method} {c0 : Code} {b L : Nat} {xs : Nat → Int32} (l : Launch) {G : z_G} {A : Nat → Prop} {adK adV : Nat → Nat} (hK : z_K G s) (hA : ∀ q : Nat, s.heap.size ≤ q → A q) (hAi : ∀ q : Nat, A q → s.heap.size ≤ q) (hSt : z_St A s s.heap) (hKn : z_Cq adK adV A s s.heap) (hL : L ≤ 3584) (C0 : lw_At p s m meth c0 b L xs) {c : z_C} {ad adM : Nat → Nat} {Ix Im : z_I} {Jm : z_J} (hLX : z_LX c Ix) (hLM : z_LM Im) (htd : z_EQ Ix Im) {H : Heap} {locs : List Loc} {ls : Array Slot} (hWX : z_W G A (shC c, ad, Ix, JX, PC c ad) H) (hWM : z_W G A (shM, adM, Im, Jm, PM adM) H) (hap : ∀ i j, shC c i ≠ none → shM j ≠ none → ad i ≠ adM j) (hS : va_S A s.heap H locs) {i : Int32} (hi0 : 0 ≤ i.toInt) (hiL : i.toInt + 7 ≤ (L : Int)) (hl : lv_has ls 4 [(3, .int i), (2, .ref (adM 0)), (1, .ref (ad 0)), (0, .ref b)]) {cells slots : Nat} (hce : cells + 8 ≤ 600000) (hsl : slots + 2006 ≤ 7302250) (kk : ∀ (c : z_C) (ad : Nat → Nat) (Ix Im : z_I) (Jm : z_J) (H : Heap) (locs : List Loc) (ls : Array Slot), z_LX c Ix → z_LM Im → z_EQ Ix Im → z_W G A (shC c, ad, Ix, JX, PC c ad) H → z_W G A (shM, adM, Im, Jm, PM adM) H → (∀ i j, shC c i ≠ none → shM j ≠ none → ad i ≠ adM j) → va_S A s.heap H locs → lv_has ls 4 [(3, .int i), (2, .ref (adM 0)), (1, .ref (ad 0)), (0, .ref b)] → W p l e room_1 s m #[Value.ref b] below meth c0 H locs (cells + 8) (slots + 2006) (lw_Z below #[Value.ref b] s) (F0 m 1508 ls [])) : W p l e room_1 s m #[Value.ref b] below meth c0 H locs (cells) (slots) (lw_Z below #[Value.ref b] s) (F0 m 1307 ls []) := by
  obtain ⟨hx, hb, hr, hml, hown, hts0, hX, hbl, hlocks, hgv⟩ := id C0
  have hown : s.vm.findClass RL = some m.cls := hown
  have hts : ∀ w ∈ wsL_law, w.before #[Value.ref b] s = true := fun w hw => hts0 w (wsL_law_in w hw)
  have hbA : ¬ A b := fun h => absurd (hAi b h) (Nat.not_le.mpr hbl)
  have hLi : (L : Int) ≤ 3584 := by omega
  refine lv_aload_n hx hb dL_law_1307 rfl (lv_at hl 2 rfl) ?_
  refine lv_aload_n hx hb dL_law_1308 rfl (lv_at hl 3 rfl) ?_
  refine lv_iload_n hx hb dL_law_1309 rfl (lv_at hl 0 rfl) ?_
  refine lv_iconst (v := 1) hx hb dL_law_1310 (by decide) ?_
  refine lv_iadd hx hb dL_law_1311 ?_
  refine lv_topi (fun x1 ex1 => ?_)
  have tx1 : x1.toInt = i.toInt + 1 := z_tadd ex1 rfl z_l1 (by omega) (by omega)
  refine va_sld hx hb hX hbl hbA hS (z_ix rfl (by omega) (by omega)) dL_law_1312 ?_
  refine lv_topi (fun x2 ex2 => ?_)
  refine lv_aload_n hx hb dL_law_1313 rfl (lv_at hl 3 rfl) ?_
  refine lv_iload_n hx hb dL_law_1314 rfl (lv_at hl 0 rfl) ?_
  refine lv_iconst (v := 2) hx hb dL_law_1315 (by decide) ?_
  refine lv_iadd hx hb dL_law_1316 ?_
  refine lv_topi (fun x3 ex3 => ?_)
  have tx3 : x3.toInt = i.toInt + 2 := z_tadd ex3 rfl z_l2 (by omega) (by omega)
  refine va_sld hx hb hX hbl hbA hS (z_ix rfl (by omega) (by omega)) dL_law_1317 ?_
  refine lv_topi (fun x4 ex4 => ?_)
  refine lv_aload_n hx hb dL_law_1318 rfl (lv_at hl 3 rfl) ?_
  refine lv_iload_n hx hb dL_law_1319 rfl (lv_at hl 0 rfl) ?_
  refine lv_iconst (v := 3) hx hb dL_law_1320 (by decide) ?_
  refine lv_iadd hx hb dL_law_1321 ?_
  refine lv_topi (fun x5 ex5 => ?_)
  have tx5 : x5.toInt = i.toInt + 3 := z_tadd ex5 rfl z_l3 (by omega) (by omega)
  refine va_sld hx hb hX hbl hbA hS (z_ix rfl (by omega) (by omega)) dL_law_1322 ?_
  refine lv_topi (fun x6 ex6 => ?_)
  refine z_ciD hWX hWM hap hS hA (va_runV (As := [.int x2, .int x4, .int x6]) (rest := []) ⟨hx, hb, hml, hown, hts0⟩ (sx_X11_pool l G ad c Ix hLX.1 hLX.2.2.2.2.2.2.1 x2 x4 x6 hLX.2.2.2.2.2.2.2.2.2.1 hLX.2.2.2.2.2.2.2.2.2.2.1 _) (cwV 3 hts0 gV_X11_pool rfl rfl rfl (by decide +kernel) ⟨(Nat.le_of_ble_eq_true rfl), (Nat.le_of_ble_eq_true rfl)⟩) (z_preV (i := 0) hK hWX rfl rfl) rfl rfl hl.1 rfl (lv_room (Nat.le_of_ble_eq_true rfl)) dL_law_1323 ⟨(by show cells + 0 ≤ 600000; omega), (by show slots + 0 ≤ 7302250; omega)⟩) (fun r u1 H locs hp hWX hWM hap hS => ?_)
  obtain ⟨I7, rfl, p9, p10, p11⟩ := hp
  have hLXI7 : z_LX c I7 := ⟨p9, ⟨(by show 0 ≤ (I7 12 1).toInt ∧ (I7 12 1).toInt ≤ 500; rw [p11 12 1 (by decide)]; exact hLX.2.1.1), (by show 0 ≤ (I7 12 5).toInt ∧ (I7 12 5).toInt ≤ 501; rw [p11 12 5 (by decide)]; exact hLX.2.1.2.1), (by show (-1) ≤ (I7 12 6).toInt ∧ (I7 12 6).toInt ≤ 1000000; rw [p11 12 6 (by decide)]; exact hLX.2.1.2.2.1), (by show 0 ≤ (I7 12 9).toInt ∧ (I7 12 9).toInt ≤ 500; rw [p11 12 9 (by decide)]; exact hLX.2.1.2.2.2.1), (by show 0 ≤ (I7 12 13).toInt ∧ (I7 12 13).toInt ≤ 24; rw [p11 12 13 (by decide)]; exact hLX.2.1.2.2.2.2)⟩, (by show 0 ≤ (I7 21 2).toInt ∧ (I7 21 2).toInt ≤ 12; rw [p11 21 2 (by decide)]; exact hLX.2.2.1), (by show 0 ≤ (I7 26 4).toInt ∧ (I7 26 4).toInt ≤ 512; rw [p11 26 4 (by decide)]; exact hLX.2.2.2.1), (by show 0 ≤ (I7 30 8).toInt ∧ (I7 30 8).toInt ≤ 300; rw [p11 30 8 (by decide)]; exact hLX.2.2.2.2.1), (by show 0 ≤ (I7 41 10).toInt ∧ (I7 41 10).toInt ≤ 4; rw [p11 41 10 (by decide)]; exact hLX.2.2.2.2.2.1), p10, (by show 0 ≤ (I7 72 2).toInt ∧ (I7 72 2).toInt ≤ 30; rw [p11 72 2 (by decide)]; exact hLX.2.2.2.2.2.2.2.1), ⟨(by show 0 ≤ (I7 0 0).toInt ∧ (I7 0 0).toInt ≤ 719; rw [p11 0 0 (by decide)]; exact hLX.2.2.2.2.2.2.2.2.1.1), (by show 0 ≤ (I7 0 8).toInt ∧ (I7 0 8).toInt ≤ 10; rw [p11 0 8 (by decide)]; exact hLX.2.2.2.2.2.2.2.2.1.2)⟩, hLX.2.2.2.2.2.2.2.2.2.1, hLX.2.2.2.2.2.2.2.2.2.2.1, (z_iS_fr hLX.2.2.2.2.2.2.2.2.2.2.2.1 p11 (by decide)), (by rw [p11 0 8 (by decide)]; exact hLX.2.2.2.2.2.2.2.2.2.2.2.2.1), (by rw [p11 21 2 (by decide)]; exact hLX.2.2.2.2.2.2.2.2.2.2.2.2.2)⟩
  refine lv_topi (fun x12 ex12 => ?_)
  refine lv_pop hx hb dL_law_1326 rfl ?_
  refine lv_aload_n hx hb dL_law_1327 rfl (lv_at hl 1 rfl) ?_
  refine lv_aload_n hx hb dL_law_1328 rfl (lv_at hl 3 rfl) ?_
  refine lv_iload_n hx hb dL_law_1329 rfl (lv_at hl 0 rfl) ?_
  refine lv_iconst (v := 1) hx hb dL_law_1330 (by decide) ?_
  refine lv_iadd hx hb dL_law_1331 ?_
  refine lv_topi (fun x13 ex13 => ?_)
  have tx13 : x13.toInt = i.toInt + 1 := z_tadd ex13 rfl z_l1 (by omega) (by omega)
  refine va_sld hx hb hX hbl hbA hS (z_ix rfl (by omega) (by omega)) dL_law_1332 ?_
  refine lv_topi (fun x14 ex14 => ?_)
  refine lv_aload_n hx hb dL_law_1333 rfl (lv_at hl 3 rfl) ?_
  refine lv_iload_n hx hb dL_law_1334 rfl (lv_at hl 0 rfl) ?_
  refine lv_iconst (v := 2) hx hb dL_law_1335 (by decide) ?_
  refine lv_iadd hx hb dL_law_1336 ?_
  refine lv_topi (fun x15 ex15 => ?_)
  have tx15 : x15.toInt = i.toInt + 2 := z_tadd ex15 rfl z_l2 (by omega) (by omega)
  refine va_sld hx hb hX hbl hbA hS (z_ix rfl (by omega) (by omega)) dL_law_1337 ?_
  refine lv_topi (fun x16 ex16 => ?_)
  refine lv_aload_n hx hb dL_law_1338 rfl (lv_at hl 3 rfl) ?_
  refine lv_iload_n hx hb dL_law_1339 rfl (lv_at hl 0 rfl) ?_
  refine lv_iconst (v := 3) hx hb dL_law_1340 (by decide) ?_
  refine lv_iadd hx hb dL_law_1341 ?_
  refine lv_topi (fun x17 ex17 => ?_)
  have tx17 : x17.toInt = i.toInt + 3 := z_tadd ex17 rfl z_l3 (by omega) (by omega)
  refine va_sld hx hb hX hbl hbA hS (z_ix rfl (by omega) (by omega)) dL_law_1342 ?_
  refine lv_topi (fun x18 ex18 => ?_)
  refine z_ciD hWM hWX (fun i j hi hj e => hap j i hj hi e.symm) hS hA (va_runV (As := [.int x14, .int x16, .int x18]) (rest := []) ⟨hx, hb, hml, hown, hts0⟩ (sx_X12_pool l G adM Im Jm hLM.1 hLM.2.2.2.2.2.2.2.2.2.1 hLM.2.2.2.2.2.2.2.2.2.2.2.2.1 hLM.2.2.2.2.2.2.2.2.2.2.2.1 x14 x16 x18 _) (cwV 3 hts0 gV_X12_pool rfl rfl rfl (by decide +kernel) ⟨(Nat.le_of_ble_eq_true rfl), (Nat.le_of_ble_eq_true rfl)⟩) (z_preV (i := 0) hK hWM rfl rfl) rfl rfl hl.1 rfl (lv_room (Nat.le_of_ble_eq_true rfl)) dL_law_1343 ⟨(by show cells + 0 + 0 ≤ 600000; omega), (by show slots + 0 + 0 ≤ 7302250; omega)⟩) (fun r u1 H locs hp hWM hWX hapn hS => ?_)
  obtain ⟨I19, J20, rfl, p21, p22, p23, p24, p25⟩ := hp
  have hLMI19 : z_LM I19 := ⟨p21, ⟨(by show 0 ≤ (I19 0 13).toInt ∧ (I19 0 13).toInt ≤ 12; rw [p25 0 13 (by decide)]; exact hLM.2.1.1), (by show 0 ≤ (I19 0 14).toInt ∧ (I19 0 14).toInt ≤ 288; rw [p25 0 14 (by decide)]; exact hLM.2.1.2)⟩, (by show 0 ≤ (I19 0 15).toInt ∧ (I19 0 15).toInt ≤ 6100; rw [p25 0 15 (by decide)]; exact hLM.2.2.1), ⟨(by show 0 ≤ (I19 0 31).toInt ∧ (I19 0 31).toInt ≤ 500; rw [p25 0 31 (by decide)]; exact hLM.2.2.2.1.1), (by show 0 ≤ (I19 0 33).toInt ∧ (I19 0 33).toInt ≤ 500; rw [p25 0 33 (by decide)]; exact hLM.2.2.2.1.2.1), (by show 0 ≤ (I19 0 34).toInt ∧ (I19 0 34).toInt ≤ 500; rw [p25 0 34 (by decide)]; exact hLM.2.2.2.1.2.2.1), (by show 0 ≤ (I19 0 35).toInt ∧ (I19 0 35).toInt ≤ 500; rw [p25 0 35 (by decide)]; exact hLM.2.2.2.1.2.2.2)⟩, ⟨(by show 0 ≤ (I19 0 36).toInt ∧ (I19 0 36).toInt ≤ 4; rw [p25 0 36 (by decide)]; exact hLM.2.2.2.2.1.1), (by show 0 ≤ (I19 0 42).toInt ∧ (I19 0 42).toInt ≤ 1; rw [p25 0 42 (by decide)]; exact hLM.2.2.2.2.1.2)⟩, ⟨(by show 0 ≤ (I19 0 47).toInt ∧ (I19 0 47).toInt ≤ 119; rw [p25 0 47 (by decide)]; exact hLM.2.2.2.2.2.1.1), (by show 0 ≤ (I19 0 39).toInt ∧ (I19 0 39).toInt ≤ 100; rw [p25 0 39 (by decide)]; exact hLM.2.2.2.2.2.1.2)⟩, (by show 0 ≤ (I19 0 40).toInt ∧ (I19 0 40).toInt ≤ 6199; rw [p25 0 40 (by decide)]; exact hLM.2.2.2.2.2.2.1), ⟨(by show 0 ≤ (I19 0 54).toInt ∧ (I19 0 54).toInt ≤ 10; rw [p25 0 54 (by decide)]; exact hLM.2.2.2.2.2.2.2.1.1), (by show 0 ≤ (I19 0 55).toInt ∧ (I19 0 55).toInt ≤ 300; rw [p25 0 55 (by decide)]; exact hLM.2.2.2.2.2.2.2.1.2)⟩, (by show 0 ≤ (I19 0 75).toInt ∧ (I19 0 75).toInt ≤ 4; rw [p25 0 75 (by decide)]; exact hLM.2.2.2.2.2.2.2.2.1), p22, (z_rg_fr hLM.2.2.2.2.2.2.2.2.2.2.1 p25 (by decide)), p24, p23, (z_rg_fr hLM.2.2.2.2.2.2.2.2.2.2.2.2.2.1 p25 (by decide)), (z_rg_fr hLM.2.2.2.2.2.2.2.2.2.2.2.2.2.2.1 p25 (by decide)), (z_rg_fr hLM.2.2.2.2.2.2.2.2.2.2.2.2.2.2.2.1 p25 (by decide)), (z_rg_fr hLM.2.2.2.2.2.2.2.2.2.2.2.2.2.2.2.2.1 p25 (by decide)), (z_rg_fr hLM.2.2.2.2.2.2.2.2.2.2.2.2.2.2.2.2.2.1 p25 (by decide)), (z_rg_fr hLM.2.2.2.2.2.2.2.2.2.2.2.2.2.2.2.2.2.2.1 p25 (by decide)), (z_rg_fr hLM.2.2.2.2.2.2.2.2.2.2.2.2.2.2.2.2.2.2.2.1 p25 (by decide)), (z_Nd_fr hLM.2.2.2.2.2.2.2.2.2.2.2.2.2.2.2.2.2.2.2.2.1 p25 (by decide)), (z_Ex_fr hLM.2.2.2.2.2.2.2.2.2.2.2.2.2.2.2.2.2.2.2.2.2.1 p25 (by decide)), (z_rg_fr hLM.2.2.2.2.2.2.2.2.2.2.2.2.2.2.2.2.2.2.2.2.2.2.1 p25 (by decide)), (z_rg_fr hLM.2.2.2.2.2.2.2.2.2.2.2.2.2.2.2.2.2.2.2.2.2.2.2.1 p25 (by decide)), (z_rg_fr hLM.2.2.2.2.2.2.2.2.2.2.2.2.2.2.2.2.2.2.2.2.2.2.2.2.1 p25 (by decide)), (z_rg_fr hLM.2.2.2.2.2.2.2.2.2.2.2.2.2.2.2.2.2.2.2.2.2.2.2.2.2.1 p25 (by decide)), (z_rg_fr hLM.2.2.2.2.2.2.2.2.2.2.2.2.2.2.2.2.2.2.2.2.2.2.2.2.2.2.1 p25 (by decide)), (z_rg_fr hLM.2.2.2.2.2.2.2.2.2.2.2.2.2.2.2.2.2.2.2.2.2.2.2.2.2.2.2.1 p25 (by decide)), (z_rg_fr hLM.2.2.2.2.2.2.2.2.2.2.2.2.2.2.2.2.2.2.2.2.2.2.2.2.2.2.2.2.1 p25 (by decide)), (by unfold z_iro; rw [p25 0 13 (by decide), p25 0 14 (by decide), p25 0 15 (by decide)]; exact hLM.2.2.2.2.2.2.2.2.2.2.2.2.2.2.2.2.2.2.2.2.2.2.2.2.2.2.2.2.2)⟩
  have hap := fun i j hi hj e => hapn j i hj hi (Eq.symm e)
  refine lv_topi (fun x26 ex26 => ?_)
  refine lv_pop hx hb dL_law_1346 rfl ?_
  refine lv_goto (tgt := 1508) hx hb dL_law_1347 (by decide) ?_
  have hEQ9 : z_EQ I7 I19 := ⟨(by rw [p11 0 0 (by decide), p25 0 0 (by decide)]; exact htd.1), (by rw [p11 1 5 (by decide), p25 0 1 (by decide)]; exact htd.2.1), (by rw [p11 60 9 (by decide), p25 0 83 (by decide)]; exact htd.2.2)⟩
  refine W.widen (k := cells + 8) (n := slots + 2006) (by omega) (by omega) ?_
  exact kk c ad I7 I19 J20 _ _ _ hLXI7 hLMI19 hEQ9 hWX hWM hap hS (lv_sub hl [0, 1, 2, 3] rfl)
set_option maxHeartbeats 8000000 in
set_option maxRecDepth 100000 in
theorem lc_32 {p : Program} {e : Env} {s : State} {m : MethodId} {below : List Frame} {meth : Method} {c0 : Code} {b L : Nat} {xs : Nat → Int32} (l : Launch) {G : z_G} {A : Nat → Prop} {adK adV : Nat → Nat} (hK : z_K G s) (hA : ∀ q : Nat, s.heap.size ≤ q → A q) (hAi : ∀ q : Nat, A q → s.heap.size ≤ q) (hSt : z_St A s s.heap) (hKn : z_Cq adK adV A s s.heap) (hL : L ≤ 3584) (C0 : lw_At p s m meth c0 b L xs) {c : z_C} {ad adM : Nat → Nat} {Ix Im : z_I} {Jm : z_J} (hLX : z_LX c Ix) (hLM : z_LM Im) (htd : z_EQ Ix Im) {H : Heap} {locs : List Loc} {ls : Array Slot} (hWX : z_W G A (shC c, ad, Ix, JX, PC c ad) H) (hWM : z_W G A (shM, adM, Im, Jm, PM adM) H) (hap : ∀ i j, shC c i ≠ none → shM j ≠ none → ad i ≠ adM j) (hS : va_S A s.heap H locs) {i : Int32} (hi0 : 0 ≤ i.toInt) (hiL : i.toInt + 7 ≤ (L : Int)) (hl : lv_has ls 4 [(3, .int i), (2, .ref (adM 0)), (1, .ref (ad 0)), (0, .ref b)]) {cells slots : Nat} (hce : cells + 8 ≤ 600000) (hsl : slots + 2006 ≤ 7302250) (kk : ∀ (c : z_C) (ad : Nat → Nat) (Ix Im : z_I) (Jm : z_J) (H : Heap) (locs : List Loc) (ls : Array Slot), z_LX c Ix → z_LM Im → z_EQ Ix Im → z_W G A (shC c, ad, Ix, JX, PC c ad) H → z_W G A (shM, adM, Im, Jm, PM adM) H → (∀ i j, shC c i ≠ none → shM j ≠ none → ad i ≠ adM j) → va_S A s.heap H locs → lv_has ls 4 [(3, .int i), (2, .ref (adM 0)), (1, .ref (ad 0)), (0, .ref b)] → W p l e room_1 s m #[Value.ref b] below meth c0 H locs (cells + 8) (slots + 2006) (lw_Z below #[Value.ref b] s) (F0 m 1508 ls [])) : W p l e room_1 s m #[Value.ref b] below meth c0 H locs (cells) (slots) (lw_Z below #[Value.ref b] s) (F0 m 1350 ls []) := by
  obtain ⟨hx, hb, hr, hml, hown, hts0, hX, hbl, hlocks, hgv⟩ := id C0
  have hown : s.vm.findClass RL = some m.cls := hown
  have hts : ∀ w ∈ wsL_law, w.before #[Value.ref b] s = true := fun w hw => hts0 w (wsL_law_in w hw)
  have hbA : ¬ A b := fun h => absurd (hAi b h) (Nat.not_le.mpr hbl)
  have hLi : (L : Int) ≤ 3584 := by omega
  refine lv_aload_n hx hb dL_law_1350 rfl (lv_at hl 2 rfl) ?_
  refine lv_aload_n hx hb dL_law_1351 rfl (lv_at hl 3 rfl) ?_
  refine lv_iload_n hx hb dL_law_1352 rfl (lv_at hl 0 rfl) ?_
  refine lv_iconst (v := 1) hx hb dL_law_1353 (by decide) ?_
  refine lv_iadd hx hb dL_law_1354 ?_
  refine lv_topi (fun x1 ex1 => ?_)
  have tx1 : x1.toInt = i.toInt + 1 := z_tadd ex1 rfl z_l1 (by omega) (by omega)
  refine va_sld hx hb hX hbl hbA hS (z_ix rfl (by omega) (by omega)) dL_law_1355 ?_
  refine lv_topi (fun x2 ex2 => ?_)
  refine lv_aload_n hx hb dL_law_1356 rfl (lv_at hl 3 rfl) ?_
  refine lv_iload_n hx hb dL_law_1357 rfl (lv_at hl 0 rfl) ?_
  refine lv_iconst (v := 2) hx hb dL_law_1358 (by decide) ?_
  refine lv_iadd hx hb dL_law_1359 ?_
  refine lv_topi (fun x3 ex3 => ?_)
  have tx3 : x3.toInt = i.toInt + 2 := z_tadd ex3 rfl z_l2 (by omega) (by omega)
  refine va_sld hx hb hX hbl hbA hS (z_ix rfl (by omega) (by omega)) dL_law_1360 ?_
  refine lv_topi (fun x4 ex4 => ?_)
  refine lv_aload_n hx hb dL_law_1361 rfl (lv_at hl 3 rfl) ?_
  refine lv_iload_n hx hb dL_law_1362 rfl (lv_at hl 0 rfl) ?_
  refine lv_iconst (v := 3) hx hb dL_law_1363 (by decide) ?_
  refine lv_iadd hx hb dL_law_1364 ?_
  refine lv_topi (fun x5 ex5 => ?_)
  have tx5 : x5.toInt = i.toInt + 3 := z_tadd ex5 rfl z_l3 (by omega) (by omega)
  refine va_sld hx hb hX hbl hbA hS (z_ix rfl (by omega) (by omega)) dL_law_1365 ?_
  refine lv_topi (fun x6 ex6 => ?_)
  refine lv_aload_n hx hb dL_law_1366 rfl (lv_at hl 3 rfl) ?_
  refine lv_iload_n hx hb dL_law_1367 rfl (lv_at hl 0 rfl) ?_
  refine lv_iconst (v := 4) hx hb dL_law_1368 (by decide) ?_
  refine lv_iadd hx hb dL_law_1369 ?_
  refine lv_topi (fun x7 ex7 => ?_)
  have tx7 : x7.toInt = i.toInt + 4 := z_tadd ex7 rfl z_l4 (by omega) (by omega)
  refine va_sld hx hb hX hbl hbA hS (z_ix rfl (by omega) (by omega)) dL_law_1370 ?_
  refine lv_topi (fun x8 ex8 => ?_)
  refine z_ciD hWX hWM hap hS hA (va_runV (As := [.int x2, .int x4, .int x6, .int x8]) (rest := []) ⟨hx, hb, hml, hown, hts0⟩ (sx_X11_other l G ad c Ix hLX.1 hLX.2.2.2.2.2.2.2.1 hLX.2.2.1 hLX.2.2.2.2.2.2.2.2.1 x2 x4 x6 x8 hLX.2.2.2.2.2.2.2.2.2.1 hLX.2.2.2.2.2.2.2.2.2.2.1 _) (cwV 4 hts0 gV_X11_other rfl rfl rfl (by decide +kernel) ⟨(Nat.le_of_ble_eq_true rfl), (Nat.le_of_ble_eq_true rfl)⟩) (z_preV (i := 0) hK hWX rfl rfl) rfl rfl hl.1 rfl (lv_room (Nat.le_of_ble_eq_true rfl)) dL_law_1371 ⟨(by show cells + 0 ≤ 600000; omega), (by show slots + 0 ≤ 7302250; omega)⟩) (fun r u1 H locs hp hWX hWM hap hS => ?_)
  obtain ⟨I9, rfl, p11, p12, p13, p14, p15⟩ := hp
  have hLXI9 : z_LX c I9 := ⟨p11, ⟨(by show 0 ≤ (I9 12 1).toInt ∧ (I9 12 1).toInt ≤ 500; rw [p15 12 1 (by decide)]; exact hLX.2.1.1), (by show 0 ≤ (I9 12 5).toInt ∧ (I9 12 5).toInt ≤ 501; rw [p15 12 5 (by decide)]; exact hLX.2.1.2.1), (by show (-1) ≤ (I9 12 6).toInt ∧ (I9 12 6).toInt ≤ 1000000; rw [p15 12 6 (by decide)]; exact hLX.2.1.2.2.1), (by show 0 ≤ (I9 12 9).toInt ∧ (I9 12 9).toInt ≤ 500; rw [p15 12 9 (by decide)]; exact hLX.2.1.2.2.2.1), (by show 0 ≤ (I9 12 13).toInt ∧ (I9 12 13).toInt ≤ 24; rw [p15 12 13 (by decide)]; exact hLX.2.1.2.2.2.2)⟩, p13, (by show 0 ≤ (I9 26 4).toInt ∧ (I9 26 4).toInt ≤ 512; rw [p15 26 4 (by decide)]; exact hLX.2.2.2.1), (by show 0 ≤ (I9 30 8).toInt ∧ (I9 30 8).toInt ≤ 300; rw [p15 30 8 (by decide)]; exact hLX.2.2.2.2.1), (by show 0 ≤ (I9 41 10).toInt ∧ (I9 41 10).toInt ≤ 4; rw [p15 41 10 (by decide)]; exact hLX.2.2.2.2.2.1), ⟨(by show 0 ≤ (I9 60 9).toInt ∧ (I9 60 9).toInt ≤ 60; rw [p15 60 9 (by decide)]; exact hLX.2.2.2.2.2.2.1.1), (by show 0 ≤ (I9 60 12).toInt ∧ (I9 60 12).toInt ≤ 12; rw [p15 60 12 (by decide)]; exact hLX.2.2.2.2.2.2.1.2)⟩, p12, p14, hLX.2.2.2.2.2.2.2.2.2.1, hLX.2.2.2.2.2.2.2.2.2.2.1, (z_iS_fr hLX.2.2.2.2.2.2.2.2.2.2.2.1 p15 (by decide)), (by rw [p15 0 8 (by decide)]; exact hLX.2.2.2.2.2.2.2.2.2.2.2.2.1), (by rw [p15 21 2 (by decide)]; exact hLX.2.2.2.2.2.2.2.2.2.2.2.2.2)⟩
  refine lv_topi (fun x16 ex16 => ?_)
  refine lv_pop hx hb dL_law_1374 rfl ?_
  refine lv_aload_n hx hb dL_law_1375 rfl (lv_at hl 1 rfl) ?_
  refine lv_aload_n hx hb dL_law_1376 rfl (lv_at hl 3 rfl) ?_
  refine lv_iload_n hx hb dL_law_1377 rfl (lv_at hl 0 rfl) ?_
  refine lv_iconst (v := 1) hx hb dL_law_1378 (by decide) ?_
  refine lv_iadd hx hb dL_law_1379 ?_
  refine lv_topi (fun x17 ex17 => ?_)
  have tx17 : x17.toInt = i.toInt + 1 := z_tadd ex17 rfl z_l1 (by omega) (by omega)
  refine va_sld hx hb hX hbl hbA hS (z_ix rfl (by omega) (by omega)) dL_law_1380 ?_
  refine lv_topi (fun x18 ex18 => ?_)
  refine lv_aload_n hx hb dL_law_1381 rfl (lv_at hl 3 rfl) ?_
  refine lv_iload_n hx hb dL_law_1382 rfl (lv_at hl 0 rfl) ?_
  refine lv_iconst (v := 2) hx hb dL_law_1383 (by decide) ?_
  refine lv_iadd hx hb dL_law_1384 ?_
  refine lv_topi (fun x19 ex19 => ?_)
  have tx19 : x19.toInt = i.toInt + 2 := z_tadd ex19 rfl z_l2 (by omega) (by omega)
  refine va_sld hx hb hX hbl hbA hS (z_ix rfl (by omega) (by omega)) dL_law_1385 ?_
  refine lv_topi (fun x20 ex20 => ?_)
  refine lv_aload_n hx hb dL_law_1386 rfl (lv_at hl 3 rfl) ?_
  refine lv_iload_n hx hb dL_law_1387 rfl (lv_at hl 0 rfl) ?_
  refine lv_iconst (v := 3) hx hb dL_law_1388 (by decide) ?_
  refine lv_iadd hx hb dL_law_1389 ?_
  refine lv_topi (fun x21 ex21 => ?_)
  have tx21 : x21.toInt = i.toInt + 3 := z_tadd ex21 rfl z_l3 (by omega) (by omega)
  refine va_sld hx hb hX hbl hbA hS (z_ix rfl (by omega) (by omega)) dL_law_1390 ?_
  refine lv_topi (fun x22 ex22 => ?_)
  refine lv_aload_n hx hb dL_law_1391 rfl (lv_at hl 3 rfl) ?_
  refine lv_iload_n hx hb dL_law_1392 rfl (lv_at hl 0 rfl) ?_
  refine lv_iconst (v := 4) hx hb dL_law_1393 (by decide) ?_
  refine lv_iadd hx hb dL_law_1394 ?_
  refine lv_topi (fun x23 ex23 => ?_)
  have tx23 : x23.toInt = i.toInt + 4 := z_tadd ex23 rfl z_l4 (by omega) (by omega)
  refine va_sld hx hb hX hbl hbA hS (z_ix rfl (by omega) (by omega)) dL_law_1395 ?_
  refine lv_topi (fun x24 ex24 => ?_)
  refine z_ciD hWM hWX (fun i j hi hj e => hap j i hj hi e.symm) hS hA (va_runV (As := [.int x18, .int x20, .int x22, .int x24]) (rest := []) ⟨hx, hb, hml, hown, hts0⟩ (sx_X12_other l G adM Im Jm hLM.1 hLM.2.1 hLM.2.2.2.2.2.2.2.2.2.2.2.2.2.2.2.1 hLM.2.2.2.2.2.2.2.2.2.2.2.2.2.2.2.2.1 hLM.2.2.2.2.2.2.2.2.2.2.2.2.2.2.2.2.2.2.2.2.1 hLM.2.2.2.2.2.2.2.2.2.2.2.2.2.2.2.2.2.1 hLM.2.2.2.2.2.2.2.2.2.2.2.2.2.2.2.2.2.2.1 hLM.2.2.2.2.2.2.2.2.2.2.2.2.2.2.2.2.2.2.2.1 hLM.2.2.2.2.2.2.2.2.2.2.2.2.2.2.2.2.2.2.2.2.2.1 x18 x20 x22 x24 _) (cwV 4 hts0 gV_X12_other rfl rfl rfl (by decide +kernel) ⟨(Nat.le_of_ble_eq_true rfl), (Nat.le_of_ble_eq_true rfl)⟩) (z_preV (i := 0) hK hWM rfl rfl) rfl rfl hl.1 rfl (lv_room (Nat.le_of_ble_eq_true rfl)) dL_law_1396 ⟨(by show cells + 0 + 0 ≤ 600000; omega), (by show slots + 0 + 0 ≤ 7302250; omega)⟩) (fun r u1 H locs hp hWM hWX hapn hS => ?_)
  obtain ⟨I25, J26, rfl, p27, p28, p29, p30, p31, p32, p33, p34, p35, p36⟩ := hp
  have hLMI25 : z_LM I25 := ⟨p27, p28, (by show 0 ≤ (I25 0 15).toInt ∧ (I25 0 15).toInt ≤ 6100; rw [p36 0 15 (by decide)]; exact hLM.2.2.1), ⟨(by show 0 ≤ (I25 0 31).toInt ∧ (I25 0 31).toInt ≤ 500; rw [p36 0 31 (by decide)]; exact hLM.2.2.2.1.1), (by show 0 ≤ (I25 0 33).toInt ∧ (I25 0 33).toInt ≤ 500; rw [p36 0 33 (by decide)]; exact hLM.2.2.2.1.2.1), (by show 0 ≤ (I25 0 34).toInt ∧ (I25 0 34).toInt ≤ 500; rw [p36 0 34 (by decide)]; exact hLM.2.2.2.1.2.2.1), (by show 0 ≤ (I25 0 35).toInt ∧ (I25 0 35).toInt ≤ 500; rw [p36 0 35 (by decide)]; exact hLM.2.2.2.1.2.2.2)⟩, ⟨(by show 0 ≤ (I25 0 36).toInt ∧ (I25 0 36).toInt ≤ 4; rw [p36 0 36 (by decide)]; exact hLM.2.2.2.2.1.1), (by show 0 ≤ (I25 0 42).toInt ∧ (I25 0 42).toInt ≤ 1; rw [p36 0 42 (by decide)]; exact hLM.2.2.2.2.1.2)⟩, ⟨(by show 0 ≤ (I25 0 47).toInt ∧ (I25 0 47).toInt ≤ 119; rw [p36 0 47 (by decide)]; exact hLM.2.2.2.2.2.1.1), (by show 0 ≤ (I25 0 39).toInt ∧ (I25 0 39).toInt ≤ 100; rw [p36 0 39 (by decide)]; exact hLM.2.2.2.2.2.1.2)⟩, (by show 0 ≤ (I25 0 40).toInt ∧ (I25 0 40).toInt ≤ 6199; rw [p36 0 40 (by decide)]; exact hLM.2.2.2.2.2.2.1), ⟨(by show 0 ≤ (I25 0 54).toInt ∧ (I25 0 54).toInt ≤ 10; rw [p36 0 54 (by decide)]; exact hLM.2.2.2.2.2.2.2.1.1), (by show 0 ≤ (I25 0 55).toInt ∧ (I25 0 55).toInt ≤ 300; rw [p36 0 55 (by decide)]; exact hLM.2.2.2.2.2.2.2.1.2)⟩, (by show 0 ≤ (I25 0 75).toInt ∧ (I25 0 75).toInt ≤ 4; rw [p36 0 75 (by decide)]; exact hLM.2.2.2.2.2.2.2.2.1), (by show 0 ≤ (I25 0 83).toInt ∧ (I25 0 83).toInt ≤ 60; rw [p36 0 83 (by decide)]; exact hLM.2.2.2.2.2.2.2.2.2.1), (z_rg_fr hLM.2.2.2.2.2.2.2.2.2.2.1 p36 (by decide)), (z_rg_fr hLM.2.2.2.2.2.2.2.2.2.2.2.1 p36 (by decide)), (z_rg_fr hLM.2.2.2.2.2.2.2.2.2.2.2.2.1 p36 (by decide)), (z_rg_fr hLM.2.2.2.2.2.2.2.2.2.2.2.2.2.1 p36 (by decide)), (z_rg_fr hLM.2.2.2.2.2.2.2.2.2.2.2.2.2.2.1 p36 (by decide)), p29, p30, p32, p33, p34, p31, p35, (z_rg_fr hLM.2.2.2.2.2.2.2.2.2.2.2.2.2.2.2.2.2.2.2.2.2.2.1 p36 (by decide)), (z_rg_fr hLM.2.2.2.2.2.2.2.2.2.2.2.2.2.2.2.2.2.2.2.2.2.2.2.1 p36 (by decide)), (z_rg_fr hLM.2.2.2.2.2.2.2.2.2.2.2.2.2.2.2.2.2.2.2.2.2.2.2.2.1 p36 (by decide)), (z_rg_fr hLM.2.2.2.2.2.2.2.2.2.2.2.2.2.2.2.2.2.2.2.2.2.2.2.2.2.1 p36 (by decide)), (z_rg_fr hLM.2.2.2.2.2.2.2.2.2.2.2.2.2.2.2.2.2.2.2.2.2.2.2.2.2.2.1 p36 (by decide)), (z_rg_fr hLM.2.2.2.2.2.2.2.2.2.2.2.2.2.2.2.2.2.2.2.2.2.2.2.2.2.2.2.1 p36 (by decide)), (z_rg_fr hLM.2.2.2.2.2.2.2.2.2.2.2.2.2.2.2.2.2.2.2.2.2.2.2.2.2.2.2.2.1 p36 (by decide)), (by unfold z_iro; rw [p36 0 13 (by decide), p36 0 14 (by decide), p36 0 15 (by decide)]; exact hLM.2.2.2.2.2.2.2.2.2.2.2.2.2.2.2.2.2.2.2.2.2.2.2.2.2.2.2.2.2)⟩
  have hap := fun i j hi hj e => hapn j i hj hi (Eq.symm e)
  refine lv_topi (fun x37 ex37 => ?_)
  refine lv_pop hx hb dL_law_1399 rfl ?_
  refine lv_goto (tgt := 1508) hx hb dL_law_1400 (by decide) ?_
  have hEQ9 : z_EQ I9 I25 := ⟨(by rw [p15 0 0 (by decide), p36 0 0 (by decide)]; exact htd.1), (by rw [p15 1 5 (by decide), p36 0 1 (by decide)]; exact htd.2.1), (by rw [p15 60 9 (by decide), p36 0 83 (by decide)]; exact htd.2.2)⟩
  refine W.widen (k := cells + 8) (n := slots + 2006) (by omega) (by omega) ?_
  exact kk c ad I9 I25 J26 _ _ _ hLXI9 hLMI25 hEQ9 hWX hWM hap hS (lv_sub hl [0, 1, 2, 3] rfl)
set_option maxHeartbeats 8000000 in
set_option maxRecDepth 100000 in
theorem lc_33 {p : Program} {e : Env} {s : State} {m : MethodId} {below : List Frame} {meth : Method} {c0 : Code} {b L : Nat} {xs : Nat → Int32} (l : Launch) {G : z_G} {A : Nat → Prop} {adK adV : Nat → Nat} (hK : z_K G s) (hA : ∀ q : Nat, s.heap.size ≤ q → A q) (hAi : ∀ q : Nat, A q → s.heap.size ≤ q) (hSt : z_St A s s.heap) (hKn : z_Cq adK adV A s s.heap) (hL : L ≤ 3584) (C0 : lw_At p s m meth c0 b L xs) {c : z_C} {ad adM : Nat → Nat} {Ix Im : z_I} {Jm : z_J} (hLX : z_LX c Ix) (hLM : z_LM Im) (htd : z_EQ Ix Im) {H : Heap} {locs : List Loc} {ls : Array Slot} (hWX : z_W G A (shC c, ad, Ix, JX, PC c ad) H) (hWM : z_W G A (shM, adM, Im, Jm, PM adM) H) (hap : ∀ i j, shC c i ≠ none → shM j ≠ none → ad i ≠ adM j) (hS : va_S A s.heap H locs) {i : Int32} (hi0 : 0 ≤ i.toInt) (hiL : i.toInt + 7 ≤ (L : Int)) (hl : lv_has ls 4 [(3, .int i), (2, .ref (adM 0)), (1, .ref (ad 0)), (0, .ref b)]) {cells slots : Nat} (hce : cells + 8 ≤ 600000) (hsl : slots + 2006 ≤ 7302250) (kk : ∀ (c : z_C) (ad : Nat → Nat) (Ix Im : z_I) (Jm : z_J) (H : Heap) (locs : List Loc) (ls : Array Slot), z_LX c Ix → z_LM Im → z_EQ Ix Im → z_W G A (shC c, ad, Ix, JX, PC c ad) H → z_W G A (shM, adM, Im, Jm, PM adM) H → (∀ i j, shC c i ≠ none → shM j ≠ none → ad i ≠ adM j) → va_S A s.heap H locs → lv_has ls 4 [(3, .int i), (2, .ref (adM 0)), (1, .ref (ad 0)), (0, .ref b)] → W p l e room_1 s m #[Value.ref b] below meth c0 H locs (cells + 8) (slots + 2006) (lw_Z below #[Value.ref b] s) (F0 m 1508 ls [])) : W p l e room_1 s m #[Value.ref b] below meth c0 H locs (cells) (slots) (lw_Z below #[Value.ref b] s) (F0 m 1403 ls []) := by
  obtain ⟨hx, hb, hr, hml, hown, hts0, hX, hbl, hlocks, hgv⟩ := id C0
  have hown : s.vm.findClass RL = some m.cls := hown
  have hts : ∀ w ∈ wsL_law, w.before #[Value.ref b] s = true := fun w hw => hts0 w (wsL_law_in w hw)
  have hbA : ¬ A b := fun h => absurd (hAi b h) (Nat.not_le.mpr hbl)
  have hLi : (L : Int) ≤ 3584 := by omega
  refine lv_aload_n hx hb dL_law_1403 rfl (lv_at hl 2 rfl) ?_
  refine lv_aload_n hx hb dL_law_1404 rfl (lv_at hl 3 rfl) ?_
  refine lv_iload_n hx hb dL_law_1405 rfl (lv_at hl 0 rfl) ?_
  refine lv_iconst (v := 1) hx hb dL_law_1406 (by decide) ?_
  refine lv_iadd hx hb dL_law_1407 ?_
  refine lv_topi (fun x1 ex1 => ?_)
  have tx1 : x1.toInt = i.toInt + 1 := z_tadd ex1 rfl z_l1 (by omega) (by omega)
  refine va_sld hx hb hX hbl hbA hS (z_ix rfl (by omega) (by omega)) dL_law_1408 ?_
  refine lv_topi (fun x2 ex2 => ?_)
  refine lv_aload_n hx hb dL_law_1409 rfl (lv_at hl 3 rfl) ?_
  refine lv_iload_n hx hb dL_law_1410 rfl (lv_at hl 0 rfl) ?_
  refine lv_iconst (v := 2) hx hb dL_law_1411 (by decide) ?_
  refine lv_iadd hx hb dL_law_1412 ?_
  refine lv_topi (fun x3 ex3 => ?_)
  have tx3 : x3.toInt = i.toInt + 2 := z_tadd ex3 rfl z_l2 (by omega) (by omega)
  refine va_sld hx hb hX hbl hbA hS (z_ix rfl (by omega) (by omega)) dL_law_1413 ?_
  refine lv_topi (fun x4 ex4 => ?_)
  refine z_ciD hWX hWM hap hS hA (va_runV (As := [.int x2, .int x4]) (rest := []) ⟨hx, hb, hml, hown, hts0⟩ (sx_X11_stays l G ad c Ix hLX.1 hLX.2.2.2.2.2.2.2.1 hLX.2.2.1 hLX.2.2.2.2.2.2.2.2.1 x2 x4 hLX.2.2.2.2.2.2.2.2.2.1 hLX.2.2.2.2.2.2.2.2.2.2.1 _) (cwV 2 hts0 gV_X11_stays rfl rfl rfl (by decide +kernel) ⟨(Nat.le_of_ble_eq_true rfl), (Nat.le_of_ble_eq_true rfl)⟩) (z_preV (i := 0) hK hWX rfl rfl) rfl rfl hl.1 rfl (lv_room (Nat.le_of_ble_eq_true rfl)) dL_law_1414 ⟨(by show cells + 0 ≤ 600000; omega), (by show slots + 0 ≤ 7302250; omega)⟩) (fun r u1 H locs hp hWX hWM hap hS => ?_)
  obtain ⟨I5, rfl, p7, p8, p9, p10, p11⟩ := hp
  have hLXI5 : z_LX c I5 := ⟨p7, ⟨(by show 0 ≤ (I5 12 1).toInt ∧ (I5 12 1).toInt ≤ 500; rw [p11 12 1 (by decide)]; exact hLX.2.1.1), (by show 0 ≤ (I5 12 5).toInt ∧ (I5 12 5).toInt ≤ 501; rw [p11 12 5 (by decide)]; exact hLX.2.1.2.1), (by show (-1) ≤ (I5 12 6).toInt ∧ (I5 12 6).toInt ≤ 1000000; rw [p11 12 6 (by decide)]; exact hLX.2.1.2.2.1), (by show 0 ≤ (I5 12 9).toInt ∧ (I5 12 9).toInt ≤ 500; rw [p11 12 9 (by decide)]; exact hLX.2.1.2.2.2.1), (by show 0 ≤ (I5 12 13).toInt ∧ (I5 12 13).toInt ≤ 24; rw [p11 12 13 (by decide)]; exact hLX.2.1.2.2.2.2)⟩, p9, (by show 0 ≤ (I5 26 4).toInt ∧ (I5 26 4).toInt ≤ 512; rw [p11 26 4 (by decide)]; exact hLX.2.2.2.1), (by show 0 ≤ (I5 30 8).toInt ∧ (I5 30 8).toInt ≤ 300; rw [p11 30 8 (by decide)]; exact hLX.2.2.2.2.1), (by show 0 ≤ (I5 41 10).toInt ∧ (I5 41 10).toInt ≤ 4; rw [p11 41 10 (by decide)]; exact hLX.2.2.2.2.2.1), ⟨(by show 0 ≤ (I5 60 9).toInt ∧ (I5 60 9).toInt ≤ 60; rw [p11 60 9 (by decide)]; exact hLX.2.2.2.2.2.2.1.1), (by show 0 ≤ (I5 60 12).toInt ∧ (I5 60 12).toInt ≤ 12; rw [p11 60 12 (by decide)]; exact hLX.2.2.2.2.2.2.1.2)⟩, p8, p10, hLX.2.2.2.2.2.2.2.2.2.1, hLX.2.2.2.2.2.2.2.2.2.2.1, (z_iS_fr hLX.2.2.2.2.2.2.2.2.2.2.2.1 p11 (by decide)), (by rw [p11 0 8 (by decide)]; exact hLX.2.2.2.2.2.2.2.2.2.2.2.2.1), (by rw [p11 21 2 (by decide)]; exact hLX.2.2.2.2.2.2.2.2.2.2.2.2.2)⟩
  refine lv_topi (fun x12 ex12 => ?_)
  refine lv_pop hx hb dL_law_1417 rfl ?_
  refine lv_aload_n hx hb dL_law_1418 rfl (lv_at hl 1 rfl) ?_
  refine lv_aload_n hx hb dL_law_1419 rfl (lv_at hl 3 rfl) ?_
  refine lv_iload_n hx hb dL_law_1420 rfl (lv_at hl 0 rfl) ?_
  refine lv_iconst (v := 1) hx hb dL_law_1421 (by decide) ?_
  refine lv_iadd hx hb dL_law_1422 ?_
  refine lv_topi (fun x13 ex13 => ?_)
  have tx13 : x13.toInt = i.toInt + 1 := z_tadd ex13 rfl z_l1 (by omega) (by omega)
  refine va_sld hx hb hX hbl hbA hS (z_ix rfl (by omega) (by omega)) dL_law_1423 ?_
  refine lv_topi (fun x14 ex14 => ?_)
  refine lv_aload_n hx hb dL_law_1424 rfl (lv_at hl 3 rfl) ?_
  refine lv_iload_n hx hb dL_law_1425 rfl (lv_at hl 0 rfl) ?_
  refine lv_iconst (v := 2) hx hb dL_law_1426 (by decide) ?_
  refine lv_iadd hx hb dL_law_1427 ?_
  refine lv_topi (fun x15 ex15 => ?_)
  have tx15 : x15.toInt = i.toInt + 2 := z_tadd ex15 rfl z_l2 (by omega) (by omega)
  refine va_sld hx hb hX hbl hbA hS (z_ix rfl (by omega) (by omega)) dL_law_1428 ?_
  refine lv_topi (fun x16 ex16 => ?_)
  refine z_ciD hWM hWX (fun i j hi hj e => hap j i hj hi e.symm) hS hA (va_runV (As := [.int x14, .int x16]) (rest := []) ⟨hx, hb, hml, hown, hts0⟩ (sx_X12_stays l G adM Im Jm hLM.1 hLM.2.1 hLM.2.2.2.2.2.2.2.2.2.2.2.2.2.2.2.1 hLM.2.2.2.2.2.2.2.2.2.2.2.2.2.2.2.2.1 hLM.2.2.2.2.2.2.2.2.2.2.2.2.2.2.2.2.2.2.2.2.1 hLM.2.2.2.2.2.2.2.2.2.2.2.2.2.2.2.2.2.1 hLM.2.2.2.2.2.2.2.2.2.2.2.2.2.2.2.2.2.2.1 hLM.2.2.2.2.2.2.2.2.2.2.2.2.2.2.2.2.2.2.2.1 hLM.2.2.2.2.2.2.2.2.2.2.2.2.2.2.2.2.2.2.2.2.2.1 x14 x16 _) (cwV 2 hts0 gV_X12_stays rfl rfl rfl (by decide +kernel) ⟨(Nat.le_of_ble_eq_true rfl), (Nat.le_of_ble_eq_true rfl)⟩) (z_preV (i := 0) hK hWM rfl rfl) rfl rfl hl.1 rfl (lv_room (Nat.le_of_ble_eq_true rfl)) dL_law_1429 ⟨(by show cells + 0 + 0 ≤ 600000; omega), (by show slots + 0 + 0 ≤ 7302250; omega)⟩) (fun r u1 H locs hp hWM hWX hapn hS => ?_)
  obtain ⟨I17, J18, rfl, p19, p20, p21, p22, p23, p24, p25, p26, p27, p28⟩ := hp
  have hLMI17 : z_LM I17 := ⟨p19, p20, (by show 0 ≤ (I17 0 15).toInt ∧ (I17 0 15).toInt ≤ 6100; rw [p28 0 15 (by decide)]; exact hLM.2.2.1), ⟨(by show 0 ≤ (I17 0 31).toInt ∧ (I17 0 31).toInt ≤ 500; rw [p28 0 31 (by decide)]; exact hLM.2.2.2.1.1), (by show 0 ≤ (I17 0 33).toInt ∧ (I17 0 33).toInt ≤ 500; rw [p28 0 33 (by decide)]; exact hLM.2.2.2.1.2.1), (by show 0 ≤ (I17 0 34).toInt ∧ (I17 0 34).toInt ≤ 500; rw [p28 0 34 (by decide)]; exact hLM.2.2.2.1.2.2.1), (by show 0 ≤ (I17 0 35).toInt ∧ (I17 0 35).toInt ≤ 500; rw [p28 0 35 (by decide)]; exact hLM.2.2.2.1.2.2.2)⟩, ⟨(by show 0 ≤ (I17 0 36).toInt ∧ (I17 0 36).toInt ≤ 4; rw [p28 0 36 (by decide)]; exact hLM.2.2.2.2.1.1), (by show 0 ≤ (I17 0 42).toInt ∧ (I17 0 42).toInt ≤ 1; rw [p28 0 42 (by decide)]; exact hLM.2.2.2.2.1.2)⟩, ⟨(by show 0 ≤ (I17 0 47).toInt ∧ (I17 0 47).toInt ≤ 119; rw [p28 0 47 (by decide)]; exact hLM.2.2.2.2.2.1.1), (by show 0 ≤ (I17 0 39).toInt ∧ (I17 0 39).toInt ≤ 100; rw [p28 0 39 (by decide)]; exact hLM.2.2.2.2.2.1.2)⟩, (by show 0 ≤ (I17 0 40).toInt ∧ (I17 0 40).toInt ≤ 6199; rw [p28 0 40 (by decide)]; exact hLM.2.2.2.2.2.2.1), ⟨(by show 0 ≤ (I17 0 54).toInt ∧ (I17 0 54).toInt ≤ 10; rw [p28 0 54 (by decide)]; exact hLM.2.2.2.2.2.2.2.1.1), (by show 0 ≤ (I17 0 55).toInt ∧ (I17 0 55).toInt ≤ 300; rw [p28 0 55 (by decide)]; exact hLM.2.2.2.2.2.2.2.1.2)⟩, (by show 0 ≤ (I17 0 75).toInt ∧ (I17 0 75).toInt ≤ 4; rw [p28 0 75 (by decide)]; exact hLM.2.2.2.2.2.2.2.2.1), (by show 0 ≤ (I17 0 83).toInt ∧ (I17 0 83).toInt ≤ 60; rw [p28 0 83 (by decide)]; exact hLM.2.2.2.2.2.2.2.2.2.1), (z_rg_fr hLM.2.2.2.2.2.2.2.2.2.2.1 p28 (by decide)), (z_rg_fr hLM.2.2.2.2.2.2.2.2.2.2.2.1 p28 (by decide)), (z_rg_fr hLM.2.2.2.2.2.2.2.2.2.2.2.2.1 p28 (by decide)), (z_rg_fr hLM.2.2.2.2.2.2.2.2.2.2.2.2.2.1 p28 (by decide)), (z_rg_fr hLM.2.2.2.2.2.2.2.2.2.2.2.2.2.2.1 p28 (by decide)), p21, p22, p24, p25, p26, p23, p27, (z_rg_fr hLM.2.2.2.2.2.2.2.2.2.2.2.2.2.2.2.2.2.2.2.2.2.2.1 p28 (by decide)), (z_rg_fr hLM.2.2.2.2.2.2.2.2.2.2.2.2.2.2.2.2.2.2.2.2.2.2.2.1 p28 (by decide)), (z_rg_fr hLM.2.2.2.2.2.2.2.2.2.2.2.2.2.2.2.2.2.2.2.2.2.2.2.2.1 p28 (by decide)), (z_rg_fr hLM.2.2.2.2.2.2.2.2.2.2.2.2.2.2.2.2.2.2.2.2.2.2.2.2.2.1 p28 (by decide)), (z_rg_fr hLM.2.2.2.2.2.2.2.2.2.2.2.2.2.2.2.2.2.2.2.2.2.2.2.2.2.2.1 p28 (by decide)), (z_rg_fr hLM.2.2.2.2.2.2.2.2.2.2.2.2.2.2.2.2.2.2.2.2.2.2.2.2.2.2.2.1 p28 (by decide)), (z_rg_fr hLM.2.2.2.2.2.2.2.2.2.2.2.2.2.2.2.2.2.2.2.2.2.2.2.2.2.2.2.2.1 p28 (by decide)), (by unfold z_iro; rw [p28 0 13 (by decide), p28 0 14 (by decide), p28 0 15 (by decide)]; exact hLM.2.2.2.2.2.2.2.2.2.2.2.2.2.2.2.2.2.2.2.2.2.2.2.2.2.2.2.2.2)⟩
  have hap := fun i j hi hj e => hapn j i hj hi (Eq.symm e)
  refine lv_topi (fun x29 ex29 => ?_)
  refine lv_pop hx hb dL_law_1432 rfl ?_
  refine lv_goto (tgt := 1508) hx hb dL_law_1433 (by decide) ?_
  have hEQ9 : z_EQ I5 I17 := ⟨(by rw [p11 0 0 (by decide), p28 0 0 (by decide)]; exact htd.1), (by rw [p11 1 5 (by decide), p28 0 1 (by decide)]; exact htd.2.1), (by rw [p11 60 9 (by decide), p28 0 83 (by decide)]; exact htd.2.2)⟩
  refine W.widen (k := cells + 8) (n := slots + 2006) (by omega) (by omega) ?_
  exact kk c ad I5 I17 J18 _ _ _ hLXI5 hLMI17 hEQ9 hWX hWM hap hS (lv_sub hl [0, 1, 2, 3] rfl)
set_option maxHeartbeats 8000000 in
set_option maxRecDepth 100000 in
theorem lc_34 {p : Program} {e : Env} {s : State} {m : MethodId} {below : List Frame} {meth : Method} {c0 : Code} {b L : Nat} {xs : Nat → Int32} (l : Launch) {G : z_G} {A : Nat → Prop} {adK adV : Nat → Nat} (hK : z_K G s) (hA : ∀ q : Nat, s.heap.size ≤ q → A q) (hAi : ∀ q : Nat, A q → s.heap.size ≤ q) (hSt : z_St A s s.heap) (hKn : z_Cq adK adV A s s.heap) (hL : L ≤ 3584) (C0 : lw_At p s m meth c0 b L xs) {c : z_C} {ad adM : Nat → Nat} {Ix Im : z_I} {Jm : z_J} (hLX : z_LX c Ix) (hLM : z_LM Im) (htd : z_EQ Ix Im) {H : Heap} {locs : List Loc} {ls : Array Slot} (hWX : z_W G A (shC c, ad, Ix, JX, PC c ad) H) (hWM : z_W G A (shM, adM, Im, Jm, PM adM) H) (hap : ∀ i j, shC c i ≠ none → shM j ≠ none → ad i ≠ adM j) (hS : va_S A s.heap H locs) {i : Int32} (hi0 : 0 ≤ i.toInt) (hiL : i.toInt + 7 ≤ (L : Int)) (hl : lv_has ls 4 [(3, .int i), (2, .ref (adM 0)), (1, .ref (ad 0)), (0, .ref b)]) {cells slots : Nat} (hce : cells + 8 ≤ 600000) (hsl : slots + 2006 ≤ 7302250) (kk : ∀ (c : z_C) (ad : Nat → Nat) (Ix Im : z_I) (Jm : z_J) (H : Heap) (locs : List Loc) (ls : Array Slot), z_LX c Ix → z_LM Im → z_EQ Ix Im → z_W G A (shC c, ad, Ix, JX, PC c ad) H → z_W G A (shM, adM, Im, Jm, PM adM) H → (∀ i j, shC c i ≠ none → shM j ≠ none → ad i ≠ adM j) → va_S A s.heap H locs → lv_has ls 4 [(3, .int i), (2, .ref (adM 0)), (1, .ref (ad 0)), (0, .ref b)] → W p l e room_1 s m #[Value.ref b] below meth c0 H locs (cells + 8) (slots + 2006) (lw_Z below #[Value.ref b] s) (F0 m 1508 ls [])) : W p l e room_1 s m #[Value.ref b] below meth c0 H locs (cells) (slots) (lw_Z below #[Value.ref b] s) (F0 m 1436 ls []) := by
  obtain ⟨hx, hb, hr, hml, hown, hts0, hX, hbl, hlocks, hgv⟩ := id C0
  have hown : s.vm.findClass RL = some m.cls := hown
  have hts : ∀ w ∈ wsL_law, w.before #[Value.ref b] s = true := fun w hw => hts0 w (wsL_law_in w hw)
  have hbA : ¬ A b := fun h => absurd (hAi b h) (Nat.not_le.mpr hbl)
  have hLi : (L : Int) ≤ 3584 := by omega
  refine lv_aload_n hx hb dL_law_1436 rfl (lv_at hl 2 rfl) ?_
  refine lv_aload_n hx hb dL_law_1437 rfl (lv_at hl 3 rfl) ?_
  refine lv_iload_n hx hb dL_law_1438 rfl (lv_at hl 0 rfl) ?_
  refine lv_iconst (v := 1) hx hb dL_law_1439 (by decide) ?_
  refine lv_iadd hx hb dL_law_1440 ?_
  refine lv_topi (fun x1 ex1 => ?_)
  have tx1 : x1.toInt = i.toInt + 1 := z_tadd ex1 rfl z_l1 (by omega) (by omega)
  refine va_sld hx hb hX hbl hbA hS (z_ix rfl (by omega) (by omega)) dL_law_1441 ?_
  refine lv_topi (fun x2 ex2 => ?_)
  refine lv_aload_n hx hb dL_law_1442 rfl (lv_at hl 3 rfl) ?_
  refine lv_iload_n hx hb dL_law_1443 rfl (lv_at hl 0 rfl) ?_
  refine lv_iconst (v := 2) hx hb dL_law_1444 (by decide) ?_
  refine lv_iadd hx hb dL_law_1445 ?_
  refine lv_topi (fun x3 ex3 => ?_)
  have tx3 : x3.toInt = i.toInt + 2 := z_tadd ex3 rfl z_l2 (by omega) (by omega)
  refine va_sld hx hb hX hbl hbA hS (z_ix rfl (by omega) (by omega)) dL_law_1446 ?_
  refine lv_topi (fun x4 ex4 => ?_)
  refine lv_if_eq (tgt := 1454) hx hb dL_law_1447 (by decide) (fun c5 => ?_) (fun c5 => ?_)
  · have g6 := z_f_eq rfl z_l0 c5
    have b7 := Int32.toInt_lt x4
    refine lv_iconst (v := 0) hx hb dL_law_1454 (by decide) ?_
    refine z_ciD hWX hWM hap hS hA (va_runV (As := [.int x2, .int 0]) (rest := []) ⟨hx, hb, hml, hown, hts0⟩ (sx_X11_foretold l G ad c Ix hLX.1 hLX.2.2.1 hLX.2.2.2.2.2.2.2.2.1 hLX.2.2.2.2.2.1 x2 0 hLX.2.2.2.2.2.2.2.2.2.1 hLX.2.2.2.2.2.2.2.2.2.2.1 _) (cwV 2 hts0 gV_X11_foretold rfl rfl rfl (by decide +kernel) ⟨(Nat.le_of_ble_eq_true rfl), (Nat.le_of_ble_eq_true rfl)⟩) (z_preVS (i := 0) hK hWX hS hA hSt rfl rfl) rfl rfl hl.1 rfl (lv_room (Nat.le_of_ble_eq_true rfl)) dL_law_1455 ⟨(by show cells + 0 ≤ 600000; omega), (by show slots + 0 ≤ 7302250; omega)⟩) (fun r u1 H locs hp hWX hWM hap hS => ?_)
    obtain ⟨I8, rfl, p10, p11, p12, p13, p14⟩ := hp
    have hLXI8 : z_LX c I8 := ⟨p10, ⟨(by show 0 ≤ (I8 12 1).toInt ∧ (I8 12 1).toInt ≤ 500; rw [p14 12 1 (by decide)]; exact hLX.2.1.1), (by show 0 ≤ (I8 12 5).toInt ∧ (I8 12 5).toInt ≤ 501; rw [p14 12 5 (by decide)]; exact hLX.2.1.2.1), (by show (-1) ≤ (I8 12 6).toInt ∧ (I8 12 6).toInt ≤ 1000000; rw [p14 12 6 (by decide)]; exact hLX.2.1.2.2.1), (by show 0 ≤ (I8 12 9).toInt ∧ (I8 12 9).toInt ≤ 500; rw [p14 12 9 (by decide)]; exact hLX.2.1.2.2.2.1), (by show 0 ≤ (I8 12 13).toInt ∧ (I8 12 13).toInt ≤ 24; rw [p14 12 13 (by decide)]; exact hLX.2.1.2.2.2.2)⟩, p11, (by show 0 ≤ (I8 26 4).toInt ∧ (I8 26 4).toInt ≤ 512; rw [p14 26 4 (by decide)]; exact hLX.2.2.2.1), (by show 0 ≤ (I8 30 8).toInt ∧ (I8 30 8).toInt ≤ 300; rw [p14 30 8 (by decide)]; exact hLX.2.2.2.2.1), p13, ⟨(by show 0 ≤ (I8 60 9).toInt ∧ (I8 60 9).toInt ≤ 60; rw [p14 60 9 (by decide)]; exact hLX.2.2.2.2.2.2.1.1), (by show 0 ≤ (I8 60 12).toInt ∧ (I8 60 12).toInt ≤ 12; rw [p14 60 12 (by decide)]; exact hLX.2.2.2.2.2.2.1.2)⟩, (by show 0 ≤ (I8 72 2).toInt ∧ (I8 72 2).toInt ≤ 30; rw [p14 72 2 (by decide)]; exact hLX.2.2.2.2.2.2.2.1), p12, hLX.2.2.2.2.2.2.2.2.2.1, hLX.2.2.2.2.2.2.2.2.2.2.1, (z_iS_fr hLX.2.2.2.2.2.2.2.2.2.2.2.1 p14 (by decide)), (by rw [p14 0 8 (by decide)]; exact hLX.2.2.2.2.2.2.2.2.2.2.2.2.1), (by rw [p14 21 2 (by decide)]; exact hLX.2.2.2.2.2.2.2.2.2.2.2.2.2)⟩
    refine lv_topi (fun x15 ex15 => ?_)
    refine lv_pop hx hb dL_law_1458 rfl ?_
    refine lv_aload_n hx hb dL_law_1459 rfl (lv_at hl 1 rfl) ?_
    refine lv_aload_n hx hb dL_law_1460 rfl (lv_at hl 3 rfl) ?_
    refine lv_iload_n hx hb dL_law_1461 rfl (lv_at hl 0 rfl) ?_
    refine lv_iconst (v := 1) hx hb dL_law_1462 (by decide) ?_
    refine lv_iadd hx hb dL_law_1463 ?_
    refine lv_topi (fun x16 ex16 => ?_)
    have tx16 : x16.toInt = i.toInt + 1 := z_tadd ex16 rfl z_l1 (by omega) (by omega)
    refine va_sld hx hb hX hbl hbA hS (z_ix rfl (by omega) (by omega)) dL_law_1464 ?_
    refine lv_topi (fun x17 ex17 => ?_)
    refine lv_aload_n hx hb dL_law_1465 rfl (lv_at hl 3 rfl) ?_
    refine lv_iload_n hx hb dL_law_1466 rfl (lv_at hl 0 rfl) ?_
    refine lv_iconst (v := 2) hx hb dL_law_1467 (by decide) ?_
    refine lv_iadd hx hb dL_law_1468 ?_
    refine lv_topi (fun x18 ex18 => ?_)
    have tx18 : x18.toInt = i.toInt + 2 := z_tadd ex18 rfl z_l2 (by omega) (by omega)
    refine va_sld hx hb hX hbl hbA hS (z_ix rfl (by omega) (by omega)) dL_law_1469 ?_
    refine lv_topi (fun x19 ex19 => ?_)
    refine lv_if_eq (tgt := 1477) hx hb dL_law_1470 (by decide) (fun c20 => ?_) (fun c20 => ?_)
    · have g21 := z_f_eq rfl z_l0 c20
      have b22 := Int32.toInt_lt x19
      refine lv_iconst (v := 0) hx hb dL_law_1477 (by decide) ?_
      refine z_ciD hWM hWX (fun i j hi hj e => hap j i hj hi e.symm) hS hA (va_runV (As := [.int x17, .int 0]) (rest := []) ⟨hx, hb, hml, hown, hts0⟩ (sx_X12_foretold l G adM Im Jm hLM.1 hLM.2.1 hLM.2.2.2.2.2.2.2.2.1 hLM.2.2.2.2.2.2.2.2.2.2.2.2.2.2.2.1 hLM.2.2.2.2.2.2.2.2.2.2.2.2.2.2.2.2.1 hLM.2.2.2.2.2.2.2.2.2.2.2.2.2.2.2.2.2.2.2.2.1 hLM.2.2.2.2.2.2.2.2.2.2.2.2.2.2.2.2.2.1 hLM.2.2.2.2.2.2.2.2.2.2.2.2.2.2.2.2.2.2.1 hLM.2.2.2.2.2.2.2.2.2.2.2.2.2.2.2.2.2.2.2.1 hLM.2.2.2.2.2.2.2.2.2.2.2.2.2.2.2.2.2.2.2.2.2.1 x17 0 _) (cwV 2 hts0 gV_X12_foretold rfl rfl rfl (by decide +kernel) ⟨(Nat.le_of_ble_eq_true rfl), (Nat.le_of_ble_eq_true rfl)⟩) (z_preV (i := 0) hK hWM rfl rfl) rfl rfl hl.1 rfl (lv_room (Nat.le_of_ble_eq_true rfl)) dL_law_1478 ⟨(by show cells + 0 + 0 ≤ 600000; omega), (by show slots + 0 + 0 ≤ 7302250; omega)⟩) (fun r u1 H locs hp hWM hWX hapn hS => ?_)
      obtain ⟨I23, J24, rfl, p25, p26, p27, p28, p29, p30, p31, p32, p33, p34, p35⟩ := hp
      have hLMI23 : z_LM I23 := ⟨p25, p26, (by show 0 ≤ (I23 0 15).toInt ∧ (I23 0 15).toInt ≤ 6100; rw [p35 0 15 (by decide)]; exact hLM.2.2.1), ⟨(by show 0 ≤ (I23 0 31).toInt ∧ (I23 0 31).toInt ≤ 500; rw [p35 0 31 (by decide)]; exact hLM.2.2.2.1.1), (by show 0 ≤ (I23 0 33).toInt ∧ (I23 0 33).toInt ≤ 500; rw [p35 0 33 (by decide)]; exact hLM.2.2.2.1.2.1), (by show 0 ≤ (I23 0 34).toInt ∧ (I23 0 34).toInt ≤ 500; rw [p35 0 34 (by decide)]; exact hLM.2.2.2.1.2.2.1), (by show 0 ≤ (I23 0 35).toInt ∧ (I23 0 35).toInt ≤ 500; rw [p35 0 35 (by decide)]; exact hLM.2.2.2.1.2.2.2)⟩, ⟨(by show 0 ≤ (I23 0 36).toInt ∧ (I23 0 36).toInt ≤ 4; rw [p35 0 36 (by decide)]; exact hLM.2.2.2.2.1.1), (by show 0 ≤ (I23 0 42).toInt ∧ (I23 0 42).toInt ≤ 1; rw [p35 0 42 (by decide)]; exact hLM.2.2.2.2.1.2)⟩, ⟨(by show 0 ≤ (I23 0 47).toInt ∧ (I23 0 47).toInt ≤ 119; rw [p35 0 47 (by decide)]; exact hLM.2.2.2.2.2.1.1), (by show 0 ≤ (I23 0 39).toInt ∧ (I23 0 39).toInt ≤ 100; rw [p35 0 39 (by decide)]; exact hLM.2.2.2.2.2.1.2)⟩, (by show 0 ≤ (I23 0 40).toInt ∧ (I23 0 40).toInt ≤ 6199; rw [p35 0 40 (by decide)]; exact hLM.2.2.2.2.2.2.1), ⟨(by show 0 ≤ (I23 0 54).toInt ∧ (I23 0 54).toInt ≤ 10; rw [p35 0 54 (by decide)]; exact hLM.2.2.2.2.2.2.2.1.1), (by show 0 ≤ (I23 0 55).toInt ∧ (I23 0 55).toInt ≤ 300; rw [p35 0 55 (by decide)]; exact hLM.2.2.2.2.2.2.2.1.2)⟩, p27, (by show 0 ≤ (I23 0 83).toInt ∧ (I23 0 83).toInt ≤ 60; rw [p35 0 83 (by decide)]; exact hLM.2.2.2.2.2.2.2.2.2.1), (z_rg_fr hLM.2.2.2.2.2.2.2.2.2.2.1 p35 (by decide)), (z_rg_fr hLM.2.2.2.2.2.2.2.2.2.2.2.1 p35 (by decide)), (z_rg_fr hLM.2.2.2.2.2.2.2.2.2.2.2.2.1 p35 (by decide)), (z_rg_fr hLM.2.2.2.2.2.2.2.2.2.2.2.2.2.1 p35 (by decide)), (z_rg_fr hLM.2.2.2.2.2.2.2.2.2.2.2.2.2.2.1 p35 (by decide)), p28, p29, p31, p32, p33, p30, p34, (z_rg_fr hLM.2.2.2.2.2.2.2.2.2.2.2.2.2.2.2.2.2.2.2.2.2.2.1 p35 (by decide)), (z_rg_fr hLM.2.2.2.2.2.2.2.2.2.2.2.2.2.2.2.2.2.2.2.2.2.2.2.1 p35 (by decide)), (z_rg_fr hLM.2.2.2.2.2.2.2.2.2.2.2.2.2.2.2.2.2.2.2.2.2.2.2.2.1 p35 (by decide)), (z_rg_fr hLM.2.2.2.2.2.2.2.2.2.2.2.2.2.2.2.2.2.2.2.2.2.2.2.2.2.1 p35 (by decide)), (z_rg_fr hLM.2.2.2.2.2.2.2.2.2.2.2.2.2.2.2.2.2.2.2.2.2.2.2.2.2.2.1 p35 (by decide)), (z_rg_fr hLM.2.2.2.2.2.2.2.2.2.2.2.2.2.2.2.2.2.2.2.2.2.2.2.2.2.2.2.1 p35 (by decide)), (z_rg_fr hLM.2.2.2.2.2.2.2.2.2.2.2.2.2.2.2.2.2.2.2.2.2.2.2.2.2.2.2.2.1 p35 (by decide)), (by unfold z_iro; rw [p35 0 13 (by decide), p35 0 14 (by decide), p35 0 15 (by decide)]; exact hLM.2.2.2.2.2.2.2.2.2.2.2.2.2.2.2.2.2.2.2.2.2.2.2.2.2.2.2.2.2)⟩
      have hap := fun i j hi hj e => hapn j i hj hi (Eq.symm e)
      refine lv_topi (fun x36 ex36 => ?_)
      refine lv_pop hx hb dL_law_1481 rfl ?_
      refine lv_goto (tgt := 1508) hx hb dL_law_1482 (by decide) ?_
      have hEQ9 : z_EQ I8 I23 := ⟨(by rw [p14 0 0 (by decide), p35 0 0 (by decide)]; exact htd.1), (by rw [p14 1 5 (by decide), p35 0 1 (by decide)]; exact htd.2.1), (by rw [p14 60 9 (by decide), p35 0 83 (by decide)]; exact htd.2.2)⟩
      refine W.widen (k := cells + 8) (n := slots + 2006) (by omega) (by omega) ?_
      exact kk c ad I8 I23 J24 _ _ _ hLXI8 hLMI23 hEQ9 hWX hWM hap hS (lv_sub hl [0, 1, 2, 3] rfl)
    · have g37 := z_f_ne rfl z_l0 c20
      have b38 := Int32.toInt_lt x19
      refine lv_iconst (v := 1) hx hb dL_law_1473 (by decide) ?_
      refine lv_goto (tgt := 1478) hx hb dL_law_1474 (by decide) ?_
      refine z_ciD hWM hWX (fun i j hi hj e => hap j i hj hi e.symm) hS hA (va_runV (As := [.int x17, .int 1]) (rest := []) ⟨hx, hb, hml, hown, hts0⟩ (sx_X12_foretold l G adM Im Jm hLM.1 hLM.2.1 hLM.2.2.2.2.2.2.2.2.1 hLM.2.2.2.2.2.2.2.2.2.2.2.2.2.2.2.1 hLM.2.2.2.2.2.2.2.2.2.2.2.2.2.2.2.2.1 hLM.2.2.2.2.2.2.2.2.2.2.2.2.2.2.2.2.2.2.2.2.1 hLM.2.2.2.2.2.2.2.2.2.2.2.2.2.2.2.2.2.1 hLM.2.2.2.2.2.2.2.2.2.2.2.2.2.2.2.2.2.2.1 hLM.2.2.2.2.2.2.2.2.2.2.2.2.2.2.2.2.2.2.2.1 hLM.2.2.2.2.2.2.2.2.2.2.2.2.2.2.2.2.2.2.2.2.2.1 x17 1 _) (cwV 2 hts0 gV_X12_foretold rfl rfl rfl (by decide +kernel) ⟨(Nat.le_of_ble_eq_true rfl), (Nat.le_of_ble_eq_true rfl)⟩) (z_preV (i := 0) hK hWM rfl rfl) rfl rfl hl.1 rfl (lv_room (Nat.le_of_ble_eq_true rfl)) dL_law_1478 ⟨(by show cells + 0 + 0 ≤ 600000; omega), (by show slots + 0 + 0 ≤ 7302250; omega)⟩) (fun r u1 H locs hp hWM hWX hapn hS => ?_)
      obtain ⟨I39, J40, rfl, p41, p42, p43, p44, p45, p46, p47, p48, p49, p50, p51⟩ := hp
      have hLMI39 : z_LM I39 := ⟨p41, p42, (by show 0 ≤ (I39 0 15).toInt ∧ (I39 0 15).toInt ≤ 6100; rw [p51 0 15 (by decide)]; exact hLM.2.2.1), ⟨(by show 0 ≤ (I39 0 31).toInt ∧ (I39 0 31).toInt ≤ 500; rw [p51 0 31 (by decide)]; exact hLM.2.2.2.1.1), (by show 0 ≤ (I39 0 33).toInt ∧ (I39 0 33).toInt ≤ 500; rw [p51 0 33 (by decide)]; exact hLM.2.2.2.1.2.1), (by show 0 ≤ (I39 0 34).toInt ∧ (I39 0 34).toInt ≤ 500; rw [p51 0 34 (by decide)]; exact hLM.2.2.2.1.2.2.1), (by show 0 ≤ (I39 0 35).toInt ∧ (I39 0 35).toInt ≤ 500; rw [p51 0 35 (by decide)]; exact hLM.2.2.2.1.2.2.2)⟩, ⟨(by show 0 ≤ (I39 0 36).toInt ∧ (I39 0 36).toInt ≤ 4; rw [p51 0 36 (by decide)]; exact hLM.2.2.2.2.1.1), (by show 0 ≤ (I39 0 42).toInt ∧ (I39 0 42).toInt ≤ 1; rw [p51 0 42 (by decide)]; exact hLM.2.2.2.2.1.2)⟩, ⟨(by show 0 ≤ (I39 0 47).toInt ∧ (I39 0 47).toInt ≤ 119; rw [p51 0 47 (by decide)]; exact hLM.2.2.2.2.2.1.1), (by show 0 ≤ (I39 0 39).toInt ∧ (I39 0 39).toInt ≤ 100; rw [p51 0 39 (by decide)]; exact hLM.2.2.2.2.2.1.2)⟩, (by show 0 ≤ (I39 0 40).toInt ∧ (I39 0 40).toInt ≤ 6199; rw [p51 0 40 (by decide)]; exact hLM.2.2.2.2.2.2.1), ⟨(by show 0 ≤ (I39 0 54).toInt ∧ (I39 0 54).toInt ≤ 10; rw [p51 0 54 (by decide)]; exact hLM.2.2.2.2.2.2.2.1.1), (by show 0 ≤ (I39 0 55).toInt ∧ (I39 0 55).toInt ≤ 300; rw [p51 0 55 (by decide)]; exact hLM.2.2.2.2.2.2.2.1.2)⟩, p43, (by show 0 ≤ (I39 0 83).toInt ∧ (I39 0 83).toInt ≤ 60; rw [p51 0 83 (by decide)]; exact hLM.2.2.2.2.2.2.2.2.2.1), (z_rg_fr hLM.2.2.2.2.2.2.2.2.2.2.1 p51 (by decide)), (z_rg_fr hLM.2.2.2.2.2.2.2.2.2.2.2.1 p51 (by decide)), (z_rg_fr hLM.2.2.2.2.2.2.2.2.2.2.2.2.1 p51 (by decide)), (z_rg_fr hLM.2.2.2.2.2.2.2.2.2.2.2.2.2.1 p51 (by decide)), (z_rg_fr hLM.2.2.2.2.2.2.2.2.2.2.2.2.2.2.1 p51 (by decide)), p44, p45, p47, p48, p49, p46, p50, (z_rg_fr hLM.2.2.2.2.2.2.2.2.2.2.2.2.2.2.2.2.2.2.2.2.2.2.1 p51 (by decide)), (z_rg_fr hLM.2.2.2.2.2.2.2.2.2.2.2.2.2.2.2.2.2.2.2.2.2.2.2.1 p51 (by decide)), (z_rg_fr hLM.2.2.2.2.2.2.2.2.2.2.2.2.2.2.2.2.2.2.2.2.2.2.2.2.1 p51 (by decide)), (z_rg_fr hLM.2.2.2.2.2.2.2.2.2.2.2.2.2.2.2.2.2.2.2.2.2.2.2.2.2.1 p51 (by decide)), (z_rg_fr hLM.2.2.2.2.2.2.2.2.2.2.2.2.2.2.2.2.2.2.2.2.2.2.2.2.2.2.1 p51 (by decide)), (z_rg_fr hLM.2.2.2.2.2.2.2.2.2.2.2.2.2.2.2.2.2.2.2.2.2.2.2.2.2.2.2.1 p51 (by decide)), (z_rg_fr hLM.2.2.2.2.2.2.2.2.2.2.2.2.2.2.2.2.2.2.2.2.2.2.2.2.2.2.2.2.1 p51 (by decide)), (by unfold z_iro; rw [p51 0 13 (by decide), p51 0 14 (by decide), p51 0 15 (by decide)]; exact hLM.2.2.2.2.2.2.2.2.2.2.2.2.2.2.2.2.2.2.2.2.2.2.2.2.2.2.2.2.2)⟩
      have hap := fun i j hi hj e => hapn j i hj hi (Eq.symm e)
      refine lv_topi (fun x52 ex52 => ?_)
      refine lv_pop hx hb dL_law_1481 rfl ?_
      refine lv_goto (tgt := 1508) hx hb dL_law_1482 (by decide) ?_
      have hEQ9 : z_EQ I8 I39 := ⟨(by rw [p14 0 0 (by decide), p51 0 0 (by decide)]; exact htd.1), (by rw [p14 1 5 (by decide), p51 0 1 (by decide)]; exact htd.2.1), (by rw [p14 60 9 (by decide), p51 0 83 (by decide)]; exact htd.2.2)⟩
      refine W.widen (k := cells + 8) (n := slots + 2006) (by omega) (by omega) ?_
      exact kk c ad I8 I39 J40 _ _ _ hLXI8 hLMI39 hEQ9 hWX hWM hap hS (lv_sub hl [0, 1, 2, 3] rfl)
  · have g53 := z_f_ne rfl z_l0 c5
    have b54 := Int32.toInt_lt x4
    refine lv_iconst (v := 1) hx hb dL_law_1450 (by decide) ?_
    refine lv_goto (tgt := 1455) hx hb dL_law_1451 (by decide) ?_
    refine z_ciD hWX hWM hap hS hA (va_runV (As := [.int x2, .int 1]) (rest := []) ⟨hx, hb, hml, hown, hts0⟩ (sx_X11_foretold l G ad c Ix hLX.1 hLX.2.2.1 hLX.2.2.2.2.2.2.2.2.1 hLX.2.2.2.2.2.1 x2 1 hLX.2.2.2.2.2.2.2.2.2.1 hLX.2.2.2.2.2.2.2.2.2.2.1 _) (cwV 2 hts0 gV_X11_foretold rfl rfl rfl (by decide +kernel) ⟨(Nat.le_of_ble_eq_true rfl), (Nat.le_of_ble_eq_true rfl)⟩) (z_preVS (i := 0) hK hWX hS hA hSt rfl rfl) rfl rfl hl.1 rfl (lv_room (Nat.le_of_ble_eq_true rfl)) dL_law_1455 ⟨(by show cells + 0 ≤ 600000; omega), (by show slots + 0 ≤ 7302250; omega)⟩) (fun r u1 H locs hp hWX hWM hap hS => ?_)
    obtain ⟨I55, rfl, p57, p58, p59, p60, p61⟩ := hp
    have hLXI55 : z_LX c I55 := ⟨p57, ⟨(by show 0 ≤ (I55 12 1).toInt ∧ (I55 12 1).toInt ≤ 500; rw [p61 12 1 (by decide)]; exact hLX.2.1.1), (by show 0 ≤ (I55 12 5).toInt ∧ (I55 12 5).toInt ≤ 501; rw [p61 12 5 (by decide)]; exact hLX.2.1.2.1), (by show (-1) ≤ (I55 12 6).toInt ∧ (I55 12 6).toInt ≤ 1000000; rw [p61 12 6 (by decide)]; exact hLX.2.1.2.2.1), (by show 0 ≤ (I55 12 9).toInt ∧ (I55 12 9).toInt ≤ 500; rw [p61 12 9 (by decide)]; exact hLX.2.1.2.2.2.1), (by show 0 ≤ (I55 12 13).toInt ∧ (I55 12 13).toInt ≤ 24; rw [p61 12 13 (by decide)]; exact hLX.2.1.2.2.2.2)⟩, p58, (by show 0 ≤ (I55 26 4).toInt ∧ (I55 26 4).toInt ≤ 512; rw [p61 26 4 (by decide)]; exact hLX.2.2.2.1), (by show 0 ≤ (I55 30 8).toInt ∧ (I55 30 8).toInt ≤ 300; rw [p61 30 8 (by decide)]; exact hLX.2.2.2.2.1), p60, ⟨(by show 0 ≤ (I55 60 9).toInt ∧ (I55 60 9).toInt ≤ 60; rw [p61 60 9 (by decide)]; exact hLX.2.2.2.2.2.2.1.1), (by show 0 ≤ (I55 60 12).toInt ∧ (I55 60 12).toInt ≤ 12; rw [p61 60 12 (by decide)]; exact hLX.2.2.2.2.2.2.1.2)⟩, (by show 0 ≤ (I55 72 2).toInt ∧ (I55 72 2).toInt ≤ 30; rw [p61 72 2 (by decide)]; exact hLX.2.2.2.2.2.2.2.1), p59, hLX.2.2.2.2.2.2.2.2.2.1, hLX.2.2.2.2.2.2.2.2.2.2.1, (z_iS_fr hLX.2.2.2.2.2.2.2.2.2.2.2.1 p61 (by decide)), (by rw [p61 0 8 (by decide)]; exact hLX.2.2.2.2.2.2.2.2.2.2.2.2.1), (by rw [p61 21 2 (by decide)]; exact hLX.2.2.2.2.2.2.2.2.2.2.2.2.2)⟩
    refine lv_topi (fun x62 ex62 => ?_)
    refine lv_pop hx hb dL_law_1458 rfl ?_
    refine lv_aload_n hx hb dL_law_1459 rfl (lv_at hl 1 rfl) ?_
    refine lv_aload_n hx hb dL_law_1460 rfl (lv_at hl 3 rfl) ?_
    refine lv_iload_n hx hb dL_law_1461 rfl (lv_at hl 0 rfl) ?_
    refine lv_iconst (v := 1) hx hb dL_law_1462 (by decide) ?_
    refine lv_iadd hx hb dL_law_1463 ?_
    refine lv_topi (fun x63 ex63 => ?_)
    have tx63 : x63.toInt = i.toInt + 1 := z_tadd ex63 rfl z_l1 (by omega) (by omega)
    refine va_sld hx hb hX hbl hbA hS (z_ix rfl (by omega) (by omega)) dL_law_1464 ?_
    refine lv_topi (fun x64 ex64 => ?_)
    refine lv_aload_n hx hb dL_law_1465 rfl (lv_at hl 3 rfl) ?_
    refine lv_iload_n hx hb dL_law_1466 rfl (lv_at hl 0 rfl) ?_
    refine lv_iconst (v := 2) hx hb dL_law_1467 (by decide) ?_
    refine lv_iadd hx hb dL_law_1468 ?_
    refine lv_topi (fun x65 ex65 => ?_)
    have tx65 : x65.toInt = i.toInt + 2 := z_tadd ex65 rfl z_l2 (by omega) (by omega)
    refine va_sld hx hb hX hbl hbA hS (z_ix rfl (by omega) (by omega)) dL_law_1469 ?_
    refine lv_topi (fun x66 ex66 => ?_)
    refine lv_if_eq (tgt := 1477) hx hb dL_law_1470 (by decide) (fun c67 => ?_) (fun c67 => ?_)
    · have g68 := z_f_eq rfl z_l0 c67
      have b69 := Int32.toInt_lt x66
      refine lv_iconst (v := 0) hx hb dL_law_1477 (by decide) ?_
      refine z_ciD hWM hWX (fun i j hi hj e => hap j i hj hi e.symm) hS hA (va_runV (As := [.int x64, .int 0]) (rest := []) ⟨hx, hb, hml, hown, hts0⟩ (sx_X12_foretold l G adM Im Jm hLM.1 hLM.2.1 hLM.2.2.2.2.2.2.2.2.1 hLM.2.2.2.2.2.2.2.2.2.2.2.2.2.2.2.1 hLM.2.2.2.2.2.2.2.2.2.2.2.2.2.2.2.2.1 hLM.2.2.2.2.2.2.2.2.2.2.2.2.2.2.2.2.2.2.2.2.1 hLM.2.2.2.2.2.2.2.2.2.2.2.2.2.2.2.2.2.1 hLM.2.2.2.2.2.2.2.2.2.2.2.2.2.2.2.2.2.2.1 hLM.2.2.2.2.2.2.2.2.2.2.2.2.2.2.2.2.2.2.2.1 hLM.2.2.2.2.2.2.2.2.2.2.2.2.2.2.2.2.2.2.2.2.2.1 x64 0 _) (cwV 2 hts0 gV_X12_foretold rfl rfl rfl (by decide +kernel) ⟨(Nat.le_of_ble_eq_true rfl), (Nat.le_of_ble_eq_true rfl)⟩) (z_preV (i := 0) hK hWM rfl rfl) rfl rfl hl.1 rfl (lv_room (Nat.le_of_ble_eq_true rfl)) dL_law_1478 ⟨(by show cells + 0 + 0 ≤ 600000; omega), (by show slots + 0 + 0 ≤ 7302250; omega)⟩) (fun r u1 H locs hp hWM hWX hapn hS => ?_)
      obtain ⟨I70, J71, rfl, p72, p73, p74, p75, p76, p77, p78, p79, p80, p81, p82⟩ := hp
      have hLMI70 : z_LM I70 := ⟨p72, p73, (by show 0 ≤ (I70 0 15).toInt ∧ (I70 0 15).toInt ≤ 6100; rw [p82 0 15 (by decide)]; exact hLM.2.2.1), ⟨(by show 0 ≤ (I70 0 31).toInt ∧ (I70 0 31).toInt ≤ 500; rw [p82 0 31 (by decide)]; exact hLM.2.2.2.1.1), (by show 0 ≤ (I70 0 33).toInt ∧ (I70 0 33).toInt ≤ 500; rw [p82 0 33 (by decide)]; exact hLM.2.2.2.1.2.1), (by show 0 ≤ (I70 0 34).toInt ∧ (I70 0 34).toInt ≤ 500; rw [p82 0 34 (by decide)]; exact hLM.2.2.2.1.2.2.1), (by show 0 ≤ (I70 0 35).toInt ∧ (I70 0 35).toInt ≤ 500; rw [p82 0 35 (by decide)]; exact hLM.2.2.2.1.2.2.2)⟩, ⟨(by show 0 ≤ (I70 0 36).toInt ∧ (I70 0 36).toInt ≤ 4; rw [p82 0 36 (by decide)]; exact hLM.2.2.2.2.1.1), (by show 0 ≤ (I70 0 42).toInt ∧ (I70 0 42).toInt ≤ 1; rw [p82 0 42 (by decide)]; exact hLM.2.2.2.2.1.2)⟩, ⟨(by show 0 ≤ (I70 0 47).toInt ∧ (I70 0 47).toInt ≤ 119; rw [p82 0 47 (by decide)]; exact hLM.2.2.2.2.2.1.1), (by show 0 ≤ (I70 0 39).toInt ∧ (I70 0 39).toInt ≤ 100; rw [p82 0 39 (by decide)]; exact hLM.2.2.2.2.2.1.2)⟩, (by show 0 ≤ (I70 0 40).toInt ∧ (I70 0 40).toInt ≤ 6199; rw [p82 0 40 (by decide)]; exact hLM.2.2.2.2.2.2.1), ⟨(by show 0 ≤ (I70 0 54).toInt ∧ (I70 0 54).toInt ≤ 10; rw [p82 0 54 (by decide)]; exact hLM.2.2.2.2.2.2.2.1.1), (by show 0 ≤ (I70 0 55).toInt ∧ (I70 0 55).toInt ≤ 300; rw [p82 0 55 (by decide)]; exact hLM.2.2.2.2.2.2.2.1.2)⟩, p74, (by show 0 ≤ (I70 0 83).toInt ∧ (I70 0 83).toInt ≤ 60; rw [p82 0 83 (by decide)]; exact hLM.2.2.2.2.2.2.2.2.2.1), (z_rg_fr hLM.2.2.2.2.2.2.2.2.2.2.1 p82 (by decide)), (z_rg_fr hLM.2.2.2.2.2.2.2.2.2.2.2.1 p82 (by decide)), (z_rg_fr hLM.2.2.2.2.2.2.2.2.2.2.2.2.1 p82 (by decide)), (z_rg_fr hLM.2.2.2.2.2.2.2.2.2.2.2.2.2.1 p82 (by decide)), (z_rg_fr hLM.2.2.2.2.2.2.2.2.2.2.2.2.2.2.1 p82 (by decide)), p75, p76, p78, p79, p80, p77, p81, (z_rg_fr hLM.2.2.2.2.2.2.2.2.2.2.2.2.2.2.2.2.2.2.2.2.2.2.1 p82 (by decide)), (z_rg_fr hLM.2.2.2.2.2.2.2.2.2.2.2.2.2.2.2.2.2.2.2.2.2.2.2.1 p82 (by decide)), (z_rg_fr hLM.2.2.2.2.2.2.2.2.2.2.2.2.2.2.2.2.2.2.2.2.2.2.2.2.1 p82 (by decide)), (z_rg_fr hLM.2.2.2.2.2.2.2.2.2.2.2.2.2.2.2.2.2.2.2.2.2.2.2.2.2.1 p82 (by decide)), (z_rg_fr hLM.2.2.2.2.2.2.2.2.2.2.2.2.2.2.2.2.2.2.2.2.2.2.2.2.2.2.1 p82 (by decide)), (z_rg_fr hLM.2.2.2.2.2.2.2.2.2.2.2.2.2.2.2.2.2.2.2.2.2.2.2.2.2.2.2.1 p82 (by decide)), (z_rg_fr hLM.2.2.2.2.2.2.2.2.2.2.2.2.2.2.2.2.2.2.2.2.2.2.2.2.2.2.2.2.1 p82 (by decide)), (by unfold z_iro; rw [p82 0 13 (by decide), p82 0 14 (by decide), p82 0 15 (by decide)]; exact hLM.2.2.2.2.2.2.2.2.2.2.2.2.2.2.2.2.2.2.2.2.2.2.2.2.2.2.2.2.2)⟩
      have hap := fun i j hi hj e => hapn j i hj hi (Eq.symm e)
      refine lv_topi (fun x83 ex83 => ?_)
      refine lv_pop hx hb dL_law_1481 rfl ?_
      refine lv_goto (tgt := 1508) hx hb dL_law_1482 (by decide) ?_
      have hEQ9 : z_EQ I55 I70 := ⟨(by rw [p61 0 0 (by decide), p82 0 0 (by decide)]; exact htd.1), (by rw [p61 1 5 (by decide), p82 0 1 (by decide)]; exact htd.2.1), (by rw [p61 60 9 (by decide), p82 0 83 (by decide)]; exact htd.2.2)⟩
      refine W.widen (k := cells + 8) (n := slots + 2006) (by omega) (by omega) ?_
      exact kk c ad I55 I70 J71 _ _ _ hLXI55 hLMI70 hEQ9 hWX hWM hap hS (lv_sub hl [0, 1, 2, 3] rfl)
    · have g84 := z_f_ne rfl z_l0 c67
      have b85 := Int32.toInt_lt x66
      refine lv_iconst (v := 1) hx hb dL_law_1473 (by decide) ?_
      refine lv_goto (tgt := 1478) hx hb dL_law_1474 (by decide) ?_
      refine z_ciD hWM hWX (fun i j hi hj e => hap j i hj hi e.symm) hS hA (va_runV (As := [.int x64, .int 1]) (rest := []) ⟨hx, hb, hml, hown, hts0⟩ (sx_X12_foretold l G adM Im Jm hLM.1 hLM.2.1 hLM.2.2.2.2.2.2.2.2.1 hLM.2.2.2.2.2.2.2.2.2.2.2.2.2.2.2.1 hLM.2.2.2.2.2.2.2.2.2.2.2.2.2.2.2.2.1 hLM.2.2.2.2.2.2.2.2.2.2.2.2.2.2.2.2.2.2.2.2.1 hLM.2.2.2.2.2.2.2.2.2.2.2.2.2.2.2.2.2.1 hLM.2.2.2.2.2.2.2.2.2.2.2.2.2.2.2.2.2.2.1 hLM.2.2.2.2.2.2.2.2.2.2.2.2.2.2.2.2.2.2.2.1 hLM.2.2.2.2.2.2.2.2.2.2.2.2.2.2.2.2.2.2.2.2.2.1 x64 1 _) (cwV 2 hts0 gV_X12_foretold rfl rfl rfl (by decide +kernel) ⟨(Nat.le_of_ble_eq_true rfl), (Nat.le_of_ble_eq_true rfl)⟩) (z_preV (i := 0) hK hWM rfl rfl) rfl rfl hl.1 rfl (lv_room (Nat.le_of_ble_eq_true rfl)) dL_law_1478 ⟨(by show cells + 0 + 0 ≤ 600000; omega), (by show slots + 0 + 0 ≤ 7302250; omega)⟩) (fun r u1 H locs hp hWM hWX hapn hS => ?_)
      obtain ⟨I86, J87, rfl, p88, p89, p90, p91, p92, p93, p94, p95, p96, p97, p98⟩ := hp
      have hLMI86 : z_LM I86 := ⟨p88, p89, (by show 0 ≤ (I86 0 15).toInt ∧ (I86 0 15).toInt ≤ 6100; rw [p98 0 15 (by decide)]; exact hLM.2.2.1), ⟨(by show 0 ≤ (I86 0 31).toInt ∧ (I86 0 31).toInt ≤ 500; rw [p98 0 31 (by decide)]; exact hLM.2.2.2.1.1), (by show 0 ≤ (I86 0 33).toInt ∧ (I86 0 33).toInt ≤ 500; rw [p98 0 33 (by decide)]; exact hLM.2.2.2.1.2.1), (by show 0 ≤ (I86 0 34).toInt ∧ (I86 0 34).toInt ≤ 500; rw [p98 0 34 (by decide)]; exact hLM.2.2.2.1.2.2.1), (by show 0 ≤ (I86 0 35).toInt ∧ (I86 0 35).toInt ≤ 500; rw [p98 0 35 (by decide)]; exact hLM.2.2.2.1.2.2.2)⟩, ⟨(by show 0 ≤ (I86 0 36).toInt ∧ (I86 0 36).toInt ≤ 4; rw [p98 0 36 (by decide)]; exact hLM.2.2.2.2.1.1), (by show 0 ≤ (I86 0 42).toInt ∧ (I86 0 42).toInt ≤ 1; rw [p98 0 42 (by decide)]; exact hLM.2.2.2.2.1.2)⟩, ⟨(by show 0 ≤ (I86 0 47).toInt ∧ (I86 0 47).toInt ≤ 119; rw [p98 0 47 (by decide)]; exact hLM.2.2.2.2.2.1.1), (by show 0 ≤ (I86 0 39).toInt ∧ (I86 0 39).toInt ≤ 100; rw [p98 0 39 (by decide)]; exact hLM.2.2.2.2.2.1.2)⟩, (by show 0 ≤ (I86 0 40).toInt ∧ (I86 0 40).toInt ≤ 6199; rw [p98 0 40 (by decide)]; exact hLM.2.2.2.2.2.2.1), ⟨(by show 0 ≤ (I86 0 54).toInt ∧ (I86 0 54).toInt ≤ 10; rw [p98 0 54 (by decide)]; exact hLM.2.2.2.2.2.2.2.1.1), (by show 0 ≤ (I86 0 55).toInt ∧ (I86 0 55).toInt ≤ 300; rw [p98 0 55 (by decide)]; exact hLM.2.2.2.2.2.2.2.1.2)⟩, p90, (by show 0 ≤ (I86 0 83).toInt ∧ (I86 0 83).toInt ≤ 60; rw [p98 0 83 (by decide)]; exact hLM.2.2.2.2.2.2.2.2.2.1), (z_rg_fr hLM.2.2.2.2.2.2.2.2.2.2.1 p98 (by decide)), (z_rg_fr hLM.2.2.2.2.2.2.2.2.2.2.2.1 p98 (by decide)), (z_rg_fr hLM.2.2.2.2.2.2.2.2.2.2.2.2.1 p98 (by decide)), (z_rg_fr hLM.2.2.2.2.2.2.2.2.2.2.2.2.2.1 p98 (by decide)), (z_rg_fr hLM.2.2.2.2.2.2.2.2.2.2.2.2.2.2.1 p98 (by decide)), p91, p92, p94, p95, p96, p93, p97, (z_rg_fr hLM.2.2.2.2.2.2.2.2.2.2.2.2.2.2.2.2.2.2.2.2.2.2.1 p98 (by decide)), (z_rg_fr hLM.2.2.2.2.2.2.2.2.2.2.2.2.2.2.2.2.2.2.2.2.2.2.2.1 p98 (by decide)), (z_rg_fr hLM.2.2.2.2.2.2.2.2.2.2.2.2.2.2.2.2.2.2.2.2.2.2.2.2.1 p98 (by decide)), (z_rg_fr hLM.2.2.2.2.2.2.2.2.2.2.2.2.2.2.2.2.2.2.2.2.2.2.2.2.2.1 p98 (by decide)), (z_rg_fr hLM.2.2.2.2.2.2.2.2.2.2.2.2.2.2.2.2.2.2.2.2.2.2.2.2.2.2.1 p98 (by decide)), (z_rg_fr hLM.2.2.2.2.2.2.2.2.2.2.2.2.2.2.2.2.2.2.2.2.2.2.2.2.2.2.2.1 p98 (by decide)), (z_rg_fr hLM.2.2.2.2.2.2.2.2.2.2.2.2.2.2.2.2.2.2.2.2.2.2.2.2.2.2.2.2.1 p98 (by decide)), (by unfold z_iro; rw [p98 0 13 (by decide), p98 0 14 (by decide), p98 0 15 (by decide)]; exact hLM.2.2.2.2.2.2.2.2.2.2.2.2.2.2.2.2.2.2.2.2.2.2.2.2.2.2.2.2.2)⟩
      have hap := fun i j hi hj e => hapn j i hj hi (Eq.symm e)
      refine lv_topi (fun x99 ex99 => ?_)
      refine lv_pop hx hb dL_law_1481 rfl ?_
      refine lv_goto (tgt := 1508) hx hb dL_law_1482 (by decide) ?_
      have hEQ9 : z_EQ I55 I86 := ⟨(by rw [p61 0 0 (by decide), p98 0 0 (by decide)]; exact htd.1), (by rw [p61 1 5 (by decide), p98 0 1 (by decide)]; exact htd.2.1), (by rw [p61 60 9 (by decide), p98 0 83 (by decide)]; exact htd.2.2)⟩
      refine W.widen (k := cells + 8) (n := slots + 2006) (by omega) (by omega) ?_
      exact kk c ad I55 I86 J87 _ _ _ hLXI55 hLMI86 hEQ9 hWX hWM hap hS (lv_sub hl [0, 1, 2, 3] rfl)
set_option maxHeartbeats 8000000 in
set_option maxRecDepth 100000 in
theorem lc_35 {p : Program} {e : Env} {s : State} {m : MethodId} {below : List Frame} {meth : Method} {c0 : Code} {b L : Nat} {xs : Nat → Int32} (l : Launch) {G : z_G} {A : Nat → Prop} {adK adV : Nat → Nat} (hK : z_K G s) (hA : ∀ q : Nat, s.heap.size ≤ q → A q) (hAi : ∀ q : Nat, A q → s.heap.size ≤ q) (hSt : z_St A s s.heap) (hKn : z_Cq adK adV A s s.heap) (hL : L ≤ 3584) (C0 : lw_At p s m meth c0 b L xs) {c : z_C} {ad adM : Nat → Nat} {Ix Im : z_I} {Jm : z_J} (hLX : z_LX c Ix) (hLM : z_LM Im) (htd : z_EQ Ix Im) {H : Heap} {locs : List Loc} {ls : Array Slot} (hWX : z_W G A (shC c, ad, Ix, JX, PC c ad) H) (hWM : z_W G A (shM, adM, Im, Jm, PM adM) H) (hap : ∀ i j, shC c i ≠ none → shM j ≠ none → ad i ≠ adM j) (hS : va_S A s.heap H locs) {i : Int32} (hi0 : 0 ≤ i.toInt) (hiL : i.toInt + 7 ≤ (L : Int)) (hl : lv_has ls 4 [(3, .int i), (2, .ref (adM 0)), (1, .ref (ad 0)), (0, .ref b)]) {cells slots : Nat} (hce : cells + 8 ≤ 600000) (hsl : slots + 2006 ≤ 7302250) (kk : ∀ (c : z_C) (ad : Nat → Nat) (Ix Im : z_I) (Jm : z_J) (H : Heap) (locs : List Loc) (ls : Array Slot), z_LX c Ix → z_LM Im → z_EQ Ix Im → z_W G A (shC c, ad, Ix, JX, PC c ad) H → z_W G A (shM, adM, Im, Jm, PM adM) H → (∀ i j, shC c i ≠ none → shM j ≠ none → ad i ≠ adM j) → va_S A s.heap H locs → lv_has ls 4 [(3, .int i), (2, .ref (adM 0)), (1, .ref (ad 0)), (0, .ref b)] → W p l e room_1 s m #[Value.ref b] below meth c0 H locs (cells + 8) (slots + 2006) (lw_Z below #[Value.ref b] s) (F0 m 1508 ls [])) : W p l e room_1 s m #[Value.ref b] below meth c0 H locs (cells) (slots) (lw_Z below #[Value.ref b] s) (F0 m 1485 ls []) := by
  obtain ⟨hx, hb, hr, hml, hown, hts0, hX, hbl, hlocks, hgv⟩ := id C0
  have hown : s.vm.findClass RL = some m.cls := hown
  have hts : ∀ w ∈ wsL_law, w.before #[Value.ref b] s = true := fun w hw => hts0 w (wsL_law_in w hw)
  have hbA : ¬ A b := fun h => absurd (hAi b h) (Nat.not_le.mpr hbl)
  have hLi : (L : Int) ≤ 3584 := by omega
  refine lv_aload_n hx hb dL_law_1485 rfl (lv_at hl 2 rfl) ?_
  refine lv_aload_n hx hb dL_law_1486 rfl (lv_at hl 3 rfl) ?_
  refine lv_iload_n hx hb dL_law_1487 rfl (lv_at hl 0 rfl) ?_
  refine lv_iconst (v := 1) hx hb dL_law_1488 (by decide) ?_
  refine lv_iadd hx hb dL_law_1489 ?_
  refine lv_topi (fun x1 ex1 => ?_)
  have tx1 : x1.toInt = i.toInt + 1 := z_tadd ex1 rfl z_l1 (by omega) (by omega)
  refine va_sld hx hb hX hbl hbA hS (z_ix rfl (by omega) (by omega)) dL_law_1490 ?_
  refine lv_topi (fun x2 ex2 => ?_)
  refine z_ciD hWX hWM hap hS hA (va_runV (As := [.int x2]) (rest := []) ⟨hx, hb, hml, hown, hts0⟩ (sx_X11_count l G ad c Ix hLX.1 hLX.2.1 hLX.2.2.1 hLX.2.2.2.2.1 hLX.2.2.2.1 hLX.2.2.2.2.2.1 hLX.2.2.2.2.2.2.1 hLX.2.2.2.2.2.2.2.2.1 x2 hLX.2.2.2.2.2.2.2.2.2.1 hLX.2.2.2.2.2.2.2.2.2.2.1 _) (cwV 1 hts0 gV_X11_count rfl rfl rfl (by decide +kernel) ⟨(Nat.le_of_ble_eq_true rfl), (Nat.le_of_ble_eq_true rfl)⟩) (z_preV (i := 0) hK hWX rfl rfl) rfl rfl hl.1 rfl (lv_room (Nat.le_of_ble_eq_true rfl)) dL_law_1491 ⟨(by show cells + 0 ≤ 600000; omega), (by show slots + 0 ≤ 7302250; omega)⟩) (fun r u1 H locs hp hWX hWM hap hS => ?_)
  subst hp
  refine lv_topi (fun x3 ex3 => ?_)
  refine lv_pop hx hb dL_law_1494 rfl ?_
  refine lv_aload_n hx hb dL_law_1495 rfl (lv_at hl 1 rfl) ?_
  refine lv_aload_n hx hb dL_law_1496 rfl (lv_at hl 3 rfl) ?_
  refine lv_iload_n hx hb dL_law_1497 rfl (lv_at hl 0 rfl) ?_
  refine lv_iconst (v := 1) hx hb dL_law_1498 (by decide) ?_
  refine lv_iadd hx hb dL_law_1499 ?_
  refine lv_topi (fun x4 ex4 => ?_)
  have tx4 : x4.toInt = i.toInt + 1 := z_tadd ex4 rfl z_l1 (by omega) (by omega)
  refine va_sld hx hb hX hbl hbA hS (z_ix rfl (by omega) (by omega)) dL_law_1500 ?_
  refine lv_topi (fun x5 ex5 => ?_)
  refine z_ciD hWM hWX (fun i j hi hj e => hap j i hj hi e.symm) hS hA (va_runV (As := [.int x5]) (rest := []) ⟨hx, hb, hml, hown, hts0⟩ (sx_X12_count l G adM Im Jm hLM.1 hLM.2.1 hLM.2.2.2.1 hLM.2.2.2.2.2.2.2.1 hLM.2.2.2.2.2.2.2.2.1 hLM.2.2.2.2.2.2.2.2.2.1 x5 _) (cwV 1 hts0 gV_X12_count rfl rfl rfl (by decide +kernel) ⟨(Nat.le_of_ble_eq_true rfl), (Nat.le_of_ble_eq_true rfl)⟩) (z_preV (i := 0) hK hWM rfl rfl) rfl rfl hl.1 rfl (lv_room (Nat.le_of_ble_eq_true rfl)) dL_law_1501 ⟨(by show cells + 0 + 0 ≤ 600000; omega), (by show slots + 0 + 0 ≤ 7302250; omega)⟩) (fun r u1 H locs hp hWM hWX hapn hS => ?_)
  subst hp
  have hap := fun i j hi hj e => hapn j i hj hi (Eq.symm e)
  refine lv_topi (fun x6 ex6 => ?_)
  refine lv_pop hx hb dL_law_1504 rfl ?_
  refine lv_goto (tgt := 1508) hx hb dL_law_1505 (by decide) ?_
  have hEQ9 : z_EQ Ix Im := ⟨htd.1, htd.2.1, htd.2.2⟩
  refine W.widen (k := cells + 8) (n := slots + 2006) (by omega) (by omega) ?_
  exact kk c ad Ix Im Jm _ _ _ hLX hLM hEQ9 hWX hWM hap hS (lv_sub hl [0, 1, 2, 3] rfl)
