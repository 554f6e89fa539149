theorem d_LA_law_1040 : decode (xcode m_LA_law) 1040 = .ok (.iload_n 3, 1) := by decide +kernel
theorem d_LA_law_1041 : decode (xcode m_LA_law) 1041 = .ok (.iconst 2, 1) := by decide +kernel
theorem d_LA_law_1042 : decode (xcode m_LA_law) 1042 = .ok (.iadd, 1) := by decide +kernel
theorem d_LA_law_1043 : decode (xcode m_LA_law) 1043 = .ok (.iaload, 1) := by decide +kernel
theorem d_LA_law_1044 : decode (xcode m_LA_law) 1044 = .ok (.aload_n 0, 1) := by decide +kernel
theorem d_LA_law_1045 : decode (xcode m_LA_law) 1045 = .ok (.iload_n 3, 1) := by decide +kernel
theorem d_LA_law_1046 : decode (xcode m_LA_law) 1046 = .ok (.iconst 3, 1) := by decide +kernel
theorem d_LA_law_1047 : decode (xcode m_LA_law) 1047 = .ok (.iadd, 1) := by decide +kernel
theorem d_LA_law_1048 : decode (xcode m_LA_law) 1048 = .ok (.iaload, 1) := by decide +kernel
theorem d_LA_law_1049 : decode (xcode m_LA_law) 1049 = .ok (.aload_n 0, 1) := by decide +kernel
theorem d_LA_law_1050 : decode (xcode m_LA_law) 1050 = .ok (.iload_n 3, 1) := by decide +kernel
theorem d_LA_law_1051 : decode (xcode m_LA_law) 1051 = .ok (.iconst 4, 1) := by decide +kernel
theorem d_LA_law_1052 : decode (xcode m_LA_law) 1052 = .ok (.iadd, 1) := by decide +kernel
theorem d_LA_law_1053 : decode (xcode m_LA_law) 1053 = .ok (.iaload, 1) := by decide +kernel
theorem d_LA_law_1054 : decode (xcode m_LA_law) 1054 = .ok (.ifCond .eq 7, 3) := by decide +kernel
theorem d_LA_law_1057 : decode (xcode m_LA_law) 1057 = .ok (.iconst 1, 1) := by decide +kernel
theorem d_LA_law_1058 : decode (xcode m_LA_law) 1058 = .ok (.goto 4, 3) := by decide +kernel
theorem d_LA_law_1061 : decode (xcode m_LA_law) 1061 = .ok (.iconst 0, 1) := by decide +kernel
theorem d_LA_law_1062 : decode (xcode m_LA_law) 1062 = .ok (.invokevirtual 99, 3) := by decide +kernel
theorem d_LA_law_1065 : decode (xcode m_LA_law) 1065 = .ok (.if_icmp .eq 279, 3) := by decide +kernel
theorem d_LA_law_1068 : decode (xcode m_LA_law) 1068 = .ok (.iconst 0, 1) := by decide +kernel
theorem d_LA_law_1069 : decode (xcode m_LA_law) 1069 = .ok (.ireturn, 1) := by decide +kernel
theorem d_LA_law_1070 : decode (xcode m_LA_law) 1070 = .ok (.aload_n 1, 1) := by decide +kernel
theorem d_LA_law_1071 : decode (xcode m_LA_law) 1071 = .ok (.aload_n 0, 1) := by decide +kernel
theorem d_LA_law_1072 : decode (xcode m_LA_law) 1072 = .ok (.iload_n 3, 1) := by decide +kernel
theorem d_LA_law_1073 : decode (xcode m_LA_law) 1073 = .ok (.iconst 1, 1) := by decide +kernel
theorem d_LA_law_1074 : decode (xcode m_LA_law) 1074 = .ok (.iadd, 1) := by decide +kernel
theorem d_LA_law_1075 : decode (xcode m_LA_law) 1075 = .ok (.iaload, 1) := by decide +kernel
theorem d_LA_law_1076 : decode (xcode m_LA_law) 1076 = .ok (.aload_n 0, 1) := by decide +kernel
theorem d_LA_law_1077 : decode (xcode m_LA_law) 1077 = .ok (.iload_n 3, 1) := by decide +kernel
theorem d_LA_law_1078 : decode (xcode m_LA_law) 1078 = .ok (.iconst 2, 1) := by decide +kernel
theorem d_LA_law_1079 : decode (xcode m_LA_law) 1079 = .ok (.iadd, 1) := by decide +kernel
theorem d_LA_law_1080 : decode (xcode m_LA_law) 1080 = .ok (.iaload, 1) := by decide +kernel
theorem d_LA_law_1081 : decode (xcode m_LA_law) 1081 = .ok (.aload_n 0, 1) := by decide +kernel
theorem d_LA_law_1082 : decode (xcode m_LA_law) 1082 = .ok (.iload_n 3, 1) := by decide +kernel
theorem d_LA_law_1083 : decode (xcode m_LA_law) 1083 = .ok (.iconst 3, 1) := by decide +kernel
theorem d_LA_law_1084 : decode (xcode m_LA_law) 1084 = .ok (.iadd, 1) := by decide +kernel
theorem d_LA_law_1085 : decode (xcode m_LA_law) 1085 = .ok (.iaload, 1) := by decide +kernel
theorem d_LA_law_1086 : decode (xcode m_LA_law) 1086 = .ok (.invokevirtual 100, 3) := by decide +kernel
theorem d_LA_law_1089 : decode (xcode m_LA_law) 1089 = .ok (.aload_n 2, 1) := by decide +kernel
theorem d_LA_law_1090 : decode (xcode m_LA_law) 1090 = .ok (.aload_n 0, 1) := by decide +kernel
theorem d_LA_law_1091 : decode (xcode m_LA_law) 1091 = .ok (.iload_n 3, 1) := by decide +kernel
theorem d_LA_law_1092 : decode (xcode m_LA_law) 1092 = .ok (.iconst 1, 1) := by decide +kernel
theorem d_LA_law_1093 : decode (xcode m_LA_law) 1093 = .ok (.iadd, 1) := by decide +kernel
theorem d_LA_law_1094 : decode (xcode m_LA_law) 1094 = .ok (.iaload, 1) := by decide +kernel
theorem d_LA_law_1095 : decode (xcode m_LA_law) 1095 = .ok (.aload_n 0, 1) := by decide +kernel
theorem d_LA_law_1096 : decode (xcode m_LA_law) 1096 = .ok (.iload_n 3, 1) := by decide +kernel
theorem d_LA_law_1097 : decode (xcode m_LA_law) 1097 = .ok (.iconst 2, 1) := by decide +kernel
theorem d_LA_law_1098 : decode (xcode m_LA_law) 1098 = .ok (.iadd, 1) := by decide +kernel
theorem d_LA_law_1099 : decode (xcode m_LA_law) 1099 = .ok (.iaload, 1) := by decide +kernel
theorem d_LA_law_1100 : decode (xcode m_LA_law) 1100 = .ok (.aload_n 0, 1) := by decide +kernel
theorem d_LA_law_1101 : decode (xcode m_LA_law) 1101 = .ok (.iload_n 3, 1) := by decide +kernel
theorem d_LA_law_1102 : decode (xcode m_LA_law) 1102 = .ok (.iconst 3, 1) := by decide +kernel
theorem d_LA_law_1103 : decode (xcode m_LA_law) 1103 = .ok (.iadd, 1) := by decide +kernel
theorem d_LA_law_1104 : decode (xcode m_LA_law) 1104 = .ok (.iaload, 1) := by decide +kernel
theorem d_LA_law_1105 : decode (xcode m_LA_law) 1105 = .ok (.invokevirtual 103, 3) := by decide +kernel
theorem d_LA_law_1108 : decode (xcode m_LA_law) 1108 = .ok (.if_icmp .eq 236, 3) := by decide +kernel
theorem d_LA_law_1111 : decode (xcode m_LA_law) 1111 = .ok (.iconst 0, 1) := by decide +kernel
theorem d_LA_law_1112 : decode (xcode m_LA_law) 1112 = .ok (.ireturn, 1) := by decide +kernel
theorem d_LA_law_1113 : decode (xcode m_LA_law) 1113 = .ok (.aload_n 1, 1) := by decide +kernel
theorem d_LA_law_1114 : decode (xcode m_LA_law) 1114 = .ok (.aload_n 0, 1) := by decide +kernel
theorem d_LA_law_1115 : decode (xcode m_LA_law) 1115 = .ok (.iload_n 3, 1) := by decide +kernel
theorem d_LA_law_1116 : decode (xcode m_LA_law) 1116 = .ok (.iconst 1, 1) := by decide +kernel
theorem d_LA_law_1117 : decode (xcode m_LA_law) 1117 = .ok (.iadd, 1) := by decide +kernel
theorem d_LA_law_1118 : decode (xcode m_LA_law) 1118 = .ok (.iaload, 1) := by decide +kernel
theorem d_LA_law_1119 : decode (xcode m_LA_law) 1119 = .ok (.invokevirtual 104, 3) := by decide +kernel
theorem d_LA_law_1122 : decode (xcode m_LA_law) 1122 = .ok (.aload_n 2, 1) := by decide +kernel
theorem d_LA_law_1123 : decode (xcode m_LA_law) 1123 = .ok (.aload_n 0, 1) := by decide +kernel
theorem d_LA_law_1124 : decode (xcode m_LA_law) 1124 = .ok (.iload_n 3, 1) := by decide +kernel
theorem d_LA_law_1125 : decode (xcode m_LA_law) 1125 = .ok (.iconst 1, 1) := by decide +kernel
theorem d_LA_law_1126 : decode (xcode m_LA_law) 1126 = .ok (.iadd, 1) := by decide +kernel
theorem d_LA_law_1127 : decode (xcode m_LA_law) 1127 = .ok (.iaload, 1) := by decide +kernel
theorem d_LA_law_1128 : decode (xcode m_LA_law) 1128 = .ok (.invokevirtual 107, 3) := by decide +kernel
theorem d_LA_law_1131 : decode (xcode m_LA_law) 1131 = .ok (.if_icmp .eq 213, 3) := by decide +kernel
theorem d_LA_law_1134 : decode (xcode m_LA_law) 1134 = .ok (.iconst 0, 1) := by decide +kernel
theorem d_LA_law_1135 : decode (xcode m_LA_law) 1135 = .ok (.ireturn, 1) := by decide +kernel
theorem d_LA_law_1136 : decode (xcode m_LA_law) 1136 = .ok (.aload_n 1, 1) := by decide +kernel
theorem d_LA_law_1137 : decode (xcode m_LA_law) 1137 = .ok (.aload_n 0, 1) := by decide +kernel
theorem d_LA_law_1138 : decode (xcode m_LA_law) 1138 = .ok (.iload_n 3, 1) := by decide +kernel
theorem d_LA_law_1139 : decode (xcode m_LA_law) 1139 = .ok (.iconst 1, 1) := by decide +kernel
theorem d_LA_law_1140 : decode (xcode m_LA_law) 1140 = .ok (.iadd, 1) := by decide +kernel
theorem d_LA_law_1141 : decode (xcode m_LA_law) 1141 = .ok (.iaload, 1) := by decide +kernel
theorem d_LA_law_1142 : decode (xcode m_LA_law) 1142 = .ok (.aload_n 0, 1) := by decide +kernel
theorem d_LA_law_1143 : decode (xcode m_LA_law) 1143 = .ok (.iload_n 3, 1) := by decide +kernel
theorem d_LA_law_1144 : decode (xcode m_LA_law) 1144 = .ok (.iconst 2, 1) := by decide +kernel
theorem d_LA_law_1145 : decode (xcode m_LA_law) 1145 = .ok (.iadd, 1) := by decide +kernel
theorem d_LA_law_1146 : decode (xcode m_LA_law) 1146 = .ok (.iaload, 1) := by decide +kernel
theorem d_LA_law_1147 : decode (xcode m_LA_law) 1147 = .ok (.aload_n 0, 1) := by decide +kernel
theorem d_LA_law_1148 : decode (xcode m_LA_law) 1148 = .ok (.iload_n 3, 1) := by decide +kernel
theorem d_LA_law_1149 : decode (xcode m_LA_law) 1149 = .ok (.iconst 3, 1) := by decide +kernel
theorem d_LA_law_1150 : decode (xcode m_LA_law) 1150 = .ok (.iadd, 1) := by decide +kernel
theorem d_LA_law_1151 : decode (xcode m_LA_law) 1151 = .ok (.iaload, 1) := by decide +kernel
theorem d_LA_law_1152 : decode (xcode m_LA_law) 1152 = .ok (.invokevirtual 108, 3) := by decide +kernel
theorem d_LA_law_1155 : decode (xcode m_LA_law) 1155 = .ok (.aload_n 2, 1) := by decide +kernel
theorem d_LA_law_1156 : decode (xcode m_LA_law) 1156 = .ok (.aload_n 0, 1) := by decide +kernel
theorem d_LA_law_1157 : decode (xcode m_LA_law) 1157 = .ok (.iload_n 3, 1) := by decide +kernel
theorem d_LA_law_1158 : decode (xcode m_LA_law) 1158 = .ok (.iconst 1, 1) := by decide +kernel
theorem d_LA_law_1159 : decode (xcode m_LA_law) 1159 = .ok (.iadd, 1) := by decide +kernel
theorem d_LA_law_1160 : decode (xcode m_LA_law) 1160 = .ok (.iaload, 1) := by decide +kernel
theorem d_LA_law_1161 : decode (xcode m_LA_law) 1161 = .ok (.aload_n 0, 1) := by decide +kernel
theorem d_LA_law_1162 : decode (xcode m_LA_law) 1162 = .ok (.iload_n 3, 1) := by decide +kernel
theorem d_LA_law_1163 : decode (xcode m_LA_law) 1163 = .ok (.iconst 2, 1) := by decide +kernel
theorem d_LA_law_1164 : decode (xcode m_LA_law) 1164 = .ok (.iadd, 1) := by decide +kernel
theorem d_LA_law_1165 : decode (xcode m_LA_law) 1165 = .ok (.iaload, 1) := by decide +kernel
theorem d_LA_law_1166 : decode (xcode m_LA_law) 1166 = .ok (.aload_n 0, 1) := by decide +kernel
theorem d_LA_law_1167 : decode (xcode m_LA_law) 1167 = .ok (.iload_n 3, 1) := by decide +kernel
theorem d_LA_law_1168 : decode (xcode m_LA_law) 1168 = .ok (.iconst 3, 1) := by decide +kernel
theorem d_LA_law_1169 : decode (xcode m_LA_law) 1169 = .ok (.iadd, 1) := by decide +kernel
theorem d_LA_law_1170 : decode (xcode m_LA_law) 1170 = .ok (.iaload, 1) := by decide +kernel
theorem d_LA_law_1171 : decode (xcode m_LA_law) 1171 = .ok (.invokevirtual 111, 3) := by decide +kernel
theorem d_LA_law_1174 : decode (xcode m_LA_law) 1174 = .ok (.if_icmp .eq 170, 3) := by decide +kernel
theorem d_LA_law_1177 : decode (xcode m_LA_law) 1177 = .ok (.iconst 0, 1) := by decide +kernel
theorem d_LA_law_1178 : decode (xcode m_LA_law) 1178 = .ok (.ireturn, 1) := by decide +kernel
theorem d_LA_law_1179 : decode (xcode m_LA_law) 1179 = .ok (.aload_n 1, 1) := by decide +kernel
theorem d_LA_law_1180 : decode (xcode m_LA_law) 1180 = .ok (.aload_n 0, 1) := by decide +kernel
theorem d_LA_law_1181 : decode (xcode m_LA_law) 1181 = .ok (.iload_n 3, 1) := by decide +kernel
theorem d_LA_law_1182 : decode (xcode m_LA_law) 1182 = .ok (.iconst 1, 1) := by decide +kernel
theorem d_LA_law_1183 : decode (xcode m_LA_law) 1183 = .ok (.iadd, 1) := by decide +kernel
theorem d_LA_law_1184 : decode (xcode m_LA_law) 1184 = .ok (.iaload, 1) := by decide +kernel
theorem d_LA_law_1185 : decode (xcode m_LA_law) 1185 = .ok (.aload_n 0, 1) := by decide +kernel
theorem d_LA_law_1186 : decode (xcode m_LA_law) 1186 = .ok (.iload_n 3, 1) := by decide +kernel
theorem d_LA_law_1187 : decode (xcode m_LA_law) 1187 = .ok (.iconst 2, 1) := by decide +kernel
theorem d_LA_law_1188 : decode (xcode m_LA_law) 1188 = .ok (.iadd, 1) := by decide +kernel
theorem d_LA_law_1189 : decode (xcode m_LA_law) 1189 = .ok (.iaload, 1) := by decide +kernel
theorem d_LA_law_1190 : decode (xcode m_LA_law) 1190 = .ok (.aload_n 0, 1) := by decide +kernel
theorem d_LA_law_1191 : decode (xcode m_LA_law) 1191 = .ok (.iload_n 3, 1) := by decide +kernel
theorem d_LA_law_1192 : decode (xcode m_LA_law) 1192 = .ok (.iconst 3, 1) := by decide +kernel
theorem d_LA_law_1193 : decode (xcode m_LA_law) 1193 = .ok (.iadd, 1) := by decide +kernel
theorem d_LA_law_1194 : decode (xcode m_LA_law) 1194 = .ok (.iaload, 1) := by decide +kernel
theorem d_LA_law_1195 : decode (xcode m_LA_law) 1195 = .ok (.aload_n 0, 1) := by decide +kernel
theorem d_LA_law_1196 : decode (xcode m_LA_law) 1196 = .ok (.iload_n 3, 1) := by decide +kernel
theorem d_LA_law_1197 : decode (xcode m_LA_law) 1197 = .ok (.iconst 4, 1) := by decide +kernel
theorem d_LA_law_1198 : decode (xcode m_LA_law) 1198 = .ok (.iadd, 1) := by decide +kernel
theorem d_LA_law_1199 : decode (xcode m_LA_law) 1199 = .ok (.iaload, 1) := by decide +kernel
theorem d_LA_law_1200 : decode (xcode m_LA_law) 1200 = .ok (.ifCond .eq 7, 3) := by decide +kernel
theorem d_LA_law_1203 : decode (xcode m_LA_law) 1203 = .ok (.iconst 1, 1) := by decide +kernel
theorem d_LA_law_1204 : decode (xcode m_LA_law) 1204 = .ok (.goto 4, 3) := by decide +kernel
theorem d_LA_law_1207 : decode (xcode m_LA_law) 1207 = .ok (.iconst 0, 1) := by decide +kernel
theorem d_LA_law_1208 : decode (xcode m_LA_law) 1208 = .ok (.aload_n 0, 1) := by decide +kernel
theorem d_LA_law_1209 : decode (xcode m_LA_law) 1209 = .ok (.iload_n 3, 1) := by decide +kernel
theorem d_LA_law_1210 : decode (xcode m_LA_law) 1210 = .ok (.iconst 5, 1) := by decide +kernel
theorem d_LA_law_1211 : decode (xcode m_LA_law) 1211 = .ok (.iadd, 1) := by decide +kernel
theorem d_LA_law_1212 : decode (xcode m_LA_law) 1212 = .ok (.iaload, 1) := by decide +kernel
theorem d_LA_law_1213 : decode (xcode m_LA_law) 1213 = .ok (.invokevirtual 112, 3) := by decide +kernel
theorem d_LA_law_1216 : decode (xcode m_LA_law) 1216 = .ok (.aload_n 2, 1) := by decide +kernel
theorem d_LA_law_1217 : decode (xcode m_LA_law) 1217 = .ok (.aload_n 0, 1) := by decide +kernel
theorem d_LA_law_1218 : decode (xcode m_LA_law) 1218 = .ok (.iload_n 3, 1) := by decide +kernel
theorem d_LA_law_1219 : decode (xcode m_LA_law) 1219 = .ok (.iconst 1, 1) := by decide +kernel
theorem d_LA_law_1220 : decode (xcode m_LA_law) 1220 = .ok (.iadd, 1) := by decide +kernel
theorem d_LA_law_1221 : decode (xcode m_LA_law) 1221 = .ok (.iaload, 1) := by decide +kernel
theorem d_LA_law_1222 : decode (xcode m_LA_law) 1222 = .ok (.aload_n 0, 1) := by decide +kernel
theorem d_LA_law_1223 : decode (xcode m_LA_law) 1223 = .ok (.iload_n 3, 1) := by decide +kernel
theorem d_LA_law_1224 : decode (xcode m_LA_law) 1224 = .ok (.iconst 2, 1) := by decide +kernel
theorem d_LA_law_1225 : decode (xcode m_LA_law) 1225 = .ok (.iadd, 1) := by decide +kernel
theorem d_LA_law_1226 : decode (xcode m_LA_law) 1226 = .ok (.iaload, 1) := by decide +kernel
theorem d_LA_law_1227 : decode (xcode m_LA_law) 1227 = .ok (.aload_n 0, 1) := by decide +kernel
theorem d_LA_law_1228 : decode (xcode m_LA_law) 1228 = .ok (.iload_n 3, 1) := by decide +kernel
theorem d_LA_law_1229 : decode (xcode m_LA_law) 1229 = .ok (.iconst 3, 1) := by decide +kernel
theorem d_LA_law_1230 : decode (xcode m_LA_law) 1230 = .ok (.iadd, 1) := by decide +kernel
theorem d_LA_law_1231 : decode (xcode m_LA_law) 1231 = .ok (.iaload, 1) := by decide +kernel
theorem d_LA_law_1232 : decode (xcode m_LA_law) 1232 = .ok (.aload_n 0, 1) := by decide +kernel
theorem d_LA_law_1233 : decode (xcode m_LA_law) 1233 = .ok (.iload_n 3, 1) := by decide +kernel
theorem d_LA_law_1234 : decode (xcode m_LA_law) 1234 = .ok (.iconst 4, 1) := by decide +kernel
theorem d_LA_law_1235 : decode (xcode m_LA_law) 1235 = .ok (.iadd, 1) := by decide +kernel
theorem d_LA_law_1236 : decode (xcode m_LA_law) 1236 = .ok (.iaload, 1) := by decide +kernel
theorem d_LA_law_1237 : decode (xcode m_LA_law) 1237 = .ok (.ifCond .eq 7, 3) := by decide +kernel
theorem d_LA_law_1240 : decode (xcode m_LA_law) 1240 = .ok (.iconst 1, 1) := by decide +kernel
theorem d_LA_law_1241 : decode (xcode m_LA_law) 1241 = .ok (.goto 4, 3) := by decide +kernel
theorem d_LA_law_1244 : decode (xcode m_LA_law) 1244 = .ok (.iconst 0, 1) := by decide +kernel
theorem d_LA_law_1245 : decode (xcode m_LA_law) 1245 = .ok (.aload_n 0, 1) := by decide +kernel
theorem d_LA_law_1246 : decode (xcode m_LA_law) 1246 = .ok (.iload_n 3, 1) := by decide +kernel
theorem d_LA_law_1247 : decode (xcode m_LA_law) 1247 = .ok (.iconst 5, 1) := by decide +kernel
theorem d_LA_law_1248 : decode (xcode m_LA_law) 1248 = .ok (.iadd, 1) := by decide +kernel
theorem d_LA_law_1249 : decode (xcode m_LA_law) 1249 = .ok (.iaload, 1) := by decide +kernel
theorem d_LA_law_1250 : decode (xcode m_LA_law) 1250 = .ok (.invokevirtual 115, 3) := by decide +kernel
theorem d_LA_law_1253 : decode (xcode m_LA_law) 1253 = .ok (.if_icmp .eq 91, 3) := by decide +kernel
theorem d_LA_law_1256 : decode (xcode m_LA_law) 1256 = .ok (.iconst 0, 1) := by decide +kernel
theorem d_LA_law_1257 : decode (xcode m_LA_law) 1257 = .ok (.ireturn, 1) := by decide +kernel
theorem d_LA_law_1258 : decode (xcode m_LA_law) 1258 = .ok (.aload_n 1, 1) := by decide +kernel
theorem d_LA_law_1259 : decode (xcode m_LA_law) 1259 = .ok (.aload_n 0, 1) := by decide +kernel
theorem d_LA_law_1260 : decode (xcode m_LA_law) 1260 = .ok (.iload_n 3, 1) := by decide +kernel
theorem d_LA_law_1261 : decode (xcode m_LA_law) 1261 = .ok (.iconst 1, 1) := by decide +kernel
theorem d_LA_law_1262 : decode (xcode m_LA_law) 1262 = .ok (.iadd, 1) := by decide +kernel
theorem d_LA_law_1263 : decode (xcode m_LA_law) 1263 = .ok (.iaload, 1) := by decide +kernel
theorem d_LA_law_1264 : decode (xcode m_LA_law) 1264 = .ok (.aload_n 0, 1) := by decide +kernel
theorem d_LA_law_1265 : decode (xcode m_LA_law) 1265 = .ok (.iload_n 3, 1) := by decide +kernel
theorem d_LA_law_1266 : decode (xcode m_LA_law) 1266 = .ok (.iconst 2, 1) := by decide +kernel
theorem d_LA_law_1267 : decode (xcode m_LA_law) 1267 = .ok (.iadd, 1) := by decide +kernel
theorem d_LA_law_1268 : decode (xcode m_LA_law) 1268 = .ok (.iaload, 1) := by decide +kernel
theorem d_LA_law_1269 : decode (xcode m_LA_law) 1269 = .ok (.aload_n 0, 1) := by decide +kernel
theorem d_LA_law_1270 : decode (xcode m_LA_law) 1270 = .ok (.iload_n 3, 1) := by decide +kernel
theorem d_LA_law_1271 : decode (xcode m_LA_law) 1271 = .ok (.iconst 3, 1) := by decide +kernel
theorem d_LA_law_1272 : decode (xcode m_LA_law) 1272 = .ok (.iadd, 1) := by decide +kernel
theorem d_LA_law_1273 : decode (xcode m_LA_law) 1273 = .ok (.iaload, 1) := by decide +kernel
theorem d_LA_law_1274 : decode (xcode m_LA_law) 1274 = .ok (.invokevirtual 116, 3) := by decide +kernel
theorem d_LA_law_1277 : decode (xcode m_LA_law) 1277 = .ok (.aload_n 2, 1) := by decide +kernel
theorem d_LA_law_1278 : decode (xcode m_LA_law) 1278 = .ok (.aload_n 0, 1) := by decide +kernel
theorem d_LA_law_1279 : decode (xcode m_LA_law) 1279 = .ok (.iload_n 3, 1) := by decide +kernel
theorem d_LA_law_1280 : decode (xcode m_LA_law) 1280 = .ok (.iconst 1, 1) := by decide +kernel
theorem d_LA_law_1281 : decode (xcode m_LA_law) 1281 = .ok (.iadd, 1) := by decide +kernel
theorem d_LA_law_1282 : decode (xcode m_LA_law) 1282 = .ok (.iaload, 1) := by decide +kernel
theorem d_LA_law_1283 : decode (xcode m_LA_law) 1283 = .ok (.aload_n 0, 1) := by decide +kernel
theorem d_LA_law_1284 : decode (xcode m_LA_law) 1284 = .ok (.iload_n 3, 1) := by decide +kernel
theorem d_LA_law_1285 : decode (xcode m_LA_law) 1285 = .ok (.iconst 2, 1) := by decide +kernel
theorem d_LA_law_1286 : decode (xcode m_LA_law) 1286 = .ok (.iadd, 1) := by decide +kernel
theorem d_LA_law_1287 : decode (xcode m_LA_law) 1287 = .ok (.iaload, 1) := by decide +kernel
theorem d_LA_law_1288 : decode (xcode m_LA_law) 1288 = .ok (.aload_n 0, 1) := by decide +kernel
theorem d_LA_law_1289 : decode (xcode m_LA_law) 1289 = .ok (.iload_n 3, 1) := by decide +kernel
theorem d_LA_law_1290 : decode (xcode m_LA_law) 1290 = .ok (.iconst 3, 1) := by decide +kernel
theorem d_LA_law_1291 : decode (xcode m_LA_law) 1291 = .ok (.iadd, 1) := by decide +kernel
theorem d_LA_law_1292 : decode (xcode m_LA_law) 1292 = .ok (.iaload, 1) := by decide +kernel
theorem d_LA_law_1293 : decode (xcode m_LA_law) 1293 = .ok (.invokevirtual 119, 3) := by decide +kernel
theorem d_LA_law_1296 : decode (xcode m_LA_law) 1296 = .ok (.if_icmp .eq 48, 3) := by decide +kernel
theorem d_LA_law_1299 : decode (xcode m_LA_law) 1299 = .ok (.iconst 0, 1) := by decide +kernel
theorem d_LA_law_1300 : decode (xcode m_LA_law) 1300 = .ok (.ireturn, 1) := by decide +kernel
theorem d_LA_law_1301 : decode (xcode m_LA_law) 1301 = .ok (.aload_n 1, 1) := by decide +kernel
theorem d_LA_law_1302 : decode (xcode m_LA_law) 1302 = .ok (.aload_n 0, 1) := by decide +kernel
theorem d_LA_law_1303 : decode (xcode m_LA_law) 1303 = .ok (.iload_n 3, 1) := by decide +kernel
theorem d_LA_law_1304 : decode (xcode m_LA_law) 1304 = .ok (.iconst 1, 1) := by decide +kernel
theorem d_LA_law_1305 : decode (xcode m_LA_law) 1305 = .ok (.iadd, 1) := by decide +kernel
theorem d_LA_law_1306 : decode (xcode m_LA_law) 1306 = .ok (.iaload, 1) := by decide +kernel
theorem d_LA_law_1307 : decode (xcode m_LA_law) 1307 = .ok (.aload_n 0, 1) := by decide +kernel
theorem d_LA_law_1308 : decode (xcode m_LA_law) 1308 = .ok (.iload_n 3, 1) := by decide +kernel
theorem d_LA_law_1309 : decode (xcode m_LA_law) 1309 = .ok (.iconst 2, 1) := by decide +kernel
theorem d_LA_law_1310 : decode (xcode m_LA_law) 1310 = .ok (.iadd, 1) := by decide +kernel
theorem d_LA_law_1311 : decode (xcode m_LA_law) 1311 = .ok (.iaload, 1) := by decide +kernel
theorem d_LA_law_1312 : decode (xcode m_LA_law) 1312 = .ok (.aload_n 0, 1) := by decide +kernel
theorem d_LA_law_1313 : decode (xcode m_LA_law) 1313 = .ok (.iload_n 3, 1) := by decide +kernel
theorem d_LA_law_1314 : decode (xcode m_LA_law) 1314 = .ok (.iconst 3, 1) := by decide +kernel
theorem d_LA_law_1315 : decode (xcode m_LA_law) 1315 = .ok (.iadd, 1) := by decide +kernel
theorem d_LA_law_1316 : decode (xcode m_LA_law) 1316 = .ok (.iaload, 1) := by decide +kernel
theorem d_LA_law_1317 : decode (xcode m_LA_law) 1317 = .ok (.invokevirtual 120, 3) := by decide +kernel
theorem d_LA_law_1320 : decode (xcode m_LA_law) 1320 = .ok (.aload_n 2, 1) := by decide +kernel
theorem d_LA_law_1321 : decode (xcode m_LA_law) 1321 = .ok (.aload_n 0, 1) := by decide +kernel
theorem d_LA_law_1322 : decode (xcode m_LA_law) 1322 = .ok (.iload_n 3, 1) := by decide +kernel
theorem d_LA_law_1323 : decode (xcode m_LA_law) 1323 = .ok (.iconst 1, 1) := by decide +kernel
theorem d_LA_law_1324 : decode (xcode m_LA_law) 1324 = .ok (.iadd, 1) := by decide +kernel
theorem d_LA_law_1325 : decode (xcode m_LA_law) 1325 = .ok (.iaload, 1) := by decide +kernel
theorem d_LA_law_1326 : decode (xcode m_LA_law) 1326 = .ok (.aload_n 0, 1) := by decide +kernel
theorem d_LA_law_1327 : decode (xcode m_LA_law) 1327 = .ok (.iload_n 3, 1) := by decide +kernel
theorem d_LA_law_1328 : decode (xcode m_LA_law) 1328 = .ok (.iconst 2, 1) := by decide +kernel
theorem d_LA_law_1329 : decode (xcode m_LA_law) 1329 = .ok (.iadd, 1) := by decide +kernel
theorem d_LA_law_1330 : decode (xcode m_LA_law) 1330 = .ok (.iaload, 1) := by decide +kernel
theorem d_LA_law_1331 : decode (xcode m_LA_law) 1331 = .ok (.aload_n 0, 1) := by decide +kernel
theorem d_LA_law_1332 : decode (xcode m_LA_law) 1332 = .ok (.iload_n 3, 1) := by decide +kernel
theorem d_LA_law_1333 : decode (xcode m_LA_law) 1333 = .ok (.iconst 3, 1) := by decide +kernel
theorem d_LA_law_1334 : decode (xcode m_LA_law) 1334 = .ok (.iadd, 1) := by decide +kernel
theorem d_LA_law_1335 : decode (xcode m_LA_law) 1335 = .ok (.iaload, 1) := by decide +kernel
theorem d_LA_law_1336 : decode (xcode m_LA_law) 1336 = .ok (.invokevirtual 123, 3) := by decide +kernel
theorem d_LA_law_1339 : decode (xcode m_LA_law) 1339 = .ok (.if_icmp .eq 5, 3) := by decide +kernel
theorem d_LA_law_1342 : decode (xcode m_LA_law) 1342 = .ok (.iconst 0, 1) := by decide +kernel
theorem d_LA_law_1343 : decode (xcode m_LA_law) 1343 = .ok (.ireturn, 1) := by decide +kernel
theorem d_LA_law_1344 : decode (xcode m_LA_law) 1344 = .ok (.iinc 3 6, 3) := by decide +kernel
theorem d_LA_law_1347 : decode (xcode m_LA_law) 1347 = .ok (.goto (-1329), 3) := by decide +kernel
theorem d_LA_law_1350 : decode (xcode m_LA_law) 1350 = .ok (.iconst 1, 1) := by decide +kernel
theorem d_LA_law_1351 : decode (xcode m_LA_law) 1351 = .ok (.ireturn, 1) := by decide +kernel
