theorem dL_law_1069 : decode cL_law 1069 = .ok (.aload_n 1, 1) := by decide +kernel
theorem dL_law_1070 : decode cL_law 1070 = .ok (.aload_n 0, 1) := by decide +kernel
theorem dL_law_1071 : decode cL_law 1071 = .ok (.iload_n 3, 1) := by decide +kernel
theorem dL_law_1072 : decode cL_law 1072 = .ok (.iconst 1, 1) := by decide +kernel
theorem dL_law_1073 : decode cL_law 1073 = .ok (.iadd, 1) := by decide +kernel
theorem dL_law_1074 : decode cL_law 1074 = .ok (.iaload, 1) := by decide +kernel
theorem dL_law_1075 : decode cL_law 1075 = .ok (.aload_n 0, 1) := by decide +kernel
theorem dL_law_1076 : decode cL_law 1076 = .ok (.iload_n 3, 1) := by decide +kernel
theorem dL_law_1077 : decode cL_law 1077 = .ok (.iconst 2, 1) := by decide +kernel
theorem dL_law_1078 : decode cL_law 1078 = .ok (.iadd, 1) := by decide +kernel
theorem dL_law_1079 : decode cL_law 1079 = .ok (.iaload, 1) := by decide +kernel
theorem dL_law_1080 : decode cL_law 1080 = .ok (.aload_n 0, 1) := by decide +kernel
theorem dL_law_1081 : decode cL_law 1081 = .ok (.iload_n 3, 1) := by decide +kernel
theorem dL_law_1082 : decode cL_law 1082 = .ok (.iconst 3, 1) := by decide +kernel
theorem dL_law_1083 : decode cL_law 1083 = .ok (.iadd, 1) := by decide +kernel
theorem dL_law_1084 : decode cL_law 1084 = .ok (.iaload, 1) := by decide +kernel
theorem dL_law_1085 : decode cL_law 1085 = .ok (.invokevirtual 119, 3) := by decide +kernel
theorem dL_law_1088 : decode cL_law 1088 = .ok (.pop, 1) := by decide +kernel
theorem dL_law_1089 : decode cL_law 1089 = .ok (.aload_n 2, 1) := by decide +kernel
theorem dL_law_1090 : decode cL_law 1090 = .ok (.aload_n 0, 1) := by decide +kernel
theorem dL_law_1091 : decode cL_law 1091 = .ok (.iload_n 3, 1) := by decide +kernel
theorem dL_law_1092 : decode cL_law 1092 = .ok (.iconst 1, 1) := by decide +kernel
theorem dL_law_1093 : decode cL_law 1093 = .ok (.iadd, 1) := by decide +kernel
theorem dL_law_1094 : decode cL_law 1094 = .ok (.iaload, 1) := by decide +kernel
theorem dL_law_1095 : decode cL_law 1095 = .ok (.aload_n 0, 1) := by decide +kernel
theorem dL_law_1096 : decode cL_law 1096 = .ok (.iload_n 3, 1) := by decide +kernel
theorem dL_law_1097 : decode cL_law 1097 = .ok (.iconst 2, 1) := by decide +kernel
theorem dL_law_1098 : decode cL_law 1098 = .ok (.iadd, 1) := by decide +kernel
theorem dL_law_1099 : decode cL_law 1099 = .ok (.iaload, 1) := by decide +kernel
theorem dL_law_1100 : decode cL_law 1100 = .ok (.aload_n 0, 1) := by decide +kernel
theorem dL_law_1101 : decode cL_law 1101 = .ok (.iload_n 3, 1) := by decide +kernel
theorem dL_law_1102 : decode cL_law 1102 = .ok (.iconst 3, 1) := by decide +kernel
theorem dL_law_1103 : decode cL_law 1103 = .ok (.iadd, 1) := by decide +kernel
theorem dL_law_1104 : decode cL_law 1104 = .ok (.iaload, 1) := by decide +kernel
theorem dL_law_1105 : decode cL_law 1105 = .ok (.invokevirtual 122, 3) := by decide +kernel
theorem dL_law_1108 : decode cL_law 1108 = .ok (.pop, 1) := by decide +kernel
theorem dL_law_1109 : decode cL_law 1109 = .ok (.goto 838, 3) := by decide +kernel
theorem dL_law_1112 : decode cL_law 1112 = .ok (.aload_n 1, 1) := by decide +kernel
theorem dL_law_1113 : decode cL_law 1113 = .ok (.aload_n 0, 1) := by decide +kernel
theorem dL_law_1114 : decode cL_law 1114 = .ok (.iload_n 3, 1) := by decide +kernel
theorem dL_law_1115 : decode cL_law 1115 = .ok (.iconst 1, 1) := by decide +kernel
theorem dL_law_1116 : decode cL_law 1116 = .ok (.iadd, 1) := by decide +kernel
theorem dL_law_1117 : decode cL_law 1117 = .ok (.iaload, 1) := by decide +kernel
theorem dL_law_1118 : decode cL_law 1118 = .ok (.invokevirtual 123, 3) := by decide +kernel
theorem dL_law_1121 : decode cL_law 1121 = .ok (.pop, 1) := by decide +kernel
theorem dL_law_1122 : decode cL_law 1122 = .ok (.aload_n 2, 1) := by decide +kernel
theorem dL_law_1123 : decode cL_law 1123 = .ok (.aload_n 0, 1) := by decide +kernel
theorem dL_law_1124 : decode cL_law 1124 = .ok (.iload_n 3, 1) := by decide +kernel
theorem dL_law_1125 : decode cL_law 1125 = .ok (.iconst 1, 1) := by decide +kernel
theorem dL_law_1126 : decode cL_law 1126 = .ok (.iadd, 1) := by decide +kernel
theorem dL_law_1127 : decode cL_law 1127 = .ok (.iaload, 1) := by decide +kernel
theorem dL_law_1128 : decode cL_law 1128 = .ok (.invokevirtual 126, 3) := by decide +kernel
theorem dL_law_1131 : decode cL_law 1131 = .ok (.pop, 1) := by decide +kernel
theorem dL_law_1132 : decode cL_law 1132 = .ok (.goto 815, 3) := by decide +kernel
theorem dL_law_1135 : decode cL_law 1135 = .ok (.aload_n 1, 1) := by decide +kernel
theorem dL_law_1136 : decode cL_law 1136 = .ok (.aload_n 0, 1) := by decide +kernel
theorem dL_law_1137 : decode cL_law 1137 = .ok (.iload_n 3, 1) := by decide +kernel
theorem dL_law_1138 : decode cL_law 1138 = .ok (.iconst 1, 1) := by decide +kernel
theorem dL_law_1139 : decode cL_law 1139 = .ok (.iadd, 1) := by decide +kernel
theorem dL_law_1140 : decode cL_law 1140 = .ok (.iaload, 1) := by decide +kernel
theorem dL_law_1141 : decode cL_law 1141 = .ok (.invokevirtual 127, 3) := by decide +kernel
theorem dL_law_1144 : decode cL_law 1144 = .ok (.pop, 1) := by decide +kernel
theorem dL_law_1145 : decode cL_law 1145 = .ok (.aload_n 2, 1) := by decide +kernel
theorem dL_law_1146 : decode cL_law 1146 = .ok (.aload_n 0, 1) := by decide +kernel
theorem dL_law_1147 : decode cL_law 1147 = .ok (.iload_n 3, 1) := by decide +kernel
theorem dL_law_1148 : decode cL_law 1148 = .ok (.iconst 1, 1) := by decide +kernel
theorem dL_law_1149 : decode cL_law 1149 = .ok (.iadd, 1) := by decide +kernel
theorem dL_law_1150 : decode cL_law 1150 = .ok (.iaload, 1) := by decide +kernel
theorem dL_law_1151 : decode cL_law 1151 = .ok (.invokevirtual 130, 3) := by decide +kernel
theorem dL_law_1154 : decode cL_law 1154 = .ok (.pop, 1) := by decide +kernel
theorem dL_law_1155 : decode cL_law 1155 = .ok (.goto 792, 3) := by decide +kernel
theorem dL_law_1158 : decode cL_law 1158 = .ok (.aload_n 1, 1) := by decide +kernel
theorem dL_law_1159 : decode cL_law 1159 = .ok (.aload_n 0, 1) := by decide +kernel
theorem dL_law_1160 : decode cL_law 1160 = .ok (.iload_n 3, 1) := by decide +kernel
theorem dL_law_1161 : decode cL_law 1161 = .ok (.iconst 1, 1) := by decide +kernel
theorem dL_law_1162 : decode cL_law 1162 = .ok (.iadd, 1) := by decide +kernel
theorem dL_law_1163 : decode cL_law 1163 = .ok (.iaload, 1) := by decide +kernel
theorem dL_law_1164 : decode cL_law 1164 = .ok (.invokevirtual 131, 3) := by decide +kernel
theorem dL_law_1167 : decode cL_law 1167 = .ok (.pop, 1) := by decide +kernel
theorem dL_law_1168 : decode cL_law 1168 = .ok (.aload_n 2, 1) := by decide +kernel
theorem dL_law_1169 : decode cL_law 1169 = .ok (.aload_n 0, 1) := by decide +kernel
theorem dL_law_1170 : decode cL_law 1170 = .ok (.iload_n 3, 1) := by decide +kernel
theorem dL_law_1171 : decode cL_law 1171 = .ok (.iconst 1, 1) := by decide +kernel
theorem dL_law_1172 : decode cL_law 1172 = .ok (.iadd, 1) := by decide +kernel
theorem dL_law_1173 : decode cL_law 1173 = .ok (.iaload, 1) := by decide +kernel
theorem dL_law_1174 : decode cL_law 1174 = .ok (.invokevirtual 134, 3) := by decide +kernel
theorem dL_law_1177 : decode cL_law 1177 = .ok (.pop, 1) := by decide +kernel
theorem dL_law_1178 : decode cL_law 1178 = .ok (.goto 769, 3) := by decide +kernel
theorem dL_law_1181 : decode cL_law 1181 = .ok (.aload_n 1, 1) := by decide +kernel
theorem dL_law_1182 : decode cL_law 1182 = .ok (.aload_n 0, 1) := by decide +kernel
theorem dL_law_1183 : decode cL_law 1183 = .ok (.iload_n 3, 1) := by decide +kernel
theorem dL_law_1184 : decode cL_law 1184 = .ok (.iconst 1, 1) := by decide +kernel
theorem dL_law_1185 : decode cL_law 1185 = .ok (.iadd, 1) := by decide +kernel
theorem dL_law_1186 : decode cL_law 1186 = .ok (.iaload, 1) := by decide +kernel
theorem dL_law_1187 : decode cL_law 1187 = .ok (.aload_n 0, 1) := by decide +kernel
theorem dL_law_1188 : decode cL_law 1188 = .ok (.iload_n 3, 1) := by decide +kernel
theorem dL_law_1189 : decode cL_law 1189 = .ok (.iconst 2, 1) := by decide +kernel
theorem dL_law_1190 : decode cL_law 1190 = .ok (.iadd, 1) := by decide +kernel
theorem dL_law_1191 : decode cL_law 1191 = .ok (.iaload, 1) := by decide +kernel
theorem dL_law_1192 : decode cL_law 1192 = .ok (.invokevirtual 135, 3) := by decide +kernel
theorem dL_law_1195 : decode cL_law 1195 = .ok (.pop, 1) := by decide +kernel
theorem dL_law_1196 : decode cL_law 1196 = .ok (.aload_n 2, 1) := by decide +kernel
theorem dL_law_1197 : decode cL_law 1197 = .ok (.aload_n 0, 1) := by decide +kernel
theorem dL_law_1198 : decode cL_law 1198 = .ok (.iload_n 3, 1) := by decide +kernel
theorem dL_law_1199 : decode cL_law 1199 = .ok (.iconst 1, 1) := by decide +kernel
theorem dL_law_1200 : decode cL_law 1200 = .ok (.iadd, 1) := by decide +kernel
theorem dL_law_1201 : decode cL_law 1201 = .ok (.iaload, 1) := by decide +kernel
theorem dL_law_1202 : decode cL_law 1202 = .ok (.aload_n 0, 1) := by decide +kernel
theorem dL_law_1203 : decode cL_law 1203 = .ok (.iload_n 3, 1) := by decide +kernel
theorem dL_law_1204 : decode cL_law 1204 = .ok (.iconst 2, 1) := by decide +kernel
theorem dL_law_1205 : decode cL_law 1205 = .ok (.iadd, 1) := by decide +kernel
theorem dL_law_1206 : decode cL_law 1206 = .ok (.iaload, 1) := by decide +kernel
theorem dL_law_1207 : decode cL_law 1207 = .ok (.invokevirtual 138, 3) := by decide +kernel
theorem dL_law_1210 : decode cL_law 1210 = .ok (.pop, 1) := by decide +kernel
theorem dL_law_1211 : decode cL_law 1211 = .ok (.goto 736, 3) := by decide +kernel
theorem dL_law_1214 : decode cL_law 1214 = .ok (.aload_n 1, 1) := by decide +kernel
theorem dL_law_1215 : decode cL_law 1215 = .ok (.aload_n 0, 1) := by decide +kernel
theorem dL_law_1216 : decode cL_law 1216 = .ok (.iload_n 3, 1) := by decide +kernel
theorem dL_law_1217 : decode cL_law 1217 = .ok (.iconst 1, 1) := by decide +kernel
theorem dL_law_1218 : decode cL_law 1218 = .ok (.iadd, 1) := by decide +kernel
theorem dL_law_1219 : decode cL_law 1219 = .ok (.iaload, 1) := by decide +kernel
theorem dL_law_1220 : decode cL_law 1220 = .ok (.aload_n 0, 1) := by decide +kernel
theorem dL_law_1221 : decode cL_law 1221 = .ok (.iload_n 3, 1) := by decide +kernel
theorem dL_law_1222 : decode cL_law 1222 = .ok (.iconst 2, 1) := by decide +kernel
theorem dL_law_1223 : decode cL_law 1223 = .ok (.iadd, 1) := by decide +kernel
theorem dL_law_1224 : decode cL_law 1224 = .ok (.iaload, 1) := by decide +kernel
theorem dL_law_1225 : decode cL_law 1225 = .ok (.aload_n 0, 1) := by decide +kernel
theorem dL_law_1226 : decode cL_law 1226 = .ok (.iload_n 3, 1) := by decide +kernel
theorem dL_law_1227 : decode cL_law 1227 = .ok (.iconst 3, 1) := by decide +kernel
theorem dL_law_1228 : decode cL_law 1228 = .ok (.iadd, 1) := by decide +kernel
theorem dL_law_1229 : decode cL_law 1229 = .ok (.iaload, 1) := by decide +kernel
theorem dL_law_1230 : decode cL_law 1230 = .ok (.invokevirtual 139, 3) := by decide +kernel
theorem dL_law_1233 : decode cL_law 1233 = .ok (.pop, 1) := by decide +kernel
theorem dL_law_1234 : decode cL_law 1234 = .ok (.aload_n 2, 1) := by decide +kernel
theorem dL_law_1235 : decode cL_law 1235 = .ok (.aload_n 0, 1) := by decide +kernel
theorem dL_law_1236 : decode cL_law 1236 = .ok (.iload_n 3, 1) := by decide +kernel
theorem dL_law_1237 : decode cL_law 1237 = .ok (.iconst 1, 1) := by decide +kernel
theorem dL_law_1238 : decode cL_law 1238 = .ok (.iadd, 1) := by decide +kernel
theorem dL_law_1239 : decode cL_law 1239 = .ok (.iaload, 1) := by decide +kernel
theorem dL_law_1240 : decode cL_law 1240 = .ok (.aload_n 0, 1) := by decide +kernel
theorem dL_law_1241 : decode cL_law 1241 = .ok (.iload_n 3, 1) := by decide +kernel
theorem dL_law_1242 : decode cL_law 1242 = .ok (.iconst 2, 1) := by decide +kernel
theorem dL_law_1243 : decode cL_law 1243 = .ok (.iadd, 1) := by decide +kernel
theorem dL_law_1244 : decode cL_law 1244 = .ok (.iaload, 1) := by decide +kernel
theorem dL_law_1245 : decode cL_law 1245 = .ok (.aload_n 0, 1) := by decide +kernel
theorem dL_law_1246 : decode cL_law 1246 = .ok (.iload_n 3, 1) := by decide +kernel
theorem dL_law_1247 : decode cL_law 1247 = .ok (.iconst 3, 1) := by decide +kernel
theorem dL_law_1248 : decode cL_law 1248 = .ok (.iadd, 1) := by decide +kernel
theorem dL_law_1249 : decode cL_law 1249 = .ok (.iaload, 1) := by decide +kernel
theorem dL_law_1250 : decode cL_law 1250 = .ok (.invokevirtual 142, 3) := by decide +kernel
theorem dL_law_1253 : decode cL_law 1253 = .ok (.pop, 1) := by decide +kernel
theorem dL_law_1254 : decode cL_law 1254 = .ok (.goto 693, 3) := by decide +kernel
theorem dL_law_1257 : decode cL_law 1257 = .ok (.aload_n 1, 1) := by decide +kernel
theorem dL_law_1258 : decode cL_law 1258 = .ok (.aload_n 0, 1) := by decide +kernel
theorem dL_law_1259 : decode cL_law 1259 = .ok (.iload_n 3, 1) := by decide +kernel
theorem dL_law_1260 : decode cL_law 1260 = .ok (.iconst 1, 1) := by decide +kernel
theorem dL_law_1261 : decode cL_law 1261 = .ok (.iadd, 1) := by decide +kernel
theorem dL_law_1262 : decode cL_law 1262 = .ok (.iaload, 1) := by decide +kernel
theorem dL_law_1263 : decode cL_law 1263 = .ok (.aload_n 0, 1) := by decide +kernel
theorem dL_law_1264 : decode cL_law 1264 = .ok (.iload_n 3, 1) := by decide +kernel
theorem dL_law_1265 : decode cL_law 1265 = .ok (.iconst 2, 1) := by decide +kernel
theorem dL_law_1266 : decode cL_law 1266 = .ok (.iadd, 1) := by decide +kernel
theorem dL_law_1267 : decode cL_law 1267 = .ok (.iaload, 1) := by decide +kernel
theorem dL_law_1268 : decode cL_law 1268 = .ok (.aload_n 0, 1) := by decide +kernel
theorem dL_law_1269 : decode cL_law 1269 = .ok (.iload_n 3, 1) := by decide +kernel
theorem dL_law_1270 : decode cL_law 1270 = .ok (.iconst 3, 1) := by decide +kernel
theorem dL_law_1271 : decode cL_law 1271 = .ok (.iadd, 1) := by decide +kernel
theorem dL_law_1272 : decode cL_law 1272 = .ok (.iaload, 1) := by decide +kernel
theorem dL_law_1273 : decode cL_law 1273 = .ok (.aload_n 0, 1) := by decide +kernel
theorem dL_law_1274 : decode cL_law 1274 = .ok (.iload_n 3, 1) := by decide +kernel
theorem dL_law_1275 : decode cL_law 1275 = .ok (.iconst 4, 1) := by decide +kernel
theorem dL_law_1276 : decode cL_law 1276 = .ok (.iadd, 1) := by decide +kernel
theorem dL_law_1277 : decode cL_law 1277 = .ok (.iaload, 1) := by decide +kernel
theorem dL_law_1278 : decode cL_law 1278 = .ok (.invokevirtual 143, 3) := by decide +kernel
theorem dL_law_1281 : decode cL_law 1281 = .ok (.pop, 1) := by decide +kernel
theorem dL_law_1282 : decode cL_law 1282 = .ok (.aload_n 2, 1) := by decide +kernel
theorem dL_law_1283 : decode cL_law 1283 = .ok (.aload_n 0, 1) := by decide +kernel
theorem dL_law_1284 : decode cL_law 1284 = .ok (.iload_n 3, 1) := by decide +kernel
theorem dL_law_1285 : decode cL_law 1285 = .ok (.iconst 1, 1) := by decide +kernel
theorem dL_law_1286 : decode cL_law 1286 = .ok (.iadd, 1) := by decide +kernel
theorem dL_law_1287 : decode cL_law 1287 = .ok (.iaload, 1) := by decide +kernel
theorem dL_law_1288 : decode cL_law 1288 = .ok (.aload_n 0, 1) := by decide +kernel
theorem dL_law_1289 : decode cL_law 1289 = .ok (.iload_n 3, 1) := by decide +kernel
theorem dL_law_1290 : decode cL_law 1290 = .ok (.iconst 2, 1) := by decide +kernel
theorem dL_law_1291 : decode cL_law 1291 = .ok (.iadd, 1) := by decide +kernel
theorem dL_law_1292 : decode cL_law 1292 = .ok (.iaload, 1) := by decide +kernel
theorem dL_law_1293 : decode cL_law 1293 = .ok (.aload_n 0, 1) := by decide +kernel
theorem dL_law_1294 : decode cL_law 1294 = .ok (.iload_n 3, 1) := by decide +kernel
theorem dL_law_1295 : decode cL_law 1295 = .ok (.iconst 3, 1) := by decide +kernel
theorem dL_law_1296 : decode cL_law 1296 = .ok (.iadd, 1) := by decide +kernel
theorem dL_law_1297 : decode cL_law 1297 = .ok (.iaload, 1) := by decide +kernel
theorem dL_law_1298 : decode cL_law 1298 = .ok (.aload_n 0, 1) := by decide +kernel
theorem dL_law_1299 : decode cL_law 1299 = .ok (.iload_n 3, 1) := by decide +kernel
theorem dL_law_1300 : decode cL_law 1300 = .ok (.iconst 4, 1) := by decide +kernel
theorem dL_law_1301 : decode cL_law 1301 = .ok (.iadd, 1) := by decide +kernel
theorem dL_law_1302 : decode cL_law 1302 = .ok (.iaload, 1) := by decide +kernel
theorem dL_law_1303 : decode cL_law 1303 = .ok (.invokevirtual 147, 3) := by decide +kernel
theorem dL_law_1306 : decode cL_law 1306 = .ok (.pop, 1) := by decide +kernel
theorem dL_law_1307 : decode cL_law 1307 = .ok (.goto 640, 3) := by decide +kernel
theorem dL_law_1310 : decode cL_law 1310 = .ok (.aload_n 1, 1) := by decide +kernel
theorem dL_law_1311 : decode cL_law 1311 = .ok (.aload_n 0, 1) := by decide +kernel
theorem dL_law_1312 : decode cL_law 1312 = .ok (.iload_n 3, 1) := by decide +kernel
theorem dL_law_1313 : decode cL_law 1313 = .ok (.iconst 1, 1) := by decide +kernel
theorem dL_law_1314 : decode cL_law 1314 = .ok (.iadd, 1) := by decide +kernel
theorem dL_law_1315 : decode cL_law 1315 = .ok (.iaload, 1) := by decide +kernel
theorem dL_law_1316 : decode cL_law 1316 = .ok (.aload_n 0, 1) := by decide +kernel
theorem dL_law_1317 : decode cL_law 1317 = .ok (.iload_n 3, 1) := by decide +kernel
theorem dL_law_1318 : decode cL_law 1318 = .ok (.iconst 2, 1) := by decide +kernel
theorem dL_law_1319 : decode cL_law 1319 = .ok (.iadd, 1) := by decide +kernel
theorem dL_law_1320 : decode cL_law 1320 = .ok (.iaload, 1) := by decide +kernel
theorem dL_law_1321 : decode cL_law 1321 = .ok (.aload_n 0, 1) := by decide +kernel
theorem dL_law_1322 : decode cL_law 1322 = .ok (.iload_n 3, 1) := by decide +kernel
theorem dL_law_1323 : decode cL_law 1323 = .ok (.iconst 3, 1) := by decide +kernel
theorem dL_law_1324 : decode cL_law 1324 = .ok (.iadd, 1) := by decide +kernel
theorem dL_law_1325 : decode cL_law 1325 = .ok (.iaload, 1) := by decide +kernel
theorem dL_law_1326 : decode cL_law 1326 = .ok (.invokevirtual 148, 3) := by decide +kernel
theorem dL_law_1329 : decode cL_law 1329 = .ok (.pop, 1) := by decide +kernel
theorem dL_law_1330 : decode cL_law 1330 = .ok (.aload_n 2, 1) := by decide +kernel
theorem dL_law_1331 : decode cL_law 1331 = .ok (.aload_n 0, 1) := by decide +kernel
theorem dL_law_1332 : decode cL_law 1332 = .ok (.iload_n 3, 1) := by decide +kernel
theorem dL_law_1333 : decode cL_law 1333 = .ok (.iconst 1, 1) := by decide +kernel
theorem dL_law_1334 : decode cL_law 1334 = .ok (.iadd, 1) := by decide +kernel
theorem dL_law_1335 : decode cL_law 1335 = .ok (.iaload, 1) := by decide +kernel
theorem dL_law_1336 : decode cL_law 1336 = .ok (.aload_n 0, 1) := by decide +kernel
theorem dL_law_1337 : decode cL_law 1337 = .ok (.iload_n 3, 1) := by decide +kernel
theorem dL_law_1338 : decode cL_law 1338 = .ok (.iconst 2, 1) := by decide +kernel
theorem dL_law_1339 : decode cL_law 1339 = .ok (.iadd, 1) := by decide +kernel
theorem dL_law_1340 : decode cL_law 1340 = .ok (.iaload, 1) := by decide +kernel
theorem dL_law_1341 : decode cL_law 1341 = .ok (.aload_n 0, 1) := by decide +kernel
theorem dL_law_1342 : decode cL_law 1342 = .ok (.iload_n 3, 1) := by decide +kernel
theorem dL_law_1343 : decode cL_law 1343 = .ok (.iconst 3, 1) := by decide +kernel
theorem dL_law_1344 : decode cL_law 1344 = .ok (.iadd, 1) := by decide +kernel
theorem dL_law_1345 : decode cL_law 1345 = .ok (.iaload, 1) := by decide +kernel
theorem dL_law_1346 : decode cL_law 1346 = .ok (.invokevirtual 151, 3) := by decide +kernel
theorem dL_law_1349 : decode cL_law 1349 = .ok (.pop, 1) := by decide +kernel
theorem dL_law_1350 : decode cL_law 1350 = .ok (.goto 597, 3) := by decide +kernel
theorem dL_law_1353 : decode cL_law 1353 = .ok (.aload_n 1, 1) := by decide +kernel
theorem dL_law_1354 : decode cL_law 1354 = .ok (.aload_n 0, 1) := by decide +kernel
theorem dL_law_1355 : decode cL_law 1355 = .ok (.iload_n 3, 1) := by decide +kernel
theorem dL_law_1356 : decode cL_law 1356 = .ok (.iconst 1, 1) := by decide +kernel
theorem dL_law_1357 : decode cL_law 1357 = .ok (.iadd, 1) := by decide +kernel
theorem dL_law_1358 : decode cL_law 1358 = .ok (.iaload, 1) := by decide +kernel
theorem dL_law_1359 : decode cL_law 1359 = .ok (.aload_n 0, 1) := by decide +kernel
theorem dL_law_1360 : decode cL_law 1360 = .ok (.iload_n 3, 1) := by decide +kernel
theorem dL_law_1361 : decode cL_law 1361 = .ok (.iconst 2, 1) := by decide +kernel
theorem dL_law_1362 : decode cL_law 1362 = .ok (.iadd, 1) := by decide +kernel
theorem dL_law_1363 : decode cL_law 1363 = .ok (.iaload, 1) := by decide +kernel
theorem dL_law_1364 : decode cL_law 1364 = .ok (.aload_n 0, 1) := by decide +kernel
theorem dL_law_1365 : decode cL_law 1365 = .ok (.iload_n 3, 1) := by decide +kernel
theorem dL_law_1366 : decode cL_law 1366 = .ok (.iconst 3, 1) := by decide +kernel
theorem dL_law_1367 : decode cL_law 1367 = .ok (.iadd, 1) := by decide +kernel
theorem dL_law_1368 : decode cL_law 1368 = .ok (.iaload, 1) := by decide +kernel
theorem dL_law_1369 : decode cL_law 1369 = .ok (.invokevirtual 152, 3) := by decide +kernel
theorem dL_law_1372 : decode cL_law 1372 = .ok (.pop, 1) := by decide +kernel
theorem dL_law_1373 : decode cL_law 1373 = .ok (.aload_n 2, 1) := by decide +kernel
theorem dL_law_1374 : decode cL_law 1374 = .ok (.aload_n 0, 1) := by decide +kernel
theorem dL_law_1375 : decode cL_law 1375 = .ok (.iload_n 3, 1) := by decide +kernel
theorem dL_law_1376 : decode cL_law 1376 = .ok (.iconst 1, 1) := by decide +kernel
theorem dL_law_1377 : decode cL_law 1377 = .ok (.iadd, 1) := by decide +kernel
theorem dL_law_1378 : decode cL_law 1378 = .ok (.iaload, 1) := by decide +kernel
theorem dL_law_1379 : decode cL_law 1379 = .ok (.aload_n 0, 1) := by decide +kernel
theorem dL_law_1380 : decode cL_law 1380 = .ok (.iload_n 3, 1) := by decide +kernel
theorem dL_law_1381 : decode cL_law 1381 = .ok (.iconst 2, 1) := by decide +kernel
theorem dL_law_1382 : decode cL_law 1382 = .ok (.iadd, 1) := by decide +kernel
theorem dL_law_1383 : decode cL_law 1383 = .ok (.iaload, 1) := by decide +kernel
theorem dL_law_1384 : decode cL_law 1384 = .ok (.aload_n 0, 1) := by decide +kernel
theorem dL_law_1385 : decode cL_law 1385 = .ok (.iload_n 3, 1) := by decide +kernel
theorem dL_law_1386 : decode cL_law 1386 = .ok (.iconst 3, 1) := by decide +kernel
theorem dL_law_1387 : decode cL_law 1387 = .ok (.iadd, 1) := by decide +kernel
theorem dL_law_1388 : decode cL_law 1388 = .ok (.iaload, 1) := by decide +kernel
theorem dL_law_1389 : decode cL_law 1389 = .ok (.invokevirtual 155, 3) := by decide +kernel
theorem dL_law_1392 : decode cL_law 1392 = .ok (.pop, 1) := by decide +kernel
theorem dL_law_1393 : decode cL_law 1393 = .ok (.goto 554, 3) := by decide +kernel
theorem dL_law_1396 : decode cL_law 1396 = .ok (.aload_n 1, 1) := by decide +kernel
theorem dL_law_1397 : decode cL_law 1397 = .ok (.aload_n 0, 1) := by decide +kernel
theorem dL_law_1398 : decode cL_law 1398 = .ok (.iload_n 3, 1) := by decide +kernel
theorem dL_law_1399 : decode cL_law 1399 = .ok (.iconst 1, 1) := by decide +kernel
theorem dL_law_1400 : decode cL_law 1400 = .ok (.iadd, 1) := by decide +kernel
theorem dL_law_1401 : decode cL_law 1401 = .ok (.iaload, 1) := by decide +kernel
theorem dL_law_1402 : decode cL_law 1402 = .ok (.aload_n 0, 1) := by decide +kernel
theorem dL_law_1403 : decode cL_law 1403 = .ok (.iload_n 3, 1) := by decide +kernel
theorem dL_law_1404 : decode cL_law 1404 = .ok (.iconst 2, 1) := by decide +kernel
theorem dL_law_1405 : decode cL_law 1405 = .ok (.iadd, 1) := by decide +kernel
theorem dL_law_1406 : decode cL_law 1406 = .ok (.iaload, 1) := by decide +kernel
theorem dL_law_1407 : decode cL_law 1407 = .ok (.aload_n 0, 1) := by decide +kernel
theorem dL_law_1408 : decode cL_law 1408 = .ok (.iload_n 3, 1) := by decide +kernel
theorem dL_law_1409 : decode cL_law 1409 = .ok (.iconst 3, 1) := by decide +kernel
theorem dL_law_1410 : decode cL_law 1410 = .ok (.iadd, 1) := by decide +kernel
theorem dL_law_1411 : decode cL_law 1411 = .ok (.iaload, 1) := by decide +kernel
theorem dL_law_1412 : decode cL_law 1412 = .ok (.invokevirtual 156, 3) := by decide +kernel
theorem dL_law_1415 : decode cL_law 1415 = .ok (.pop, 1) := by decide +kernel
theorem dL_law_1416 : decode cL_law 1416 = .ok (.aload_n 2, 1) := by decide +kernel
theorem dL_law_1417 : decode cL_law 1417 = .ok (.aload_n 0, 1) := by decide +kernel
theorem dL_law_1418 : decode cL_law 1418 = .ok (.iload_n 3, 1) := by decide +kernel
theorem dL_law_1419 : decode cL_law 1419 = .ok (.iconst 1, 1) := by decide +kernel
theorem dL_law_1420 : decode cL_law 1420 = .ok (.iadd, 1) := by decide +kernel
theorem dL_law_1421 : decode cL_law 1421 = .ok (.iaload, 1) := by decide +kernel
theorem dL_law_1422 : decode cL_law 1422 = .ok (.aload_n 0, 1) := by decide +kernel
theorem dL_law_1423 : decode cL_law 1423 = .ok (.iload_n 3, 1) := by decide +kernel
theorem dL_law_1424 : decode cL_law 1424 = .ok (.iconst 2, 1) := by decide +kernel
theorem dL_law_1425 : decode cL_law 1425 = .ok (.iadd, 1) := by decide +kernel
theorem dL_law_1426 : decode cL_law 1426 = .ok (.iaload, 1) := by decide +kernel
theorem dL_law_1427 : decode cL_law 1427 = .ok (.aload_n 0, 1) := by decide +kernel
theorem dL_law_1428 : decode cL_law 1428 = .ok (.iload_n 3, 1) := by decide +kernel
theorem dL_law_1429 : decode cL_law 1429 = .ok (.iconst 3, 1) := by decide +kernel
theorem dL_law_1430 : decode cL_law 1430 = .ok (.iadd, 1) := by decide +kernel
theorem dL_law_1431 : decode cL_law 1431 = .ok (.iaload, 1) := by decide +kernel
theorem dL_law_1432 : decode cL_law 1432 = .ok (.invokevirtual 159, 3) := by decide +kernel
theorem dL_law_1435 : decode cL_law 1435 = .ok (.pop, 1) := by decide +kernel
theorem dL_law_1436 : decode cL_law 1436 = .ok (.goto 511, 3) := by decide +kernel
theorem dL_law_1439 : decode cL_law 1439 = .ok (.aload_n 1, 1) := by decide +kernel
theorem dL_law_1440 : decode cL_law 1440 = .ok (.aload_n 0, 1) := by decide +kernel
theorem dL_law_1441 : decode cL_law 1441 = .ok (.iload_n 3, 1) := by decide +kernel
theorem dL_law_1442 : decode cL_law 1442 = .ok (.iconst 1, 1) := by decide +kernel
theorem dL_law_1443 : decode cL_law 1443 = .ok (.iadd, 1) := by decide +kernel
theorem dL_law_1444 : decode cL_law 1444 = .ok (.iaload, 1) := by decide +kernel
theorem dL_law_1445 : decode cL_law 1445 = .ok (.aload_n 0, 1) := by decide +kernel
theorem dL_law_1446 : decode cL_law 1446 = .ok (.iload_n 3, 1) := by decide +kernel
theorem dL_law_1447 : decode cL_law 1447 = .ok (.iconst 2, 1) := by decide +kernel
theorem dL_law_1448 : decode cL_law 1448 = .ok (.iadd, 1) := by decide +kernel
theorem dL_law_1449 : decode cL_law 1449 = .ok (.iaload, 1) := by decide +kernel
theorem dL_law_1450 : decode cL_law 1450 = .ok (.aload_n 0, 1) := by decide +kernel
theorem dL_law_1451 : decode cL_law 1451 = .ok (.iload_n 3, 1) := by decide +kernel
theorem dL_law_1452 : decode cL_law 1452 = .ok (.iconst 3, 1) := by decide +kernel
theorem dL_law_1453 : decode cL_law 1453 = .ok (.iadd, 1) := by decide +kernel
theorem dL_law_1454 : decode cL_law 1454 = .ok (.iaload, 1) := by decide +kernel
theorem dL_law_1455 : decode cL_law 1455 = .ok (.invokevirtual 160, 3) := by decide +kernel
theorem dL_law_1458 : decode cL_law 1458 = .ok (.pop, 1) := by decide +kernel
theorem dL_law_1459 : decode cL_law 1459 = .ok (.aload_n 2, 1) := by decide +kernel
theorem dL_law_1460 : decode cL_law 1460 = .ok (.aload_n 0, 1) := by decide +kernel
theorem dL_law_1461 : decode cL_law 1461 = .ok (.iload_n 3, 1) := by decide +kernel
theorem dL_law_1462 : decode cL_law 1462 = .ok (.iconst 1, 1) := by decide +kernel
theorem dL_law_1463 : decode cL_law 1463 = .ok (.iadd, 1) := by decide +kernel
theorem dL_law_1464 : decode cL_law 1464 = .ok (.iaload, 1) := by decide +kernel
theorem dL_law_1465 : decode cL_law 1465 = .ok (.aload_n 0, 1) := by decide +kernel
theorem dL_law_1466 : decode cL_law 1466 = .ok (.iload_n 3, 1) := by decide +kernel
theorem dL_law_1467 : decode cL_law 1467 = .ok (.iconst 2, 1) := by decide +kernel
theorem dL_law_1468 : decode cL_law 1468 = .ok (.iadd, 1) := by decide +kernel
theorem dL_law_1469 : decode cL_law 1469 = .ok (.iaload, 1) := by decide +kernel
theorem dL_law_1470 : decode cL_law 1470 = .ok (.aload_n 0, 1) := by decide +kernel
theorem dL_law_1471 : decode cL_law 1471 = .ok (.iload_n 3, 1) := by decide +kernel
theorem dL_law_1472 : decode cL_law 1472 = .ok (.iconst 3, 1) := by decide +kernel
theorem dL_law_1473 : decode cL_law 1473 = .ok (.iadd, 1) := by decide +kernel
theorem dL_law_1474 : decode cL_law 1474 = .ok (.iaload, 1) := by decide +kernel
theorem dL_law_1475 : decode cL_law 1475 = .ok (.invokevirtual 163, 3) := by decide +kernel
theorem dL_law_1478 : decode cL_law 1478 = .ok (.pop, 1) := by decide +kernel
theorem dL_law_1479 : decode cL_law 1479 = .ok (.goto 468, 3) := by decide +kernel
theorem dL_law_1482 : decode cL_law 1482 = .ok (.aload_n 1, 1) := by decide +kernel
theorem dL_law_1483 : decode cL_law 1483 = .ok (.aload_n 0, 1) := by decide +kernel
theorem dL_law_1484 : decode cL_law 1484 = .ok (.iload_n 3, 1) := by decide +kernel
theorem dL_law_1485 : decode cL_law 1485 = .ok (.iconst 1, 1) := by decide +kernel
theorem dL_law_1486 : decode cL_law 1486 = .ok (.iadd, 1) := by decide +kernel
theorem dL_law_1487 : decode cL_law 1487 = .ok (.iaload, 1) := by decide +kernel
theorem dL_law_1488 : decode cL_law 1488 = .ok (.aload_n 0, 1) := by decide +kernel
theorem dL_law_1489 : decode cL_law 1489 = .ok (.iload_n 3, 1) := by decide +kernel
theorem dL_law_1490 : decode cL_law 1490 = .ok (.iconst 2, 1) := by decide +kernel
theorem dL_law_1491 : decode cL_law 1491 = .ok (.iadd, 1) := by decide +kernel
theorem dL_law_1492 : decode cL_law 1492 = .ok (.iaload, 1) := by decide +kernel
theorem dL_law_1493 : decode cL_law 1493 = .ok (.aload_n 0, 1) := by decide +kernel
theorem dL_law_1494 : decode cL_law 1494 = .ok (.iload_n 3, 1) := by decide +kernel
theorem dL_law_1495 : decode cL_law 1495 = .ok (.iconst 3, 1) := by decide +kernel
theorem dL_law_1496 : decode cL_law 1496 = .ok (.iadd, 1) := by decide +kernel
theorem dL_law_1497 : decode cL_law 1497 = .ok (.iaload, 1) := by decide +kernel
theorem dL_law_1498 : decode cL_law 1498 = .ok (.aload_n 0, 1) := by decide +kernel
theorem dL_law_1499 : decode cL_law 1499 = .ok (.iload_n 3, 1) := by decide +kernel
theorem dL_law_1500 : decode cL_law 1500 = .ok (.iconst 4, 1) := by decide +kernel
theorem dL_law_1501 : decode cL_law 1501 = .ok (.iadd, 1) := by decide +kernel
theorem dL_law_1502 : decode cL_law 1502 = .ok (.iaload, 1) := by decide +kernel
theorem dL_law_1503 : decode cL_law 1503 = .ok (.invokevirtual 164, 3) := by decide +kernel
theorem dL_law_1506 : decode cL_law 1506 = .ok (.pop, 1) := by decide +kernel
theorem dL_law_1507 : decode cL_law 1507 = .ok (.aload_n 2, 1) := by decide +kernel
theorem dL_law_1508 : decode cL_law 1508 = .ok (.aload_n 0, 1) := by decide +kernel
theorem dL_law_1509 : decode cL_law 1509 = .ok (.iload_n 3, 1) := by decide +kernel
theorem dL_law_1510 : decode cL_law 1510 = .ok (.iconst 1, 1) := by decide +kernel
theorem dL_law_1511 : decode cL_law 1511 = .ok (.iadd, 1) := by decide +kernel
theorem dL_law_1512 : decode cL_law 1512 = .ok (.iaload, 1) := by decide +kernel
theorem dL_law_1513 : decode cL_law 1513 = .ok (.aload_n 0, 1) := by decide +kernel
theorem dL_law_1514 : decode cL_law 1514 = .ok (.iload_n 3, 1) := by decide +kernel
theorem dL_law_1515 : decode cL_law 1515 = .ok (.iconst 2, 1) := by decide +kernel
theorem dL_law_1516 : decode cL_law 1516 = .ok (.iadd, 1) := by decide +kernel
theorem dL_law_1517 : decode cL_law 1517 = .ok (.iaload, 1) := by decide +kernel
theorem dL_law_1518 : decode cL_law 1518 = .ok (.aload_n 0, 1) := by decide +kernel
theorem dL_law_1519 : decode cL_law 1519 = .ok (.iload_n 3, 1) := by decide +kernel
theorem dL_law_1520 : decode cL_law 1520 = .ok (.iconst 3, 1) := by decide +kernel
theorem dL_law_1521 : decode cL_law 1521 = .ok (.iadd, 1) := by decide +kernel
theorem dL_law_1522 : decode cL_law 1522 = .ok (.iaload, 1) := by decide +kernel
theorem dL_law_1523 : decode cL_law 1523 = .ok (.aload_n 0, 1) := by decide +kernel
theorem dL_law_1524 : decode cL_law 1524 = .ok (.iload_n 3, 1) := by decide +kernel
theorem dL_law_1525 : decode cL_law 1525 = .ok (.iconst 4, 1) := by decide +kernel
theorem dL_law_1526 : decode cL_law 1526 = .ok (.iadd, 1) := by decide +kernel
theorem dL_law_1527 : decode cL_law 1527 = .ok (.iaload, 1) := by decide +kernel
theorem dL_law_1528 : decode cL_law 1528 = .ok (.invokevirtual 167, 3) := by decide +kernel
theorem dL_law_1531 : decode cL_law 1531 = .ok (.pop, 1) := by decide +kernel
theorem dL_law_1532 : decode cL_law 1532 = .ok (.goto 415, 3) := by decide +kernel
set_option maxRecDepth 100000 in
theorem pq981 : Cond.methodLink RL 119 yX6_meet ∈ pw := pw_mem (i := 981) (by decide +kernel) rfl
set_option maxRecDepth 100000 in
theorem pq982 : Cond.instanceMethod yX6_meet ∈ pw := pw_mem (i := 982) (by decide +kernel) rfl
set_option maxRecDepth 100000 in
theorem pq983 : Cond.selects RX6 yX6_meet yX6_meet ∈ pw := pw_mem (i := 983) (by decide +kernel) rfl
set_option maxRecDepth 100000 in
theorem pq984 : Cond.code yX6_meet cX6_meet 4 (some .int) ∈ pw := pw_mem (i := 984) (by rfl) rfl
set_option maxRecDepth 100000 in
theorem pq993 : Cond.methodLink RL 123 yX6_contact ∈ pw := pw_mem (i := 993) (by decide +kernel) rfl
set_option maxRecDepth 100000 in
theorem pq994 : Cond.instanceMethod yX6_contact ∈ pw := pw_mem (i := 994) (by decide +kernel) rfl
set_option maxRecDepth 100000 in
theorem pq995 : Cond.selects RX6 yX6_contact yX6_contact ∈ pw := pw_mem (i := 995) (by decide +kernel) rfl
set_option maxRecDepth 100000 in
theorem pq996 : Cond.code yX6_contact cX6_contact 5 (some .int) ∈ pw := pw_mem (i := 996) (by rfl) rfl
set_option maxRecDepth 100000 in
theorem pq998 : Cond.methodLink RL 127 yX6_sieve ∈ pw := pw_mem (i := 998) (by decide +kernel) rfl
set_option maxRecDepth 100000 in
theorem pq999 : Cond.instanceMethod yX6_sieve ∈ pw := pw_mem (i := 999) (by decide +kernel) rfl
set_option maxRecDepth 100000 in
theorem pq1000 : Cond.selects RX6 yX6_sieve yX6_sieve ∈ pw := pw_mem (i := 1000) (by decide +kernel) rfl
set_option maxRecDepth 100000 in
theorem pq1001 : Cond.code yX6_sieve cX6_sieve 5 (some .int) ∈ pw := pw_mem (i := 1001) (by rfl) rfl
set_option maxRecDepth 100000 in
theorem pq1011 : Cond.methodLink RL 131 yX6_touching ∈ pw := pw_mem (i := 1011) (by decide +kernel) rfl
set_option maxRecDepth 100000 in
theorem pq1012 : Cond.instanceMethod yX6_touching ∈ pw := pw_mem (i := 1012) (by decide +kernel) rfl
set_option maxRecDepth 100000 in
theorem pq1013 : Cond.selects RX6 yX6_touching yX6_touching ∈ pw := pw_mem (i := 1013) (by decide +kernel) rfl
set_option maxRecDepth 100000 in
theorem pq1014 : Cond.code yX6_touching cX6_touching 4 (some .int) ∈ pw := pw_mem (i := 1014) (by rfl) rfl
set_option maxRecDepth 100000 in
theorem pq1015 : Cond.methodLink RL 135 yX6_at ∈ pw := pw_mem (i := 1015) (by decide +kernel) rfl
set_option maxRecDepth 100000 in
theorem pq1016 : Cond.instanceMethod yX6_at ∈ pw := pw_mem (i := 1016) (by decide +kernel) rfl
set_option maxRecDepth 100000 in
theorem pq1017 : Cond.selects RX6 yX6_at yX6_at ∈ pw := pw_mem (i := 1017) (by decide +kernel) rfl
set_option maxRecDepth 100000 in
theorem pq1018 : Cond.code yX6_at cX6_at 5 (some .int) ∈ pw := pw_mem (i := 1018) (by rfl) rfl
set_option maxRecDepth 100000 in
theorem pq1024 : Cond.methodLink RL 139 yX6_first ∈ pw := pw_mem (i := 1024) (by decide +kernel) rfl
set_option maxRecDepth 100000 in
theorem pq1025 : Cond.instanceMethod yX6_first ∈ pw := pw_mem (i := 1025) (by decide +kernel) rfl
set_option maxRecDepth 100000 in
theorem pq1026 : Cond.selects RX6 yX6_first yX6_first ∈ pw := pw_mem (i := 1026) (by decide +kernel) rfl
set_option maxRecDepth 100000 in
theorem pq1027 : Cond.code yX6_first cX6_first 6 (some .int) ∈ pw := pw_mem (i := 1027) (by rfl) rfl
set_option maxRecDepth 100000 in
theorem pq1032 : Cond.methodLink RL 143 yX6_reach ∈ pw := pw_mem (i := 1032) (by decide +kernel) rfl
set_option maxRecDepth 100000 in
theorem pq1033 : Cond.instanceMethod yX6_reach ∈ pw := pw_mem (i := 1033) (by decide +kernel) rfl
set_option maxRecDepth 100000 in
theorem pq1034 : Cond.selects RX6 yX6_reach yX6_reach ∈ pw := pw_mem (i := 1034) (by decide +kernel) rfl
set_option maxRecDepth 100000 in
theorem pq1035 : Cond.code yX6_reach cX6_reach 5 (some .int) ∈ pw := pw_mem (i := 1035) (by rfl) rfl
set_option maxRecDepth 100000 in
theorem pq1036 : Cond.methodLink RL 148 yX6_gap ∈ pw := pw_mem (i := 1036) (by decide +kernel) rfl
set_option maxRecDepth 100000 in
theorem pq1037 : Cond.instanceMethod yX6_gap ∈ pw := pw_mem (i := 1037) (by decide +kernel) rfl
set_option maxRecDepth 100000 in
theorem pq1038 : Cond.selects RX6 yX6_gap yX6_gap ∈ pw := pw_mem (i := 1038) (by decide +kernel) rfl
set_option maxRecDepth 100000 in
theorem pq1039 : Cond.code yX6_gap cX6_gap 4 (some .int) ∈ pw := pw_mem (i := 1039) (by rfl) rfl
set_option maxRecDepth 100000 in
theorem pq1040 : Cond.methodLink RL 152 yX6_apart ∈ pw := pw_mem (i := 1040) (by decide +kernel) rfl
set_option maxRecDepth 100000 in
theorem pq1041 : Cond.instanceMethod yX6_apart ∈ pw := pw_mem (i := 1041) (by decide +kernel) rfl
set_option maxRecDepth 100000 in
theorem pq1042 : Cond.selects RX6 yX6_apart yX6_apart ∈ pw := pw_mem (i := 1042) (by decide +kernel) rfl
set_option maxRecDepth 100000 in
theorem pq1043 : Cond.code yX6_apart cX6_apart 4 (some .int) ∈ pw := pw_mem (i := 1043) (by rfl) rfl
set_option maxRecDepth 100000 in
theorem pq1049 : Cond.methodLink RL 156 yX6_best ∈ pw := pw_mem (i := 1049) (by decide +kernel) rfl
set_option maxRecDepth 100000 in
theorem pq1050 : Cond.instanceMethod yX6_best ∈ pw := pw_mem (i := 1050) (by decide +kernel) rfl
set_option maxRecDepth 100000 in
theorem pq1051 : Cond.selects RX6 yX6_best yX6_best ∈ pw := pw_mem (i := 1051) (by decide +kernel) rfl
set_option maxRecDepth 100000 in
theorem pq1052 : Cond.code yX6_best cX6_best 4 (some .int) ∈ pw := pw_mem (i := 1052) (by rfl) rfl
set_option maxRecDepth 100000 in
theorem pq1064 : Cond.methodLink RL 160 yX6_slope ∈ pw := pw_mem (i := 1064) (by decide +kernel) rfl
set_option maxRecDepth 100000 in
theorem pq1065 : Cond.instanceMethod yX6_slope ∈ pw := pw_mem (i := 1065) (by decide +kernel) rfl
set_option maxRecDepth 100000 in
theorem pq1066 : Cond.selects RX6 yX6_slope yX6_slope ∈ pw := pw_mem (i := 1066) (by decide +kernel) rfl
set_option maxRecDepth 100000 in
theorem pq1067 : Cond.code yX6_slope cX6_slope 6 (some .int) ∈ pw := pw_mem (i := 1067) (by rfl) rfl
set_option maxRecDepth 100000 in
theorem pq1069 : Cond.methodLink RL 164 yX6_ray ∈ pw := pw_mem (i := 1069) (by decide +kernel) rfl
set_option maxRecDepth 100000 in
theorem pq1070 : Cond.instanceMethod yX6_ray ∈ pw := pw_mem (i := 1070) (by decide +kernel) rfl
set_option maxRecDepth 100000 in
theorem pq1071 : Cond.selects RX6 yX6_ray yX6_ray ∈ pw := pw_mem (i := 1071) (by decide +kernel) rfl
set_option maxRecDepth 100000 in
theorem pq1072 : Cond.code yX6_ray cX6_ray 10 (some .int) ∈ pw := pw_mem (i := 1072) (by rfl) rfl
set_option maxRecDepth 100000 in
theorem pq1579 : Cond.methodLink RL 122 yX7_meet ∈ pw := pw_mem (i := 1579) (by decide +kernel) rfl
set_option maxRecDepth 100000 in
theorem pq1580 : Cond.instanceMethod yX7_meet ∈ pw := pw_mem (i := 1580) (by decide +kernel) rfl
set_option maxRecDepth 100000 in
theorem pq1581 : Cond.selects RX7 yX7_meet yX7_meet ∈ pw := pw_mem (i := 1581) (by decide +kernel) rfl
set_option maxRecDepth 100000 in
theorem pq1582 : Cond.code yX7_meet cX7_meet 6 (some .int) ∈ pw := pw_mem (i := 1582) (by rfl) rfl
set_option maxRecDepth 100000 in
theorem pq1587 : Cond.methodLink RL 126 yX7_contact ∈ pw := pw_mem (i := 1587) (by decide +kernel) rfl
set_option maxRecDepth 100000 in
theorem pq1588 : Cond.instanceMethod yX7_contact ∈ pw := pw_mem (i := 1588) (by decide +kernel) rfl
set_option maxRecDepth 100000 in
theorem pq1589 : Cond.selects RX7 yX7_contact yX7_contact ∈ pw := pw_mem (i := 1589) (by decide +kernel) rfl
set_option maxRecDepth 100000 in
theorem pq1590 : Cond.code yX7_contact cX7_contact 5 (some .int) ∈ pw := pw_mem (i := 1590) (by rfl) rfl
set_option maxRecDepth 100000 in
theorem pq1591 : Cond.methodLink RL 130 yX7_sieve ∈ pw := pw_mem (i := 1591) (by decide +kernel) rfl
set_option maxRecDepth 100000 in
theorem pq1592 : Cond.instanceMethod yX7_sieve ∈ pw := pw_mem (i := 1592) (by decide +kernel) rfl
set_option maxRecDepth 100000 in
theorem pq1593 : Cond.selects RX7 yX7_sieve yX7_sieve ∈ pw := pw_mem (i := 1593) (by decide +kernel) rfl
set_option maxRecDepth 100000 in
theorem pq1594 : Cond.code yX7_sieve cX7_sieve 5 (some .int) ∈ pw := pw_mem (i := 1594) (by rfl) rfl
set_option maxRecDepth 100000 in
theorem pq1604 : Cond.methodLink RL 134 yX7_touching ∈ pw := pw_mem (i := 1604) (by decide +kernel) rfl
set_option maxRecDepth 100000 in
theorem pq1605 : Cond.instanceMethod yX7_touching ∈ pw := pw_mem (i := 1605) (by decide +kernel) rfl
set_option maxRecDepth 100000 in
theorem pq1606 : Cond.selects RX7 yX7_touching yX7_touching ∈ pw := pw_mem (i := 1606) (by decide +kernel) rfl
set_option maxRecDepth 100000 in
theorem pq1607 : Cond.code yX7_touching cX7_touching 2 (some .int) ∈ pw := pw_mem (i := 1607) (by rfl) rfl
set_option maxRecDepth 100000 in
theorem pq1608 : Cond.methodLink RL 138 yX7_at ∈ pw := pw_mem (i := 1608) (by decide +kernel) rfl
set_option maxRecDepth 100000 in
theorem pq1609 : Cond.instanceMethod yX7_at ∈ pw := pw_mem (i := 1609) (by decide +kernel) rfl
set_option maxRecDepth 100000 in
theorem pq1610 : Cond.selects RX7 yX7_at yX7_at ∈ pw := pw_mem (i := 1610) (by decide +kernel) rfl
set_option maxRecDepth 100000 in
theorem pq1611 : Cond.code yX7_at cX7_at 3 (some .int) ∈ pw := pw_mem (i := 1611) (by rfl) rfl
set_option maxRecDepth 100000 in
theorem pq1616 : Cond.methodLink RL 142 yX7_first ∈ pw := pw_mem (i := 1616) (by decide +kernel) rfl
set_option maxRecDepth 100000 in
theorem pq1617 : Cond.instanceMethod yX7_first ∈ pw := pw_mem (i := 1617) (by decide +kernel) rfl
set_option maxRecDepth 100000 in
theorem pq1618 : Cond.selects RX7 yX7_first yX7_first ∈ pw := pw_mem (i := 1618) (by decide +kernel) rfl
set_option maxRecDepth 100000 in
theorem pq1619 : Cond.code yX7_first cX7_first 7 (some .int) ∈ pw := pw_mem (i := 1619) (by rfl) rfl
set_option maxRecDepth 100000 in
theorem pq1621 : Cond.methodLink RL 147 yX7_reach ∈ pw := pw_mem (i := 1621) (by decide +kernel) rfl
set_option maxRecDepth 100000 in
theorem pq1622 : Cond.instanceMethod yX7_reach ∈ pw := pw_mem (i := 1622) (by decide +kernel) rfl
set_option maxRecDepth 100000 in
theorem pq1623 : Cond.selects RX7 yX7_reach yX7_reach ∈ pw := pw_mem (i := 1623) (by decide +kernel) rfl
set_option maxRecDepth 100000 in
theorem pq1624 : Cond.code yX7_reach cX7_reach 6 (some .int) ∈ pw := pw_mem (i := 1624) (by rfl) rfl
set_option maxRecDepth 100000 in
theorem pq1625 : Cond.methodLink RL 151 yX7_gap ∈ pw := pw_mem (i := 1625) (by decide +kernel) rfl
set_option maxRecDepth 100000 in
theorem pq1626 : Cond.instanceMethod yX7_gap ∈ pw := pw_mem (i := 1626) (by decide +kernel) rfl
set_option maxRecDepth 100000 in
theorem pq1627 : Cond.selects RX7 yX7_gap yX7_gap ∈ pw := pw_mem (i := 1627) (by decide +kernel) rfl
set_option maxRecDepth 100000 in
theorem pq1628 : Cond.code yX7_gap cX7_gap 5 (some .int) ∈ pw := pw_mem (i := 1628) (by rfl) rfl
set_option maxRecDepth 100000 in
theorem pq1629 : Cond.methodLink RL 155 yX7_apart ∈ pw := pw_mem (i := 1629) (by decide +kernel) rfl
set_option maxRecDepth 100000 in
theorem pq1630 : Cond.instanceMethod yX7_apart ∈ pw := pw_mem (i := 1630) (by decide +kernel) rfl
set_option maxRecDepth 100000 in
theorem pq1631 : Cond.selects RX7 yX7_apart yX7_apart ∈ pw := pw_mem (i := 1631) (by decide +kernel) rfl
set_option maxRecDepth 100000 in
theorem pq1632 : Cond.code yX7_apart cX7_apart 8 (some .int) ∈ pw := pw_mem (i := 1632) (by rfl) rfl
set_option maxRecDepth 100000 in
theorem pq1633 : Cond.methodLink RL 159 yX7_best ∈ pw := pw_mem (i := 1633) (by decide +kernel) rfl
set_option maxRecDepth 100000 in
theorem pq1634 : Cond.instanceMethod yX7_best ∈ pw := pw_mem (i := 1634) (by decide +kernel) rfl
set_option maxRecDepth 100000 in
theorem pq1635 : Cond.selects RX7 yX7_best yX7_best ∈ pw := pw_mem (i := 1635) (by decide +kernel) rfl
set_option maxRecDepth 100000 in
theorem pq1636 : Cond.code yX7_best cX7_best 10 (some .int) ∈ pw := pw_mem (i := 1636) (by rfl) rfl
set_option maxRecDepth 100000 in
theorem pq1637 : Cond.methodLink RL 163 yX7_slope ∈ pw := pw_mem (i := 1637) (by decide +kernel) rfl
set_option maxRecDepth 100000 in
theorem pq1638 : Cond.instanceMethod yX7_slope ∈ pw := pw_mem (i := 1638) (by decide +kernel) rfl
set_option maxRecDepth 100000 in
theorem pq1639 : Cond.selects RX7 yX7_slope yX7_slope ∈ pw := pw_mem (i := 1639) (by decide +kernel) rfl
set_option maxRecDepth 100000 in
theorem pq1640 : Cond.code yX7_slope cX7_slope 4 (some .int) ∈ pw := pw_mem (i := 1640) (by rfl) rfl
set_option maxRecDepth 100000 in
theorem pq1642 : Cond.methodLink RL 167 yX7_ray ∈ pw := pw_mem (i := 1642) (by decide +kernel) rfl
set_option maxRecDepth 100000 in
theorem pq1643 : Cond.instanceMethod yX7_ray ∈ pw := pw_mem (i := 1643) (by decide +kernel) rfl
set_option maxRecDepth 100000 in
theorem pq1644 : Cond.selects RX7 yX7_ray yX7_ray ∈ pw := pw_mem (i := 1644) (by decide +kernel) rfl
set_option maxRecDepth 100000 in
theorem pq1645 : Cond.code yX7_ray cX7_ray 9 (some .int) ∈ pw := pw_mem (i := 1645) (by rfl) rfl
set_option maxHeartbeats 4000000 in
set_option maxRecDepth 100000 in
theorem s_lwcase25 {p : Program} {e : Env} {s : State} {m : MethodId} {below : List Frame} {meth : Method} {c : Code} (l : Launch) {b Ln : Nat} {xs : Nat → Int32} {dC : Nat → ClassId} {dI : Nat → Nat → Nat} {cs : Nat → ClassId} {x0 m0 : Nat} (C0 : lw_At p s m meth c b Ln xs) (hLn : Ln ≤ 3072) (hK : va_K (dC, dI) vwCl (tysA cs) s) (hXs : xS (fun q : Nat => s.heap.size ≤ q) s s.heap) (i : Int32) (n : Nat) (hn : n < 512) (hi : i.toInt = 6 * (n : Int)) (hiL : i.toInt + 5 < (Ln : Int)) {d0 : Drawn} {H : Heap} {lo : List Loc} {ls : Array Slot} {nc ns : Nat} (h : lwI dC dI cs x0 m0 b s i n d0 H lo ls nc ns) (kk : ∀ (d0 : Drawn) (H : Heap) (lo : List Loc) (ls : Array Slot) (nc ns : Nat), lwI dC dI cs x0 m0 b s i (n + 1) d0 H lo ls nc ns → W p l e room_1 (s.setDrawn d0) m #[Value.ref b] below meth c H lo nc ns (lw_Z below #[Value.ref b] s) (F0 m 1947 ls [])) : W p l e room_1 (s.setDrawn d0) m #[Value.ref b] below meth c H lo nc ns (lw_Z below #[Value.ref b] s) (F0 m 1069 ls []) := by
  obtain ⟨hx, hb, hr, hml, hown, htl, hX, hbl, hlocks, hgv⟩ := id C0
  have hb : c.code = cL_law := hb
  have hown : s.vm.findClass RL = some m.cls := hown
  have hts0 : ∀ w ∈ pw, w.before #[Value.ref b] s = true := fun w h => htl w (pw_tbl h)
  have hts := dr_words hts0 d0
  have hN : xN s := xN_of htl
  have hA : ∀ q : Nat, s.heap.size ≤ q → (fun q : Nat => s.heap.size ≤ q) q := fun _ h => h
  have hbA : ¬ (fun q : Nat => s.heap.size ≤ q) b := Nat.not_le.mpr hbl
  obtain ⟨L, K, G, Q, I, J, tx, tm, B, σ, hQ, hI, hx0, hm0, hB, hT, hC, hM, hD, hAL, hP, hS, hl, hd0, hnc, hns⟩ := h
  have hi0 : 0 ≤ i.toInt := by omega
  have hok : okF σ.1 := hC.1.1.1
  refine lv_aload_n hx hb dL_law_1069 rfl (lv_at hl 2 rfl) ?_
  refine lv_aload_n hx hb dL_law_1070 rfl (lv_at hl 3 rfl) ?_
  refine lv_iload_n hx hb dL_law_1071 rfl (lv_at hl 0 rfl) ?_
  refine lv_iconst (v := 1) hx hb dL_law_1072 (by decide +kernel) ?_
  refine lv_iadd hx hb dL_law_1073 ?_
  refine va_sld (s := s.setDrawn d0) hx hb hX hbl hbA hS (lw_in (j := (1 : Int32)) (J := 1) (by decide +kernel) (by decide) (by decide) hi0 hiL hLn) dL_law_1074 ?_
  refine lv_aload_n hx hb dL_law_1075 rfl (lv_at hl 3 rfl) ?_
  refine lv_iload_n hx hb dL_law_1076 rfl (lv_at hl 0 rfl) ?_
  refine lv_iconst (v := 2) hx hb dL_law_1077 (by decide +kernel) ?_
  refine lv_iadd hx hb dL_law_1078 ?_
  refine va_sld (s := s.setDrawn d0) hx hb hX hbl hbA hS (lw_in (j := (2 : Int32)) (J := 2) (by decide +kernel) (by decide) (by decide) hi0 hiL hLn) dL_law_1079 ?_
  refine lv_aload_n hx hb dL_law_1080 rfl (lv_at hl 3 rfl) ?_
  refine lv_iload_n hx hb dL_law_1081 rfl (lv_at hl 0 rfl) ?_
  refine lv_iconst (v := 3) hx hb dL_law_1082 (by decide +kernel) ?_
  refine lv_iadd hx hb dL_law_1083 ?_
  refine va_sld (s := s.setDrawn d0) hx hb hX hbl hbA hS (lw_in (j := (3 : Int32)) (J := 3) (by decide +kernel) (by decide) (by decide) hi0 hiL hLn) dL_law_1084 ?_
  refine sw_i (va_runV (As := [.int (xs (i + 1).toNatClampNeg), .int (xs (i + 2).toNatClampNeg), .int (xs (i + 3).toNatClampNeg)]) (rest := []) ⟨hx, hb, hml, hown, hts⟩ (s_X6_meet l dC dI cs L K G Q hQ x0 m0 tx (tm, B) H.size I J hI x0 hx0 hI.2.1.1 (xs (i + 1).toNatClampNeg) (xs (i + 2).toNatClampNeg) (xs (i + 3).toNatClampNeg)) (cwV 3 hts (gV pq981 pq982 pq983 pq74 pq984) rfl rfl rfl (by decide +kernel) ⟨(Nat.le_of_ble_eq_true rfl), (Nat.le_of_ble_eq_true rfl)⟩) (sP_V hP hD hK hN hx0 hI.2.1.1 rfl rfl) rfl rfl hl.1 rfl (lv_room (Nat.le_of_ble_eq_true rfl)) dL_law_1085 ⟨(show nc + 0 ≤ room_1.cells from (show nc + 0 ≤ 600000 from by omega)), (show ns + 0 ≤ room_1.slots from (show ns + 0 ≤ 7302249 from by omega))⟩) hS hAL hA (fun r1 I1 J1 H lo hr1 hI1 hP hS => ?_)
  obtain ⟨hIn1, fr1, dnc1, jz1, dj1⟩ := hI1
  have hk1 := hr1 σ hC
  have hC := jz1 σ hC
  have hM := cmA_w hQ hm0 hI.2.1.2 hM dnc1 (fun b _ => congrFun dj1 b)
  have hIold := hI
  have hI := hIn1
  refine lv_pop hx hb dL_law_1088 rfl ?_
  refine lv_aload_n hx hb dL_law_1089 rfl (lv_at hl 1 rfl) ?_
  refine lv_aload_n hx hb dL_law_1090 rfl (lv_at hl 3 rfl) ?_
  refine lv_iload_n hx hb dL_law_1091 rfl (lv_at hl 0 rfl) ?_
  refine lv_iconst (v := 1) hx hb dL_law_1092 (by decide +kernel) ?_
  refine lv_iadd hx hb dL_law_1093 ?_
  refine va_sld (s := s.setDrawn d0) hx hb hX hbl hbA hS (lw_in (j := (1 : Int32)) (J := 1) (by decide +kernel) (by decide) (by decide) hi0 hiL hLn) dL_law_1094 ?_
  refine lv_aload_n hx hb dL_law_1095 rfl (lv_at hl 3 rfl) ?_
  refine lv_iload_n hx hb dL_law_1096 rfl (lv_at hl 0 rfl) ?_
  refine lv_iconst (v := 2) hx hb dL_law_1097 (by decide +kernel) ?_
  refine lv_iadd hx hb dL_law_1098 ?_
  refine va_sld (s := s.setDrawn d0) hx hb hX hbl hbA hS (lw_in (j := (2 : Int32)) (J := 2) (by decide +kernel) (by decide) (by decide) hi0 hiL hLn) dL_law_1099 ?_
  refine lv_aload_n hx hb dL_law_1100 rfl (lv_at hl 3 rfl) ?_
  refine lv_iload_n hx hb dL_law_1101 rfl (lv_at hl 0 rfl) ?_
  refine lv_iconst (v := 3) hx hb dL_law_1102 (by decide +kernel) ?_
  refine lv_iadd hx hb dL_law_1103 ?_
  refine va_sld (s := s.setDrawn d0) hx hb hX hbl hbA hS (lw_in (j := (3 : Int32)) (J := 3) (by decide +kernel) (by decide) (by decide) hi0 hiL hLn) dL_law_1104 ?_
  refine ro_i (va_runV (As := [.int (xs (i + 1).toNatClampNeg), .int (xs (i + 2).toNatClampNeg), .int (xs (i + 3).toNatClampNeg)]) (rest := []) ⟨hx, hb, hml, hown, hts⟩ (s_X7_meet l dC dI cs L K G Q hQ x0 m0 tx (tm, B) H.size I1 J1 hI m0 hm0 hI.2.1.2 (xs (i + 1).toNatClampNeg) (xs (i + 2).toNatClampNeg) (xs (i + 3).toNatClampNeg)) (cwV 3 hts (gV pq1579 pq1580 pq1581 pq81 pq1582) rfl rfl rfl (by decide +kernel) ⟨(Nat.le_of_ble_eq_true rfl), (Nat.le_of_ble_eq_true rfl)⟩) (sP_V hP hD hK hN hm0 hI.2.1.2 rfl rfl) rfl rfl hl.1 rfl (lv_room (Nat.le_of_ble_eq_true rfl)) dL_law_1105 ⟨(show nc + 0 ≤ room_1.cells from (show nc + 0 ≤ 600000 from by omega)), (show ns + 0 ≤ room_1.slots from (show ns + 0 ≤ 7302249 from by omega))⟩) hS hP (fun r2 H lo hr2 hP hS => ?_)
  have hk2 := hr2 σ hok hM
  have heq : r1 = r2 := mt_uni hk1 hk2
  refine lv_pop hx hb dL_law_1108 rfl ?_
  refine lv_goto (tgt := 1947) hx hb dL_law_1109 (by decide) ?_
  exact kk _ _ _ _ _ _ ⟨L, K, G, Q, I1, J1, tx, tm, B, _, hQ, hI, hx0, hm0, by omega, hT, hC, hM, hD, hAL, hP, hS, hl, hd0, by omega, by omega⟩

set_option maxHeartbeats 4000000 in
set_option maxRecDepth 100000 in
theorem s_lwcase26 {p : Program} {e : Env} {s : State} {m : MethodId} {below : List Frame} {meth : Method} {c : Code} (l : Launch) {b Ln : Nat} {xs : Nat → Int32} {dC : Nat → ClassId} {dI : Nat → Nat → Nat} {cs : Nat → ClassId} {x0 m0 : Nat} (C0 : lw_At p s m meth c b Ln xs) (hLn : Ln ≤ 3072) (hK : va_K (dC, dI) vwCl (tysA cs) s) (hXs : xS (fun q : Nat => s.heap.size ≤ q) s s.heap) (i : Int32) (n : Nat) (hn : n < 512) (hi : i.toInt = 6 * (n : Int)) (hiL : i.toInt + 5 < (Ln : Int)) {d0 : Drawn} {H : Heap} {lo : List Loc} {ls : Array Slot} {nc ns : Nat} (h : lwI dC dI cs x0 m0 b s i n d0 H lo ls nc ns) (kk : ∀ (d0 : Drawn) (H : Heap) (lo : List Loc) (ls : Array Slot) (nc ns : Nat), lwI dC dI cs x0 m0 b s i (n + 1) d0 H lo ls nc ns → W p l e room_1 (s.setDrawn d0) m #[Value.ref b] below meth c H lo nc ns (lw_Z below #[Value.ref b] s) (F0 m 1947 ls [])) : W p l e room_1 (s.setDrawn d0) m #[Value.ref b] below meth c H lo nc ns (lw_Z below #[Value.ref b] s) (F0 m 1112 ls []) := by
  obtain ⟨hx, hb, hr, hml, hown, htl, hX, hbl, hlocks, hgv⟩ := id C0
  have hb : c.code = cL_law := hb
  have hown : s.vm.findClass RL = some m.cls := hown
  have hts0 : ∀ w ∈ pw, w.before #[Value.ref b] s = true := fun w h => htl w (pw_tbl h)
  have hts := dr_words hts0 d0
  have hN : xN s := xN_of htl
  have hA : ∀ q : Nat, s.heap.size ≤ q → (fun q : Nat => s.heap.size ≤ q) q := fun _ h => h
  have hbA : ¬ (fun q : Nat => s.heap.size ≤ q) b := Nat.not_le.mpr hbl
  obtain ⟨L, K, G, Q, I, J, tx, tm, B, σ, hQ, hI, hx0, hm0, hB, hT, hC, hM, hD, hAL, hP, hS, hl, hd0, hnc, hns⟩ := h
  have hi0 : 0 ≤ i.toInt := by omega
  have hok : okF σ.1 := hC.1.1.1
  refine lv_aload_n hx hb dL_law_1112 rfl (lv_at hl 2 rfl) ?_
  refine lv_aload_n hx hb dL_law_1113 rfl (lv_at hl 3 rfl) ?_
  refine lv_iload_n hx hb dL_law_1114 rfl (lv_at hl 0 rfl) ?_
  refine lv_iconst (v := 1) hx hb dL_law_1115 (by decide +kernel) ?_
  refine lv_iadd hx hb dL_law_1116 ?_
  refine va_sld (s := s.setDrawn d0) hx hb hX hbl hbA hS (lw_in (j := (1 : Int32)) (J := 1) (by decide +kernel) (by decide) (by decide) hi0 hiL hLn) dL_law_1117 ?_
  refine ro_i (va_runV (As := [.int (xs (i + 1).toNatClampNeg)]) (rest := []) ⟨hx, hb, hml, hown, hts⟩ (s_X6_contact l dC dI cs L K G Q hQ x0 m0 tx (tm, B) H.size I J hI x0 hx0 hI.2.1.1 (xs (i + 1).toNatClampNeg)) (cwV 1 hts (gV pq993 pq994 pq995 pq74 pq996) rfl rfl rfl (by decide +kernel) ⟨(Nat.le_of_ble_eq_true rfl), (Nat.le_of_ble_eq_true rfl)⟩) (sP_V hP hD hK hN hx0 hI.2.1.1 rfl rfl) rfl rfl hl.1 rfl (lv_room (Nat.le_of_ble_eq_true rfl)) dL_law_1118 ⟨(show nc + 0 ≤ room_1.cells from (show nc + 0 ≤ 600000 from by omega)), (show ns + 0 ≤ room_1.slots from (show ns + 0 ≤ 7302249 from by omega))⟩) hS hP (fun r1 H lo hr1 hP hS => ?_)
  have hk1 := hr1 σ hC
  refine lv_pop hx hb dL_law_1121 rfl ?_
  refine lv_aload_n hx hb dL_law_1122 rfl (lv_at hl 1 rfl) ?_
  refine lv_aload_n hx hb dL_law_1123 rfl (lv_at hl 3 rfl) ?_
  refine lv_iload_n hx hb dL_law_1124 rfl (lv_at hl 0 rfl) ?_
  refine lv_iconst (v := 1) hx hb dL_law_1125 (by decide +kernel) ?_
  refine lv_iadd hx hb dL_law_1126 ?_
  refine va_sld (s := s.setDrawn d0) hx hb hX hbl hbA hS (lw_in (j := (1 : Int32)) (J := 1) (by decide +kernel) (by decide) (by decide) hi0 hiL hLn) dL_law_1127 ?_
  refine sw_i (va_runV (As := [.int (xs (i + 1).toNatClampNeg)]) (rest := []) ⟨hx, hb, hml, hown, hts⟩ (s_X7_contact l dC dI cs L K G Q hQ x0 m0 tx (tm, B) H.size I J hI m0 hm0 hI.2.1.2 (xs (i + 1).toNatClampNeg)) (cwV 1 hts (gV pq1587 pq1588 pq1589 pq81 pq1590) rfl rfl rfl (by decide +kernel) ⟨(Nat.le_of_ble_eq_true rfl), (Nat.le_of_ble_eq_true rfl)⟩) (sP_V hP hD hK hN hm0 hI.2.1.2 rfl rfl) rfl rfl hl.1 rfl (lv_room (Nat.le_of_ble_eq_true rfl)) dL_law_1128 ⟨(show nc + 0 ≤ room_1.cells from (show nc + 0 ≤ 600000 from by omega)), (show ns + 0 ≤ room_1.slots from (show ns + 0 ≤ 7302249 from by omega))⟩) hS hAL hA (fun r2 I2 J2 H lo hr2 hI2 hP hS => ?_)
  obtain ⟨hIn2, sm2, jz2, dj2⟩ := hI2
  have hk2 := hr2 σ hok hM
  have hM := jz2 σ hM
  have hC := cxA_w hQ hx0 hI.2.1.1 hC (fun b _ => congrFun sm2 b) (fun b hb => dj2 b (by omega))
  have hIold := hI
  have hI := hIn2
  have heq : r1 = r2 := hk1.trans hk2.symm
  refine lv_pop hx hb dL_law_1131 rfl ?_
  refine lv_goto (tgt := 1947) hx hb dL_law_1132 (by decide) ?_
  exact kk _ _ _ _ _ _ ⟨L, K, G, Q, I2, J2, tx, tm, B, _, hQ, hI, hx0, hm0, by omega, hT, hC, hM, hD, hAL, hP, hS, hl, hd0, by omega, by omega⟩

set_option maxHeartbeats 4000000 in
set_option maxRecDepth 100000 in
theorem s_lwcase27 {p : Program} {e : Env} {s : State} {m : MethodId} {below : List Frame} {meth : Method} {c : Code} (l : Launch) {b Ln : Nat} {xs : Nat → Int32} {dC : Nat → ClassId} {dI : Nat → Nat → Nat} {cs : Nat → ClassId} {x0 m0 : Nat} (C0 : lw_At p s m meth c b Ln xs) (hLn : Ln ≤ 3072) (hK : va_K (dC, dI) vwCl (tysA cs) s) (hXs : xS (fun q : Nat => s.heap.size ≤ q) s s.heap) (i : Int32) (n : Nat) (hn : n < 512) (hi : i.toInt = 6 * (n : Int)) (hiL : i.toInt + 5 < (Ln : Int)) {d0 : Drawn} {H : Heap} {lo : List Loc} {ls : Array Slot} {nc ns : Nat} (h : lwI dC dI cs x0 m0 b s i n d0 H lo ls nc ns) (kk : ∀ (d0 : Drawn) (H : Heap) (lo : List Loc) (ls : Array Slot) (nc ns : Nat), lwI dC dI cs x0 m0 b s i (n + 1) d0 H lo ls nc ns → W p l e room_1 (s.setDrawn d0) m #[Value.ref b] below meth c H lo nc ns (lw_Z below #[Value.ref b] s) (F0 m 1947 ls [])) : W p l e room_1 (s.setDrawn d0) m #[Value.ref b] below meth c H lo nc ns (lw_Z below #[Value.ref b] s) (F0 m 1135 ls []) := by
  obtain ⟨hx, hb, hr, hml, hown, htl, hX, hbl, hlocks, hgv⟩ := id C0
  have hb : c.code = cL_law := hb
  have hown : s.vm.findClass RL = some m.cls := hown
  have hts0 : ∀ w ∈ pw, w.before #[Value.ref b] s = true := fun w h => htl w (pw_tbl h)
  have hts := dr_words hts0 d0
  have hN : xN s := xN_of htl
  have hA : ∀ q : Nat, s.heap.size ≤ q → (fun q : Nat => s.heap.size ≤ q) q := fun _ h => h
  have hbA : ¬ (fun q : Nat => s.heap.size ≤ q) b := Nat.not_le.mpr hbl
  obtain ⟨L, K, G, Q, I, J, tx, tm, B, σ, hQ, hI, hx0, hm0, hB, hT, hC, hM, hD, hAL, hP, hS, hl, hd0, hnc, hns⟩ := h
  have hi0 : 0 ≤ i.toInt := by omega
  have hok : okF σ.1 := hC.1.1.1
  refine lv_aload_n hx hb dL_law_1135 rfl (lv_at hl 2 rfl) ?_
  refine lv_aload_n hx hb dL_law_1136 rfl (lv_at hl 3 rfl) ?_
  refine lv_iload_n hx hb dL_law_1137 rfl (lv_at hl 0 rfl) ?_
  refine lv_iconst (v := 1) hx hb dL_law_1138 (by decide +kernel) ?_
  refine lv_iadd hx hb dL_law_1139 ?_
  refine va_sld (s := s.setDrawn d0) hx hb hX hbl hbA hS (lw_in (j := (1 : Int32)) (J := 1) (by decide +kernel) (by decide) (by decide) hi0 hiL hLn) dL_law_1140 ?_
  refine ro_i (va_runV (As := [.int (xs (i + 1).toNatClampNeg)]) (rest := []) ⟨hx, hb, hml, hown, hts⟩ (s_X6_sieve l dC dI cs L K G Q hQ x0 m0 tx (tm, B) H.size I J hI x0 hx0 hI.2.1.1 (xs (i + 1).toNatClampNeg)) (cwV 1 hts (gV pq998 pq999 pq1000 pq74 pq1001) rfl rfl rfl (by decide +kernel) ⟨(Nat.le_of_ble_eq_true rfl), (Nat.le_of_ble_eq_true rfl)⟩) (sP_V hP hD hK hN hx0 hI.2.1.1 rfl rfl) rfl rfl hl.1 rfl (lv_room (Nat.le_of_ble_eq_true rfl)) dL_law_1141 ⟨(show nc + 0 ≤ room_1.cells from (show nc + 0 ≤ 600000 from by omega)), (show ns + 0 ≤ room_1.slots from (show ns + 0 ≤ 7302249 from by omega))⟩) hS hP (fun r1 H lo hr1 hP hS => ?_)
  have hk1 := hr1 σ hC
  refine lv_pop hx hb dL_law_1144 rfl ?_
  refine lv_aload_n hx hb dL_law_1145 rfl (lv_at hl 1 rfl) ?_
  refine lv_aload_n hx hb dL_law_1146 rfl (lv_at hl 3 rfl) ?_
  refine lv_iload_n hx hb dL_law_1147 rfl (lv_at hl 0 rfl) ?_
  refine lv_iconst (v := 1) hx hb dL_law_1148 (by decide +kernel) ?_
  refine lv_iadd hx hb dL_law_1149 ?_
  refine va_sld (s := s.setDrawn d0) hx hb hX hbl hbA hS (lw_in (j := (1 : Int32)) (J := 1) (by decide +kernel) (by decide) (by decide) hi0 hiL hLn) dL_law_1150 ?_
  refine sw_i (va_runV (As := [.int (xs (i + 1).toNatClampNeg)]) (rest := []) ⟨hx, hb, hml, hown, hts⟩ (s_X7_sieve l dC dI cs L K G Q hQ x0 m0 tx (tm, B) H.size I J hI m0 hm0 hI.2.1.2 (xs (i + 1).toNatClampNeg)) (cwV 1 hts (gV pq1591 pq1592 pq1593 pq81 pq1594) rfl rfl rfl (by decide +kernel) ⟨(Nat.le_of_ble_eq_true rfl), (Nat.le_of_ble_eq_true rfl)⟩) (sP_V hP hD hK hN hm0 hI.2.1.2 rfl rfl) rfl rfl hl.1 rfl (lv_room (Nat.le_of_ble_eq_true rfl)) dL_law_1151 ⟨(show nc + 0 ≤ room_1.cells from (show nc + 0 ≤ 600000 from by omega)), (show ns + 0 ≤ room_1.slots from (show ns + 0 ≤ 7302249 from by omega))⟩) hS hAL hA (fun r2 I2 J2 H lo hr2 hI2 hP hS => ?_)
  obtain ⟨hIn2, fr2, kq2_0_11, dnc2, jz2, dj2⟩ := hI2
  have hk2 := hr2 σ hok hM
  have hM := jz2 σ hM
  have hC := cxA_w hQ hx0 hI.2.1.1 hC dnc2 (fun b hb => dj2 b (by omega))
  have hIold := hI
  have hI := hIn2
  have heq : r1 = r2 := hk1.trans hk2.symm
  refine lv_pop hx hb dL_law_1154 rfl ?_
  refine lv_goto (tgt := 1947) hx hb dL_law_1155 (by decide) ?_
  exact kk _ _ _ _ _ _ ⟨L, K, G, Q, I2, J2, tx, tm, B, _, hQ, hI, hx0, hm0, by omega, hT, hC, hM, hD, hAL, hP, hS, hl, hd0, by omega, by omega⟩

set_option maxHeartbeats 4000000 in
set_option maxRecDepth 100000 in
theorem s_lwcase28 {p : Program} {e : Env} {s : State} {m : MethodId} {below : List Frame} {meth : Method} {c : Code} (l : Launch) {b Ln : Nat} {xs : Nat → Int32} {dC : Nat → ClassId} {dI : Nat → Nat → Nat} {cs : Nat → ClassId} {x0 m0 : Nat} (C0 : lw_At p s m meth c b Ln xs) (hLn : Ln ≤ 3072) (hK : va_K (dC, dI) vwCl (tysA cs) s) (hXs : xS (fun q : Nat => s.heap.size ≤ q) s s.heap) (i : Int32) (n : Nat) (hn : n < 512) (hi : i.toInt = 6 * (n : Int)) (hiL : i.toInt + 5 < (Ln : Int)) {d0 : Drawn} {H : Heap} {lo : List Loc} {ls : Array Slot} {nc ns : Nat} (h : lwI dC dI cs x0 m0 b s i n d0 H lo ls nc ns) (kk : ∀ (d0 : Drawn) (H : Heap) (lo : List Loc) (ls : Array Slot) (nc ns : Nat), lwI dC dI cs x0 m0 b s i (n + 1) d0 H lo ls nc ns → W p l e room_1 (s.setDrawn d0) m #[Value.ref b] below meth c H lo nc ns (lw_Z below #[Value.ref b] s) (F0 m 1947 ls [])) : W p l e room_1 (s.setDrawn d0) m #[Value.ref b] below meth c H lo nc ns (lw_Z below #[Value.ref b] s) (F0 m 1158 ls []) := by
  obtain ⟨hx, hb, hr, hml, hown, htl, hX, hbl, hlocks, hgv⟩ := id C0
  have hb : c.code = cL_law := hb
  have hown : s.vm.findClass RL = some m.cls := hown
  have hts0 : ∀ w ∈ pw, w.before #[Value.ref b] s = true := fun w h => htl w (pw_tbl h)
  have hts := dr_words hts0 d0
  have hN : xN s := xN_of htl
  have hA : ∀ q : Nat, s.heap.size ≤ q → (fun q : Nat => s.heap.size ≤ q) q := fun _ h => h
  have hbA : ¬ (fun q : Nat => s.heap.size ≤ q) b := Nat.not_le.mpr hbl
  obtain ⟨L, K, G, Q, I, J, tx, tm, B, σ, hQ, hI, hx0, hm0, hB, hT, hC, hM, hD, hAL, hP, hS, hl, hd0, hnc, hns⟩ := h
  have hi0 : 0 ≤ i.toInt := by omega
  have hok : okF σ.1 := hC.1.1.1
  refine lv_aload_n hx hb dL_law_1158 rfl (lv_at hl 2 rfl) ?_
  refine lv_aload_n hx hb dL_law_1159 rfl (lv_at hl 3 rfl) ?_
  refine lv_iload_n hx hb dL_law_1160 rfl (lv_at hl 0 rfl) ?_
  refine lv_iconst (v := 1) hx hb dL_law_1161 (by decide +kernel) ?_
  refine lv_iadd hx hb dL_law_1162 ?_
  refine va_sld (s := s.setDrawn d0) hx hb hX hbl hbA hS (lw_in (j := (1 : Int32)) (J := 1) (by decide +kernel) (by decide) (by decide) hi0 hiL hLn) dL_law_1163 ?_
  refine ro_i (va_runV (As := [.int (xs (i + 1).toNatClampNeg)]) (rest := []) ⟨hx, hb, hml, hown, hts⟩ (s_X6_touching l dC dI cs L K G Q hQ x0 m0 tx (tm, B) H.size I J hI x0 hx0 hI.2.1.1 (xs (i + 1).toNatClampNeg)) (cwV 1 hts (gV pq1011 pq1012 pq1013 pq74 pq1014) rfl rfl rfl (by decide +kernel) ⟨(Nat.le_of_ble_eq_true rfl), (Nat.le_of_ble_eq_true rfl)⟩) (sP_V hP hD hK hN hx0 hI.2.1.1 rfl rfl) rfl rfl hl.1 rfl (lv_room (Nat.le_of_ble_eq_true rfl)) dL_law_1164 ⟨(show nc + 0 ≤ room_1.cells from (show nc + 0 ≤ 600000 from by omega)), (show ns + 0 ≤ room_1.slots from (show ns + 0 ≤ 7302249 from by omega))⟩) hS hP (fun r1 H lo hr1 hP hS => ?_)
  have hk1 := hr1 σ hC
  refine lv_pop hx hb dL_law_1167 rfl ?_
  refine lv_aload_n hx hb dL_law_1168 rfl (lv_at hl 1 rfl) ?_
  refine lv_aload_n hx hb dL_law_1169 rfl (lv_at hl 3 rfl) ?_
  refine lv_iload_n hx hb dL_law_1170 rfl (lv_at hl 0 rfl) ?_
  refine lv_iconst (v := 1) hx hb dL_law_1171 (by decide +kernel) ?_
  refine lv_iadd hx hb dL_law_1172 ?_
  refine va_sld (s := s.setDrawn d0) hx hb hX hbl hbA hS (lw_in (j := (1 : Int32)) (J := 1) (by decide +kernel) (by decide) (by decide) hi0 hiL hLn) dL_law_1173 ?_
  refine sw_i (va_runV (As := [.int (xs (i + 1).toNatClampNeg)]) (rest := []) ⟨hx, hb, hml, hown, hts⟩ (s_X7_touching l dC dI cs L K G Q hQ x0 m0 tx (tm, B) H.size I J hI m0 hm0 hI.2.1.2 (xs (i + 1).toNatClampNeg)) (cwV 1 hts (gV pq1604 pq1605 pq1606 pq81 pq1607) rfl rfl rfl (by decide +kernel) ⟨(Nat.le_of_ble_eq_true rfl), (Nat.le_of_ble_eq_true rfl)⟩) (sP_V hP hD hK hN hm0 hI.2.1.2 rfl rfl) rfl rfl hl.1 rfl (lv_room (Nat.le_of_ble_eq_true rfl)) dL_law_1174 ⟨(show nc + 0 ≤ room_1.cells from (show nc + 0 ≤ 600000 from by omega)), (show ns + 0 ≤ room_1.slots from (show ns + 0 ≤ 7302249 from by omega))⟩) hS hAL hA (fun r2 I2 J2 H lo hr2 hI2 hP hS => ?_)
  obtain ⟨hIn2, sm2, jz2, dj2⟩ := hI2
  have hk2 := hr2 σ hok hM
  have hM := jz2 σ hM
  have hC := cxA_w hQ hx0 hI.2.1.1 hC (fun b _ => congrFun sm2 b) (fun b hb => dj2 b (by omega))
  have hIold := hI
  have hI := hIn2
  have heq : r1 = r2 := tc_uni hk1 hk2
  refine lv_pop hx hb dL_law_1177 rfl ?_
  refine lv_goto (tgt := 1947) hx hb dL_law_1178 (by decide) ?_
  exact kk _ _ _ _ _ _ ⟨L, K, G, Q, I2, J2, tx, tm, B, _, hQ, hI, hx0, hm0, by omega, hT, hC, hM, hD, hAL, hP, hS, hl, hd0, by omega, by omega⟩

set_option maxHeartbeats 4000000 in
set_option maxRecDepth 100000 in
theorem s_lwcase29 {p : Program} {e : Env} {s : State} {m : MethodId} {below : List Frame} {meth : Method} {c : Code} (l : Launch) {b Ln : Nat} {xs : Nat → Int32} {dC : Nat → ClassId} {dI : Nat → Nat → Nat} {cs : Nat → ClassId} {x0 m0 : Nat} (C0 : lw_At p s m meth c b Ln xs) (hLn : Ln ≤ 3072) (hK : va_K (dC, dI) vwCl (tysA cs) s) (hXs : xS (fun q : Nat => s.heap.size ≤ q) s s.heap) (i : Int32) (n : Nat) (hn : n < 512) (hi : i.toInt = 6 * (n : Int)) (hiL : i.toInt + 5 < (Ln : Int)) {d0 : Drawn} {H : Heap} {lo : List Loc} {ls : Array Slot} {nc ns : Nat} (h : lwI dC dI cs x0 m0 b s i n d0 H lo ls nc ns) (kk : ∀ (d0 : Drawn) (H : Heap) (lo : List Loc) (ls : Array Slot) (nc ns : Nat), lwI dC dI cs x0 m0 b s i (n + 1) d0 H lo ls nc ns → W p l e room_1 (s.setDrawn d0) m #[Value.ref b] below meth c H lo nc ns (lw_Z below #[Value.ref b] s) (F0 m 1947 ls [])) : W p l e room_1 (s.setDrawn d0) m #[Value.ref b] below meth c H lo nc ns (lw_Z below #[Value.ref b] s) (F0 m 1181 ls []) := by
  obtain ⟨hx, hb, hr, hml, hown, htl, hX, hbl, hlocks, hgv⟩ := id C0
  have hb : c.code = cL_law := hb
  have hown : s.vm.findClass RL = some m.cls := hown
  have hts0 : ∀ w ∈ pw, w.before #[Value.ref b] s = true := fun w h => htl w (pw_tbl h)
  have hts := dr_words hts0 d0
  have hN : xN s := xN_of htl
  have hA : ∀ q : Nat, s.heap.size ≤ q → (fun q : Nat => s.heap.size ≤ q) q := fun _ h => h
  have hbA : ¬ (fun q : Nat => s.heap.size ≤ q) b := Nat.not_le.mpr hbl
  obtain ⟨L, K, G, Q, I, J, tx, tm, B, σ, hQ, hI, hx0, hm0, hB, hT, hC, hM, hD, hAL, hP, hS, hl, hd0, hnc, hns⟩ := h
  have hi0 : 0 ≤ i.toInt := by omega
  have hok : okF σ.1 := hC.1.1.1
  refine lv_aload_n hx hb dL_law_1181 rfl (lv_at hl 2 rfl) ?_
  refine lv_aload_n hx hb dL_law_1182 rfl (lv_at hl 3 rfl) ?_
  refine lv_iload_n hx hb dL_law_1183 rfl (lv_at hl 0 rfl) ?_
  refine lv_iconst (v := 1) hx hb dL_law_1184 (by decide +kernel) ?_
  refine lv_iadd hx hb dL_law_1185 ?_
  refine va_sld (s := s.setDrawn d0) hx hb hX hbl hbA hS (lw_in (j := (1 : Int32)) (J := 1) (by decide +kernel) (by decide) (by decide) hi0 hiL hLn) dL_law_1186 ?_
  refine lv_aload_n hx hb dL_law_1187 rfl (lv_at hl 3 rfl) ?_
  refine lv_iload_n hx hb dL_law_1188 rfl (lv_at hl 0 rfl) ?_
  refine lv_iconst (v := 2) hx hb dL_law_1189 (by decide +kernel) ?_
  refine lv_iadd hx hb dL_law_1190 ?_
  refine va_sld (s := s.setDrawn d0) hx hb hX hbl hbA hS (lw_in (j := (2 : Int32)) (J := 2) (by decide +kernel) (by decide) (by decide) hi0 hiL hLn) dL_law_1191 ?_
  refine ro_i (va_runV (As := [.int (xs (i + 1).toNatClampNeg), .int (xs (i + 2).toNatClampNeg)]) (rest := []) ⟨hx, hb, hml, hown, hts⟩ (s_X6_at l dC dI cs L K G Q hQ x0 m0 tx (tm, B) H.size I J hI x0 hx0 hI.2.1.1 (xs (i + 1).toNatClampNeg) (xs (i + 2).toNatClampNeg)) (cwV 2 hts (gV pq1015 pq1016 pq1017 pq74 pq1018) rfl rfl rfl (by decide +kernel) ⟨(Nat.le_of_ble_eq_true rfl), (Nat.le_of_ble_eq_true rfl)⟩) (sP_V hP hD hK hN hx0 hI.2.1.1 rfl rfl) rfl rfl hl.1 rfl (lv_room (Nat.le_of_ble_eq_true rfl)) dL_law_1192 ⟨(show nc + 0 ≤ room_1.cells from (show nc + 0 ≤ 600000 from by omega)), (show ns + 0 ≤ room_1.slots from (show ns + 0 ≤ 7302249 from by omega))⟩) hS hP (fun r1 H lo hr1 hP hS => ?_)
  have hk1 := hr1 σ hC
  refine lv_pop hx hb dL_law_1195 rfl ?_
  refine lv_aload_n hx hb dL_law_1196 rfl (lv_at hl 1 rfl) ?_
  refine lv_aload_n hx hb dL_law_1197 rfl (lv_at hl 3 rfl) ?_
  refine lv_iload_n hx hb dL_law_1198 rfl (lv_at hl 0 rfl) ?_
  refine lv_iconst (v := 1) hx hb dL_law_1199 (by decide +kernel) ?_
  refine lv_iadd hx hb dL_law_1200 ?_
  refine va_sld (s := s.setDrawn d0) hx hb hX hbl hbA hS (lw_in (j := (1 : Int32)) (J := 1) (by decide +kernel) (by decide) (by decide) hi0 hiL hLn) dL_law_1201 ?_
  refine lv_aload_n hx hb dL_law_1202 rfl (lv_at hl 3 rfl) ?_
  refine lv_iload_n hx hb dL_law_1203 rfl (lv_at hl 0 rfl) ?_
  refine lv_iconst (v := 2) hx hb dL_law_1204 (by decide +kernel) ?_
  refine lv_iadd hx hb dL_law_1205 ?_
  refine va_sld (s := s.setDrawn d0) hx hb hX hbl hbA hS (lw_in (j := (2 : Int32)) (J := 2) (by decide +kernel) (by decide) (by decide) hi0 hiL hLn) dL_law_1206 ?_
  refine ro_i (va_runV (As := [.int (xs (i + 1).toNatClampNeg), .int (xs (i + 2).toNatClampNeg)]) (rest := []) ⟨hx, hb, hml, hown, hts⟩ (s_X7_at l dC dI cs L K G Q hQ x0 m0 tx (tm, B) H.size I J hI m0 hm0 hI.2.1.2 (xs (i + 1).toNatClampNeg) (xs (i + 2).toNatClampNeg)) (cwV 2 hts (gV pq1608 pq1609 pq1610 pq81 pq1611) rfl rfl rfl (by decide +kernel) ⟨(Nat.le_of_ble_eq_true rfl), (Nat.le_of_ble_eq_true rfl)⟩) (sP_V hP hD hK hN hm0 hI.2.1.2 rfl rfl) rfl rfl hl.1 rfl (lv_room (Nat.le_of_ble_eq_true rfl)) dL_law_1207 ⟨(show nc + 0 ≤ room_1.cells from (show nc + 0 ≤ 600000 from by omega)), (show ns + 0 ≤ room_1.slots from (show ns + 0 ≤ 7302249 from by omega))⟩) hS hP (fun r2 H lo hr2 hP hS => ?_)
  have hk2 := hr2 σ hok hM
  have heq : r1 = r2 := at_uni hk1 hk2
  refine lv_pop hx hb dL_law_1210 rfl ?_
  refine lv_goto (tgt := 1947) hx hb dL_law_1211 (by decide) ?_
  exact kk _ _ _ _ _ _ ⟨L, K, G, Q, I, J, tx, tm, B, _, hQ, hI, hx0, hm0, by omega, hT, hC, hM, hD, hAL, hP, hS, hl, hd0, by omega, by omega⟩

set_option maxHeartbeats 4000000 in
set_option maxRecDepth 100000 in
theorem s_lwcase30 {p : Program} {e : Env} {s : State} {m : MethodId} {below : List Frame} {meth : Method} {c : Code} (l : Launch) {b Ln : Nat} {xs : Nat → Int32} {dC : Nat → ClassId} {dI : Nat → Nat → Nat} {cs : Nat → ClassId} {x0 m0 : Nat} (C0 : lw_At p s m meth c b Ln xs) (hLn : Ln ≤ 3072) (hK : va_K (dC, dI) vwCl (tysA cs) s) (hXs : xS (fun q : Nat => s.heap.size ≤ q) s s.heap) (i : Int32) (n : Nat) (hn : n < 512) (hi : i.toInt = 6 * (n : Int)) (hiL : i.toInt + 5 < (Ln : Int)) {d0 : Drawn} {H : Heap} {lo : List Loc} {ls : Array Slot} {nc ns : Nat} (h : lwI dC dI cs x0 m0 b s i n d0 H lo ls nc ns) (kk : ∀ (d0 : Drawn) (H : Heap) (lo : List Loc) (ls : Array Slot) (nc ns : Nat), lwI dC dI cs x0 m0 b s i (n + 1) d0 H lo ls nc ns → W p l e room_1 (s.setDrawn d0) m #[Value.ref b] below meth c H lo nc ns (lw_Z below #[Value.ref b] s) (F0 m 1947 ls [])) : W p l e room_1 (s.setDrawn d0) m #[Value.ref b] below meth c H lo nc ns (lw_Z below #[Value.ref b] s) (F0 m 1214 ls []) := by
  obtain ⟨hx, hb, hr, hml, hown, htl, hX, hbl, hlocks, hgv⟩ := id C0
  have hb : c.code = cL_law := hb
  have hown : s.vm.findClass RL = some m.cls := hown
  have hts0 : ∀ w ∈ pw, w.before #[Value.ref b] s = true := fun w h => htl w (pw_tbl h)
  have hts := dr_words hts0 d0
  have hN : xN s := xN_of htl
  have hA : ∀ q : Nat, s.heap.size ≤ q → (fun q : Nat => s.heap.size ≤ q) q := fun _ h => h
  have hbA : ¬ (fun q : Nat => s.heap.size ≤ q) b := Nat.not_le.mpr hbl
  obtain ⟨L, K, G, Q, I, J, tx, tm, B, σ, hQ, hI, hx0, hm0, hB, hT, hC, hM, hD, hAL, hP, hS, hl, hd0, hnc, hns⟩ := h
  have hi0 : 0 ≤ i.toInt := by omega
  have hok : okF σ.1 := hC.1.1.1
  refine lv_aload_n hx hb dL_law_1214 rfl (lv_at hl 2 rfl) ?_
  refine lv_aload_n hx hb dL_law_1215 rfl (lv_at hl 3 rfl) ?_
  refine lv_iload_n hx hb dL_law_1216 rfl (lv_at hl 0 rfl) ?_
  refine lv_iconst (v := 1) hx hb dL_law_1217 (by decide +kernel) ?_
  refine lv_iadd hx hb dL_law_1218 ?_
  refine va_sld (s := s.setDrawn d0) hx hb hX hbl hbA hS (lw_in (j := (1 : Int32)) (J := 1) (by decide +kernel) (by decide) (by decide) hi0 hiL hLn) dL_law_1219 ?_
  refine lv_aload_n hx hb dL_law_1220 rfl (lv_at hl 3 rfl) ?_
  refine lv_iload_n hx hb dL_law_1221 rfl (lv_at hl 0 rfl) ?_
  refine lv_iconst (v := 2) hx hb dL_law_1222 (by decide +kernel) ?_
  refine lv_iadd hx hb dL_law_1223 ?_
  refine va_sld (s := s.setDrawn d0) hx hb hX hbl hbA hS (lw_in (j := (2 : Int32)) (J := 2) (by decide +kernel) (by decide) (by decide) hi0 hiL hLn) dL_law_1224 ?_
  refine lv_aload_n hx hb dL_law_1225 rfl (lv_at hl 3 rfl) ?_
  refine lv_iload_n hx hb dL_law_1226 rfl (lv_at hl 0 rfl) ?_
  refine lv_iconst (v := 3) hx hb dL_law_1227 (by decide +kernel) ?_
  refine lv_iadd hx hb dL_law_1228 ?_
  refine va_sld (s := s.setDrawn d0) hx hb hX hbl hbA hS (lw_in (j := (3 : Int32)) (J := 3) (by decide +kernel) (by decide) (by decide) hi0 hiL hLn) dL_law_1229 ?_
  refine ro_i (va_runV (As := [.int (xs (i + 1).toNatClampNeg), .int (xs (i + 2).toNatClampNeg), .int (xs (i + 3).toNatClampNeg)]) (rest := []) ⟨hx, hb, hml, hown, hts⟩ (s_X6_first l dC dI cs L K G Q hQ x0 m0 tx (tm, B) H.size I J hI x0 hx0 hI.2.1.1 (xs (i + 1).toNatClampNeg) (xs (i + 2).toNatClampNeg) (xs (i + 3).toNatClampNeg)) (cwV 3 hts (gV pq1024 pq1025 pq1026 pq74 pq1027) rfl rfl rfl (by decide +kernel) ⟨(Nat.le_of_ble_eq_true rfl), (Nat.le_of_ble_eq_true rfl)⟩) (sP_V hP hD hK hN hx0 hI.2.1.1 rfl rfl) rfl rfl hl.1 rfl (lv_room (Nat.le_of_ble_eq_true rfl)) dL_law_1230 ⟨(show nc + 0 ≤ room_1.cells from (show nc + 0 ≤ 600000 from by omega)), (show ns + 0 ≤ room_1.slots from (show ns + 0 ≤ 7302249 from by omega))⟩) hS hP (fun r1 H lo hr1 hP hS => ?_)
  have hk1 := hr1 σ hC
  refine lv_pop hx hb dL_law_1233 rfl ?_
  refine lv_aload_n hx hb dL_law_1234 rfl (lv_at hl 1 rfl) ?_
  refine lv_aload_n hx hb dL_law_1235 rfl (lv_at hl 3 rfl) ?_
  refine lv_iload_n hx hb dL_law_1236 rfl (lv_at hl 0 rfl) ?_
  refine lv_iconst (v := 1) hx hb dL_law_1237 (by decide +kernel) ?_
  refine lv_iadd hx hb dL_law_1238 ?_
  refine va_sld (s := s.setDrawn d0) hx hb hX hbl hbA hS (lw_in (j := (1 : Int32)) (J := 1) (by decide +kernel) (by decide) (by decide) hi0 hiL hLn) dL_law_1239 ?_
  refine lv_aload_n hx hb dL_law_1240 rfl (lv_at hl 3 rfl) ?_
  refine lv_iload_n hx hb dL_law_1241 rfl (lv_at hl 0 rfl) ?_
  refine lv_iconst (v := 2) hx hb dL_law_1242 (by decide +kernel) ?_
  refine lv_iadd hx hb dL_law_1243 ?_
  refine va_sld (s := s.setDrawn d0) hx hb hX hbl hbA hS (lw_in (j := (2 : Int32)) (J := 2) (by decide +kernel) (by decide) (by decide) hi0 hiL hLn) dL_law_1244 ?_
  refine lv_aload_n hx hb dL_law_1245 rfl (lv_at hl 3 rfl) ?_
  refine lv_iload_n hx hb dL_law_1246 rfl (lv_at hl 0 rfl) ?_
  refine lv_iconst (v := 3) hx hb dL_law_1247 (by decide +kernel) ?_
  refine lv_iadd hx hb dL_law_1248 ?_
  refine va_sld (s := s.setDrawn d0) hx hb hX hbl hbA hS (lw_in (j := (3 : Int32)) (J := 3) (by decide +kernel) (by decide) (by decide) hi0 hiL hLn) dL_law_1249 ?_
  refine sw_i (va_runV (As := [.int (xs (i + 1).toNatClampNeg), .int (xs (i + 2).toNatClampNeg), .int (xs (i + 3).toNatClampNeg)]) (rest := []) ⟨hx, hb, hml, hown, hts⟩ (s_X7_first l dC dI cs L K G Q hQ x0 m0 tx (tm, B) H.size I J hI m0 hm0 hI.2.1.2 (xs (i + 1).toNatClampNeg) (xs (i + 2).toNatClampNeg) (xs (i + 3).toNatClampNeg)) (cwV 3 hts (gV pq1616 pq1617 pq1618 pq81 pq1619) rfl rfl rfl (by decide +kernel) ⟨(Nat.le_of_ble_eq_true rfl), (Nat.le_of_ble_eq_true rfl)⟩) (sP_V hP hD hK hN hm0 hI.2.1.2 rfl rfl) rfl rfl hl.1 rfl (lv_room (Nat.le_of_ble_eq_true rfl)) dL_law_1250 ⟨(show nc + 0 ≤ room_1.cells from (show nc + 0 ≤ 600000 from by omega)), (show ns + 0 ≤ room_1.slots from (show ns + 0 ≤ 7302249 from by omega))⟩) hS hAL hA (fun r2 I2 J2 H lo hr2 hI2 hP hS => ?_)
  obtain ⟨hIn2, sm2, jz2, dj2⟩ := hI2
  have hk2 := hr2 σ hok hM
  have hM := jz2 σ hM
  have hC := cxA_w hQ hx0 hI.2.1.1 hC (fun b _ => congrFun sm2 b) (fun b hb => dj2 b (by omega))
  have hIold := hI
  have hI := hIn2
  have heq : r1 = r2 := fs_uni hk1 hk2
  refine lv_pop hx hb dL_law_1253 rfl ?_
  refine lv_goto (tgt := 1947) hx hb dL_law_1254 (by decide) ?_
  exact kk _ _ _ _ _ _ ⟨L, K, G, Q, I2, J2, tx, tm, B, _, hQ, hI, hx0, hm0, by omega, hT, hC, hM, hD, hAL, hP, hS, hl, hd0, by omega, by omega⟩

set_option maxHeartbeats 4000000 in
set_option maxRecDepth 100000 in
theorem s_lwcase31 {p : Program} {e : Env} {s : State} {m : MethodId} {below : List Frame} {meth : Method} {c : Code} (l : Launch) {b Ln : Nat} {xs : Nat → Int32} {dC : Nat → ClassId} {dI : Nat → Nat → Nat} {cs : Nat → ClassId} {x0 m0 : Nat} (C0 : lw_At p s m meth c b Ln xs) (hLn : Ln ≤ 3072) (hK : va_K (dC, dI) vwCl (tysA cs) s) (hXs : xS (fun q : Nat => s.heap.size ≤ q) s s.heap) (i : Int32) (n : Nat) (hn : n < 512) (hi : i.toInt = 6 * (n : Int)) (hiL : i.toInt + 5 < (Ln : Int)) {d0 : Drawn} {H : Heap} {lo : List Loc} {ls : Array Slot} {nc ns : Nat} (h : lwI dC dI cs x0 m0 b s i n d0 H lo ls nc ns) (kk : ∀ (d0 : Drawn) (H : Heap) (lo : List Loc) (ls : Array Slot) (nc ns : Nat), lwI dC dI cs x0 m0 b s i (n + 1) d0 H lo ls nc ns → W p l e room_1 (s.setDrawn d0) m #[Value.ref b] below meth c H lo nc ns (lw_Z below #[Value.ref b] s) (F0 m 1947 ls [])) : W p l e room_1 (s.setDrawn d0) m #[Value.ref b] below meth c H lo nc ns (lw_Z below #[Value.ref b] s) (F0 m 1257 ls []) := by
  obtain ⟨hx, hb, hr, hml, hown, htl, hX, hbl, hlocks, hgv⟩ := id C0
  have hb : c.code = cL_law := hb
  have hown : s.vm.findClass RL = some m.cls := hown
  have hts0 : ∀ w ∈ pw, w.before #[Value.ref b] s = true := fun w h => htl w (pw_tbl h)
  have hts := dr_words hts0 d0
  have hN : xN s := xN_of htl
  have hA : ∀ q : Nat, s.heap.size ≤ q → (fun q : Nat => s.heap.size ≤ q) q := fun _ h => h
  have hbA : ¬ (fun q : Nat => s.heap.size ≤ q) b := Nat.not_le.mpr hbl
  obtain ⟨L, K, G, Q, I, J, tx, tm, B, σ, hQ, hI, hx0, hm0, hB, hT, hC, hM, hD, hAL, hP, hS, hl, hd0, hnc, hns⟩ := h
  have hi0 : 0 ≤ i.toInt := by omega
  have hok : okF σ.1 := hC.1.1.1
  refine lv_aload_n hx hb dL_law_1257 rfl (lv_at hl 2 rfl) ?_
  refine lv_aload_n hx hb dL_law_1258 rfl (lv_at hl 3 rfl) ?_
  refine lv_iload_n hx hb dL_law_1259 rfl (lv_at hl 0 rfl) ?_
  refine lv_iconst (v := 1) hx hb dL_law_1260 (by decide +kernel) ?_
  refine lv_iadd hx hb dL_law_1261 ?_
  refine va_sld (s := s.setDrawn d0) hx hb hX hbl hbA hS (lw_in (j := (1 : Int32)) (J := 1) (by decide +kernel) (by decide) (by decide) hi0 hiL hLn) dL_law_1262 ?_
  refine lv_aload_n hx hb dL_law_1263 rfl (lv_at hl 3 rfl) ?_
  refine lv_iload_n hx hb dL_law_1264 rfl (lv_at hl 0 rfl) ?_
  refine lv_iconst (v := 2) hx hb dL_law_1265 (by decide +kernel) ?_
  refine lv_iadd hx hb dL_law_1266 ?_
  refine va_sld (s := s.setDrawn d0) hx hb hX hbl hbA hS (lw_in (j := (2 : Int32)) (J := 2) (by decide +kernel) (by decide) (by decide) hi0 hiL hLn) dL_law_1267 ?_
  refine lv_aload_n hx hb dL_law_1268 rfl (lv_at hl 3 rfl) ?_
  refine lv_iload_n hx hb dL_law_1269 rfl (lv_at hl 0 rfl) ?_
  refine lv_iconst (v := 3) hx hb dL_law_1270 (by decide +kernel) ?_
  refine lv_iadd hx hb dL_law_1271 ?_
  refine va_sld (s := s.setDrawn d0) hx hb hX hbl hbA hS (lw_in (j := (3 : Int32)) (J := 3) (by decide +kernel) (by decide) (by decide) hi0 hiL hLn) dL_law_1272 ?_
  refine lv_aload_n hx hb dL_law_1273 rfl (lv_at hl 3 rfl) ?_
  refine lv_iload_n hx hb dL_law_1274 rfl (lv_at hl 0 rfl) ?_
  refine lv_iconst (v := 4) hx hb dL_law_1275 (by decide +kernel) ?_
  refine lv_iadd hx hb dL_law_1276 ?_
  refine va_sld (s := s.setDrawn d0) hx hb hX hbl hbA hS (lw_in (j := (4 : Int32)) (J := 4) (by decide +kernel) (by decide) (by decide) hi0 hiL hLn) dL_law_1277 ?_
  refine sw_i (va_runV (As := [.int (xs (i + 1).toNatClampNeg), .int (xs (i + 2).toNatClampNeg), .int (xs (i + 3).toNatClampNeg), .int (xs (i + 4).toNatClampNeg)]) (rest := []) ⟨hx, hb, hml, hown, hts⟩ (s_X6_reach l dC dI cs L K G Q hQ x0 m0 tx (tm, B) H.size I J hI x0 hx0 hI.2.1.1 (xs (i + 1).toNatClampNeg) (xs (i + 2).toNatClampNeg) (xs (i + 3).toNatClampNeg) (xs (i + 4).toNatClampNeg)) (cwV 4 hts (gV pq1032 pq1033 pq1034 pq74 pq1035) rfl rfl rfl (by decide +kernel) ⟨(Nat.le_of_ble_eq_true rfl), (Nat.le_of_ble_eq_true rfl)⟩) (sP_V hP hD hK hN hx0 hI.2.1.1 rfl rfl) rfl rfl hl.1 rfl (lv_room (Nat.le_of_ble_eq_true rfl)) dL_law_1278 ⟨(show nc + 0 ≤ room_1.cells from (show nc + 0 ≤ 600000 from by omega)), (show ns + 0 ≤ room_1.slots from (show ns + 0 ≤ 7302249 from by omega))⟩) hS hAL hA (fun r1 I1 J1 H lo hr1 hI1 hP hS => ?_)
  obtain ⟨hIn1, fr1, dnc1, jz1, dj1⟩ := hI1
  have hC := jz1 σ hC
  have hM := cmA_w hQ hm0 hI.2.1.2 hM dnc1 (fun b _ => congrFun dj1 b)
  have hIold := hI
  have hI := hIn1
  refine lv_pop hx hb dL_law_1281 rfl ?_
  refine lv_aload_n hx hb dL_law_1282 rfl (lv_at hl 1 rfl) ?_
  refine lv_aload_n hx hb dL_law_1283 rfl (lv_at hl 3 rfl) ?_
  refine lv_iload_n hx hb dL_law_1284 rfl (lv_at hl 0 rfl) ?_
  refine lv_iconst (v := 1) hx hb dL_law_1285 (by decide +kernel) ?_
  refine lv_iadd hx hb dL_law_1286 ?_
  refine va_sld (s := s.setDrawn d0) hx hb hX hbl hbA hS (lw_in (j := (1 : Int32)) (J := 1) (by decide +kernel) (by decide) (by decide) hi0 hiL hLn) dL_law_1287 ?_
  refine lv_aload_n hx hb dL_law_1288 rfl (lv_at hl 3 rfl) ?_
  refine lv_iload_n hx hb dL_law_1289 rfl (lv_at hl 0 rfl) ?_
  refine lv_iconst (v := 2) hx hb dL_law_1290 (by decide +kernel) ?_
  refine lv_iadd hx hb dL_law_1291 ?_
  refine va_sld (s := s.setDrawn d0) hx hb hX hbl hbA hS (lw_in (j := (2 : Int32)) (J := 2) (by decide +kernel) (by decide) (by decide) hi0 hiL hLn) dL_law_1292 ?_
  refine lv_aload_n hx hb dL_law_1293 rfl (lv_at hl 3 rfl) ?_
  refine lv_iload_n hx hb dL_law_1294 rfl (lv_at hl 0 rfl) ?_
  refine lv_iconst (v := 3) hx hb dL_law_1295 (by decide +kernel) ?_
  refine lv_iadd hx hb dL_law_1296 ?_
  refine va_sld (s := s.setDrawn d0) hx hb hX hbl hbA hS (lw_in (j := (3 : Int32)) (J := 3) (by decide +kernel) (by decide) (by decide) hi0 hiL hLn) dL_law_1297 ?_
  refine lv_aload_n hx hb dL_law_1298 rfl (lv_at hl 3 rfl) ?_
  refine lv_iload_n hx hb dL_law_1299 rfl (lv_at hl 0 rfl) ?_
  refine lv_iconst (v := 4) hx hb dL_law_1300 (by decide +kernel) ?_
  refine lv_iadd hx hb dL_law_1301 ?_
  refine va_sld (s := s.setDrawn d0) hx hb hX hbl hbA hS (lw_in (j := (4 : Int32)) (J := 4) (by decide +kernel) (by decide) (by decide) hi0 hiL hLn) dL_law_1302 ?_
  refine sw_i (va_runV (As := [.int (xs (i + 1).toNatClampNeg), .int (xs (i + 2).toNatClampNeg), .int (xs (i + 3).toNatClampNeg), .int (xs (i + 4).toNatClampNeg)]) (rest := []) ⟨hx, hb, hml, hown, hts⟩ (s_X7_reach l dC dI cs L K G Q hQ x0 m0 tx (tm, B) H.size I1 J1 hI m0 hm0 hI.2.1.2 (xs (i + 1).toNatClampNeg) (xs (i + 2).toNatClampNeg) (xs (i + 3).toNatClampNeg) (xs (i + 4).toNatClampNeg)) (cwV 4 hts (gV pq1621 pq1622 pq1623 pq81 pq1624) rfl rfl rfl (by decide +kernel) ⟨(Nat.le_of_ble_eq_true rfl), (Nat.le_of_ble_eq_true rfl)⟩) (sP_V hP hD hK hN hm0 hI.2.1.2 rfl rfl) rfl rfl hl.1 rfl (lv_room (Nat.le_of_ble_eq_true rfl)) dL_law_1303 ⟨(show nc + 0 ≤ room_1.cells from (show nc + 0 ≤ 600000 from by omega)), (show ns + 0 ≤ room_1.slots from (show ns + 0 ≤ 7302249 from by omega))⟩) hS hAL hA (fun r2 I2 J2 H lo hr2 hI2 hP hS => ?_)
  obtain ⟨hIn2, fr2, kq2_0_11, dnc2, jz2, dj2⟩ := hI2
  have hM := jz2 σ hM
  have hC := cxA_w hQ hx0 hI.2.1.1 hC dnc2 (fun b hb => dj2 b (by omega))
  have hIold := hI
  have hI := hIn2
  refine lv_pop hx hb dL_law_1306 rfl ?_
  refine lv_goto (tgt := 1947) hx hb dL_law_1307 (by decide) ?_
  exact kk _ _ _ _ _ _ ⟨L, K, G, Q, I2, J2, tx, tm, B, _, hQ, hI, hx0, hm0, by omega, hT, hC, hM, hD, hAL, hP, hS, hl, hd0, by omega, by omega⟩

set_option maxHeartbeats 4000000 in
set_option maxRecDepth 100000 in
theorem s_lwcase32 {p : Program} {e : Env} {s : State} {m : MethodId} {below : List Frame} {meth : Method} {c : Code} (l : Launch) {b Ln : Nat} {xs : Nat → Int32} {dC : Nat → ClassId} {dI : Nat → Nat → Nat} {cs : Nat → ClassId} {x0 m0 : Nat} (C0 : lw_At p s m meth c b Ln xs) (hLn : Ln ≤ 3072) (hK : va_K (dC, dI) vwCl (tysA cs) s) (hXs : xS (fun q : Nat => s.heap.size ≤ q) s s.heap) (i : Int32) (n : Nat) (hn : n < 512) (hi : i.toInt = 6 * (n : Int)) (hiL : i.toInt + 5 < (Ln : Int)) {d0 : Drawn} {H : Heap} {lo : List Loc} {ls : Array Slot} {nc ns : Nat} (h : lwI dC dI cs x0 m0 b s i n d0 H lo ls nc ns) (kk : ∀ (d0 : Drawn) (H : Heap) (lo : List Loc) (ls : Array Slot) (nc ns : Nat), lwI dC dI cs x0 m0 b s i (n + 1) d0 H lo ls nc ns → W p l e room_1 (s.setDrawn d0) m #[Value.ref b] below meth c H lo nc ns (lw_Z below #[Value.ref b] s) (F0 m 1947 ls [])) : W p l e room_1 (s.setDrawn d0) m #[Value.ref b] below meth c H lo nc ns (lw_Z below #[Value.ref b] s) (F0 m 1310 ls []) := by
  obtain ⟨hx, hb, hr, hml, hown, htl, hX, hbl, hlocks, hgv⟩ := id C0
  have hb : c.code = cL_law := hb
  have hown : s.vm.findClass RL = some m.cls := hown
  have hts0 : ∀ w ∈ pw, w.before #[Value.ref b] s = true := fun w h => htl w (pw_tbl h)
  have hts := dr_words hts0 d0
  have hN : xN s := xN_of htl
  have hA : ∀ q : Nat, s.heap.size ≤ q → (fun q : Nat => s.heap.size ≤ q) q := fun _ h => h
  have hbA : ¬ (fun q : Nat => s.heap.size ≤ q) b := Nat.not_le.mpr hbl
  obtain ⟨L, K, G, Q, I, J, tx, tm, B, σ, hQ, hI, hx0, hm0, hB, hT, hC, hM, hD, hAL, hP, hS, hl, hd0, hnc, hns⟩ := h
  have hi0 : 0 ≤ i.toInt := by omega
  have hok : okF σ.1 := hC.1.1.1
  refine lv_aload_n hx hb dL_law_1310 rfl (lv_at hl 2 rfl) ?_
  refine lv_aload_n hx hb dL_law_1311 rfl (lv_at hl 3 rfl) ?_
  refine lv_iload_n hx hb dL_law_1312 rfl (lv_at hl 0 rfl) ?_
  refine lv_iconst (v := 1) hx hb dL_law_1313 (by decide +kernel) ?_
  refine lv_iadd hx hb dL_law_1314 ?_
  refine va_sld (s := s.setDrawn d0) hx hb hX hbl hbA hS (lw_in (j := (1 : Int32)) (J := 1) (by decide +kernel) (by decide) (by decide) hi0 hiL hLn) dL_law_1315 ?_
  refine lv_aload_n hx hb dL_law_1316 rfl (lv_at hl 3 rfl) ?_
  refine lv_iload_n hx hb dL_law_1317 rfl (lv_at hl 0 rfl) ?_
  refine lv_iconst (v := 2) hx hb dL_law_1318 (by decide +kernel) ?_
  refine lv_iadd hx hb dL_law_1319 ?_
  refine va_sld (s := s.setDrawn d0) hx hb hX hbl hbA hS (lw_in (j := (2 : Int32)) (J := 2) (by decide +kernel) (by decide) (by decide) hi0 hiL hLn) dL_law_1320 ?_
  refine lv_aload_n hx hb dL_law_1321 rfl (lv_at hl 3 rfl) ?_
  refine lv_iload_n hx hb dL_law_1322 rfl (lv_at hl 0 rfl) ?_
  refine lv_iconst (v := 3) hx hb dL_law_1323 (by decide +kernel) ?_
  refine lv_iadd hx hb dL_law_1324 ?_
  refine va_sld (s := s.setDrawn d0) hx hb hX hbl hbA hS (lw_in (j := (3 : Int32)) (J := 3) (by decide +kernel) (by decide) (by decide) hi0 hiL hLn) dL_law_1325 ?_
  refine ro_i (va_runV (As := [.int (xs (i + 1).toNatClampNeg), .int (xs (i + 2).toNatClampNeg), .int (xs (i + 3).toNatClampNeg)]) (rest := []) ⟨hx, hb, hml, hown, hts⟩ (s_X6_gap l dC dI cs L K G Q hQ x0 m0 tx (tm, B) H.size I J hI x0 hx0 hI.2.1.1 (xs (i + 1).toNatClampNeg) (xs (i + 2).toNatClampNeg) (xs (i + 3).toNatClampNeg)) (cwV 3 hts (gV pq1036 pq1037 pq1038 pq74 pq1039) rfl rfl rfl (by decide +kernel) ⟨(Nat.le_of_ble_eq_true rfl), (Nat.le_of_ble_eq_true rfl)⟩) (sP_V hP hD hK hN hx0 hI.2.1.1 rfl rfl) rfl rfl hl.1 rfl (lv_room (Nat.le_of_ble_eq_true rfl)) dL_law_1326 ⟨(show nc + 0 ≤ room_1.cells from (show nc + 0 ≤ 600000 from by omega)), (show ns + 0 ≤ room_1.slots from (show ns + 0 ≤ 7302249 from by omega))⟩) hS hP (fun r1 H lo hr1 hP hS => ?_)
  have hk1 := hr1 σ hC
  refine lv_pop hx hb dL_law_1329 rfl ?_
  refine lv_aload_n hx hb dL_law_1330 rfl (lv_at hl 1 rfl) ?_
  refine lv_aload_n hx hb dL_law_1331 rfl (lv_at hl 3 rfl) ?_
  refine lv_iload_n hx hb dL_law_1332 rfl (lv_at hl 0 rfl) ?_
  refine lv_iconst (v := 1) hx hb dL_law_1333 (by decide +kernel) ?_
  refine lv_iadd hx hb dL_law_1334 ?_
  refine va_sld (s := s.setDrawn d0) hx hb hX hbl hbA hS (lw_in (j := (1 : Int32)) (J := 1) (by decide +kernel) (by decide) (by decide) hi0 hiL hLn) dL_law_1335 ?_
  refine lv_aload_n hx hb dL_law_1336 rfl (lv_at hl 3 rfl) ?_
  refine lv_iload_n hx hb dL_law_1337 rfl (lv_at hl 0 rfl) ?_
  refine lv_iconst (v := 2) hx hb dL_law_1338 (by decide +kernel) ?_
  refine lv_iadd hx hb dL_law_1339 ?_
  refine va_sld (s := s.setDrawn d0) hx hb hX hbl hbA hS (lw_in (j := (2 : Int32)) (J := 2) (by decide +kernel) (by decide) (by decide) hi0 hiL hLn) dL_law_1340 ?_
  refine lv_aload_n hx hb dL_law_1341 rfl (lv_at hl 3 rfl) ?_
  refine lv_iload_n hx hb dL_law_1342 rfl (lv_at hl 0 rfl) ?_
  refine lv_iconst (v := 3) hx hb dL_law_1343 (by decide +kernel) ?_
  refine lv_iadd hx hb dL_law_1344 ?_
  refine va_sld (s := s.setDrawn d0) hx hb hX hbl hbA hS (lw_in (j := (3 : Int32)) (J := 3) (by decide +kernel) (by decide) (by decide) hi0 hiL hLn) dL_law_1345 ?_
  refine sw_i (va_runV (As := [.int (xs (i + 1).toNatClampNeg), .int (xs (i + 2).toNatClampNeg), .int (xs (i + 3).toNatClampNeg)]) (rest := []) ⟨hx, hb, hml, hown, hts⟩ (s_X7_gap l dC dI cs L K G Q hQ x0 m0 tx (tm, B) H.size I J hI m0 hm0 hI.2.1.2 (xs (i + 1).toNatClampNeg) (xs (i + 2).toNatClampNeg) (xs (i + 3).toNatClampNeg)) (cwV 3 hts (gV pq1625 pq1626 pq1627 pq81 pq1628) rfl rfl rfl (by decide +kernel) ⟨(Nat.le_of_ble_eq_true rfl), (Nat.le_of_ble_eq_true rfl)⟩) (sP_V hP hD hK hN hm0 hI.2.1.2 rfl rfl) rfl rfl hl.1 rfl (lv_room (Nat.le_of_ble_eq_true rfl)) dL_law_1346 ⟨(show nc + 0 ≤ room_1.cells from (show nc + 0 ≤ 600000 from by omega)), (show ns + 0 ≤ room_1.slots from (show ns + 0 ≤ 7302249 from by omega))⟩) hS hAL hA (fun r2 I2 J2 H lo hr2 hI2 hP hS => ?_)
  obtain ⟨hIn2, sm2, jz2, dj2⟩ := hI2
  have hk2 := hr2 σ hok hM
  have hM := jz2 σ hM
  have hC := cxA_w hQ hx0 hI.2.1.1 hC (fun b _ => congrFun sm2 b) (fun b hb => dj2 b (by omega))
  have hIold := hI
  have hI := hIn2
  have heq : r1 = r2 := ga_uni hk1 hk2
  refine lv_pop hx hb dL_law_1349 rfl ?_
  refine lv_goto (tgt := 1947) hx hb dL_law_1350 (by decide) ?_
  exact kk _ _ _ _ _ _ ⟨L, K, G, Q, I2, J2, tx, tm, B, _, hQ, hI, hx0, hm0, by omega, hT, hC, hM, hD, hAL, hP, hS, hl, hd0, by omega, by omega⟩

set_option maxHeartbeats 4000000 in
set_option maxRecDepth 100000 in
theorem s_lwcase33 {p : Program} {e : Env} {s : State} {m : MethodId} {below : List Frame} {meth : Method} {c : Code} (l : Launch) {b Ln : Nat} {xs : Nat → Int32} {dC : Nat → ClassId} {dI : Nat → Nat → Nat} {cs : Nat → ClassId} {x0 m0 : Nat} (C0 : lw_At p s m meth c b Ln xs) (hLn : Ln ≤ 3072) (hK : va_K (dC, dI) vwCl (tysA cs) s) (hXs : xS (fun q : Nat => s.heap.size ≤ q) s s.heap) (i : Int32) (n : Nat) (hn : n < 512) (hi : i.toInt = 6 * (n : Int)) (hiL : i.toInt + 5 < (Ln : Int)) {d0 : Drawn} {H : Heap} {lo : List Loc} {ls : Array Slot} {nc ns : Nat} (h : lwI dC dI cs x0 m0 b s i n d0 H lo ls nc ns) (kk : ∀ (d0 : Drawn) (H : Heap) (lo : List Loc) (ls : Array Slot) (nc ns : Nat), lwI dC dI cs x0 m0 b s i (n + 1) d0 H lo ls nc ns → W p l e room_1 (s.setDrawn d0) m #[Value.ref b] below meth c H lo nc ns (lw_Z below #[Value.ref b] s) (F0 m 1947 ls [])) : W p l e room_1 (s.setDrawn d0) m #[Value.ref b] below meth c H lo nc ns (lw_Z below #[Value.ref b] s) (F0 m 1353 ls []) := by
  obtain ⟨hx, hb, hr, hml, hown, htl, hX, hbl, hlocks, hgv⟩ := id C0
  have hb : c.code = cL_law := hb
  have hown : s.vm.findClass RL = some m.cls := hown
  have hts0 : ∀ w ∈ pw, w.before #[Value.ref b] s = true := fun w h => htl w (pw_tbl h)
  have hts := dr_words hts0 d0
  have hN : xN s := xN_of htl
  have hA : ∀ q : Nat, s.heap.size ≤ q → (fun q : Nat => s.heap.size ≤ q) q := fun _ h => h
  have hbA : ¬ (fun q : Nat => s.heap.size ≤ q) b := Nat.not_le.mpr hbl
  obtain ⟨L, K, G, Q, I, J, tx, tm, B, σ, hQ, hI, hx0, hm0, hB, hT, hC, hM, hD, hAL, hP, hS, hl, hd0, hnc, hns⟩ := h
  have hi0 : 0 ≤ i.toInt := by omega
  have hok : okF σ.1 := hC.1.1.1
  refine lv_aload_n hx hb dL_law_1353 rfl (lv_at hl 2 rfl) ?_
  refine lv_aload_n hx hb dL_law_1354 rfl (lv_at hl 3 rfl) ?_
  refine lv_iload_n hx hb dL_law_1355 rfl (lv_at hl 0 rfl) ?_
  refine lv_iconst (v := 1) hx hb dL_law_1356 (by decide +kernel) ?_
  refine lv_iadd hx hb dL_law_1357 ?_
  refine va_sld (s := s.setDrawn d0) hx hb hX hbl hbA hS (lw_in (j := (1 : Int32)) (J := 1) (by decide +kernel) (by decide) (by decide) hi0 hiL hLn) dL_law_1358 ?_
  refine lv_aload_n hx hb dL_law_1359 rfl (lv_at hl 3 rfl) ?_
  refine lv_iload_n hx hb dL_law_1360 rfl (lv_at hl 0 rfl) ?_
  refine lv_iconst (v := 2) hx hb dL_law_1361 (by decide +kernel) ?_
  refine lv_iadd hx hb dL_law_1362 ?_
  refine va_sld (s := s.setDrawn d0) hx hb hX hbl hbA hS (lw_in (j := (2 : Int32)) (J := 2) (by decide +kernel) (by decide) (by decide) hi0 hiL hLn) dL_law_1363 ?_
  refine lv_aload_n hx hb dL_law_1364 rfl (lv_at hl 3 rfl) ?_
  refine lv_iload_n hx hb dL_law_1365 rfl (lv_at hl 0 rfl) ?_
  refine lv_iconst (v := 3) hx hb dL_law_1366 (by decide +kernel) ?_
  refine lv_iadd hx hb dL_law_1367 ?_
  refine va_sld (s := s.setDrawn d0) hx hb hX hbl hbA hS (lw_in (j := (3 : Int32)) (J := 3) (by decide +kernel) (by decide) (by decide) hi0 hiL hLn) dL_law_1368 ?_
  refine sw_i (va_runV (As := [.int (xs (i + 1).toNatClampNeg), .int (xs (i + 2).toNatClampNeg), .int (xs (i + 3).toNatClampNeg)]) (rest := []) ⟨hx, hb, hml, hown, hts⟩ (s_X6_apart l dC dI cs L K G Q hQ x0 m0 tx (tm, B) H.size I J hI x0 hx0 hI.2.1.1 (xs (i + 1).toNatClampNeg) (xs (i + 2).toNatClampNeg) (xs (i + 3).toNatClampNeg)) (cwV 3 hts (gV pq1040 pq1041 pq1042 pq74 pq1043) rfl rfl rfl (by decide +kernel) ⟨(Nat.le_of_ble_eq_true rfl), (Nat.le_of_ble_eq_true rfl)⟩) (sP_V hP hD hK hN hx0 hI.2.1.1 rfl rfl) rfl rfl hl.1 rfl (lv_room (Nat.le_of_ble_eq_true rfl)) dL_law_1369 ⟨(show nc + 0 ≤ room_1.cells from (show nc + 0 ≤ 600000 from by omega)), (show ns + 0 ≤ room_1.slots from (show ns + 0 ≤ 7302249 from by omega))⟩) hS hAL hA (fun r1 I1 J1 H lo hr1 hI1 hP hS => ?_)
  obtain ⟨hIn1, fr1, dnc1, jz1, dj1⟩ := hI1
  have hk1 := hr1 σ hC
  have hC := jz1 σ hC
  have hM := cmA_w hQ hm0 hI.2.1.2 hM dnc1 (fun b _ => congrFun dj1 b)
  have hIold := hI
  have hI := hIn1
  refine lv_pop hx hb dL_law_1372 rfl ?_
  refine lv_aload_n hx hb dL_law_1373 rfl (lv_at hl 1 rfl) ?_
  refine lv_aload_n hx hb dL_law_1374 rfl (lv_at hl 3 rfl) ?_
  refine lv_iload_n hx hb dL_law_1375 rfl (lv_at hl 0 rfl) ?_
  refine lv_iconst (v := 1) hx hb dL_law_1376 (by decide +kernel) ?_
  refine lv_iadd hx hb dL_law_1377 ?_
  refine va_sld (s := s.setDrawn d0) hx hb hX hbl hbA hS (lw_in (j := (1 : Int32)) (J := 1) (by decide +kernel) (by decide) (by decide) hi0 hiL hLn) dL_law_1378 ?_
  refine lv_aload_n hx hb dL_law_1379 rfl (lv_at hl 3 rfl) ?_
  refine lv_iload_n hx hb dL_law_1380 rfl (lv_at hl 0 rfl) ?_
  refine lv_iconst (v := 2) hx hb dL_law_1381 (by decide +kernel) ?_
  refine lv_iadd hx hb dL_law_1382 ?_
  refine va_sld (s := s.setDrawn d0) hx hb hX hbl hbA hS (lw_in (j := (2 : Int32)) (J := 2) (by decide +kernel) (by decide) (by decide) hi0 hiL hLn) dL_law_1383 ?_
  refine lv_aload_n hx hb dL_law_1384 rfl (lv_at hl 3 rfl) ?_
  refine lv_iload_n hx hb dL_law_1385 rfl (lv_at hl 0 rfl) ?_
  refine lv_iconst (v := 3) hx hb dL_law_1386 (by decide +kernel) ?_
  refine lv_iadd hx hb dL_law_1387 ?_
  refine va_sld (s := s.setDrawn d0) hx hb hX hbl hbA hS (lw_in (j := (3 : Int32)) (J := 3) (by decide +kernel) (by decide) (by decide) hi0 hiL hLn) dL_law_1388 ?_
  refine sw_i (va_runV (As := [.int (xs (i + 1).toNatClampNeg), .int (xs (i + 2).toNatClampNeg), .int (xs (i + 3).toNatClampNeg)]) (rest := []) ⟨hx, hb, hml, hown, hts⟩ (s_X7_apart l dC dI cs L K G Q hQ x0 m0 tx (tm, B) H.size I1 J1 hI m0 hm0 hI.2.1.2 (xs (i + 1).toNatClampNeg) (xs (i + 2).toNatClampNeg) (xs (i + 3).toNatClampNeg)) (cwV 3 hts (gV pq1629 pq1630 pq1631 pq81 pq1632) rfl rfl rfl (by decide +kernel) ⟨(Nat.le_of_ble_eq_true rfl), (Nat.le_of_ble_eq_true rfl)⟩) (sP_V hP hD hK hN hm0 hI.2.1.2 rfl rfl) rfl rfl hl.1 rfl (lv_room (Nat.le_of_ble_eq_true rfl)) dL_law_1389 ⟨(show nc + 0 ≤ room_1.cells from (show nc + 0 ≤ 600000 from by omega)), (show ns + 0 ≤ room_1.slots from (show ns + 0 ≤ 7302249 from by omega))⟩) hS hAL hA (fun r2 I2 J2 H lo hr2 hI2 hP hS => ?_)
  obtain ⟨hIn2, sm2, jz2, dj2⟩ := hI2
  have hk2 := hr2 σ hok hM
  have hM := jz2 σ hM
  have hC := cxA_w hQ hx0 hI.2.1.1 hC (fun b _ => congrFun sm2 b) (fun b hb => dj2 b (by omega))
  have hIold := hI
  have hI := hIn2
  have heq : r1 = r2 := ap_uni hk1 hk2
  refine lv_pop hx hb dL_law_1392 rfl ?_
  refine lv_goto (tgt := 1947) hx hb dL_law_1393 (by decide) ?_
  exact kk _ _ _ _ _ _ ⟨L, K, G, Q, I2, J2, tx, tm, B, _, hQ, hI, hx0, hm0, by omega, hT, hC, hM, hD, hAL, hP, hS, hl, hd0, by omega, by omega⟩

set_option maxHeartbeats 4000000 in
set_option maxRecDepth 100000 in
theorem s_lwcase34 {p : Program} {e : Env} {s : State} {m : MethodId} {below : List Frame} {meth : Method} {c : Code} (l : Launch) {b Ln : Nat} {xs : Nat → Int32} {dC : Nat → ClassId} {dI : Nat → Nat → Nat} {cs : Nat → ClassId} {x0 m0 : Nat} (C0 : lw_At p s m meth c b Ln xs) (hLn : Ln ≤ 3072) (hK : va_K (dC, dI) vwCl (tysA cs) s) (hXs : xS (fun q : Nat => s.heap.size ≤ q) s s.heap) (i : Int32) (n : Nat) (hn : n < 512) (hi : i.toInt = 6 * (n : Int)) (hiL : i.toInt + 5 < (Ln : Int)) {d0 : Drawn} {H : Heap} {lo : List Loc} {ls : Array Slot} {nc ns : Nat} (h : lwI dC dI cs x0 m0 b s i n d0 H lo ls nc ns) (kk : ∀ (d0 : Drawn) (H : Heap) (lo : List Loc) (ls : Array Slot) (nc ns : Nat), lwI dC dI cs x0 m0 b s i (n + 1) d0 H lo ls nc ns → W p l e room_1 (s.setDrawn d0) m #[Value.ref b] below meth c H lo nc ns (lw_Z below #[Value.ref b] s) (F0 m 1947 ls [])) : W p l e room_1 (s.setDrawn d0) m #[Value.ref b] below meth c H lo nc ns (lw_Z below #[Value.ref b] s) (F0 m 1396 ls []) := by
  obtain ⟨hx, hb, hr, hml, hown, htl, hX, hbl, hlocks, hgv⟩ := id C0
  have hb : c.code = cL_law := hb
  have hown : s.vm.findClass RL = some m.cls := hown
  have hts0 : ∀ w ∈ pw, w.before #[Value.ref b] s = true := fun w h => htl w (pw_tbl h)
  have hts := dr_words hts0 d0
  have hN : xN s := xN_of htl
  have hA : ∀ q : Nat, s.heap.size ≤ q → (fun q : Nat => s.heap.size ≤ q) q := fun _ h => h
  have hbA : ¬ (fun q : Nat => s.heap.size ≤ q) b := Nat.not_le.mpr hbl
  obtain ⟨L, K, G, Q, I, J, tx, tm, B, σ, hQ, hI, hx0, hm0, hB, hT, hC, hM, hD, hAL, hP, hS, hl, hd0, hnc, hns⟩ := h
  have hi0 : 0 ≤ i.toInt := by omega
  have hok : okF σ.1 := hC.1.1.1
  refine lv_aload_n hx hb dL_law_1396 rfl (lv_at hl 2 rfl) ?_
  refine lv_aload_n hx hb dL_law_1397 rfl (lv_at hl 3 rfl) ?_
  refine lv_iload_n hx hb dL_law_1398 rfl (lv_at hl 0 rfl) ?_
  refine lv_iconst (v := 1) hx hb dL_law_1399 (by decide +kernel) ?_
  refine lv_iadd hx hb dL_law_1400 ?_
  refine va_sld (s := s.setDrawn d0) hx hb hX hbl hbA hS (lw_in (j := (1 : Int32)) (J := 1) (by decide +kernel) (by decide) (by decide) hi0 hiL hLn) dL_law_1401 ?_
  refine lv_aload_n hx hb dL_law_1402 rfl (lv_at hl 3 rfl) ?_
  refine lv_iload_n hx hb dL_law_1403 rfl (lv_at hl 0 rfl) ?_
  refine lv_iconst (v := 2) hx hb dL_law_1404 (by decide +kernel) ?_
  refine lv_iadd hx hb dL_law_1405 ?_
  refine va_sld (s := s.setDrawn d0) hx hb hX hbl hbA hS (lw_in (j := (2 : Int32)) (J := 2) (by decide +kernel) (by decide) (by decide) hi0 hiL hLn) dL_law_1406 ?_
  refine lv_aload_n hx hb dL_law_1407 rfl (lv_at hl 3 rfl) ?_
  refine lv_iload_n hx hb dL_law_1408 rfl (lv_at hl 0 rfl) ?_
  refine lv_iconst (v := 3) hx hb dL_law_1409 (by decide +kernel) ?_
  refine lv_iadd hx hb dL_law_1410 ?_
  refine va_sld (s := s.setDrawn d0) hx hb hX hbl hbA hS (lw_in (j := (3 : Int32)) (J := 3) (by decide +kernel) (by decide) (by decide) hi0 hiL hLn) dL_law_1411 ?_
  refine sw_i (va_runV (As := [.int (xs (i + 1).toNatClampNeg), .int (xs (i + 2).toNatClampNeg), .int (xs (i + 3).toNatClampNeg)]) (rest := []) ⟨hx, hb, hml, hown, hts⟩ (s_X6_best l dC dI cs L K G Q hQ x0 m0 tx (tm, B) H.size I J hI x0 hx0 hI.2.1.1 (xs (i + 1).toNatClampNeg) (xs (i + 2).toNatClampNeg) (xs (i + 3).toNatClampNeg)) (cwV 3 hts (gV pq1049 pq1050 pq1051 pq74 pq1052) rfl rfl rfl (by decide +kernel) ⟨(Nat.le_of_ble_eq_true rfl), (Nat.le_of_ble_eq_true rfl)⟩) (sP_V hP hD hK hN hx0 hI.2.1.1 rfl rfl) rfl rfl hl.1 rfl (lv_room (Nat.le_of_ble_eq_true rfl)) dL_law_1412 ⟨(show nc + 0 ≤ room_1.cells from (show nc + 0 ≤ 600000 from by omega)), (show ns + 0 ≤ room_1.slots from (show ns + 0 ≤ 7302249 from by omega))⟩) hS hAL hA (fun r1 I1 J1 H lo hr1 hI1 hP hS => ?_)
  obtain ⟨hIn1, fr1, dnc1, jz1, dj1⟩ := hI1
  have hk1 := hr1 σ hC
  have hC := jz1 σ hC
  have hM := cmA_w hQ hm0 hI.2.1.2 hM dnc1 (fun b _ => congrFun dj1 b)
  have hIold := hI
  have hI := hIn1
  refine lv_pop hx hb dL_law_1415 rfl ?_
  refine lv_aload_n hx hb dL_law_1416 rfl (lv_at hl 1 rfl) ?_
  refine lv_aload_n hx hb dL_law_1417 rfl (lv_at hl 3 rfl) ?_
  refine lv_iload_n hx hb dL_law_1418 rfl (lv_at hl 0 rfl) ?_
  refine lv_iconst (v := 1) hx hb dL_law_1419 (by decide +kernel) ?_
  refine lv_iadd hx hb dL_law_1420 ?_
  refine va_sld (s := s.setDrawn d0) hx hb hX hbl hbA hS (lw_in (j := (1 : Int32)) (J := 1) (by decide +kernel) (by decide) (by decide) hi0 hiL hLn) dL_law_1421 ?_
  refine lv_aload_n hx hb dL_law_1422 rfl (lv_at hl 3 rfl) ?_
  refine lv_iload_n hx hb dL_law_1423 rfl (lv_at hl 0 rfl) ?_
  refine lv_iconst (v := 2) hx hb dL_law_1424 (by decide +kernel) ?_
  refine lv_iadd hx hb dL_law_1425 ?_
  refine va_sld (s := s.setDrawn d0) hx hb hX hbl hbA hS (lw_in (j := (2 : Int32)) (J := 2) (by decide +kernel) (by decide) (by decide) hi0 hiL hLn) dL_law_1426 ?_
  refine lv_aload_n hx hb dL_law_1427 rfl (lv_at hl 3 rfl) ?_
  refine lv_iload_n hx hb dL_law_1428 rfl (lv_at hl 0 rfl) ?_
  refine lv_iconst (v := 3) hx hb dL_law_1429 (by decide +kernel) ?_
  refine lv_iadd hx hb dL_law_1430 ?_
  refine va_sld (s := s.setDrawn d0) hx hb hX hbl hbA hS (lw_in (j := (3 : Int32)) (J := 3) (by decide +kernel) (by decide) (by decide) hi0 hiL hLn) dL_law_1431 ?_
  refine sw_i (va_runV (As := [.int (xs (i + 1).toNatClampNeg), .int (xs (i + 2).toNatClampNeg), .int (xs (i + 3).toNatClampNeg)]) (rest := []) ⟨hx, hb, hml, hown, hts⟩ (s_X7_best l dC dI cs L K G Q hQ x0 m0 tx (tm, B) H.size I1 J1 hI m0 hm0 hI.2.1.2 (xs (i + 1).toNatClampNeg) (xs (i + 2).toNatClampNeg) (xs (i + 3).toNatClampNeg)) (cwV 3 hts (gV pq1633 pq1634 pq1635 pq81 pq1636) rfl rfl rfl (by decide +kernel) ⟨(Nat.le_of_ble_eq_true rfl), (Nat.le_of_ble_eq_true rfl)⟩) (sP_V hP hD hK hN hm0 hI.2.1.2 rfl rfl) rfl rfl hl.1 rfl (lv_room (Nat.le_of_ble_eq_true rfl)) dL_law_1432 ⟨(show nc + 0 ≤ room_1.cells from (show nc + 0 ≤ 600000 from by omega)), (show ns + 0 ≤ room_1.slots from (show ns + 0 ≤ 7302249 from by omega))⟩) hS hAL hA (fun r2 I2 J2 H lo hr2 hI2 hP hS => ?_)
  obtain ⟨hIn2, sm2, jz2, dj2⟩ := hI2
  have hk2 := hr2 σ hok hM
  have hM := jz2 σ hM
  have hC := cxA_w hQ hx0 hI.2.1.1 hC (fun b _ => congrFun sm2 b) (fun b hb => dj2 b (by omega))
  have hIold := hI
  have hI := hIn2
  have heq : r1 = r2 := bsr_uni hk1 hk2
  refine lv_pop hx hb dL_law_1435 rfl ?_
  refine lv_goto (tgt := 1947) hx hb dL_law_1436 (by decide) ?_
  exact kk _ _ _ _ _ _ ⟨L, K, G, Q, I2, J2, tx, tm, B, _, hQ, hI, hx0, hm0, by omega, hT, hC, hM, hD, hAL, hP, hS, hl, hd0, by omega, by omega⟩

set_option maxHeartbeats 4000000 in
set_option maxRecDepth 100000 in
theorem s_lwcase35 {p : Program} {e : Env} {s : State} {m : MethodId} {below : List Frame} {meth : Method} {c : Code} (l : Launch) {b Ln : Nat} {xs : Nat → Int32} {dC : Nat → ClassId} {dI : Nat → Nat → Nat} {cs : Nat → ClassId} {x0 m0 : Nat} (C0 : lw_At p s m meth c b Ln xs) (hLn : Ln ≤ 3072) (hK : va_K (dC, dI) vwCl (tysA cs) s) (hXs : xS (fun q : Nat => s.heap.size ≤ q) s s.heap) (i : Int32) (n : Nat) (hn : n < 512) (hi : i.toInt = 6 * (n : Int)) (hiL : i.toInt + 5 < (Ln : Int)) {d0 : Drawn} {H : Heap} {lo : List Loc} {ls : Array Slot} {nc ns : Nat} (h : lwI dC dI cs x0 m0 b s i n d0 H lo ls nc ns) (kk : ∀ (d0 : Drawn) (H : Heap) (lo : List Loc) (ls : Array Slot) (nc ns : Nat), lwI dC dI cs x0 m0 b s i (n + 1) d0 H lo ls nc ns → W p l e room_1 (s.setDrawn d0) m #[Value.ref b] below meth c H lo nc ns (lw_Z below #[Value.ref b] s) (F0 m 1947 ls [])) : W p l e room_1 (s.setDrawn d0) m #[Value.ref b] below meth c H lo nc ns (lw_Z below #[Value.ref b] s) (F0 m 1439 ls []) := by
  obtain ⟨hx, hb, hr, hml, hown, htl, hX, hbl, hlocks, hgv⟩ := id C0
  have hb : c.code = cL_law := hb
  have hown : s.vm.findClass RL = some m.cls := hown
  have hts0 : ∀ w ∈ pw, w.before #[Value.ref b] s = true := fun w h => htl w (pw_tbl h)
  have hts := dr_words hts0 d0
  have hN : xN s := xN_of htl
  have hA : ∀ q : Nat, s.heap.size ≤ q → (fun q : Nat => s.heap.size ≤ q) q := fun _ h => h
  have hbA : ¬ (fun q : Nat => s.heap.size ≤ q) b := Nat.not_le.mpr hbl
  obtain ⟨L, K, G, Q, I, J, tx, tm, B, σ, hQ, hI, hx0, hm0, hB, hT, hC, hM, hD, hAL, hP, hS, hl, hd0, hnc, hns⟩ := h
  have hi0 : 0 ≤ i.toInt := by omega
  have hok : okF σ.1 := hC.1.1.1
  refine lv_aload_n hx hb dL_law_1439 rfl (lv_at hl 2 rfl) ?_
  refine lv_aload_n hx hb dL_law_1440 rfl (lv_at hl 3 rfl) ?_
  refine lv_iload_n hx hb dL_law_1441 rfl (lv_at hl 0 rfl) ?_
  refine lv_iconst (v := 1) hx hb dL_law_1442 (by decide +kernel) ?_
  refine lv_iadd hx hb dL_law_1443 ?_
  refine va_sld (s := s.setDrawn d0) hx hb hX hbl hbA hS (lw_in (j := (1 : Int32)) (J := 1) (by decide +kernel) (by decide) (by decide) hi0 hiL hLn) dL_law_1444 ?_
  refine lv_aload_n hx hb dL_law_1445 rfl (lv_at hl 3 rfl) ?_
  refine lv_iload_n hx hb dL_law_1446 rfl (lv_at hl 0 rfl) ?_
  refine lv_iconst (v := 2) hx hb dL_law_1447 (by decide +kernel) ?_
  refine lv_iadd hx hb dL_law_1448 ?_
  refine va_sld (s := s.setDrawn d0) hx hb hX hbl hbA hS (lw_in (j := (2 : Int32)) (J := 2) (by decide +kernel) (by decide) (by decide) hi0 hiL hLn) dL_law_1449 ?_
  refine lv_aload_n hx hb dL_law_1450 rfl (lv_at hl 3 rfl) ?_
  refine lv_iload_n hx hb dL_law_1451 rfl (lv_at hl 0 rfl) ?_
  refine lv_iconst (v := 3) hx hb dL_law_1452 (by decide +kernel) ?_
  refine lv_iadd hx hb dL_law_1453 ?_
  refine va_sld (s := s.setDrawn d0) hx hb hX hbl hbA hS (lw_in (j := (3 : Int32)) (J := 3) (by decide +kernel) (by decide) (by decide) hi0 hiL hLn) dL_law_1454 ?_
  refine ro_i (va_runV (As := [.int (xs (i + 1).toNatClampNeg), .int (xs (i + 2).toNatClampNeg), .int (xs (i + 3).toNatClampNeg)]) (rest := []) ⟨hx, hb, hml, hown, hts⟩ (s_X6_slope l dC dI cs L K G Q hQ x0 m0 tx (tm, B) H.size I J hI x0 hx0 hI.2.1.1 (xs (i + 1).toNatClampNeg) (xs (i + 2).toNatClampNeg) (xs (i + 3).toNatClampNeg)) (cwV 3 hts (gV pq1064 pq1065 pq1066 pq74 pq1067) rfl rfl rfl (by decide +kernel) ⟨(Nat.le_of_ble_eq_true rfl), (Nat.le_of_ble_eq_true rfl)⟩) (sP_V hP hD hK hN hx0 hI.2.1.1 rfl rfl) rfl rfl hl.1 rfl (lv_room (Nat.le_of_ble_eq_true rfl)) dL_law_1455 ⟨(show nc + 0 ≤ room_1.cells from (show nc + 0 ≤ 600000 from by omega)), (show ns + 0 ≤ room_1.slots from (show ns + 0 ≤ 7302249 from by omega))⟩) hS hP (fun r1 H lo hr1 hP hS => ?_)
  have hk1 := hr1 σ hC
  refine lv_pop hx hb dL_law_1458 rfl ?_
  refine lv_aload_n hx hb dL_law_1459 rfl (lv_at hl 1 rfl) ?_
  refine lv_aload_n hx hb dL_law_1460 rfl (lv_at hl 3 rfl) ?_
  refine lv_iload_n hx hb dL_law_1461 rfl (lv_at hl 0 rfl) ?_
  refine lv_iconst (v := 1) hx hb dL_law_1462 (by decide +kernel) ?_
  refine lv_iadd hx hb dL_law_1463 ?_
  refine va_sld (s := s.setDrawn d0) hx hb hX hbl hbA hS (lw_in (j := (1 : Int32)) (J := 1) (by decide +kernel) (by decide) (by decide) hi0 hiL hLn) dL_law_1464 ?_
  refine lv_aload_n hx hb dL_law_1465 rfl (lv_at hl 3 rfl) ?_
  refine lv_iload_n hx hb dL_law_1466 rfl (lv_at hl 0 rfl) ?_
  refine lv_iconst (v := 2) hx hb dL_law_1467 (by decide +kernel) ?_
  refine lv_iadd hx hb dL_law_1468 ?_
  refine va_sld (s := s.setDrawn d0) hx hb hX hbl hbA hS (lw_in (j := (2 : Int32)) (J := 2) (by decide +kernel) (by decide) (by decide) hi0 hiL hLn) dL_law_1469 ?_
  refine lv_aload_n hx hb dL_law_1470 rfl (lv_at hl 3 rfl) ?_
  refine lv_iload_n hx hb dL_law_1471 rfl (lv_at hl 0 rfl) ?_
  refine lv_iconst (v := 3) hx hb dL_law_1472 (by decide +kernel) ?_
  refine lv_iadd hx hb dL_law_1473 ?_
  refine va_sld (s := s.setDrawn d0) hx hb hX hbl hbA hS (lw_in (j := (3 : Int32)) (J := 3) (by decide +kernel) (by decide) (by decide) hi0 hiL hLn) dL_law_1474 ?_
  refine sw_i (va_runV (As := [.int (xs (i + 1).toNatClampNeg), .int (xs (i + 2).toNatClampNeg), .int (xs (i + 3).toNatClampNeg)]) (rest := []) ⟨hx, hb, hml, hown, hts⟩ (s_X7_slope l dC dI cs L K G Q hQ x0 m0 tx (tm, B) H.size I J hI m0 hm0 hI.2.1.2 (xs (i + 1).toNatClampNeg) (xs (i + 2).toNatClampNeg) (xs (i + 3).toNatClampNeg)) (cwV 3 hts (gV pq1637 pq1638 pq1639 pq81 pq1640) rfl rfl rfl (by decide +kernel) ⟨(Nat.le_of_ble_eq_true rfl), (Nat.le_of_ble_eq_true rfl)⟩) (sP_V hP hD hK hN hm0 hI.2.1.2 rfl rfl) rfl rfl hl.1 rfl (lv_room (Nat.le_of_ble_eq_true rfl)) dL_law_1475 ⟨(show nc + 0 ≤ room_1.cells from (show nc + 0 ≤ 600000 from by omega)), (show ns + 0 ≤ room_1.slots from (show ns + 0 ≤ 7302249 from by omega))⟩) hS hAL hA (fun r2 I2 J2 H lo hr2 hI2 hP hS => ?_)
  obtain ⟨hIn2, sm2, jz2, dj2⟩ := hI2
  have hk2 := hr2 σ hok hM
  have hM := jz2 σ hM
  have hC := cxA_w hQ hx0 hI.2.1.1 hC (fun b _ => congrFun sm2 b) (fun b hb => dj2 b (by omega))
  have hIold := hI
  have hI := hIn2
  have heq : r1 = r2 := Int32.toInt_inj.mp (hk1.trans hk2.symm)
  refine lv_pop hx hb dL_law_1478 rfl ?_
  refine lv_goto (tgt := 1947) hx hb dL_law_1479 (by decide) ?_
  exact kk _ _ _ _ _ _ ⟨L, K, G, Q, I2, J2, tx, tm, B, _, hQ, hI, hx0, hm0, by omega, hT, hC, hM, hD, hAL, hP, hS, hl, hd0, by omega, by omega⟩

set_option maxHeartbeats 4000000 in
set_option maxRecDepth 100000 in
theorem s_lwcase36 {p : Program} {e : Env} {s : State} {m : MethodId} {below : List Frame} {meth : Method} {c : Code} (l : Launch) {b Ln : Nat} {xs : Nat → Int32} {dC : Nat → ClassId} {dI : Nat → Nat → Nat} {cs : Nat → ClassId} {x0 m0 : Nat} (C0 : lw_At p s m meth c b Ln xs) (hLn : Ln ≤ 3072) (hK : va_K (dC, dI) vwCl (tysA cs) s) (hXs : xS (fun q : Nat => s.heap.size ≤ q) s s.heap) (i : Int32) (n : Nat) (hn : n < 512) (hi : i.toInt = 6 * (n : Int)) (hiL : i.toInt + 5 < (Ln : Int)) {d0 : Drawn} {H : Heap} {lo : List Loc} {ls : Array Slot} {nc ns : Nat} (h : lwI dC dI cs x0 m0 b s i n d0 H lo ls nc ns) (kk : ∀ (d0 : Drawn) (H : Heap) (lo : List Loc) (ls : Array Slot) (nc ns : Nat), lwI dC dI cs x0 m0 b s i (n + 1) d0 H lo ls nc ns → W p l e room_1 (s.setDrawn d0) m #[Value.ref b] below meth c H lo nc ns (lw_Z below #[Value.ref b] s) (F0 m 1947 ls [])) : W p l e room_1 (s.setDrawn d0) m #[Value.ref b] below meth c H lo nc ns (lw_Z below #[Value.ref b] s) (F0 m 1482 ls []) := by
  obtain ⟨hx, hb, hr, hml, hown, htl, hX, hbl, hlocks, hgv⟩ := id C0
  have hb : c.code = cL_law := hb
  have hown : s.vm.findClass RL = some m.cls := hown
  have hts0 : ∀ w ∈ pw, w.before #[Value.ref b] s = true := fun w h => htl w (pw_tbl h)
  have hts := dr_words hts0 d0
  have hN : xN s := xN_of htl
  have hA : ∀ q : Nat, s.heap.size ≤ q → (fun q : Nat => s.heap.size ≤ q) q := fun _ h => h
  have hbA : ¬ (fun q : Nat => s.heap.size ≤ q) b := Nat.not_le.mpr hbl
  obtain ⟨L, K, G, Q, I, J, tx, tm, B, σ, hQ, hI, hx0, hm0, hB, hT, hC, hM, hD, hAL, hP, hS, hl, hd0, hnc, hns⟩ := h
  have hi0 : 0 ≤ i.toInt := by omega
  have hok : okF σ.1 := hC.1.1.1
  refine lv_aload_n hx hb dL_law_1482 rfl (lv_at hl 2 rfl) ?_
  refine lv_aload_n hx hb dL_law_1483 rfl (lv_at hl 3 rfl) ?_
  refine lv_iload_n hx hb dL_law_1484 rfl (lv_at hl 0 rfl) ?_
  refine lv_iconst (v := 1) hx hb dL_law_1485 (by decide +kernel) ?_
  refine lv_iadd hx hb dL_law_1486 ?_
  refine va_sld (s := s.setDrawn d0) hx hb hX hbl hbA hS (lw_in (j := (1 : Int32)) (J := 1) (by decide +kernel) (by decide) (by decide) hi0 hiL hLn) dL_law_1487 ?_
  refine lv_aload_n hx hb dL_law_1488 rfl (lv_at hl 3 rfl) ?_
  refine lv_iload_n hx hb dL_law_1489 rfl (lv_at hl 0 rfl) ?_
  refine lv_iconst (v := 2) hx hb dL_law_1490 (by decide +kernel) ?_
  refine lv_iadd hx hb dL_law_1491 ?_
  refine va_sld (s := s.setDrawn d0) hx hb hX hbl hbA hS (lw_in (j := (2 : Int32)) (J := 2) (by decide +kernel) (by decide) (by decide) hi0 hiL hLn) dL_law_1492 ?_
  refine lv_aload_n hx hb dL_law_1493 rfl (lv_at hl 3 rfl) ?_
  refine lv_iload_n hx hb dL_law_1494 rfl (lv_at hl 0 rfl) ?_
  refine lv_iconst (v := 3) hx hb dL_law_1495 (by decide +kernel) ?_
  refine lv_iadd hx hb dL_law_1496 ?_
  refine va_sld (s := s.setDrawn d0) hx hb hX hbl hbA hS (lw_in (j := (3 : Int32)) (J := 3) (by decide +kernel) (by decide) (by decide) hi0 hiL hLn) dL_law_1497 ?_
  refine lv_aload_n hx hb dL_law_1498 rfl (lv_at hl 3 rfl) ?_
  refine lv_iload_n hx hb dL_law_1499 rfl (lv_at hl 0 rfl) ?_
  refine lv_iconst (v := 4) hx hb dL_law_1500 (by decide +kernel) ?_
  refine lv_iadd hx hb dL_law_1501 ?_
  refine va_sld (s := s.setDrawn d0) hx hb hX hbl hbA hS (lw_in (j := (4 : Int32)) (J := 4) (by decide +kernel) (by decide) (by decide) hi0 hiL hLn) dL_law_1502 ?_
  refine ro_i (va_runV (As := [.int (xs (i + 1).toNatClampNeg), .int (xs (i + 2).toNatClampNeg), .int (xs (i + 3).toNatClampNeg), .int (xs (i + 4).toNatClampNeg)]) (rest := []) ⟨hx, hb, hml, hown, hts⟩ (s_X6_ray l dC dI cs L K G Q hQ x0 m0 tx (tm, B) H.size I J hI x0 hx0 hI.2.1.1 (xs (i + 1).toNatClampNeg) (xs (i + 2).toNatClampNeg) (xs (i + 3).toNatClampNeg) (xs (i + 4).toNatClampNeg)) (cwV 4 hts (gV pq1069 pq1070 pq1071 pq74 pq1072) rfl rfl rfl (by decide +kernel) ⟨(Nat.le_of_ble_eq_true rfl), (Nat.le_of_ble_eq_true rfl)⟩) (sP_V hP hD hK hN hx0 hI.2.1.1 rfl rfl) rfl rfl hl.1 rfl (lv_room (Nat.le_of_ble_eq_true rfl)) dL_law_1503 ⟨(show nc + 0 ≤ room_1.cells from (show nc + 0 ≤ 600000 from by omega)), (show ns + 0 ≤ room_1.slots from (show ns + 0 ≤ 7302249 from by omega))⟩) hS hP (fun r1 H lo hr1 hP hS => ?_)
  have hk1 := hr1 σ hC
  refine lv_pop hx hb dL_law_1506 rfl ?_
  refine lv_aload_n hx hb dL_law_1507 rfl (lv_at hl 1 rfl) ?_
  refine lv_aload_n hx hb dL_law_1508 rfl (lv_at hl 3 rfl) ?_
  refine lv_iload_n hx hb dL_law_1509 rfl (lv_at hl 0 rfl) ?_
  refine lv_iconst (v := 1) hx hb dL_law_1510 (by decide +kernel) ?_
  refine lv_iadd hx hb dL_law_1511 ?_
  refine va_sld (s := s.setDrawn d0) hx hb hX hbl hbA hS (lw_in (j := (1 : Int32)) (J := 1) (by decide +kernel) (by decide) (by decide) hi0 hiL hLn) dL_law_1512 ?_
  refine lv_aload_n hx hb dL_law_1513 rfl (lv_at hl 3 rfl) ?_
  refine lv_iload_n hx hb dL_law_1514 rfl (lv_at hl 0 rfl) ?_
  refine lv_iconst (v := 2) hx hb dL_law_1515 (by decide +kernel) ?_
  refine lv_iadd hx hb dL_law_1516 ?_
  refine va_sld (s := s.setDrawn d0) hx hb hX hbl hbA hS (lw_in (j := (2 : Int32)) (J := 2) (by decide +kernel) (by decide) (by decide) hi0 hiL hLn) dL_law_1517 ?_
  refine lv_aload_n hx hb dL_law_1518 rfl (lv_at hl 3 rfl) ?_
  refine lv_iload_n hx hb dL_law_1519 rfl (lv_at hl 0 rfl) ?_
  refine lv_iconst (v := 3) hx hb dL_law_1520 (by decide +kernel) ?_
  refine lv_iadd hx hb dL_law_1521 ?_
  refine va_sld (s := s.setDrawn d0) hx hb hX hbl hbA hS (lw_in (j := (3 : Int32)) (J := 3) (by decide +kernel) (by decide) (by decide) hi0 hiL hLn) dL_law_1522 ?_
  refine lv_aload_n hx hb dL_law_1523 rfl (lv_at hl 3 rfl) ?_
  refine lv_iload_n hx hb dL_law_1524 rfl (lv_at hl 0 rfl) ?_
  refine lv_iconst (v := 4) hx hb dL_law_1525 (by decide +kernel) ?_
  refine lv_iadd hx hb dL_law_1526 ?_
  refine va_sld (s := s.setDrawn d0) hx hb hX hbl hbA hS (lw_in (j := (4 : Int32)) (J := 4) (by decide +kernel) (by decide) (by decide) hi0 hiL hLn) dL_law_1527 ?_
  refine ro_i (va_runV (As := [.int (xs (i + 1).toNatClampNeg), .int (xs (i + 2).toNatClampNeg), .int (xs (i + 3).toNatClampNeg), .int (xs (i + 4).toNatClampNeg)]) (rest := []) ⟨hx, hb, hml, hown, hts⟩ (s_X7_ray l dC dI cs L K G Q hQ x0 m0 tx (tm, B) H.size I J hI m0 hm0 hI.2.1.2 (xs (i + 1).toNatClampNeg) (xs (i + 2).toNatClampNeg) (xs (i + 3).toNatClampNeg) (xs (i + 4).toNatClampNeg)) (cwV 4 hts (gV pq1642 pq1643 pq1644 pq81 pq1645) rfl rfl rfl (by decide +kernel) ⟨(Nat.le_of_ble_eq_true rfl), (Nat.le_of_ble_eq_true rfl)⟩) (sP_V hP hD hK hN hm0 hI.2.1.2 rfl rfl) rfl rfl hl.1 rfl (lv_room (Nat.le_of_ble_eq_true rfl)) dL_law_1528 ⟨(show nc + 0 ≤ room_1.cells from (show nc + 0 ≤ 600000 from by omega)), (show ns + 0 ≤ room_1.slots from (show ns + 0 ≤ 7302249 from by omega))⟩) hS hP (fun r2 H lo hr2 hP hS => ?_)
  have hk2 := hr2 σ hok hM
  have heq : r1 = r2 := ry_uni hk1 hk2
  refine lv_pop hx hb dL_law_1531 rfl ?_
  refine lv_goto (tgt := 1947) hx hb dL_law_1532 (by decide) ?_
  exact kk _ _ _ _ _ _ ⟨L, K, G, Q, I, J, tx, tm, B, _, hQ, hI, hx0, hm0, by omega, hT, hC, hM, hD, hAL, hP, hS, hl, hd0, by omega, by omega⟩
