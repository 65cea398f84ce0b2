theorem dL_1100 : decode code 1100 = .ok (.iaload, 1) := by decide +kernel
theorem dL_1101 : decode code 1101 = .ok (.invokevirtual 134, 3) := by decide +kernel
theorem dL_1104 : decode code 1104 = .ok (.if_icmp .eq 302, 3) := by decide +kernel
theorem dL_1109 : decode code 1109 = .ok (.aload_n 1, 1) := by decide +kernel
theorem dL_1110 : decode code 1110 = .ok (.aload_n 0, 1) := by decide +kernel
theorem dL_1111 : decode code 1111 = .ok (.iload_n 3, 1) := by decide +kernel
theorem dL_1112 : decode code 1112 = .ok (.iconst 1, 1) := by decide +kernel
theorem dL_1113 : decode code 1113 = .ok (.iadd, 1) := by decide +kernel
theorem dL_1114 : decode code 1114 = .ok (.iaload, 1) := by decide +kernel
theorem dL_1115 : decode code 1115 = .ok (.aload_n 0, 1) := by decide +kernel
theorem dL_1116 : decode code 1116 = .ok (.iload_n 3, 1) := by decide +kernel
theorem dL_1117 : decode code 1117 = .ok (.iconst 2, 1) := by decide +kernel
theorem dL_1118 : decode code 1118 = .ok (.iadd, 1) := by decide +kernel
theorem dL_1119 : decode code 1119 = .ok (.iaload, 1) := by decide +kernel
theorem dL_1120 : decode code 1120 = .ok (.invokevirtual 135, 3) := by decide +kernel
theorem dL_1123 : decode code 1123 = .ok (.aload_n 2, 1) := by decide +kernel
theorem dL_1124 : decode code 1124 = .ok (.aload_n 0, 1) := by decide +kernel
theorem dL_1125 : decode code 1125 = .ok (.iload_n 3, 1) := by decide +kernel
theorem dL_1126 : decode code 1126 = .ok (.iconst 1, 1) := by decide +kernel
theorem dL_1127 : decode code 1127 = .ok (.iadd, 1) := by decide +kernel
theorem dL_1128 : decode code 1128 = .ok (.iaload, 1) := by decide +kernel
theorem dL_1129 : decode code 1129 = .ok (.aload_n 0, 1) := by decide +kernel
theorem dL_1130 : decode code 1130 = .ok (.iload_n 3, 1) := by decide +kernel
theorem dL_1131 : decode code 1131 = .ok (.iconst 2, 1) := by decide +kernel
theorem dL_1132 : decode code 1132 = .ok (.iadd, 1) := by decide +kernel
theorem dL_1133 : decode code 1133 = .ok (.iaload, 1) := by decide +kernel
theorem dL_1134 : decode code 1134 = .ok (.invokevirtual 138, 3) := by decide +kernel
theorem dL_1137 : decode code 1137 = .ok (.if_icmp .eq 269, 3) := by decide +kernel
theorem dL_1142 : decode code 1142 = .ok (.aload_n 1, 1) := by decide +kernel
theorem dL_1143 : decode code 1143 = .ok (.aload_n 0, 1) := by decide +kernel
theorem dL_1144 : decode code 1144 = .ok (.iload_n 3, 1) := by decide +kernel
theorem dL_1145 : decode code 1145 = .ok (.iconst 1, 1) := by decide +kernel
theorem dL_1146 : decode code 1146 = .ok (.iadd, 1) := by decide +kernel
theorem dL_1147 : decode code 1147 = .ok (.iaload, 1) := by decide +kernel
theorem dL_1148 : decode code 1148 = .ok (.aload_n 0, 1) := by decide +kernel
theorem dL_1149 : decode code 1149 = .ok (.iload_n 3, 1) := by decide +kernel
theorem dL_1150 : decode code 1150 = .ok (.iconst 2, 1) := by decide +kernel
theorem dL_1151 : decode code 1151 = .ok (.iadd, 1) := by decide +kernel
theorem dL_1152 : decode code 1152 = .ok (.iaload, 1) := by decide +kernel
theorem dL_1153 : decode code 1153 = .ok (.aload_n 0, 1) := by decide +kernel
theorem dL_1154 : decode code 1154 = .ok (.iload_n 3, 1) := by decide +kernel
theorem dL_1155 : decode code 1155 = .ok (.iconst 3, 1) := by decide +kernel
theorem dL_1156 : decode code 1156 = .ok (.iadd, 1) := by decide +kernel
theorem dL_1157 : decode code 1157 = .ok (.iaload, 1) := by decide +kernel
theorem dL_1158 : decode code 1158 = .ok (.invokevirtual 139, 3) := by decide +kernel
theorem dL_1161 : decode code 1161 = .ok (.aload_n 2, 1) := by decide +kernel
theorem dL_1162 : decode code 1162 = .ok (.aload_n 0, 1) := by decide +kernel
theorem dL_1163 : decode code 1163 = .ok (.iload_n 3, 1) := by decide +kernel
theorem dL_1164 : decode code 1164 = .ok (.iconst 1, 1) := by decide +kernel
theorem dL_1165 : decode code 1165 = .ok (.iadd, 1) := by decide +kernel
theorem dL_1166 : decode code 1166 = .ok (.iaload, 1) := by decide +kernel
theorem dL_1167 : decode code 1167 = .ok (.aload_n 0, 1) := by decide +kernel
theorem dL_1168 : decode code 1168 = .ok (.iload_n 3, 1) := by decide +kernel
theorem dL_1169 : decode code 1169 = .ok (.iconst 2, 1) := by decide +kernel
theorem dL_1170 : decode code 1170 = .ok (.iadd, 1) := by decide +kernel
theorem dL_1171 : decode code 1171 = .ok (.iaload, 1) := by decide +kernel
theorem dL_1172 : decode code 1172 = .ok (.aload_n 0, 1) := by decide +kernel
theorem dL_1173 : decode code 1173 = .ok (.iload_n 3, 1) := by decide +kernel
theorem dL_1174 : decode code 1174 = .ok (.iconst 3, 1) := by decide +kernel
theorem dL_1175 : decode code 1175 = .ok (.iadd, 1) := by decide +kernel
theorem dL_1176 : decode code 1176 = .ok (.iaload, 1) := by decide +kernel
theorem dL_1177 : decode code 1177 = .ok (.invokevirtual 142, 3) := by decide +kernel
theorem dL_1180 : decode code 1180 = .ok (.if_icmp .eq 226, 3) := by decide +kernel
theorem dL_1185 : decode code 1185 = .ok (.aload_n 1, 1) := by decide +kernel
theorem dL_1186 : decode code 1186 = .ok (.aload_n 0, 1) := by decide +kernel
theorem dL_1187 : decode code 1187 = .ok (.iload_n 3, 1) := by decide +kernel
theorem dL_1188 : decode code 1188 = .ok (.iconst 1, 1) := by decide +kernel
theorem dL_1189 : decode code 1189 = .ok (.iadd, 1) := by decide +kernel
theorem dL_1190 : decode code 1190 = .ok (.iaload, 1) := by decide +kernel
theorem dL_1191 : decode code 1191 = .ok (.invokevirtual 143, 3) := by decide +kernel
theorem dL_1194 : decode code 1194 = .ok (.aload_n 2, 1) := by decide +kernel
theorem dL_1195 : decode code 1195 = .ok (.aload_n 0, 1) := by decide +kernel
theorem dL_1196 : decode code 1196 = .ok (.iload_n 3, 1) := by decide +kernel
theorem dL_1197 : decode code 1197 = .ok (.iconst 1, 1) := by decide +kernel
theorem dL_1198 : decode code 1198 = .ok (.iadd, 1) := by decide +kernel
theorem dL_1199 : decode code 1199 = .ok (.iaload, 1) := by decide +kernel
theorem dL_1200 : decode code 1200 = .ok (.invokevirtual 146, 3) := by decide +kernel
theorem dL_1203 : decode code 1203 = .ok (.if_icmp .eq 203, 3) := by decide +kernel
theorem dL_1208 : decode code 1208 = .ok (.aload_n 1, 1) := by decide +kernel
theorem dL_1209 : decode code 1209 = .ok (.aload_n 0, 1) := by decide +kernel
theorem dL_1210 : decode code 1210 = .ok (.iload_n 3, 1) := by decide +kernel
theorem dL_1211 : decode code 1211 = .ok (.iconst 1, 1) := by decide +kernel
theorem dL_1212 : decode code 1212 = .ok (.iadd, 1) := by decide +kernel
theorem dL_1213 : decode code 1213 = .ok (.iaload, 1) := by decide +kernel
theorem dL_1214 : decode code 1214 = .ok (.invokevirtual 147, 3) := by decide +kernel
theorem dL_1217 : decode code 1217 = .ok (.aload_n 2, 1) := by decide +kernel
theorem dL_1218 : decode code 1218 = .ok (.aload_n 0, 1) := by decide +kernel
theorem dL_1219 : decode code 1219 = .ok (.iload_n 3, 1) := by decide +kernel
theorem dL_1220 : decode code 1220 = .ok (.iconst 1, 1) := by decide +kernel
theorem dL_1221 : decode code 1221 = .ok (.iadd, 1) := by decide +kernel
theorem dL_1222 : decode code 1222 = .ok (.iaload, 1) := by decide +kernel
theorem dL_1223 : decode code 1223 = .ok (.invokevirtual 150, 3) := by decide +kernel
theorem dL_1226 : decode code 1226 = .ok (.if_icmp .eq 180, 3) := by decide +kernel
theorem dL_1231 : decode code 1231 = .ok (.aload_n 1, 1) := by decide +kernel
theorem dL_1232 : decode code 1232 = .ok (.aload_n 0, 1) := by decide +kernel
theorem dL_1233 : decode code 1233 = .ok (.iload_n 3, 1) := by decide +kernel
theorem dL_1234 : decode code 1234 = .ok (.iconst 1, 1) := by decide +kernel
theorem dL_1235 : decode code 1235 = .ok (.iadd, 1) := by decide +kernel
theorem dL_1236 : decode code 1236 = .ok (.iaload, 1) := by decide +kernel
theorem dL_1237 : decode code 1237 = .ok (.aload_n 0, 1) := by decide +kernel
theorem dL_1238 : decode code 1238 = .ok (.iload_n 3, 1) := by decide +kernel
theorem dL_1239 : decode code 1239 = .ok (.iconst 2, 1) := by decide +kernel
theorem dL_1240 : decode code 1240 = .ok (.iadd, 1) := by decide +kernel
theorem dL_1241 : decode code 1241 = .ok (.iaload, 1) := by decide +kernel
theorem dL_1242 : decode code 1242 = .ok (.aload_n 0, 1) := by decide +kernel
theorem dL_1243 : decode code 1243 = .ok (.iload_n 3, 1) := by decide +kernel
theorem dL_1244 : decode code 1244 = .ok (.iconst 3, 1) := by decide +kernel
theorem dL_1245 : decode code 1245 = .ok (.iadd, 1) := by decide +kernel
theorem dL_1246 : decode code 1246 = .ok (.iaload, 1) := by decide +kernel
theorem dL_1247 : decode code 1247 = .ok (.invokevirtual 151, 3) := by decide +kernel
theorem dL_1250 : decode code 1250 = .ok (.aload_n 2, 1) := by decide +kernel
theorem dL_1251 : decode code 1251 = .ok (.aload_n 0, 1) := by decide +kernel
theorem dL_1252 : decode code 1252 = .ok (.iload_n 3, 1) := by decide +kernel
theorem dL_1253 : decode code 1253 = .ok (.iconst 1, 1) := by decide +kernel
theorem dL_1254 : decode code 1254 = .ok (.iadd, 1) := by decide +kernel
theorem dL_1255 : decode code 1255 = .ok (.iaload, 1) := by decide +kernel
theorem dL_1256 : decode code 1256 = .ok (.aload_n 0, 1) := by decide +kernel
theorem dL_1257 : decode code 1257 = .ok (.iload_n 3, 1) := by decide +kernel
theorem dL_1258 : decode code 1258 = .ok (.iconst 2, 1) := by decide +kernel
theorem dL_1259 : decode code 1259 = .ok (.iadd, 1) := by decide +kernel
theorem dL_1260 : decode code 1260 = .ok (.iaload, 1) := by decide +kernel
theorem dL_1261 : decode code 1261 = .ok (.aload_n 0, 1) := by decide +kernel
theorem dL_1262 : decode code 1262 = .ok (.iload_n 3, 1) := by decide +kernel
theorem dL_1263 : decode code 1263 = .ok (.iconst 3, 1) := by decide +kernel
theorem dL_1264 : decode code 1264 = .ok (.iadd, 1) := by decide +kernel
theorem dL_1265 : decode code 1265 = .ok (.iaload, 1) := by decide +kernel
theorem dL_1266 : decode code 1266 = .ok (.invokevirtual 154, 3) := by decide +kernel
theorem dL_1269 : decode code 1269 = .ok (.if_icmp .eq 137, 3) := by decide +kernel
theorem dL_1274 : decode code 1274 = .ok (.aload_n 1, 1) := by decide +kernel
theorem dL_1275 : decode code 1275 = .ok (.aload_n 0, 1) := by decide +kernel
theorem dL_1276 : decode code 1276 = .ok (.iload_n 3, 1) := by decide +kernel
theorem dL_1277 : decode code 1277 = .ok (.iconst 1, 1) := by decide +kernel
theorem dL_1278 : decode code 1278 = .ok (.iadd, 1) := by decide +kernel
theorem dL_1279 : decode code 1279 = .ok (.iaload, 1) := by decide +kernel
theorem dL_1280 : decode code 1280 = .ok (.aload_n 0, 1) := by decide +kernel
theorem dL_1281 : decode code 1281 = .ok (.iload_n 3, 1) := by decide +kernel
theorem dL_1282 : decode code 1282 = .ok (.iconst 2, 1) := by decide +kernel
theorem dL_1283 : decode code 1283 = .ok (.iadd, 1) := by decide +kernel
theorem dL_1284 : decode code 1284 = .ok (.iaload, 1) := by decide +kernel
theorem dL_1285 : decode code 1285 = .ok (.aload_n 0, 1) := by decide +kernel
theorem dL_1286 : decode code 1286 = .ok (.iload_n 3, 1) := by decide +kernel
theorem dL_1287 : decode code 1287 = .ok (.iconst 3, 1) := by decide +kernel
theorem dL_1288 : decode code 1288 = .ok (.iadd, 1) := by decide +kernel
theorem dL_1289 : decode code 1289 = .ok (.iaload, 1) := by decide +kernel
theorem dL_1290 : decode code 1290 = .ok (.invokevirtual 155, 3) := by decide +kernel
theorem dL_1293 : decode code 1293 = .ok (.aload_n 2, 1) := by decide +kernel
theorem dL_1294 : decode code 1294 = .ok (.aload_n 0, 1) := by decide +kernel
theorem dL_1295 : decode code 1295 = .ok (.iload_n 3, 1) := by decide +kernel
theorem dL_1296 : decode code 1296 = .ok (.iconst 1, 1) := by decide +kernel
theorem dL_1297 : decode code 1297 = .ok (.iadd, 1) := by decide +kernel
theorem dL_1298 : decode code 1298 = .ok (.iaload, 1) := by decide +kernel
theorem dL_1299 : decode code 1299 = .ok (.aload_n 0, 1) := by decide +kernel
theorem dL_1300 : decode code 1300 = .ok (.iload_n 3, 1) := by decide +kernel
theorem dL_1301 : decode code 1301 = .ok (.iconst 2, 1) := by decide +kernel
theorem dL_1302 : decode code 1302 = .ok (.iadd, 1) := by decide +kernel
theorem dL_1303 : decode code 1303 = .ok (.iaload, 1) := by decide +kernel
theorem dL_1304 : decode code 1304 = .ok (.aload_n 0, 1) := by decide +kernel
theorem dL_1305 : decode code 1305 = .ok (.iload_n 3, 1) := by decide +kernel
theorem dL_1306 : decode code 1306 = .ok (.iconst 3, 1) := by decide +kernel
theorem dL_1307 : decode code 1307 = .ok (.iadd, 1) := by decide +kernel
theorem dL_1308 : decode code 1308 = .ok (.iaload, 1) := by decide +kernel
theorem dL_1309 : decode code 1309 = .ok (.invokevirtual 158, 3) := by decide +kernel
theorem dL_1312 : decode code 1312 = .ok (.if_icmp .eq 94, 3) := by decide +kernel
theorem dL_1317 : decode code 1317 = .ok (.aload_n 1, 1) := by decide +kernel
theorem dL_1318 : decode code 1318 = .ok (.aload_n 0, 1) := by decide +kernel
theorem dL_1319 : decode code 1319 = .ok (.iload_n 3, 1) := by decide +kernel
theorem dL_1320 : decode code 1320 = .ok (.iconst 1, 1) := by decide +kernel
theorem dL_1321 : decode code 1321 = .ok (.iadd, 1) := by decide +kernel
theorem dL_1322 : decode code 1322 = .ok (.iaload, 1) := by decide +kernel
theorem dL_1323 : decode code 1323 = .ok (.aload_n 0, 1) := by decide +kernel
theorem dL_1324 : decode code 1324 = .ok (.iload_n 3, 1) := by decide +kernel
theorem dL_1325 : decode code 1325 = .ok (.iconst 2, 1) := by decide +kernel
theorem dL_1326 : decode code 1326 = .ok (.iadd, 1) := by decide +kernel
theorem dL_1327 : decode code 1327 = .ok (.iaload, 1) := by decide +kernel
theorem dL_1328 : decode code 1328 = .ok (.aload_n 0, 1) := by decide +kernel
theorem dL_1329 : decode code 1329 = .ok (.iload_n 3, 1) := by decide +kernel
theorem dL_1330 : decode code 1330 = .ok (.iconst 3, 1) := by decide +kernel
theorem dL_1331 : decode code 1331 = .ok (.iadd, 1) := by decide +kernel
theorem dL_1332 : decode code 1332 = .ok (.iaload, 1) := by decide +kernel
theorem dL_1333 : decode code 1333 = .ok (.aload_n 0, 1) := by decide +kernel
theorem dL_1334 : decode code 1334 = .ok (.iload_n 3, 1) := by decide +kernel
theorem dL_1335 : decode code 1335 = .ok (.iconst 4, 1) := by decide +kernel
theorem dL_1336 : decode code 1336 = .ok (.iadd, 1) := by decide +kernel
theorem dL_1337 : decode code 1337 = .ok (.iaload, 1) := by decide +kernel
theorem dL_1338 : decode code 1338 = .ok (.invokevirtual 159, 3) := by decide +kernel
theorem dL_1341 : decode code 1341 = .ok (.aload_n 2, 1) := by decide +kernel
theorem dL_1342 : decode code 1342 = .ok (.aload_n 0, 1) := by decide +kernel
theorem dL_1343 : decode code 1343 = .ok (.iload_n 3, 1) := by decide +kernel
theorem dL_1344 : decode code 1344 = .ok (.iconst 1, 1) := by decide +kernel
theorem dL_1345 : decode code 1345 = .ok (.iadd, 1) := by decide +kernel
theorem dL_1346 : decode code 1346 = .ok (.iaload, 1) := by decide +kernel
theorem dL_1347 : decode code 1347 = .ok (.aload_n 0, 1) := by decide +kernel
theorem dL_1348 : decode code 1348 = .ok (.iload_n 3, 1) := by decide +kernel
theorem dL_1349 : decode code 1349 = .ok (.iconst 2, 1) := by decide +kernel
theorem dL_1350 : decode code 1350 = .ok (.iadd, 1) := by decide +kernel
theorem dL_1351 : decode code 1351 = .ok (.iaload, 1) := by decide +kernel
theorem dL_1352 : decode code 1352 = .ok (.aload_n 0, 1) := by decide +kernel
theorem dL_1353 : decode code 1353 = .ok (.iload_n 3, 1) := by decide +kernel
theorem dL_1354 : decode code 1354 = .ok (.iconst 3, 1) := by decide +kernel
theorem dL_1355 : decode code 1355 = .ok (.iadd, 1) := by decide +kernel
theorem dL_1356 : decode code 1356 = .ok (.iaload, 1) := by decide +kernel
theorem dL_1357 : decode code 1357 = .ok (.aload_n 0, 1) := by decide +kernel
theorem dL_1358 : decode code 1358 = .ok (.iload_n 3, 1) := by decide +kernel
theorem dL_1359 : decode code 1359 = .ok (.iconst 4, 1) := by decide +kernel
theorem dL_1360 : decode code 1360 = .ok (.iadd, 1) := by decide +kernel
theorem dL_1361 : decode code 1361 = .ok (.iaload, 1) := by decide +kernel
theorem dL_1362 : decode code 1362 = .ok (.invokevirtual 163, 3) := by decide +kernel
theorem dL_1365 : decode code 1365 = .ok (.if_icmp .eq 41, 3) := by decide +kernel
theorem dL_1370 : decode code 1370 = .ok (.aload_n 1, 1) := by decide +kernel
theorem dL_1371 : decode code 1371 = .ok (.invokevirtual 164, 3) := by decide +kernel
theorem dL_1374 : decode code 1374 = .ok (.aload_n 2, 1) := by decide +kernel
theorem dL_1375 : decode code 1375 = .ok (.invokevirtual 167, 3) := by decide +kernel
theorem dL_1378 : decode code 1378 = .ok (.if_icmp .eq 28, 3) := by decide +kernel
theorem dL_1383 : decode code 1383 = .ok (.aload_n 1, 1) := by decide +kernel
theorem dL_1384 : decode code 1384 = .ok (.aload_n 0, 1) := by decide +kernel
theorem dL_1385 : decode code 1385 = .ok (.iload_n 3, 1) := by decide +kernel
theorem dL_1386 : decode code 1386 = .ok (.iconst 1, 1) := by decide +kernel
theorem dL_1387 : decode code 1387 = .ok (.iadd, 1) := by decide +kernel
theorem dL_1388 : decode code 1388 = .ok (.iaload, 1) := by decide +kernel
theorem dL_1389 : decode code 1389 = .ok (.invokevirtual 168, 3) := by decide +kernel
theorem dL_1392 : decode code 1392 = .ok (.aload_n 2, 1) := by decide +kernel
theorem dL_1393 : decode code 1393 = .ok (.aload_n 0, 1) := by decide +kernel
theorem dL_1394 : decode code 1394 = .ok (.iload_n 3, 1) := by decide +kernel
theorem dL_1395 : decode code 1395 = .ok (.iconst 1, 1) := by decide +kernel
theorem dL_1396 : decode code 1396 = .ok (.iadd, 1) := by decide +kernel
theorem dL_1397 : decode code 1397 = .ok (.iaload, 1) := by decide +kernel
theorem dL_1398 : decode code 1398 = .ok (.invokevirtual 171, 3) := by decide +kernel
theorem dL_1401 : decode code 1401 = .ok (.if_icmp .eq 5, 3) := by decide +kernel
theorem dL_1406 : decode code 1406 = .ok (.iinc 3 5, 3) := by decide +kernel
theorem dL_1409 : decode code 1409 = .ok (.goto (-1391), 3) := by decide +kernel
theorem dL_1412 : decode code 1412 = .ok (.iconst 1, 1) := by decide +kernel
theorem dL_1413 : decode code 1413 = .ok (.ireturn, 1) := by decide +kernel
