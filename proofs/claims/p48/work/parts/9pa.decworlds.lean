theorem dL_worlds_1155 : decode cL_worlds 1155 = .ok (.iconst 1, 1) := by decide +kernel
theorem dL_worlds_1156 : decode cL_worlds 1156 = .ok (.bipush 9, 2) := by decide +kernel
theorem dL_worlds_1158 : decode cL_worlds 1158 = .ok (.invokevirtual 64, 3) := by decide +kernel
theorem dL_worlds_1161 : decode cL_worlds 1161 = .ok (.iconst 2, 1) := by decide +kernel
theorem dL_worlds_1162 : decode cL_worlds 1162 = .ok (.if_icmp .ne 277, 3) := by decide +kernel
theorem dL_worlds_1165 : decode cL_worlds 1165 = .ok (.aload_n 2, 1) := by decide +kernel
theorem dL_worlds_1166 : decode cL_worlds 1166 = .ok (.iconst 1, 1) := by decide +kernel
theorem dL_worlds_1167 : decode cL_worlds 1167 = .ok (.iconst 0, 1) := by decide +kernel
theorem dL_worlds_1168 : decode cL_worlds 1168 = .ok (.bipush 11, 2) := by decide +kernel
theorem dL_worlds_1170 : decode cL_worlds 1170 = .ok (.invokevirtual 70, 3) := by decide +kernel
theorem dL_worlds_1173 : decode cL_worlds 1173 = .ok (.iconst (-1), 1) := by decide +kernel
theorem dL_worlds_1174 : decode cL_worlds 1174 = .ok (.if_icmp .ne 265, 3) := by decide +kernel
theorem dL_worlds_1177 : decode cL_worlds 1177 = .ok (.aload_n 2, 1) := by decide +kernel
theorem dL_worlds_1178 : decode cL_worlds 1178 = .ok (.iconst 2, 1) := by decide +kernel
theorem dL_worlds_1179 : decode cL_worlds 1179 = .ok (.iconst 2, 1) := by decide +kernel
theorem dL_worlds_1180 : decode cL_worlds 1180 = .ok (.bipush 14, 2) := by decide +kernel
theorem dL_worlds_1182 : decode cL_worlds 1182 = .ok (.invokevirtual 70, 3) := by decide +kernel
theorem dL_worlds_1185 : decode cL_worlds 1185 = .ok (.iconst (-1), 1) := by decide +kernel
theorem dL_worlds_1186 : decode cL_worlds 1186 = .ok (.if_icmp .ne 253, 3) := by decide +kernel
theorem dL_worlds_1189 : decode cL_worlds 1189 = .ok (.aload_n 2, 1) := by decide +kernel
theorem dL_worlds_1190 : decode cL_worlds 1190 = .ok (.invokevirtual 149, 3) := by decide +kernel
theorem dL_worlds_1193 : decode cL_worlds 1193 = .ok (.iconst (-1), 1) := by decide +kernel
theorem dL_worlds_1194 : decode cL_worlds 1194 = .ok (.if_icmp .ne 245, 3) := by decide +kernel
theorem dL_worlds_1197 : decode cL_worlds 1197 = .ok (.aload_n 2, 1) := by decide +kernel
theorem dL_worlds_1198 : decode cL_worlds 1198 = .ok (.iconst 1, 1) := by decide +kernel
theorem dL_worlds_1199 : decode cL_worlds 1199 = .ok (.iconst 0, 1) := by decide +kernel
theorem dL_worlds_1200 : decode cL_worlds 1200 = .ok (.bipush 9, 2) := by decide +kernel
theorem dL_worlds_1202 : decode cL_worlds 1202 = .ok (.invokevirtual 64, 3) := by decide +kernel
theorem dL_worlds_1205 : decode cL_worlds 1205 = .ok (.iconst 2, 1) := by decide +kernel
theorem dL_worlds_1206 : decode cL_worlds 1206 = .ok (.if_icmp .ne 233, 3) := by decide +kernel
theorem dL_worlds_1209 : decode cL_worlds 1209 = .ok (.aload_n 2, 1) := by decide +kernel
theorem dL_worlds_1210 : decode cL_worlds 1210 = .ok (.invokevirtual 149, 3) := by decide +kernel
theorem dL_worlds_1213 : decode cL_worlds 1213 = .ok (.iconst (-1), 1) := by decide +kernel
theorem dL_worlds_1214 : decode cL_worlds 1214 = .ok (.if_icmp .ne 225, 3) := by decide +kernel
theorem dL_worlds_1217 : decode cL_worlds 1217 = .ok (.aload_n 2, 1) := by decide +kernel
theorem dL_worlds_1218 : decode cL_worlds 1218 = .ok (.iconst 0, 1) := by decide +kernel
theorem dL_worlds_1219 : decode cL_worlds 1219 = .ok (.iconst 0, 1) := by decide +kernel
theorem dL_worlds_1220 : decode cL_worlds 1220 = .ok (.bipush 9, 2) := by decide +kernel
theorem dL_worlds_1222 : decode cL_worlds 1222 = .ok (.invokevirtual 64, 3) := by decide +kernel
theorem dL_worlds_1225 : decode cL_worlds 1225 = .ok (.iconst 2, 1) := by decide +kernel
theorem dL_worlds_1226 : decode cL_worlds 1226 = .ok (.if_icmp .ne 213, 3) := by decide +kernel
theorem dL_worlds_1229 : decode cL_worlds 1229 = .ok (.aload_n 2, 1) := by decide +kernel
theorem dL_worlds_1230 : decode cL_worlds 1230 = .ok (.invokevirtual 149, 3) := by decide +kernel
theorem dL_worlds_1233 : decode cL_worlds 1233 = .ok (.bipush 6, 2) := by decide +kernel
theorem dL_worlds_1235 : decode cL_worlds 1235 = .ok (.if_icmp .ne 204, 3) := by decide +kernel
theorem dL_worlds_1238 : decode cL_worlds 1238 = .ok (.aload_n 2, 1) := by decide +kernel
theorem dL_worlds_1239 : decode cL_worlds 1239 = .ok (.invokevirtual 185, 3) := by decide +kernel
theorem dL_worlds_1242 : decode cL_worlds 1242 = .ok (.bipush 6, 2) := by decide +kernel
theorem dL_worlds_1244 : decode cL_worlds 1244 = .ok (.if_icmp .ne 195, 3) := by decide +kernel
theorem dL_worlds_1247 : decode cL_worlds 1247 = .ok (.aload_n 2, 1) := by decide +kernel
theorem dL_worlds_1248 : decode cL_worlds 1248 = .ok (.iconst 0, 1) := by decide +kernel
theorem dL_worlds_1249 : decode cL_worlds 1249 = .ok (.invokestatic 198, 3) := by decide +kernel
theorem dL_worlds_1252 : decode cL_worlds 1252 = .ok (.bipush 6, 2) := by decide +kernel
theorem dL_worlds_1254 : decode cL_worlds 1254 = .ok (.if_icmp .ne 185, 3) := by decide +kernel
theorem dL_worlds_1257 : decode cL_worlds 1257 = .ok (.aload_n 2, 1) := by decide +kernel
theorem dL_worlds_1258 : decode cL_worlds 1258 = .ok (.iconst 0, 1) := by decide +kernel
theorem dL_worlds_1259 : decode cL_worlds 1259 = .ok (.iconst 0, 1) := by decide +kernel
theorem dL_worlds_1260 : decode cL_worlds 1260 = .ok (.invokevirtual 95, 3) := by decide +kernel
theorem dL_worlds_1263 : decode cL_worlds 1263 = .ok (.bipush 102, 2) := by decide +kernel
theorem dL_worlds_1265 : decode cL_worlds 1265 = .ok (.if_icmp .ne 174, 3) := by decide +kernel
theorem dL_worlds_1268 : decode cL_worlds 1268 = .ok (.aload_n 2, 1) := by decide +kernel
theorem dL_worlds_1269 : decode cL_worlds 1269 = .ok (.iconst 0, 1) := by decide +kernel
theorem dL_worlds_1270 : decode cL_worlds 1270 = .ok (.iconst 1, 1) := by decide +kernel
theorem dL_worlds_1271 : decode cL_worlds 1271 = .ok (.invokevirtual 95, 3) := by decide +kernel
theorem dL_worlds_1274 : decode cL_worlds 1274 = .ok (.bipush 109, 2) := by decide +kernel
theorem dL_worlds_1276 : decode cL_worlds 1276 = .ok (.if_icmp .ne 163, 3) := by decide +kernel
theorem dL_worlds_1279 : decode cL_worlds 1279 = .ok (.aload_n 2, 1) := by decide +kernel
theorem dL_worlds_1280 : decode cL_worlds 1280 = .ok (.iconst 0, 1) := by decide +kernel
theorem dL_worlds_1281 : decode cL_worlds 1281 = .ok (.iconst 5, 1) := by decide +kernel
theorem dL_worlds_1282 : decode cL_worlds 1282 = .ok (.invokevirtual 95, 3) := by decide +kernel
theorem dL_worlds_1285 : decode cL_worlds 1285 = .ok (.sipush 141, 3) := by decide +kernel
theorem dL_worlds_1288 : decode cL_worlds 1288 = .ok (.if_icmp .ne 151, 3) := by decide +kernel
theorem dL_worlds_1291 : decode cL_worlds 1291 = .ok (.aload_n 2, 1) := by decide +kernel
theorem dL_worlds_1292 : decode cL_worlds 1292 = .ok (.iconst 1, 1) := by decide +kernel
theorem dL_worlds_1293 : decode cL_worlds 1293 = .ok (.invokevirtual 112, 3) := by decide +kernel
theorem dL_worlds_1296 : decode cL_worlds 1296 = .ok (.bipush 102, 2) := by decide +kernel
theorem dL_worlds_1298 : decode cL_worlds 1298 = .ok (.if_icmp .ne 141, 3) := by decide +kernel
theorem dL_worlds_1301 : decode cL_worlds 1301 = .ok (.aload_n 2, 1) := by decide +kernel
theorem dL_worlds_1302 : decode cL_worlds 1302 = .ok (.iconst 0, 1) := by decide +kernel
theorem dL_worlds_1303 : decode cL_worlds 1303 = .ok (.invokevirtual 112, 3) := by decide +kernel
theorem dL_worlds_1306 : decode cL_worlds 1306 = .ok (.bipush 109, 2) := by decide +kernel
theorem dL_worlds_1308 : decode cL_worlds 1308 = .ok (.if_icmp .ne 131, 3) := by decide +kernel
theorem dL_worlds_1311 : decode cL_worlds 1311 = .ok (.aload_n 2, 1) := by decide +kernel
theorem dL_worlds_1312 : decode cL_worlds 1312 = .ok (.iconst 0, 1) := by decide +kernel
theorem dL_worlds_1313 : decode cL_worlds 1313 = .ok (.invokevirtual 112, 3) := by decide +kernel
theorem dL_worlds_1316 : decode cL_worlds 1316 = .ok (.bipush 125, 2) := by decide +kernel
theorem dL_worlds_1318 : decode cL_worlds 1318 = .ok (.if_icmp .ne 121, 3) := by decide +kernel
theorem dL_worlds_1321 : decode cL_worlds 1321 = .ok (.aload_n 2, 1) := by decide +kernel
theorem dL_worlds_1322 : decode cL_worlds 1322 = .ok (.invokevirtual 188, 3) := by decide +kernel
theorem dL_worlds_1325 : decode cL_worlds 1325 = .ok (.ifCond .eq 114, 3) := by decide +kernel
theorem dL_worlds_1328 : decode cL_worlds 1328 = .ok (.aload_n 2, 1) := by decide +kernel
theorem dL_worlds_1329 : decode cL_worlds 1329 = .ok (.iconst 0, 1) := by decide +kernel
theorem dL_worlds_1330 : decode cL_worlds 1330 = .ok (.invokevirtual 112, 3) := by decide +kernel
theorem dL_worlds_1333 : decode cL_worlds 1333 = .ok (.sipush 141, 3) := by decide +kernel
theorem dL_worlds_1336 : decode cL_worlds 1336 = .ok (.if_icmp .ne 103, 3) := by decide +kernel
theorem dL_worlds_1339 : decode cL_worlds 1339 = .ok (.aload_n 2, 1) := by decide +kernel
theorem dL_worlds_1340 : decode cL_worlds 1340 = .ok (.invokevirtual 188, 3) := by decide +kernel
theorem dL_worlds_1343 : decode cL_worlds 1343 = .ok (.ifCond .ne 96, 3) := by decide +kernel
theorem dL_worlds_1346 : decode cL_worlds 1346 = .ok (.aload_n 2, 1) := by decide +kernel
theorem dL_worlds_1347 : decode cL_worlds 1347 = .ok (.iconst 2, 1) := by decide +kernel
theorem dL_worlds_1348 : decode cL_worlds 1348 = .ok (.invokevirtual 115, 3) := by decide +kernel
theorem dL_worlds_1351 : decode cL_worlds 1351 = .ok (.iconst 1, 1) := by decide +kernel
theorem dL_worlds_1352 : decode cL_worlds 1352 = .ok (.if_icmp .ne 87, 3) := by decide +kernel
theorem dL_worlds_1355 : decode cL_worlds 1355 = .ok (.aload_n 2, 1) := by decide +kernel
theorem dL_worlds_1356 : decode cL_worlds 1356 = .ok (.bipush 18, 2) := by decide +kernel
theorem dL_worlds_1358 : decode cL_worlds 1358 = .ok (.invokevirtual 115, 3) := by decide +kernel
theorem dL_worlds_1361 : decode cL_worlds 1361 = .ok (.iconst (-1), 1) := by decide +kernel
theorem dL_worlds_1362 : decode cL_worlds 1362 = .ok (.if_icmp .ne 77, 3) := by decide +kernel
theorem dL_worlds_1365 : decode cL_worlds 1365 = .ok (.aload_n 2, 1) := by decide +kernel
theorem dL_worlds_1366 : decode cL_worlds 1366 = .ok (.bipush 34, 2) := by decide +kernel
theorem dL_worlds_1368 : decode cL_worlds 1368 = .ok (.invokevirtual 115, 3) := by decide +kernel
theorem dL_worlds_1371 : decode cL_worlds 1371 = .ok (.iconst (-1), 1) := by decide +kernel
theorem dL_worlds_1372 : decode cL_worlds 1372 = .ok (.if_icmp .ne 67, 3) := by decide +kernel
theorem dL_worlds_1375 : decode cL_worlds 1375 = .ok (.aload_n 2, 1) := by decide +kernel
theorem dL_worlds_1376 : decode cL_worlds 1376 = .ok (.bipush 25, 2) := by decide +kernel
theorem dL_worlds_1378 : decode cL_worlds 1378 = .ok (.invokevirtual 115, 3) := by decide +kernel
theorem dL_worlds_1381 : decode cL_worlds 1381 = .ok (.sipush 200, 3) := by decide +kernel
theorem dL_worlds_1384 : decode cL_worlds 1384 = .ok (.if_icmp .ne 55, 3) := by decide +kernel
theorem dL_worlds_1387 : decode cL_worlds 1387 = .ok (.aload_n 2, 1) := by decide +kernel
theorem dL_worlds_1388 : decode cL_worlds 1388 = .ok (.bipush 41, 2) := by decide +kernel
theorem dL_worlds_1390 : decode cL_worlds 1390 = .ok (.sipush 300, 3) := by decide +kernel
theorem dL_worlds_1393 : decode cL_worlds 1393 = .ok (.iconst 0, 1) := by decide +kernel
theorem dL_worlds_1394 : decode cL_worlds 1394 = .ok (.bipush 41, 2) := by decide +kernel
theorem dL_worlds_1396 : decode cL_worlds 1396 = .ok (.bipush 25, 2) := by decide +kernel
theorem dL_worlds_1398 : decode cL_worlds 1398 = .ok (.invokestatic 191, 3) := by decide +kernel
theorem dL_worlds_1401 : decode cL_worlds 1401 = .ok (.ifCond .eq 38, 3) := by decide +kernel
theorem dL_worlds_1404 : decode cL_worlds 1404 = .ok (.aload_n 2, 1) := by decide +kernel
theorem dL_worlds_1405 : decode cL_worlds 1405 = .ok (.invokevirtual 146, 3) := by decide +kernel
theorem dL_worlds_1408 : decode cL_worlds 1408 = .ok (.iconst 4, 1) := by decide +kernel
theorem dL_worlds_1409 : decode cL_worlds 1409 = .ok (.if_icmp .ne 30, 3) := by decide +kernel
theorem dL_worlds_1412 : decode cL_worlds 1412 = .ok (.aload_n 2, 1) := by decide +kernel
theorem dL_worlds_1413 : decode cL_worlds 1413 = .ok (.invokevirtual 149, 3) := by decide +kernel
theorem dL_worlds_1416 : decode cL_worlds 1416 = .ok (.iconst 4, 1) := by decide +kernel
theorem dL_worlds_1417 : decode cL_worlds 1417 = .ok (.if_icmp .ne 22, 3) := by decide +kernel
theorem dL_worlds_1420 : decode cL_worlds 1420 = .ok (.aload_n 2, 1) := by decide +kernel
theorem dL_worlds_1421 : decode cL_worlds 1421 = .ok (.invokevirtual 143, 3) := by decide +kernel
theorem dL_worlds_1424 : decode cL_worlds 1424 = .ok (.iconst 4, 1) := by decide +kernel
theorem dL_worlds_1425 : decode cL_worlds 1425 = .ok (.if_icmp .ne 14, 3) := by decide +kernel
theorem dL_worlds_1428 : decode cL_worlds 1428 = .ok (.aload_n 2, 1) := by decide +kernel
theorem dL_worlds_1429 : decode cL_worlds 1429 = .ok (.iconst 0, 1) := by decide +kernel
theorem dL_worlds_1430 : decode cL_worlds 1430 = .ok (.iconst 0, 1) := by decide +kernel
theorem dL_worlds_1431 : decode cL_worlds 1431 = .ok (.iconst 3, 1) := by decide +kernel
theorem dL_worlds_1432 : decode cL_worlds 1432 = .ok (.iconst 1, 1) := by decide +kernel
theorem dL_worlds_1433 : decode cL_worlds 1433 = .ok (.invokestatic 162, 3) := by decide +kernel
theorem dL_worlds_1436 : decode cL_worlds 1436 = .ok (.ifCond .ne 5, 3) := by decide +kernel
theorem dL_worlds_1439 : decode cL_worlds 1439 = .ok (.iconst 0, 1) := by decide +kernel
theorem dL_worlds_1440 : decode cL_worlds 1440 = .ok (.ireturn, 1) := by decide +kernel
theorem dL_worlds_1441 : decode cL_worlds 1441 = .ok (.invokestatic 202, 3) := by decide +kernel
theorem dL_worlds_1444 : decode cL_worlds 1444 = .ok (.ireturn, 1) := by decide +kernel
