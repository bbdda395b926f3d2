theorem dL_plans_1138 : decode cL_plans 1138 = .ok (.invokevirtual 133, 3) := by decide +kernel
theorem dL_plans_1141 : decode cL_plans 1141 = .ok (.bipush 100, 2) := by decide +kernel
theorem dL_plans_1143 : decode cL_plans 1143 = .ok (.if_icmp .ne 37, 3) := by decide +kernel
theorem dL_plans_1146 : decode cL_plans 1146 = .ok (.aload_n 0, 1) := by decide +kernel
theorem dL_plans_1147 : decode cL_plans 1147 = .ok (.iconst 3, 1) := by decide +kernel
theorem dL_plans_1148 : decode cL_plans 1148 = .ok (.invokevirtual 115, 3) := by decide +kernel
theorem dL_plans_1151 : decode cL_plans 1151 = .ok (.iconst (-1), 1) := by decide +kernel
theorem dL_plans_1152 : decode cL_plans 1152 = .ok (.if_icmp .ne 28, 3) := by decide +kernel
theorem dL_plans_1155 : decode cL_plans 1155 = .ok (.aload_n 0, 1) := by decide +kernel
theorem dL_plans_1156 : decode cL_plans 1156 = .ok (.iconst 5, 1) := by decide +kernel
theorem dL_plans_1157 : decode cL_plans 1157 = .ok (.invokevirtual 106, 3) := by decide +kernel
theorem dL_plans_1160 : decode cL_plans 1160 = .ok (.ifCond .ne 20, 3) := by decide +kernel
theorem dL_plans_1163 : decode cL_plans 1163 = .ok (.aload_n 0, 1) := by decide +kernel
theorem dL_plans_1164 : decode cL_plans 1164 = .ok (.iconst 5, 1) := by decide +kernel
theorem dL_plans_1165 : decode cL_plans 1165 = .ok (.invokevirtual 102, 3) := by decide +kernel
theorem dL_plans_1168 : decode cL_plans 1168 = .ok (.ifCond .eq 12, 3) := by decide +kernel
theorem dL_plans_1171 : decode cL_plans 1171 = .ok (.aload_n 0, 1) := by decide +kernel
theorem dL_plans_1172 : decode cL_plans 1172 = .ok (.invokevirtual 143, 3) := by decide +kernel
theorem dL_plans_1175 : decode cL_plans 1175 = .ok (.bipush 7, 2) := by decide +kernel
theorem dL_plans_1177 : decode cL_plans 1177 = .ok (.if_icmp .eq 5, 3) := by decide +kernel
theorem dL_plans_1180 : decode cL_plans 1180 = .ok (.iconst 0, 1) := by decide +kernel
theorem dL_plans_1181 : decode cL_plans 1181 = .ok (.ireturn, 1) := by decide +kernel
theorem dL_plans_1182 : decode cL_plans 1182 = .ok (.aload_n 0, 1) := by decide +kernel
theorem dL_plans_1183 : decode cL_plans 1183 = .ok (.bipush 7, 2) := by decide +kernel
theorem dL_plans_1185 : decode cL_plans 1185 = .ok (.invokestatic 198, 3) := by decide +kernel
theorem dL_plans_1188 : decode cL_plans 1188 = .ok (.iconst 1, 1) := by decide +kernel
theorem dL_plans_1189 : decode cL_plans 1189 = .ok (.if_icmp .ne 325, 3) := by decide +kernel
theorem dL_plans_1192 : decode cL_plans 1192 = .ok (.aload_n 0, 1) := by decide +kernel
theorem dL_plans_1193 : decode cL_plans 1193 = .ok (.iconst 1, 1) := by decide +kernel
theorem dL_plans_1194 : decode cL_plans 1194 = .ok (.invokevirtual 112, 3) := by decide +kernel
theorem dL_plans_1197 : decode cL_plans 1197 = .ok (.bipush 103, 2) := by decide +kernel
theorem dL_plans_1199 : decode cL_plans 1199 = .ok (.if_icmp .ne 315, 3) := by decide +kernel
theorem dL_plans_1202 : decode cL_plans 1202 = .ok (.aload_n 0, 1) := by decide +kernel
theorem dL_plans_1203 : decode cL_plans 1203 = .ok (.invokevirtual 188, 3) := by decide +kernel
theorem dL_plans_1206 : decode cL_plans 1206 = .ok (.ifCond .ne 308, 3) := by decide +kernel
theorem dL_plans_1209 : decode cL_plans 1209 = .ok (.aload_n 0, 1) := by decide +kernel
theorem dL_plans_1210 : decode cL_plans 1210 = .ok (.iconst 3, 1) := by decide +kernel
theorem dL_plans_1211 : decode cL_plans 1211 = .ok (.sipush 201, 3) := by decide +kernel
theorem dL_plans_1214 : decode cL_plans 1214 = .ok (.bipush 6, 2) := by decide +kernel
theorem dL_plans_1216 : decode cL_plans 1216 = .ok (.bipush 17, 2) := by decide +kernel
theorem dL_plans_1218 : decode cL_plans 1218 = .ok (.bipush 8, 2) := by decide +kernel
theorem dL_plans_1220 : decode cL_plans 1220 = .ok (.invokestatic 191, 3) := by decide +kernel
theorem dL_plans_1223 : decode cL_plans 1223 = .ok (.ifCond .eq 291, 3) := by decide +kernel
theorem dL_plans_1226 : decode cL_plans 1226 = .ok (.aload_n 0, 1) := by decide +kernel
theorem dL_plans_1227 : decode cL_plans 1227 = .ok (.invokevirtual 143, 3) := by decide +kernel
theorem dL_plans_1230 : decode cL_plans 1230 = .ok (.bipush 8, 2) := by decide +kernel
theorem dL_plans_1232 : decode cL_plans 1232 = .ok (.if_icmp .ne 282, 3) := by decide +kernel
theorem dL_plans_1235 : decode cL_plans 1235 = .ok (.aload_n 0, 1) := by decide +kernel
theorem dL_plans_1236 : decode cL_plans 1236 = .ok (.invokevirtual 149, 3) := by decide +kernel
theorem dL_plans_1239 : decode cL_plans 1239 = .ok (.iconst 2, 1) := by decide +kernel
theorem dL_plans_1240 : decode cL_plans 1240 = .ok (.if_icmp .ne 274, 3) := by decide +kernel
theorem dL_plans_1243 : decode cL_plans 1243 = .ok (.aload_n 0, 1) := by decide +kernel
theorem dL_plans_1244 : decode cL_plans 1244 = .ok (.bipush 8, 2) := by decide +kernel
theorem dL_plans_1246 : decode cL_plans 1246 = .ok (.invokestatic 198, 3) := by decide +kernel
theorem dL_plans_1249 : decode cL_plans 1249 = .ok (.iconst 2, 1) := by decide +kernel
theorem dL_plans_1250 : decode cL_plans 1250 = .ok (.if_icmp .ne 264, 3) := by decide +kernel
theorem dL_plans_1253 : decode cL_plans 1253 = .ok (.aload_n 0, 1) := by decide +kernel
theorem dL_plans_1254 : decode cL_plans 1254 = .ok (.iconst 2, 1) := by decide +kernel
theorem dL_plans_1255 : decode cL_plans 1255 = .ok (.invokevirtual 112, 3) := by decide +kernel
theorem dL_plans_1258 : decode cL_plans 1258 = .ok (.sipush 303, 3) := by decide +kernel
theorem dL_plans_1261 : decode cL_plans 1261 = .ok (.if_icmp .ne 253, 3) := by decide +kernel
theorem dL_plans_1264 : decode cL_plans 1264 = .ok (.aload_n 0, 1) := by decide +kernel
theorem dL_plans_1265 : decode cL_plans 1265 = .ok (.invokevirtual 188, 3) := by decide +kernel
theorem dL_plans_1268 : decode cL_plans 1268 = .ok (.ifCond .ne 246, 3) := by decide +kernel
theorem dL_plans_1271 : decode cL_plans 1271 = .ok (.aload_n 0, 1) := by decide +kernel
theorem dL_plans_1272 : decode cL_plans 1272 = .ok (.invokevirtual 152, 3) := by decide +kernel
theorem dL_plans_1275 : decode cL_plans 1275 = .ok (.ifCond .eq 239, 3) := by decide +kernel
theorem dL_plans_1278 : decode cL_plans 1278 = .ok (.aload_n 0, 1) := by decide +kernel
theorem dL_plans_1279 : decode cL_plans 1279 = .ok (.bipush 27, 2) := by decide +kernel
theorem dL_plans_1281 : decode cL_plans 1281 = .ok (.iconst 0, 1) := by decide +kernel
theorem dL_plans_1282 : decode cL_plans 1282 = .ok (.iconst 0, 1) := by decide +kernel
theorem dL_plans_1283 : decode cL_plans 1283 = .ok (.iconst 0, 1) := by decide +kernel
theorem dL_plans_1284 : decode cL_plans 1284 = .ok (.iconst 0, 1) := by decide +kernel
theorem dL_plans_1285 : decode cL_plans 1285 = .ok (.iconst 0, 1) := by decide +kernel
theorem dL_plans_1286 : decode cL_plans 1286 = .ok (.invokestatic 157, 3) := by decide +kernel
theorem dL_plans_1289 : decode cL_plans 1289 = .ok (.iload_n 1, 1) := by decide +kernel
theorem dL_plans_1290 : decode cL_plans 1290 = .ok (.if_icmp .ne 224, 3) := by decide +kernel
theorem dL_plans_1293 : decode cL_plans 1293 = .ok (.aload_n 0, 1) := by decide +kernel
theorem dL_plans_1294 : decode cL_plans 1294 = .ok (.iconst 2, 1) := by decide +kernel
theorem dL_plans_1295 : decode cL_plans 1295 = .ok (.iconst 0, 1) := by decide +kernel
theorem dL_plans_1296 : decode cL_plans 1296 = .ok (.invokevirtual 121, 3) := by decide +kernel
theorem dL_plans_1299 : decode cL_plans 1299 = .ok (.iconst (-1), 1) := by decide +kernel
theorem dL_plans_1300 : decode cL_plans 1300 = .ok (.if_icmp .ne 214, 3) := by decide +kernel
theorem dL_plans_1303 : decode cL_plans 1303 = .ok (.aload_n 0, 1) := by decide +kernel
theorem dL_plans_1304 : decode cL_plans 1304 = .ok (.iconst 3, 1) := by decide +kernel
theorem dL_plans_1305 : decode cL_plans 1305 = .ok (.invokevirtual 115, 3) := by decide +kernel
theorem dL_plans_1308 : decode cL_plans 1308 = .ok (.sipush 201, 3) := by decide +kernel
theorem dL_plans_1311 : decode cL_plans 1311 = .ok (.if_icmp .ne 203, 3) := by decide +kernel
theorem dL_plans_1314 : decode cL_plans 1314 = .ok (.aload_n 0, 1) := by decide +kernel
theorem dL_plans_1315 : decode cL_plans 1315 = .ok (.invokevirtual 143, 3) := by decide +kernel
theorem dL_plans_1318 : decode cL_plans 1318 = .ok (.bipush 8, 2) := by decide +kernel
theorem dL_plans_1320 : decode cL_plans 1320 = .ok (.if_icmp .ne 194, 3) := by decide +kernel
theorem dL_plans_1323 : decode cL_plans 1323 = .ok (.aload_n 0, 1) := by decide +kernel
theorem dL_plans_1324 : decode cL_plans 1324 = .ok (.bipush 34, 2) := by decide +kernel
theorem dL_plans_1326 : decode cL_plans 1326 = .ok (.iconst 0, 1) := by decide +kernel
theorem dL_plans_1327 : decode cL_plans 1327 = .ok (.iconst 0, 1) := by decide +kernel
theorem dL_plans_1328 : decode cL_plans 1328 = .ok (.iconst 0, 1) := by decide +kernel
theorem dL_plans_1329 : decode cL_plans 1329 = .ok (.iconst 0, 1) := by decide +kernel
theorem dL_plans_1330 : decode cL_plans 1330 = .ok (.iconst 0, 1) := by decide +kernel
theorem dL_plans_1331 : decode cL_plans 1331 = .ok (.invokestatic 157, 3) := by decide +kernel
theorem dL_plans_1334 : decode cL_plans 1334 = .ok (.iload_n 1, 1) := by decide +kernel
theorem dL_plans_1335 : decode cL_plans 1335 = .ok (.if_icmp .ne 179, 3) := by decide +kernel
theorem dL_plans_1338 : decode cL_plans 1338 = .ok (.aload_n 0, 1) := by decide +kernel
theorem dL_plans_1339 : decode cL_plans 1339 = .ok (.iconst 2, 1) := by decide +kernel
theorem dL_plans_1340 : decode cL_plans 1340 = .ok (.invokevirtual 34, 3) := by decide +kernel
theorem dL_plans_1343 : decode cL_plans 1343 = .ok (.iconst 2, 1) := by decide +kernel
theorem dL_plans_1344 : decode cL_plans 1344 = .ok (.if_icmp .ne 170, 3) := by decide +kernel
theorem dL_plans_1347 : decode cL_plans 1347 = .ok (.aload_n 0, 1) := by decide +kernel
theorem dL_plans_1348 : decode cL_plans 1348 = .ok (.invokevirtual 152, 3) := by decide +kernel
theorem dL_plans_1351 : decode cL_plans 1351 = .ok (.ifCond .eq 163, 3) := by decide +kernel
theorem dL_plans_1354 : decode cL_plans 1354 = .ok (.aload_n 0, 1) := by decide +kernel
theorem dL_plans_1355 : decode cL_plans 1355 = .ok (.iconst 1, 1) := by decide +kernel
theorem dL_plans_1356 : decode cL_plans 1356 = .ok (.invokevirtual 34, 3) := by decide +kernel
theorem dL_plans_1359 : decode cL_plans 1359 = .ok (.iconst 3, 1) := by decide +kernel
theorem dL_plans_1360 : decode cL_plans 1360 = .ok (.if_icmp .ne 154, 3) := by decide +kernel
theorem dL_plans_1363 : decode cL_plans 1363 = .ok (.aload_n 0, 1) := by decide +kernel
theorem dL_plans_1364 : decode cL_plans 1364 = .ok (.invokevirtual 152, 3) := by decide +kernel
theorem dL_plans_1367 : decode cL_plans 1367 = .ok (.ifCond .ne 147, 3) := by decide +kernel
theorem dL_plans_1370 : decode cL_plans 1370 = .ok (.aload_n 0, 1) := by decide +kernel
theorem dL_plans_1371 : decode cL_plans 1371 = .ok (.invokevirtual 133, 3) := by decide +kernel
theorem dL_plans_1374 : decode cL_plans 1374 = .ok (.bipush 100, 2) := by decide +kernel
theorem dL_plans_1376 : decode cL_plans 1376 = .ok (.if_icmp .ne 138, 3) := by decide +kernel
theorem dL_plans_1379 : decode cL_plans 1379 = .ok (.aload_n 0, 1) := by decide +kernel
theorem dL_plans_1380 : decode cL_plans 1380 = .ok (.invokevirtual 143, 3) := by decide +kernel
theorem dL_plans_1383 : decode cL_plans 1383 = .ok (.bipush 9, 2) := by decide +kernel
theorem dL_plans_1385 : decode cL_plans 1385 = .ok (.if_icmp .ne 129, 3) := by decide +kernel
theorem dL_plans_1388 : decode cL_plans 1388 = .ok (.aload_n 0, 1) := by decide +kernel
theorem dL_plans_1389 : decode cL_plans 1389 = .ok (.bipush 9, 2) := by decide +kernel
theorem dL_plans_1391 : decode cL_plans 1391 = .ok (.invokestatic 198, 3) := by decide +kernel
theorem dL_plans_1394 : decode cL_plans 1394 = .ok (.iconst 1, 1) := by decide +kernel
theorem dL_plans_1395 : decode cL_plans 1395 = .ok (.if_icmp .ne 119, 3) := by decide +kernel
theorem dL_plans_1398 : decode cL_plans 1398 = .ok (.aload_n 0, 1) := by decide +kernel
theorem dL_plans_1399 : decode cL_plans 1399 = .ok (.iconst 2, 1) := by decide +kernel
theorem dL_plans_1400 : decode cL_plans 1400 = .ok (.invokevirtual 112, 3) := by decide +kernel
theorem dL_plans_1403 : decode cL_plans 1403 = .ok (.bipush 103, 2) := by decide +kernel
theorem dL_plans_1405 : decode cL_plans 1405 = .ok (.if_icmp .ne 109, 3) := by decide +kernel
theorem dL_plans_1408 : decode cL_plans 1408 = .ok (.aload_n 0, 1) := by decide +kernel
theorem dL_plans_1409 : decode cL_plans 1409 = .ok (.iconst 3, 1) := by decide +kernel
theorem dL_plans_1410 : decode cL_plans 1410 = .ok (.invokevirtual 115, 3) := by decide +kernel
theorem dL_plans_1413 : decode cL_plans 1413 = .ok (.iconst (-1), 1) := by decide +kernel
theorem dL_plans_1414 : decode cL_plans 1414 = .ok (.if_icmp .ne 100, 3) := by decide +kernel
theorem dL_plans_1417 : decode cL_plans 1417 = .ok (.aload_n 0, 1) := by decide +kernel
theorem dL_plans_1418 : decode cL_plans 1418 = .ok (.iconst 3, 1) := by decide +kernel
theorem dL_plans_1419 : decode cL_plans 1419 = .ok (.bipush 6, 2) := by decide +kernel
theorem dL_plans_1421 : decode cL_plans 1421 = .ok (.bipush 24, 2) := by decide +kernel
theorem dL_plans_1423 : decode cL_plans 1423 = .ok (.bipush 8, 2) := by decide +kernel
theorem dL_plans_1425 : decode cL_plans 1425 = .ok (.invokestatic 195, 3) := by decide +kernel
theorem dL_plans_1428 : decode cL_plans 1428 = .ok (.ifCond .eq 86, 3) := by decide +kernel
theorem dL_plans_1431 : decode cL_plans 1431 = .ok (.aload_n 0, 1) := by decide +kernel
theorem dL_plans_1432 : decode cL_plans 1432 = .ok (.invokevirtual 146, 3) := by decide +kernel
theorem dL_plans_1435 : decode cL_plans 1435 = .ok (.iconst 4, 1) := by decide +kernel
theorem dL_plans_1436 : decode cL_plans 1436 = .ok (.if_icmp .ne 78, 3) := by decide +kernel
theorem dL_plans_1439 : decode cL_plans 1439 = .ok (.aload_n 0, 1) := by decide +kernel
theorem dL_plans_1440 : decode cL_plans 1440 = .ok (.iconst 3, 1) := by decide +kernel
theorem dL_plans_1441 : decode cL_plans 1441 = .ok (.invokevirtual 34, 3) := by decide +kernel
theorem dL_plans_1444 : decode cL_plans 1444 = .ok (.bipush 6, 2) := by decide +kernel
theorem dL_plans_1446 : decode cL_plans 1446 = .ok (.if_icmp .ne 68, 3) := by decide +kernel
theorem dL_plans_1449 : decode cL_plans 1449 = .ok (.aload_n 0, 1) := by decide +kernel
theorem dL_plans_1450 : decode cL_plans 1450 = .ok (.bipush 36, 2) := by decide +kernel
theorem dL_plans_1452 : decode cL_plans 1452 = .ok (.iconst 3, 1) := by decide +kernel
theorem dL_plans_1453 : decode cL_plans 1453 = .ok (.iconst 2, 1) := by decide +kernel
theorem dL_plans_1454 : decode cL_plans 1454 = .ok (.iconst 0, 1) := by decide +kernel
theorem dL_plans_1455 : decode cL_plans 1455 = .ok (.iconst 0, 1) := by decide +kernel
theorem dL_plans_1456 : decode cL_plans 1456 = .ok (.iconst 0, 1) := by decide +kernel
theorem dL_plans_1457 : decode cL_plans 1457 = .ok (.invokestatic 157, 3) := by decide +kernel
theorem dL_plans_1460 : decode cL_plans 1460 = .ok (.iload_n 1, 1) := by decide +kernel
theorem dL_plans_1461 : decode cL_plans 1461 = .ok (.if_icmp .ne 53, 3) := by decide +kernel
theorem dL_plans_1464 : decode cL_plans 1464 = .ok (.aload_n 0, 1) := by decide +kernel
theorem dL_plans_1465 : decode cL_plans 1465 = .ok (.iconst 3, 1) := by decide +kernel
theorem dL_plans_1466 : decode cL_plans 1466 = .ok (.iconst 3, 1) := by decide +kernel
theorem dL_plans_1467 : decode cL_plans 1467 = .ok (.invokevirtual 140, 3) := by decide +kernel
theorem dL_plans_1470 : decode cL_plans 1470 = .ok (.bipush 10, 2) := by decide +kernel
theorem dL_plans_1472 : decode cL_plans 1472 = .ok (.if_icmp .ne 42, 3) := by decide +kernel
theorem dL_plans_1475 : decode cL_plans 1475 = .ok (.aload_n 0, 1) := by decide +kernel
theorem dL_plans_1476 : decode cL_plans 1476 = .ok (.iconst 3, 1) := by decide +kernel
theorem dL_plans_1477 : decode cL_plans 1477 = .ok (.sipush 300, 3) := by decide +kernel
theorem dL_plans_1480 : decode cL_plans 1480 = .ok (.bipush 6, 2) := by decide +kernel
theorem dL_plans_1482 : decode cL_plans 1482 = .ok (.bipush 24, 2) := by decide +kernel
theorem dL_plans_1484 : decode cL_plans 1484 = .ok (.bipush 8, 2) := by decide +kernel
theorem dL_plans_1486 : decode cL_plans 1486 = .ok (.invokestatic 191, 3) := by decide +kernel
theorem dL_plans_1489 : decode cL_plans 1489 = .ok (.ifCond .eq 25, 3) := by decide +kernel
theorem dL_plans_1492 : decode cL_plans 1492 = .ok (.aload_n 0, 1) := by decide +kernel
theorem dL_plans_1493 : decode cL_plans 1493 = .ok (.invokevirtual 149, 3) := by decide +kernel
theorem dL_plans_1496 : decode cL_plans 1496 = .ok (.ifCond .ne 18, 3) := by decide +kernel
theorem dL_plans_1499 : decode cL_plans 1499 = .ok (.aload_n 0, 1) := by decide +kernel
theorem dL_plans_1500 : decode cL_plans 1500 = .ok (.bipush 36, 2) := by decide +kernel
theorem dL_plans_1502 : decode cL_plans 1502 = .ok (.iconst 4, 1) := by decide +kernel
theorem dL_plans_1503 : decode cL_plans 1503 = .ok (.iconst 3, 1) := by decide +kernel
theorem dL_plans_1504 : decode cL_plans 1504 = .ok (.iconst 0, 1) := by decide +kernel
theorem dL_plans_1505 : decode cL_plans 1505 = .ok (.iconst 0, 1) := by decide +kernel
theorem dL_plans_1506 : decode cL_plans 1506 = .ok (.iconst 0, 1) := by decide +kernel
theorem dL_plans_1507 : decode cL_plans 1507 = .ok (.invokestatic 157, 3) := by decide +kernel
theorem dL_plans_1510 : decode cL_plans 1510 = .ok (.iload_n 1, 1) := by decide +kernel
theorem dL_plans_1511 : decode cL_plans 1511 = .ok (.if_icmp .eq 5, 3) := by decide +kernel
theorem dL_plans_1514 : decode cL_plans 1514 = .ok (.iconst 0, 1) := by decide +kernel
theorem dL_plans_1515 : decode cL_plans 1515 = .ok (.ireturn, 1) := by decide +kernel
theorem dL_plans_1516 : decode cL_plans 1516 = .ok (.aload_n 0, 1) := by decide +kernel
theorem dL_plans_1517 : decode cL_plans 1517 = .ok (.iconst 3, 1) := by decide +kernel
theorem dL_plans_1518 : decode cL_plans 1518 = .ok (.iconst 5, 1) := by decide +kernel
theorem dL_plans_1519 : decode cL_plans 1519 = .ok (.invokevirtual 137, 3) := by decide +kernel
theorem dL_plans_1522 : decode cL_plans 1522 = .ok (.bipush 11, 2) := by decide +kernel
theorem dL_plans_1524 : decode cL_plans 1524 = .ok (.if_icmp .ne 165, 3) := by decide +kernel
theorem dL_plans_1527 : decode cL_plans 1527 = .ok (.aload_n 0, 1) := by decide +kernel
theorem dL_plans_1528 : decode cL_plans 1528 = .ok (.bipush 35, 2) := by decide +kernel
theorem dL_plans_1530 : decode cL_plans 1530 = .ok (.iconst 3, 1) := by decide +kernel
theorem dL_plans_1531 : decode cL_plans 1531 = .ok (.iconst 4, 1) := by decide +kernel
theorem dL_plans_1532 : decode cL_plans 1532 = .ok (.iconst 0, 1) := by decide +kernel
theorem dL_plans_1533 : decode cL_plans 1533 = .ok (.iconst 0, 1) := by decide +kernel
theorem dL_plans_1534 : decode cL_plans 1534 = .ok (.iconst 0, 1) := by decide +kernel
theorem dL_plans_1535 : decode cL_plans 1535 = .ok (.invokestatic 157, 3) := by decide +kernel
theorem dL_plans_1538 : decode cL_plans 1538 = .ok (.iload_n 1, 1) := by decide +kernel
theorem dL_plans_1539 : decode cL_plans 1539 = .ok (.if_icmp .ne 150, 3) := by decide +kernel
theorem dL_plans_1542 : decode cL_plans 1542 = .ok (.aload_n 0, 1) := by decide +kernel
theorem dL_plans_1543 : decode cL_plans 1543 = .ok (.bipush 35, 2) := by decide +kernel
theorem dL_plans_1545 : decode cL_plans 1545 = .ok (.iconst 5, 1) := by decide +kernel
theorem dL_plans_1546 : decode cL_plans 1546 = .ok (.iconst 5, 1) := by decide +kernel
theorem dL_plans_1547 : decode cL_plans 1547 = .ok (.iconst 0, 1) := by decide +kernel
theorem dL_plans_1548 : decode cL_plans 1548 = .ok (.iconst 0, 1) := by decide +kernel
theorem dL_plans_1549 : decode cL_plans 1549 = .ok (.iconst 0, 1) := by decide +kernel
theorem dL_plans_1550 : decode cL_plans 1550 = .ok (.invokestatic 157, 3) := by decide +kernel
theorem dL_plans_1553 : decode cL_plans 1553 = .ok (.iload_n 1, 1) := by decide +kernel
theorem dL_plans_1554 : decode cL_plans 1554 = .ok (.if_icmp .ne 135, 3) := by decide +kernel
theorem dL_plans_1557 : decode cL_plans 1557 = .ok (.aload_n 0, 1) := by decide +kernel
theorem dL_plans_1558 : decode cL_plans 1558 = .ok (.iconst 3, 1) := by decide +kernel
theorem dL_plans_1559 : decode cL_plans 1559 = .ok (.invokevirtual 115, 3) := by decide +kernel
theorem dL_plans_1562 : decode cL_plans 1562 = .ok (.iconst (-1), 1) := by decide +kernel
theorem dL_plans_1563 : decode cL_plans 1563 = .ok (.if_icmp .ne 126, 3) := by decide +kernel
theorem dL_plans_1566 : decode cL_plans 1566 = .ok (.aload_n 0, 1) := by decide +kernel
theorem dL_plans_1567 : decode cL_plans 1567 = .ok (.invokevirtual 149, 3) := by decide +kernel
theorem dL_plans_1570 : decode cL_plans 1570 = .ok (.iconst 2, 1) := by decide +kernel
theorem dL_plans_1571 : decode cL_plans 1571 = .ok (.if_icmp .ne 118, 3) := by decide +kernel
theorem dL_plans_1574 : decode cL_plans 1574 = .ok (.aload_n 0, 1) := by decide +kernel
theorem dL_plans_1575 : decode cL_plans 1575 = .ok (.iconst 1, 1) := by decide +kernel
theorem dL_plans_1576 : decode cL_plans 1576 = .ok (.invokevirtual 79, 3) := by decide +kernel
theorem dL_plans_1579 : decode cL_plans 1579 = .ok (.bipush 10, 2) := by decide +kernel
theorem dL_plans_1581 : decode cL_plans 1581 = .ok (.if_icmp .ne 108, 3) := by decide +kernel
theorem dL_plans_1584 : decode cL_plans 1584 = .ok (.aload_n 0, 1) := by decide +kernel
theorem dL_plans_1585 : decode cL_plans 1585 = .ok (.bipush 10, 2) := by decide +kernel
theorem dL_plans_1587 : decode cL_plans 1587 = .ok (.iconst 0, 1) := by decide +kernel
theorem dL_plans_1588 : decode cL_plans 1588 = .ok (.invokevirtual 95, 3) := by decide +kernel
theorem dL_plans_1591 : decode cL_plans 1591 = .ok (.bipush 103, 2) := by decide +kernel
theorem dL_plans_1593 : decode cL_plans 1593 = .ok (.if_icmp .ne 96, 3) := by decide +kernel
theorem dL_plans_1596 : decode cL_plans 1596 = .ok (.aload_n 0, 1) := by decide +kernel
theorem dL_plans_1597 : decode cL_plans 1597 = .ok (.bipush 10, 2) := by decide +kernel
theorem dL_plans_1599 : decode cL_plans 1599 = .ok (.iconst 1, 1) := by decide +kernel
theorem dL_plans_1600 : decode cL_plans 1600 = .ok (.invokevirtual 95, 3) := by decide +kernel
theorem dL_plans_1603 : decode cL_plans 1603 = .ok (.sipush 305, 3) := by decide +kernel
theorem dL_plans_1606 : decode cL_plans 1606 = .ok (.if_icmp .ne 83, 3) := by decide +kernel
theorem dL_plans_1609 : decode cL_plans 1609 = .ok (.aload_n 0, 1) := by decide +kernel
theorem dL_plans_1610 : decode cL_plans 1610 = .ok (.iconst 0, 1) := by decide +kernel
theorem dL_plans_1611 : decode cL_plans 1611 = .ok (.iconst 0, 1) := by decide +kernel
theorem dL_plans_1612 : decode cL_plans 1612 = .ok (.invokevirtual 67, 3) := by decide +kernel
theorem dL_plans_1615 : decode cL_plans 1615 = .ok (.iconst 3, 1) := by decide +kernel
theorem dL_plans_1616 : decode cL_plans 1616 = .ok (.if_icmp .ne 73, 3) := by decide +kernel
theorem dL_plans_1619 : decode cL_plans 1619 = .ok (.aload_n 0, 1) := by decide +kernel
theorem dL_plans_1620 : decode cL_plans 1620 = .ok (.bipush 10, 2) := by decide +kernel
theorem dL_plans_1622 : decode cL_plans 1622 = .ok (.invokevirtual 102, 3) := by decide +kernel
theorem dL_plans_1625 : decode cL_plans 1625 = .ok (.ifCond .eq 64, 3) := by decide +kernel
theorem dL_plans_1628 : decode cL_plans 1628 = .ok (.aload_n 0, 1) := by decide +kernel
theorem dL_plans_1629 : decode cL_plans 1629 = .ok (.invokevirtual 149, 3) := by decide +kernel
theorem dL_plans_1632 : decode cL_plans 1632 = .ok (.iconst 1, 1) := by decide +kernel
theorem dL_plans_1633 : decode cL_plans 1633 = .ok (.if_icmp .ne 56, 3) := by decide +kernel
theorem dL_plans_1636 : decode cL_plans 1636 = .ok (.aload_n 0, 1) := by decide +kernel
theorem dL_plans_1637 : decode cL_plans 1637 = .ok (.iconst 0, 1) := by decide +kernel
theorem dL_plans_1638 : decode cL_plans 1638 = .ok (.iconst 0, 1) := by decide +kernel
theorem dL_plans_1639 : decode cL_plans 1639 = .ok (.iconst 5, 1) := by decide +kernel
theorem dL_plans_1640 : decode cL_plans 1640 = .ok (.invokevirtual 64, 3) := by decide +kernel
theorem dL_plans_1643 : decode cL_plans 1643 = .ok (.iconst 1, 1) := by decide +kernel
theorem dL_plans_1644 : decode cL_plans 1644 = .ok (.if_icmp .ne 45, 3) := by decide +kernel
theorem dL_plans_1647 : decode cL_plans 1647 = .ok (.aload_n 0, 1) := by decide +kernel
theorem dL_plans_1648 : decode cL_plans 1648 = .ok (.invokevirtual 149, 3) := by decide +kernel
theorem dL_plans_1651 : decode cL_plans 1651 = .ok (.ifCond .ne 38, 3) := by decide +kernel
theorem dL_plans_1654 : decode cL_plans 1654 = .ok (.aload_n 0, 1) := by decide +kernel
theorem dL_plans_1655 : decode cL_plans 1655 = .ok (.iconst 0, 1) := by decide +kernel
theorem dL_plans_1656 : decode cL_plans 1656 = .ok (.iconst 0, 1) := by decide +kernel
theorem dL_plans_1657 : decode cL_plans 1657 = .ok (.iconst 4, 1) := by decide +kernel
theorem dL_plans_1658 : decode cL_plans 1658 = .ok (.invokevirtual 64, 3) := by decide +kernel
theorem dL_plans_1661 : decode cL_plans 1661 = .ok (.iconst 2, 1) := by decide +kernel
theorem dL_plans_1662 : decode cL_plans 1662 = .ok (.if_icmp .ne 27, 3) := by decide +kernel
theorem dL_plans_1665 : decode cL_plans 1665 = .ok (.aload_n 0, 1) := by decide +kernel
theorem dL_plans_1666 : decode cL_plans 1666 = .ok (.invokevirtual 149, 3) := by decide +kernel
theorem dL_plans_1669 : decode cL_plans 1669 = .ok (.iconst 1, 1) := by decide +kernel
theorem dL_plans_1670 : decode cL_plans 1670 = .ok (.if_icmp .ne 19, 3) := by decide +kernel
theorem dL_plans_1673 : decode cL_plans 1673 = .ok (.aload_n 0, 1) := by decide +kernel
theorem dL_plans_1674 : decode cL_plans 1674 = .ok (.iconst 4, 1) := by decide +kernel
theorem dL_plans_1675 : decode cL_plans 1675 = .ok (.iconst 0, 1) := by decide +kernel
theorem dL_plans_1676 : decode cL_plans 1676 = .ok (.iconst 1, 1) := by decide +kernel
theorem dL_plans_1677 : decode cL_plans 1677 = .ok (.bipush 11, 2) := by decide +kernel
theorem dL_plans_1679 : decode cL_plans 1679 = .ok (.invokestatic 162, 3) := by decide +kernel
theorem dL_plans_1682 : decode cL_plans 1682 = .ok (.ifCond .eq 7, 3) := by decide +kernel
theorem dL_plans_1685 : decode cL_plans 1685 = .ok (.iconst 1, 1) := by decide +kernel
theorem dL_plans_1686 : decode cL_plans 1686 = .ok (.goto 4, 3) := by decide +kernel
theorem dL_plans_1689 : decode cL_plans 1689 = .ok (.iconst 0, 1) := by decide +kernel
theorem dL_plans_1690 : decode cL_plans 1690 = .ok (.ireturn, 1) := by decide +kernel
