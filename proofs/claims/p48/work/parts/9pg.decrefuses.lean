theorem dL_refuses_1160 : decode cL_refuses 1160 = .ok (.if_icmp .ne 58, 3) := by decide +kernel
theorem dL_refuses_1163 : decode cL_refuses 1163 = .ok (.aload_n 0, 1) := by decide +kernel
theorem dL_refuses_1164 : decode cL_refuses 1164 = .ok (.bipush 18, 2) := by decide +kernel
theorem dL_refuses_1166 : decode cL_refuses 1166 = .ok (.iload 18, 2) := by decide +kernel
theorem dL_refuses_1168 : decode cL_refuses 1168 = .ok (.iconst 0, 1) := by decide +kernel
theorem dL_refuses_1169 : decode cL_refuses 1169 = .ok (.iconst (-1), 1) := by decide +kernel
theorem dL_refuses_1170 : decode cL_refuses 1170 = .ok (.iconst 0, 1) := by decide +kernel
theorem dL_refuses_1171 : decode cL_refuses 1171 = .ok (.iconst 0, 1) := by decide +kernel
theorem dL_refuses_1172 : decode cL_refuses 1172 = .ok (.invokestatic 157, 3) := by decide +kernel
theorem dL_refuses_1175 : decode cL_refuses 1175 = .ok (.bipush (-71), 2) := by decide +kernel
theorem dL_refuses_1177 : decode cL_refuses 1177 = .ok (.if_icmp .ne 41, 3) := by decide +kernel
theorem dL_refuses_1180 : decode cL_refuses 1180 = .ok (.aload_n 0, 1) := by decide +kernel
theorem dL_refuses_1181 : decode cL_refuses 1181 = .ok (.bipush 19, 2) := by decide +kernel
theorem dL_refuses_1183 : decode cL_refuses 1183 = .ok (.iload 12, 2) := by decide +kernel
theorem dL_refuses_1185 : decode cL_refuses 1185 = .ok (.iconst 0, 1) := by decide +kernel
theorem dL_refuses_1186 : decode cL_refuses 1186 = .ok (.iconst 0, 1) := by decide +kernel
theorem dL_refuses_1187 : decode cL_refuses 1187 = .ok (.iconst 0, 1) := by decide +kernel
theorem dL_refuses_1188 : decode cL_refuses 1188 = .ok (.iconst 0, 1) := by decide +kernel
theorem dL_refuses_1189 : decode cL_refuses 1189 = .ok (.invokestatic 157, 3) := by decide +kernel
theorem dL_refuses_1192 : decode cL_refuses 1192 = .ok (.bipush (-71), 2) := by decide +kernel
theorem dL_refuses_1194 : decode cL_refuses 1194 = .ok (.if_icmp .ne 24, 3) := by decide +kernel
theorem dL_refuses_1197 : decode cL_refuses 1197 = .ok (.aload_n 0, 1) := by decide +kernel
theorem dL_refuses_1198 : decode cL_refuses 1198 = .ok (.bipush 20, 2) := by decide +kernel
theorem dL_refuses_1200 : decode cL_refuses 1200 = .ok (.iload 17, 2) := by decide +kernel
theorem dL_refuses_1202 : decode cL_refuses 1202 = .ok (.iconst 0, 1) := by decide +kernel
theorem dL_refuses_1203 : decode cL_refuses 1203 = .ok (.iconst 0, 1) := by decide +kernel
theorem dL_refuses_1204 : decode cL_refuses 1204 = .ok (.iconst 0, 1) := by decide +kernel
theorem dL_refuses_1205 : decode cL_refuses 1205 = .ok (.iconst 0, 1) := by decide +kernel
theorem dL_refuses_1206 : decode cL_refuses 1206 = .ok (.invokestatic 157, 3) := by decide +kernel
theorem dL_refuses_1209 : decode cL_refuses 1209 = .ok (.bipush (-71), 2) := by decide +kernel
theorem dL_refuses_1211 : decode cL_refuses 1211 = .ok (.if_icmp .ne 7, 3) := by decide +kernel
theorem dL_refuses_1214 : decode cL_refuses 1214 = .ok (.iconst 1, 1) := by decide +kernel
theorem dL_refuses_1215 : decode cL_refuses 1215 = .ok (.goto 4, 3) := by decide +kernel
theorem dL_refuses_1218 : decode cL_refuses 1218 = .ok (.iconst 0, 1) := by decide +kernel
theorem dL_refuses_1219 : decode cL_refuses 1219 = .ok (.istore 23, 2) := by decide +kernel
theorem dL_refuses_1221 : decode cL_refuses 1221 = .ok (.iload 23, 2) := by decide +kernel
theorem dL_refuses_1223 : decode cL_refuses 1223 = .ok (.ifCond .eq 574, 3) := by decide +kernel
theorem dL_refuses_1226 : decode cL_refuses 1226 = .ok (.aload_n 0, 1) := by decide +kernel
theorem dL_refuses_1227 : decode cL_refuses 1227 = .ok (.bipush 21, 2) := by decide +kernel
theorem dL_refuses_1229 : decode cL_refuses 1229 = .ok (.iload 12, 2) := by decide +kernel
theorem dL_refuses_1231 : decode cL_refuses 1231 = .ok (.iconst 0, 1) := by decide +kernel
theorem dL_refuses_1232 : decode cL_refuses 1232 = .ok (.iconst 0, 1) := by decide +kernel
theorem dL_refuses_1233 : decode cL_refuses 1233 = .ok (.iconst 0, 1) := by decide +kernel
theorem dL_refuses_1234 : decode cL_refuses 1234 = .ok (.iconst 0, 1) := by decide +kernel
theorem dL_refuses_1235 : decode cL_refuses 1235 = .ok (.invokestatic 157, 3) := by decide +kernel
theorem dL_refuses_1238 : decode cL_refuses 1238 = .ok (.bipush (-71), 2) := by decide +kernel
theorem dL_refuses_1240 : decode cL_refuses 1240 = .ok (.if_icmp .ne 557, 3) := by decide +kernel
theorem dL_refuses_1243 : decode cL_refuses 1243 = .ok (.aload_n 0, 1) := by decide +kernel
theorem dL_refuses_1244 : decode cL_refuses 1244 = .ok (.bipush 22, 2) := by decide +kernel
theorem dL_refuses_1246 : decode cL_refuses 1246 = .ok (.iload 20, 2) := by decide +kernel
theorem dL_refuses_1248 : decode cL_refuses 1248 = .ok (.iconst 0, 1) := by decide +kernel
theorem dL_refuses_1249 : decode cL_refuses 1249 = .ok (.iconst 0, 1) := by decide +kernel
theorem dL_refuses_1250 : decode cL_refuses 1250 = .ok (.iconst 0, 1) := by decide +kernel
theorem dL_refuses_1251 : decode cL_refuses 1251 = .ok (.iconst 0, 1) := by decide +kernel
theorem dL_refuses_1252 : decode cL_refuses 1252 = .ok (.invokestatic 157, 3) := by decide +kernel
theorem dL_refuses_1255 : decode cL_refuses 1255 = .ok (.bipush (-71), 2) := by decide +kernel
theorem dL_refuses_1257 : decode cL_refuses 1257 = .ok (.if_icmp .ne 540, 3) := by decide +kernel
theorem dL_refuses_1260 : decode cL_refuses 1260 = .ok (.aload_n 0, 1) := by decide +kernel
theorem dL_refuses_1261 : decode cL_refuses 1261 = .ok (.bipush 23, 2) := by decide +kernel
theorem dL_refuses_1263 : decode cL_refuses 1263 = .ok (.iload 20, 2) := by decide +kernel
theorem dL_refuses_1265 : decode cL_refuses 1265 = .ok (.iconst 0, 1) := by decide +kernel
theorem dL_refuses_1266 : decode cL_refuses 1266 = .ok (.iconst 0, 1) := by decide +kernel
theorem dL_refuses_1267 : decode cL_refuses 1267 = .ok (.iconst 0, 1) := by decide +kernel
theorem dL_refuses_1268 : decode cL_refuses 1268 = .ok (.iconst 0, 1) := by decide +kernel
theorem dL_refuses_1269 : decode cL_refuses 1269 = .ok (.invokestatic 157, 3) := by decide +kernel
theorem dL_refuses_1272 : decode cL_refuses 1272 = .ok (.bipush (-71), 2) := by decide +kernel
theorem dL_refuses_1274 : decode cL_refuses 1274 = .ok (.if_icmp .ne 523, 3) := by decide +kernel
theorem dL_refuses_1277 : decode cL_refuses 1277 = .ok (.aload_n 0, 1) := by decide +kernel
theorem dL_refuses_1278 : decode cL_refuses 1278 = .ok (.bipush 24, 2) := by decide +kernel
theorem dL_refuses_1280 : decode cL_refuses 1280 = .ok (.iload 20, 2) := by decide +kernel
theorem dL_refuses_1282 : decode cL_refuses 1282 = .ok (.iconst 0, 1) := by decide +kernel
theorem dL_refuses_1283 : decode cL_refuses 1283 = .ok (.iconst 0, 1) := by decide +kernel
theorem dL_refuses_1284 : decode cL_refuses 1284 = .ok (.iconst 0, 1) := by decide +kernel
theorem dL_refuses_1285 : decode cL_refuses 1285 = .ok (.iconst 0, 1) := by decide +kernel
theorem dL_refuses_1286 : decode cL_refuses 1286 = .ok (.invokestatic 157, 3) := by decide +kernel
theorem dL_refuses_1289 : decode cL_refuses 1289 = .ok (.bipush (-71), 2) := by decide +kernel
theorem dL_refuses_1291 : decode cL_refuses 1291 = .ok (.if_icmp .ne 506, 3) := by decide +kernel
theorem dL_refuses_1294 : decode cL_refuses 1294 = .ok (.aload_n 0, 1) := by decide +kernel
theorem dL_refuses_1295 : decode cL_refuses 1295 = .ok (.bipush 25, 2) := by decide +kernel
theorem dL_refuses_1297 : decode cL_refuses 1297 = .ok (.iload 20, 2) := by decide +kernel
theorem dL_refuses_1299 : decode cL_refuses 1299 = .ok (.iconst 0, 1) := by decide +kernel
theorem dL_refuses_1300 : decode cL_refuses 1300 = .ok (.iconst 0, 1) := by decide +kernel
theorem dL_refuses_1301 : decode cL_refuses 1301 = .ok (.iconst 0, 1) := by decide +kernel
theorem dL_refuses_1302 : decode cL_refuses 1302 = .ok (.iconst 0, 1) := by decide +kernel
theorem dL_refuses_1303 : decode cL_refuses 1303 = .ok (.invokestatic 157, 3) := by decide +kernel
theorem dL_refuses_1306 : decode cL_refuses 1306 = .ok (.bipush (-71), 2) := by decide +kernel
theorem dL_refuses_1308 : decode cL_refuses 1308 = .ok (.if_icmp .ne 489, 3) := by decide +kernel
theorem dL_refuses_1311 : decode cL_refuses 1311 = .ok (.aload_n 0, 1) := by decide +kernel
theorem dL_refuses_1312 : decode cL_refuses 1312 = .ok (.bipush 26, 2) := by decide +kernel
theorem dL_refuses_1314 : decode cL_refuses 1314 = .ok (.iload 20, 2) := by decide +kernel
theorem dL_refuses_1316 : decode cL_refuses 1316 = .ok (.iconst 0, 1) := by decide +kernel
theorem dL_refuses_1317 : decode cL_refuses 1317 = .ok (.iconst 0, 1) := by decide +kernel
theorem dL_refuses_1318 : decode cL_refuses 1318 = .ok (.iconst 0, 1) := by decide +kernel
theorem dL_refuses_1319 : decode cL_refuses 1319 = .ok (.iconst 0, 1) := by decide +kernel
theorem dL_refuses_1320 : decode cL_refuses 1320 = .ok (.invokestatic 157, 3) := by decide +kernel
theorem dL_refuses_1323 : decode cL_refuses 1323 = .ok (.bipush (-71), 2) := by decide +kernel
theorem dL_refuses_1325 : decode cL_refuses 1325 = .ok (.if_icmp .ne 472, 3) := by decide +kernel
theorem dL_refuses_1328 : decode cL_refuses 1328 = .ok (.aload_n 0, 1) := by decide +kernel
theorem dL_refuses_1329 : decode cL_refuses 1329 = .ok (.bipush 27, 2) := by decide +kernel
theorem dL_refuses_1331 : decode cL_refuses 1331 = .ok (.iload 10, 2) := by decide +kernel
theorem dL_refuses_1333 : decode cL_refuses 1333 = .ok (.iconst 1, 1) := by decide +kernel
theorem dL_refuses_1334 : decode cL_refuses 1334 = .ok (.if_icmp .ne 7, 3) := by decide +kernel
theorem dL_refuses_1337 : decode cL_refuses 1337 = .ok (.iconst 3, 1) := by decide +kernel
theorem dL_refuses_1338 : decode cL_refuses 1338 = .ok (.goto 5, 3) := by decide +kernel
theorem dL_refuses_1341 : decode cL_refuses 1341 = .ok (.iload 11, 2) := by decide +kernel
theorem dL_refuses_1343 : decode cL_refuses 1343 = .ok (.iconst 0, 1) := by decide +kernel
theorem dL_refuses_1344 : decode cL_refuses 1344 = .ok (.iconst 0, 1) := by decide +kernel
theorem dL_refuses_1345 : decode cL_refuses 1345 = .ok (.iconst 0, 1) := by decide +kernel
theorem dL_refuses_1346 : decode cL_refuses 1346 = .ok (.iconst 0, 1) := by decide +kernel
theorem dL_refuses_1347 : decode cL_refuses 1347 = .ok (.invokestatic 157, 3) := by decide +kernel
theorem dL_refuses_1350 : decode cL_refuses 1350 = .ok (.bipush (-72), 2) := by decide +kernel
theorem dL_refuses_1352 : decode cL_refuses 1352 = .ok (.if_icmp .ne 445, 3) := by decide +kernel
theorem dL_refuses_1355 : decode cL_refuses 1355 = .ok (.aload_n 0, 1) := by decide +kernel
theorem dL_refuses_1356 : decode cL_refuses 1356 = .ok (.bipush 28, 2) := by decide +kernel
theorem dL_refuses_1358 : decode cL_refuses 1358 = .ok (.iload 17, 2) := by decide +kernel
theorem dL_refuses_1360 : decode cL_refuses 1360 = .ok (.iconst 0, 1) := by decide +kernel
theorem dL_refuses_1361 : decode cL_refuses 1361 = .ok (.iconst 0, 1) := by decide +kernel
theorem dL_refuses_1362 : decode cL_refuses 1362 = .ok (.iconst 0, 1) := by decide +kernel
theorem dL_refuses_1363 : decode cL_refuses 1363 = .ok (.iconst 0, 1) := by decide +kernel
theorem dL_refuses_1364 : decode cL_refuses 1364 = .ok (.invokestatic 157, 3) := by decide +kernel
theorem dL_refuses_1367 : decode cL_refuses 1367 = .ok (.bipush (-71), 2) := by decide +kernel
theorem dL_refuses_1369 : decode cL_refuses 1369 = .ok (.if_icmp .ne 428, 3) := by decide +kernel
theorem dL_refuses_1372 : decode cL_refuses 1372 = .ok (.aload_n 0, 1) := by decide +kernel
theorem dL_refuses_1373 : decode cL_refuses 1373 = .ok (.bipush 29, 2) := by decide +kernel
theorem dL_refuses_1375 : decode cL_refuses 1375 = .ok (.iload 17, 2) := by decide +kernel
theorem dL_refuses_1377 : decode cL_refuses 1377 = .ok (.iconst 0, 1) := by decide +kernel
theorem dL_refuses_1378 : decode cL_refuses 1378 = .ok (.iconst 0, 1) := by decide +kernel
theorem dL_refuses_1379 : decode cL_refuses 1379 = .ok (.iconst 0, 1) := by decide +kernel
theorem dL_refuses_1380 : decode cL_refuses 1380 = .ok (.iconst 0, 1) := by decide +kernel
theorem dL_refuses_1381 : decode cL_refuses 1381 = .ok (.invokestatic 157, 3) := by decide +kernel
theorem dL_refuses_1384 : decode cL_refuses 1384 = .ok (.bipush (-71), 2) := by decide +kernel
theorem dL_refuses_1386 : decode cL_refuses 1386 = .ok (.if_icmp .ne 411, 3) := by decide +kernel
theorem dL_refuses_1389 : decode cL_refuses 1389 = .ok (.aload_n 0, 1) := by decide +kernel
theorem dL_refuses_1390 : decode cL_refuses 1390 = .ok (.bipush 30, 2) := by decide +kernel
theorem dL_refuses_1392 : decode cL_refuses 1392 = .ok (.iload 19, 2) := by decide +kernel
theorem dL_refuses_1394 : decode cL_refuses 1394 = .ok (.iconst 0, 1) := by decide +kernel
theorem dL_refuses_1395 : decode cL_refuses 1395 = .ok (.iconst 0, 1) := by decide +kernel
theorem dL_refuses_1396 : decode cL_refuses 1396 = .ok (.iconst 0, 1) := by decide +kernel
theorem dL_refuses_1397 : decode cL_refuses 1397 = .ok (.iconst 0, 1) := by decide +kernel
theorem dL_refuses_1398 : decode cL_refuses 1398 = .ok (.invokestatic 157, 3) := by decide +kernel
theorem dL_refuses_1401 : decode cL_refuses 1401 = .ok (.bipush (-71), 2) := by decide +kernel
theorem dL_refuses_1403 : decode cL_refuses 1403 = .ok (.if_icmp .ne 394, 3) := by decide +kernel
theorem dL_refuses_1406 : decode cL_refuses 1406 = .ok (.aload_n 0, 1) := by decide +kernel
theorem dL_refuses_1407 : decode cL_refuses 1407 = .ok (.bipush 31, 2) := by decide +kernel
theorem dL_refuses_1409 : decode cL_refuses 1409 = .ok (.iload 19, 2) := by decide +kernel
theorem dL_refuses_1411 : decode cL_refuses 1411 = .ok (.iconst 0, 1) := by decide +kernel
theorem dL_refuses_1412 : decode cL_refuses 1412 = .ok (.iconst (-1), 1) := by decide +kernel
theorem dL_refuses_1413 : decode cL_refuses 1413 = .ok (.iconst 0, 1) := by decide +kernel
theorem dL_refuses_1414 : decode cL_refuses 1414 = .ok (.iconst 0, 1) := by decide +kernel
theorem dL_refuses_1415 : decode cL_refuses 1415 = .ok (.invokestatic 157, 3) := by decide +kernel
theorem dL_refuses_1418 : decode cL_refuses 1418 = .ok (.bipush (-71), 2) := by decide +kernel
theorem dL_refuses_1420 : decode cL_refuses 1420 = .ok (.if_icmp .ne 377, 3) := by decide +kernel
theorem dL_refuses_1423 : decode cL_refuses 1423 = .ok (.aload_n 0, 1) := by decide +kernel
theorem dL_refuses_1424 : decode cL_refuses 1424 = .ok (.bipush 32, 2) := by decide +kernel
theorem dL_refuses_1426 : decode cL_refuses 1426 = .ok (.iload 19, 2) := by decide +kernel
theorem dL_refuses_1428 : decode cL_refuses 1428 = .ok (.iconst 0, 1) := by decide +kernel
theorem dL_refuses_1429 : decode cL_refuses 1429 = .ok (.iconst 0, 1) := by decide +kernel
theorem dL_refuses_1430 : decode cL_refuses 1430 = .ok (.iconst 0, 1) := by decide +kernel
theorem dL_refuses_1431 : decode cL_refuses 1431 = .ok (.iconst 0, 1) := by decide +kernel
theorem dL_refuses_1432 : decode cL_refuses 1432 = .ok (.invokestatic 157, 3) := by decide +kernel
theorem dL_refuses_1435 : decode cL_refuses 1435 = .ok (.bipush (-71), 2) := by decide +kernel
theorem dL_refuses_1437 : decode cL_refuses 1437 = .ok (.if_icmp .ne 360, 3) := by decide +kernel
theorem dL_refuses_1440 : decode cL_refuses 1440 = .ok (.aload_n 0, 1) := by decide +kernel
theorem dL_refuses_1441 : decode cL_refuses 1441 = .ok (.bipush 33, 2) := by decide +kernel
theorem dL_refuses_1443 : decode cL_refuses 1443 = .ok (.iload 12, 2) := by decide +kernel
theorem dL_refuses_1445 : decode cL_refuses 1445 = .ok (.iconst 0, 1) := by decide +kernel
theorem dL_refuses_1446 : decode cL_refuses 1446 = .ok (.iconst 0, 1) := by decide +kernel
theorem dL_refuses_1447 : decode cL_refuses 1447 = .ok (.iconst 0, 1) := by decide +kernel
theorem dL_refuses_1448 : decode cL_refuses 1448 = .ok (.iconst 0, 1) := by decide +kernel
theorem dL_refuses_1449 : decode cL_refuses 1449 = .ok (.invokestatic 157, 3) := by decide +kernel
theorem dL_refuses_1452 : decode cL_refuses 1452 = .ok (.bipush (-71), 2) := by decide +kernel
theorem dL_refuses_1454 : decode cL_refuses 1454 = .ok (.if_icmp .ne 343, 3) := by decide +kernel
theorem dL_refuses_1457 : decode cL_refuses 1457 = .ok (.aload_n 0, 1) := by decide +kernel
theorem dL_refuses_1458 : decode cL_refuses 1458 = .ok (.bipush 35, 2) := by decide +kernel
theorem dL_refuses_1460 : decode cL_refuses 1460 = .ok (.iload 17, 2) := by decide +kernel
theorem dL_refuses_1462 : decode cL_refuses 1462 = .ok (.iconst 0, 1) := by decide +kernel
theorem dL_refuses_1463 : decode cL_refuses 1463 = .ok (.iconst 0, 1) := by decide +kernel
theorem dL_refuses_1464 : decode cL_refuses 1464 = .ok (.iconst 0, 1) := by decide +kernel
theorem dL_refuses_1465 : decode cL_refuses 1465 = .ok (.iconst 0, 1) := by decide +kernel
theorem dL_refuses_1466 : decode cL_refuses 1466 = .ok (.invokestatic 157, 3) := by decide +kernel
theorem dL_refuses_1469 : decode cL_refuses 1469 = .ok (.bipush (-71), 2) := by decide +kernel
theorem dL_refuses_1471 : decode cL_refuses 1471 = .ok (.if_icmp .ne 326, 3) := by decide +kernel
theorem dL_refuses_1474 : decode cL_refuses 1474 = .ok (.aload_n 0, 1) := by decide +kernel
theorem dL_refuses_1475 : decode cL_refuses 1475 = .ok (.bipush 36, 2) := by decide +kernel
theorem dL_refuses_1477 : decode cL_refuses 1477 = .ok (.iload 17, 2) := by decide +kernel
theorem dL_refuses_1479 : decode cL_refuses 1479 = .ok (.iconst 0, 1) := by decide +kernel
theorem dL_refuses_1480 : decode cL_refuses 1480 = .ok (.iconst 0, 1) := by decide +kernel
theorem dL_refuses_1481 : decode cL_refuses 1481 = .ok (.iconst 0, 1) := by decide +kernel
theorem dL_refuses_1482 : decode cL_refuses 1482 = .ok (.iconst 0, 1) := by decide +kernel
theorem dL_refuses_1483 : decode cL_refuses 1483 = .ok (.invokestatic 157, 3) := by decide +kernel
theorem dL_refuses_1486 : decode cL_refuses 1486 = .ok (.bipush (-71), 2) := by decide +kernel
theorem dL_refuses_1488 : decode cL_refuses 1488 = .ok (.if_icmp .ne 309, 3) := by decide +kernel
theorem dL_refuses_1491 : decode cL_refuses 1491 = .ok (.iload 6, 2) := by decide +kernel
theorem dL_refuses_1493 : decode cL_refuses 1493 = .ok (.ifCond .eq 66, 3) := by decide +kernel
theorem dL_refuses_1496 : decode cL_refuses 1496 = .ok (.aload_n 0, 1) := by decide +kernel
theorem dL_refuses_1497 : decode cL_refuses 1497 = .ok (.bipush 30, 2) := by decide +kernel
theorem dL_refuses_1499 : decode cL_refuses 1499 = .ok (.iconst 0, 1) := by decide +kernel
theorem dL_refuses_1500 : decode cL_refuses 1500 = .ok (.iload 12, 2) := by decide +kernel
theorem dL_refuses_1502 : decode cL_refuses 1502 = .ok (.iconst 0, 1) := by decide +kernel
theorem dL_refuses_1503 : decode cL_refuses 1503 = .ok (.iconst 0, 1) := by decide +kernel
theorem dL_refuses_1504 : decode cL_refuses 1504 = .ok (.iconst 0, 1) := by decide +kernel
theorem dL_refuses_1505 : decode cL_refuses 1505 = .ok (.invokestatic 157, 3) := by decide +kernel
theorem dL_refuses_1508 : decode cL_refuses 1508 = .ok (.bipush (-71), 2) := by decide +kernel
theorem dL_refuses_1510 : decode cL_refuses 1510 = .ok (.if_icmp .ne 287, 3) := by decide +kernel
theorem dL_refuses_1513 : decode cL_refuses 1513 = .ok (.aload_n 0, 1) := by decide +kernel
theorem dL_refuses_1514 : decode cL_refuses 1514 = .ok (.bipush 31, 2) := by decide +kernel
theorem dL_refuses_1516 : decode cL_refuses 1516 = .ok (.iconst 0, 1) := by decide +kernel
theorem dL_refuses_1517 : decode cL_refuses 1517 = .ok (.iload 12, 2) := by decide +kernel
theorem dL_refuses_1519 : decode cL_refuses 1519 = .ok (.iconst 0, 1) := by decide +kernel
theorem dL_refuses_1520 : decode cL_refuses 1520 = .ok (.iconst 0, 1) := by decide +kernel
theorem dL_refuses_1521 : decode cL_refuses 1521 = .ok (.iconst 0, 1) := by decide +kernel
theorem dL_refuses_1522 : decode cL_refuses 1522 = .ok (.invokestatic 157, 3) := by decide +kernel
theorem dL_refuses_1525 : decode cL_refuses 1525 = .ok (.bipush (-71), 2) := by decide +kernel
theorem dL_refuses_1527 : decode cL_refuses 1527 = .ok (.if_icmp .ne 270, 3) := by decide +kernel
theorem dL_refuses_1530 : decode cL_refuses 1530 = .ok (.aload_n 0, 1) := by decide +kernel
theorem dL_refuses_1531 : decode cL_refuses 1531 = .ok (.bipush 31, 2) := by decide +kernel
theorem dL_refuses_1533 : decode cL_refuses 1533 = .ok (.iconst 0, 1) := by decide +kernel
theorem dL_refuses_1534 : decode cL_refuses 1534 = .ok (.iconst 0, 1) := by decide +kernel
theorem dL_refuses_1535 : decode cL_refuses 1535 = .ok (.iload 10, 2) := by decide +kernel
theorem dL_refuses_1537 : decode cL_refuses 1537 = .ok (.iconst 1, 1) := by decide +kernel
theorem dL_refuses_1538 : decode cL_refuses 1538 = .ok (.if_icmp .ne 9, 3) := by decide +kernel
theorem dL_refuses_1541 : decode cL_refuses 1541 = .ok (.sipush 256, 3) := by decide +kernel
theorem dL_refuses_1544 : decode cL_refuses 1544 = .ok (.goto 5, 3) := by decide +kernel
theorem dL_refuses_1547 : decode cL_refuses 1547 = .ok (.iload 11, 2) := by decide +kernel
theorem dL_refuses_1549 : decode cL_refuses 1549 = .ok (.iconst 0, 1) := by decide +kernel
theorem dL_refuses_1550 : decode cL_refuses 1550 = .ok (.iconst 0, 1) := by decide +kernel
theorem dL_refuses_1551 : decode cL_refuses 1551 = .ok (.invokestatic 157, 3) := by decide +kernel
theorem dL_refuses_1554 : decode cL_refuses 1554 = .ok (.bipush (-72), 2) := by decide +kernel
theorem dL_refuses_1556 : decode cL_refuses 1556 = .ok (.if_icmp .ne 241, 3) := by decide +kernel
theorem dL_refuses_1559 : decode cL_refuses 1559 = .ok (.iload_n 3, 1) := by decide +kernel
theorem dL_refuses_1560 : decode cL_refuses 1560 = .ok (.ifCond .eq 182, 3) := by decide +kernel
theorem dL_refuses_1563 : decode cL_refuses 1563 = .ok (.aload_n 0, 1) := by decide +kernel
theorem dL_refuses_1564 : decode cL_refuses 1564 = .ok (.bipush 16, 2) := by decide +kernel
theorem dL_refuses_1566 : decode cL_refuses 1566 = .ok (.iconst 0, 1) := by decide +kernel
theorem dL_refuses_1567 : decode cL_refuses 1567 = .ok (.iload 10, 2) := by decide +kernel
theorem dL_refuses_1569 : decode cL_refuses 1569 = .ok (.iconst 1, 1) := by decide +kernel
theorem dL_refuses_1570 : decode cL_refuses 1570 = .ok (.if_icmp .ne 8, 3) := by decide +kernel
theorem dL_refuses_1573 : decode cL_refuses 1573 = .ok (.bipush 9, 2) := by decide +kernel
theorem dL_refuses_1575 : decode cL_refuses 1575 = .ok (.goto 5, 3) := by decide +kernel
theorem dL_refuses_1578 : decode cL_refuses 1578 = .ok (.iload 11, 2) := by decide +kernel
theorem dL_refuses_1580 : decode cL_refuses 1580 = .ok (.iconst 0, 1) := by decide +kernel
theorem dL_refuses_1581 : decode cL_refuses 1581 = .ok (.iconst 0, 1) := by decide +kernel
theorem dL_refuses_1582 : decode cL_refuses 1582 = .ok (.iconst 0, 1) := by decide +kernel
theorem dL_refuses_1583 : decode cL_refuses 1583 = .ok (.invokestatic 157, 3) := by decide +kernel
theorem dL_refuses_1586 : decode cL_refuses 1586 = .ok (.bipush (-71), 2) := by decide +kernel
theorem dL_refuses_1588 : decode cL_refuses 1588 = .ok (.if_icmp .ne 209, 3) := by decide +kernel
theorem dL_refuses_1591 : decode cL_refuses 1591 = .ok (.aload_n 0, 1) := by decide +kernel
theorem dL_refuses_1592 : decode cL_refuses 1592 = .ok (.bipush 16, 2) := by decide +kernel
theorem dL_refuses_1594 : decode cL_refuses 1594 = .ok (.iconst 0, 1) := by decide +kernel
theorem dL_refuses_1595 : decode cL_refuses 1595 = .ok (.iconst 0, 1) := by decide +kernel
theorem dL_refuses_1596 : decode cL_refuses 1596 = .ok (.iload 10, 2) := by decide +kernel
theorem dL_refuses_1598 : decode cL_refuses 1598 = .ok (.iconst 1, 1) := by decide +kernel
theorem dL_refuses_1599 : decode cL_refuses 1599 = .ok (.if_icmp .ne 8, 3) := by decide +kernel
theorem dL_refuses_1602 : decode cL_refuses 1602 = .ok (.bipush 16, 2) := by decide +kernel
theorem dL_refuses_1604 : decode cL_refuses 1604 = .ok (.goto 5, 3) := by decide +kernel
theorem dL_refuses_1607 : decode cL_refuses 1607 = .ok (.iload 11, 2) := by decide +kernel
theorem dL_refuses_1609 : decode cL_refuses 1609 = .ok (.iconst 0, 1) := by decide +kernel
theorem dL_refuses_1610 : decode cL_refuses 1610 = .ok (.iconst 0, 1) := by decide +kernel
theorem dL_refuses_1611 : decode cL_refuses 1611 = .ok (.invokestatic 157, 3) := by decide +kernel
theorem dL_refuses_1614 : decode cL_refuses 1614 = .ok (.bipush (-72), 2) := by decide +kernel
theorem dL_refuses_1616 : decode cL_refuses 1616 = .ok (.if_icmp .ne 181, 3) := by decide +kernel
theorem dL_refuses_1619 : decode cL_refuses 1619 = .ok (.aload_n 0, 1) := by decide +kernel
theorem dL_refuses_1620 : decode cL_refuses 1620 = .ok (.bipush 17, 2) := by decide +kernel
theorem dL_refuses_1622 : decode cL_refuses 1622 = .ok (.iconst 0, 1) := by decide +kernel
theorem dL_refuses_1623 : decode cL_refuses 1623 = .ok (.iload 10, 2) := by decide +kernel
theorem dL_refuses_1625 : decode cL_refuses 1625 = .ok (.iconst 1, 1) := by decide +kernel
theorem dL_refuses_1626 : decode cL_refuses 1626 = .ok (.if_icmp .ne 8, 3) := by decide +kernel
theorem dL_refuses_1629 : decode cL_refuses 1629 = .ok (.bipush 8, 2) := by decide +kernel
theorem dL_refuses_1631 : decode cL_refuses 1631 = .ok (.goto 5, 3) := by decide +kernel
theorem dL_refuses_1634 : decode cL_refuses 1634 = .ok (.iload 11, 2) := by decide +kernel
theorem dL_refuses_1636 : decode cL_refuses 1636 = .ok (.iconst 0, 1) := by decide +kernel
theorem dL_refuses_1637 : decode cL_refuses 1637 = .ok (.iconst 0, 1) := by decide +kernel
theorem dL_refuses_1638 : decode cL_refuses 1638 = .ok (.iconst 0, 1) := by decide +kernel
theorem dL_refuses_1639 : decode cL_refuses 1639 = .ok (.invokestatic 157, 3) := by decide +kernel
theorem dL_refuses_1642 : decode cL_refuses 1642 = .ok (.bipush (-71), 2) := by decide +kernel
theorem dL_refuses_1644 : decode cL_refuses 1644 = .ok (.if_icmp .ne 153, 3) := by decide +kernel
theorem dL_refuses_1647 : decode cL_refuses 1647 = .ok (.aload_n 0, 1) := by decide +kernel
theorem dL_refuses_1648 : decode cL_refuses 1648 = .ok (.bipush 18, 2) := by decide +kernel
theorem dL_refuses_1650 : decode cL_refuses 1650 = .ok (.iconst 0, 1) := by decide +kernel
theorem dL_refuses_1651 : decode cL_refuses 1651 = .ok (.iload 12, 2) := by decide +kernel
theorem dL_refuses_1653 : decode cL_refuses 1653 = .ok (.iconst (-1), 1) := by decide +kernel
theorem dL_refuses_1654 : decode cL_refuses 1654 = .ok (.iconst 0, 1) := by decide +kernel
theorem dL_refuses_1655 : decode cL_refuses 1655 = .ok (.iconst 0, 1) := by decide +kernel
theorem dL_refuses_1656 : decode cL_refuses 1656 = .ok (.invokestatic 157, 3) := by decide +kernel
theorem dL_refuses_1659 : decode cL_refuses 1659 = .ok (.bipush (-71), 2) := by decide +kernel
theorem dL_refuses_1661 : decode cL_refuses 1661 = .ok (.if_icmp .ne 136, 3) := by decide +kernel
theorem dL_refuses_1664 : decode cL_refuses 1664 = .ok (.aload_n 0, 1) := by decide +kernel
theorem dL_refuses_1665 : decode cL_refuses 1665 = .ok (.bipush 18, 2) := by decide +kernel
theorem dL_refuses_1667 : decode cL_refuses 1667 = .ok (.iconst 0, 1) := by decide +kernel
theorem dL_refuses_1668 : decode cL_refuses 1668 = .ok (.iconst 0, 1) := by decide +kernel
theorem dL_refuses_1669 : decode cL_refuses 1669 = .ok (.iload 10, 2) := by decide +kernel
theorem dL_refuses_1671 : decode cL_refuses 1671 = .ok (.ifCond .ne 8, 3) := by decide +kernel
theorem dL_refuses_1674 : decode cL_refuses 1674 = .ok (.bipush (-2), 2) := by decide +kernel
theorem dL_refuses_1676 : decode cL_refuses 1676 = .ok (.goto 5, 3) := by decide +kernel
theorem dL_refuses_1679 : decode cL_refuses 1679 = .ok (.iload 15, 2) := by decide +kernel
theorem dL_refuses_1681 : decode cL_refuses 1681 = .ok (.iconst 0, 1) := by decide +kernel
theorem dL_refuses_1682 : decode cL_refuses 1682 = .ok (.iconst 0, 1) := by decide +kernel
theorem dL_refuses_1683 : decode cL_refuses 1683 = .ok (.invokestatic 157, 3) := by decide +kernel
theorem dL_refuses_1686 : decode cL_refuses 1686 = .ok (.bipush (-71), 2) := by decide +kernel
theorem dL_refuses_1688 : decode cL_refuses 1688 = .ok (.if_icmp .ne 109, 3) := by decide +kernel
theorem dL_refuses_1691 : decode cL_refuses 1691 = .ok (.aload_n 0, 1) := by decide +kernel
theorem dL_refuses_1692 : decode cL_refuses 1692 = .ok (.bipush 20, 2) := by decide +kernel
theorem dL_refuses_1694 : decode cL_refuses 1694 = .ok (.iconst 0, 1) := by decide +kernel
theorem dL_refuses_1695 : decode cL_refuses 1695 = .ok (.iload 12, 2) := by decide +kernel
theorem dL_refuses_1697 : decode cL_refuses 1697 = .ok (.iconst 0, 1) := by decide +kernel
theorem dL_refuses_1698 : decode cL_refuses 1698 = .ok (.iconst 0, 1) := by decide +kernel
theorem dL_refuses_1699 : decode cL_refuses 1699 = .ok (.iconst 0, 1) := by decide +kernel
theorem dL_refuses_1700 : decode cL_refuses 1700 = .ok (.invokestatic 157, 3) := by decide +kernel
theorem dL_refuses_1703 : decode cL_refuses 1703 = .ok (.bipush (-71), 2) := by decide +kernel
theorem dL_refuses_1705 : decode cL_refuses 1705 = .ok (.if_icmp .ne 92, 3) := by decide +kernel
theorem dL_refuses_1708 : decode cL_refuses 1708 = .ok (.aload_n 0, 1) := by decide +kernel
theorem dL_refuses_1709 : decode cL_refuses 1709 = .ok (.bipush 35, 2) := by decide +kernel
theorem dL_refuses_1711 : decode cL_refuses 1711 = .ok (.iconst 0, 1) := by decide +kernel
theorem dL_refuses_1712 : decode cL_refuses 1712 = .ok (.iload 17, 2) := by decide +kernel
theorem dL_refuses_1714 : decode cL_refuses 1714 = .ok (.iconst 0, 1) := by decide +kernel
theorem dL_refuses_1715 : decode cL_refuses 1715 = .ok (.iconst 0, 1) := by decide +kernel
theorem dL_refuses_1716 : decode cL_refuses 1716 = .ok (.iconst 0, 1) := by decide +kernel
theorem dL_refuses_1717 : decode cL_refuses 1717 = .ok (.invokestatic 157, 3) := by decide +kernel
theorem dL_refuses_1720 : decode cL_refuses 1720 = .ok (.bipush (-71), 2) := by decide +kernel
theorem dL_refuses_1722 : decode cL_refuses 1722 = .ok (.if_icmp .ne 75, 3) := by decide +kernel
