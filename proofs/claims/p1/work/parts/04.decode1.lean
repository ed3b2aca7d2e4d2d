theorem dL_law_1113 : decode cL_law 1113 = .ok (.iadd, 1) := by decide +kernel
theorem dL_law_1114 : decode cL_law 1114 = .ok (.iaload, 1) := by decide +kernel
theorem dL_law_1115 : decode cL_law 1115 = .ok (.invokevirtual 170, 3) := by decide +kernel
theorem dL_law_1118 : decode cL_law 1118 = .ok (.istore 7, 2) := by decide +kernel
theorem dL_law_1120 : decode cL_law 1120 = .ok (.aload_n 2, 1) := by decide +kernel
theorem dL_law_1121 : decode cL_law 1121 = .ok (.invokevirtual 112, 3) := by decide +kernel
theorem dL_law_1124 : decode cL_law 1124 = .ok (.iload 6, 2) := by decide +kernel
theorem dL_law_1126 : decode cL_law 1126 = .ok (.if_icmp .eq 5, 3) := by decide +kernel
theorem dL_law_1131 : decode cL_law 1131 = .ok (.iload 6, 2) := by decide +kernel
theorem dL_law_1133 : decode cL_law 1133 = .ok (.ifCond .ne 15, 3) := by decide +kernel
theorem dL_law_1148 : decode cL_law 1148 = .ok (.goto 581, 3) := by decide +kernel
theorem dL_law_1151 : decode cL_law 1151 = .ok (.aload_n 1, 1) := by decide +kernel
theorem dL_law_1152 : decode cL_law 1152 = .ok (.aload_n 0, 1) := by decide +kernel
theorem dL_law_1153 : decode cL_law 1153 = .ok (.iload 5, 2) := by decide +kernel
theorem dL_law_1155 : decode cL_law 1155 = .ok (.iconst 1, 1) := by decide +kernel
theorem dL_law_1156 : decode cL_law 1156 = .ok (.iadd, 1) := by decide +kernel
theorem dL_law_1157 : decode cL_law 1157 = .ok (.iaload, 1) := by decide +kernel
theorem dL_law_1158 : decode cL_law 1158 = .ok (.aload_n 0, 1) := by decide +kernel
theorem dL_law_1159 : decode cL_law 1159 = .ok (.iload 5, 2) := by decide +kernel
theorem dL_law_1161 : decode cL_law 1161 = .ok (.iconst 2, 1) := by decide +kernel
theorem dL_law_1162 : decode cL_law 1162 = .ok (.iadd, 1) := by decide +kernel
theorem dL_law_1163 : decode cL_law 1163 = .ok (.iaload, 1) := by decide +kernel
theorem dL_law_1164 : decode cL_law 1164 = .ok (.aload_n 3, 1) := by decide +kernel
theorem dL_law_1165 : decode cL_law 1165 = .ok (.invokestatic 171, 3) := by decide +kernel
theorem dL_law_1168 : decode cL_law 1168 = .ok (.istore 6, 2) := by decide +kernel
theorem dL_law_1170 : decode cL_law 1170 = .ok (.aload_n 2, 1) := by decide +kernel
theorem dL_law_1171 : decode cL_law 1171 = .ok (.aload_n 0, 1) := by decide +kernel
theorem dL_law_1172 : decode cL_law 1172 = .ok (.iload 5, 2) := by decide +kernel
theorem dL_law_1174 : decode cL_law 1174 = .ok (.iconst 1, 1) := by decide +kernel
theorem dL_law_1175 : decode cL_law 1175 = .ok (.iadd, 1) := by decide +kernel
theorem dL_law_1176 : decode cL_law 1176 = .ok (.iaload, 1) := by decide +kernel
theorem dL_law_1177 : decode cL_law 1177 = .ok (.aload_n 0, 1) := by decide +kernel
theorem dL_law_1178 : decode cL_law 1178 = .ok (.iload 5, 2) := by decide +kernel
theorem dL_law_1180 : decode cL_law 1180 = .ok (.iconst 2, 1) := by decide +kernel
theorem dL_law_1181 : decode cL_law 1181 = .ok (.iadd, 1) := by decide +kernel
theorem dL_law_1182 : decode cL_law 1182 = .ok (.iaload, 1) := by decide +kernel
theorem dL_law_1183 : decode cL_law 1183 = .ok (.invokevirtual 173, 3) := by decide +kernel
theorem dL_law_1186 : decode cL_law 1186 = .ok (.istore 7, 2) := by decide +kernel
theorem dL_law_1188 : decode cL_law 1188 = .ok (.aload_n 2, 1) := by decide +kernel
theorem dL_law_1189 : decode cL_law 1189 = .ok (.invokevirtual 112, 3) := by decide +kernel
theorem dL_law_1192 : decode cL_law 1192 = .ok (.iload 6, 2) := by decide +kernel
theorem dL_law_1194 : decode cL_law 1194 = .ok (.if_icmp .eq 5, 3) := by decide +kernel
theorem dL_law_1199 : decode cL_law 1199 = .ok (.iload 6, 2) := by decide +kernel
theorem dL_law_1201 : decode cL_law 1201 = .ok (.ifCond .ne 15, 3) := by decide +kernel
theorem dL_law_1216 : decode cL_law 1216 = .ok (.goto 513, 3) := by decide +kernel
theorem dL_law_1219 : decode cL_law 1219 = .ok (.aload_n 1, 1) := by decide +kernel
theorem dL_law_1220 : decode cL_law 1220 = .ok (.aload_n 0, 1) := by decide +kernel
theorem dL_law_1221 : decode cL_law 1221 = .ok (.iload 5, 2) := by decide +kernel
theorem dL_law_1223 : decode cL_law 1223 = .ok (.iconst 1, 1) := by decide +kernel
theorem dL_law_1224 : decode cL_law 1224 = .ok (.iadd, 1) := by decide +kernel
theorem dL_law_1225 : decode cL_law 1225 = .ok (.iaload, 1) := by decide +kernel
theorem dL_law_1226 : decode cL_law 1226 = .ok (.aload_n 3, 1) := by decide +kernel
theorem dL_law_1227 : decode cL_law 1227 = .ok (.invokestatic 174, 3) := by decide +kernel
theorem dL_law_1230 : decode cL_law 1230 = .ok (.istore 6, 2) := by decide +kernel
theorem dL_law_1232 : decode cL_law 1232 = .ok (.aload_n 2, 1) := by decide +kernel
theorem dL_law_1233 : decode cL_law 1233 = .ok (.aload_n 0, 1) := by decide +kernel
theorem dL_law_1234 : decode cL_law 1234 = .ok (.iload 5, 2) := by decide +kernel
theorem dL_law_1236 : decode cL_law 1236 = .ok (.iconst 1, 1) := by decide +kernel
theorem dL_law_1237 : decode cL_law 1237 = .ok (.iadd, 1) := by decide +kernel
theorem dL_law_1238 : decode cL_law 1238 = .ok (.iaload, 1) := by decide +kernel
theorem dL_law_1239 : decode cL_law 1239 = .ok (.invokevirtual 176, 3) := by decide +kernel
theorem dL_law_1242 : decode cL_law 1242 = .ok (.istore 7, 2) := by decide +kernel
theorem dL_law_1244 : decode cL_law 1244 = .ok (.aload_n 2, 1) := by decide +kernel
theorem dL_law_1245 : decode cL_law 1245 = .ok (.invokevirtual 112, 3) := by decide +kernel
theorem dL_law_1248 : decode cL_law 1248 = .ok (.iload 6, 2) := by decide +kernel
theorem dL_law_1250 : decode cL_law 1250 = .ok (.if_icmp .eq 5, 3) := by decide +kernel
theorem dL_law_1255 : decode cL_law 1255 = .ok (.iload 6, 2) := by decide +kernel
theorem dL_law_1257 : decode cL_law 1257 = .ok (.ifCond .ne 15, 3) := by decide +kernel
theorem dL_law_1272 : decode cL_law 1272 = .ok (.goto 457, 3) := by decide +kernel
theorem dL_law_1275 : decode cL_law 1275 = .ok (.aload_n 1, 1) := by decide +kernel
theorem dL_law_1276 : decode cL_law 1276 = .ok (.aload_n 0, 1) := by decide +kernel
theorem dL_law_1277 : decode cL_law 1277 = .ok (.iload 5, 2) := by decide +kernel
theorem dL_law_1279 : decode cL_law 1279 = .ok (.iconst 1, 1) := by decide +kernel
theorem dL_law_1280 : decode cL_law 1280 = .ok (.iadd, 1) := by decide +kernel
theorem dL_law_1281 : decode cL_law 1281 = .ok (.iaload, 1) := by decide +kernel
theorem dL_law_1282 : decode cL_law 1282 = .ok (.aload_n 0, 1) := by decide +kernel
theorem dL_law_1283 : decode cL_law 1283 = .ok (.iload 5, 2) := by decide +kernel
theorem dL_law_1285 : decode cL_law 1285 = .ok (.iconst 2, 1) := by decide +kernel
theorem dL_law_1286 : decode cL_law 1286 = .ok (.iadd, 1) := by decide +kernel
theorem dL_law_1287 : decode cL_law 1287 = .ok (.iaload, 1) := by decide +kernel
theorem dL_law_1288 : decode cL_law 1288 = .ok (.aload_n 3, 1) := by decide +kernel
theorem dL_law_1289 : decode cL_law 1289 = .ok (.invokestatic 177, 3) := by decide +kernel
theorem dL_law_1292 : decode cL_law 1292 = .ok (.istore 6, 2) := by decide +kernel
theorem dL_law_1294 : decode cL_law 1294 = .ok (.aload_n 2, 1) := by decide +kernel
theorem dL_law_1295 : decode cL_law 1295 = .ok (.aload_n 0, 1) := by decide +kernel
theorem dL_law_1296 : decode cL_law 1296 = .ok (.iload 5, 2) := by decide +kernel
theorem dL_law_1298 : decode cL_law 1298 = .ok (.iconst 1, 1) := by decide +kernel
theorem dL_law_1299 : decode cL_law 1299 = .ok (.iadd, 1) := by decide +kernel
theorem dL_law_1300 : decode cL_law 1300 = .ok (.iaload, 1) := by decide +kernel
theorem dL_law_1301 : decode cL_law 1301 = .ok (.aload_n 0, 1) := by decide +kernel
theorem dL_law_1302 : decode cL_law 1302 = .ok (.iload 5, 2) := by decide +kernel
theorem dL_law_1304 : decode cL_law 1304 = .ok (.iconst 2, 1) := by decide +kernel
theorem dL_law_1305 : decode cL_law 1305 = .ok (.iadd, 1) := by decide +kernel
theorem dL_law_1306 : decode cL_law 1306 = .ok (.iaload, 1) := by decide +kernel
theorem dL_law_1307 : decode cL_law 1307 = .ok (.invokevirtual 179, 3) := by decide +kernel
theorem dL_law_1310 : decode cL_law 1310 = .ok (.istore 7, 2) := by decide +kernel
theorem dL_law_1312 : decode cL_law 1312 = .ok (.aload_n 2, 1) := by decide +kernel
theorem dL_law_1313 : decode cL_law 1313 = .ok (.invokevirtual 112, 3) := by decide +kernel
theorem dL_law_1316 : decode cL_law 1316 = .ok (.iload 6, 2) := by decide +kernel
theorem dL_law_1318 : decode cL_law 1318 = .ok (.if_icmp .eq 5, 3) := by decide +kernel
theorem dL_law_1323 : decode cL_law 1323 = .ok (.iload 6, 2) := by decide +kernel
theorem dL_law_1325 : decode cL_law 1325 = .ok (.ifCond .ne 15, 3) := by decide +kernel
theorem dL_law_1340 : decode cL_law 1340 = .ok (.goto 389, 3) := by decide +kernel
theorem dL_law_1343 : decode cL_law 1343 = .ok (.aload_n 1, 1) := by decide +kernel
theorem dL_law_1344 : decode cL_law 1344 = .ok (.aload_n 0, 1) := by decide +kernel
theorem dL_law_1345 : decode cL_law 1345 = .ok (.iload 5, 2) := by decide +kernel
theorem dL_law_1347 : decode cL_law 1347 = .ok (.iconst 1, 1) := by decide +kernel
theorem dL_law_1348 : decode cL_law 1348 = .ok (.iadd, 1) := by decide +kernel
theorem dL_law_1349 : decode cL_law 1349 = .ok (.iaload, 1) := by decide +kernel
theorem dL_law_1350 : decode cL_law 1350 = .ok (.aload_n 0, 1) := by decide +kernel
theorem dL_law_1351 : decode cL_law 1351 = .ok (.iload 5, 2) := by decide +kernel
theorem dL_law_1353 : decode cL_law 1353 = .ok (.iconst 2, 1) := by decide +kernel
theorem dL_law_1354 : decode cL_law 1354 = .ok (.iadd, 1) := by decide +kernel
theorem dL_law_1355 : decode cL_law 1355 = .ok (.iaload, 1) := by decide +kernel
theorem dL_law_1356 : decode cL_law 1356 = .ok (.i2c, 1) := by decide +kernel
theorem dL_law_1357 : decode cL_law 1357 = .ok (.aload_n 0, 1) := by decide +kernel
theorem dL_law_1358 : decode cL_law 1358 = .ok (.iload 5, 2) := by decide +kernel
theorem dL_law_1360 : decode cL_law 1360 = .ok (.iconst 3, 1) := by decide +kernel
theorem dL_law_1361 : decode cL_law 1361 = .ok (.iadd, 1) := by decide +kernel
theorem dL_law_1362 : decode cL_law 1362 = .ok (.iaload, 1) := by decide +kernel
theorem dL_law_1363 : decode cL_law 1363 = .ok (.aload_n 3, 1) := by decide +kernel
theorem dL_law_1364 : decode cL_law 1364 = .ok (.invokestatic 180, 3) := by decide +kernel
theorem dL_law_1367 : decode cL_law 1367 = .ok (.istore 6, 2) := by decide +kernel
theorem dL_law_1369 : decode cL_law 1369 = .ok (.aload_n 2, 1) := by decide +kernel
theorem dL_law_1370 : decode cL_law 1370 = .ok (.aload_n 0, 1) := by decide +kernel
theorem dL_law_1371 : decode cL_law 1371 = .ok (.iload 5, 2) := by decide +kernel
theorem dL_law_1373 : decode cL_law 1373 = .ok (.iconst 1, 1) := by decide +kernel
theorem dL_law_1374 : decode cL_law 1374 = .ok (.iadd, 1) := by decide +kernel
theorem dL_law_1375 : decode cL_law 1375 = .ok (.iaload, 1) := by decide +kernel
theorem dL_law_1376 : decode cL_law 1376 = .ok (.aload_n 0, 1) := by decide +kernel
theorem dL_law_1377 : decode cL_law 1377 = .ok (.iload 5, 2) := by decide +kernel
theorem dL_law_1379 : decode cL_law 1379 = .ok (.iconst 2, 1) := by decide +kernel
theorem dL_law_1380 : decode cL_law 1380 = .ok (.iadd, 1) := by decide +kernel
theorem dL_law_1381 : decode cL_law 1381 = .ok (.iaload, 1) := by decide +kernel
theorem dL_law_1382 : decode cL_law 1382 = .ok (.i2c, 1) := by decide +kernel
theorem dL_law_1383 : decode cL_law 1383 = .ok (.aload_n 0, 1) := by decide +kernel
theorem dL_law_1384 : decode cL_law 1384 = .ok (.iload 5, 2) := by decide +kernel
theorem dL_law_1386 : decode cL_law 1386 = .ok (.iconst 3, 1) := by decide +kernel
theorem dL_law_1387 : decode cL_law 1387 = .ok (.iadd, 1) := by decide +kernel
theorem dL_law_1388 : decode cL_law 1388 = .ok (.iaload, 1) := by decide +kernel
theorem dL_law_1389 : decode cL_law 1389 = .ok (.invokevirtual 183, 3) := by decide +kernel
theorem dL_law_1392 : decode cL_law 1392 = .ok (.istore 7, 2) := by decide +kernel
theorem dL_law_1394 : decode cL_law 1394 = .ok (.aload_n 2, 1) := by decide +kernel
theorem dL_law_1395 : decode cL_law 1395 = .ok (.invokevirtual 112, 3) := by decide +kernel
theorem dL_law_1398 : decode cL_law 1398 = .ok (.iload 6, 2) := by decide +kernel
theorem dL_law_1400 : decode cL_law 1400 = .ok (.if_icmp .eq 5, 3) := by decide +kernel
theorem dL_law_1405 : decode cL_law 1405 = .ok (.iload 6, 2) := by decide +kernel
theorem dL_law_1407 : decode cL_law 1407 = .ok (.ifCond .ne 22, 3) := by decide +kernel
theorem dL_law_1429 : decode cL_law 1429 = .ok (.goto 300, 3) := by decide +kernel
theorem dL_law_1432 : decode cL_law 1432 = .ok (.aload_n 1, 1) := by decide +kernel
theorem dL_law_1433 : decode cL_law 1433 = .ok (.aload_n 0, 1) := by decide +kernel
theorem dL_law_1434 : decode cL_law 1434 = .ok (.iload 5, 2) := by decide +kernel
theorem dL_law_1436 : decode cL_law 1436 = .ok (.iconst 1, 1) := by decide +kernel
theorem dL_law_1437 : decode cL_law 1437 = .ok (.iadd, 1) := by decide +kernel
theorem dL_law_1438 : decode cL_law 1438 = .ok (.iaload, 1) := by decide +kernel
theorem dL_law_1439 : decode cL_law 1439 = .ok (.aload_n 0, 1) := by decide +kernel
theorem dL_law_1440 : decode cL_law 1440 = .ok (.iload 5, 2) := by decide +kernel
theorem dL_law_1442 : decode cL_law 1442 = .ok (.iconst 2, 1) := by decide +kernel
theorem dL_law_1443 : decode cL_law 1443 = .ok (.iadd, 1) := by decide +kernel
theorem dL_law_1444 : decode cL_law 1444 = .ok (.iaload, 1) := by decide +kernel
theorem dL_law_1445 : decode cL_law 1445 = .ok (.i2c, 1) := by decide +kernel
theorem dL_law_1446 : decode cL_law 1446 = .ok (.aload_n 3, 1) := by decide +kernel
theorem dL_law_1447 : decode cL_law 1447 = .ok (.invokestatic 184, 3) := by decide +kernel
theorem dL_law_1450 : decode cL_law 1450 = .ok (.istore 6, 2) := by decide +kernel
theorem dL_law_1452 : decode cL_law 1452 = .ok (.aload_n 2, 1) := by decide +kernel
theorem dL_law_1453 : decode cL_law 1453 = .ok (.aload_n 0, 1) := by decide +kernel
theorem dL_law_1454 : decode cL_law 1454 = .ok (.iload 5, 2) := by decide +kernel
theorem dL_law_1456 : decode cL_law 1456 = .ok (.iconst 1, 1) := by decide +kernel
theorem dL_law_1457 : decode cL_law 1457 = .ok (.iadd, 1) := by decide +kernel
theorem dL_law_1458 : decode cL_law 1458 = .ok (.iaload, 1) := by decide +kernel
theorem dL_law_1459 : decode cL_law 1459 = .ok (.aload_n 0, 1) := by decide +kernel
theorem dL_law_1460 : decode cL_law 1460 = .ok (.iload 5, 2) := by decide +kernel
theorem dL_law_1462 : decode cL_law 1462 = .ok (.iconst 2, 1) := by decide +kernel
theorem dL_law_1463 : decode cL_law 1463 = .ok (.iadd, 1) := by decide +kernel
theorem dL_law_1464 : decode cL_law 1464 = .ok (.iaload, 1) := by decide +kernel
theorem dL_law_1465 : decode cL_law 1465 = .ok (.i2c, 1) := by decide +kernel
theorem dL_law_1466 : decode cL_law 1466 = .ok (.invokevirtual 186, 3) := by decide +kernel
theorem dL_law_1469 : decode cL_law 1469 = .ok (.istore 7, 2) := by decide +kernel
theorem dL_law_1471 : decode cL_law 1471 = .ok (.aload_n 2, 1) := by decide +kernel
theorem dL_law_1472 : decode cL_law 1472 = .ok (.invokevirtual 112, 3) := by decide +kernel
theorem dL_law_1475 : decode cL_law 1475 = .ok (.iload 6, 2) := by decide +kernel
theorem dL_law_1477 : decode cL_law 1477 = .ok (.if_icmp .eq 5, 3) := by decide +kernel
theorem dL_law_1482 : decode cL_law 1482 = .ok (.iload 6, 2) := by decide +kernel
theorem dL_law_1484 : decode cL_law 1484 = .ok (.ifCond .ne 15, 3) := by decide +kernel
theorem dL_law_1499 : decode cL_law 1499 = .ok (.goto 230, 3) := by decide +kernel
theorem dL_law_1502 : decode cL_law 1502 = .ok (.aload_n 1, 1) := by decide +kernel
theorem dL_law_1503 : decode cL_law 1503 = .ok (.aload_n 0, 1) := by decide +kernel
theorem dL_law_1504 : decode cL_law 1504 = .ok (.iload 5, 2) := by decide +kernel
theorem dL_law_1506 : decode cL_law 1506 = .ok (.iconst 1, 1) := by decide +kernel
theorem dL_law_1507 : decode cL_law 1507 = .ok (.iadd, 1) := by decide +kernel
theorem dL_law_1508 : decode cL_law 1508 = .ok (.iaload, 1) := by decide +kernel
theorem dL_law_1509 : decode cL_law 1509 = .ok (.aload_n 3, 1) := by decide +kernel
theorem dL_law_1510 : decode cL_law 1510 = .ok (.invokestatic 187, 3) := by decide +kernel
theorem dL_law_1558 : decode cL_law 1558 = .ok (.aload_n 1, 1) := by decide +kernel
theorem dL_law_1559 : decode cL_law 1559 = .ok (.invokevirtual 190, 3) := by decide +kernel
theorem dL_law_1562 : decode cL_law 1562 = .ok (.aload_n 2, 1) := by decide +kernel
theorem dL_law_1563 : decode cL_law 1563 = .ok (.invokevirtual 193, 3) := by decide +kernel
theorem dL_law_1566 : decode cL_law 1566 = .ok (.if_icmp .eq 163, 3) := by decide +kernel
theorem dL_law_1571 : decode cL_law 1571 = .ok (.aload_n 1, 1) := by decide +kernel
theorem dL_law_1572 : decode cL_law 1572 = .ok (.invokevirtual 194, 3) := by decide +kernel
theorem dL_law_1575 : decode cL_law 1575 = .ok (.aload_n 2, 1) := by decide +kernel
theorem dL_law_1576 : decode cL_law 1576 = .ok (.invokevirtual 198, 3) := by decide +kernel
theorem dL_law_1579 : decode cL_law 1579 = .ok (.lcmp, 1) := by decide +kernel
theorem dL_law_1580 : decode cL_law 1580 = .ok (.ifCond .eq 149, 3) := by decide +kernel
theorem dL_law_1585 : decode cL_law 1585 = .ok (.aload_n 1, 1) := by decide +kernel
theorem dL_law_1586 : decode cL_law 1586 = .ok (.aload 4, 2) := by decide +kernel
theorem dL_law_1588 : decode cL_law 1588 = .ok (.invokestatic 199, 3) := by decide +kernel
theorem dL_law_1591 : decode cL_law 1591 = .ok (.istore 6, 2) := by decide +kernel
theorem dL_law_1593 : decode cL_law 1593 = .ok (.aload_n 2, 1) := by decide +kernel
theorem dL_law_1594 : decode cL_law 1594 = .ok (.invokevirtual 202, 3) := by decide +kernel
theorem dL_law_1597 : decode cL_law 1597 = .ok (.fstore 7, 2) := by decide +kernel
theorem dL_law_1599 : decode cL_law 1599 = .ok (.aload_n 2, 1) := by decide +kernel
theorem dL_law_1600 : decode cL_law 1600 = .ok (.invokevirtual 112, 3) := by decide +kernel
theorem dL_law_1603 : decode cL_law 1603 = .ok (.iload 6, 2) := by decide +kernel
theorem dL_law_1605 : decode cL_law 1605 = .ok (.if_icmp .eq 5, 3) := by decide +kernel
theorem dL_law_1610 : decode cL_law 1610 = .ok (.iload 6, 2) := by decide +kernel
theorem dL_law_1612 : decode cL_law 1612 = .ok (.ifCond .ne 36, 3) := by decide +kernel
theorem dL_law_1648 : decode cL_law 1648 = .ok (.goto 81, 3) := by decide +kernel
theorem dL_law_1651 : decode cL_law 1651 = .ok (.aload_n 1, 1) := by decide +kernel
theorem dL_law_1652 : decode cL_law 1652 = .ok (.aload 4, 2) := by decide +kernel
theorem dL_law_1654 : decode cL_law 1654 = .ok (.invokestatic 203, 3) := by decide +kernel
theorem dL_law_1657 : decode cL_law 1657 = .ok (.istore 6, 2) := by decide +kernel
theorem dL_law_1659 : decode cL_law 1659 = .ok (.aload_n 2, 1) := by decide +kernel
theorem dL_law_1660 : decode cL_law 1660 = .ok (.invokevirtual 205, 3) := by decide +kernel
theorem dL_law_1663 : decode cL_law 1663 = .ok (.dstore 7, 2) := by decide +kernel
theorem dL_law_1665 : decode cL_law 1665 = .ok (.aload_n 2, 1) := by decide +kernel
theorem dL_law_1666 : decode cL_law 1666 = .ok (.invokevirtual 112, 3) := by decide +kernel
theorem dL_law_1669 : decode cL_law 1669 = .ok (.iload 6, 2) := by decide +kernel
theorem dL_law_1671 : decode cL_law 1671 = .ok (.if_icmp .eq 5, 3) := by decide +kernel
theorem dL_law_1676 : decode cL_law 1676 = .ok (.iload 6, 2) := by decide +kernel
theorem dL_law_1678 : decode cL_law 1678 = .ok (.ifCond .ne 35, 3) := by decide +kernel
theorem dL_law_1713 : decode cL_law 1713 = .ok (.goto 16, 3) := by decide +kernel
theorem dL_law_1716 : decode cL_law 1716 = .ok (.aload_n 1, 1) := by decide +kernel
theorem dL_law_1717 : decode cL_law 1717 = .ok (.invokevirtual 206, 3) := by decide +kernel
theorem dL_law_1720 : decode cL_law 1720 = .ok (.aload_n 2, 1) := by decide +kernel
theorem dL_law_1721 : decode cL_law 1721 = .ok (.invokevirtual 210, 3) := by decide +kernel
theorem dL_law_1724 : decode cL_law 1724 = .ok (.if_icmp .eq 5, 3) := by decide +kernel
theorem dL_mark_0 : decode cL_mark 0 = .ok (.aload_n 3, 1) := by decide +kernel
theorem dL_mark_1 : decode cL_mark 1 = .ok (.iconst 0, 1) := by decide +kernel
theorem dL_mark_2 : decode cL_mark 2 = .ok (.aload_n 0, 1) := by decide +kernel
theorem dL_mark_3 : decode cL_mark 3 = .ok (.iload_n 1, 1) := by decide +kernel
theorem dL_mark_4 : decode cL_mark 4 = .ok (.iload_n 2, 1) := by decide +kernel
theorem dL_mark_5 : decode cL_mark 5 = .ok (.invokevirtual 39, 3) := by decide +kernel
theorem dL_mark_20 : decode cL_mark 20 = .ok (.astore 4, 2) := by decide +kernel
theorem dL_mark_22 : decode cL_mark 22 = .ok (.iconst 1, 1) := by decide +kernel
theorem dL_mark_23 : decode cL_mark 23 = .ok (.ireturn, 1) := by decide +kernel
theorem dL_meanArrival_0 : decode cL_meanArrival 0 = .ok (.aload_n 1, 1) := by decide +kernel
theorem dL_meanArrival_1 : decode cL_meanArrival 1 = .ok (.iconst 0, 1) := by decide +kernel
theorem dL_meanArrival_2 : decode cL_meanArrival 2 = .ok (.aload_n 0, 1) := by decide +kernel
theorem dL_meanArrival_3 : decode cL_meanArrival 3 = .ok (.invokevirtual 98, 3) := by decide +kernel
theorem dL_meanArrival_10 : decode cL_meanArrival 10 = .ok (.astore_n 2, 1) := by decide +kernel
theorem dL_meanArrival_11 : decode cL_meanArrival 11 = .ok (.iconst 1, 1) := by decide +kernel
theorem dL_meanArrival_12 : decode cL_meanArrival 12 = .ok (.ireturn, 1) := by decide +kernel
theorem dL_pass_0 : decode cL_pass 0 = .ok (.aload_n 2, 1) := by decide +kernel
theorem dL_pass_1 : decode cL_pass 1 = .ok (.iconst 0, 1) := by decide +kernel
theorem dL_pass_2 : decode cL_pass 2 = .ok (.aload_n 0, 1) := by decide +kernel
theorem dL_pass_3 : decode cL_pass 3 = .ok (.iload_n 1, 1) := by decide +kernel
theorem dL_pass_4 : decode cL_pass 4 = .ok (.invokevirtual 50, 3) := by decide +kernel
theorem dL_reset_0 : decode cL_reset 0 = .ok (.aload_n 3, 1) := by decide +kernel
theorem dL_reset_1 : decode cL_reset 1 = .ok (.iconst 0, 1) := by decide +kernel
theorem dL_reset_2 : decode cL_reset 2 = .ok (.aload_n 0, 1) := by decide +kernel
theorem dL_reset_3 : decode cL_reset 3 = .ok (.iload_n 1, 1) := by decide +kernel
theorem dL_reset_4 : decode cL_reset 4 = .ok (.iload_n 2, 1) := by decide +kernel
theorem dL_reset_5 : decode cL_reset 5 = .ok (.invokevirtual 47, 3) := by decide +kernel
theorem dL_reset_13 : decode cL_reset 13 = .ok (.astore 4, 2) := by decide +kernel
theorem dL_reset_15 : decode cL_reset 15 = .ok (.iconst 1, 1) := by decide +kernel
theorem dL_reset_16 : decode cL_reset 16 = .ok (.ireturn, 1) := by decide +kernel
theorem dL_setInput_0 : decode cL_setInput 0 = .ok (.aload_n 3, 1) := by decide +kernel
theorem dL_setInput_1 : decode cL_setInput 1 = .ok (.iconst 0, 1) := by decide +kernel
theorem dL_setInput_2 : decode cL_setInput 2 = .ok (.aload_n 0, 1) := by decide +kernel
theorem dL_setInput_3 : decode cL_setInput 3 = .ok (.iload_n 1, 1) := by decide +kernel
theorem dL_setInput_4 : decode cL_setInput 4 = .ok (.iload_n 2, 1) := by decide +kernel
theorem dL_setInput_5 : decode cL_setInput 5 = .ok (.invokevirtual 43, 3) := by decide +kernel
theorem dL_setInput_13 : decode cL_setInput 13 = .ok (.astore 4, 2) := by decide +kernel
theorem dL_setInput_15 : decode cL_setInput 15 = .ok (.iconst 1, 1) := by decide +kernel
theorem dL_setInput_16 : decode cL_setInput 16 = .ok (.ireturn, 1) := by decide +kernel
theorem dL_settled_0 : decode cL_settled 0 = .ok (.aload_n 2, 1) := by decide +kernel
theorem dL_settled_1 : decode cL_settled 1 = .ok (.iconst 0, 1) := by decide +kernel
theorem dL_settled_2 : decode cL_settled 2 = .ok (.aload_n 0, 1) := by decide +kernel
theorem dL_settled_3 : decode cL_settled 3 = .ok (.iload_n 1, 1) := by decide +kernel
theorem dL_settled_4 : decode cL_settled 4 = .ok (.invokevirtual 66, 3) := by decide +kernel
theorem dL_settled_12 : decode cL_settled 12 = .ok (.astore_n 3, 1) := by decide +kernel
theorem dL_settled_13 : decode cL_settled 13 = .ok (.iconst 1, 1) := by decide +kernel
theorem dL_settled_14 : decode cL_settled 14 = .ok (.ireturn, 1) := by decide +kernel
theorem dL_shows_0 : decode cL_shows 0 = .ok (.aload 4, 2) := by decide +kernel
theorem dL_shows_2 : decode cL_shows 2 = .ok (.iconst 0, 1) := by decide +kernel
theorem dL_shows_3 : decode cL_shows 3 = .ok (.aload_n 0, 1) := by decide +kernel
theorem dL_shows_4 : decode cL_shows 4 = .ok (.iload_n 1, 1) := by decide +kernel
theorem dL_shows_5 : decode cL_shows 5 = .ok (.iload_n 2, 1) := by decide +kernel
theorem dL_shows_6 : decode cL_shows 6 = .ok (.iload_n 3, 1) := by decide +kernel
theorem dL_shows_7 : decode cL_shows 7 = .ok (.invokevirtual 81, 3) := by decide +kernel
theorem dL_shows_22 : decode cL_shows 22 = .ok (.astore 5, 2) := by decide +kernel
theorem dL_shows_24 : decode cL_shows 24 = .ok (.iconst 1, 1) := by decide +kernel
theorem dL_shows_25 : decode cL_shows 25 = .ok (.ireturn, 1) := by decide +kernel
theorem dL_slack_0 : decode cL_slack 0 = .ok (.aload_n 3, 1) := by decide +kernel
theorem dL_slack_1 : decode cL_slack 1 = .ok (.iconst 0, 1) := by decide +kernel
theorem dL_slack_2 : decode cL_slack 2 = .ok (.aload_n 0, 1) := by decide +kernel
theorem dL_slack_3 : decode cL_slack 3 = .ok (.iload_n 1, 1) := by decide +kernel
theorem dL_slack_4 : decode cL_slack 4 = .ok (.iload_n 2, 1) := by decide +kernel
theorem dL_slack_5 : decode cL_slack 5 = .ok (.invokevirtual 72, 3) := by decide +kernel
theorem dL_slack_13 : decode cL_slack 13 = .ok (.astore 4, 2) := by decide +kernel
theorem dL_slack_15 : decode cL_slack 15 = .ok (.iconst 1, 1) := by decide +kernel
theorem dL_slack_16 : decode cL_slack 16 = .ok (.ireturn, 1) := by decide +kernel
theorem dL_stands_0 : decode cL_stands 0 = .ok (.aload_n 2, 1) := by decide +kernel
theorem dL_stands_1 : decode cL_stands 1 = .ok (.iconst 0, 1) := by decide +kernel
theorem dL_stands_2 : decode cL_stands 2 = .ok (.aload_n 0, 1) := by decide +kernel
theorem dL_stands_3 : decode cL_stands 3 = .ok (.iload_n 1, 1) := by decide +kernel
theorem dL_stands_4 : decode cL_stands 4 = .ok (.invokevirtual 75, 3) := by decide +kernel
theorem dL_stands_12 : decode cL_stands 12 = .ok (.astore_n 3, 1) := by decide +kernel
theorem dL_stands_13 : decode cL_stands 13 = .ok (.iconst 1, 1) := by decide +kernel
theorem dL_stands_14 : decode cL_stands 14 = .ok (.ireturn, 1) := by decide +kernel
theorem dL_value_0 : decode cL_value 0 = .ok (.aload_n 2, 1) := by decide +kernel
theorem dL_value_1 : decode cL_value 1 = .ok (.iconst 0, 1) := by decide +kernel
theorem dL_value_2 : decode cL_value 2 = .ok (.aload_n 0, 1) := by decide +kernel
theorem dL_value_3 : decode cL_value 3 = .ok (.iload_n 1, 1) := by decide +kernel
theorem dL_value_4 : decode cL_value 4 = .ok (.invokevirtual 54, 3) := by decide +kernel
theorem dL_value_12 : decode cL_value 12 = .ok (.astore_n 3, 1) := by decide +kernel
theorem dL_value_13 : decode cL_value 13 = .ok (.iconst 1, 1) := by decide +kernel
theorem dL_value_14 : decode cL_value 14 = .ok (.ireturn, 1) := by decide +kernel
theorem dX0_countReaders_0 : decode cX0_countReaders 0 = .ok (.iconst 0, 1) := by decide +kernel
theorem dX0_countReaders_1 : decode cX0_countReaders 1 = .ok (.istore_n 1, 1) := by decide +kernel
theorem dX0_countReaders_2 : decode cX0_countReaders 2 = .ok (.iload_n 1, 1) := by decide +kernel
theorem dX0_countReaders_3 : decode cX0_countReaders 3 = .ok (.aload_n 0, 1) := by decide +kernel
theorem dX0_countReaders_4 : decode cX0_countReaders 4 = .ok (.getfield 12, 3) := by decide +kernel
theorem dX0_countReaders_7 : decode cX0_countReaders 7 = .ok (.invokevirtual 29, 3) := by decide +kernel
theorem dX0_countReaders_10 : decode cX0_countReaders 10 = .ok (.if_icmp .ge 24, 3) := by decide +kernel
theorem dX0_countReaders_13 : decode cX0_countReaders 13 = .ok (.aload_n 0, 1) := by decide +kernel
theorem dX0_countReaders_14 : decode cX0_countReaders 14 = .ok (.getfield 12, 3) := by decide +kernel
theorem dX0_countReaders_17 : decode cX0_countReaders 17 = .ok (.iload_n 1, 1) := by decide +kernel
theorem dX0_countReaders_18 : decode cX0_countReaders 18 = .ok (.invokevirtual 71, 3) := by decide +kernel
theorem dX0_countReaders_21 : decode cX0_countReaders 21 = .ok (.checkcast 27, 3) := by decide +kernel
theorem dX0_countReaders_24 : decode cX0_countReaders 24 = .ok (.iconst 0, 1) := by decide +kernel
theorem dX0_countReaders_25 : decode cX0_countReaders 25 = .ok (.putfield 85, 3) := by decide +kernel
theorem dX0_countReaders_28 : decode cX0_countReaders 28 = .ok (.iinc 1 1, 3) := by decide +kernel
theorem dX0_countReaders_31 : decode cX0_countReaders 31 = .ok (.goto (-29), 3) := by decide +kernel
theorem dX0_countReaders_34 : decode cX0_countReaders 34 = .ok (.iconst 0, 1) := by decide +kernel
theorem dX0_countReaders_35 : decode cX0_countReaders 35 = .ok (.istore_n 1, 1) := by decide +kernel
theorem dX0_countReaders_36 : decode cX0_countReaders 36 = .ok (.iload_n 1, 1) := by decide +kernel
theorem dX0_countReaders_37 : decode cX0_countReaders 37 = .ok (.aload_n 0, 1) := by decide +kernel
theorem dX0_countReaders_38 : decode cX0_countReaders 38 = .ok (.getfield 21, 3) := by decide +kernel
theorem dX0_countReaders_41 : decode cX0_countReaders 41 = .ok (.invokevirtual 29, 3) := by decide +kernel
theorem dX0_countReaders_44 : decode cX0_countReaders 44 = .ok (.if_icmp .ge 58, 3) := by decide +kernel
theorem dX0_countReaders_102 : decode cX0_countReaders 102 = .ok (.return_, 1) := by decide +kernel
theorem dX0_findStandings_0 : decode cX0_findStandings 0 = .ok (.iconst 0, 1) := by decide +kernel
theorem dX0_findStandings_1 : decode cX0_findStandings 1 = .ok (.istore_n 1, 1) := by decide +kernel
theorem dX0_findStandings_2 : decode cX0_findStandings 2 = .ok (.iload_n 1, 1) := by decide +kernel
theorem dX0_findStandings_3 : decode cX0_findStandings 3 = .ok (.aload_n 0, 1) := by decide +kernel
theorem dX0_findStandings_4 : decode cX0_findStandings 4 = .ok (.getfield 12, 3) := by decide +kernel
theorem dX0_findStandings_7 : decode cX0_findStandings 7 = .ok (.invokevirtual 29, 3) := by decide +kernel
theorem dX0_findStandings_10 : decode cX0_findStandings 10 = .ok (.if_icmp .ge 34, 3) := by decide +kernel
theorem dX0_findStandings_13 : decode cX0_findStandings 13 = .ok (.aload_n 0, 1) := by decide +kernel
theorem dX0_findStandings_14 : decode cX0_findStandings 14 = .ok (.getfield 12, 3) := by decide +kernel
theorem dX0_findStandings_17 : decode cX0_findStandings 17 = .ok (.iload_n 1, 1) := by decide +kernel
theorem dX0_findStandings_18 : decode cX0_findStandings 18 = .ok (.invokevirtual 71, 3) := by decide +kernel
theorem dX0_findStandings_21 : decode cX0_findStandings 21 = .ok (.checkcast 27, 3) := by decide +kernel
theorem dX0_findStandings_24 : decode cX0_findStandings 24 = .ok (.aload_n 0, 1) := by decide +kernel
theorem dX0_findStandings_25 : decode cX0_findStandings 25 = .ok (.getfield 12, 3) := by decide +kernel
theorem dX0_findStandings_28 : decode cX0_findStandings 28 = .ok (.iload_n 1, 1) := by decide +kernel
theorem dX0_findStandings_29 : decode cX0_findStandings 29 = .ok (.invokevirtual 71, 3) := by decide +kernel
theorem dX0_findStandings_32 : decode cX0_findStandings 32 = .ok (.checkcast 27, 3) := by decide +kernel
theorem dX0_findStandings_35 : decode cX0_findStandings 35 = .ok (.putfield 107, 3) := by decide +kernel
theorem dX0_findStandings_38 : decode cX0_findStandings 38 = .ok (.iinc 1 1, 3) := by decide +kernel
theorem dX0_findStandings_41 : decode cX0_findStandings 41 = .ok (.goto (-39), 3) := by decide +kernel
theorem dX0_findStandings_44 : decode cX0_findStandings 44 = .ok (.iconst 0, 1) := by decide +kernel
theorem dX0_findStandings_45 : decode cX0_findStandings 45 = .ok (.istore_n 1, 1) := by decide +kernel
theorem dX0_findStandings_46 : decode cX0_findStandings 46 = .ok (.iload_n 1, 1) := by decide +kernel
theorem dX0_findStandings_47 : decode cX0_findStandings 47 = .ok (.aload_n 0, 1) := by decide +kernel
theorem dX0_findStandings_48 : decode cX0_findStandings 48 = .ok (.getfield 21, 3) := by decide +kernel
theorem dX0_findStandings_51 : decode cX0_findStandings 51 = .ok (.invokevirtual 29, 3) := by decide +kernel
theorem dX0_findStandings_54 : decode cX0_findStandings 54 = .ok (.if_icmp .ge 77, 3) := by decide +kernel
theorem dX0_findStandings_131 : decode cX0_findStandings 131 = .ok (.return_, 1) := by decide +kernel
theorem dX0_findTaken_0 : decode cX0_findTaken 0 = .ok (.iconst 0, 1) := by decide +kernel
theorem dX0_findTaken_1 : decode cX0_findTaken 1 = .ok (.istore_n 1, 1) := by decide +kernel
theorem dX0_findTaken_2 : decode cX0_findTaken 2 = .ok (.iload_n 1, 1) := by decide +kernel
theorem dX0_findTaken_3 : decode cX0_findTaken 3 = .ok (.aload_n 0, 1) := by decide +kernel
theorem dX0_findTaken_4 : decode cX0_findTaken 4 = .ok (.getfield 12, 3) := by decide +kernel
theorem dX0_findTaken_7 : decode cX0_findTaken 7 = .ok (.invokevirtual 29, 3) := by decide +kernel
theorem dX0_findTaken_10 : decode cX0_findTaken 10 = .ok (.if_icmp .ge 24, 3) := by decide +kernel
theorem dX0_findTaken_13 : decode cX0_findTaken 13 = .ok (.aload_n 0, 1) := by decide +kernel
theorem dX0_findTaken_14 : decode cX0_findTaken 14 = .ok (.getfield 12, 3) := by decide +kernel
theorem dX0_findTaken_17 : decode cX0_findTaken 17 = .ok (.iload_n 1, 1) := by decide +kernel
theorem dX0_findTaken_18 : decode cX0_findTaken 18 = .ok (.invokevirtual 71, 3) := by decide +kernel
theorem dX0_findTaken_21 : decode cX0_findTaken 21 = .ok (.checkcast 27, 3) := by decide +kernel
theorem dX0_findTaken_24 : decode cX0_findTaken 24 = .ok (.iconst 0, 1) := by decide +kernel
theorem dX0_findTaken_25 : decode cX0_findTaken 25 = .ok (.putfield 140, 3) := by decide +kernel
theorem dX0_findTaken_28 : decode cX0_findTaken 28 = .ok (.iinc 1 1, 3) := by decide +kernel
theorem dX0_findTaken_31 : decode cX0_findTaken 31 = .ok (.goto (-29), 3) := by decide +kernel
theorem dX0_findTaken_34 : decode cX0_findTaken 34 = .ok (.iconst 0, 1) := by decide +kernel
theorem dX0_findTaken_35 : decode cX0_findTaken 35 = .ok (.istore_n 1, 1) := by decide +kernel
theorem dX0_findTaken_36 : decode cX0_findTaken 36 = .ok (.iload_n 1, 1) := by decide +kernel
theorem dX0_findTaken_37 : decode cX0_findTaken 37 = .ok (.aload_n 0, 1) := by decide +kernel
theorem dX0_findTaken_38 : decode cX0_findTaken 38 = .ok (.getfield 18, 3) := by decide +kernel
theorem dX0_findTaken_41 : decode cX0_findTaken 41 = .ok (.invokevirtual 29, 3) := by decide +kernel
theorem dX0_findTaken_44 : decode cX0_findTaken 44 = .ok (.if_icmp .ge 33, 3) := by decide +kernel
theorem dX0_findTaken_47 : decode cX0_findTaken 47 = .ok (.aload_n 0, 1) := by decide +kernel
theorem dX0_findTaken_48 : decode cX0_findTaken 48 = .ok (.getfield 18, 3) := by decide +kernel
theorem dX0_findTaken_51 : decode cX0_findTaken 51 = .ok (.iload_n 1, 1) := by decide +kernel
theorem dX0_findTaken_52 : decode cX0_findTaken 52 = .ok (.invokevirtual 71, 3) := by decide +kernel
theorem dX0_findTaken_55 : decode cX0_findTaken 55 = .ok (.checkcast 27, 3) := by decide +kernel
theorem dX0_findTaken_58 : decode cX0_findTaken 58 = .ok (.getfield 143, 3) := by decide +kernel
theorem dX0_findTaken_61 : decode cX0_findTaken 61 = .ok (.astore_n 2, 1) := by decide +kernel
theorem dX0_findTaken_62 : decode cX0_findTaken 62 = .ok (.aload_n 2, 1) := by decide +kernel
theorem dX0_findTaken_63 : decode cX0_findTaken 63 = .ok (.ifnull 8, 3) := by decide +kernel
theorem dX0_findTaken_71 : decode cX0_findTaken 71 = .ok (.iinc 1 1, 3) := by decide +kernel
theorem dX0_findTaken_74 : decode cX0_findTaken 74 = .ok (.goto (-38), 3) := by decide +kernel
theorem dX0_findTaken_77 : decode cX0_findTaken 77 = .ok (.return_, 1) := by decide +kernel
theorem dX0_init_0 : decode cX0_init 0 = .ok (.aload_n 0, 1) := by decide +kernel
theorem dX0_init_1 : decode cX0_init 1 = .ok (.invokespecial 3, 3) := by decide +kernel
theorem dX0_init_4 : decode cX0_init 4 = .ok (.aload_n 0, 1) := by decide +kernel
theorem dX0_init_5 : decode cX0_init 5 = .ok (.new 9, 3) := by decide +kernel
theorem dX0_init_8 : decode cX0_init 8 = .ok (.dup, 1) := by decide +kernel
theorem dX0_init_9 : decode cX0_init 9 = .ok (.invokespecial 11, 3) := by decide +kernel
theorem dX0_init_12 : decode cX0_init 12 = .ok (.putfield 12, 3) := by decide +kernel
theorem dX0_init_15 : decode cX0_init 15 = .ok (.aload_n 0, 1) := by decide +kernel
theorem dX0_init_16 : decode cX0_init 16 = .ok (.new 9, 3) := by decide +kernel
theorem dX0_init_19 : decode cX0_init 19 = .ok (.dup, 1) := by decide +kernel
theorem dX0_init_20 : decode cX0_init 20 = .ok (.invokespecial 11, 3) := by decide +kernel
theorem dX0_init_23 : decode cX0_init 23 = .ok (.putfield 18, 3) := by decide +kernel
theorem dX0_init_26 : decode cX0_init 26 = .ok (.aload_n 0, 1) := by decide +kernel
theorem dX0_init_27 : decode cX0_init 27 = .ok (.new 9, 3) := by decide +kernel
theorem dX0_init_30 : decode cX0_init 30 = .ok (.dup, 1) := by decide +kernel
theorem dX0_init_31 : decode cX0_init 31 = .ok (.invokespecial 11, 3) := by decide +kernel
theorem dX0_init_34 : decode cX0_init 34 = .ok (.putfield 21, 3) := by decide +kernel
theorem dX0_init_37 : decode cX0_init 37 = .ok (.aload_n 0, 1) := by decide +kernel
theorem dX0_init_38 : decode cX0_init 38 = .ok (.new 9, 3) := by decide +kernel
theorem dX0_init_41 : decode cX0_init 41 = .ok (.dup, 1) := by decide +kernel
theorem dX0_init_42 : decode cX0_init 42 = .ok (.invokespecial 11, 3) := by decide +kernel
theorem dX0_init_45 : decode cX0_init 45 = .ok (.putfield 24, 3) := by decide +kernel
theorem dX0_init_48 : decode cX0_init 48 = .ok (.return_, 1) := by decide +kernel
theorem dX0_isSettled_0 : decode cX0_isSettled 0 = .ok (.aload_n 0, 1) := by decide +kernel
theorem dX0_isSettled_1 : decode cX0_isSettled 1 = .ok (.invokevirtual 166, 3) := by decide +kernel
theorem dX0_isSettled_4 : decode cX0_isSettled 4 = .ok (.iconst 0, 1) := by decide +kernel
theorem dX0_isSettled_5 : decode cX0_isSettled 5 = .ok (.istore_n 1, 1) := by decide +kernel
theorem dX0_isSettled_6 : decode cX0_isSettled 6 = .ok (.iload_n 1, 1) := by decide +kernel
theorem dX0_isSettled_7 : decode cX0_isSettled 7 = .ok (.aload_n 0, 1) := by decide +kernel
theorem dX0_isSettled_8 : decode cX0_isSettled 8 = .ok (.getfield 12, 3) := by decide +kernel
theorem dX0_isSettled_11 : decode cX0_isSettled 11 = .ok (.invokevirtual 29, 3) := by decide +kernel
theorem dX0_isSettled_14 : decode cX0_isSettled 14 = .ok (.if_icmp .ge 34, 3) := by decide +kernel
theorem dX0_isSettled_48 : decode cX0_isSettled 48 = .ok (.iconst 1, 1) := by decide +kernel
theorem dX0_isSettled_49 : decode cX0_isSettled 49 = .ok (.ireturn, 1) := by decide +kernel
theorem dX0_layOut_0 : decode cX0_layOut 0 = .ok (.aload_n 0, 1) := by decide +kernel
theorem dX0_layOut_1 : decode cX0_layOut 1 = .ok (.invokevirtual 53, 3) := by decide +kernel
theorem dX0_layOut_4 : decode cX0_layOut 4 = .ok (.aload_n 0, 1) := by decide +kernel
theorem dX0_layOut_5 : decode cX0_layOut 5 = .ok (.invokevirtual 56, 3) := by decide +kernel
theorem dX0_layOut_8 : decode cX0_layOut 8 = .ok (.aload_n 0, 1) := by decide +kernel
theorem dX0_layOut_9 : decode cX0_layOut 9 = .ok (.invokevirtual 59, 3) := by decide +kernel
theorem dX0_layOut_12 : decode cX0_layOut 12 = .ok (.aload_n 0, 1) := by decide +kernel
theorem dX0_layOut_13 : decode cX0_layOut 13 = .ok (.invokevirtual 62, 3) := by decide +kernel
theorem dX0_layOut_16 : decode cX0_layOut 16 = .ok (.aload_n 0, 1) := by decide +kernel
theorem dX0_layOut_17 : decode cX0_layOut 17 = .ok (.invokevirtual 65, 3) := by decide +kernel
theorem dX0_layOut_20 : decode cX0_layOut 20 = .ok (.return_, 1) := by decide +kernel
theorem dX0_makeNet_0 : decode cX0_makeNet 0 = .ok (.new 27, 3) := by decide +kernel
theorem dX0_makeNet_3 : decode cX0_makeNet 3 = .ok (.dup, 1) := by decide +kernel
theorem dX0_makeNet_4 : decode cX0_makeNet 4 = .ok (.aload_n 0, 1) := by decide +kernel
theorem dX0_makeNet_5 : decode cX0_makeNet 5 = .ok (.getfield 12, 3) := by decide +kernel
theorem dX0_makeNet_8 : decode cX0_makeNet 8 = .ok (.invokevirtual 29, 3) := by decide +kernel
theorem dX0_makeNet_11 : decode cX0_makeNet 11 = .ok (.aload_n 1, 1) := by decide +kernel
theorem dX0_makeNet_12 : decode cX0_makeNet 12 = .ok (.invokespecial 33, 3) := by decide +kernel
theorem dX0_makeNet_15 : decode cX0_makeNet 15 = .ok (.astore_n 2, 1) := by decide +kernel
theorem dX0_makeNet_16 : decode cX0_makeNet 16 = .ok (.aload_n 0, 1) := by decide +kernel
theorem dX0_makeNet_17 : decode cX0_makeNet 17 = .ok (.getfield 12, 3) := by decide +kernel
theorem dX0_makeNet_20 : decode cX0_makeNet 20 = .ok (.aload_n 2, 1) := by decide +kernel
theorem dX0_makeNet_21 : decode cX0_makeNet 21 = .ok (.invokevirtual 36, 3) := by decide +kernel
theorem dX0_makeNet_24 : decode cX0_makeNet 24 = .ok (.pop, 1) := by decide +kernel
theorem dX0_makeNet_25 : decode cX0_makeNet 25 = .ok (.aload_n 2, 1) := by decide +kernel
theorem dX0_makeNet_26 : decode cX0_makeNet 26 = .ok (.invokevirtual 40, 3) := by decide +kernel
theorem dX0_makeNet_29 : decode cX0_makeNet 29 = .ok (.ifCond .eq 12, 3) := by decide +kernel
theorem dX0_makeNet_32 : decode cX0_makeNet 32 = .ok (.aload_n 0, 1) := by decide +kernel
theorem dX0_makeNet_33 : decode cX0_makeNet 33 = .ok (.getfield 18, 3) := by decide +kernel
theorem dX0_makeNet_36 : decode cX0_makeNet 36 = .ok (.aload_n 2, 1) := by decide +kernel
theorem dX0_makeNet_37 : decode cX0_makeNet 37 = .ok (.invokevirtual 36, 3) := by decide +kernel
theorem dX0_makeNet_40 : decode cX0_makeNet 40 = .ok (.pop, 1) := by decide +kernel
theorem dX0_makeNet_41 : decode cX0_makeNet 41 = .ok (.aload_n 2, 1) := by decide +kernel
theorem dX0_makeNet_42 : decode cX0_makeNet 42 = .ok (.areturn, 1) := by decide +kernel
theorem dX0_placeThoseReady_0 : decode cX0_placeThoseReady 0 = .ok (.iconst 0, 1) := by decide +kernel
theorem dX0_placeThoseReady_1 : decode cX0_placeThoseReady 1 = .ok (.istore_n 1, 1) := by decide +kernel
theorem dX0_placeThoseReady_2 : decode cX0_placeThoseReady 2 = .ok (.iload_n 1, 1) := by decide +kernel
theorem dX0_placeThoseReady_3 : decode cX0_placeThoseReady 3 = .ok (.aload_n 0, 1) := by decide +kernel
theorem dX0_placeThoseReady_4 : decode cX0_placeThoseReady 4 = .ok (.getfield 12, 3) := by decide +kernel
theorem dX0_placeThoseReady_7 : decode cX0_placeThoseReady 7 = .ok (.invokevirtual 29, 3) := by decide +kernel
theorem dX0_placeThoseReady_10 : decode cX0_placeThoseReady 10 = .ok (.if_icmp .ge 49, 3) := by decide +kernel
theorem dX0_placeThoseReady_13 : decode cX0_placeThoseReady 13 = .ok (.aload_n 0, 1) := by decide +kernel
theorem dX0_placeThoseReady_14 : decode cX0_placeThoseReady 14 = .ok (.getfield 12, 3) := by decide +kernel
theorem dX0_placeThoseReady_17 : decode cX0_placeThoseReady 17 = .ok (.iload_n 1, 1) := by decide +kernel
theorem dX0_placeThoseReady_18 : decode cX0_placeThoseReady 18 = .ok (.invokevirtual 71, 3) := by decide +kernel
theorem dX0_placeThoseReady_21 : decode cX0_placeThoseReady 21 = .ok (.checkcast 27, 3) := by decide +kernel
theorem dX0_placeThoseReady_24 : decode cX0_placeThoseReady 24 = .ok (.astore_n 2, 1) := by decide +kernel
theorem dX0_placeThoseReady_25 : decode cX0_placeThoseReady 25 = .ok (.aload_n 2, 1) := by decide +kernel
theorem dX0_placeThoseReady_26 : decode cX0_placeThoseReady 26 = .ok (.getfield 75, 3) := by decide +kernel
theorem dX0_placeThoseReady_29 : decode cX0_placeThoseReady 29 = .ok (.ifCond .ne 24, 3) := by decide +kernel
theorem dX0_placeThoseReady_32 : decode cX0_placeThoseReady 32 = .ok (.aload_n 2, 1) := by decide +kernel
theorem dX0_placeThoseReady_33 : decode cX0_placeThoseReady 33 = .ok (.invokevirtual 82, 3) := by decide +kernel
theorem dX0_placeThoseReady_36 : decode cX0_placeThoseReady 36 = .ok (.ifCond .eq 17, 3) := by decide +kernel
theorem dX0_placeThoseReady_39 : decode cX0_placeThoseReady 39 = .ok (.aload_n 2, 1) := by decide +kernel
theorem dX0_placeThoseReady_40 : decode cX0_placeThoseReady 40 = .ok (.iconst 1, 1) := by decide +kernel
theorem dX0_placeThoseReady_41 : decode cX0_placeThoseReady 41 = .ok (.putfield 75, 3) := by decide +kernel
theorem dX0_placeThoseReady_44 : decode cX0_placeThoseReady 44 = .ok (.aload_n 0, 1) := by decide +kernel
theorem dX0_placeThoseReady_45 : decode cX0_placeThoseReady 45 = .ok (.getfield 24, 3) := by decide +kernel
theorem dX0_placeThoseReady_48 : decode cX0_placeThoseReady 48 = .ok (.aload_n 2, 1) := by decide +kernel
theorem dX0_placeThoseReady_49 : decode cX0_placeThoseReady 49 = .ok (.invokevirtual 36, 3) := by decide +kernel
theorem dX0_placeThoseReady_52 : decode cX0_placeThoseReady 52 = .ok (.pop, 1) := by decide +kernel
theorem dX0_placeThoseReady_53 : decode cX0_placeThoseReady 53 = .ok (.iinc 1 1, 3) := by decide +kernel
theorem dX0_placeThoseReady_56 : decode cX0_placeThoseReady 56 = .ok (.goto (-54), 3) := by decide +kernel
theorem dX0_placeThoseReady_59 : decode cX0_placeThoseReady 59 = .ok (.return_, 1) := by decide +kernel
theorem dX0_putInOrder_0 : decode cX0_putInOrder 0 = .ok (.aload_n 0, 1) := by decide +kernel
theorem dX0_putInOrder_1 : decode cX0_putInOrder 1 = .ok (.getfield 24, 3) := by decide +kernel
theorem dX0_putInOrder_4 : decode cX0_putInOrder 4 = .ok (.invokevirtual 68, 3) := by decide +kernel
theorem dX0_putInOrder_7 : decode cX0_putInOrder 7 = .ok (.iconst 0, 1) := by decide +kernel
theorem dX0_putInOrder_8 : decode cX0_putInOrder 8 = .ok (.istore_n 1, 1) := by decide +kernel
theorem dX0_putInOrder_9 : decode cX0_putInOrder 9 = .ok (.iload_n 1, 1) := by decide +kernel
theorem dX0_putInOrder_10 : decode cX0_putInOrder 10 = .ok (.aload_n 0, 1) := by decide +kernel
theorem dX0_putInOrder_11 : decode cX0_putInOrder 11 = .ok (.getfield 12, 3) := by decide +kernel
theorem dX0_putInOrder_14 : decode cX0_putInOrder 14 = .ok (.invokevirtual 29, 3) := by decide +kernel
theorem dX0_putInOrder_17 : decode cX0_putInOrder 17 = .ok (.if_icmp .ge 24, 3) := by decide +kernel
theorem dX0_putInOrder_20 : decode cX0_putInOrder 20 = .ok (.aload_n 0, 1) := by decide +kernel
theorem dX0_putInOrder_21 : decode cX0_putInOrder 21 = .ok (.getfield 12, 3) := by decide +kernel
theorem dX0_putInOrder_24 : decode cX0_putInOrder 24 = .ok (.iload_n 1, 1) := by decide +kernel
theorem dX0_putInOrder_25 : decode cX0_putInOrder 25 = .ok (.invokevirtual 71, 3) := by decide +kernel
theorem dX0_putInOrder_28 : decode cX0_putInOrder 28 = .ok (.checkcast 27, 3) := by decide +kernel
theorem dX0_putInOrder_31 : decode cX0_putInOrder 31 = .ok (.iconst 0, 1) := by decide +kernel
theorem dX0_putInOrder_32 : decode cX0_putInOrder 32 = .ok (.putfield 75, 3) := by decide +kernel
theorem dX0_putInOrder_35 : decode cX0_putInOrder 35 = .ok (.iinc 1 1, 3) := by decide +kernel
theorem dX0_putInOrder_38 : decode cX0_putInOrder 38 = .ok (.goto (-29), 3) := by decide +kernel
theorem dX0_putInOrder_41 : decode cX0_putInOrder 41 = .ok (.iconst 0, 1) := by decide +kernel
theorem dX0_putInOrder_42 : decode cX0_putInOrder 42 = .ok (.istore_n 1, 1) := by decide +kernel
theorem dX0_putInOrder_43 : decode cX0_putInOrder 43 = .ok (.iload_n 1, 1) := by decide +kernel
theorem dX0_putInOrder_44 : decode cX0_putInOrder 44 = .ok (.bipush 40, 2) := by decide +kernel
theorem dX0_putInOrder_46 : decode cX0_putInOrder 46 = .ok (.if_icmp .ge 30, 3) := by decide +kernel
theorem dX0_putInOrder_49 : decode cX0_putInOrder 49 = .ok (.aload_n 0, 1) := by decide +kernel
theorem dX0_putInOrder_50 : decode cX0_putInOrder 50 = .ok (.getfield 24, 3) := by decide +kernel
theorem dX0_putInOrder_53 : decode cX0_putInOrder 53 = .ok (.invokevirtual 29, 3) := by decide +kernel
theorem dX0_putInOrder_56 : decode cX0_putInOrder 56 = .ok (.aload_n 0, 1) := by decide +kernel
theorem dX0_putInOrder_57 : decode cX0_putInOrder 57 = .ok (.getfield 12, 3) := by decide +kernel
theorem dX0_putInOrder_60 : decode cX0_putInOrder 60 = .ok (.invokevirtual 29, 3) := by decide +kernel
theorem dX0_putInOrder_63 : decode cX0_putInOrder 63 = .ok (.if_icmp .ge 13, 3) := by decide +kernel
theorem dX0_putInOrder_66 : decode cX0_putInOrder 66 = .ok (.aload_n 0, 1) := by decide +kernel
theorem dX0_putInOrder_67 : decode cX0_putInOrder 67 = .ok (.invokevirtual 79, 3) := by decide +kernel
theorem dX0_putInOrder_70 : decode cX0_putInOrder 70 = .ok (.iinc 1 1, 3) := by decide +kernel
theorem dX0_putInOrder_73 : decode cX0_putInOrder 73 = .ok (.goto (-30), 3) := by decide +kernel
theorem dX0_putInOrder_76 : decode cX0_putInOrder 76 = .ok (.return_, 1) := by decide +kernel
theorem dX0_reckonDelays_0 : decode cX0_reckonDelays 0 = .ok (.iconst 0, 1) := by decide +kernel
theorem dX0_reckonDelays_1 : decode cX0_reckonDelays 1 = .ok (.istore_n 1, 1) := by decide +kernel
theorem dX0_reckonDelays_2 : decode cX0_reckonDelays 2 = .ok (.iload_n 1, 1) := by decide +kernel
theorem dX0_reckonDelays_3 : decode cX0_reckonDelays 3 = .ok (.aload_n 0, 1) := by decide +kernel
theorem dX0_reckonDelays_4 : decode cX0_reckonDelays 4 = .ok (.getfield 24, 3) := by decide +kernel
theorem dX0_reckonDelays_7 : decode cX0_reckonDelays 7 = .ok (.invokevirtual 29, 3) := by decide +kernel
theorem dX0_reckonDelays_10 : decode cX0_reckonDelays 10 = .ok (.if_icmp .ge 34, 3) := by decide +kernel
theorem dX0_reckonDelays_13 : decode cX0_reckonDelays 13 = .ok (.aload_n 0, 1) := by decide +kernel
theorem dX0_reckonDelays_14 : decode cX0_reckonDelays 14 = .ok (.getfield 24, 3) := by decide +kernel
theorem dX0_reckonDelays_17 : decode cX0_reckonDelays 17 = .ok (.iload_n 1, 1) := by decide +kernel
theorem dX0_reckonDelays_18 : decode cX0_reckonDelays 18 = .ok (.invokevirtual 71, 3) := by decide +kernel
theorem dX0_reckonDelays_21 : decode cX0_reckonDelays 21 = .ok (.checkcast 27, 3) := by decide +kernel
theorem dX0_reckonDelays_24 : decode cX0_reckonDelays 24 = .ok (.astore_n 2, 1) := by decide +kernel
theorem dX0_reckonDelays_25 : decode cX0_reckonDelays 25 = .ok (.aload_n 2, 1) := by decide +kernel
theorem dX0_reckonDelays_26 : decode cX0_reckonDelays 26 = .ok (.aload_n 2, 1) := by decide +kernel
theorem dX0_reckonDelays_27 : decode cX0_reckonDelays 27 = .ok (.invokevirtual 95, 3) := by decide +kernel
theorem dX0_reckonDelays_30 : decode cX0_reckonDelays 30 = .ok (.putfield 98, 3) := by decide +kernel
theorem dX0_reckonDelays_33 : decode cX0_reckonDelays 33 = .ok (.aload_n 2, 1) := by decide +kernel
theorem dX0_reckonDelays_34 : decode cX0_reckonDelays 34 = .ok (.iconst 0, 1) := by decide +kernel
theorem dX0_reckonDelays_35 : decode cX0_reckonDelays 35 = .ok (.putfield 101, 3) := by decide +kernel
theorem dX0_reckonDelays_38 : decode cX0_reckonDelays 38 = .ok (.iinc 1 1, 3) := by decide +kernel
theorem dX0_reckonDelays_41 : decode cX0_reckonDelays 41 = .ok (.goto (-39), 3) := by decide +kernel
theorem dX0_reckonDelays_44 : decode cX0_reckonDelays 44 = .ok (.aload_n 0, 1) := by decide +kernel
theorem dX0_reckonDelays_45 : decode cX0_reckonDelays 45 = .ok (.getfield 24, 3) := by decide +kernel
theorem dX0_reckonDelays_48 : decode cX0_reckonDelays 48 = .ok (.invokevirtual 29, 3) := by decide +kernel
theorem dX0_reckonDelays_51 : decode cX0_reckonDelays 51 = .ok (.iconst 1, 1) := by decide +kernel
theorem dX0_reckonDelays_52 : decode cX0_reckonDelays 52 = .ok (.isub, 1) := by decide +kernel
theorem dX0_reckonDelays_53 : decode cX0_reckonDelays 53 = .ok (.istore_n 1, 1) := by decide +kernel
theorem dX0_reckonDelays_54 : decode cX0_reckonDelays 54 = .ok (.iload_n 1, 1) := by decide +kernel
theorem dX0_reckonDelays_55 : decode cX0_reckonDelays 55 = .ok (.ifCond .lt 23, 3) := by decide +kernel
theorem dX0_reckonDelays_58 : decode cX0_reckonDelays 58 = .ok (.aload_n 0, 1) := by decide +kernel
theorem dX0_reckonDelays_59 : decode cX0_reckonDelays 59 = .ok (.getfield 24, 3) := by decide +kernel
theorem dX0_reckonDelays_62 : decode cX0_reckonDelays 62 = .ok (.iload_n 1, 1) := by decide +kernel
theorem dX0_reckonDelays_63 : decode cX0_reckonDelays 63 = .ok (.invokevirtual 71, 3) := by decide +kernel
theorem dX0_reckonDelays_66 : decode cX0_reckonDelays 66 = .ok (.checkcast 27, 3) := by decide +kernel
theorem dX0_reckonDelays_69 : decode cX0_reckonDelays 69 = .ok (.invokevirtual 104, 3) := by decide +kernel
theorem dX0_reckonDelays_72 : decode cX0_reckonDelays 72 = .ok (.iinc 1 (-1), 3) := by decide +kernel
theorem dX0_reckonDelays_75 : decode cX0_reckonDelays 75 = .ok (.goto (-21), 3) := by decide +kernel
theorem dX0_reckonDelays_78 : decode cX0_reckonDelays 78 = .ok (.return_, 1) := by decide +kernel
theorem dX0_settle_0 : decode cX0_settle 0 = .ok (.iconst 0, 1) := by decide +kernel
theorem dX0_settle_1 : decode cX0_settle 1 = .ok (.istore_n 3, 1) := by decide +kernel
theorem dX0_settle_2 : decode cX0_settle 2 = .ok (.iload_n 3, 1) := by decide +kernel
theorem dX0_settle_3 : decode cX0_settle 3 = .ok (.aload_n 0, 1) := by decide +kernel
theorem dX0_settle_4 : decode cX0_settle 4 = .ok (.getfield 24, 3) := by decide +kernel
theorem dX0_settle_7 : decode cX0_settle 7 = .ok (.invokevirtual 29, 3) := by decide +kernel
theorem dX0_settle_10 : decode cX0_settle 10 = .ok (.if_icmp .ge 55, 3) := by decide +kernel
theorem dX0_settle_13 : decode cX0_settle 13 = .ok (.aload_n 0, 1) := by decide +kernel
theorem dX0_settle_14 : decode cX0_settle 14 = .ok (.getfield 24, 3) := by decide +kernel
theorem dX0_settle_17 : decode cX0_settle 17 = .ok (.iload_n 3, 1) := by decide +kernel
theorem dX0_settle_18 : decode cX0_settle 18 = .ok (.invokevirtual 71, 3) := by decide +kernel
theorem dX0_settle_21 : decode cX0_settle 21 = .ok (.checkcast 27, 3) := by decide +kernel
theorem dX0_settle_24 : decode cX0_settle 24 = .ok (.astore 4, 2) := by decide +kernel
theorem dX0_settle_26 : decode cX0_settle 26 = .ok (.aload 4, 2) := by decide +kernel
theorem dX0_settle_28 : decode cX0_settle 28 = .ok (.aload_n 1, 1) := by decide +kernel
theorem dX0_settle_29 : decode cX0_settle 29 = .ok (.if_acmp .ne 12, 3) := by decide +kernel
theorem dX0_settle_41 : decode cX0_settle 41 = .ok (.aload 4, 2) := by decide +kernel
theorem dX0_settle_43 : decode cX0_settle 43 = .ok (.invokevirtual 40, 3) := by decide +kernel
theorem dX0_settle_46 : decode cX0_settle 46 = .ok (.ifCond .ne 13, 3) := by decide +kernel
theorem dX0_settle_49 : decode cX0_settle 49 = .ok (.aload 4, 2) := by decide +kernel
theorem dX0_settle_51 : decode cX0_settle 51 = .ok (.aload 4, 2) := by decide +kernel
theorem dX0_settle_53 : decode cX0_settle 53 = .ok (.invokevirtual 162, 3) := by decide +kernel
theorem dX0_settle_56 : decode cX0_settle 56 = .ok (.putfield 155, 3) := by decide +kernel
theorem dX0_settle_59 : decode cX0_settle 59 = .ok (.iinc 3 1, 3) := by decide +kernel
theorem dX0_settle_62 : decode cX0_settle 62 = .ok (.goto (-60), 3) := by decide +kernel
theorem dX0_settle_65 : decode cX0_settle 65 = .ok (.return_, 1) := by decide +kernel
theorem dX0_settleAsNow_0 : decode cX0_settleAsNow 0 = .ok (.iconst 0, 1) := by decide +kernel
theorem dX0_settleAsNow_1 : decode cX0_settleAsNow 1 = .ok (.istore_n 1, 1) := by decide +kernel
theorem dX0_settleAsNow_2 : decode cX0_settleAsNow 2 = .ok (.iload_n 1, 1) := by decide +kernel
theorem dX0_settleAsNow_3 : decode cX0_settleAsNow 3 = .ok (.aload_n 0, 1) := by decide +kernel
theorem dX0_settleAsNow_4 : decode cX0_settleAsNow 4 = .ok (.getfield 18, 3) := by decide +kernel
theorem dX0_settleAsNow_7 : decode cX0_settleAsNow 7 = .ok (.invokevirtual 29, 3) := by decide +kernel
theorem dX0_settleAsNow_10 : decode cX0_settleAsNow 10 = .ok (.if_icmp .ge 29, 3) := by decide +kernel
theorem dX0_settleAsNow_39 : decode cX0_settleAsNow 39 = .ok (.aload_n 0, 1) := by decide +kernel
theorem dX0_settleAsNow_40 : decode cX0_settleAsNow 40 = .ok (.aconst_null, 1) := by decide +kernel
theorem dX0_settleAsNow_41 : decode cX0_settleAsNow 41 = .ok (.bipush 120, 2) := by decide +kernel
theorem dX0_settleAsNow_43 : decode cX0_settleAsNow 43 = .ok (.invokevirtual 158, 3) := by decide +kernel
theorem dX0_settleAsNow_46 : decode cX0_settleAsNow 46 = .ok (.return_, 1) := by decide +kernel
theorem dX2_drivenTrial_0 : decode cX2_drivenTrial 0 = .ok (.bipush 122, 2) := by decide +kernel
theorem dX2_drivenTrial_2 : decode cX2_drivenTrial 2 = .ok (.istore_n 1, 1) := by decide +kernel
theorem dX2_drivenTrial_3 : decode cX2_drivenTrial 3 = .ok (.iconst 0, 1) := by decide +kernel
theorem dX2_drivenTrial_4 : decode cX2_drivenTrial 4 = .ok (.istore_n 2, 1) := by decide +kernel
theorem dX2_drivenTrial_5 : decode cX2_drivenTrial 5 = .ok (.iload_n 2, 1) := by decide +kernel
theorem dX2_drivenTrial_6 : decode cX2_drivenTrial 6 = .ok (.aload_n 0, 1) := by decide +kernel
theorem dX2_drivenTrial_7 : decode cX2_drivenTrial 7 = .ok (.getfield 10, 3) := by decide +kernel
theorem dX2_drivenTrial_10 : decode cX2_drivenTrial 10 = .ok (.invokevirtual 65, 3) := by decide +kernel
theorem dX2_drivenTrial_13 : decode cX2_drivenTrial 13 = .ok (.if_icmp .ge 44, 3) := by decide +kernel
theorem dX2_drivenTrial_57 : decode cX2_drivenTrial 57 = .ok (.iload_n 1, 1) := by decide +kernel
theorem dX2_drivenTrial_58 : decode cX2_drivenTrial 58 = .ok (.ireturn, 1) := by decide +kernel
theorem dX2_init_0 : decode cX2_init 0 = .ok (.aload_n 0, 1) := by decide +kernel
theorem dX2_init_1 : decode cX2_init 1 = .ok (.invokespecial 1, 3) := by decide +kernel
theorem dX2_init_4 : decode cX2_init 4 = .ok (.aload_n 0, 1) := by decide +kernel
theorem dX2_init_5 : decode cX2_init 5 = .ok (.new 7, 3) := by decide +kernel
theorem dX2_init_8 : decode cX2_init 8 = .ok (.dup, 1) := by decide +kernel
theorem dX2_init_9 : decode cX2_init 9 = .ok (.invokespecial 9, 3) := by decide +kernel
theorem dX2_init_12 : decode cX2_init 12 = .ok (.putfield 10, 3) := by decide +kernel
theorem dX2_init_15 : decode cX2_init 15 = .ok (.aload_n 0, 1) := by decide +kernel
theorem dX2_init_16 : decode cX2_init 16 = .ok (.iload_n 1, 1) := by decide +kernel
theorem dX2_init_17 : decode cX2_init 17 = .ok (.putfield 16, 3) := by decide +kernel
theorem dX2_init_20 : decode cX2_init 20 = .ok (.aload_n 0, 1) := by decide +kernel
theorem dX2_init_21 : decode cX2_init 21 = .ok (.aload_n 2, 1) := by decide +kernel
theorem dX2_init_22 : decode cX2_init 22 = .ok (.putfield 20, 3) := by decide +kernel
theorem dX2_init_25 : decode cX2_init 25 = .ok (.aload_n 0, 1) := by decide +kernel
theorem dX2_init_26 : decode cX2_init 26 = .ok (.bipush 120, 2) := by decide +kernel
theorem dX2_init_28 : decode cX2_init 28 = .ok (.putfield 24, 3) := by decide +kernel
theorem dX2_init_31 : decode cX2_init 31 = .ok (.aload_n 0, 1) := by decide +kernel
theorem dX2_init_32 : decode cX2_init 32 = .ok (.bipush 120, 2) := by decide +kernel
theorem dX2_init_34 : decode cX2_init 34 = .ok (.putfield 28, 3) := by decide +kernel
theorem dX2_init_37 : decode cX2_init 37 = .ok (.aload_n 0, 1) := by decide +kernel
theorem dX2_init_38 : decode cX2_init 38 = .ok (.bipush 120, 2) := by decide +kernel
theorem dX2_init_40 : decode cX2_init 40 = .ok (.putfield 31, 3) := by decide +kernel
theorem dX2_init_43 : decode cX2_init 43 = .ok (.aload_n 0, 1) := by decide +kernel
theorem dX2_init_44 : decode cX2_init 44 = .ok (.bipush 120, 2) := by decide +kernel
theorem dX2_init_46 : decode cX2_init 46 = .ok (.putfield 34, 3) := by decide +kernel
theorem dX2_init_49 : decode cX2_init 49 = .ok (.aload_n 0, 1) := by decide +kernel
theorem dX2_init_50 : decode cX2_init 50 = .ok (.aload_n 0, 1) := by decide +kernel
theorem dX2_init_51 : decode cX2_init 51 = .ok (.putfield 37, 3) := by decide +kernel
theorem dX2_init_54 : decode cX2_init 54 = .ok (.return_, 1) := by decide +kernel
theorem dX2_isSource_0 : decode cX2_isSource 0 = .ok (.aload_n 0, 1) := by decide +kernel
theorem dX2_isSource_1 : decode cX2_isSource 1 = .ok (.getfield 20, 3) := by decide +kernel
theorem dX2_isSource_4 : decode cX2_isSource 4 = .ok (.getstatic 41, 3) := by decide +kernel
theorem dX2_isSource_7 : decode cX2_isSource 7 = .ok (.if_acmp .eq 13, 3) := by decide +kernel
theorem dX2_isSource_10 : decode cX2_isSource 10 = .ok (.aload_n 0, 1) := by decide +kernel
theorem dX2_isSource_11 : decode cX2_isSource 11 = .ok (.getfield 20, 3) := by decide +kernel
theorem dX2_isSource_14 : decode cX2_isSource 14 = .ok (.getstatic 46, 3) := by decide +kernel
theorem dX2_isSource_17 : decode cX2_isSource 17 = .ok (.if_acmp .ne 7, 3) := by decide +kernel
theorem dX2_isSource_20 : decode cX2_isSource 20 = .ok (.iconst 1, 1) := by decide +kernel
theorem dX2_isSource_21 : decode cX2_isSource 21 = .ok (.goto 4, 3) := by decide +kernel
theorem dX2_isSource_24 : decode cX2_isSource 24 = .ok (.iconst 0, 1) := by decide +kernel
theorem dX2_isSource_25 : decode cX2_isSource 25 = .ok (.ireturn, 1) := by decide +kernel
theorem dX2_latestArrival_0 : decode cX2_latestArrival 0 = .ok (.iconst 0, 1) := by decide +kernel
theorem dX2_latestArrival_1 : decode cX2_latestArrival 1 = .ok (.istore_n 1, 1) := by decide +kernel
theorem dX2_latestArrival_2 : decode cX2_latestArrival 2 = .ok (.iconst 0, 1) := by decide +kernel
theorem dX2_latestArrival_3 : decode cX2_latestArrival 3 = .ok (.istore_n 2, 1) := by decide +kernel
theorem dX2_latestArrival_4 : decode cX2_latestArrival 4 = .ok (.iload_n 2, 1) := by decide +kernel
theorem dX2_latestArrival_5 : decode cX2_latestArrival 5 = .ok (.aload_n 0, 1) := by decide +kernel
theorem dX2_latestArrival_6 : decode cX2_latestArrival 6 = .ok (.getfield 10, 3) := by decide +kernel
theorem dX2_latestArrival_9 : decode cX2_latestArrival 9 = .ok (.invokevirtual 65, 3) := by decide +kernel
theorem dX2_latestArrival_12 : decode cX2_latestArrival 12 = .ok (.if_icmp .ge 48, 3) := by decide +kernel
theorem dX2_latestArrival_60 : decode cX2_latestArrival 60 = .ok (.iload_n 1, 1) := by decide +kernel
theorem dX2_latestArrival_61 : decode cX2_latestArrival 61 = .ok (.ireturn, 1) := by decide +kernel
theorem dX2_lengthenWaysOfRead_0 : decode cX2_lengthenWaysOfRead 0 = .ok (.iconst 0, 1) := by decide +kernel
theorem dX2_lengthenWaysOfRead_1 : decode cX2_lengthenWaysOfRead 1 = .ok (.istore_n 1, 1) := by decide +kernel
theorem dX2_lengthenWaysOfRead_2 : decode cX2_lengthenWaysOfRead 2 = .ok (.iload_n 1, 1) := by decide +kernel
theorem dX2_lengthenWaysOfRead_3 : decode cX2_lengthenWaysOfRead 3 = .ok (.aload_n 0, 1) := by decide +kernel
theorem dX2_lengthenWaysOfRead_4 : decode cX2_lengthenWaysOfRead 4 = .ok (.getfield 10, 3) := by decide +kernel
theorem dX2_lengthenWaysOfRead_7 : decode cX2_lengthenWaysOfRead 7 = .ok (.invokevirtual 65, 3) := by decide +kernel
theorem dX2_lengthenWaysOfRead_10 : decode cX2_lengthenWaysOfRead 10 = .ok (.if_icmp .ge 67, 3) := by decide +kernel
theorem dX2_lengthenWaysOfRead_77 : decode cX2_lengthenWaysOfRead 77 = .ok (.return_, 1) := by decide +kernel
theorem dX2_readsOnlyPlaced_0 : decode cX2_readsOnlyPlaced 0 = .ok (.iconst 0, 1) := by decide +kernel
theorem dX2_readsOnlyPlaced_1 : decode cX2_readsOnlyPlaced 1 = .ok (.istore_n 1, 1) := by decide +kernel
theorem dX2_readsOnlyPlaced_2 : decode cX2_readsOnlyPlaced 2 = .ok (.iload_n 1, 1) := by decide +kernel
theorem dX2_readsOnlyPlaced_3 : decode cX2_readsOnlyPlaced 3 = .ok (.aload_n 0, 1) := by decide +kernel
theorem dX2_readsOnlyPlaced_4 : decode cX2_readsOnlyPlaced 4 = .ok (.getfield 10, 3) := by decide +kernel
theorem dX2_readsOnlyPlaced_7 : decode cX2_readsOnlyPlaced 7 = .ok (.invokevirtual 65, 3) := by decide +kernel
theorem dX2_readsOnlyPlaced_10 : decode cX2_readsOnlyPlaced 10 = .ok (.if_icmp .ge 43, 3) := by decide +kernel
theorem dX2_readsOnlyPlaced_53 : decode cX2_readsOnlyPlaced 53 = .ok (.iconst 1, 1) := by decide +kernel
theorem dX2_readsOnlyPlaced_54 : decode cX2_readsOnlyPlaced 54 = .ok (.ireturn, 1) := by decide +kernel
theorem dX2_restart_0 : decode cX2_restart 0 = .ok (.aload_n 0, 1) := by decide +kernel
theorem dX2_restart_1 : decode cX2_restart 1 = .ok (.aload_n 0, 1) := by decide +kernel
theorem dX2_restart_2 : decode cX2_restart 2 = .ok (.getfield 31, 3) := by decide +kernel
