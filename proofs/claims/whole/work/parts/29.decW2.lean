theorem d_L_law_1257 : decode b_L_law 1257 = .ok (.lconst 0, 1) := by decide +kernel
theorem d_L_law_1258 : decode b_L_law 1258 = .ok (.lcmp, 1) := by decide +kernel
theorem d_L_law_1259 : decode b_L_law 1259 = .ok (.ifCond .eq 5, 3) := by decide +kernel
theorem d_L_law_1262 : decode b_L_law 1262 = .ok (.iconst 0, 1) := by decide +kernel
theorem d_L_law_1263 : decode b_L_law 1263 = .ok (.ireturn, 1) := by decide +kernel
theorem d_L_law_1264 : decode b_L_law 1264 = .ok (.goto 401, 3) := by decide +kernel
theorem d_L_law_1267 : decode b_L_law 1267 = .ok (.aload_n 1, 1) := by decide +kernel
theorem d_L_law_1268 : decode b_L_law 1268 = .ok (.aload_n 0, 1) := by decide +kernel
theorem d_L_law_1269 : decode b_L_law 1269 = .ok (.iload 4, 2) := by decide +kernel
theorem d_L_law_1271 : decode b_L_law 1271 = .ok (.iconst 1, 1) := by decide +kernel
theorem d_L_law_1272 : decode b_L_law 1272 = .ok (.iadd, 1) := by decide +kernel
theorem d_L_law_1273 : decode b_L_law 1273 = .ok (.iaload, 1) := by decide +kernel
theorem d_L_law_1274 : decode b_L_law 1274 = .ok (.aload_n 0, 1) := by decide +kernel
theorem d_L_law_1275 : decode b_L_law 1275 = .ok (.iload 4, 2) := by decide +kernel
theorem d_L_law_1277 : decode b_L_law 1277 = .ok (.iconst 2, 1) := by decide +kernel
theorem d_L_law_1278 : decode b_L_law 1278 = .ok (.iadd, 1) := by decide +kernel
theorem d_L_law_1279 : decode b_L_law 1279 = .ok (.iaload, 1) := by decide +kernel
theorem d_L_law_1280 : decode b_L_law 1280 = .ok (.i2l, 1) := by decide +kernel
theorem d_L_law_1281 : decode b_L_law 1281 = .ok (.bipush 32, 2) := by decide +kernel
theorem d_L_law_1283 : decode b_L_law 1283 = .ok (.lshl, 1) := by decide +kernel
theorem d_L_law_1284 : decode b_L_law 1284 = .ok (.aload_n 0, 1) := by decide +kernel
theorem d_L_law_1285 : decode b_L_law 1285 = .ok (.iload 4, 2) := by decide +kernel
theorem d_L_law_1287 : decode b_L_law 1287 = .ok (.iconst 3, 1) := by decide +kernel
theorem d_L_law_1288 : decode b_L_law 1288 = .ok (.iadd, 1) := by decide +kernel
theorem d_L_law_1289 : decode b_L_law 1289 = .ok (.iaload, 1) := by decide +kernel
theorem d_L_law_1290 : decode b_L_law 1290 = .ok (.i2l, 1) := by decide +kernel
theorem d_L_law_1291 : decode b_L_law 1291 = .ok (.ldc2_w 90, 3) := by decide +kernel
theorem d_L_law_1294 : decode b_L_law 1294 = .ok (.land, 1) := by decide +kernel
theorem d_L_law_1295 : decode b_L_law 1295 = .ok (.lor, 1) := by decide +kernel
theorem d_L_law_1296 : decode b_L_law 1296 = .ok (.aload_n 0, 1) := by decide +kernel
theorem d_L_law_1297 : decode b_L_law 1297 = .ok (.iload 4, 2) := by decide +kernel
theorem d_L_law_1299 : decode b_L_law 1299 = .ok (.iconst 4, 1) := by decide +kernel
theorem d_L_law_1300 : decode b_L_law 1300 = .ok (.iadd, 1) := by decide +kernel
theorem d_L_law_1301 : decode b_L_law 1301 = .ok (.iaload, 1) := by decide +kernel
theorem d_L_law_1302 : decode b_L_law 1302 = .ok (.aload_n 0, 1) := by decide +kernel
theorem d_L_law_1303 : decode b_L_law 1303 = .ok (.iload 4, 2) := by decide +kernel
theorem d_L_law_1305 : decode b_L_law 1305 = .ok (.iconst 5, 1) := by decide +kernel
theorem d_L_law_1306 : decode b_L_law 1306 = .ok (.iadd, 1) := by decide +kernel
theorem d_L_law_1307 : decode b_L_law 1307 = .ok (.iaload, 1) := by decide +kernel
theorem d_L_law_1308 : decode b_L_law 1308 = .ok (.aload_n 3, 1) := by decide +kernel
theorem d_L_law_1309 : decode b_L_law 1309 = .ok (.invokestatic 138, 3) := by decide +kernel
theorem d_L_law_1312 : decode b_L_law 1312 = .ok (.istore 5, 2) := by decide +kernel
theorem d_L_law_1314 : decode b_L_law 1314 = .ok (.aload_n 2, 1) := by decide +kernel
theorem d_L_law_1315 : decode b_L_law 1315 = .ok (.aload_n 0, 1) := by decide +kernel
theorem d_L_law_1316 : decode b_L_law 1316 = .ok (.iload 4, 2) := by decide +kernel
theorem d_L_law_1318 : decode b_L_law 1318 = .ok (.iconst 1, 1) := by decide +kernel
theorem d_L_law_1319 : decode b_L_law 1319 = .ok (.iadd, 1) := by decide +kernel
theorem d_L_law_1320 : decode b_L_law 1320 = .ok (.iaload, 1) := by decide +kernel
theorem d_L_law_1321 : decode b_L_law 1321 = .ok (.aload_n 0, 1) := by decide +kernel
theorem d_L_law_1322 : decode b_L_law 1322 = .ok (.iload 4, 2) := by decide +kernel
theorem d_L_law_1324 : decode b_L_law 1324 = .ok (.iconst 2, 1) := by decide +kernel
theorem d_L_law_1325 : decode b_L_law 1325 = .ok (.iadd, 1) := by decide +kernel
theorem d_L_law_1326 : decode b_L_law 1326 = .ok (.iaload, 1) := by decide +kernel
theorem d_L_law_1327 : decode b_L_law 1327 = .ok (.i2l, 1) := by decide +kernel
theorem d_L_law_1328 : decode b_L_law 1328 = .ok (.bipush 32, 2) := by decide +kernel
theorem d_L_law_1330 : decode b_L_law 1330 = .ok (.lshl, 1) := by decide +kernel
theorem d_L_law_1331 : decode b_L_law 1331 = .ok (.aload_n 0, 1) := by decide +kernel
theorem d_L_law_1332 : decode b_L_law 1332 = .ok (.iload 4, 2) := by decide +kernel
theorem d_L_law_1334 : decode b_L_law 1334 = .ok (.iconst 3, 1) := by decide +kernel
theorem d_L_law_1335 : decode b_L_law 1335 = .ok (.iadd, 1) := by decide +kernel
theorem d_L_law_1336 : decode b_L_law 1336 = .ok (.iaload, 1) := by decide +kernel
theorem d_L_law_1337 : decode b_L_law 1337 = .ok (.i2l, 1) := by decide +kernel
theorem d_L_law_1338 : decode b_L_law 1338 = .ok (.ldc2_w 90, 3) := by decide +kernel
theorem d_L_law_1341 : decode b_L_law 1341 = .ok (.land, 1) := by decide +kernel
theorem d_L_law_1342 : decode b_L_law 1342 = .ok (.lor, 1) := by decide +kernel
theorem d_L_law_1343 : decode b_L_law 1343 = .ok (.aload_n 0, 1) := by decide +kernel
theorem d_L_law_1344 : decode b_L_law 1344 = .ok (.iload 4, 2) := by decide +kernel
theorem d_L_law_1346 : decode b_L_law 1346 = .ok (.iconst 4, 1) := by decide +kernel
theorem d_L_law_1347 : decode b_L_law 1347 = .ok (.iadd, 1) := by decide +kernel
theorem d_L_law_1348 : decode b_L_law 1348 = .ok (.iaload, 1) := by decide +kernel
theorem d_L_law_1349 : decode b_L_law 1349 = .ok (.aload_n 0, 1) := by decide +kernel
theorem d_L_law_1350 : decode b_L_law 1350 = .ok (.iload 4, 2) := by decide +kernel
theorem d_L_law_1352 : decode b_L_law 1352 = .ok (.iconst 5, 1) := by decide +kernel
theorem d_L_law_1353 : decode b_L_law 1353 = .ok (.iadd, 1) := by decide +kernel
theorem d_L_law_1354 : decode b_L_law 1354 = .ok (.iaload, 1) := by decide +kernel
theorem d_L_law_1355 : decode b_L_law 1355 = .ok (.invokevirtual 140, 3) := by decide +kernel
theorem d_L_law_1358 : decode b_L_law 1358 = .ok (.istore 6, 2) := by decide +kernel
theorem d_L_law_1360 : decode b_L_law 1360 = .ok (.aload_n 2, 1) := by decide +kernel
theorem d_L_law_1361 : decode b_L_law 1361 = .ok (.invokevirtual 86, 3) := by decide +kernel
theorem d_L_law_1364 : decode b_L_law 1364 = .ok (.iload 5, 2) := by decide +kernel
theorem d_L_law_1366 : decode b_L_law 1366 = .ok (.if_icmp .eq 5, 3) := by decide +kernel
theorem d_L_law_1369 : decode b_L_law 1369 = .ok (.iconst 0, 1) := by decide +kernel
theorem d_L_law_1370 : decode b_L_law 1370 = .ok (.ireturn, 1) := by decide +kernel
theorem d_L_law_1371 : decode b_L_law 1371 = .ok (.iload 5, 2) := by decide +kernel
theorem d_L_law_1373 : decode b_L_law 1373 = .ok (.ifCond .ne 15, 3) := by decide +kernel
theorem d_L_law_1376 : decode b_L_law 1376 = .ok (.aload_n 3, 1) := by decide +kernel
theorem d_L_law_1377 : decode b_L_law 1377 = .ok (.iconst 0, 1) := by decide +kernel
theorem d_L_law_1378 : decode b_L_law 1378 = .ok (.laload, 1) := by decide +kernel
theorem d_L_law_1379 : decode b_L_law 1379 = .ok (.iload 6, 2) := by decide +kernel
theorem d_L_law_1381 : decode b_L_law 1381 = .ok (.i2l, 1) := by decide +kernel
theorem d_L_law_1382 : decode b_L_law 1382 = .ok (.lcmp, 1) := by decide +kernel
theorem d_L_law_1383 : decode b_L_law 1383 = .ok (.ifCond .eq 5, 3) := by decide +kernel
theorem d_L_law_1386 : decode b_L_law 1386 = .ok (.iconst 0, 1) := by decide +kernel
theorem d_L_law_1387 : decode b_L_law 1387 = .ok (.ireturn, 1) := by decide +kernel
theorem d_L_law_1388 : decode b_L_law 1388 = .ok (.goto 277, 3) := by decide +kernel
theorem d_L_law_1391 : decode b_L_law 1391 = .ok (.aload_n 1, 1) := by decide +kernel
theorem d_L_law_1392 : decode b_L_law 1392 = .ok (.aload_n 0, 1) := by decide +kernel
theorem d_L_law_1393 : decode b_L_law 1393 = .ok (.iload 4, 2) := by decide +kernel
theorem d_L_law_1395 : decode b_L_law 1395 = .ok (.iconst 1, 1) := by decide +kernel
theorem d_L_law_1396 : decode b_L_law 1396 = .ok (.iadd, 1) := by decide +kernel
theorem d_L_law_1397 : decode b_L_law 1397 = .ok (.iaload, 1) := by decide +kernel
theorem d_L_law_1398 : decode b_L_law 1398 = .ok (.i2l, 1) := by decide +kernel
theorem d_L_law_1399 : decode b_L_law 1399 = .ok (.bipush 32, 2) := by decide +kernel
theorem d_L_law_1401 : decode b_L_law 1401 = .ok (.lshl, 1) := by decide +kernel
theorem d_L_law_1402 : decode b_L_law 1402 = .ok (.aload_n 0, 1) := by decide +kernel
theorem d_L_law_1403 : decode b_L_law 1403 = .ok (.iload 4, 2) := by decide +kernel
theorem d_L_law_1405 : decode b_L_law 1405 = .ok (.iconst 2, 1) := by decide +kernel
theorem d_L_law_1406 : decode b_L_law 1406 = .ok (.iadd, 1) := by decide +kernel
theorem d_L_law_1407 : decode b_L_law 1407 = .ok (.iaload, 1) := by decide +kernel
theorem d_L_law_1408 : decode b_L_law 1408 = .ok (.i2l, 1) := by decide +kernel
theorem d_L_law_1409 : decode b_L_law 1409 = .ok (.ldc2_w 90, 3) := by decide +kernel
theorem d_L_law_1412 : decode b_L_law 1412 = .ok (.land, 1) := by decide +kernel
theorem d_L_law_1413 : decode b_L_law 1413 = .ok (.lor, 1) := by decide +kernel
theorem d_L_law_1414 : decode b_L_law 1414 = .ok (.invokevirtual 141, 3) := by decide +kernel
theorem d_L_law_1417 : decode b_L_law 1417 = .ok (.aload_n 2, 1) := by decide +kernel
theorem d_L_law_1418 : decode b_L_law 1418 = .ok (.aload_n 0, 1) := by decide +kernel
theorem d_L_law_1419 : decode b_L_law 1419 = .ok (.iload 4, 2) := by decide +kernel
theorem d_L_law_1421 : decode b_L_law 1421 = .ok (.iconst 1, 1) := by decide +kernel
theorem d_L_law_1422 : decode b_L_law 1422 = .ok (.iadd, 1) := by decide +kernel
theorem d_L_law_1423 : decode b_L_law 1423 = .ok (.iaload, 1) := by decide +kernel
theorem d_L_law_1424 : decode b_L_law 1424 = .ok (.i2l, 1) := by decide +kernel
theorem d_L_law_1425 : decode b_L_law 1425 = .ok (.bipush 32, 2) := by decide +kernel
theorem d_L_law_1427 : decode b_L_law 1427 = .ok (.lshl, 1) := by decide +kernel
theorem d_L_law_1428 : decode b_L_law 1428 = .ok (.aload_n 0, 1) := by decide +kernel
theorem d_L_law_1429 : decode b_L_law 1429 = .ok (.iload 4, 2) := by decide +kernel
theorem d_L_law_1431 : decode b_L_law 1431 = .ok (.iconst 2, 1) := by decide +kernel
theorem d_L_law_1432 : decode b_L_law 1432 = .ok (.iadd, 1) := by decide +kernel
theorem d_L_law_1433 : decode b_L_law 1433 = .ok (.iaload, 1) := by decide +kernel
theorem d_L_law_1434 : decode b_L_law 1434 = .ok (.i2l, 1) := by decide +kernel
theorem d_L_law_1435 : decode b_L_law 1435 = .ok (.ldc2_w 90, 3) := by decide +kernel
theorem d_L_law_1438 : decode b_L_law 1438 = .ok (.land, 1) := by decide +kernel
theorem d_L_law_1439 : decode b_L_law 1439 = .ok (.lor, 1) := by decide +kernel
theorem d_L_law_1440 : decode b_L_law 1440 = .ok (.invokevirtual 145, 3) := by decide +kernel
theorem d_L_law_1443 : decode b_L_law 1443 = .ok (.if_icmp .eq 222, 3) := by decide +kernel
theorem d_L_law_1446 : decode b_L_law 1446 = .ok (.iconst 0, 1) := by decide +kernel
theorem d_L_law_1447 : decode b_L_law 1447 = .ok (.ireturn, 1) := by decide +kernel
theorem d_L_law_1448 : decode b_L_law 1448 = .ok (.aload_n 1, 1) := by decide +kernel
theorem d_L_law_1449 : decode b_L_law 1449 = .ok (.aload_n 0, 1) := by decide +kernel
theorem d_L_law_1450 : decode b_L_law 1450 = .ok (.iload 4, 2) := by decide +kernel
theorem d_L_law_1452 : decode b_L_law 1452 = .ok (.iconst 1, 1) := by decide +kernel
theorem d_L_law_1453 : decode b_L_law 1453 = .ok (.iadd, 1) := by decide +kernel
theorem d_L_law_1454 : decode b_L_law 1454 = .ok (.iaload, 1) := by decide +kernel
theorem d_L_law_1455 : decode b_L_law 1455 = .ok (.aload_n 0, 1) := by decide +kernel
theorem d_L_law_1456 : decode b_L_law 1456 = .ok (.iload 4, 2) := by decide +kernel
theorem d_L_law_1458 : decode b_L_law 1458 = .ok (.iconst 2, 1) := by decide +kernel
theorem d_L_law_1459 : decode b_L_law 1459 = .ok (.iadd, 1) := by decide +kernel
theorem d_L_law_1460 : decode b_L_law 1460 = .ok (.iaload, 1) := by decide +kernel
theorem d_L_law_1461 : decode b_L_law 1461 = .ok (.aload_n 3, 1) := by decide +kernel
theorem d_L_law_1462 : decode b_L_law 1462 = .ok (.invokestatic 146, 3) := by decide +kernel
theorem d_L_law_1465 : decode b_L_law 1465 = .ok (.istore 5, 2) := by decide +kernel
theorem d_L_law_1467 : decode b_L_law 1467 = .ok (.aload_n 2, 1) := by decide +kernel
theorem d_L_law_1468 : decode b_L_law 1468 = .ok (.aload_n 0, 1) := by decide +kernel
theorem d_L_law_1469 : decode b_L_law 1469 = .ok (.iload 4, 2) := by decide +kernel
theorem d_L_law_1471 : decode b_L_law 1471 = .ok (.iconst 1, 1) := by decide +kernel
theorem d_L_law_1472 : decode b_L_law 1472 = .ok (.iadd, 1) := by decide +kernel
theorem d_L_law_1473 : decode b_L_law 1473 = .ok (.iaload, 1) := by decide +kernel
theorem d_L_law_1474 : decode b_L_law 1474 = .ok (.aload_n 0, 1) := by decide +kernel
theorem d_L_law_1475 : decode b_L_law 1475 = .ok (.iload 4, 2) := by decide +kernel
theorem d_L_law_1477 : decode b_L_law 1477 = .ok (.iconst 2, 1) := by decide +kernel
theorem d_L_law_1478 : decode b_L_law 1478 = .ok (.iadd, 1) := by decide +kernel
theorem d_L_law_1479 : decode b_L_law 1479 = .ok (.iaload, 1) := by decide +kernel
theorem d_L_law_1480 : decode b_L_law 1480 = .ok (.invokevirtual 148, 3) := by decide +kernel
theorem d_L_law_1483 : decode b_L_law 1483 = .ok (.lstore 6, 2) := by decide +kernel
theorem d_L_law_1485 : decode b_L_law 1485 = .ok (.aload_n 2, 1) := by decide +kernel
theorem d_L_law_1486 : decode b_L_law 1486 = .ok (.invokevirtual 86, 3) := by decide +kernel
theorem d_L_law_1489 : decode b_L_law 1489 = .ok (.iload 5, 2) := by decide +kernel
theorem d_L_law_1491 : decode b_L_law 1491 = .ok (.if_icmp .eq 5, 3) := by decide +kernel
theorem d_L_law_1494 : decode b_L_law 1494 = .ok (.iconst 0, 1) := by decide +kernel
theorem d_L_law_1495 : decode b_L_law 1495 = .ok (.ireturn, 1) := by decide +kernel
theorem d_L_law_1496 : decode b_L_law 1496 = .ok (.iload 5, 2) := by decide +kernel
theorem d_L_law_1498 : decode b_L_law 1498 = .ok (.ifCond .ne 14, 3) := by decide +kernel
theorem d_L_law_1501 : decode b_L_law 1501 = .ok (.aload_n 3, 1) := by decide +kernel
theorem d_L_law_1502 : decode b_L_law 1502 = .ok (.iconst 0, 1) := by decide +kernel
theorem d_L_law_1503 : decode b_L_law 1503 = .ok (.laload, 1) := by decide +kernel
theorem d_L_law_1504 : decode b_L_law 1504 = .ok (.lload 6, 2) := by decide +kernel
theorem d_L_law_1506 : decode b_L_law 1506 = .ok (.lcmp, 1) := by decide +kernel
theorem d_L_law_1507 : decode b_L_law 1507 = .ok (.ifCond .eq 5, 3) := by decide +kernel
theorem d_L_law_1510 : decode b_L_law 1510 = .ok (.iconst 0, 1) := by decide +kernel
theorem d_L_law_1511 : decode b_L_law 1511 = .ok (.ireturn, 1) := by decide +kernel
theorem d_L_law_1512 : decode b_L_law 1512 = .ok (.goto 153, 3) := by decide +kernel
theorem d_L_law_1515 : decode b_L_law 1515 = .ok (.aload_n 1, 1) := by decide +kernel
theorem d_L_law_1516 : decode b_L_law 1516 = .ok (.aload_n 0, 1) := by decide +kernel
theorem d_L_law_1517 : decode b_L_law 1517 = .ok (.iload 4, 2) := by decide +kernel
theorem d_L_law_1519 : decode b_L_law 1519 = .ok (.iconst 1, 1) := by decide +kernel
theorem d_L_law_1520 : decode b_L_law 1520 = .ok (.iadd, 1) := by decide +kernel
theorem d_L_law_1521 : decode b_L_law 1521 = .ok (.iaload, 1) := by decide +kernel
theorem d_L_law_1522 : decode b_L_law 1522 = .ok (.aload_n 0, 1) := by decide +kernel
theorem d_L_law_1523 : decode b_L_law 1523 = .ok (.iload 4, 2) := by decide +kernel
theorem d_L_law_1525 : decode b_L_law 1525 = .ok (.iconst 2, 1) := by decide +kernel
theorem d_L_law_1526 : decode b_L_law 1526 = .ok (.iadd, 1) := by decide +kernel
theorem d_L_law_1527 : decode b_L_law 1527 = .ok (.iaload, 1) := by decide +kernel
theorem d_L_law_1528 : decode b_L_law 1528 = .ok (.aload_n 0, 1) := by decide +kernel
theorem d_L_law_1529 : decode b_L_law 1529 = .ok (.iload 4, 2) := by decide +kernel
theorem d_L_law_1531 : decode b_L_law 1531 = .ok (.iconst 3, 1) := by decide +kernel
theorem d_L_law_1532 : decode b_L_law 1532 = .ok (.iadd, 1) := by decide +kernel
theorem d_L_law_1533 : decode b_L_law 1533 = .ok (.iaload, 1) := by decide +kernel
theorem d_L_law_1534 : decode b_L_law 1534 = .ok (.aload_n 3, 1) := by decide +kernel
theorem d_L_law_1535 : decode b_L_law 1535 = .ok (.invokestatic 149, 3) := by decide +kernel
theorem d_L_law_1538 : decode b_L_law 1538 = .ok (.istore 5, 2) := by decide +kernel
theorem d_L_law_1540 : decode b_L_law 1540 = .ok (.aload_n 2, 1) := by decide +kernel
theorem d_L_law_1541 : decode b_L_law 1541 = .ok (.aload_n 0, 1) := by decide +kernel
theorem d_L_law_1542 : decode b_L_law 1542 = .ok (.iload 4, 2) := by decide +kernel
theorem d_L_law_1544 : decode b_L_law 1544 = .ok (.iconst 1, 1) := by decide +kernel
theorem d_L_law_1545 : decode b_L_law 1545 = .ok (.iadd, 1) := by decide +kernel
theorem d_L_law_1546 : decode b_L_law 1546 = .ok (.iaload, 1) := by decide +kernel
theorem d_L_law_1547 : decode b_L_law 1547 = .ok (.aload_n 0, 1) := by decide +kernel
theorem d_L_law_1548 : decode b_L_law 1548 = .ok (.iload 4, 2) := by decide +kernel
theorem d_L_law_1550 : decode b_L_law 1550 = .ok (.iconst 2, 1) := by decide +kernel
theorem d_L_law_1551 : decode b_L_law 1551 = .ok (.iadd, 1) := by decide +kernel
theorem d_L_law_1552 : decode b_L_law 1552 = .ok (.iaload, 1) := by decide +kernel
theorem d_L_law_1553 : decode b_L_law 1553 = .ok (.aload_n 0, 1) := by decide +kernel
theorem d_L_law_1554 : decode b_L_law 1554 = .ok (.iload 4, 2) := by decide +kernel
theorem d_L_law_1556 : decode b_L_law 1556 = .ok (.iconst 3, 1) := by decide +kernel
theorem d_L_law_1557 : decode b_L_law 1557 = .ok (.iadd, 1) := by decide +kernel
theorem d_L_law_1558 : decode b_L_law 1558 = .ok (.iaload, 1) := by decide +kernel
theorem d_L_law_1559 : decode b_L_law 1559 = .ok (.invokevirtual 151, 3) := by decide +kernel
theorem d_L_law_1562 : decode b_L_law 1562 = .ok (.istore 6, 2) := by decide +kernel
theorem d_L_law_1564 : decode b_L_law 1564 = .ok (.aload_n 2, 1) := by decide +kernel
theorem d_L_law_1565 : decode b_L_law 1565 = .ok (.invokevirtual 86, 3) := by decide +kernel
theorem d_L_law_1568 : decode b_L_law 1568 = .ok (.iload 5, 2) := by decide +kernel
theorem d_L_law_1570 : decode b_L_law 1570 = .ok (.if_icmp .eq 5, 3) := by decide +kernel
theorem d_L_law_1573 : decode b_L_law 1573 = .ok (.iconst 0, 1) := by decide +kernel
theorem d_L_law_1574 : decode b_L_law 1574 = .ok (.ireturn, 1) := by decide +kernel
theorem d_L_law_1575 : decode b_L_law 1575 = .ok (.iload 5, 2) := by decide +kernel
theorem d_L_law_1577 : decode b_L_law 1577 = .ok (.ifCond .ne 15, 3) := by decide +kernel
theorem d_L_law_1580 : decode b_L_law 1580 = .ok (.aload_n 3, 1) := by decide +kernel
theorem d_L_law_1581 : decode b_L_law 1581 = .ok (.iconst 0, 1) := by decide +kernel
theorem d_L_law_1582 : decode b_L_law 1582 = .ok (.laload, 1) := by decide +kernel
theorem d_L_law_1583 : decode b_L_law 1583 = .ok (.iload 6, 2) := by decide +kernel
theorem d_L_law_1585 : decode b_L_law 1585 = .ok (.i2l, 1) := by decide +kernel
theorem d_L_law_1586 : decode b_L_law 1586 = .ok (.lcmp, 1) := by decide +kernel
theorem d_L_law_1587 : decode b_L_law 1587 = .ok (.ifCond .eq 5, 3) := by decide +kernel
theorem d_L_law_1590 : decode b_L_law 1590 = .ok (.iconst 0, 1) := by decide +kernel
theorem d_L_law_1591 : decode b_L_law 1591 = .ok (.ireturn, 1) := by decide +kernel
theorem d_L_law_1592 : decode b_L_law 1592 = .ok (.goto 73, 3) := by decide +kernel
theorem d_L_law_1595 : decode b_L_law 1595 = .ok (.aload_n 1, 1) := by decide +kernel
theorem d_L_law_1596 : decode b_L_law 1596 = .ok (.aload_n 0, 1) := by decide +kernel
theorem d_L_law_1597 : decode b_L_law 1597 = .ok (.iload 4, 2) := by decide +kernel
theorem d_L_law_1599 : decode b_L_law 1599 = .ok (.iconst 1, 1) := by decide +kernel
theorem d_L_law_1600 : decode b_L_law 1600 = .ok (.iadd, 1) := by decide +kernel
theorem d_L_law_1601 : decode b_L_law 1601 = .ok (.iaload, 1) := by decide +kernel
theorem d_L_law_1602 : decode b_L_law 1602 = .ok (.aload_n 3, 1) := by decide +kernel
theorem d_L_law_1603 : decode b_L_law 1603 = .ok (.invokestatic 152, 3) := by decide +kernel
theorem d_L_law_1606 : decode b_L_law 1606 = .ok (.istore 5, 2) := by decide +kernel
theorem d_L_law_1608 : decode b_L_law 1608 = .ok (.aload_n 2, 1) := by decide +kernel
theorem d_L_law_1609 : decode b_L_law 1609 = .ok (.aload_n 0, 1) := by decide +kernel
theorem d_L_law_1610 : decode b_L_law 1610 = .ok (.iload 4, 2) := by decide +kernel
theorem d_L_law_1612 : decode b_L_law 1612 = .ok (.iconst 1, 1) := by decide +kernel
theorem d_L_law_1613 : decode b_L_law 1613 = .ok (.iadd, 1) := by decide +kernel
theorem d_L_law_1614 : decode b_L_law 1614 = .ok (.iaload, 1) := by decide +kernel
theorem d_L_law_1615 : decode b_L_law 1615 = .ok (.invokevirtual 154, 3) := by decide +kernel
theorem d_L_law_1618 : decode b_L_law 1618 = .ok (.istore 6, 2) := by decide +kernel
theorem d_L_law_1620 : decode b_L_law 1620 = .ok (.aload_n 2, 1) := by decide +kernel
theorem d_L_law_1621 : decode b_L_law 1621 = .ok (.invokevirtual 86, 3) := by decide +kernel
theorem d_L_law_1624 : decode b_L_law 1624 = .ok (.iload 5, 2) := by decide +kernel
theorem d_L_law_1626 : decode b_L_law 1626 = .ok (.if_icmp .eq 5, 3) := by decide +kernel
theorem d_L_law_1629 : decode b_L_law 1629 = .ok (.iconst 0, 1) := by decide +kernel
theorem d_L_law_1630 : decode b_L_law 1630 = .ok (.ireturn, 1) := by decide +kernel
theorem d_L_law_1631 : decode b_L_law 1631 = .ok (.iload 5, 2) := by decide +kernel
theorem d_L_law_1633 : decode b_L_law 1633 = .ok (.ifCond .ne 15, 3) := by decide +kernel
theorem d_L_law_1636 : decode b_L_law 1636 = .ok (.aload_n 3, 1) := by decide +kernel
theorem d_L_law_1637 : decode b_L_law 1637 = .ok (.iconst 0, 1) := by decide +kernel
theorem d_L_law_1638 : decode b_L_law 1638 = .ok (.laload, 1) := by decide +kernel
theorem d_L_law_1639 : decode b_L_law 1639 = .ok (.iload 6, 2) := by decide +kernel
theorem d_L_law_1641 : decode b_L_law 1641 = .ok (.i2l, 1) := by decide +kernel
theorem d_L_law_1642 : decode b_L_law 1642 = .ok (.lcmp, 1) := by decide +kernel
theorem d_L_law_1643 : decode b_L_law 1643 = .ok (.ifCond .eq 5, 3) := by decide +kernel
theorem d_L_law_1646 : decode b_L_law 1646 = .ok (.iconst 0, 1) := by decide +kernel
theorem d_L_law_1647 : decode b_L_law 1647 = .ok (.ireturn, 1) := by decide +kernel
theorem d_L_law_1648 : decode b_L_law 1648 = .ok (.goto 17, 3) := by decide +kernel
theorem d_L_law_1651 : decode b_L_law 1651 = .ok (.aload_n 1, 1) := by decide +kernel
theorem d_L_law_1652 : decode b_L_law 1652 = .ok (.invokevirtual 155, 3) := by decide +kernel
theorem d_L_law_1655 : decode b_L_law 1655 = .ok (.aload_n 2, 1) := by decide +kernel
theorem d_L_law_1656 : decode b_L_law 1656 = .ok (.invokevirtual 159, 3) := by decide +kernel
theorem d_L_law_1659 : decode b_L_law 1659 = .ok (.lcmp, 1) := by decide +kernel
theorem d_L_law_1660 : decode b_L_law 1660 = .ok (.ifCond .eq 5, 3) := by decide +kernel
theorem d_L_law_1663 : decode b_L_law 1663 = .ok (.iconst 0, 1) := by decide +kernel
theorem d_L_law_1664 : decode b_L_law 1664 = .ok (.ireturn, 1) := by decide +kernel
theorem d_L_law_1665 : decode b_L_law 1665 = .ok (.iinc 4 7, 3) := by decide +kernel
theorem d_L_law_1668 : decode b_L_law 1668 = .ok (.goto (-1645), 3) := by decide +kernel
theorem d_L_law_1671 : decode b_L_law 1671 = .ok (.iconst 1, 1) := by decide +kernel
theorem d_L_law_1672 : decode b_L_law 1672 = .ok (.ireturn, 1) := by decide +kernel
