theorem dL_acts_1270 : decode cL_acts 1270 = .ok (.iadd, 1) := by decide +kernel
theorem dL_acts_1271 : decode cL_acts 1271 = .ok (.goto 39, 3) := by decide +kernel
theorem dL_acts_1274 : decode cL_acts 1274 = .ok (.iload 7, 2) := by decide +kernel
theorem dL_acts_1276 : decode cL_acts 1276 = .ok (.bipush 22, 2) := by decide +kernel
theorem dL_acts_1278 : decode cL_acts 1278 = .ok (.ishr, 1) := by decide +kernel
theorem dL_acts_1279 : decode cL_acts 1279 = .ok (.iconst 3, 1) := by decide +kernel
theorem dL_acts_1280 : decode cL_acts 1280 = .ok (.invokestatic 123, 3) := by decide +kernel
theorem dL_acts_1283 : decode cL_acts 1283 = .ok (.ifCond .le 17, 3) := by decide +kernel
theorem dL_acts_1286 : decode cL_acts 1286 = .ok (.aload_n 0, 1) := by decide +kernel
theorem dL_acts_1287 : decode cL_acts 1287 = .ok (.invokevirtual 81, 3) := by decide +kernel
theorem dL_acts_1290 : decode cL_acts 1290 = .ok (.sipush 1440, 3) := by decide +kernel
theorem dL_acts_1293 : decode cL_acts 1293 = .ok (.idiv, 1) := by decide +kernel
theorem dL_acts_1294 : decode cL_acts 1294 = .ok (.bipush 7, 2) := by decide +kernel
theorem dL_acts_1296 : decode cL_acts 1296 = .ok (.irem, 1) := by decide +kernel
theorem dL_acts_1297 : decode cL_acts 1297 = .ok (.goto 13, 3) := by decide +kernel
theorem dL_acts_1300 : decode cL_acts 1300 = .ok (.iload 7, 2) := by decide +kernel
theorem dL_acts_1302 : decode cL_acts 1302 = .ok (.bipush 22, 2) := by decide +kernel
theorem dL_acts_1304 : decode cL_acts 1304 = .ok (.ishr, 1) := by decide +kernel
theorem dL_acts_1305 : decode cL_acts 1305 = .ok (.bipush 7, 2) := by decide +kernel
theorem dL_acts_1307 : decode cL_acts 1307 = .ok (.invokestatic 123, 3) := by decide +kernel
theorem dL_acts_1310 : decode cL_acts 1310 = .ok (.istore 16, 2) := by decide +kernel
theorem dL_acts_1312 : decode cL_acts 1312 = .ok (.aload 4, 2) := by decide +kernel
theorem dL_acts_1314 : decode cL_acts 1314 = .ok (.iconst 4, 1) := by decide +kernel
theorem dL_acts_1315 : decode cL_acts 1315 = .ok (.iload 12, 2) := by decide +kernel
theorem dL_acts_1317 : decode cL_acts 1317 = .ok (.imul, 1) := by decide +kernel
theorem dL_acts_1318 : decode cL_acts 1318 = .ok (.iconst 3, 1) := by decide +kernel
theorem dL_acts_1319 : decode cL_acts 1319 = .ok (.iadd, 1) := by decide +kernel
theorem dL_acts_1320 : decode cL_acts 1320 = .ok (.iaload, 1) := by decide +kernel
theorem dL_acts_1321 : decode cL_acts 1321 = .ok (.bipush 20, 2) := by decide +kernel
theorem dL_acts_1323 : decode cL_acts 1323 = .ok (.if_icmp .ge 7, 3) := by decide +kernel
theorem dL_acts_1326 : decode cL_acts 1326 = .ok (.iconst 1, 1) := by decide +kernel
theorem dL_acts_1327 : decode cL_acts 1327 = .ok (.goto 4, 3) := by decide +kernel
theorem dL_acts_1330 : decode cL_acts 1330 = .ok (.iconst 0, 1) := by decide +kernel
theorem dL_acts_1331 : decode cL_acts 1331 = .ok (.istore 17, 2) := by decide +kernel
theorem dL_acts_1333 : decode cL_acts 1333 = .ok (.aload 4, 2) := by decide +kernel
theorem dL_acts_1335 : decode cL_acts 1335 = .ok (.iconst 4, 1) := by decide +kernel
theorem dL_acts_1336 : decode cL_acts 1336 = .ok (.iload 12, 2) := by decide +kernel
theorem dL_acts_1338 : decode cL_acts 1338 = .ok (.imul, 1) := by decide +kernel
theorem dL_acts_1339 : decode cL_acts 1339 = .ok (.iconst 3, 1) := by decide +kernel
theorem dL_acts_1340 : decode cL_acts 1340 = .ok (.iadd, 1) := by decide +kernel
theorem dL_acts_1341 : decode cL_acts 1341 = .ok (.dup2, 1) := by decide +kernel
theorem dL_acts_1342 : decode cL_acts 1342 = .ok (.iaload, 1) := by decide +kernel
theorem dL_acts_1343 : decode cL_acts 1343 = .ok (.iload 17, 2) := by decide +kernel
theorem dL_acts_1345 : decode cL_acts 1345 = .ok (.ifCond .eq 7, 3) := by decide +kernel
theorem dL_acts_1348 : decode cL_acts 1348 = .ok (.iconst 1, 1) := by decide +kernel
theorem dL_acts_1349 : decode cL_acts 1349 = .ok (.goto 4, 3) := by decide +kernel
theorem dL_acts_1352 : decode cL_acts 1352 = .ok (.iconst 0, 1) := by decide +kernel
theorem dL_acts_1353 : decode cL_acts 1353 = .ok (.iadd, 1) := by decide +kernel
theorem dL_acts_1354 : decode cL_acts 1354 = .ok (.iastore, 1) := by decide +kernel
theorem dL_acts_1355 : decode cL_acts 1355 = .ok (.iload 13, 2) := by decide +kernel
theorem dL_acts_1357 : decode cL_acts 1357 = .ok (.ifCond .eq 18, 3) := by decide +kernel
theorem dL_acts_1360 : decode cL_acts 1360 = .ok (.aload_n 0, 1) := by decide +kernel
theorem dL_acts_1361 : decode cL_acts 1361 = .ok (.iload 12, 2) := by decide +kernel
theorem dL_acts_1363 : decode cL_acts 1363 = .ok (.iload 16, 2) := by decide +kernel
theorem dL_acts_1365 : decode cL_acts 1365 = .ok (.iload 15, 2) := by decide +kernel
theorem dL_acts_1367 : decode cL_acts 1367 = .ok (.iload 14, 2) := by decide +kernel
theorem dL_acts_1369 : decode cL_acts 1369 = .ok (.invokestatic 142, 3) := by decide +kernel
theorem dL_acts_1372 : decode cL_acts 1372 = .ok (.goto 15, 3) := by decide +kernel
theorem dL_acts_1375 : decode cL_acts 1375 = .ok (.aload_n 0, 1) := by decide +kernel
theorem dL_acts_1376 : decode cL_acts 1376 = .ok (.iload 12, 2) := by decide +kernel
theorem dL_acts_1378 : decode cL_acts 1378 = .ok (.iload 16, 2) := by decide +kernel
theorem dL_acts_1380 : decode cL_acts 1380 = .ok (.iload 15, 2) := by decide +kernel
theorem dL_acts_1382 : decode cL_acts 1382 = .ok (.iload 14, 2) := by decide +kernel
theorem dL_acts_1384 : decode cL_acts 1384 = .ok (.invokestatic 145, 3) := by decide +kernel
theorem dL_acts_1387 : decode cL_acts 1387 = .ok (.istore 18, 2) := by decide +kernel
theorem dL_acts_1389 : decode cL_acts 1389 = .ok (.iload 13, 2) := by decide +kernel
theorem dL_acts_1391 : decode cL_acts 1391 = .ok (.ifCond .eq 18, 3) := by decide +kernel
theorem dL_acts_1394 : decode cL_acts 1394 = .ok (.aload_n 1, 1) := by decide +kernel
theorem dL_acts_1395 : decode cL_acts 1395 = .ok (.iload 12, 2) := by decide +kernel
theorem dL_acts_1397 : decode cL_acts 1397 = .ok (.iload 16, 2) := by decide +kernel
theorem dL_acts_1399 : decode cL_acts 1399 = .ok (.iload 15, 2) := by decide +kernel
theorem dL_acts_1401 : decode cL_acts 1401 = .ok (.iload 14, 2) := by decide +kernel
theorem dL_acts_1403 : decode cL_acts 1403 = .ok (.invokestatic 142, 3) := by decide +kernel
theorem dL_acts_1406 : decode cL_acts 1406 = .ok (.goto 15, 3) := by decide +kernel
theorem dL_acts_1409 : decode cL_acts 1409 = .ok (.aload_n 1, 1) := by decide +kernel
theorem dL_acts_1410 : decode cL_acts 1410 = .ok (.iload 12, 2) := by decide +kernel
theorem dL_acts_1412 : decode cL_acts 1412 = .ok (.iload 16, 2) := by decide +kernel
theorem dL_acts_1414 : decode cL_acts 1414 = .ok (.iload 15, 2) := by decide +kernel
theorem dL_acts_1416 : decode cL_acts 1416 = .ok (.iload 14, 2) := by decide +kernel
theorem dL_acts_1418 : decode cL_acts 1418 = .ok (.invokestatic 145, 3) := by decide +kernel
theorem dL_acts_1421 : decode cL_acts 1421 = .ok (.iload 18, 2) := by decide +kernel
theorem dL_acts_1423 : decode cL_acts 1423 = .ok (.if_icmp .ne 32, 3) := by decide +kernel
theorem dL_acts_1426 : decode cL_acts 1426 = .ok (.iload 18, 2) := by decide +kernel
theorem dL_acts_1428 : decode cL_acts 1428 = .ok (.iload 17, 2) := by decide +kernel
theorem dL_acts_1430 : decode cL_acts 1430 = .ok (.ifCond .eq 16, 3) := by decide +kernel
theorem dL_acts_1433 : decode cL_acts 1433 = .ok (.aload_n 0, 1) := by decide +kernel
theorem dL_acts_1434 : decode cL_acts 1434 = .ok (.iload 12, 2) := by decide +kernel
theorem dL_acts_1436 : decode cL_acts 1436 = .ok (.aload_n 0, 1) := by decide +kernel
theorem dL_acts_1437 : decode cL_acts 1437 = .ok (.invokevirtual 81, 3) := by decide +kernel
theorem dL_acts_1440 : decode cL_acts 1440 = .ok (.invokestatic 115, 3) := by decide +kernel
theorem dL_acts_1443 : decode cL_acts 1443 = .ok (.goto 5, 3) := by decide +kernel
theorem dL_acts_1446 : decode cL_acts 1446 = .ok (.ldc 21, 2) := by decide +kernel
theorem dL_acts_1448 : decode cL_acts 1448 = .ok (.if_icmp .ne 7, 3) := by decide +kernel
theorem dL_acts_1451 : decode cL_acts 1451 = .ok (.iconst 1, 1) := by decide +kernel
theorem dL_acts_1452 : decode cL_acts 1452 = .ok (.goto 4, 3) := by decide +kernel
theorem dL_acts_1455 : decode cL_acts 1455 = .ok (.iconst 0, 1) := by decide +kernel
theorem dL_acts_1456 : decode cL_acts 1456 = .ok (.istore 19, 2) := by decide +kernel
theorem dL_acts_1458 : decode cL_acts 1458 = .ok (.iload 19, 2) := by decide +kernel
theorem dL_acts_1460 : decode cL_acts 1460 = .ok (.ifCond .eq 86, 3) := by decide +kernel
theorem dL_acts_1463 : decode cL_acts 1463 = .ok (.aload_n 0, 1) := by decide +kernel
theorem dL_acts_1464 : decode cL_acts 1464 = .ok (.iload 12, 2) := by decide +kernel
theorem dL_acts_1466 : decode cL_acts 1466 = .ok (.bipush 7, 2) := by decide +kernel
theorem dL_acts_1468 : decode cL_acts 1468 = .ok (.iconst 0, 1) := by decide +kernel
theorem dL_acts_1469 : decode cL_acts 1469 = .ok (.iconst 0, 1) := by decide +kernel
theorem dL_acts_1470 : decode cL_acts 1470 = .ok (.invokestatic 145, 3) := by decide +kernel
theorem dL_acts_1473 : decode cL_acts 1473 = .ok (.ldc 18, 2) := by decide +kernel
theorem dL_acts_1475 : decode cL_acts 1475 = .ok (.if_icmp .ne 71, 3) := by decide +kernel
theorem dL_acts_1478 : decode cL_acts 1478 = .ok (.aload_n 0, 1) := by decide +kernel
theorem dL_acts_1479 : decode cL_acts 1479 = .ok (.iload 12, 2) := by decide +kernel
theorem dL_acts_1481 : decode cL_acts 1481 = .ok (.iconst 0, 1) := by decide +kernel
theorem dL_acts_1482 : decode cL_acts 1482 = .ok (.sipush 1440, 3) := by decide +kernel
theorem dL_acts_1485 : decode cL_acts 1485 = .ok (.iconst 0, 1) := by decide +kernel
theorem dL_acts_1486 : decode cL_acts 1486 = .ok (.invokestatic 145, 3) := by decide +kernel
theorem dL_acts_1489 : decode cL_acts 1489 = .ok (.ldc 18, 2) := by decide +kernel
theorem dL_acts_1491 : decode cL_acts 1491 = .ok (.if_icmp .ne 55, 3) := by decide +kernel
theorem dL_acts_1494 : decode cL_acts 1494 = .ok (.aload_n 0, 1) := by decide +kernel
theorem dL_acts_1495 : decode cL_acts 1495 = .ok (.iload 12, 2) := by decide +kernel
theorem dL_acts_1497 : decode cL_acts 1497 = .ok (.sipush 701, 3) := by decide +kernel
theorem dL_acts_1500 : decode cL_acts 1500 = .ok (.iconst 0, 1) := by decide +kernel
theorem dL_acts_1501 : decode cL_acts 1501 = .ok (.iconst 0, 1) := by decide +kernel
theorem dL_acts_1502 : decode cL_acts 1502 = .ok (.invokestatic 142, 3) := by decide +kernel
theorem dL_acts_1505 : decode cL_acts 1505 = .ok (.ldc 18, 2) := by decide +kernel
theorem dL_acts_1507 : decode cL_acts 1507 = .ok (.if_icmp .ne 39, 3) := by decide +kernel
theorem dL_acts_1510 : decode cL_acts 1510 = .ok (.aload_n 0, 1) := by decide +kernel
theorem dL_acts_1511 : decode cL_acts 1511 = .ok (.iload 12, 2) := by decide +kernel
theorem dL_acts_1513 : decode cL_acts 1513 = .ok (.iconst 0, 1) := by decide +kernel
theorem dL_acts_1514 : decode cL_acts 1514 = .ok (.iconst 0, 1) := by decide +kernel
theorem dL_acts_1515 : decode cL_acts 1515 = .ok (.sipush 1001, 3) := by decide +kernel
theorem dL_acts_1518 : decode cL_acts 1518 = .ok (.invokestatic 142, 3) := by decide +kernel
theorem dL_acts_1521 : decode cL_acts 1521 = .ok (.ldc 18, 2) := by decide +kernel
theorem dL_acts_1523 : decode cL_acts 1523 = .ok (.if_icmp .ne 23, 3) := by decide +kernel
theorem dL_acts_1526 : decode cL_acts 1526 = .ok (.aload_n 0, 1) := by decide +kernel
theorem dL_acts_1527 : decode cL_acts 1527 = .ok (.aload 5, 2) := by decide +kernel
theorem dL_acts_1529 : decode cL_acts 1529 = .ok (.iconst 2, 1) := by decide +kernel
theorem dL_acts_1530 : decode cL_acts 1530 = .ok (.iaload, 1) := by decide +kernel
theorem dL_acts_1531 : decode cL_acts 1531 = .ok (.iconst (-1), 1) := by decide +kernel
theorem dL_acts_1532 : decode cL_acts 1532 = .ok (.iconst 0, 1) := by decide +kernel
theorem dL_acts_1533 : decode cL_acts 1533 = .ok (.iconst 0, 1) := by decide +kernel
theorem dL_acts_1534 : decode cL_acts 1534 = .ok (.invokestatic 142, 3) := by decide +kernel
theorem dL_acts_1537 : decode cL_acts 1537 = .ok (.ldc 32, 2) := by decide +kernel
theorem dL_acts_1539 : decode cL_acts 1539 = .ok (.if_icmp .ne 7, 3) := by decide +kernel
theorem dL_acts_1542 : decode cL_acts 1542 = .ok (.iconst 1, 1) := by decide +kernel
theorem dL_acts_1543 : decode cL_acts 1543 = .ok (.goto 4, 3) := by decide +kernel
theorem dL_acts_1546 : decode cL_acts 1546 = .ok (.iconst 0, 1) := by decide +kernel
theorem dL_acts_1547 : decode cL_acts 1547 = .ok (.ireturn, 1) := by decide +kernel
theorem dL_acts_1548 : decode cL_acts 1548 = .ok (.aload_n 0, 1) := by decide +kernel
theorem dL_acts_1549 : decode cL_acts 1549 = .ok (.aload_n 1, 1) := by decide +kernel
theorem dL_acts_1550 : decode cL_acts 1550 = .ok (.aload_n 2, 1) := by decide +kernel
theorem dL_acts_1551 : decode cL_acts 1551 = .ok (.aload 5, 2) := by decide +kernel
theorem dL_acts_1553 : decode cL_acts 1553 = .ok (.iconst 1, 1) := by decide +kernel
theorem dL_acts_1554 : decode cL_acts 1554 = .ok (.iload 7, 2) := by decide +kernel
theorem dL_acts_1556 : decode cL_acts 1556 = .ok (.iload 6, 2) := by decide +kernel
theorem dL_acts_1558 : decode cL_acts 1558 = .ok (.bipush 9, 2) := by decide +kernel
theorem dL_acts_1560 : decode cL_acts 1560 = .ok (.ishr, 1) := by decide +kernel
theorem dL_acts_1561 : decode cL_acts 1561 = .ok (.bipush 8, 2) := by decide +kernel
theorem dL_acts_1563 : decode cL_acts 1563 = .ok (.invokestatic 123, 3) := by decide +kernel
theorem dL_acts_1566 : decode cL_acts 1566 = .ok (.ifCond .ne 9, 3) := by decide +kernel
theorem dL_acts_1569 : decode cL_acts 1569 = .ok (.sipush 200, 3) := by decide +kernel
theorem dL_acts_1572 : decode cL_acts 1572 = .ok (.goto 5, 3) := by decide +kernel
theorem dL_acts_1575 : decode cL_acts 1575 = .ok (.bipush 20, 2) := by decide +kernel
theorem dL_acts_1577 : decode cL_acts 1577 = .ok (.invokestatic 123, 3) := by decide +kernel
theorem dL_acts_1580 : decode cL_acts 1580 = .ok (.iadd, 1) := by decide +kernel
theorem dL_acts_1581 : decode cL_acts 1581 = .ok (.invokestatic 147, 3) := by decide +kernel
theorem dL_acts_1584 : decode cL_acts 1584 = .ok (.ireturn, 1) := by decide +kernel
