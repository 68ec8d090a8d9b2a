theorem dL_law_1261 : decode cL_law 1261 = .ok (.invokevirtual 48, 3) := by decide +kernel
theorem dL_law_1264 : decode cL_law 1264 = .ok (.iconst 3, 1) := by decide +kernel
theorem dL_law_1265 : decode cL_law 1265 = .ok (.if_icmp .ne 16, 3) := by decide +kernel
theorem dL_law_1268 : decode cL_law 1268 = .ok (.aload_n 1, 1) := by decide +kernel
theorem dL_law_1269 : decode cL_law 1269 = .ok (.bipush 65, 2) := by decide +kernel
theorem dL_law_1271 : decode cL_law 1271 = .ok (.iload 10, 2) := by decide +kernel
theorem dL_law_1273 : decode cL_law 1273 = .ok (.iadd, 1) := by decide +kernel
theorem dL_law_1274 : decode cL_law 1274 = .ok (.invokevirtual 48, 3) := by decide +kernel
theorem dL_law_1277 : decode cL_law 1277 = .ok (.iconst 4, 1) := by decide +kernel
theorem dL_law_1278 : decode cL_law 1278 = .ok (.if_icmp .eq 5, 3) := by decide +kernel
theorem dL_law_1281 : decode cL_law 1281 = .ok (.iconst 0, 1) := by decide +kernel
theorem dL_law_1282 : decode cL_law 1282 = .ok (.ireturn, 1) := by decide +kernel
theorem dL_law_1283 : decode cL_law 1283 = .ok (.iconst 0, 1) := by decide +kernel
theorem dL_law_1284 : decode cL_law 1284 = .ok (.istore 16, 2) := by decide +kernel
theorem dL_law_1286 : decode cL_law 1286 = .ok (.iload 16, 2) := by decide +kernel
theorem dL_law_1288 : decode cL_law 1288 = .ok (.bipush 9, 2) := by decide +kernel
theorem dL_law_1290 : decode cL_law 1290 = .ok (.if_icmp .ge 73, 3) := by decide +kernel
theorem dL_law_1293 : decode cL_law 1293 = .ok (.aload_n 1, 1) := by decide +kernel
theorem dL_law_1294 : decode cL_law 1294 = .ok (.bipush 42, 2) := by decide +kernel
theorem dL_law_1296 : decode cL_law 1296 = .ok (.invokevirtual 48, 3) := by decide +kernel
theorem dL_law_1299 : decode cL_law 1299 = .ok (.iconst 5, 1) := by decide +kernel
theorem dL_law_1300 : decode cL_law 1300 = .ok (.iload 16, 2) := by decide +kernel
theorem dL_law_1302 : decode cL_law 1302 = .ok (.iadd, 1) := by decide +kernel
theorem dL_law_1303 : decode cL_law 1303 = .ok (.if_icmp .ne 52, 3) := by decide +kernel
theorem dL_law_1306 : decode cL_law 1306 = .ok (.aload_n 1, 1) := by decide +kernel
theorem dL_law_1307 : decode cL_law 1307 = .ok (.iconst 1, 1) := by decide +kernel
theorem dL_law_1308 : decode cL_law 1308 = .ok (.invokevirtual 51, 3) := by decide +kernel
theorem dL_law_1311 : decode cL_law 1311 = .ok (.iload 16, 2) := by decide +kernel
theorem dL_law_1313 : decode cL_law 1313 = .ok (.bipush 8, 2) := by decide +kernel
theorem dL_law_1315 : decode cL_law 1315 = .ok (.if_icmp .ge 14, 3) := by decide +kernel
theorem dL_law_1318 : decode cL_law 1318 = .ok (.bipush 71, 2) := by decide +kernel
theorem dL_law_1320 : decode cL_law 1320 = .ok (.bipush 10, 2) := by decide +kernel
theorem dL_law_1322 : decode cL_law 1322 = .ok (.iload 16, 2) := by decide +kernel
theorem dL_law_1324 : decode cL_law 1324 = .ok (.imul, 1) := by decide +kernel
theorem dL_law_1325 : decode cL_law 1325 = .ok (.isub, 1) := by decide +kernel
theorem dL_law_1326 : decode cL_law 1326 = .ok (.goto 4, 3) := by decide +kernel
theorem dL_law_1329 : decode cL_law 1329 = .ok (.iconst 0, 1) := by decide +kernel
theorem dL_law_1330 : decode cL_law 1330 = .ok (.if_icmp .ne 25, 3) := by decide +kernel
theorem dL_law_1333 : decode cL_law 1333 = .ok (.aload_n 1, 1) := by decide +kernel
theorem dL_law_1334 : decode cL_law 1334 = .ok (.iload 10, 2) := by decide +kernel
theorem dL_law_1336 : decode cL_law 1336 = .ok (.iconst 0, 1) := by decide +kernel
theorem dL_law_1337 : decode cL_law 1337 = .ok (.invokevirtual 54, 3) := by decide +kernel
theorem dL_law_1340 : decode cL_law 1340 = .ok (.bipush (-6), 2) := by decide +kernel
theorem dL_law_1342 : decode cL_law 1342 = .ok (.if_icmp .ne 13, 3) := by decide +kernel
theorem dL_law_1345 : decode cL_law 1345 = .ok (.aload_n 1, 1) := by decide +kernel
theorem dL_law_1346 : decode cL_law 1346 = .ok (.iload 10, 2) := by decide +kernel
theorem dL_law_1348 : decode cL_law 1348 = .ok (.iconst 1, 1) := by decide +kernel
theorem dL_law_1349 : decode cL_law 1349 = .ok (.invokevirtual 54, 3) := by decide +kernel
theorem dL_law_1352 : decode cL_law 1352 = .ok (.ifCond .eq 5, 3) := by decide +kernel
theorem dL_law_1355 : decode cL_law 1355 = .ok (.iconst 0, 1) := by decide +kernel
theorem dL_law_1356 : decode cL_law 1356 = .ok (.ireturn, 1) := by decide +kernel
theorem dL_law_1357 : decode cL_law 1357 = .ok (.iinc 16 1, 3) := by decide +kernel
theorem dL_law_1360 : decode cL_law 1360 = .ok (.goto (-74), 3) := by decide +kernel
theorem dL_law_1363 : decode cL_law 1363 = .ok (.aload_n 1, 1) := by decide +kernel
theorem dL_law_1364 : decode cL_law 1364 = .ok (.iconst 2, 1) := by decide +kernel
theorem dL_law_1365 : decode cL_law 1365 = .ok (.invokevirtual 63, 3) := by decide +kernel
theorem dL_law_1368 : decode cL_law 1368 = .ok (.bipush 9, 2) := by decide +kernel
theorem dL_law_1370 : decode cL_law 1370 = .ok (.if_icmp .ne 33, 3) := by decide +kernel
theorem dL_law_1373 : decode cL_law 1373 = .ok (.aload_n 1, 1) := by decide +kernel
theorem dL_law_1374 : decode cL_law 1374 = .ok (.bipush 46, 2) := by decide +kernel
theorem dL_law_1376 : decode cL_law 1376 = .ok (.invokevirtual 48, 3) := by decide +kernel
theorem dL_law_1379 : decode cL_law 1379 = .ok (.bipush 14, 2) := by decide +kernel
theorem dL_law_1381 : decode cL_law 1381 = .ok (.if_icmp .ne 22, 3) := by decide +kernel
theorem dL_law_1384 : decode cL_law 1384 = .ok (.aload_n 1, 1) := by decide +kernel
theorem dL_law_1385 : decode cL_law 1385 = .ok (.iload 10, 2) := by decide +kernel
theorem dL_law_1387 : decode cL_law 1387 = .ok (.iconst 2, 1) := by decide +kernel
theorem dL_law_1388 : decode cL_law 1388 = .ok (.invokevirtual 54, 3) := by decide +kernel
theorem dL_law_1391 : decode cL_law 1391 = .ok (.ifCond .ne 12, 3) := by decide +kernel
theorem dL_law_1394 : decode cL_law 1394 = .ok (.aload_n 1, 1) := by decide +kernel
theorem dL_law_1395 : decode cL_law 1395 = .ok (.invokevirtual 14, 3) := by decide +kernel
theorem dL_law_1398 : decode cL_law 1398 = .ok (.bipush 14, 2) := by decide +kernel
theorem dL_law_1400 : decode cL_law 1400 = .ok (.if_icmp .eq 5, 3) := by decide +kernel
theorem dL_law_1403 : decode cL_law 1403 = .ok (.iconst 0, 1) := by decide +kernel
theorem dL_law_1404 : decode cL_law 1404 = .ok (.ireturn, 1) := by decide +kernel
theorem dL_law_1405 : decode cL_law 1405 = .ok (.iconst 1, 1) := by decide +kernel
theorem dL_law_1406 : decode cL_law 1406 = .ok (.aload_n 0, 1) := by decide +kernel
theorem dL_law_1407 : decode cL_law 1407 = .ok (.iconst 5, 1) := by decide +kernel
theorem dL_law_1408 : decode cL_law 1408 = .ok (.bipush 10, 2) := by decide +kernel
theorem dL_law_1410 : decode cL_law 1410 = .ok (.invokestatic 20, 3) := by decide +kernel
theorem dL_law_1413 : decode cL_law 1413 = .ok (.iadd, 1) := by decide +kernel
theorem dL_law_1414 : decode cL_law 1414 = .ok (.istore 16, 2) := by decide +kernel
theorem dL_law_1416 : decode cL_law 1416 = .ok (.iconst 0, 1) := by decide +kernel
theorem dL_law_1417 : decode cL_law 1417 = .ok (.istore 17, 2) := by decide +kernel
theorem dL_law_1419 : decode cL_law 1419 = .ok (.iload 17, 2) := by decide +kernel
theorem dL_law_1421 : decode cL_law 1421 = .ok (.bipush 10, 2) := by decide +kernel
theorem dL_law_1423 : decode cL_law 1423 = .ok (.if_icmp .ge 39, 3) := by decide +kernel
theorem dL_law_1426 : decode cL_law 1426 = .ok (.aload_n 1, 1) := by decide +kernel
theorem dL_law_1427 : decode cL_law 1427 = .ok (.iload 17, 2) := by decide +kernel
theorem dL_law_1429 : decode cL_law 1429 = .ok (.iload 17, 2) := by decide +kernel
theorem dL_law_1431 : decode cL_law 1431 = .ok (.iload 16, 2) := by decide +kernel
theorem dL_law_1433 : decode cL_law 1433 = .ok (.iconst 1, 1) := by decide +kernel
theorem dL_law_1434 : decode cL_law 1434 = .ok (.isub, 1) := by decide +kernel
theorem dL_law_1435 : decode cL_law 1435 = .ok (.if_icmp .ge 10, 3) := by decide +kernel
theorem dL_law_1438 : decode cL_law 1438 = .ok (.iload 17, 2) := by decide +kernel
theorem dL_law_1440 : decode cL_law 1440 = .ok (.iconst 1, 1) := by decide +kernel
theorem dL_law_1441 : decode cL_law 1441 = .ok (.iadd, 1) := by decide +kernel
theorem dL_law_1442 : decode cL_law 1442 = .ok (.goto 4, 3) := by decide +kernel
theorem dL_law_1445 : decode cL_law 1445 = .ok (.iconst 0, 1) := by decide +kernel
theorem dL_law_1446 : decode cL_law 1446 = .ok (.invokevirtual 31, 3) := by decide +kernel
theorem dL_law_1449 : decode cL_law 1449 = .ok (.iload 17, 2) := by decide +kernel
theorem dL_law_1451 : decode cL_law 1451 = .ok (.if_icmp .eq 5, 3) := by decide +kernel
theorem dL_law_1454 : decode cL_law 1454 = .ok (.iconst 0, 1) := by decide +kernel
theorem dL_law_1455 : decode cL_law 1455 = .ok (.ireturn, 1) := by decide +kernel
theorem dL_law_1456 : decode cL_law 1456 = .ok (.iinc 17 1, 3) := by decide +kernel
theorem dL_law_1459 : decode cL_law 1459 = .ok (.goto (-40), 3) := by decide +kernel
theorem dL_law_1462 : decode cL_law 1462 = .ok (.iconst 0, 1) := by decide +kernel
theorem dL_law_1463 : decode cL_law 1463 = .ok (.istore 17, 2) := by decide +kernel
theorem dL_law_1465 : decode cL_law 1465 = .ok (.iload 17, 2) := by decide +kernel
theorem dL_law_1467 : decode cL_law 1467 = .ok (.bipush 10, 2) := by decide +kernel
theorem dL_law_1469 : decode cL_law 1469 = .ok (.if_icmp .ge 113, 3) := by decide +kernel
theorem dL_law_1472 : decode cL_law 1472 = .ok (.aload_n 0, 1) := by decide +kernel
theorem dL_law_1473 : decode cL_law 1473 = .ok (.iload 17, 2) := by decide +kernel
theorem dL_law_1475 : decode cL_law 1475 = .ok (.bipush 20, 2) := by decide +kernel
theorem dL_law_1477 : decode cL_law 1477 = .ok (.iadd, 1) := by decide +kernel
theorem dL_law_1478 : decode cL_law 1478 = .ok (.bipush 100, 2) := by decide +kernel
theorem dL_law_1480 : decode cL_law 1480 = .ok (.invokestatic 20, 3) := by decide +kernel
theorem dL_law_1483 : decode cL_law 1483 = .ok (.istore 18, 2) := by decide +kernel
theorem dL_law_1485 : decode cL_law 1485 = .ok (.iload 17, 2) := by decide +kernel
theorem dL_law_1487 : decode cL_law 1487 = .ok (.iload 16, 2) := by decide +kernel
theorem dL_law_1489 : decode cL_law 1489 = .ok (.if_icmp .ge 14, 3) := by decide +kernel
theorem dL_law_1492 : decode cL_law 1492 = .ok (.iload 17, 2) := by decide +kernel
theorem dL_law_1494 : decode cL_law 1494 = .ok (.iload 18, 2) := by decide +kernel
theorem dL_law_1496 : decode cL_law 1496 = .ok (.iadd, 1) := by decide +kernel
theorem dL_law_1497 : decode cL_law 1497 = .ok (.iload 16, 2) := by decide +kernel
theorem dL_law_1499 : decode cL_law 1499 = .ok (.irem, 1) := by decide +kernel
theorem dL_law_1500 : decode cL_law 1500 = .ok (.goto 20, 3) := by decide +kernel
theorem dL_law_1503 : decode cL_law 1503 = .ok (.iload 18, 2) := by decide +kernel
theorem dL_law_1505 : decode cL_law 1505 = .ok (.ifCond .ne 8, 3) := by decide +kernel
theorem dL_law_1508 : decode cL_law 1508 = .ok (.iload 17, 2) := by decide +kernel
theorem dL_law_1510 : decode cL_law 1510 = .ok (.goto 10, 3) := by decide +kernel
theorem dL_law_1513 : decode cL_law 1513 = .ok (.iload 18, 2) := by decide +kernel
theorem dL_law_1515 : decode cL_law 1515 = .ok (.iconst 1, 1) := by decide +kernel
theorem dL_law_1516 : decode cL_law 1516 = .ok (.isub, 1) := by decide +kernel
theorem dL_law_1517 : decode cL_law 1517 = .ok (.iload 16, 2) := by decide +kernel
theorem dL_law_1519 : decode cL_law 1519 = .ok (.irem, 1) := by decide +kernel
theorem dL_law_1520 : decode cL_law 1520 = .ok (.istore 19, 2) := by decide +kernel
theorem dL_law_1522 : decode cL_law 1522 = .ok (.aload_n 1, 1) := by decide +kernel
theorem dL_law_1523 : decode cL_law 1523 = .ok (.iload 17, 2) := by decide +kernel
theorem dL_law_1525 : decode cL_law 1525 = .ok (.iload 18, 2) := by decide +kernel
theorem dL_law_1527 : decode cL_law 1527 = .ok (.invokevirtual 81, 3) := by decide +kernel
theorem dL_law_1530 : decode cL_law 1530 = .ok (.iload 19, 2) := by decide +kernel
theorem dL_law_1532 : decode cL_law 1532 = .ok (.if_icmp .ne 42, 3) := by decide +kernel
theorem dL_law_1535 : decode cL_law 1535 = .ok (.aload_n 1, 1) := by decide +kernel
theorem dL_law_1536 : decode cL_law 1536 = .ok (.iload 17, 2) := by decide +kernel
theorem dL_law_1538 : decode cL_law 1538 = .ok (.bipush (-2), 2) := by decide +kernel
theorem dL_law_1540 : decode cL_law 1540 = .ok (.invokevirtual 81, 3) := by decide +kernel
theorem dL_law_1543 : decode cL_law 1543 = .ok (.iload 16, 2) := by decide +kernel
theorem dL_law_1545 : decode cL_law 1545 = .ok (.if_icmp .ne 29, 3) := by decide +kernel
theorem dL_law_1548 : decode cL_law 1548 = .ok (.aload_n 1, 1) := by decide +kernel
theorem dL_law_1549 : decode cL_law 1549 = .ok (.iload 17, 2) := by decide +kernel
theorem dL_law_1551 : decode cL_law 1551 = .ok (.iconst (-1), 1) := by decide +kernel
theorem dL_law_1552 : decode cL_law 1552 = .ok (.invokevirtual 81, 3) := by decide +kernel
theorem dL_law_1555 : decode cL_law 1555 = .ok (.iload 17, 2) := by decide +kernel
theorem dL_law_1557 : decode cL_law 1557 = .ok (.iload 16, 2) := by decide +kernel
theorem dL_law_1559 : decode cL_law 1559 = .ok (.if_icmp .ge 8, 3) := by decide +kernel
theorem dL_law_1562 : decode cL_law 1562 = .ok (.iload 16, 2) := by decide +kernel
theorem dL_law_1564 : decode cL_law 1564 = .ok (.goto 7, 3) := by decide +kernel
theorem dL_law_1567 : decode cL_law 1567 = .ok (.iload 16, 2) := by decide +kernel
theorem dL_law_1569 : decode cL_law 1569 = .ok (.iconst 1, 1) := by decide +kernel
theorem dL_law_1570 : decode cL_law 1570 = .ok (.iadd, 1) := by decide +kernel
theorem dL_law_1571 : decode cL_law 1571 = .ok (.if_icmp .eq 5, 3) := by decide +kernel
theorem dL_law_1574 : decode cL_law 1574 = .ok (.iconst 0, 1) := by decide +kernel
theorem dL_law_1575 : decode cL_law 1575 = .ok (.ireturn, 1) := by decide +kernel
theorem dL_law_1576 : decode cL_law 1576 = .ok (.iinc 17 1, 3) := by decide +kernel
theorem dL_law_1579 : decode cL_law 1579 = .ok (.goto (-114), 3) := by decide +kernel
theorem dL_law_1582 : decode cL_law 1582 = .ok (.aload_n 1, 1) := by decide +kernel
theorem dL_law_1583 : decode cL_law 1583 = .ok (.bipush 61, 2) := by decide +kernel
theorem dL_law_1585 : decode cL_law 1585 = .ok (.invokevirtual 48, 3) := by decide +kernel
theorem dL_law_1588 : decode cL_law 1588 = .ok (.iconst 1, 1) := by decide +kernel
theorem dL_law_1589 : decode cL_law 1589 = .ok (.if_icmp .ne 23, 3) := by decide +kernel
theorem dL_law_1592 : decode cL_law 1592 = .ok (.aload_n 1, 1) := by decide +kernel
theorem dL_law_1593 : decode cL_law 1593 = .ok (.bipush 48, 2) := by decide +kernel
theorem dL_law_1595 : decode cL_law 1595 = .ok (.invokevirtual 48, 3) := by decide +kernel
theorem dL_law_1598 : decode cL_law 1598 = .ok (.iconst 2, 1) := by decide +kernel
theorem dL_law_1599 : decode cL_law 1599 = .ok (.if_icmp .ne 13, 3) := by decide +kernel
theorem dL_law_1602 : decode cL_law 1602 = .ok (.aload_n 1, 1) := by decide +kernel
theorem dL_law_1603 : decode cL_law 1603 = .ok (.bipush 49, 2) := by decide +kernel
theorem dL_law_1605 : decode cL_law 1605 = .ok (.invokevirtual 48, 3) := by decide +kernel
theorem dL_law_1608 : decode cL_law 1608 = .ok (.iconst 3, 1) := by decide +kernel
theorem dL_law_1609 : decode cL_law 1609 = .ok (.if_icmp .eq 5, 3) := by decide +kernel
theorem dL_law_1612 : decode cL_law 1612 = .ok (.iconst 0, 1) := by decide +kernel
theorem dL_law_1613 : decode cL_law 1613 = .ok (.ireturn, 1) := by decide +kernel
theorem dL_law_1614 : decode cL_law 1614 = .ok (.iconst 0, 1) := by decide +kernel
theorem dL_law_1615 : decode cL_law 1615 = .ok (.istore 17, 2) := by decide +kernel
theorem dL_law_1617 : decode cL_law 1617 = .ok (.iload 17, 2) := by decide +kernel
theorem dL_law_1619 : decode cL_law 1619 = .ok (.bipush 57, 2) := by decide +kernel
theorem dL_law_1621 : decode cL_law 1621 = .ok (.if_icmp .ge 77, 3) := by decide +kernel
theorem dL_law_1624 : decode cL_law 1624 = .ok (.bipush 20, 2) := by decide +kernel
theorem dL_law_1626 : decode cL_law 1626 = .ok (.bipush 10, 2) := by decide +kernel
theorem dL_law_1628 : decode cL_law 1628 = .ok (.iload 17, 2) := by decide +kernel
theorem dL_law_1630 : decode cL_law 1630 = .ok (.imul, 1) := by decide +kernel
theorem dL_law_1631 : decode cL_law 1631 = .ok (.iadd, 1) := by decide +kernel
theorem dL_law_1632 : decode cL_law 1632 = .ok (.bipush 99, 2) := by decide +kernel
theorem dL_law_1634 : decode cL_law 1634 = .ok (.if_icmp .le 8, 3) := by decide +kernel
theorem dL_law_1637 : decode cL_law 1637 = .ok (.bipush 99, 2) := by decide +kernel
theorem dL_law_1639 : decode cL_law 1639 = .ok (.goto 11, 3) := by decide +kernel
theorem dL_law_1642 : decode cL_law 1642 = .ok (.bipush 20, 2) := by decide +kernel
theorem dL_law_1644 : decode cL_law 1644 = .ok (.bipush 10, 2) := by decide +kernel
theorem dL_law_1646 : decode cL_law 1646 = .ok (.iload 17, 2) := by decide +kernel
theorem dL_law_1648 : decode cL_law 1648 = .ok (.imul, 1) := by decide +kernel
theorem dL_law_1649 : decode cL_law 1649 = .ok (.iadd, 1) := by decide +kernel
theorem dL_law_1650 : decode cL_law 1650 = .ok (.istore 18, 2) := by decide +kernel
theorem dL_law_1652 : decode cL_law 1652 = .ok (.aload_n 1, 1) := by decide +kernel
theorem dL_law_1653 : decode cL_law 1653 = .ok (.bipush 126, 2) := by decide +kernel
theorem dL_law_1655 : decode cL_law 1655 = .ok (.invokevirtual 48, 3) := by decide +kernel
theorem dL_law_1658 : decode cL_law 1658 = .ok (.iconst 4, 1) := by decide +kernel
theorem dL_law_1659 : decode cL_law 1659 = .ok (.iload 17, 2) := by decide +kernel
theorem dL_law_1661 : decode cL_law 1661 = .ok (.iadd, 1) := by decide +kernel
theorem dL_law_1662 : decode cL_law 1662 = .ok (.if_icmp .ne 28, 3) := by decide +kernel
theorem dL_law_1665 : decode cL_law 1665 = .ok (.aload_n 1, 1) := by decide +kernel
theorem dL_law_1666 : decode cL_law 1666 = .ok (.iconst 1, 1) := by decide +kernel
theorem dL_law_1667 : decode cL_law 1667 = .ok (.invokevirtual 51, 3) := by decide +kernel
theorem dL_law_1670 : decode cL_law 1670 = .ok (.iload 18, 2) := by decide +kernel
theorem dL_law_1672 : decode cL_law 1672 = .ok (.if_icmp .ne 18, 3) := by decide +kernel
theorem dL_law_1675 : decode cL_law 1675 = .ok (.aload_n 1, 1) := by decide +kernel
theorem dL_law_1676 : decode cL_law 1676 = .ok (.iconst 2, 1) := by decide +kernel
theorem dL_law_1677 : decode cL_law 1677 = .ok (.invokevirtual 51, 3) := by decide +kernel
theorem dL_law_1680 : decode cL_law 1680 = .ok (.iload 17, 2) := by decide +kernel
theorem dL_law_1682 : decode cL_law 1682 = .ok (.iconst 1, 1) := by decide +kernel
theorem dL_law_1683 : decode cL_law 1683 = .ok (.iadd, 1) := by decide +kernel
theorem dL_law_1684 : decode cL_law 1684 = .ok (.iload 16, 2) := by decide +kernel
theorem dL_law_1686 : decode cL_law 1686 = .ok (.irem, 1) := by decide +kernel
theorem dL_law_1687 : decode cL_law 1687 = .ok (.if_icmp .eq 5, 3) := by decide +kernel
theorem dL_law_1690 : decode cL_law 1690 = .ok (.iconst 0, 1) := by decide +kernel
theorem dL_law_1691 : decode cL_law 1691 = .ok (.ireturn, 1) := by decide +kernel
theorem dL_law_1692 : decode cL_law 1692 = .ok (.iinc 17 1, 3) := by decide +kernel
theorem dL_law_1695 : decode cL_law 1695 = .ok (.goto (-78), 3) := by decide +kernel
theorem dL_law_1698 : decode cL_law 1698 = .ok (.aload_n 1, 1) := by decide +kernel
theorem dL_law_1699 : decode cL_law 1699 = .ok (.bipush 126, 2) := by decide +kernel
theorem dL_law_1701 : decode cL_law 1701 = .ok (.invokevirtual 48, 3) := by decide +kernel
theorem dL_law_1704 : decode cL_law 1704 = .ok (.bipush (-4), 2) := by decide +kernel
theorem dL_law_1706 : decode cL_law 1706 = .ok (.if_icmp .ne 35, 3) := by decide +kernel
theorem dL_law_1709 : decode cL_law 1709 = .ok (.aload_n 1, 1) := by decide +kernel
theorem dL_law_1710 : decode cL_law 1710 = .ok (.invokevirtual 75, 3) := by decide +kernel
theorem dL_law_1713 : decode cL_law 1713 = .ok (.bipush 58, 2) := by decide +kernel
theorem dL_law_1715 : decode cL_law 1715 = .ok (.if_icmp .ne 26, 3) := by decide +kernel
theorem dL_law_1718 : decode cL_law 1718 = .ok (.aload_n 1, 1) := by decide +kernel
theorem dL_law_1719 : decode cL_law 1719 = .ok (.iconst 3, 1) := by decide +kernel
theorem dL_law_1720 : decode cL_law 1720 = .ok (.invokevirtual 37, 3) := by decide +kernel
theorem dL_law_1723 : decode cL_law 1723 = .ok (.bipush 57, 2) := by decide +kernel
theorem dL_law_1725 : decode cL_law 1725 = .ok (.iload 16, 2) := by decide +kernel
theorem dL_law_1727 : decode cL_law 1727 = .ok (.irem, 1) := by decide +kernel
theorem dL_law_1728 : decode cL_law 1728 = .ok (.if_icmp .ne 13, 3) := by decide +kernel
theorem dL_law_1731 : decode cL_law 1731 = .ok (.aload_n 1, 1) := by decide +kernel
theorem dL_law_1732 : decode cL_law 1732 = .ok (.iconst 2, 1) := by decide +kernel
theorem dL_law_1733 : decode cL_law 1733 = .ok (.invokevirtual 37, 3) := by decide +kernel
theorem dL_law_1736 : decode cL_law 1736 = .ok (.bipush 99, 2) := by decide +kernel
theorem dL_law_1738 : decode cL_law 1738 = .ok (.if_icmp .eq 5, 3) := by decide +kernel
theorem dL_law_1741 : decode cL_law 1741 = .ok (.iconst 0, 1) := by decide +kernel
theorem dL_law_1742 : decode cL_law 1742 = .ok (.ireturn, 1) := by decide +kernel
theorem dL_law_1743 : decode cL_law 1743 = .ok (.aload_n 1, 1) := by decide +kernel
theorem dL_law_1744 : decode cL_law 1744 = .ok (.iconst 4, 1) := by decide +kernel
theorem dL_law_1745 : decode cL_law 1745 = .ok (.invokevirtual 37, 3) := by decide +kernel
theorem dL_law_1748 : decode cL_law 1748 = .ok (.istore 17, 2) := by decide +kernel
theorem dL_law_1750 : decode cL_law 1750 = .ok (.iload 17, 2) := by decide +kernel
theorem dL_law_1752 : decode cL_law 1752 = .ok (.istore 18, 2) := by decide +kernel
theorem dL_law_1754 : decode cL_law 1754 = .ok (.iload 18, 2) := by decide +kernel
theorem dL_law_1756 : decode cL_law 1756 = .ok (.bipush 99, 2) := by decide +kernel
theorem dL_law_1758 : decode cL_law 1758 = .ok (.if_icmp .ge 49, 3) := by decide +kernel
theorem dL_law_1761 : decode cL_law 1761 = .ok (.aload_n 1, 1) := by decide +kernel
theorem dL_law_1762 : decode cL_law 1762 = .ok (.bipush 46, 2) := by decide +kernel
theorem dL_law_1764 : decode cL_law 1764 = .ok (.invokevirtual 48, 3) := by decide +kernel
theorem dL_law_1767 : decode cL_law 1767 = .ok (.iconst 1, 1) := by decide +kernel
theorem dL_law_1768 : decode cL_law 1768 = .ok (.if_icmp .ne 31, 3) := by decide +kernel
theorem dL_law_1771 : decode cL_law 1771 = .ok (.aload_n 1, 1) := by decide +kernel
theorem dL_law_1772 : decode cL_law 1772 = .ok (.invokevirtual 75, 3) := by decide +kernel
theorem dL_law_1775 : decode cL_law 1775 = .ok (.iconst 1, 1) := by decide +kernel
theorem dL_law_1776 : decode cL_law 1776 = .ok (.if_icmp .ne 23, 3) := by decide +kernel
theorem dL_law_1779 : decode cL_law 1779 = .ok (.aload_n 1, 1) := by decide +kernel
theorem dL_law_1780 : decode cL_law 1780 = .ok (.iconst 4, 1) := by decide +kernel
theorem dL_law_1781 : decode cL_law 1781 = .ok (.invokevirtual 37, 3) := by decide +kernel
theorem dL_law_1784 : decode cL_law 1784 = .ok (.iload 18, 2) := by decide +kernel
theorem dL_law_1786 : decode cL_law 1786 = .ok (.iconst 1, 1) := by decide +kernel
theorem dL_law_1787 : decode cL_law 1787 = .ok (.iadd, 1) := by decide +kernel
theorem dL_law_1788 : decode cL_law 1788 = .ok (.if_icmp .ne 11, 3) := by decide +kernel
theorem dL_law_1791 : decode cL_law 1791 = .ok (.aload_n 1, 1) := by decide +kernel
theorem dL_law_1792 : decode cL_law 1792 = .ok (.iconst 2, 1) := by decide +kernel
theorem dL_law_1793 : decode cL_law 1793 = .ok (.invokevirtual 37, 3) := by decide +kernel
theorem dL_law_1796 : decode cL_law 1796 = .ok (.ifCond .eq 5, 3) := by decide +kernel
theorem dL_law_1799 : decode cL_law 1799 = .ok (.iconst 0, 1) := by decide +kernel
theorem dL_law_1800 : decode cL_law 1800 = .ok (.ireturn, 1) := by decide +kernel
theorem dL_law_1801 : decode cL_law 1801 = .ok (.iinc 18 1, 3) := by decide +kernel
theorem dL_law_1804 : decode cL_law 1804 = .ok (.goto (-50), 3) := by decide +kernel
theorem dL_law_1807 : decode cL_law 1807 = .ok (.aload_n 1, 1) := by decide +kernel
theorem dL_law_1808 : decode cL_law 1808 = .ok (.bipush 46, 2) := by decide +kernel
theorem dL_law_1810 : decode cL_law 1810 = .ok (.invokevirtual 48, 3) := by decide +kernel
theorem dL_law_1813 : decode cL_law 1813 = .ok (.iconst 1, 1) := by decide +kernel
theorem dL_law_1814 : decode cL_law 1814 = .ok (.if_icmp .ne 50, 3) := by decide +kernel
theorem dL_law_1817 : decode cL_law 1817 = .ok (.aload_n 1, 1) := by decide +kernel
theorem dL_law_1818 : decode cL_law 1818 = .ok (.iconst 0, 1) := by decide +kernel
theorem dL_law_1819 : decode cL_law 1819 = .ok (.invokevirtual 63, 3) := by decide +kernel
theorem dL_law_1822 : decode cL_law 1822 = .ok (.ifCond .ne 42, 3) := by decide +kernel
theorem dL_law_1825 : decode cL_law 1825 = .ok (.aload_n 1, 1) := by decide +kernel
theorem dL_law_1826 : decode cL_law 1826 = .ok (.iconst 1, 1) := by decide +kernel
theorem dL_law_1827 : decode cL_law 1827 = .ok (.invokevirtual 63, 3) := by decide +kernel
theorem dL_law_1830 : decode cL_law 1830 = .ok (.iconst 4, 1) := by decide +kernel
theorem dL_law_1831 : decode cL_law 1831 = .ok (.if_icmp .ne 33, 3) := by decide +kernel
theorem dL_law_1834 : decode cL_law 1834 = .ok (.aload_n 1, 1) := by decide +kernel
theorem dL_law_1835 : decode cL_law 1835 = .ok (.invokevirtual 75, 3) := by decide +kernel
theorem dL_law_1838 : decode cL_law 1838 = .ok (.bipush (-3), 2) := by decide +kernel
theorem dL_law_1840 : decode cL_law 1840 = .ok (.if_icmp .ne 24, 3) := by decide +kernel
theorem dL_law_1843 : decode cL_law 1843 = .ok (.aload_n 1, 1) := by decide +kernel
theorem dL_law_1844 : decode cL_law 1844 = .ok (.invokevirtual 14, 3) := by decide +kernel
theorem dL_law_1847 : decode cL_law 1847 = .ok (.iconst 1, 1) := by decide +kernel
theorem dL_law_1848 : decode cL_law 1848 = .ok (.if_icmp .ne 16, 3) := by decide +kernel
theorem dL_law_1851 : decode cL_law 1851 = .ok (.aload_n 1, 1) := by decide +kernel
theorem dL_law_1852 : decode cL_law 1852 = .ok (.iconst 3, 1) := by decide +kernel
theorem dL_law_1853 : decode cL_law 1853 = .ok (.invokevirtual 37, 3) := by decide +kernel
theorem dL_law_1856 : decode cL_law 1856 = .ok (.bipush 57, 2) := by decide +kernel
theorem dL_law_1858 : decode cL_law 1858 = .ok (.iload 16, 2) := by decide +kernel
theorem dL_law_1860 : decode cL_law 1860 = .ok (.irem, 1) := by decide +kernel
theorem dL_law_1861 : decode cL_law 1861 = .ok (.if_icmp .eq 5, 3) := by decide +kernel
theorem dL_law_1864 : decode cL_law 1864 = .ok (.iconst 0, 1) := by decide +kernel
theorem dL_law_1865 : decode cL_law 1865 = .ok (.ireturn, 1) := by decide +kernel
theorem dL_law_1866 : decode cL_law 1866 = .ok (.aload_n 0, 1) := by decide +kernel
theorem dL_law_1867 : decode cL_law 1867 = .ok (.bipush 6, 2) := by decide +kernel
theorem dL_law_1869 : decode cL_law 1869 = .ok (.bipush 10, 2) := by decide +kernel
theorem dL_law_1871 : decode cL_law 1871 = .ok (.invokestatic 20, 3) := by decide +kernel
theorem dL_law_1874 : decode cL_law 1874 = .ok (.istore 18, 2) := by decide +kernel
theorem dL_law_1876 : decode cL_law 1876 = .ok (.iconst 1, 1) := by decide +kernel
theorem dL_law_1877 : decode cL_law 1877 = .ok (.aload_n 0, 1) := by decide +kernel
theorem dL_law_1878 : decode cL_law 1878 = .ok (.bipush 7, 2) := by decide +kernel
theorem dL_law_1880 : decode cL_law 1880 = .ok (.iconst 5, 1) := by decide +kernel
theorem dL_law_1881 : decode cL_law 1881 = .ok (.invokestatic 20, 3) := by decide +kernel
theorem dL_law_1884 : decode cL_law 1884 = .ok (.iadd, 1) := by decide +kernel
theorem dL_law_1885 : decode cL_law 1885 = .ok (.istore 19, 2) := by decide +kernel
theorem dL_law_1887 : decode cL_law 1887 = .ok (.iconst 0, 1) := by decide +kernel
theorem dL_law_1888 : decode cL_law 1888 = .ok (.istore 20, 2) := by decide +kernel
theorem dL_law_1890 : decode cL_law 1890 = .ok (.aload_n 1, 1) := by decide +kernel
theorem dL_law_1891 : decode cL_law 1891 = .ok (.iconst (-1), 1) := by decide +kernel
