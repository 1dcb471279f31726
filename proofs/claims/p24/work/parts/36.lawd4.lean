/-! ===== decode rows of the law ===== -/
theorem dL_law_1278 : decode cL_law 1278 = .ok (.ifCond .lt 8, 3) := by decide +kernel
theorem dL_law_1281 : decode cL_law 1281 = .ok (.iload 22, 2) := by decide +kernel
theorem dL_law_1283 : decode cL_law 1283 = .ok (.goto 8, 3) := by decide +kernel
theorem dL_law_1286 : decode cL_law 1286 = .ok (.aload 8, 2) := by decide +kernel
theorem dL_law_1288 : decode cL_law 1288 = .ok (.iload 20, 2) := by decide +kernel
theorem dL_law_1290 : decode cL_law 1290 = .ok (.iaload, 1) := by decide +kernel
theorem dL_law_1291 : decode cL_law 1291 = .ok (.iastore, 1) := by decide +kernel
theorem dL_law_1292 : decode cL_law 1292 = .ok (.goto 334, 3) := by decide +kernel
theorem dL_law_1295 : decode cL_law 1295 = .ok (.iload 18, 2) := by decide +kernel
theorem dL_law_1297 : decode cL_law 1297 = .ok (.bipush 14, 2) := by decide +kernel
theorem dL_law_1299 : decode cL_law 1299 = .ok (.if_icmp .ne 187, 3) := by decide +kernel
theorem dL_law_1302 : decode cL_law 1302 = .ok (.iload 17, 2) := by decide +kernel
theorem dL_law_1304 : decode cL_law 1304 = .ok (.bipush 6, 2) := by decide +kernel
theorem dL_law_1306 : decode cL_law 1306 = .ok (.ishr, 1) := by decide +kernel
theorem dL_law_1307 : decode cL_law 1307 = .ok (.iconst 3, 1) := by decide +kernel
theorem dL_law_1308 : decode cL_law 1308 = .ok (.iand, 1) := by decide +kernel
theorem dL_law_1309 : decode cL_law 1309 = .ok (.ifCond .ne 177, 3) := by decide +kernel
theorem dL_law_1312 : decode cL_law 1312 = .ok (.iload 11, 2) := by decide +kernel
theorem dL_law_1314 : decode cL_law 1314 = .ok (.ifCond .le 172, 3) := by decide +kernel
theorem dL_law_1317 : decode cL_law 1317 = .ok (.aload_n 1, 1) := by decide +kernel
theorem dL_law_1318 : decode cL_law 1318 = .ok (.iload 19, 2) := by decide +kernel
theorem dL_law_1320 : decode cL_law 1320 = .ok (.invokevirtual 84, 3) := by decide +kernel
theorem dL_law_1323 : decode cL_law 1323 = .ok (.istore 21, 2) := by decide +kernel
theorem dL_law_1325 : decode cL_law 1325 = .ok (.aload_n 1, 1) := by decide +kernel
theorem dL_law_1326 : decode cL_law 1326 = .ok (.iconst 4, 1) := by decide +kernel
theorem dL_law_1327 : decode cL_law 1327 = .ok (.iload 20, 2) := by decide +kernel
theorem dL_law_1329 : decode cL_law 1329 = .ok (.iconst 0, 1) := by decide +kernel
theorem dL_law_1330 : decode cL_law 1330 = .ok (.iconst 0, 1) := by decide +kernel
theorem dL_law_1331 : decode cL_law 1331 = .ok (.iconst 0, 1) := by decide +kernel
theorem dL_law_1332 : decode cL_law 1332 = .ok (.invokestatic 59, 3) := by decide +kernel
theorem dL_law_1335 : decode cL_law 1335 = .ok (.istore 22, 2) := by decide +kernel
theorem dL_law_1337 : decode cL_law 1337 = .ok (.iload 22, 2) := by decide +kernel
theorem dL_law_1339 : decode cL_law 1339 = .ok (.ldc 51, 2) := by decide +kernel
theorem dL_law_1341 : decode cL_law 1341 = .ok (.if_icmp .ne 20, 3) := by decide +kernel
theorem dL_law_1344 : decode cL_law 1344 = .ok (.aload_n 1, 1) := by decide +kernel
theorem dL_law_1345 : decode cL_law 1345 = .ok (.invokevirtual 74, 3) := by decide +kernel
theorem dL_law_1348 : decode cL_law 1348 = .ok (.iload 12, 2) := by decide +kernel
theorem dL_law_1350 : decode cL_law 1350 = .ok (.if_icmp .ne 7, 3) := by decide +kernel
theorem dL_law_1353 : decode cL_law 1353 = .ok (.iconst 1, 1) := by decide +kernel
theorem dL_law_1354 : decode cL_law 1354 = .ok (.goto 73, 3) := by decide +kernel
theorem dL_law_1357 : decode cL_law 1357 = .ok (.iconst 0, 1) := by decide +kernel
theorem dL_law_1358 : decode cL_law 1358 = .ok (.goto 69, 3) := by decide +kernel
theorem dL_law_1361 : decode cL_law 1361 = .ok (.iload 22, 2) := by decide +kernel
theorem dL_law_1363 : decode cL_law 1363 = .ok (.aload 9, 2) := by decide +kernel
theorem dL_law_1365 : decode cL_law 1365 = .ok (.iload 20, 2) := by decide +kernel
theorem dL_law_1367 : decode cL_law 1367 = .ok (.iaload, 1) := by decide +kernel
theorem dL_law_1368 : decode cL_law 1368 = .ok (.if_icmp .ne 58, 3) := by decide +kernel
theorem dL_law_1371 : decode cL_law 1371 = .ok (.aload 7, 2) := by decide +kernel
theorem dL_law_1373 : decode cL_law 1373 = .ok (.iload 20, 2) := by decide +kernel
theorem dL_law_1375 : decode cL_law 1375 = .ok (.iaload, 1) := by decide +kernel
theorem dL_law_1376 : decode cL_law 1376 = .ok (.ifCond .le 50, 3) := by decide +kernel
theorem dL_law_1379 : decode cL_law 1379 = .ok (.aload_n 1, 1) := by decide +kernel
theorem dL_law_1380 : decode cL_law 1380 = .ok (.iconst 4, 1) := by decide +kernel
theorem dL_law_1381 : decode cL_law 1381 = .ok (.iload 20, 2) := by decide +kernel
theorem dL_law_1383 : decode cL_law 1383 = .ok (.iconst 0, 1) := by decide +kernel
theorem dL_law_1384 : decode cL_law 1384 = .ok (.iconst 0, 1) := by decide +kernel
theorem dL_law_1385 : decode cL_law 1385 = .ok (.iconst 0, 1) := by decide +kernel
theorem dL_law_1386 : decode cL_law 1386 = .ok (.invokestatic 59, 3) := by decide +kernel
theorem dL_law_1389 : decode cL_law 1389 = .ok (.ldc 51, 2) := by decide +kernel
theorem dL_law_1391 : decode cL_law 1391 = .ok (.if_icmp .ne 35, 3) := by decide +kernel
theorem dL_law_1394 : decode cL_law 1394 = .ok (.aload_n 1, 1) := by decide +kernel
theorem dL_law_1395 : decode cL_law 1395 = .ok (.iload 19, 2) := by decide +kernel
theorem dL_law_1397 : decode cL_law 1397 = .ok (.invokevirtual 84, 3) := by decide +kernel
theorem dL_law_1400 : decode cL_law 1400 = .ok (.iload 21, 2) := by decide +kernel
theorem dL_law_1402 : decode cL_law 1402 = .ok (.if_icmp .lt 24, 3) := by decide +kernel
theorem dL_law_1405 : decode cL_law 1405 = .ok (.aload_n 1, 1) := by decide +kernel
theorem dL_law_1406 : decode cL_law 1406 = .ok (.iload 19, 2) := by decide +kernel
theorem dL_law_1408 : decode cL_law 1408 = .ok (.invokevirtual 84, 3) := by decide +kernel
theorem dL_law_1411 : decode cL_law 1411 = .ok (.iload 21, 2) := by decide +kernel
theorem dL_law_1413 : decode cL_law 1413 = .ok (.aload 4, 2) := by decide +kernel
theorem dL_law_1415 : decode cL_law 1415 = .ok (.iload 19, 2) := by decide +kernel
theorem dL_law_1417 : decode cL_law 1417 = .ok (.iaload, 1) := by decide +kernel
theorem dL_law_1418 : decode cL_law 1418 = .ok (.iadd, 1) := by decide +kernel
theorem dL_law_1419 : decode cL_law 1419 = .ok (.if_icmp .gt 7, 3) := by decide +kernel
theorem dL_law_1422 : decode cL_law 1422 = .ok (.iconst 1, 1) := by decide +kernel
theorem dL_law_1423 : decode cL_law 1423 = .ok (.goto 4, 3) := by decide +kernel
theorem dL_law_1426 : decode cL_law 1426 = .ok (.iconst 0, 1) := by decide +kernel
theorem dL_law_1427 : decode cL_law 1427 = .ok (.istore 13, 2) := by decide +kernel
theorem dL_law_1429 : decode cL_law 1429 = .ok (.iload 12, 2) := by decide +kernel
theorem dL_law_1431 : decode cL_law 1431 = .ok (.iload 22, 2) := by decide +kernel
theorem dL_law_1433 : decode cL_law 1433 = .ok (.ifCond .le 8, 3) := by decide +kernel
theorem dL_law_1436 : decode cL_law 1436 = .ok (.iload 22, 2) := by decide +kernel
theorem dL_law_1438 : decode cL_law 1438 = .ok (.goto 4, 3) := by decide +kernel
theorem dL_law_1441 : decode cL_law 1441 = .ok (.iconst 0, 1) := by decide +kernel
theorem dL_law_1442 : decode cL_law 1442 = .ok (.iadd, 1) := by decide +kernel
theorem dL_law_1443 : decode cL_law 1443 = .ok (.istore 12, 2) := by decide +kernel
theorem dL_law_1445 : decode cL_law 1445 = .ok (.aload 8, 2) := by decide +kernel
theorem dL_law_1447 : decode cL_law 1447 = .ok (.iload 20, 2) := by decide +kernel
theorem dL_law_1449 : decode cL_law 1449 = .ok (.iload 22, 2) := by decide +kernel
theorem dL_law_1451 : decode cL_law 1451 = .ok (.ifCond .lt 7, 3) := by decide +kernel
theorem dL_law_1454 : decode cL_law 1454 = .ok (.iconst 0, 1) := by decide +kernel
theorem dL_law_1455 : decode cL_law 1455 = .ok (.goto 8, 3) := by decide +kernel
theorem dL_law_1458 : decode cL_law 1458 = .ok (.aload 8, 2) := by decide +kernel
theorem dL_law_1460 : decode cL_law 1460 = .ok (.iload 20, 2) := by decide +kernel
theorem dL_law_1462 : decode cL_law 1462 = .ok (.iaload, 1) := by decide +kernel
theorem dL_law_1463 : decode cL_law 1463 = .ok (.iastore, 1) := by decide +kernel
theorem dL_law_1464 : decode cL_law 1464 = .ok (.aload 9, 2) := by decide +kernel
theorem dL_law_1466 : decode cL_law 1466 = .ok (.iload 20, 2) := by decide +kernel
theorem dL_law_1468 : decode cL_law 1468 = .ok (.iload 22, 2) := by decide +kernel
theorem dL_law_1470 : decode cL_law 1470 = .ok (.ifCond .lt 7, 3) := by decide +kernel
theorem dL_law_1473 : decode cL_law 1473 = .ok (.iconst 0, 1) := by decide +kernel
theorem dL_law_1474 : decode cL_law 1474 = .ok (.goto 8, 3) := by decide +kernel
theorem dL_law_1477 : decode cL_law 1477 = .ok (.aload 9, 2) := by decide +kernel
theorem dL_law_1479 : decode cL_law 1479 = .ok (.iload 20, 2) := by decide +kernel
theorem dL_law_1481 : decode cL_law 1481 = .ok (.iaload, 1) := by decide +kernel
theorem dL_law_1482 : decode cL_law 1482 = .ok (.iastore, 1) := by decide +kernel
theorem dL_law_1483 : decode cL_law 1483 = .ok (.goto 143, 3) := by decide +kernel
theorem dL_law_1486 : decode cL_law 1486 = .ok (.iload 17, 2) := by decide +kernel
theorem dL_law_1488 : decode cL_law 1488 = .ok (.iconst 3, 1) := by decide +kernel
theorem dL_law_1489 : decode cL_law 1489 = .ok (.ishr, 1) := by decide +kernel
theorem dL_law_1490 : decode cL_law 1490 = .ok (.sipush 400, 3) := by decide +kernel
theorem dL_law_1493 : decode cL_law 1493 = .ok (.irem, 1) := by decide +kernel
theorem dL_law_1494 : decode cL_law 1494 = .ok (.istore 21, 2) := by decide +kernel
theorem dL_law_1496 : decode cL_law 1496 = .ok (.aload_n 1, 1) := by decide +kernel
theorem dL_law_1497 : decode cL_law 1497 = .ok (.iload 19, 2) := by decide +kernel
theorem dL_law_1499 : decode cL_law 1499 = .ok (.invokevirtual 84, 3) := by decide +kernel
theorem dL_law_1502 : decode cL_law 1502 = .ok (.istore 22, 2) := by decide +kernel
theorem dL_law_1504 : decode cL_law 1504 = .ok (.aload_n 1, 1) := by decide +kernel
theorem dL_law_1505 : decode cL_law 1505 = .ok (.iload 19, 2) := by decide +kernel
theorem dL_law_1507 : decode cL_law 1507 = .ok (.iload 21, 2) := by decide +kernel
theorem dL_law_1509 : decode cL_law 1509 = .ok (.invokevirtual 102, 3) := by decide +kernel
theorem dL_law_1512 : decode cL_law 1512 = .ok (.istore 23, 2) := by decide +kernel
theorem dL_law_1514 : decode cL_law 1514 = .ok (.aload_n 1, 1) := by decide +kernel
theorem dL_law_1515 : decode cL_law 1515 = .ok (.iconst 5, 1) := by decide +kernel
theorem dL_law_1516 : decode cL_law 1516 = .ok (.iload 19, 2) := by decide +kernel
theorem dL_law_1518 : decode cL_law 1518 = .ok (.iload 21, 2) := by decide +kernel
theorem dL_law_1520 : decode cL_law 1520 = .ok (.iconst 0, 1) := by decide +kernel
theorem dL_law_1521 : decode cL_law 1521 = .ok (.iconst 0, 1) := by decide +kernel
theorem dL_law_1522 : decode cL_law 1522 = .ok (.invokestatic 59, 3) := by decide +kernel
theorem dL_law_1525 : decode cL_law 1525 = .ok (.istore 24, 2) := by decide +kernel
theorem dL_law_1527 : decode cL_law 1527 = .ok (.iload 24, 2) := by decide +kernel
theorem dL_law_1529 : decode cL_law 1529 = .ok (.ldc 51, 2) := by decide +kernel
theorem dL_law_1531 : decode cL_law 1531 = .ok (.if_icmp .ne 35, 3) := by decide +kernel
theorem dL_law_1534 : decode cL_law 1534 = .ok (.aload_n 1, 1) := by decide +kernel
theorem dL_law_1535 : decode cL_law 1535 = .ok (.iload 19, 2) := by decide +kernel
theorem dL_law_1537 : decode cL_law 1537 = .ok (.invokevirtual 84, 3) := by decide +kernel
theorem dL_law_1540 : decode cL_law 1540 = .ok (.iload 22, 2) := by decide +kernel
theorem dL_law_1542 : decode cL_law 1542 = .ok (.if_icmp .ne 20, 3) := by decide +kernel
theorem dL_law_1545 : decode cL_law 1545 = .ok (.aload_n 1, 1) := by decide +kernel
theorem dL_law_1546 : decode cL_law 1546 = .ok (.iload 19, 2) := by decide +kernel
theorem dL_law_1548 : decode cL_law 1548 = .ok (.iload 21, 2) := by decide +kernel
theorem dL_law_1550 : decode cL_law 1550 = .ok (.invokevirtual 102, 3) := by decide +kernel
theorem dL_law_1553 : decode cL_law 1553 = .ok (.iload 23, 2) := by decide +kernel
theorem dL_law_1555 : decode cL_law 1555 = .ok (.if_icmp .ne 7, 3) := by decide +kernel
theorem dL_law_1558 : decode cL_law 1558 = .ok (.iconst 1, 1) := by decide +kernel
theorem dL_law_1559 : decode cL_law 1559 = .ok (.goto 65, 3) := by decide +kernel
theorem dL_law_1562 : decode cL_law 1562 = .ok (.iconst 0, 1) := by decide +kernel
theorem dL_law_1563 : decode cL_law 1563 = .ok (.goto 61, 3) := by decide +kernel
theorem dL_law_1566 : decode cL_law 1566 = .ok (.iload 24, 2) := by decide +kernel
theorem dL_law_1568 : decode cL_law 1568 = .ok (.iload 22, 2) := by decide +kernel
theorem dL_law_1570 : decode cL_law 1570 = .ok (.if_icmp .ne 53, 3) := by decide +kernel
theorem dL_law_1573 : decode cL_law 1573 = .ok (.iload 22, 2) := by decide +kernel
theorem dL_law_1575 : decode cL_law 1575 = .ok (.ifCond .le 48, 3) := by decide +kernel
theorem dL_law_1578 : decode cL_law 1578 = .ok (.iload 23, 2) := by decide +kernel
theorem dL_law_1580 : decode cL_law 1580 = .ok (.ifCond .ne 43, 3) := by decide +kernel
theorem dL_law_1583 : decode cL_law 1583 = .ok (.aload_n 1, 1) := by decide +kernel
theorem dL_law_1584 : decode cL_law 1584 = .ok (.iload 19, 2) := by decide +kernel
theorem dL_law_1586 : decode cL_law 1586 = .ok (.invokevirtual 84, 3) := by decide +kernel
theorem dL_law_1589 : decode cL_law 1589 = .ok (.ifCond .ne 34, 3) := by decide +kernel
theorem dL_law_1592 : decode cL_law 1592 = .ok (.aload_n 1, 1) := by decide +kernel
theorem dL_law_1593 : decode cL_law 1593 = .ok (.iload 19, 2) := by decide +kernel
theorem dL_law_1595 : decode cL_law 1595 = .ok (.iload 21, 2) := by decide +kernel
theorem dL_law_1597 : decode cL_law 1597 = .ok (.invokevirtual 102, 3) := by decide +kernel
theorem dL_law_1600 : decode cL_law 1600 = .ok (.ifCond .eq 23, 3) := by decide +kernel
theorem dL_law_1603 : decode cL_law 1603 = .ok (.aload_n 1, 1) := by decide +kernel
theorem dL_law_1604 : decode cL_law 1604 = .ok (.iload 19, 2) := by decide +kernel
theorem dL_law_1606 : decode cL_law 1606 = .ok (.iload 21, 2) := by decide +kernel
theorem dL_law_1608 : decode cL_law 1608 = .ok (.iload 22, 2) := by decide +kernel
theorem dL_law_1610 : decode cL_law 1610 = .ok (.iadd, 1) := by decide +kernel
theorem dL_law_1611 : decode cL_law 1611 = .ok (.iconst 1, 1) := by decide +kernel
theorem dL_law_1612 : decode cL_law 1612 = .ok (.isub, 1) := by decide +kernel
theorem dL_law_1613 : decode cL_law 1613 = .ok (.invokevirtual 102, 3) := by decide +kernel
theorem dL_law_1616 : decode cL_law 1616 = .ok (.ifCond .eq 7, 3) := by decide +kernel
theorem dL_law_1619 : decode cL_law 1619 = .ok (.iconst 1, 1) := by decide +kernel
theorem dL_law_1620 : decode cL_law 1620 = .ok (.goto 4, 3) := by decide +kernel
theorem dL_law_1623 : decode cL_law 1623 = .ok (.iconst 0, 1) := by decide +kernel
theorem dL_law_1624 : decode cL_law 1624 = .ok (.istore 13, 2) := by decide +kernel
theorem dL_law_1626 : decode cL_law 1626 = .ok (.iload 13, 2) := by decide +kernel
theorem dL_law_1628 : decode cL_law 1628 = .ok (.ifCond .eq 85, 3) := by decide +kernel
theorem dL_law_1631 : decode cL_law 1631 = .ok (.aload_n 1, 1) := by decide +kernel
theorem dL_law_1632 : decode cL_law 1632 = .ok (.invokevirtual 74, 3) := by decide +kernel
theorem dL_law_1635 : decode cL_law 1635 = .ok (.iload 12, 2) := by decide +kernel
theorem dL_law_1637 : decode cL_law 1637 = .ok (.if_icmp .ne 76, 3) := by decide +kernel
theorem dL_law_1640 : decode cL_law 1640 = .ok (.iload 10, 2) := by decide +kernel
theorem dL_law_1642 : decode cL_law 1642 = .ok (.ifCond .eq 29, 3) := by decide +kernel
theorem dL_law_1645 : decode cL_law 1645 = .ok (.iload 15, 2) := by decide +kernel
theorem dL_law_1647 : decode cL_law 1647 = .ok (.bipush 6, 2) := by decide +kernel
theorem dL_law_1649 : decode cL_law 1649 = .ok (.irem, 1) := by decide +kernel
theorem dL_law_1650 : decode cL_law 1650 = .ok (.ifCond .gt 21, 3) := by decide +kernel
theorem dL_law_1653 : decode cL_law 1653 = .ok (.aload_n 1, 1) := by decide +kernel
theorem dL_law_1654 : decode cL_law 1654 = .ok (.aload_n 2, 1) := by decide +kernel
theorem dL_law_1655 : decode cL_law 1655 = .ok (.iload 19, 2) := by decide +kernel
theorem dL_law_1657 : decode cL_law 1657 = .ok (.iload 17, 2) := by decide +kernel
theorem dL_law_1659 : decode cL_law 1659 = .ok (.iconst 2, 1) := by decide +kernel
theorem dL_law_1660 : decode cL_law 1660 = .ok (.ishr, 1) := by decide +kernel
theorem dL_law_1661 : decode cL_law 1661 = .ok (.sipush 160, 3) := by decide +kernel
theorem dL_law_1664 : decode cL_law 1664 = .ok (.irem, 1) := by decide +kernel
theorem dL_law_1665 : decode cL_law 1665 = .ok (.invokestatic 106, 3) := by decide +kernel
theorem dL_law_1668 : decode cL_law 1668 = .ok (.ifCond .eq 45, 3) := by decide +kernel
theorem dL_law_1671 : decode cL_law 1671 = .ok (.iload 11, 2) := by decide +kernel
theorem dL_law_1673 : decode cL_law 1673 = .ok (.ifCond .eq 36, 3) := by decide +kernel
theorem dL_law_1676 : decode cL_law 1676 = .ok (.iload 15, 2) := by decide +kernel
theorem dL_law_1678 : decode cL_law 1678 = .ok (.iconst 2, 1) := by decide +kernel
theorem dL_law_1679 : decode cL_law 1679 = .ok (.irem, 1) := by decide +kernel
theorem dL_law_1680 : decode cL_law 1680 = .ok (.ifCond .gt 29, 3) := by decide +kernel
theorem dL_law_1683 : decode cL_law 1683 = .ok (.aload_n 1, 1) := by decide +kernel
theorem dL_law_1684 : decode cL_law 1684 = .ok (.aload_n 2, 1) := by decide +kernel
theorem dL_law_1685 : decode cL_law 1685 = .ok (.aload_n 3, 1) := by decide +kernel
theorem dL_law_1686 : decode cL_law 1686 = .ok (.iload 17, 2) := by decide +kernel
theorem dL_law_1688 : decode cL_law 1688 = .ok (.iconst 4, 1) := by decide +kernel
theorem dL_law_1689 : decode cL_law 1689 = .ok (.ishr, 1) := by decide +kernel
theorem dL_law_1690 : decode cL_law 1690 = .ok (.iload 11, 2) := by decide +kernel
theorem dL_law_1692 : decode cL_law 1692 = .ok (.irem, 1) := by decide +kernel
theorem dL_law_1693 : decode cL_law 1693 = .ok (.iload 10, 2) := by decide +kernel
theorem dL_law_1695 : decode cL_law 1695 = .ok (.iload 17, 2) := by decide +kernel
theorem dL_law_1697 : decode cL_law 1697 = .ok (.iconst 2, 1) := by decide +kernel
theorem dL_law_1698 : decode cL_law 1698 = .ok (.ishr, 1) := by decide +kernel
theorem dL_law_1699 : decode cL_law 1699 = .ok (.sipush 160, 3) := by decide +kernel
theorem dL_law_1702 : decode cL_law 1702 = .ok (.irem, 1) := by decide +kernel
theorem dL_law_1703 : decode cL_law 1703 = .ok (.invokestatic 110, 3) := by decide +kernel
theorem dL_law_1706 : decode cL_law 1706 = .ok (.ifCond .eq 7, 3) := by decide +kernel
theorem dL_law_1709 : decode cL_law 1709 = .ok (.iconst 1, 1) := by decide +kernel
theorem dL_law_1710 : decode cL_law 1710 = .ok (.goto 4, 3) := by decide +kernel
theorem dL_law_1713 : decode cL_law 1713 = .ok (.iconst 0, 1) := by decide +kernel
theorem dL_law_1714 : decode cL_law 1714 = .ok (.istore 13, 2) := by decide +kernel
theorem dL_law_1716 : decode cL_law 1716 = .ok (.iinc 15 1, 3) := by decide +kernel
theorem dL_law_1719 : decode cL_law 1719 = .ok (.goto (-1615), 3) := by decide +kernel
theorem dL_law_1722 : decode cL_law 1722 = .ok (.iload 13, 2) := by decide +kernel
theorem dL_law_1724 : decode cL_law 1724 = .ok (.ireturn, 1) := by decide +kernel
