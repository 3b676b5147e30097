set_option maxRecDepth 20000 in
theorem dL_law_1403 : decode cL_law 1403 = .ok (.iload 7, 2) := by decide +kernel
set_option maxRecDepth 20000 in
theorem dL_law_1405 : decode cL_law 1405 = .ok (.i2l, 1) := by decide +kernel
set_option maxRecDepth 20000 in
theorem dL_law_1406 : decode cL_law 1406 = .ok (.lcmp, 1) := by decide +kernel
set_option maxRecDepth 20000 in
theorem dL_law_1407 : decode cL_law 1407 = .ok (.ifCond .eq 5, 3) := by decide +kernel
set_option maxRecDepth 20000 in
theorem dL_law_1410 : decode cL_law 1410 = .ok (.iconst 0, 1) := by decide +kernel
set_option maxRecDepth 20000 in
theorem dL_law_1411 : decode cL_law 1411 = .ok (.ireturn, 1) := by decide +kernel
set_option maxRecDepth 20000 in
theorem dL_law_1412 : decode cL_law 1412 = .ok (.goto 1917, 3) := by decide +kernel
set_option maxRecDepth 20000 in
theorem dL_law_1415 : decode cL_law 1415 = .ok (.aload_n 1, 1) := by decide +kernel
set_option maxRecDepth 20000 in
theorem dL_law_1416 : decode cL_law 1416 = .ok (.aload_n 0, 1) := by decide +kernel
set_option maxRecDepth 20000 in
theorem dL_law_1417 : decode cL_law 1417 = .ok (.iload 5, 2) := by decide +kernel
set_option maxRecDepth 20000 in
theorem dL_law_1419 : decode cL_law 1419 = .ok (.iconst 1, 1) := by decide +kernel
set_option maxRecDepth 20000 in
theorem dL_law_1420 : decode cL_law 1420 = .ok (.iadd, 1) := by decide +kernel
set_option maxRecDepth 20000 in
theorem dL_law_1421 : decode cL_law 1421 = .ok (.iaload, 1) := by decide +kernel
set_option maxRecDepth 20000 in
theorem dL_law_1422 : decode cL_law 1422 = .ok (.aload_n 3, 1) := by decide +kernel
set_option maxRecDepth 20000 in
theorem dL_law_1423 : decode cL_law 1423 = .ok (.invokestatic 236, 3) := by decide +kernel
set_option maxRecDepth 20000 in
theorem dL_law_1426 : decode cL_law 1426 = .ok (.istore 6, 2) := by decide +kernel
set_option maxRecDepth 20000 in
theorem dL_law_1428 : decode cL_law 1428 = .ok (.aload_n 2, 1) := by decide +kernel
set_option maxRecDepth 20000 in
theorem dL_law_1429 : decode cL_law 1429 = .ok (.aload_n 0, 1) := by decide +kernel
set_option maxRecDepth 20000 in
theorem dL_law_1430 : decode cL_law 1430 = .ok (.iload 5, 2) := by decide +kernel
set_option maxRecDepth 20000 in
theorem dL_law_1432 : decode cL_law 1432 = .ok (.iconst 1, 1) := by decide +kernel
set_option maxRecDepth 20000 in
theorem dL_law_1433 : decode cL_law 1433 = .ok (.iadd, 1) := by decide +kernel
set_option maxRecDepth 20000 in
theorem dL_law_1434 : decode cL_law 1434 = .ok (.iaload, 1) := by decide +kernel
set_option maxRecDepth 20000 in
theorem dL_law_1435 : decode cL_law 1435 = .ok (.invokevirtual 238, 3) := by decide +kernel
set_option maxRecDepth 20000 in
theorem dL_law_1438 : decode cL_law 1438 = .ok (.istore 7, 2) := by decide +kernel
set_option maxRecDepth 20000 in
theorem dL_law_1440 : decode cL_law 1440 = .ok (.aload_n 2, 1) := by decide +kernel
set_option maxRecDepth 20000 in
theorem dL_law_1441 : decode cL_law 1441 = .ok (.invokevirtual 156, 3) := by decide +kernel
set_option maxRecDepth 20000 in
theorem dL_law_1444 : decode cL_law 1444 = .ok (.iload 6, 2) := by decide +kernel
set_option maxRecDepth 20000 in
theorem dL_law_1446 : decode cL_law 1446 = .ok (.if_icmp .eq 5, 3) := by decide +kernel
set_option maxRecDepth 20000 in
theorem dL_law_1449 : decode cL_law 1449 = .ok (.iconst 0, 1) := by decide +kernel
set_option maxRecDepth 20000 in
theorem dL_law_1450 : decode cL_law 1450 = .ok (.ireturn, 1) := by decide +kernel
set_option maxRecDepth 20000 in
theorem dL_law_1451 : decode cL_law 1451 = .ok (.iload 6, 2) := by decide +kernel
set_option maxRecDepth 20000 in
theorem dL_law_1453 : decode cL_law 1453 = .ok (.ifCond .ne 15, 3) := by decide +kernel
set_option maxRecDepth 20000 in
theorem dL_law_1456 : decode cL_law 1456 = .ok (.aload_n 3, 1) := by decide +kernel
set_option maxRecDepth 20000 in
theorem dL_law_1457 : decode cL_law 1457 = .ok (.iconst 0, 1) := by decide +kernel
set_option maxRecDepth 20000 in
theorem dL_law_1458 : decode cL_law 1458 = .ok (.laload, 1) := by decide +kernel
set_option maxRecDepth 20000 in
theorem dL_law_1459 : decode cL_law 1459 = .ok (.iload 7, 2) := by decide +kernel
set_option maxRecDepth 20000 in
theorem dL_law_1461 : decode cL_law 1461 = .ok (.i2l, 1) := by decide +kernel
set_option maxRecDepth 20000 in
theorem dL_law_1462 : decode cL_law 1462 = .ok (.lcmp, 1) := by decide +kernel
set_option maxRecDepth 20000 in
theorem dL_law_1463 : decode cL_law 1463 = .ok (.ifCond .eq 5, 3) := by decide +kernel
set_option maxRecDepth 20000 in
theorem dL_law_1466 : decode cL_law 1466 = .ok (.iconst 0, 1) := by decide +kernel
set_option maxRecDepth 20000 in
theorem dL_law_1467 : decode cL_law 1467 = .ok (.ireturn, 1) := by decide +kernel
set_option maxRecDepth 20000 in
theorem dL_law_1468 : decode cL_law 1468 = .ok (.goto 1861, 3) := by decide +kernel
set_option maxRecDepth 20000 in
theorem dL_law_1471 : decode cL_law 1471 = .ok (.aload_n 1, 1) := by decide +kernel
set_option maxRecDepth 20000 in
theorem dL_law_1472 : decode cL_law 1472 = .ok (.aload_n 0, 1) := by decide +kernel
set_option maxRecDepth 20000 in
theorem dL_law_1473 : decode cL_law 1473 = .ok (.iload 5, 2) := by decide +kernel
set_option maxRecDepth 20000 in
theorem dL_law_1475 : decode cL_law 1475 = .ok (.iconst 1, 1) := by decide +kernel
set_option maxRecDepth 20000 in
theorem dL_law_1476 : decode cL_law 1476 = .ok (.iadd, 1) := by decide +kernel
set_option maxRecDepth 20000 in
theorem dL_law_1477 : decode cL_law 1477 = .ok (.iaload, 1) := by decide +kernel
set_option maxRecDepth 20000 in
theorem dL_law_1478 : decode cL_law 1478 = .ok (.aload_n 3, 1) := by decide +kernel
set_option maxRecDepth 20000 in
theorem dL_law_1479 : decode cL_law 1479 = .ok (.invokestatic 239, 3) := by decide +kernel
set_option maxRecDepth 20000 in
theorem dL_law_1482 : decode cL_law 1482 = .ok (.istore 6, 2) := by decide +kernel
set_option maxRecDepth 20000 in
theorem dL_law_1484 : decode cL_law 1484 = .ok (.aload_n 2, 1) := by decide +kernel
set_option maxRecDepth 20000 in
theorem dL_law_1485 : decode cL_law 1485 = .ok (.aload_n 0, 1) := by decide +kernel
set_option maxRecDepth 20000 in
theorem dL_law_1486 : decode cL_law 1486 = .ok (.iload 5, 2) := by decide +kernel
set_option maxRecDepth 20000 in
theorem dL_law_1488 : decode cL_law 1488 = .ok (.iconst 1, 1) := by decide +kernel
set_option maxRecDepth 20000 in
theorem dL_law_1489 : decode cL_law 1489 = .ok (.iadd, 1) := by decide +kernel
set_option maxRecDepth 20000 in
theorem dL_law_1490 : decode cL_law 1490 = .ok (.iaload, 1) := by decide +kernel
set_option maxRecDepth 20000 in
theorem dL_law_1491 : decode cL_law 1491 = .ok (.invokevirtual 241, 3) := by decide +kernel
set_option maxRecDepth 20000 in
theorem dL_law_1494 : decode cL_law 1494 = .ok (.istore 7, 2) := by decide +kernel
set_option maxRecDepth 20000 in
theorem dL_law_1496 : decode cL_law 1496 = .ok (.aload_n 2, 1) := by decide +kernel
set_option maxRecDepth 20000 in
theorem dL_law_1497 : decode cL_law 1497 = .ok (.invokevirtual 156, 3) := by decide +kernel
set_option maxRecDepth 20000 in
theorem dL_law_1500 : decode cL_law 1500 = .ok (.iload 6, 2) := by decide +kernel
set_option maxRecDepth 20000 in
theorem dL_law_1502 : decode cL_law 1502 = .ok (.if_icmp .eq 5, 3) := by decide +kernel
set_option maxRecDepth 20000 in
theorem dL_law_1505 : decode cL_law 1505 = .ok (.iconst 0, 1) := by decide +kernel
set_option maxRecDepth 20000 in
theorem dL_law_1506 : decode cL_law 1506 = .ok (.ireturn, 1) := by decide +kernel
set_option maxRecDepth 20000 in
theorem dL_law_1507 : decode cL_law 1507 = .ok (.iload 6, 2) := by decide +kernel
set_option maxRecDepth 20000 in
theorem dL_law_1509 : decode cL_law 1509 = .ok (.ifCond .ne 15, 3) := by decide +kernel
set_option maxRecDepth 20000 in
theorem dL_law_1512 : decode cL_law 1512 = .ok (.aload_n 3, 1) := by decide +kernel
set_option maxRecDepth 20000 in
theorem dL_law_1513 : decode cL_law 1513 = .ok (.iconst 0, 1) := by decide +kernel
set_option maxRecDepth 20000 in
theorem dL_law_1514 : decode cL_law 1514 = .ok (.laload, 1) := by decide +kernel
set_option maxRecDepth 20000 in
theorem dL_law_1515 : decode cL_law 1515 = .ok (.iload 7, 2) := by decide +kernel
set_option maxRecDepth 20000 in
theorem dL_law_1517 : decode cL_law 1517 = .ok (.i2l, 1) := by decide +kernel
set_option maxRecDepth 20000 in
theorem dL_law_1518 : decode cL_law 1518 = .ok (.lcmp, 1) := by decide +kernel
set_option maxRecDepth 20000 in
theorem dL_law_1519 : decode cL_law 1519 = .ok (.ifCond .eq 5, 3) := by decide +kernel
set_option maxRecDepth 20000 in
theorem dL_law_1522 : decode cL_law 1522 = .ok (.iconst 0, 1) := by decide +kernel
set_option maxRecDepth 20000 in
theorem dL_law_1523 : decode cL_law 1523 = .ok (.ireturn, 1) := by decide +kernel
set_option maxRecDepth 20000 in
theorem dL_law_1524 : decode cL_law 1524 = .ok (.goto 1805, 3) := by decide +kernel
set_option maxRecDepth 20000 in
theorem dL_law_1527 : decode cL_law 1527 = .ok (.aload_n 1, 1) := by decide +kernel
set_option maxRecDepth 20000 in
theorem dL_law_1528 : decode cL_law 1528 = .ok (.aload_n 0, 1) := by decide +kernel
set_option maxRecDepth 20000 in
theorem dL_law_1529 : decode cL_law 1529 = .ok (.iload 5, 2) := by decide +kernel
set_option maxRecDepth 20000 in
theorem dL_law_1531 : decode cL_law 1531 = .ok (.iconst 1, 1) := by decide +kernel
set_option maxRecDepth 20000 in
theorem dL_law_1532 : decode cL_law 1532 = .ok (.iadd, 1) := by decide +kernel
set_option maxRecDepth 20000 in
theorem dL_law_1533 : decode cL_law 1533 = .ok (.iaload, 1) := by decide +kernel
set_option maxRecDepth 20000 in
theorem dL_law_1534 : decode cL_law 1534 = .ok (.aload_n 0, 1) := by decide +kernel
set_option maxRecDepth 20000 in
theorem dL_law_1535 : decode cL_law 1535 = .ok (.iload 5, 2) := by decide +kernel
set_option maxRecDepth 20000 in
theorem dL_law_1537 : decode cL_law 1537 = .ok (.iconst 2, 1) := by decide +kernel
set_option maxRecDepth 20000 in
theorem dL_law_1538 : decode cL_law 1538 = .ok (.iadd, 1) := by decide +kernel
set_option maxRecDepth 20000 in
theorem dL_law_1539 : decode cL_law 1539 = .ok (.iaload, 1) := by decide +kernel
set_option maxRecDepth 20000 in
theorem dL_law_1540 : decode cL_law 1540 = .ok (.aload_n 3, 1) := by decide +kernel
set_option maxRecDepth 20000 in
theorem dL_law_1541 : decode cL_law 1541 = .ok (.invokestatic 242, 3) := by decide +kernel
set_option maxRecDepth 20000 in
theorem dL_law_1544 : decode cL_law 1544 = .ok (.istore 6, 2) := by decide +kernel
set_option maxRecDepth 20000 in
theorem dL_law_1546 : decode cL_law 1546 = .ok (.aload_n 2, 1) := by decide +kernel
set_option maxRecDepth 20000 in
theorem dL_law_1547 : decode cL_law 1547 = .ok (.aload_n 0, 1) := by decide +kernel
set_option maxRecDepth 20000 in
theorem dL_law_1548 : decode cL_law 1548 = .ok (.iload 5, 2) := by decide +kernel
set_option maxRecDepth 20000 in
theorem dL_law_1550 : decode cL_law 1550 = .ok (.iconst 1, 1) := by decide +kernel
set_option maxRecDepth 20000 in
theorem dL_law_1551 : decode cL_law 1551 = .ok (.iadd, 1) := by decide +kernel
set_option maxRecDepth 20000 in
theorem dL_law_1552 : decode cL_law 1552 = .ok (.iaload, 1) := by decide +kernel
set_option maxRecDepth 20000 in
theorem dL_law_1553 : decode cL_law 1553 = .ok (.aload_n 0, 1) := by decide +kernel
set_option maxRecDepth 20000 in
theorem dL_law_1554 : decode cL_law 1554 = .ok (.iload 5, 2) := by decide +kernel
set_option maxRecDepth 20000 in
theorem dL_law_1556 : decode cL_law 1556 = .ok (.iconst 2, 1) := by decide +kernel
set_option maxRecDepth 20000 in
theorem dL_law_1557 : decode cL_law 1557 = .ok (.iadd, 1) := by decide +kernel
set_option maxRecDepth 20000 in
theorem dL_law_1558 : decode cL_law 1558 = .ok (.iaload, 1) := by decide +kernel
set_option maxRecDepth 20000 in
theorem dL_law_1559 : decode cL_law 1559 = .ok (.invokevirtual 244, 3) := by decide +kernel
set_option maxRecDepth 20000 in
theorem dL_law_1562 : decode cL_law 1562 = .ok (.istore 7, 2) := by decide +kernel
set_option maxRecDepth 20000 in
theorem dL_law_1564 : decode cL_law 1564 = .ok (.aload_n 2, 1) := by decide +kernel
set_option maxRecDepth 20000 in
theorem dL_law_1565 : decode cL_law 1565 = .ok (.invokevirtual 156, 3) := by decide +kernel
set_option maxRecDepth 20000 in
theorem dL_law_1568 : decode cL_law 1568 = .ok (.iload 6, 2) := by decide +kernel
set_option maxRecDepth 20000 in
theorem dL_law_1570 : decode cL_law 1570 = .ok (.if_icmp .eq 5, 3) := by decide +kernel
set_option maxRecDepth 20000 in
theorem dL_law_1573 : decode cL_law 1573 = .ok (.iconst 0, 1) := by decide +kernel
set_option maxRecDepth 20000 in
theorem dL_law_1574 : decode cL_law 1574 = .ok (.ireturn, 1) := by decide +kernel
set_option maxRecDepth 20000 in
theorem dL_law_1575 : decode cL_law 1575 = .ok (.iload 6, 2) := by decide +kernel
set_option maxRecDepth 20000 in
theorem dL_law_1577 : decode cL_law 1577 = .ok (.ifCond .ne 15, 3) := by decide +kernel
set_option maxRecDepth 20000 in
theorem dL_law_1580 : decode cL_law 1580 = .ok (.aload_n 3, 1) := by decide +kernel
set_option maxRecDepth 20000 in
theorem dL_law_1581 : decode cL_law 1581 = .ok (.iconst 0, 1) := by decide +kernel
set_option maxRecDepth 20000 in
theorem dL_law_1582 : decode cL_law 1582 = .ok (.laload, 1) := by decide +kernel
set_option maxRecDepth 20000 in
theorem dL_law_1583 : decode cL_law 1583 = .ok (.iload 7, 2) := by decide +kernel
set_option maxRecDepth 20000 in
theorem dL_law_1585 : decode cL_law 1585 = .ok (.i2l, 1) := by decide +kernel
set_option maxRecDepth 20000 in
theorem dL_law_1586 : decode cL_law 1586 = .ok (.lcmp, 1) := by decide +kernel
set_option maxRecDepth 20000 in
theorem dL_law_1587 : decode cL_law 1587 = .ok (.ifCond .eq 5, 3) := by decide +kernel
set_option maxRecDepth 20000 in
theorem dL_law_1590 : decode cL_law 1590 = .ok (.iconst 0, 1) := by decide +kernel
set_option maxRecDepth 20000 in
theorem dL_law_1591 : decode cL_law 1591 = .ok (.ireturn, 1) := by decide +kernel
set_option maxRecDepth 20000 in
theorem dL_law_1592 : decode cL_law 1592 = .ok (.goto 1737, 3) := by decide +kernel
set_option maxRecDepth 20000 in
theorem dL_law_1595 : decode cL_law 1595 = .ok (.aload_n 1, 1) := by decide +kernel
set_option maxRecDepth 20000 in
theorem dL_law_1596 : decode cL_law 1596 = .ok (.aload_n 0, 1) := by decide +kernel
set_option maxRecDepth 20000 in
theorem dL_law_1597 : decode cL_law 1597 = .ok (.iload 5, 2) := by decide +kernel
set_option maxRecDepth 20000 in
theorem dL_law_1599 : decode cL_law 1599 = .ok (.iconst 1, 1) := by decide +kernel
set_option maxRecDepth 20000 in
theorem dL_law_1600 : decode cL_law 1600 = .ok (.iadd, 1) := by decide +kernel
set_option maxRecDepth 20000 in
theorem dL_law_1601 : decode cL_law 1601 = .ok (.iaload, 1) := by decide +kernel
set_option maxRecDepth 20000 in
theorem dL_law_1602 : decode cL_law 1602 = .ok (.aload_n 0, 1) := by decide +kernel
set_option maxRecDepth 20000 in
theorem dL_law_1603 : decode cL_law 1603 = .ok (.iload 5, 2) := by decide +kernel
set_option maxRecDepth 20000 in
theorem dL_law_1605 : decode cL_law 1605 = .ok (.iconst 2, 1) := by decide +kernel
set_option maxRecDepth 20000 in
theorem dL_law_1606 : decode cL_law 1606 = .ok (.iadd, 1) := by decide +kernel
set_option maxRecDepth 20000 in
theorem dL_law_1607 : decode cL_law 1607 = .ok (.iaload, 1) := by decide +kernel
set_option maxRecDepth 20000 in
theorem dL_law_1608 : decode cL_law 1608 = .ok (.aload_n 0, 1) := by decide +kernel
set_option maxRecDepth 20000 in
theorem dL_law_1609 : decode cL_law 1609 = .ok (.iload 5, 2) := by decide +kernel
set_option maxRecDepth 20000 in
theorem dL_law_1611 : decode cL_law 1611 = .ok (.iconst 3, 1) := by decide +kernel
set_option maxRecDepth 20000 in
theorem dL_law_1612 : decode cL_law 1612 = .ok (.iadd, 1) := by decide +kernel
set_option maxRecDepth 20000 in
theorem dL_law_1613 : decode cL_law 1613 = .ok (.iaload, 1) := by decide +kernel
set_option maxRecDepth 20000 in
theorem dL_law_1614 : decode cL_law 1614 = .ok (.aload_n 3, 1) := by decide +kernel
set_option maxRecDepth 20000 in
theorem dL_law_1615 : decode cL_law 1615 = .ok (.invokestatic 245, 3) := by decide +kernel
set_option maxRecDepth 20000 in
theorem dL_law_1618 : decode cL_law 1618 = .ok (.istore 6, 2) := by decide +kernel
set_option maxRecDepth 20000 in
theorem dL_law_1620 : decode cL_law 1620 = .ok (.aload_n 2, 1) := by decide +kernel
set_option maxRecDepth 20000 in
theorem dL_law_1621 : decode cL_law 1621 = .ok (.aload_n 0, 1) := by decide +kernel
set_option maxRecDepth 20000 in
theorem dL_law_1622 : decode cL_law 1622 = .ok (.iload 5, 2) := by decide +kernel
set_option maxRecDepth 20000 in
theorem dL_law_1624 : decode cL_law 1624 = .ok (.iconst 1, 1) := by decide +kernel
set_option maxRecDepth 20000 in
theorem dL_law_1625 : decode cL_law 1625 = .ok (.iadd, 1) := by decide +kernel
set_option maxRecDepth 20000 in
theorem dL_law_1626 : decode cL_law 1626 = .ok (.iaload, 1) := by decide +kernel
set_option maxRecDepth 20000 in
theorem dL_law_1627 : decode cL_law 1627 = .ok (.aload_n 0, 1) := by decide +kernel
set_option maxRecDepth 20000 in
theorem dL_law_1628 : decode cL_law 1628 = .ok (.iload 5, 2) := by decide +kernel
set_option maxRecDepth 20000 in
theorem dL_law_1630 : decode cL_law 1630 = .ok (.iconst 2, 1) := by decide +kernel
set_option maxRecDepth 20000 in
theorem dL_law_1631 : decode cL_law 1631 = .ok (.iadd, 1) := by decide +kernel
set_option maxRecDepth 20000 in
theorem dL_law_1632 : decode cL_law 1632 = .ok (.iaload, 1) := by decide +kernel
set_option maxRecDepth 20000 in
theorem dL_law_1633 : decode cL_law 1633 = .ok (.aload_n 0, 1) := by decide +kernel
set_option maxRecDepth 20000 in
theorem dL_law_1634 : decode cL_law 1634 = .ok (.iload 5, 2) := by decide +kernel
set_option maxRecDepth 20000 in
theorem dL_law_1636 : decode cL_law 1636 = .ok (.iconst 3, 1) := by decide +kernel
set_option maxRecDepth 20000 in
theorem dL_law_1637 : decode cL_law 1637 = .ok (.iadd, 1) := by decide +kernel
set_option maxRecDepth 20000 in
theorem dL_law_1638 : decode cL_law 1638 = .ok (.iaload, 1) := by decide +kernel
set_option maxRecDepth 20000 in
theorem dL_law_1639 : decode cL_law 1639 = .ok (.invokevirtual 247, 3) := by decide +kernel
set_option maxRecDepth 20000 in
theorem dL_law_1642 : decode cL_law 1642 = .ok (.istore 7, 2) := by decide +kernel
set_option maxRecDepth 20000 in
theorem dL_law_1644 : decode cL_law 1644 = .ok (.aload_n 2, 1) := by decide +kernel
set_option maxRecDepth 20000 in
theorem dL_law_1645 : decode cL_law 1645 = .ok (.invokevirtual 156, 3) := by decide +kernel
set_option maxRecDepth 20000 in
theorem dL_law_1648 : decode cL_law 1648 = .ok (.iload 6, 2) := by decide +kernel
set_option maxRecDepth 20000 in
theorem dL_law_1650 : decode cL_law 1650 = .ok (.if_icmp .eq 5, 3) := by decide +kernel
set_option maxRecDepth 20000 in
theorem dL_law_1653 : decode cL_law 1653 = .ok (.iconst 0, 1) := by decide +kernel
set_option maxRecDepth 20000 in
theorem dL_law_1654 : decode cL_law 1654 = .ok (.ireturn, 1) := by decide +kernel
set_option maxRecDepth 20000 in
theorem dL_law_1655 : decode cL_law 1655 = .ok (.iload 6, 2) := by decide +kernel
set_option maxRecDepth 20000 in
theorem dL_law_1657 : decode cL_law 1657 = .ok (.ifCond .ne 15, 3) := by decide +kernel
set_option maxRecDepth 20000 in
theorem dL_law_1660 : decode cL_law 1660 = .ok (.aload_n 3, 1) := by decide +kernel
set_option maxRecDepth 20000 in
theorem dL_law_1661 : decode cL_law 1661 = .ok (.iconst 0, 1) := by decide +kernel
set_option maxRecDepth 20000 in
theorem dL_law_1662 : decode cL_law 1662 = .ok (.laload, 1) := by decide +kernel
set_option maxRecDepth 20000 in
theorem dL_law_1663 : decode cL_law 1663 = .ok (.iload 7, 2) := by decide +kernel
set_option maxRecDepth 20000 in
theorem dL_law_1665 : decode cL_law 1665 = .ok (.i2l, 1) := by decide +kernel
set_option maxRecDepth 20000 in
theorem dL_law_1666 : decode cL_law 1666 = .ok (.lcmp, 1) := by decide +kernel
set_option maxRecDepth 20000 in
theorem dL_law_1667 : decode cL_law 1667 = .ok (.ifCond .eq 5, 3) := by decide +kernel
set_option maxRecDepth 20000 in
theorem dL_law_1670 : decode cL_law 1670 = .ok (.iconst 0, 1) := by decide +kernel
set_option maxRecDepth 20000 in
theorem dL_law_1671 : decode cL_law 1671 = .ok (.ireturn, 1) := by decide +kernel
set_option maxRecDepth 20000 in
theorem dL_law_1672 : decode cL_law 1672 = .ok (.goto 1657, 3) := by decide +kernel
set_option maxRecDepth 20000 in
theorem dL_law_1675 : decode cL_law 1675 = .ok (.aload_n 1, 1) := by decide +kernel
set_option maxRecDepth 20000 in
theorem dL_law_1676 : decode cL_law 1676 = .ok (.aload_n 0, 1) := by decide +kernel
set_option maxRecDepth 20000 in
theorem dL_law_1677 : decode cL_law 1677 = .ok (.iload 5, 2) := by decide +kernel
set_option maxRecDepth 20000 in
theorem dL_law_1679 : decode cL_law 1679 = .ok (.iconst 1, 1) := by decide +kernel
set_option maxRecDepth 20000 in
theorem dL_law_1680 : decode cL_law 1680 = .ok (.iadd, 1) := by decide +kernel
set_option maxRecDepth 20000 in
theorem dL_law_1681 : decode cL_law 1681 = .ok (.iaload, 1) := by decide +kernel
set_option maxRecDepth 20000 in
theorem dL_law_1682 : decode cL_law 1682 = .ok (.aload_n 3, 1) := by decide +kernel
set_option maxRecDepth 20000 in
theorem dL_law_1683 : decode cL_law 1683 = .ok (.invokestatic 248, 3) := by decide +kernel
set_option maxRecDepth 20000 in
theorem dL_law_1686 : decode cL_law 1686 = .ok (.istore 6, 2) := by decide +kernel
set_option maxRecDepth 20000 in
theorem dL_law_1688 : decode cL_law 1688 = .ok (.aload_n 2, 1) := by decide +kernel
set_option maxRecDepth 20000 in
theorem dL_law_1689 : decode cL_law 1689 = .ok (.aload_n 0, 1) := by decide +kernel
set_option maxRecDepth 20000 in
theorem dL_law_1690 : decode cL_law 1690 = .ok (.iload 5, 2) := by decide +kernel
set_option maxRecDepth 20000 in
theorem dL_law_1692 : decode cL_law 1692 = .ok (.iconst 1, 1) := by decide +kernel
set_option maxRecDepth 20000 in
theorem dL_law_1693 : decode cL_law 1693 = .ok (.iadd, 1) := by decide +kernel
set_option maxRecDepth 20000 in
theorem dL_law_1694 : decode cL_law 1694 = .ok (.iaload, 1) := by decide +kernel
set_option maxRecDepth 20000 in
theorem dL_law_1695 : decode cL_law 1695 = .ok (.invokevirtual 250, 3) := by decide +kernel
set_option maxRecDepth 20000 in
theorem dL_law_1698 : decode cL_law 1698 = .ok (.istore 7, 2) := by decide +kernel
set_option maxRecDepth 20000 in
theorem dL_law_1700 : decode cL_law 1700 = .ok (.aload_n 2, 1) := by decide +kernel
set_option maxRecDepth 20000 in
theorem dL_law_1701 : decode cL_law 1701 = .ok (.invokevirtual 156, 3) := by decide +kernel
set_option maxRecDepth 20000 in
theorem dL_law_1704 : decode cL_law 1704 = .ok (.iload 6, 2) := by decide +kernel
set_option maxRecDepth 20000 in
theorem dL_law_1706 : decode cL_law 1706 = .ok (.if_icmp .eq 5, 3) := by decide +kernel
set_option maxRecDepth 20000 in
theorem dL_law_1709 : decode cL_law 1709 = .ok (.iconst 0, 1) := by decide +kernel
set_option maxRecDepth 20000 in
theorem dL_law_1710 : decode cL_law 1710 = .ok (.ireturn, 1) := by decide +kernel
set_option maxRecDepth 20000 in
theorem dL_law_1711 : decode cL_law 1711 = .ok (.iload 6, 2) := by decide +kernel
set_option maxRecDepth 20000 in
theorem dL_law_1713 : decode cL_law 1713 = .ok (.ifCond .ne 15, 3) := by decide +kernel
set_option maxRecDepth 20000 in
theorem dL_law_1716 : decode cL_law 1716 = .ok (.aload_n 3, 1) := by decide +kernel
set_option maxRecDepth 20000 in
theorem dL_law_1717 : decode cL_law 1717 = .ok (.iconst 0, 1) := by decide +kernel
set_option maxRecDepth 20000 in
theorem dL_law_1718 : decode cL_law 1718 = .ok (.laload, 1) := by decide +kernel
set_option maxRecDepth 20000 in
theorem dL_law_1719 : decode cL_law 1719 = .ok (.iload 7, 2) := by decide +kernel
set_option maxRecDepth 20000 in
theorem dL_law_1721 : decode cL_law 1721 = .ok (.i2l, 1) := by decide +kernel
set_option maxRecDepth 20000 in
theorem dL_law_1722 : decode cL_law 1722 = .ok (.lcmp, 1) := by decide +kernel
set_option maxRecDepth 20000 in
theorem dL_law_1723 : decode cL_law 1723 = .ok (.ifCond .eq 5, 3) := by decide +kernel
set_option maxRecDepth 20000 in
theorem dL_law_1726 : decode cL_law 1726 = .ok (.iconst 0, 1) := by decide +kernel
set_option maxRecDepth 20000 in
theorem dL_law_1727 : decode cL_law 1727 = .ok (.ireturn, 1) := by decide +kernel
set_option maxRecDepth 20000 in
theorem dL_law_1728 : decode cL_law 1728 = .ok (.goto 1601, 3) := by decide +kernel
set_option maxRecDepth 20000 in
theorem dL_law_1731 : decode cL_law 1731 = .ok (.aload_n 1, 1) := by decide +kernel
set_option maxRecDepth 20000 in
theorem dL_law_1732 : decode cL_law 1732 = .ok (.aload_n 0, 1) := by decide +kernel
set_option maxRecDepth 20000 in
theorem dL_law_1733 : decode cL_law 1733 = .ok (.iload 5, 2) := by decide +kernel
set_option maxRecDepth 20000 in
theorem dL_law_1735 : decode cL_law 1735 = .ok (.iconst 1, 1) := by decide +kernel
set_option maxRecDepth 20000 in
theorem dL_law_1736 : decode cL_law 1736 = .ok (.iadd, 1) := by decide +kernel
set_option maxRecDepth 20000 in
theorem dL_law_1737 : decode cL_law 1737 = .ok (.iaload, 1) := by decide +kernel
set_option maxRecDepth 20000 in
theorem dL_law_1738 : decode cL_law 1738 = .ok (.aload_n 3, 1) := by decide +kernel
set_option maxRecDepth 20000 in
theorem dL_law_1739 : decode cL_law 1739 = .ok (.invokestatic 251, 3) := by decide +kernel
set_option maxRecDepth 20000 in
theorem dL_law_1742 : decode cL_law 1742 = .ok (.istore 6, 2) := by decide +kernel
set_option maxRecDepth 20000 in
theorem dL_law_1744 : decode cL_law 1744 = .ok (.aload_n 2, 1) := by decide +kernel
set_option maxRecDepth 20000 in
theorem dL_law_1745 : decode cL_law 1745 = .ok (.aload_n 0, 1) := by decide +kernel
set_option maxRecDepth 20000 in
theorem dL_law_1746 : decode cL_law 1746 = .ok (.iload 5, 2) := by decide +kernel
set_option maxRecDepth 20000 in
theorem dL_law_1748 : decode cL_law 1748 = .ok (.iconst 1, 1) := by decide +kernel
set_option maxRecDepth 20000 in
theorem dL_law_1749 : decode cL_law 1749 = .ok (.iadd, 1) := by decide +kernel
set_option maxRecDepth 20000 in
theorem dL_law_1750 : decode cL_law 1750 = .ok (.iaload, 1) := by decide +kernel
set_option maxRecDepth 20000 in
theorem dL_law_1751 : decode cL_law 1751 = .ok (.invokevirtual 253, 3) := by decide +kernel
set_option maxRecDepth 20000 in
theorem dL_law_1754 : decode cL_law 1754 = .ok (.istore 7, 2) := by decide +kernel
set_option maxRecDepth 20000 in
theorem dL_law_1756 : decode cL_law 1756 = .ok (.aload_n 2, 1) := by decide +kernel
set_option maxRecDepth 20000 in
theorem dL_law_1757 : decode cL_law 1757 = .ok (.invokevirtual 156, 3) := by decide +kernel
set_option maxRecDepth 20000 in
theorem dL_law_1760 : decode cL_law 1760 = .ok (.iload 6, 2) := by decide +kernel
set_option maxRecDepth 20000 in
theorem dL_law_1762 : decode cL_law 1762 = .ok (.if_icmp .eq 5, 3) := by decide +kernel
set_option maxRecDepth 20000 in
theorem dL_law_1765 : decode cL_law 1765 = .ok (.iconst 0, 1) := by decide +kernel
set_option maxRecDepth 20000 in
theorem dL_law_1766 : decode cL_law 1766 = .ok (.ireturn, 1) := by decide +kernel
set_option maxRecDepth 20000 in
theorem dL_law_1767 : decode cL_law 1767 = .ok (.iload 6, 2) := by decide +kernel
set_option maxRecDepth 20000 in
theorem dL_law_1769 : decode cL_law 1769 = .ok (.ifCond .ne 15, 3) := by decide +kernel
set_option maxRecDepth 20000 in
theorem dL_law_1772 : decode cL_law 1772 = .ok (.aload_n 3, 1) := by decide +kernel
set_option maxRecDepth 20000 in
theorem dL_law_1773 : decode cL_law 1773 = .ok (.iconst 0, 1) := by decide +kernel
set_option maxRecDepth 20000 in
theorem dL_law_1774 : decode cL_law 1774 = .ok (.laload, 1) := by decide +kernel
set_option maxRecDepth 20000 in
theorem dL_law_1775 : decode cL_law 1775 = .ok (.iload 7, 2) := by decide +kernel
set_option maxRecDepth 20000 in
theorem dL_law_1777 : decode cL_law 1777 = .ok (.i2l, 1) := by decide +kernel
set_option maxRecDepth 20000 in
theorem dL_law_1778 : decode cL_law 1778 = .ok (.lcmp, 1) := by decide +kernel
set_option maxRecDepth 20000 in
theorem dL_law_1779 : decode cL_law 1779 = .ok (.ifCond .eq 5, 3) := by decide +kernel
set_option maxRecDepth 20000 in
theorem dL_law_1782 : decode cL_law 1782 = .ok (.iconst 0, 1) := by decide +kernel
set_option maxRecDepth 20000 in
theorem dL_law_1783 : decode cL_law 1783 = .ok (.ireturn, 1) := by decide +kernel
set_option maxRecDepth 20000 in
theorem dL_law_1784 : decode cL_law 1784 = .ok (.goto 1545, 3) := by decide +kernel
set_option maxRecDepth 20000 in
theorem dL_law_1787 : decode cL_law 1787 = .ok (.aload_n 1, 1) := by decide +kernel
set_option maxRecDepth 20000 in
theorem dL_law_1788 : decode cL_law 1788 = .ok (.aload_n 0, 1) := by decide +kernel
set_option maxRecDepth 20000 in
theorem dL_law_1789 : decode cL_law 1789 = .ok (.iload 5, 2) := by decide +kernel
