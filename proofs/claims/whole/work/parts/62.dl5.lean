/-! decode rows of the law -/
theorem d_L_law_1441 : decode code 1441 = .ok (.aload_n 0, 1) := by decide +kernel
theorem d_L_law_1442 : decode code 1442 = .ok (.iload 4, 2) := by decide +kernel
theorem d_L_law_1444 : decode code 1444 = .ok (.iconst 2, 1) := by decide +kernel
theorem d_L_law_1445 : decode code 1445 = .ok (.iadd, 1) := by decide +kernel
theorem d_L_law_1446 : decode code 1446 = .ok (.iaload, 1) := by decide +kernel
theorem d_L_law_1447 : decode code 1447 = .ok (.aload_n 0, 1) := by decide +kernel
theorem d_L_law_1448 : decode code 1448 = .ok (.iload 4, 2) := by decide +kernel
theorem d_L_law_1450 : decode code 1450 = .ok (.iconst 3, 1) := by decide +kernel
theorem d_L_law_1451 : decode code 1451 = .ok (.iadd, 1) := by decide +kernel
theorem d_L_law_1452 : decode code 1452 = .ok (.iaload, 1) := by decide +kernel
theorem d_L_law_1453 : decode code 1453 = .ok (.invokevirtual 168, 3) := by decide +kernel
theorem d_L_law_1456 : decode code 1456 = .ok (.istore 6, 2) := by decide +kernel
theorem d_L_law_1458 : decode code 1458 = .ok (.aload_n 2, 1) := by decide +kernel
theorem d_L_law_1459 : decode code 1459 = .ok (.invokevirtual 109, 3) := by decide +kernel
theorem d_L_law_1462 : decode code 1462 = .ok (.iload 5, 2) := by decide +kernel
theorem d_L_law_1464 : decode code 1464 = .ok (.if_icmp .eq 5, 3) := by decide +kernel
theorem d_L_law_1467 : decode code 1467 = .ok (.iconst 0, 1) := by decide +kernel
theorem d_L_law_1468 : decode code 1468 = .ok (.ireturn, 1) := by decide +kernel
theorem d_L_law_1469 : decode code 1469 = .ok (.iload 5, 2) := by decide +kernel
theorem d_L_law_1471 : decode code 1471 = .ok (.ifCond .ne 15, 3) := by decide +kernel
theorem d_L_law_1474 : decode code 1474 = .ok (.aload_n 3, 1) := by decide +kernel
theorem d_L_law_1475 : decode code 1475 = .ok (.iconst 0, 1) := by decide +kernel
theorem d_L_law_1476 : decode code 1476 = .ok (.laload, 1) := by decide +kernel
theorem d_L_law_1477 : decode code 1477 = .ok (.iload 6, 2) := by decide +kernel
theorem d_L_law_1479 : decode code 1479 = .ok (.i2l, 1) := by decide +kernel
theorem d_L_law_1480 : decode code 1480 = .ok (.lcmp, 1) := by decide +kernel
theorem d_L_law_1481 : decode code 1481 = .ok (.ifCond .eq 5, 3) := by decide +kernel
theorem d_L_law_1484 : decode code 1484 = .ok (.iconst 0, 1) := by decide +kernel
theorem d_L_law_1485 : decode code 1485 = .ok (.ireturn, 1) := by decide +kernel
theorem d_L_law_1486 : decode code 1486 = .ok (.goto 214, 3) := by decide +kernel
theorem d_L_law_1489 : decode code 1489 = .ok (.aload_n 1, 1) := by decide +kernel
theorem d_L_law_1490 : decode code 1490 = .ok (.aload_n 0, 1) := by decide +kernel
theorem d_L_law_1491 : decode code 1491 = .ok (.iload 4, 2) := by decide +kernel
theorem d_L_law_1493 : decode code 1493 = .ok (.iconst 1, 1) := by decide +kernel
theorem d_L_law_1494 : decode code 1494 = .ok (.iadd, 1) := by decide +kernel
theorem d_L_law_1495 : decode code 1495 = .ok (.iaload, 1) := by decide +kernel
theorem d_L_law_1496 : decode code 1496 = .ok (.aload_n 0, 1) := by decide +kernel
theorem d_L_law_1497 : decode code 1497 = .ok (.iload 4, 2) := by decide +kernel
theorem d_L_law_1499 : decode code 1499 = .ok (.iconst 2, 1) := by decide +kernel
theorem d_L_law_1500 : decode code 1500 = .ok (.iadd, 1) := by decide +kernel
theorem d_L_law_1501 : decode code 1501 = .ok (.iaload, 1) := by decide +kernel
theorem d_L_law_1502 : decode code 1502 = .ok (.aload_n 3, 1) := by decide +kernel
theorem d_L_law_1503 : decode code 1503 = .ok (.invokestatic 169, 3) := by decide +kernel
theorem d_L_law_1506 : decode code 1506 = .ok (.istore 5, 2) := by decide +kernel
theorem d_L_law_1508 : decode code 1508 = .ok (.aload_n 2, 1) := by decide +kernel
theorem d_L_law_1509 : decode code 1509 = .ok (.aload_n 0, 1) := by decide +kernel
theorem d_L_law_1510 : decode code 1510 = .ok (.iload 4, 2) := by decide +kernel
theorem d_L_law_1512 : decode code 1512 = .ok (.iconst 1, 1) := by decide +kernel
theorem d_L_law_1513 : decode code 1513 = .ok (.iadd, 1) := by decide +kernel
theorem d_L_law_1514 : decode code 1514 = .ok (.iaload, 1) := by decide +kernel
theorem d_L_law_1515 : decode code 1515 = .ok (.aload_n 0, 1) := by decide +kernel
theorem d_L_law_1516 : decode code 1516 = .ok (.iload 4, 2) := by decide +kernel
theorem d_L_law_1518 : decode code 1518 = .ok (.iconst 2, 1) := by decide +kernel
theorem d_L_law_1519 : decode code 1519 = .ok (.iadd, 1) := by decide +kernel
theorem d_L_law_1520 : decode code 1520 = .ok (.iaload, 1) := by decide +kernel
theorem d_L_law_1521 : decode code 1521 = .ok (.invokevirtual 171, 3) := by decide +kernel
theorem d_L_law_1524 : decode code 1524 = .ok (.istore 6, 2) := by decide +kernel
theorem d_L_law_1526 : decode code 1526 = .ok (.aload_n 2, 1) := by decide +kernel
theorem d_L_law_1527 : decode code 1527 = .ok (.invokevirtual 109, 3) := by decide +kernel
theorem d_L_law_1530 : decode code 1530 = .ok (.iload 5, 2) := by decide +kernel
theorem d_L_law_1532 : decode code 1532 = .ok (.if_icmp .eq 5, 3) := by decide +kernel
theorem d_L_law_1535 : decode code 1535 = .ok (.iconst 0, 1) := by decide +kernel
theorem d_L_law_1536 : decode code 1536 = .ok (.ireturn, 1) := by decide +kernel
theorem d_L_law_1537 : decode code 1537 = .ok (.iload 5, 2) := by decide +kernel
theorem d_L_law_1539 : decode code 1539 = .ok (.ifCond .ne 22, 3) := by decide +kernel
theorem d_L_law_1542 : decode code 1542 = .ok (.aload_n 3, 1) := by decide +kernel
theorem d_L_law_1543 : decode code 1543 = .ok (.iconst 0, 1) := by decide +kernel
theorem d_L_law_1544 : decode code 1544 = .ok (.laload, 1) := by decide +kernel
theorem d_L_law_1545 : decode code 1545 = .ok (.iload 6, 2) := by decide +kernel
theorem d_L_law_1547 : decode code 1547 = .ok (.ifCond .eq 7, 3) := by decide +kernel
theorem d_L_law_1550 : decode code 1550 = .ok (.lconst 1, 1) := by decide +kernel
theorem d_L_law_1551 : decode code 1551 = .ok (.goto 4, 3) := by decide +kernel
theorem d_L_law_1554 : decode code 1554 = .ok (.lconst 0, 1) := by decide +kernel
theorem d_L_law_1555 : decode code 1555 = .ok (.lcmp, 1) := by decide +kernel
theorem d_L_law_1556 : decode code 1556 = .ok (.ifCond .eq 5, 3) := by decide +kernel
theorem d_L_law_1559 : decode code 1559 = .ok (.iconst 0, 1) := by decide +kernel
theorem d_L_law_1560 : decode code 1560 = .ok (.ireturn, 1) := by decide +kernel
theorem d_L_law_1561 : decode code 1561 = .ok (.goto 139, 3) := by decide +kernel
theorem d_L_law_1564 : decode code 1564 = .ok (.aload_n 1, 1) := by decide +kernel
theorem d_L_law_1565 : decode code 1565 = .ok (.aload_n 0, 1) := by decide +kernel
theorem d_L_law_1566 : decode code 1566 = .ok (.iload 4, 2) := by decide +kernel
theorem d_L_law_1568 : decode code 1568 = .ok (.iconst 1, 1) := by decide +kernel
theorem d_L_law_1569 : decode code 1569 = .ok (.iadd, 1) := by decide +kernel
theorem d_L_law_1570 : decode code 1570 = .ok (.iaload, 1) := by decide +kernel
theorem d_L_law_1571 : decode code 1571 = .ok (.aload_n 0, 1) := by decide +kernel
theorem d_L_law_1572 : decode code 1572 = .ok (.iload 4, 2) := by decide +kernel
theorem d_L_law_1574 : decode code 1574 = .ok (.iconst 2, 1) := by decide +kernel
theorem d_L_law_1575 : decode code 1575 = .ok (.iadd, 1) := by decide +kernel
theorem d_L_law_1576 : decode code 1576 = .ok (.iaload, 1) := by decide +kernel
theorem d_L_law_1577 : decode code 1577 = .ok (.aload_n 3, 1) := by decide +kernel
theorem d_L_law_1578 : decode code 1578 = .ok (.invokestatic 172, 3) := by decide +kernel
theorem d_L_law_1581 : decode code 1581 = .ok (.istore 5, 2) := by decide +kernel
theorem d_L_law_1583 : decode code 1583 = .ok (.aload_n 2, 1) := by decide +kernel
theorem d_L_law_1584 : decode code 1584 = .ok (.aload_n 0, 1) := by decide +kernel
theorem d_L_law_1585 : decode code 1585 = .ok (.iload 4, 2) := by decide +kernel
theorem d_L_law_1587 : decode code 1587 = .ok (.iconst 1, 1) := by decide +kernel
theorem d_L_law_1588 : decode code 1588 = .ok (.iadd, 1) := by decide +kernel
theorem d_L_law_1589 : decode code 1589 = .ok (.iaload, 1) := by decide +kernel
theorem d_L_law_1590 : decode code 1590 = .ok (.aload_n 0, 1) := by decide +kernel
theorem d_L_law_1591 : decode code 1591 = .ok (.iload 4, 2) := by decide +kernel
theorem d_L_law_1593 : decode code 1593 = .ok (.iconst 2, 1) := by decide +kernel
theorem d_L_law_1594 : decode code 1594 = .ok (.iadd, 1) := by decide +kernel
theorem d_L_law_1595 : decode code 1595 = .ok (.iaload, 1) := by decide +kernel
theorem d_L_law_1596 : decode code 1596 = .ok (.invokevirtual 174, 3) := by decide +kernel
theorem d_L_law_1599 : decode code 1599 = .ok (.istore 6, 2) := by decide +kernel
theorem d_L_law_1601 : decode code 1601 = .ok (.aload_n 2, 1) := by decide +kernel
theorem d_L_law_1602 : decode code 1602 = .ok (.invokevirtual 109, 3) := by decide +kernel
theorem d_L_law_1605 : decode code 1605 = .ok (.iload 5, 2) := by decide +kernel
theorem d_L_law_1607 : decode code 1607 = .ok (.if_icmp .eq 5, 3) := by decide +kernel
theorem d_L_law_1610 : decode code 1610 = .ok (.iconst 0, 1) := by decide +kernel
theorem d_L_law_1611 : decode code 1611 = .ok (.ireturn, 1) := by decide +kernel
theorem d_L_law_1612 : decode code 1612 = .ok (.iload 5, 2) := by decide +kernel
theorem d_L_law_1614 : decode code 1614 = .ok (.ifCond .ne 15, 3) := by decide +kernel
theorem d_L_law_1617 : decode code 1617 = .ok (.aload_n 3, 1) := by decide +kernel
theorem d_L_law_1618 : decode code 1618 = .ok (.iconst 0, 1) := by decide +kernel
theorem d_L_law_1619 : decode code 1619 = .ok (.laload, 1) := by decide +kernel
theorem d_L_law_1620 : decode code 1620 = .ok (.iload 6, 2) := by decide +kernel
theorem d_L_law_1622 : decode code 1622 = .ok (.i2l, 1) := by decide +kernel
theorem d_L_law_1623 : decode code 1623 = .ok (.lcmp, 1) := by decide +kernel
theorem d_L_law_1624 : decode code 1624 = .ok (.ifCond .eq 5, 3) := by decide +kernel
theorem d_L_law_1627 : decode code 1627 = .ok (.iconst 0, 1) := by decide +kernel
theorem d_L_law_1628 : decode code 1628 = .ok (.ireturn, 1) := by decide +kernel
theorem d_L_law_1629 : decode code 1629 = .ok (.goto 71, 3) := by decide +kernel
theorem d_L_law_1632 : decode code 1632 = .ok (.aload_n 1, 1) := by decide +kernel
theorem d_L_law_1633 : decode code 1633 = .ok (.aload_n 0, 1) := by decide +kernel
theorem d_L_law_1634 : decode code 1634 = .ok (.iload 4, 2) := by decide +kernel
theorem d_L_law_1636 : decode code 1636 = .ok (.iconst 1, 1) := by decide +kernel
theorem d_L_law_1637 : decode code 1637 = .ok (.iadd, 1) := by decide +kernel
theorem d_L_law_1638 : decode code 1638 = .ok (.iaload, 1) := by decide +kernel
theorem d_L_law_1639 : decode code 1639 = .ok (.aload_n 0, 1) := by decide +kernel
theorem d_L_law_1640 : decode code 1640 = .ok (.iload 4, 2) := by decide +kernel
theorem d_L_law_1642 : decode code 1642 = .ok (.iconst 2, 1) := by decide +kernel
theorem d_L_law_1643 : decode code 1643 = .ok (.iadd, 1) := by decide +kernel
theorem d_L_law_1644 : decode code 1644 = .ok (.iaload, 1) := by decide +kernel
theorem d_L_law_1645 : decode code 1645 = .ok (.aload_n 3, 1) := by decide +kernel
theorem d_L_law_1646 : decode code 1646 = .ok (.invokestatic 175, 3) := by decide +kernel
theorem d_L_law_1649 : decode code 1649 = .ok (.istore 5, 2) := by decide +kernel
theorem d_L_law_1651 : decode code 1651 = .ok (.aload_n 2, 1) := by decide +kernel
theorem d_L_law_1652 : decode code 1652 = .ok (.aload_n 0, 1) := by decide +kernel
theorem d_L_law_1653 : decode code 1653 = .ok (.iload 4, 2) := by decide +kernel
theorem d_L_law_1655 : decode code 1655 = .ok (.iconst 1, 1) := by decide +kernel
theorem d_L_law_1656 : decode code 1656 = .ok (.iadd, 1) := by decide +kernel
theorem d_L_law_1657 : decode code 1657 = .ok (.iaload, 1) := by decide +kernel
theorem d_L_law_1658 : decode code 1658 = .ok (.aload_n 0, 1) := by decide +kernel
theorem d_L_law_1659 : decode code 1659 = .ok (.iload 4, 2) := by decide +kernel
theorem d_L_law_1661 : decode code 1661 = .ok (.iconst 2, 1) := by decide +kernel
theorem d_L_law_1662 : decode code 1662 = .ok (.iadd, 1) := by decide +kernel
theorem d_L_law_1663 : decode code 1663 = .ok (.iaload, 1) := by decide +kernel
theorem d_L_law_1664 : decode code 1664 = .ok (.invokevirtual 177, 3) := by decide +kernel
theorem d_L_law_1667 : decode code 1667 = .ok (.istore 6, 2) := by decide +kernel
theorem d_L_law_1669 : decode code 1669 = .ok (.aload_n 2, 1) := by decide +kernel
theorem d_L_law_1670 : decode code 1670 = .ok (.invokevirtual 109, 3) := by decide +kernel
theorem d_L_law_1673 : decode code 1673 = .ok (.iload 5, 2) := by decide +kernel
theorem d_L_law_1675 : decode code 1675 = .ok (.if_icmp .eq 5, 3) := by decide +kernel
theorem d_L_law_1678 : decode code 1678 = .ok (.iconst 0, 1) := by decide +kernel
theorem d_L_law_1679 : decode code 1679 = .ok (.ireturn, 1) := by decide +kernel
theorem d_L_law_1680 : decode code 1680 = .ok (.iload 5, 2) := by decide +kernel
theorem d_L_law_1682 : decode code 1682 = .ok (.ifCond .ne 15, 3) := by decide +kernel
theorem d_L_law_1685 : decode code 1685 = .ok (.aload_n 3, 1) := by decide +kernel
theorem d_L_law_1686 : decode code 1686 = .ok (.iconst 0, 1) := by decide +kernel
theorem d_L_law_1687 : decode code 1687 = .ok (.laload, 1) := by decide +kernel
theorem d_L_law_1688 : decode code 1688 = .ok (.iload 6, 2) := by decide +kernel
theorem d_L_law_1690 : decode code 1690 = .ok (.i2l, 1) := by decide +kernel
theorem d_L_law_1691 : decode code 1691 = .ok (.lcmp, 1) := by decide +kernel
theorem d_L_law_1692 : decode code 1692 = .ok (.ifCond .eq 5, 3) := by decide +kernel
theorem d_L_law_1695 : decode code 1695 = .ok (.iconst 0, 1) := by decide +kernel
theorem d_L_law_1696 : decode code 1696 = .ok (.ireturn, 1) := by decide +kernel
theorem d_L_law_1697 : decode code 1697 = .ok (.goto 3, 3) := by decide +kernel
theorem d_L_law_1700 : decode code 1700 = .ok (.iinc 4 5, 3) := by decide +kernel
theorem d_L_law_1703 : decode code 1703 = .ok (.goto (-1670), 3) := by decide +kernel
theorem d_L_law_1706 : decode code 1706 = .ok (.iconst 1, 1) := by decide +kernel
theorem d_L_law_1707 : decode code 1707 = .ok (.ireturn, 1) := by decide +kernel
