theorem dL_law_1426 : decode cL_law 1426 = .ok (.if_icmp .eq 483, 3) := by decide +kernel
theorem dL_law_1429 : decode cL_law 1429 = .ok (.iconst 0, 1) := by decide +kernel
theorem dL_law_1430 : decode cL_law 1430 = .ok (.ireturn, 1) := by decide +kernel
theorem dL_law_1431 : decode cL_law 1431 = .ok (.aload_n 1, 1) := by decide +kernel
theorem dL_law_1432 : decode cL_law 1432 = .ok (.aload_n 0, 1) := by decide +kernel
theorem dL_law_1433 : decode cL_law 1433 = .ok (.iload 4, 2) := by decide +kernel
theorem dL_law_1435 : decode cL_law 1435 = .ok (.iconst 1, 1) := by decide +kernel
theorem dL_law_1436 : decode cL_law 1436 = .ok (.iadd, 1) := by decide +kernel
theorem dL_law_1437 : decode cL_law 1437 = .ok (.iaload, 1) := by decide +kernel
theorem dL_law_1438 : decode cL_law 1438 = .ok (.invokevirtual 195, 3) := by decide +kernel
theorem dL_law_1441 : decode cL_law 1441 = .ok (.aload_n 2, 1) := by decide +kernel
theorem dL_law_1442 : decode cL_law 1442 = .ok (.aload_n 0, 1) := by decide +kernel
theorem dL_law_1443 : decode cL_law 1443 = .ok (.iload 4, 2) := by decide +kernel
theorem dL_law_1445 : decode cL_law 1445 = .ok (.iconst 1, 1) := by decide +kernel
theorem dL_law_1446 : decode cL_law 1446 = .ok (.iadd, 1) := by decide +kernel
theorem dL_law_1447 : decode cL_law 1447 = .ok (.iaload, 1) := by decide +kernel
theorem dL_law_1448 : decode cL_law 1448 = .ok (.invokevirtual 198, 3) := by decide +kernel
theorem dL_law_1451 : decode cL_law 1451 = .ok (.if_icmp .eq 458, 3) := by decide +kernel
theorem dL_law_1454 : decode cL_law 1454 = .ok (.iconst 0, 1) := by decide +kernel
theorem dL_law_1455 : decode cL_law 1455 = .ok (.ireturn, 1) := by decide +kernel
theorem dL_law_1456 : decode cL_law 1456 = .ok (.aload_n 1, 1) := by decide +kernel
theorem dL_law_1457 : decode cL_law 1457 = .ok (.aload_n 0, 1) := by decide +kernel
theorem dL_law_1458 : decode cL_law 1458 = .ok (.iload 4, 2) := by decide +kernel
theorem dL_law_1460 : decode cL_law 1460 = .ok (.iconst 1, 1) := by decide +kernel
theorem dL_law_1461 : decode cL_law 1461 = .ok (.iadd, 1) := by decide +kernel
theorem dL_law_1462 : decode cL_law 1462 = .ok (.iaload, 1) := by decide +kernel
theorem dL_law_1463 : decode cL_law 1463 = .ok (.aload_n 0, 1) := by decide +kernel
theorem dL_law_1464 : decode cL_law 1464 = .ok (.iload 4, 2) := by decide +kernel
theorem dL_law_1466 : decode cL_law 1466 = .ok (.iconst 2, 1) := by decide +kernel
theorem dL_law_1467 : decode cL_law 1467 = .ok (.iadd, 1) := by decide +kernel
theorem dL_law_1468 : decode cL_law 1468 = .ok (.iaload, 1) := by decide +kernel
theorem dL_law_1469 : decode cL_law 1469 = .ok (.aload_n 0, 1) := by decide +kernel
theorem dL_law_1470 : decode cL_law 1470 = .ok (.iload 4, 2) := by decide +kernel
theorem dL_law_1472 : decode cL_law 1472 = .ok (.iconst 3, 1) := by decide +kernel
theorem dL_law_1473 : decode cL_law 1473 = .ok (.iadd, 1) := by decide +kernel
theorem dL_law_1474 : decode cL_law 1474 = .ok (.iaload, 1) := by decide +kernel
theorem dL_law_1475 : decode cL_law 1475 = .ok (.ifCond .eq 7, 3) := by decide +kernel
theorem dL_law_1478 : decode cL_law 1478 = .ok (.iconst 1, 1) := by decide +kernel
theorem dL_law_1479 : decode cL_law 1479 = .ok (.goto 4, 3) := by decide +kernel
theorem dL_law_1482 : decode cL_law 1482 = .ok (.iconst 0, 1) := by decide +kernel
theorem dL_law_1483 : decode cL_law 1483 = .ok (.invokevirtual 199, 3) := by decide +kernel
theorem dL_law_1486 : decode cL_law 1486 = .ok (.aload_n 2, 1) := by decide +kernel
theorem dL_law_1487 : decode cL_law 1487 = .ok (.aload_n 0, 1) := by decide +kernel
theorem dL_law_1488 : decode cL_law 1488 = .ok (.iload 4, 2) := by decide +kernel
theorem dL_law_1490 : decode cL_law 1490 = .ok (.iconst 1, 1) := by decide +kernel
theorem dL_law_1491 : decode cL_law 1491 = .ok (.iadd, 1) := by decide +kernel
theorem dL_law_1492 : decode cL_law 1492 = .ok (.iaload, 1) := by decide +kernel
theorem dL_law_1493 : decode cL_law 1493 = .ok (.aload_n 0, 1) := by decide +kernel
theorem dL_law_1494 : decode cL_law 1494 = .ok (.iload 4, 2) := by decide +kernel
theorem dL_law_1496 : decode cL_law 1496 = .ok (.iconst 2, 1) := by decide +kernel
theorem dL_law_1497 : decode cL_law 1497 = .ok (.iadd, 1) := by decide +kernel
theorem dL_law_1498 : decode cL_law 1498 = .ok (.iaload, 1) := by decide +kernel
theorem dL_law_1499 : decode cL_law 1499 = .ok (.aload_n 0, 1) := by decide +kernel
theorem dL_law_1500 : decode cL_law 1500 = .ok (.iload 4, 2) := by decide +kernel
theorem dL_law_1502 : decode cL_law 1502 = .ok (.iconst 3, 1) := by decide +kernel
theorem dL_law_1503 : decode cL_law 1503 = .ok (.iadd, 1) := by decide +kernel
theorem dL_law_1504 : decode cL_law 1504 = .ok (.iaload, 1) := by decide +kernel
theorem dL_law_1505 : decode cL_law 1505 = .ok (.ifCond .eq 7, 3) := by decide +kernel
theorem dL_law_1508 : decode cL_law 1508 = .ok (.iconst 1, 1) := by decide +kernel
theorem dL_law_1509 : decode cL_law 1509 = .ok (.goto 4, 3) := by decide +kernel
theorem dL_law_1512 : decode cL_law 1512 = .ok (.iconst 0, 1) := by decide +kernel
theorem dL_law_1513 : decode cL_law 1513 = .ok (.invokevirtual 203, 3) := by decide +kernel
theorem dL_law_1516 : decode cL_law 1516 = .ok (.lcmp, 1) := by decide +kernel
theorem dL_law_1517 : decode cL_law 1517 = .ok (.ifCond .eq 392, 3) := by decide +kernel
theorem dL_law_1520 : decode cL_law 1520 = .ok (.iconst 0, 1) := by decide +kernel
theorem dL_law_1521 : decode cL_law 1521 = .ok (.ireturn, 1) := by decide +kernel
theorem dL_law_1522 : decode cL_law 1522 = .ok (.aload_n 1, 1) := by decide +kernel
theorem dL_law_1523 : decode cL_law 1523 = .ok (.aload_n 0, 1) := by decide +kernel
theorem dL_law_1524 : decode cL_law 1524 = .ok (.iload 4, 2) := by decide +kernel
theorem dL_law_1526 : decode cL_law 1526 = .ok (.iconst 1, 1) := by decide +kernel
theorem dL_law_1527 : decode cL_law 1527 = .ok (.iadd, 1) := by decide +kernel
theorem dL_law_1528 : decode cL_law 1528 = .ok (.iaload, 1) := by decide +kernel
theorem dL_law_1529 : decode cL_law 1529 = .ok (.ifCond .eq 7, 3) := by decide +kernel
theorem dL_law_1532 : decode cL_law 1532 = .ok (.iconst 1, 1) := by decide +kernel
theorem dL_law_1533 : decode cL_law 1533 = .ok (.goto 4, 3) := by decide +kernel
theorem dL_law_1536 : decode cL_law 1536 = .ok (.iconst 0, 1) := by decide +kernel
theorem dL_law_1537 : decode cL_law 1537 = .ok (.invokevirtual 204, 3) := by decide +kernel
theorem dL_law_1540 : decode cL_law 1540 = .ok (.aload_n 2, 1) := by decide +kernel
theorem dL_law_1541 : decode cL_law 1541 = .ok (.aload_n 0, 1) := by decide +kernel
theorem dL_law_1542 : decode cL_law 1542 = .ok (.iload 4, 2) := by decide +kernel
theorem dL_law_1544 : decode cL_law 1544 = .ok (.iconst 1, 1) := by decide +kernel
theorem dL_law_1545 : decode cL_law 1545 = .ok (.iadd, 1) := by decide +kernel
theorem dL_law_1546 : decode cL_law 1546 = .ok (.iaload, 1) := by decide +kernel
theorem dL_law_1547 : decode cL_law 1547 = .ok (.ifCond .eq 7, 3) := by decide +kernel
theorem dL_law_1550 : decode cL_law 1550 = .ok (.iconst 1, 1) := by decide +kernel
theorem dL_law_1551 : decode cL_law 1551 = .ok (.goto 4, 3) := by decide +kernel
theorem dL_law_1554 : decode cL_law 1554 = .ok (.iconst 0, 1) := by decide +kernel
theorem dL_law_1555 : decode cL_law 1555 = .ok (.invokevirtual 208, 3) := by decide +kernel
theorem dL_law_1558 : decode cL_law 1558 = .ok (.lcmp, 1) := by decide +kernel
theorem dL_law_1559 : decode cL_law 1559 = .ok (.ifCond .eq 350, 3) := by decide +kernel
theorem dL_law_1562 : decode cL_law 1562 = .ok (.iconst 0, 1) := by decide +kernel
theorem dL_law_1563 : decode cL_law 1563 = .ok (.ireturn, 1) := by decide +kernel
theorem dL_law_1564 : decode cL_law 1564 = .ok (.aload_n 1, 1) := by decide +kernel
theorem dL_law_1565 : decode cL_law 1565 = .ok (.aload_n 0, 1) := by decide +kernel
theorem dL_law_1566 : decode cL_law 1566 = .ok (.iload 4, 2) := by decide +kernel
theorem dL_law_1568 : decode cL_law 1568 = .ok (.iconst 1, 1) := by decide +kernel
theorem dL_law_1569 : decode cL_law 1569 = .ok (.iadd, 1) := by decide +kernel
theorem dL_law_1570 : decode cL_law 1570 = .ok (.iaload, 1) := by decide +kernel
theorem dL_law_1571 : decode cL_law 1571 = .ok (.invokevirtual 209, 3) := by decide +kernel
theorem dL_law_1574 : decode cL_law 1574 = .ok (.aload_n 2, 1) := by decide +kernel
theorem dL_law_1575 : decode cL_law 1575 = .ok (.aload_n 0, 1) := by decide +kernel
theorem dL_law_1576 : decode cL_law 1576 = .ok (.iload 4, 2) := by decide +kernel
theorem dL_law_1578 : decode cL_law 1578 = .ok (.iconst 1, 1) := by decide +kernel
theorem dL_law_1579 : decode cL_law 1579 = .ok (.iadd, 1) := by decide +kernel
theorem dL_law_1580 : decode cL_law 1580 = .ok (.iaload, 1) := by decide +kernel
theorem dL_law_1581 : decode cL_law 1581 = .ok (.invokevirtual 212, 3) := by decide +kernel
theorem dL_law_1584 : decode cL_law 1584 = .ok (.if_icmp .eq 325, 3) := by decide +kernel
theorem dL_law_1587 : decode cL_law 1587 = .ok (.iconst 0, 1) := by decide +kernel
theorem dL_law_1588 : decode cL_law 1588 = .ok (.ireturn, 1) := by decide +kernel
theorem dL_law_1589 : decode cL_law 1589 = .ok (.aload_n 1, 1) := by decide +kernel
theorem dL_law_1590 : decode cL_law 1590 = .ok (.invokevirtual 213, 3) := by decide +kernel
theorem dL_law_1593 : decode cL_law 1593 = .ok (.aload_n 2, 1) := by decide +kernel
theorem dL_law_1594 : decode cL_law 1594 = .ok (.invokevirtual 216, 3) := by decide +kernel
theorem dL_law_1597 : decode cL_law 1597 = .ok (.if_icmp .eq 312, 3) := by decide +kernel
theorem dL_law_1600 : decode cL_law 1600 = .ok (.iconst 0, 1) := by decide +kernel
theorem dL_law_1601 : decode cL_law 1601 = .ok (.ireturn, 1) := by decide +kernel
theorem dL_law_1602 : decode cL_law 1602 = .ok (.aload_n 1, 1) := by decide +kernel
theorem dL_law_1603 : decode cL_law 1603 = .ok (.aload_n 0, 1) := by decide +kernel
theorem dL_law_1604 : decode cL_law 1604 = .ok (.iload 4, 2) := by decide +kernel
theorem dL_law_1606 : decode cL_law 1606 = .ok (.iconst 1, 1) := by decide +kernel
theorem dL_law_1607 : decode cL_law 1607 = .ok (.iadd, 1) := by decide +kernel
theorem dL_law_1608 : decode cL_law 1608 = .ok (.iaload, 1) := by decide +kernel
theorem dL_law_1609 : decode cL_law 1609 = .ok (.aload_n 0, 1) := by decide +kernel
theorem dL_law_1610 : decode cL_law 1610 = .ok (.iload 4, 2) := by decide +kernel
theorem dL_law_1612 : decode cL_law 1612 = .ok (.iconst 2, 1) := by decide +kernel
theorem dL_law_1613 : decode cL_law 1613 = .ok (.iadd, 1) := by decide +kernel
theorem dL_law_1614 : decode cL_law 1614 = .ok (.iaload, 1) := by decide +kernel
theorem dL_law_1615 : decode cL_law 1615 = .ok (.aload_n 0, 1) := by decide +kernel
theorem dL_law_1616 : decode cL_law 1616 = .ok (.iload 4, 2) := by decide +kernel
theorem dL_law_1618 : decode cL_law 1618 = .ok (.iconst 3, 1) := by decide +kernel
theorem dL_law_1619 : decode cL_law 1619 = .ok (.iadd, 1) := by decide +kernel
theorem dL_law_1620 : decode cL_law 1620 = .ok (.iaload, 1) := by decide +kernel
theorem dL_law_1621 : decode cL_law 1621 = .ok (.invokevirtual 217, 3) := by decide +kernel
theorem dL_law_1624 : decode cL_law 1624 = .ok (.aload_n 2, 1) := by decide +kernel
theorem dL_law_1625 : decode cL_law 1625 = .ok (.aload_n 0, 1) := by decide +kernel
theorem dL_law_1626 : decode cL_law 1626 = .ok (.iload 4, 2) := by decide +kernel
theorem dL_law_1628 : decode cL_law 1628 = .ok (.iconst 1, 1) := by decide +kernel
theorem dL_law_1629 : decode cL_law 1629 = .ok (.iadd, 1) := by decide +kernel
theorem dL_law_1630 : decode cL_law 1630 = .ok (.iaload, 1) := by decide +kernel
theorem dL_law_1631 : decode cL_law 1631 = .ok (.aload_n 0, 1) := by decide +kernel
theorem dL_law_1632 : decode cL_law 1632 = .ok (.iload 4, 2) := by decide +kernel
theorem dL_law_1634 : decode cL_law 1634 = .ok (.iconst 2, 1) := by decide +kernel
theorem dL_law_1635 : decode cL_law 1635 = .ok (.iadd, 1) := by decide +kernel
theorem dL_law_1636 : decode cL_law 1636 = .ok (.iaload, 1) := by decide +kernel
theorem dL_law_1637 : decode cL_law 1637 = .ok (.aload_n 0, 1) := by decide +kernel
theorem dL_law_1638 : decode cL_law 1638 = .ok (.iload 4, 2) := by decide +kernel
theorem dL_law_1640 : decode cL_law 1640 = .ok (.iconst 3, 1) := by decide +kernel
theorem dL_law_1641 : decode cL_law 1641 = .ok (.iadd, 1) := by decide +kernel
theorem dL_law_1642 : decode cL_law 1642 = .ok (.iaload, 1) := by decide +kernel
theorem dL_law_1643 : decode cL_law 1643 = .ok (.invokevirtual 221, 3) := by decide +kernel
theorem dL_law_1646 : decode cL_law 1646 = .ok (.if_icmp .eq 263, 3) := by decide +kernel
theorem dL_law_1649 : decode cL_law 1649 = .ok (.iconst 0, 1) := by decide +kernel
theorem dL_law_1650 : decode cL_law 1650 = .ok (.ireturn, 1) := by decide +kernel
theorem dL_law_1651 : decode cL_law 1651 = .ok (.aload_n 1, 1) := by decide +kernel
theorem dL_law_1652 : decode cL_law 1652 = .ok (.aload_n 0, 1) := by decide +kernel
theorem dL_law_1653 : decode cL_law 1653 = .ok (.iload 4, 2) := by decide +kernel
theorem dL_law_1655 : decode cL_law 1655 = .ok (.iconst 1, 1) := by decide +kernel
theorem dL_law_1656 : decode cL_law 1656 = .ok (.iadd, 1) := by decide +kernel
theorem dL_law_1657 : decode cL_law 1657 = .ok (.iaload, 1) := by decide +kernel
theorem dL_law_1658 : decode cL_law 1658 = .ok (.aload_n 0, 1) := by decide +kernel
theorem dL_law_1659 : decode cL_law 1659 = .ok (.iload 4, 2) := by decide +kernel
theorem dL_law_1661 : decode cL_law 1661 = .ok (.iconst 2, 1) := by decide +kernel
theorem dL_law_1662 : decode cL_law 1662 = .ok (.iadd, 1) := by decide +kernel
theorem dL_law_1663 : decode cL_law 1663 = .ok (.iaload, 1) := by decide +kernel
theorem dL_law_1664 : decode cL_law 1664 = .ok (.invokevirtual 222, 3) := by decide +kernel
theorem dL_law_1667 : decode cL_law 1667 = .ok (.aload_n 2, 1) := by decide +kernel
theorem dL_law_1668 : decode cL_law 1668 = .ok (.aload_n 0, 1) := by decide +kernel
theorem dL_law_1669 : decode cL_law 1669 = .ok (.iload 4, 2) := by decide +kernel
theorem dL_law_1671 : decode cL_law 1671 = .ok (.iconst 1, 1) := by decide +kernel
theorem dL_law_1672 : decode cL_law 1672 = .ok (.iadd, 1) := by decide +kernel
theorem dL_law_1673 : decode cL_law 1673 = .ok (.iaload, 1) := by decide +kernel
theorem dL_law_1674 : decode cL_law 1674 = .ok (.aload_n 0, 1) := by decide +kernel
theorem dL_law_1675 : decode cL_law 1675 = .ok (.iload 4, 2) := by decide +kernel
theorem dL_law_1677 : decode cL_law 1677 = .ok (.iconst 2, 1) := by decide +kernel
theorem dL_law_1678 : decode cL_law 1678 = .ok (.iadd, 1) := by decide +kernel
theorem dL_law_1679 : decode cL_law 1679 = .ok (.iaload, 1) := by decide +kernel
theorem dL_law_1680 : decode cL_law 1680 = .ok (.invokevirtual 225, 3) := by decide +kernel
theorem dL_law_1683 : decode cL_law 1683 = .ok (.if_icmp .eq 226, 3) := by decide +kernel
theorem dL_law_1686 : decode cL_law 1686 = .ok (.iconst 0, 1) := by decide +kernel
theorem dL_law_1687 : decode cL_law 1687 = .ok (.ireturn, 1) := by decide +kernel
theorem dL_law_1688 : decode cL_law 1688 = .ok (.aload_n 1, 1) := by decide +kernel
theorem dL_law_1689 : decode cL_law 1689 = .ok (.aload_n 0, 1) := by decide +kernel
theorem dL_law_1690 : decode cL_law 1690 = .ok (.iload 4, 2) := by decide +kernel
theorem dL_law_1692 : decode cL_law 1692 = .ok (.iconst 1, 1) := by decide +kernel
theorem dL_law_1693 : decode cL_law 1693 = .ok (.iadd, 1) := by decide +kernel
theorem dL_law_1694 : decode cL_law 1694 = .ok (.iaload, 1) := by decide +kernel
theorem dL_law_1695 : decode cL_law 1695 = .ok (.invokevirtual 226, 3) := by decide +kernel
theorem dL_law_1698 : decode cL_law 1698 = .ok (.aload_n 2, 1) := by decide +kernel
theorem dL_law_1699 : decode cL_law 1699 = .ok (.aload_n 0, 1) := by decide +kernel
theorem dL_law_1700 : decode cL_law 1700 = .ok (.iload 4, 2) := by decide +kernel
theorem dL_law_1702 : decode cL_law 1702 = .ok (.iconst 1, 1) := by decide +kernel
theorem dL_law_1703 : decode cL_law 1703 = .ok (.iadd, 1) := by decide +kernel
theorem dL_law_1704 : decode cL_law 1704 = .ok (.iaload, 1) := by decide +kernel
theorem dL_law_1705 : decode cL_law 1705 = .ok (.invokevirtual 229, 3) := by decide +kernel
theorem dL_law_1708 : decode cL_law 1708 = .ok (.if_icmp .eq 201, 3) := by decide +kernel
theorem dL_law_1711 : decode cL_law 1711 = .ok (.iconst 0, 1) := by decide +kernel
theorem dL_law_1712 : decode cL_law 1712 = .ok (.ireturn, 1) := by decide +kernel
theorem dL_law_1713 : decode cL_law 1713 = .ok (.aload_n 1, 1) := by decide +kernel
theorem dL_law_1714 : decode cL_law 1714 = .ok (.aload_n 0, 1) := by decide +kernel
theorem dL_law_1715 : decode cL_law 1715 = .ok (.iload 4, 2) := by decide +kernel
theorem dL_law_1717 : decode cL_law 1717 = .ok (.iconst 1, 1) := by decide +kernel
theorem dL_law_1718 : decode cL_law 1718 = .ok (.iadd, 1) := by decide +kernel
theorem dL_law_1719 : decode cL_law 1719 = .ok (.iaload, 1) := by decide +kernel
theorem dL_law_1720 : decode cL_law 1720 = .ok (.invokevirtual 230, 3) := by decide +kernel
theorem dL_law_1723 : decode cL_law 1723 = .ok (.aload_n 2, 1) := by decide +kernel
theorem dL_law_1724 : decode cL_law 1724 = .ok (.aload_n 0, 1) := by decide +kernel
theorem dL_law_1725 : decode cL_law 1725 = .ok (.iload 4, 2) := by decide +kernel
theorem dL_law_1727 : decode cL_law 1727 = .ok (.iconst 1, 1) := by decide +kernel
theorem dL_law_1728 : decode cL_law 1728 = .ok (.iadd, 1) := by decide +kernel
theorem dL_law_1729 : decode cL_law 1729 = .ok (.iaload, 1) := by decide +kernel
theorem dL_law_1730 : decode cL_law 1730 = .ok (.invokevirtual 233, 3) := by decide +kernel
theorem dL_law_1733 : decode cL_law 1733 = .ok (.if_icmp .eq 176, 3) := by decide +kernel
theorem dL_law_1736 : decode cL_law 1736 = .ok (.iconst 0, 1) := by decide +kernel
theorem dL_law_1737 : decode cL_law 1737 = .ok (.ireturn, 1) := by decide +kernel
theorem dL_law_1738 : decode cL_law 1738 = .ok (.aload_n 1, 1) := by decide +kernel
theorem dL_law_1739 : decode cL_law 1739 = .ok (.invokevirtual 234, 3) := by decide +kernel
theorem dL_law_1742 : decode cL_law 1742 = .ok (.aload_n 2, 1) := by decide +kernel
theorem dL_law_1743 : decode cL_law 1743 = .ok (.invokevirtual 237, 3) := by decide +kernel
theorem dL_law_1746 : decode cL_law 1746 = .ok (.if_icmp .eq 163, 3) := by decide +kernel
theorem dL_law_1749 : decode cL_law 1749 = .ok (.iconst 0, 1) := by decide +kernel
theorem dL_law_1750 : decode cL_law 1750 = .ok (.ireturn, 1) := by decide +kernel
theorem dL_law_1751 : decode cL_law 1751 = .ok (.aload_n 1, 1) := by decide +kernel
theorem dL_law_1752 : decode cL_law 1752 = .ok (.invokevirtual 238, 3) := by decide +kernel
theorem dL_law_1755 : decode cL_law 1755 = .ok (.aload_n 2, 1) := by decide +kernel
theorem dL_law_1756 : decode cL_law 1756 = .ok (.invokevirtual 241, 3) := by decide +kernel
theorem dL_law_1759 : decode cL_law 1759 = .ok (.if_icmp .eq 150, 3) := by decide +kernel
theorem dL_law_1762 : decode cL_law 1762 = .ok (.iconst 0, 1) := by decide +kernel
theorem dL_law_1763 : decode cL_law 1763 = .ok (.ireturn, 1) := by decide +kernel
theorem dL_law_1764 : decode cL_law 1764 = .ok (.aload_n 1, 1) := by decide +kernel
theorem dL_law_1765 : decode cL_law 1765 = .ok (.invokevirtual 242, 3) := by decide +kernel
theorem dL_law_1768 : decode cL_law 1768 = .ok (.aload_n 2, 1) := by decide +kernel
theorem dL_law_1769 : decode cL_law 1769 = .ok (.invokevirtual 246, 3) := by decide +kernel
theorem dL_law_1772 : decode cL_law 1772 = .ok (.if_icmp .eq 137, 3) := by decide +kernel
theorem dL_law_1775 : decode cL_law 1775 = .ok (.iconst 0, 1) := by decide +kernel
theorem dL_law_1776 : decode cL_law 1776 = .ok (.ireturn, 1) := by decide +kernel
theorem dL_law_1777 : decode cL_law 1777 = .ok (.aload_n 1, 1) := by decide +kernel
theorem dL_law_1778 : decode cL_law 1778 = .ok (.invokevirtual 247, 3) := by decide +kernel
theorem dL_law_1781 : decode cL_law 1781 = .ok (.aload_n 2, 1) := by decide +kernel
theorem dL_law_1782 : decode cL_law 1782 = .ok (.invokevirtual 250, 3) := by decide +kernel
theorem dL_law_1785 : decode cL_law 1785 = .ok (.if_icmp .eq 124, 3) := by decide +kernel
theorem dL_law_1788 : decode cL_law 1788 = .ok (.iconst 0, 1) := by decide +kernel
theorem dL_law_1789 : decode cL_law 1789 = .ok (.ireturn, 1) := by decide +kernel
theorem dL_law_1790 : decode cL_law 1790 = .ok (.aload_n 1, 1) := by decide +kernel
theorem dL_law_1791 : decode cL_law 1791 = .ok (.aload_n 0, 1) := by decide +kernel
theorem dL_law_1792 : decode cL_law 1792 = .ok (.iload 4, 2) := by decide +kernel
theorem dL_law_1794 : decode cL_law 1794 = .ok (.iconst 1, 1) := by decide +kernel
theorem dL_law_1795 : decode cL_law 1795 = .ok (.iadd, 1) := by decide +kernel
theorem dL_law_1796 : decode cL_law 1796 = .ok (.iaload, 1) := by decide +kernel
theorem dL_law_1797 : decode cL_law 1797 = .ok (.invokevirtual 251, 3) := by decide +kernel
theorem dL_law_1800 : decode cL_law 1800 = .ok (.aload_n 2, 1) := by decide +kernel
theorem dL_law_1801 : decode cL_law 1801 = .ok (.aload_n 0, 1) := by decide +kernel
theorem dL_law_1802 : decode cL_law 1802 = .ok (.iload 4, 2) := by decide +kernel
theorem dL_law_1804 : decode cL_law 1804 = .ok (.iconst 1, 1) := by decide +kernel
theorem dL_law_1805 : decode cL_law 1805 = .ok (.iadd, 1) := by decide +kernel
theorem dL_law_1806 : decode cL_law 1806 = .ok (.iaload, 1) := by decide +kernel
theorem dL_law_1807 : decode cL_law 1807 = .ok (.invokevirtual 255, 3) := by decide +kernel
theorem dL_law_1810 : decode cL_law 1810 = .ok (.if_icmp .eq 99, 3) := by decide +kernel
theorem dL_law_1813 : decode cL_law 1813 = .ok (.iconst 0, 1) := by decide +kernel
theorem dL_law_1814 : decode cL_law 1814 = .ok (.ireturn, 1) := by decide +kernel
theorem dL_law_1815 : decode cL_law 1815 = .ok (.aload_n 1, 1) := by decide +kernel
theorem dL_law_1816 : decode cL_law 1816 = .ok (.aload_n 0, 1) := by decide +kernel
theorem dL_law_1817 : decode cL_law 1817 = .ok (.iload 4, 2) := by decide +kernel
theorem dL_law_1819 : decode cL_law 1819 = .ok (.iconst 1, 1) := by decide +kernel
theorem dL_law_1820 : decode cL_law 1820 = .ok (.iadd, 1) := by decide +kernel
theorem dL_law_1821 : decode cL_law 1821 = .ok (.iaload, 1) := by decide +kernel
theorem dL_law_1822 : decode cL_law 1822 = .ok (.aload_n 3, 1) := by decide +kernel
theorem dL_law_1823 : decode cL_law 1823 = .ok (.invokestatic 256, 3) := by decide +kernel
theorem dL_law_1826 : decode cL_law 1826 = .ok (.istore 5, 2) := by decide +kernel
theorem dL_law_1828 : decode cL_law 1828 = .ok (.aload_n 2, 1) := by decide +kernel
theorem dL_law_1829 : decode cL_law 1829 = .ok (.aload_n 0, 1) := by decide +kernel
theorem dL_law_1830 : decode cL_law 1830 = .ok (.iload 4, 2) := by decide +kernel
theorem dL_law_1832 : decode cL_law 1832 = .ok (.iconst 1, 1) := by decide +kernel
theorem dL_law_1833 : decode cL_law 1833 = .ok (.iadd, 1) := by decide +kernel
theorem dL_law_1834 : decode cL_law 1834 = .ok (.iaload, 1) := by decide +kernel
theorem dL_law_1835 : decode cL_law 1835 = .ok (.invokevirtual 261, 3) := by decide +kernel
theorem dL_law_1838 : decode cL_law 1838 = .ok (.istore 6, 2) := by decide +kernel
theorem dL_law_1840 : decode cL_law 1840 = .ok (.aload_n 2, 1) := by decide +kernel
theorem dL_law_1841 : decode cL_law 1841 = .ok (.invokevirtual 262, 3) := by decide +kernel
theorem dL_law_1844 : decode cL_law 1844 = .ok (.iload 5, 2) := by decide +kernel
theorem dL_law_1846 : decode cL_law 1846 = .ok (.if_icmp .eq 5, 3) := by decide +kernel
theorem dL_law_1849 : decode cL_law 1849 = .ok (.iconst 0, 1) := by decide +kernel
theorem dL_law_1850 : decode cL_law 1850 = .ok (.ireturn, 1) := by decide +kernel
theorem dL_law_1851 : decode cL_law 1851 = .ok (.iload 5, 2) := by decide +kernel
theorem dL_law_1853 : decode cL_law 1853 = .ok (.ifCond .ne 15, 3) := by decide +kernel
theorem dL_law_1856 : decode cL_law 1856 = .ok (.aload_n 3, 1) := by decide +kernel
theorem dL_law_1857 : decode cL_law 1857 = .ok (.iconst 0, 1) := by decide +kernel
theorem dL_law_1858 : decode cL_law 1858 = .ok (.laload, 1) := by decide +kernel
theorem dL_law_1859 : decode cL_law 1859 = .ok (.iload 6, 2) := by decide +kernel
theorem dL_law_1861 : decode cL_law 1861 = .ok (.i2l, 1) := by decide +kernel
theorem dL_law_1862 : decode cL_law 1862 = .ok (.lcmp, 1) := by decide +kernel
theorem dL_law_1863 : decode cL_law 1863 = .ok (.ifCond .eq 5, 3) := by decide +kernel
theorem dL_law_1866 : decode cL_law 1866 = .ok (.iconst 0, 1) := by decide +kernel
theorem dL_law_1867 : decode cL_law 1867 = .ok (.ireturn, 1) := by decide +kernel
theorem dL_law_1868 : decode cL_law 1868 = .ok (.goto 41, 3) := by decide +kernel
theorem dL_law_1871 : decode cL_law 1871 = .ok (.aload_n 1, 1) := by decide +kernel
theorem dL_law_1872 : decode cL_law 1872 = .ok (.aload_n 0, 1) := by decide +kernel
theorem dL_law_1873 : decode cL_law 1873 = .ok (.iload 4, 2) := by decide +kernel
theorem dL_law_1875 : decode cL_law 1875 = .ok (.iconst 1, 1) := by decide +kernel
theorem dL_law_1876 : decode cL_law 1876 = .ok (.iadd, 1) := by decide +kernel
theorem dL_law_1877 : decode cL_law 1877 = .ok (.iaload, 1) := by decide +kernel
theorem dL_law_1878 : decode cL_law 1878 = .ok (.invokevirtual 265, 3) := by decide +kernel
theorem dL_law_1881 : decode cL_law 1881 = .ok (.aload_n 2, 1) := by decide +kernel
theorem dL_law_1882 : decode cL_law 1882 = .ok (.aload_n 0, 1) := by decide +kernel
theorem dL_law_1883 : decode cL_law 1883 = .ok (.iload 4, 2) := by decide +kernel
theorem dL_law_1885 : decode cL_law 1885 = .ok (.iconst 1, 1) := by decide +kernel
theorem dL_law_1886 : decode cL_law 1886 = .ok (.iadd, 1) := by decide +kernel
theorem dL_law_1887 : decode cL_law 1887 = .ok (.iaload, 1) := by decide +kernel
theorem dL_law_1888 : decode cL_law 1888 = .ok (.invokevirtual 268, 3) := by decide +kernel
theorem dL_law_1891 : decode cL_law 1891 = .ok (.if_icmp .eq 18, 3) := by decide +kernel
theorem dL_law_1894 : decode cL_law 1894 = .ok (.iconst 0, 1) := by decide +kernel
theorem dL_law_1895 : decode cL_law 1895 = .ok (.ireturn, 1) := by decide +kernel
theorem dL_law_1896 : decode cL_law 1896 = .ok (.aload_n 1, 1) := by decide +kernel
theorem dL_law_1897 : decode cL_law 1897 = .ok (.invokevirtual 269, 3) := by decide +kernel
theorem dL_law_1900 : decode cL_law 1900 = .ok (.aload_n 2, 1) := by decide +kernel
theorem dL_law_1901 : decode cL_law 1901 = .ok (.invokevirtual 272, 3) := by decide +kernel
theorem dL_law_1904 : decode cL_law 1904 = .ok (.if_icmp .eq 5, 3) := by decide +kernel
theorem dL_law_1907 : decode cL_law 1907 = .ok (.iconst 0, 1) := by decide +kernel
theorem dL_law_1908 : decode cL_law 1908 = .ok (.ireturn, 1) := by decide +kernel
theorem dL_law_1909 : decode cL_law 1909 = .ok (.iinc 4 6, 3) := by decide +kernel
theorem dL_law_1912 : decode cL_law 1912 = .ok (.goto (-1889), 3) := by decide +kernel
theorem dL_law_1915 : decode cL_law 1915 = .ok (.iconst 1, 1) := by decide +kernel
theorem dL_law_1916 : decode cL_law 1916 = .ok (.ireturn, 1) := by decide +kernel
