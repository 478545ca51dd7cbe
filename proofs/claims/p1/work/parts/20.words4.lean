theorem dL_law_1464 : decode cL_law 1464 = .ok (.iconst 1, 1) := by decide +kernel
theorem dL_law_1465 : decode cL_law 1465 = .ok (.iadd, 1) := by decide +kernel
theorem dL_law_1466 : decode cL_law 1466 = .ok (.iaload, 1) := by decide +kernel
theorem dL_law_1467 : decode cL_law 1467 = .ok (.aload_n 0, 1) := by decide +kernel
theorem dL_law_1468 : decode cL_law 1468 = .ok (.iload_n 3, 1) := by decide +kernel
theorem dL_law_1469 : decode cL_law 1469 = .ok (.iconst 2, 1) := by decide +kernel
theorem dL_law_1470 : decode cL_law 1470 = .ok (.iadd, 1) := by decide +kernel
theorem dL_law_1471 : decode cL_law 1471 = .ok (.iaload, 1) := by decide +kernel
theorem dL_law_1472 : decode cL_law 1472 = .ok (.invokevirtual 222, 3) := by decide +kernel
theorem dL_law_1475 : decode cL_law 1475 = .ok (.aload_n 2, 1) := by decide +kernel
theorem dL_law_1476 : decode cL_law 1476 = .ok (.aload_n 0, 1) := by decide +kernel
theorem dL_law_1477 : decode cL_law 1477 = .ok (.iload_n 3, 1) := by decide +kernel
theorem dL_law_1478 : decode cL_law 1478 = .ok (.iconst 1, 1) := by decide +kernel
theorem dL_law_1479 : decode cL_law 1479 = .ok (.iadd, 1) := by decide +kernel
theorem dL_law_1480 : decode cL_law 1480 = .ok (.iaload, 1) := by decide +kernel
theorem dL_law_1481 : decode cL_law 1481 = .ok (.aload_n 0, 1) := by decide +kernel
theorem dL_law_1482 : decode cL_law 1482 = .ok (.iload_n 3, 1) := by decide +kernel
theorem dL_law_1483 : decode cL_law 1483 = .ok (.iconst 2, 1) := by decide +kernel
theorem dL_law_1484 : decode cL_law 1484 = .ok (.iadd, 1) := by decide +kernel
theorem dL_law_1485 : decode cL_law 1485 = .ok (.iaload, 1) := by decide +kernel
theorem dL_law_1486 : decode cL_law 1486 = .ok (.invokevirtual 225, 3) := by decide +kernel
theorem dL_law_1489 : decode cL_law 1489 = .ok (.if_icmp .eq 629, 3) := by decide +kernel
theorem dL_law_1494 : decode cL_law 1494 = .ok (.aload_n 1, 1) := by decide +kernel
theorem dL_law_1495 : decode cL_law 1495 = .ok (.aload_n 0, 1) := by decide +kernel
theorem dL_law_1496 : decode cL_law 1496 = .ok (.iload_n 3, 1) := by decide +kernel
theorem dL_law_1497 : decode cL_law 1497 = .ok (.iconst 1, 1) := by decide +kernel
theorem dL_law_1498 : decode cL_law 1498 = .ok (.iadd, 1) := by decide +kernel
theorem dL_law_1499 : decode cL_law 1499 = .ok (.iaload, 1) := by decide +kernel
theorem dL_law_1500 : decode cL_law 1500 = .ok (.aload_n 0, 1) := by decide +kernel
theorem dL_law_1501 : decode cL_law 1501 = .ok (.iload_n 3, 1) := by decide +kernel
theorem dL_law_1502 : decode cL_law 1502 = .ok (.iconst 2, 1) := by decide +kernel
theorem dL_law_1503 : decode cL_law 1503 = .ok (.iadd, 1) := by decide +kernel
theorem dL_law_1504 : decode cL_law 1504 = .ok (.iaload, 1) := by decide +kernel
theorem dL_law_1505 : decode cL_law 1505 = .ok (.invokevirtual 226, 3) := by decide +kernel
theorem dL_law_1508 : decode cL_law 1508 = .ok (.aload_n 2, 1) := by decide +kernel
theorem dL_law_1509 : decode cL_law 1509 = .ok (.aload_n 0, 1) := by decide +kernel
theorem dL_law_1510 : decode cL_law 1510 = .ok (.iload_n 3, 1) := by decide +kernel
theorem dL_law_1511 : decode cL_law 1511 = .ok (.iconst 1, 1) := by decide +kernel
theorem dL_law_1512 : decode cL_law 1512 = .ok (.iadd, 1) := by decide +kernel
theorem dL_law_1513 : decode cL_law 1513 = .ok (.iaload, 1) := by decide +kernel
theorem dL_law_1514 : decode cL_law 1514 = .ok (.aload_n 0, 1) := by decide +kernel
theorem dL_law_1515 : decode cL_law 1515 = .ok (.iload_n 3, 1) := by decide +kernel
theorem dL_law_1516 : decode cL_law 1516 = .ok (.iconst 2, 1) := by decide +kernel
theorem dL_law_1517 : decode cL_law 1517 = .ok (.iadd, 1) := by decide +kernel
theorem dL_law_1518 : decode cL_law 1518 = .ok (.iaload, 1) := by decide +kernel
theorem dL_law_1519 : decode cL_law 1519 = .ok (.invokevirtual 229, 3) := by decide +kernel
theorem dL_law_1522 : decode cL_law 1522 = .ok (.if_icmp .eq 596, 3) := by decide +kernel
theorem dL_law_1527 : decode cL_law 1527 = .ok (.aload_n 1, 1) := by decide +kernel
theorem dL_law_1528 : decode cL_law 1528 = .ok (.aload_n 0, 1) := by decide +kernel
theorem dL_law_1529 : decode cL_law 1529 = .ok (.iload_n 3, 1) := by decide +kernel
theorem dL_law_1530 : decode cL_law 1530 = .ok (.iconst 1, 1) := by decide +kernel
theorem dL_law_1531 : decode cL_law 1531 = .ok (.iadd, 1) := by decide +kernel
theorem dL_law_1532 : decode cL_law 1532 = .ok (.iaload, 1) := by decide +kernel
theorem dL_law_1533 : decode cL_law 1533 = .ok (.aload_n 0, 1) := by decide +kernel
theorem dL_law_1534 : decode cL_law 1534 = .ok (.iload_n 3, 1) := by decide +kernel
theorem dL_law_1535 : decode cL_law 1535 = .ok (.iconst 2, 1) := by decide +kernel
theorem dL_law_1536 : decode cL_law 1536 = .ok (.iadd, 1) := by decide +kernel
theorem dL_law_1537 : decode cL_law 1537 = .ok (.iaload, 1) := by decide +kernel
theorem dL_law_1538 : decode cL_law 1538 = .ok (.aload_n 0, 1) := by decide +kernel
theorem dL_law_1539 : decode cL_law 1539 = .ok (.iload_n 3, 1) := by decide +kernel
theorem dL_law_1540 : decode cL_law 1540 = .ok (.iconst 3, 1) := by decide +kernel
theorem dL_law_1541 : decode cL_law 1541 = .ok (.iadd, 1) := by decide +kernel
theorem dL_law_1542 : decode cL_law 1542 = .ok (.iaload, 1) := by decide +kernel
theorem dL_law_1543 : decode cL_law 1543 = .ok (.aload_n 0, 1) := by decide +kernel
theorem dL_law_1544 : decode cL_law 1544 = .ok (.iload_n 3, 1) := by decide +kernel
theorem dL_law_1545 : decode cL_law 1545 = .ok (.iconst 4, 1) := by decide +kernel
theorem dL_law_1546 : decode cL_law 1546 = .ok (.iadd, 1) := by decide +kernel
theorem dL_law_1547 : decode cL_law 1547 = .ok (.iaload, 1) := by decide +kernel
theorem dL_law_1548 : decode cL_law 1548 = .ok (.invokevirtual 230, 3) := by decide +kernel
theorem dL_law_1551 : decode cL_law 1551 = .ok (.aload_n 2, 1) := by decide +kernel
theorem dL_law_1552 : decode cL_law 1552 = .ok (.aload_n 0, 1) := by decide +kernel
theorem dL_law_1553 : decode cL_law 1553 = .ok (.iload_n 3, 1) := by decide +kernel
theorem dL_law_1554 : decode cL_law 1554 = .ok (.iconst 1, 1) := by decide +kernel
theorem dL_law_1555 : decode cL_law 1555 = .ok (.iadd, 1) := by decide +kernel
theorem dL_law_1556 : decode cL_law 1556 = .ok (.iaload, 1) := by decide +kernel
theorem dL_law_1557 : decode cL_law 1557 = .ok (.aload_n 0, 1) := by decide +kernel
theorem dL_law_1558 : decode cL_law 1558 = .ok (.iload_n 3, 1) := by decide +kernel
theorem dL_law_1559 : decode cL_law 1559 = .ok (.iconst 2, 1) := by decide +kernel
theorem dL_law_1560 : decode cL_law 1560 = .ok (.iadd, 1) := by decide +kernel
theorem dL_law_1561 : decode cL_law 1561 = .ok (.iaload, 1) := by decide +kernel
theorem dL_law_1562 : decode cL_law 1562 = .ok (.aload_n 0, 1) := by decide +kernel
theorem dL_law_1563 : decode cL_law 1563 = .ok (.iload_n 3, 1) := by decide +kernel
theorem dL_law_1564 : decode cL_law 1564 = .ok (.iconst 3, 1) := by decide +kernel
theorem dL_law_1565 : decode cL_law 1565 = .ok (.iadd, 1) := by decide +kernel
theorem dL_law_1566 : decode cL_law 1566 = .ok (.iaload, 1) := by decide +kernel
theorem dL_law_1567 : decode cL_law 1567 = .ok (.aload_n 0, 1) := by decide +kernel
theorem dL_law_1568 : decode cL_law 1568 = .ok (.iload_n 3, 1) := by decide +kernel
theorem dL_law_1569 : decode cL_law 1569 = .ok (.iconst 4, 1) := by decide +kernel
theorem dL_law_1570 : decode cL_law 1570 = .ok (.iadd, 1) := by decide +kernel
theorem dL_law_1571 : decode cL_law 1571 = .ok (.iaload, 1) := by decide +kernel
theorem dL_law_1572 : decode cL_law 1572 = .ok (.invokevirtual 234, 3) := by decide +kernel
theorem dL_law_1575 : decode cL_law 1575 = .ok (.if_icmp .eq 543, 3) := by decide +kernel
theorem dL_law_1580 : decode cL_law 1580 = .ok (.aload_n 1, 1) := by decide +kernel
theorem dL_law_1581 : decode cL_law 1581 = .ok (.aload_n 0, 1) := by decide +kernel
theorem dL_law_1582 : decode cL_law 1582 = .ok (.iload_n 3, 1) := by decide +kernel
theorem dL_law_1583 : decode cL_law 1583 = .ok (.iconst 1, 1) := by decide +kernel
theorem dL_law_1584 : decode cL_law 1584 = .ok (.iadd, 1) := by decide +kernel
theorem dL_law_1585 : decode cL_law 1585 = .ok (.iaload, 1) := by decide +kernel
theorem dL_law_1586 : decode cL_law 1586 = .ok (.aload_n 0, 1) := by decide +kernel
theorem dL_law_1587 : decode cL_law 1587 = .ok (.iload_n 3, 1) := by decide +kernel
theorem dL_law_1588 : decode cL_law 1588 = .ok (.iconst 2, 1) := by decide +kernel
theorem dL_law_1589 : decode cL_law 1589 = .ok (.iadd, 1) := by decide +kernel
theorem dL_law_1590 : decode cL_law 1590 = .ok (.iaload, 1) := by decide +kernel
theorem dL_law_1591 : decode cL_law 1591 = .ok (.invokevirtual 235, 3) := by decide +kernel
theorem dL_law_1594 : decode cL_law 1594 = .ok (.aload_n 2, 1) := by decide +kernel
theorem dL_law_1595 : decode cL_law 1595 = .ok (.aload_n 0, 1) := by decide +kernel
theorem dL_law_1596 : decode cL_law 1596 = .ok (.iload_n 3, 1) := by decide +kernel
theorem dL_law_1597 : decode cL_law 1597 = .ok (.iconst 1, 1) := by decide +kernel
theorem dL_law_1598 : decode cL_law 1598 = .ok (.iadd, 1) := by decide +kernel
theorem dL_law_1599 : decode cL_law 1599 = .ok (.iaload, 1) := by decide +kernel
theorem dL_law_1600 : decode cL_law 1600 = .ok (.aload_n 0, 1) := by decide +kernel
theorem dL_law_1601 : decode cL_law 1601 = .ok (.iload_n 3, 1) := by decide +kernel
theorem dL_law_1602 : decode cL_law 1602 = .ok (.iconst 2, 1) := by decide +kernel
theorem dL_law_1603 : decode cL_law 1603 = .ok (.iadd, 1) := by decide +kernel
theorem dL_law_1604 : decode cL_law 1604 = .ok (.iaload, 1) := by decide +kernel
theorem dL_law_1605 : decode cL_law 1605 = .ok (.invokevirtual 238, 3) := by decide +kernel
theorem dL_law_1608 : decode cL_law 1608 = .ok (.if_icmp .eq 510, 3) := by decide +kernel
theorem dL_law_1613 : decode cL_law 1613 = .ok (.aload_n 1, 1) := by decide +kernel
theorem dL_law_1614 : decode cL_law 1614 = .ok (.aload_n 0, 1) := by decide +kernel
theorem dL_law_1615 : decode cL_law 1615 = .ok (.iload_n 3, 1) := by decide +kernel
theorem dL_law_1616 : decode cL_law 1616 = .ok (.iconst 1, 1) := by decide +kernel
theorem dL_law_1617 : decode cL_law 1617 = .ok (.iadd, 1) := by decide +kernel
theorem dL_law_1618 : decode cL_law 1618 = .ok (.iaload, 1) := by decide +kernel
theorem dL_law_1619 : decode cL_law 1619 = .ok (.invokevirtual 239, 3) := by decide +kernel
theorem dL_law_1622 : decode cL_law 1622 = .ok (.aload_n 2, 1) := by decide +kernel
theorem dL_law_1623 : decode cL_law 1623 = .ok (.aload_n 0, 1) := by decide +kernel
theorem dL_law_1624 : decode cL_law 1624 = .ok (.iload_n 3, 1) := by decide +kernel
theorem dL_law_1625 : decode cL_law 1625 = .ok (.iconst 1, 1) := by decide +kernel
theorem dL_law_1626 : decode cL_law 1626 = .ok (.iadd, 1) := by decide +kernel
theorem dL_law_1627 : decode cL_law 1627 = .ok (.iaload, 1) := by decide +kernel
theorem dL_law_1628 : decode cL_law 1628 = .ok (.invokevirtual 242, 3) := by decide +kernel
theorem dL_law_1631 : decode cL_law 1631 = .ok (.if_icmp .eq 487, 3) := by decide +kernel
theorem dL_law_1636 : decode cL_law 1636 = .ok (.aload_n 1, 1) := by decide +kernel
theorem dL_law_1637 : decode cL_law 1637 = .ok (.aload_n 0, 1) := by decide +kernel
theorem dL_law_1638 : decode cL_law 1638 = .ok (.iload_n 3, 1) := by decide +kernel
theorem dL_law_1639 : decode cL_law 1639 = .ok (.iconst 1, 1) := by decide +kernel
theorem dL_law_1640 : decode cL_law 1640 = .ok (.iadd, 1) := by decide +kernel
theorem dL_law_1641 : decode cL_law 1641 = .ok (.iaload, 1) := by decide +kernel
theorem dL_law_1642 : decode cL_law 1642 = .ok (.aload_n 0, 1) := by decide +kernel
theorem dL_law_1643 : decode cL_law 1643 = .ok (.iload_n 3, 1) := by decide +kernel
theorem dL_law_1644 : decode cL_law 1644 = .ok (.iconst 2, 1) := by decide +kernel
theorem dL_law_1645 : decode cL_law 1645 = .ok (.iadd, 1) := by decide +kernel
theorem dL_law_1646 : decode cL_law 1646 = .ok (.iaload, 1) := by decide +kernel
theorem dL_law_1647 : decode cL_law 1647 = .ok (.invokevirtual 243, 3) := by decide +kernel
theorem dL_law_1650 : decode cL_law 1650 = .ok (.aload_n 2, 1) := by decide +kernel
theorem dL_law_1651 : decode cL_law 1651 = .ok (.aload_n 0, 1) := by decide +kernel
theorem dL_law_1652 : decode cL_law 1652 = .ok (.iload_n 3, 1) := by decide +kernel
theorem dL_law_1653 : decode cL_law 1653 = .ok (.iconst 1, 1) := by decide +kernel
theorem dL_law_1654 : decode cL_law 1654 = .ok (.iadd, 1) := by decide +kernel
theorem dL_law_1655 : decode cL_law 1655 = .ok (.iaload, 1) := by decide +kernel
theorem dL_law_1656 : decode cL_law 1656 = .ok (.aload_n 0, 1) := by decide +kernel
theorem dL_law_1657 : decode cL_law 1657 = .ok (.iload_n 3, 1) := by decide +kernel
theorem dL_law_1658 : decode cL_law 1658 = .ok (.iconst 2, 1) := by decide +kernel
theorem dL_law_1659 : decode cL_law 1659 = .ok (.iadd, 1) := by decide +kernel
theorem dL_law_1660 : decode cL_law 1660 = .ok (.iaload, 1) := by decide +kernel
theorem dL_law_1661 : decode cL_law 1661 = .ok (.invokevirtual 246, 3) := by decide +kernel
theorem dL_law_1664 : decode cL_law 1664 = .ok (.if_icmp .eq 454, 3) := by decide +kernel
theorem dL_law_1669 : decode cL_law 1669 = .ok (.aload_n 1, 1) := by decide +kernel
theorem dL_law_1670 : decode cL_law 1670 = .ok (.aload_n 0, 1) := by decide +kernel
theorem dL_law_1671 : decode cL_law 1671 = .ok (.iload_n 3, 1) := by decide +kernel
theorem dL_law_1672 : decode cL_law 1672 = .ok (.iconst 1, 1) := by decide +kernel
theorem dL_law_1673 : decode cL_law 1673 = .ok (.iadd, 1) := by decide +kernel
theorem dL_law_1674 : decode cL_law 1674 = .ok (.iaload, 1) := by decide +kernel
theorem dL_law_1675 : decode cL_law 1675 = .ok (.aload_n 0, 1) := by decide +kernel
theorem dL_law_1676 : decode cL_law 1676 = .ok (.iload_n 3, 1) := by decide +kernel
theorem dL_law_1677 : decode cL_law 1677 = .ok (.iconst 2, 1) := by decide +kernel
theorem dL_law_1678 : decode cL_law 1678 = .ok (.iadd, 1) := by decide +kernel
theorem dL_law_1679 : decode cL_law 1679 = .ok (.iaload, 1) := by decide +kernel
theorem dL_law_1680 : decode cL_law 1680 = .ok (.invokevirtual 247, 3) := by decide +kernel
theorem dL_law_1683 : decode cL_law 1683 = .ok (.aload_n 2, 1) := by decide +kernel
theorem dL_law_1684 : decode cL_law 1684 = .ok (.aload_n 0, 1) := by decide +kernel
theorem dL_law_1685 : decode cL_law 1685 = .ok (.iload_n 3, 1) := by decide +kernel
theorem dL_law_1686 : decode cL_law 1686 = .ok (.iconst 1, 1) := by decide +kernel
theorem dL_law_1687 : decode cL_law 1687 = .ok (.iadd, 1) := by decide +kernel
theorem dL_law_1688 : decode cL_law 1688 = .ok (.iaload, 1) := by decide +kernel
theorem dL_law_1689 : decode cL_law 1689 = .ok (.aload_n 0, 1) := by decide +kernel
theorem dL_law_1690 : decode cL_law 1690 = .ok (.iload_n 3, 1) := by decide +kernel
theorem dL_law_1691 : decode cL_law 1691 = .ok (.iconst 2, 1) := by decide +kernel
theorem dL_law_1692 : decode cL_law 1692 = .ok (.iadd, 1) := by decide +kernel
theorem dL_law_1693 : decode cL_law 1693 = .ok (.iaload, 1) := by decide +kernel
theorem dL_law_1694 : decode cL_law 1694 = .ok (.invokevirtual 250, 3) := by decide +kernel
theorem dL_law_1697 : decode cL_law 1697 = .ok (.if_icmp .eq 421, 3) := by decide +kernel
theorem dL_law_1702 : decode cL_law 1702 = .ok (.aload_n 1, 1) := by decide +kernel
theorem dL_law_1703 : decode cL_law 1703 = .ok (.aload_n 0, 1) := by decide +kernel
theorem dL_law_1704 : decode cL_law 1704 = .ok (.iload_n 3, 1) := by decide +kernel
theorem dL_law_1705 : decode cL_law 1705 = .ok (.iconst 1, 1) := by decide +kernel
theorem dL_law_1706 : decode cL_law 1706 = .ok (.iadd, 1) := by decide +kernel
theorem dL_law_1707 : decode cL_law 1707 = .ok (.iaload, 1) := by decide +kernel
theorem dL_law_1708 : decode cL_law 1708 = .ok (.aload_n 0, 1) := by decide +kernel
theorem dL_law_1709 : decode cL_law 1709 = .ok (.iload_n 3, 1) := by decide +kernel
theorem dL_law_1710 : decode cL_law 1710 = .ok (.iconst 2, 1) := by decide +kernel
theorem dL_law_1711 : decode cL_law 1711 = .ok (.iadd, 1) := by decide +kernel
theorem dL_law_1712 : decode cL_law 1712 = .ok (.iaload, 1) := by decide +kernel
theorem dL_law_1713 : decode cL_law 1713 = .ok (.invokevirtual 251, 3) := by decide +kernel
theorem dL_law_1716 : decode cL_law 1716 = .ok (.aload_n 2, 1) := by decide +kernel
theorem dL_law_1717 : decode cL_law 1717 = .ok (.aload_n 0, 1) := by decide +kernel
theorem dL_law_1718 : decode cL_law 1718 = .ok (.iload_n 3, 1) := by decide +kernel
theorem dL_law_1719 : decode cL_law 1719 = .ok (.iconst 1, 1) := by decide +kernel
theorem dL_law_1720 : decode cL_law 1720 = .ok (.iadd, 1) := by decide +kernel
theorem dL_law_1721 : decode cL_law 1721 = .ok (.iaload, 1) := by decide +kernel
theorem dL_law_1722 : decode cL_law 1722 = .ok (.aload_n 0, 1) := by decide +kernel
theorem dL_law_1723 : decode cL_law 1723 = .ok (.iload_n 3, 1) := by decide +kernel
theorem dL_law_1724 : decode cL_law 1724 = .ok (.iconst 2, 1) := by decide +kernel
theorem dL_law_1725 : decode cL_law 1725 = .ok (.iadd, 1) := by decide +kernel
theorem dL_law_1726 : decode cL_law 1726 = .ok (.iaload, 1) := by decide +kernel
theorem dL_law_1727 : decode cL_law 1727 = .ok (.invokevirtual 254, 3) := by decide +kernel
theorem dL_law_1730 : decode cL_law 1730 = .ok (.if_icmp .eq 388, 3) := by decide +kernel
theorem dL_law_1735 : decode cL_law 1735 = .ok (.aload_n 1, 1) := by decide +kernel
theorem dL_law_1736 : decode cL_law 1736 = .ok (.invokevirtual 255, 3) := by decide +kernel
theorem dL_law_1739 : decode cL_law 1739 = .ok (.aload_n 2, 1) := by decide +kernel
theorem dL_law_1740 : decode cL_law 1740 = .ok (.invokevirtual 258, 3) := by decide +kernel
theorem dL_law_1743 : decode cL_law 1743 = .ok (.if_icmp .eq 375, 3) := by decide +kernel
theorem dL_law_1748 : decode cL_law 1748 = .ok (.aload_n 1, 1) := by decide +kernel
theorem dL_law_1749 : decode cL_law 1749 = .ok (.invokevirtual 259, 3) := by decide +kernel
theorem dL_law_1752 : decode cL_law 1752 = .ok (.aload_n 2, 1) := by decide +kernel
theorem dL_law_1753 : decode cL_law 1753 = .ok (.invokevirtual 262, 3) := by decide +kernel
theorem dL_law_1756 : decode cL_law 1756 = .ok (.if_icmp .eq 362, 3) := by decide +kernel
theorem dL_law_1761 : decode cL_law 1761 = .ok (.aload_n 1, 1) := by decide +kernel
theorem dL_law_1762 : decode cL_law 1762 = .ok (.aload_n 0, 1) := by decide +kernel
theorem dL_law_1763 : decode cL_law 1763 = .ok (.iload_n 3, 1) := by decide +kernel
theorem dL_law_1764 : decode cL_law 1764 = .ok (.iconst 1, 1) := by decide +kernel
theorem dL_law_1765 : decode cL_law 1765 = .ok (.iadd, 1) := by decide +kernel
theorem dL_law_1766 : decode cL_law 1766 = .ok (.iaload, 1) := by decide +kernel
theorem dL_law_1767 : decode cL_law 1767 = .ok (.aload_n 0, 1) := by decide +kernel
theorem dL_law_1768 : decode cL_law 1768 = .ok (.iload_n 3, 1) := by decide +kernel
theorem dL_law_1769 : decode cL_law 1769 = .ok (.iconst 2, 1) := by decide +kernel
theorem dL_law_1770 : decode cL_law 1770 = .ok (.iadd, 1) := by decide +kernel
theorem dL_law_1771 : decode cL_law 1771 = .ok (.iaload, 1) := by decide +kernel
theorem dL_law_1772 : decode cL_law 1772 = .ok (.invokevirtual 263, 3) := by decide +kernel
theorem dL_law_1775 : decode cL_law 1775 = .ok (.aload_n 2, 1) := by decide +kernel
theorem dL_law_1776 : decode cL_law 1776 = .ok (.aload_n 0, 1) := by decide +kernel
theorem dL_law_1777 : decode cL_law 1777 = .ok (.iload_n 3, 1) := by decide +kernel
theorem dL_law_1778 : decode cL_law 1778 = .ok (.iconst 1, 1) := by decide +kernel
theorem dL_law_1779 : decode cL_law 1779 = .ok (.iadd, 1) := by decide +kernel
theorem dL_law_1780 : decode cL_law 1780 = .ok (.iaload, 1) := by decide +kernel
theorem dL_law_1781 : decode cL_law 1781 = .ok (.aload_n 0, 1) := by decide +kernel
theorem dL_law_1782 : decode cL_law 1782 = .ok (.iload_n 3, 1) := by decide +kernel
theorem dL_law_1783 : decode cL_law 1783 = .ok (.iconst 2, 1) := by decide +kernel
theorem dL_law_1784 : decode cL_law 1784 = .ok (.iadd, 1) := by decide +kernel
theorem dL_law_1785 : decode cL_law 1785 = .ok (.iaload, 1) := by decide +kernel
theorem dL_law_1786 : decode cL_law 1786 = .ok (.invokevirtual 266, 3) := by decide +kernel
theorem dL_law_1789 : decode cL_law 1789 = .ok (.if_icmp .eq 329, 3) := by decide +kernel
theorem dL_law_1794 : decode cL_law 1794 = .ok (.aload_n 1, 1) := by decide +kernel
theorem dL_law_1795 : decode cL_law 1795 = .ok (.aload_n 0, 1) := by decide +kernel
theorem dL_law_1796 : decode cL_law 1796 = .ok (.iload_n 3, 1) := by decide +kernel
theorem dL_law_1797 : decode cL_law 1797 = .ok (.iconst 1, 1) := by decide +kernel
theorem dL_law_1798 : decode cL_law 1798 = .ok (.iadd, 1) := by decide +kernel
theorem dL_law_1799 : decode cL_law 1799 = .ok (.iaload, 1) := by decide +kernel
theorem dL_law_1800 : decode cL_law 1800 = .ok (.aload_n 0, 1) := by decide +kernel
theorem dL_law_1801 : decode cL_law 1801 = .ok (.iload_n 3, 1) := by decide +kernel
