theorem dL_law_1514 : decode cL_law 1514 = .ok (.iconst 1, 1) := by decide +kernel
theorem dL_law_1515 : decode cL_law 1515 = .ok (.iadd, 1) := by decide +kernel
theorem dL_law_1516 : decode cL_law 1516 = .ok (.iaload, 1) := by decide +kernel
theorem dL_law_1517 : decode cL_law 1517 = .ok (.aload_n 0, 1) := by decide +kernel
theorem dL_law_1518 : decode cL_law 1518 = .ok (.iload_n 3, 1) := by decide +kernel
theorem dL_law_1519 : decode cL_law 1519 = .ok (.iconst 2, 1) := by decide +kernel
theorem dL_law_1520 : decode cL_law 1520 = .ok (.iadd, 1) := by decide +kernel
theorem dL_law_1521 : decode cL_law 1521 = .ok (.iaload, 1) := by decide +kernel
theorem dL_law_1522 : decode cL_law 1522 = .ok (.invokevirtual 186, 3) := by decide +kernel
theorem dL_law_1525 : decode cL_law 1525 = .ok (.if_icmp .eq 436, 3) := by decide +kernel
theorem dL_law_1528 : decode cL_law 1528 = .ok (.iconst 0, 1) := by decide +kernel
theorem dL_law_1529 : decode cL_law 1529 = .ok (.ireturn, 1) := by decide +kernel
theorem dL_law_1530 : decode cL_law 1530 = .ok (.aload_n 1, 1) := by decide +kernel
theorem dL_law_1531 : decode cL_law 1531 = .ok (.aload_n 0, 1) := by decide +kernel
theorem dL_law_1532 : decode cL_law 1532 = .ok (.iload_n 3, 1) := by decide +kernel
theorem dL_law_1533 : decode cL_law 1533 = .ok (.iconst 1, 1) := by decide +kernel
theorem dL_law_1534 : decode cL_law 1534 = .ok (.iadd, 1) := by decide +kernel
theorem dL_law_1535 : decode cL_law 1535 = .ok (.iaload, 1) := by decide +kernel
theorem dL_law_1536 : decode cL_law 1536 = .ok (.aload_n 0, 1) := by decide +kernel
theorem dL_law_1537 : decode cL_law 1537 = .ok (.iload_n 3, 1) := by decide +kernel
theorem dL_law_1538 : decode cL_law 1538 = .ok (.iconst 2, 1) := by decide +kernel
theorem dL_law_1539 : decode cL_law 1539 = .ok (.iadd, 1) := by decide +kernel
theorem dL_law_1540 : decode cL_law 1540 = .ok (.iaload, 1) := by decide +kernel
theorem dL_law_1541 : decode cL_law 1541 = .ok (.invokevirtual 187, 3) := by decide +kernel
theorem dL_law_1544 : decode cL_law 1544 = .ok (.aload_n 2, 1) := by decide +kernel
theorem dL_law_1545 : decode cL_law 1545 = .ok (.aload_n 0, 1) := by decide +kernel
theorem dL_law_1546 : decode cL_law 1546 = .ok (.iload_n 3, 1) := by decide +kernel
theorem dL_law_1547 : decode cL_law 1547 = .ok (.iconst 1, 1) := by decide +kernel
theorem dL_law_1548 : decode cL_law 1548 = .ok (.iadd, 1) := by decide +kernel
theorem dL_law_1549 : decode cL_law 1549 = .ok (.iaload, 1) := by decide +kernel
theorem dL_law_1550 : decode cL_law 1550 = .ok (.aload_n 0, 1) := by decide +kernel
theorem dL_law_1551 : decode cL_law 1551 = .ok (.iload_n 3, 1) := by decide +kernel
theorem dL_law_1552 : decode cL_law 1552 = .ok (.iconst 2, 1) := by decide +kernel
theorem dL_law_1553 : decode cL_law 1553 = .ok (.iadd, 1) := by decide +kernel
theorem dL_law_1554 : decode cL_law 1554 = .ok (.iaload, 1) := by decide +kernel
theorem dL_law_1555 : decode cL_law 1555 = .ok (.invokevirtual 190, 3) := by decide +kernel
theorem dL_law_1558 : decode cL_law 1558 = .ok (.if_icmp .eq 403, 3) := by decide +kernel
theorem dL_law_1561 : decode cL_law 1561 = .ok (.iconst 0, 1) := by decide +kernel
theorem dL_law_1562 : decode cL_law 1562 = .ok (.ireturn, 1) := by decide +kernel
theorem dL_law_1563 : decode cL_law 1563 = .ok (.aload_n 1, 1) := by decide +kernel
theorem dL_law_1564 : decode cL_law 1564 = .ok (.aload_n 0, 1) := by decide +kernel
theorem dL_law_1565 : decode cL_law 1565 = .ok (.iload_n 3, 1) := by decide +kernel
theorem dL_law_1566 : decode cL_law 1566 = .ok (.iconst 1, 1) := by decide +kernel
theorem dL_law_1567 : decode cL_law 1567 = .ok (.iadd, 1) := by decide +kernel
theorem dL_law_1568 : decode cL_law 1568 = .ok (.iaload, 1) := by decide +kernel
theorem dL_law_1569 : decode cL_law 1569 = .ok (.invokevirtual 191, 3) := by decide +kernel
theorem dL_law_1572 : decode cL_law 1572 = .ok (.aload_n 2, 1) := by decide +kernel
theorem dL_law_1573 : decode cL_law 1573 = .ok (.aload_n 0, 1) := by decide +kernel
theorem dL_law_1574 : decode cL_law 1574 = .ok (.iload_n 3, 1) := by decide +kernel
theorem dL_law_1575 : decode cL_law 1575 = .ok (.iconst 1, 1) := by decide +kernel
theorem dL_law_1576 : decode cL_law 1576 = .ok (.iadd, 1) := by decide +kernel
theorem dL_law_1577 : decode cL_law 1577 = .ok (.iaload, 1) := by decide +kernel
theorem dL_law_1578 : decode cL_law 1578 = .ok (.invokevirtual 194, 3) := by decide +kernel
theorem dL_law_1581 : decode cL_law 1581 = .ok (.if_icmp .eq 380, 3) := by decide +kernel
theorem dL_law_1584 : decode cL_law 1584 = .ok (.iconst 0, 1) := by decide +kernel
theorem dL_law_1585 : decode cL_law 1585 = .ok (.ireturn, 1) := by decide +kernel
theorem dL_law_1586 : decode cL_law 1586 = .ok (.aload_n 1, 1) := by decide +kernel
theorem dL_law_1587 : decode cL_law 1587 = .ok (.aload_n 0, 1) := by decide +kernel
theorem dL_law_1588 : decode cL_law 1588 = .ok (.iload_n 3, 1) := by decide +kernel
theorem dL_law_1589 : decode cL_law 1589 = .ok (.iconst 1, 1) := by decide +kernel
theorem dL_law_1590 : decode cL_law 1590 = .ok (.iadd, 1) := by decide +kernel
theorem dL_law_1591 : decode cL_law 1591 = .ok (.iaload, 1) := by decide +kernel
theorem dL_law_1592 : decode cL_law 1592 = .ok (.invokevirtual 195, 3) := by decide +kernel
theorem dL_law_1595 : decode cL_law 1595 = .ok (.aload_n 2, 1) := by decide +kernel
theorem dL_law_1596 : decode cL_law 1596 = .ok (.aload_n 0, 1) := by decide +kernel
theorem dL_law_1597 : decode cL_law 1597 = .ok (.iload_n 3, 1) := by decide +kernel
theorem dL_law_1598 : decode cL_law 1598 = .ok (.iconst 1, 1) := by decide +kernel
theorem dL_law_1599 : decode cL_law 1599 = .ok (.iadd, 1) := by decide +kernel
theorem dL_law_1600 : decode cL_law 1600 = .ok (.iaload, 1) := by decide +kernel
theorem dL_law_1601 : decode cL_law 1601 = .ok (.invokevirtual 198, 3) := by decide +kernel
theorem dL_law_1604 : decode cL_law 1604 = .ok (.if_icmp .eq 357, 3) := by decide +kernel
theorem dL_law_1607 : decode cL_law 1607 = .ok (.iconst 0, 1) := by decide +kernel
theorem dL_law_1608 : decode cL_law 1608 = .ok (.ireturn, 1) := by decide +kernel
theorem dL_law_1609 : decode cL_law 1609 = .ok (.aload_n 1, 1) := by decide +kernel
theorem dL_law_1610 : decode cL_law 1610 = .ok (.aload_n 0, 1) := by decide +kernel
theorem dL_law_1611 : decode cL_law 1611 = .ok (.iload_n 3, 1) := by decide +kernel
theorem dL_law_1612 : decode cL_law 1612 = .ok (.iconst 1, 1) := by decide +kernel
theorem dL_law_1613 : decode cL_law 1613 = .ok (.iadd, 1) := by decide +kernel
theorem dL_law_1614 : decode cL_law 1614 = .ok (.iaload, 1) := by decide +kernel
theorem dL_law_1615 : decode cL_law 1615 = .ok (.aload_n 0, 1) := by decide +kernel
theorem dL_law_1616 : decode cL_law 1616 = .ok (.iload_n 3, 1) := by decide +kernel
theorem dL_law_1617 : decode cL_law 1617 = .ok (.iconst 2, 1) := by decide +kernel
theorem dL_law_1618 : decode cL_law 1618 = .ok (.iadd, 1) := by decide +kernel
theorem dL_law_1619 : decode cL_law 1619 = .ok (.iaload, 1) := by decide +kernel
theorem dL_law_1620 : decode cL_law 1620 = .ok (.invokevirtual 199, 3) := by decide +kernel
theorem dL_law_1623 : decode cL_law 1623 = .ok (.aload_n 2, 1) := by decide +kernel
theorem dL_law_1624 : decode cL_law 1624 = .ok (.aload_n 0, 1) := by decide +kernel
theorem dL_law_1625 : decode cL_law 1625 = .ok (.iload_n 3, 1) := by decide +kernel
theorem dL_law_1626 : decode cL_law 1626 = .ok (.iconst 1, 1) := by decide +kernel
theorem dL_law_1627 : decode cL_law 1627 = .ok (.iadd, 1) := by decide +kernel
theorem dL_law_1628 : decode cL_law 1628 = .ok (.iaload, 1) := by decide +kernel
theorem dL_law_1629 : decode cL_law 1629 = .ok (.aload_n 0, 1) := by decide +kernel
theorem dL_law_1630 : decode cL_law 1630 = .ok (.iload_n 3, 1) := by decide +kernel
theorem dL_law_1631 : decode cL_law 1631 = .ok (.iconst 2, 1) := by decide +kernel
theorem dL_law_1632 : decode cL_law 1632 = .ok (.iadd, 1) := by decide +kernel
theorem dL_law_1633 : decode cL_law 1633 = .ok (.iaload, 1) := by decide +kernel
theorem dL_law_1634 : decode cL_law 1634 = .ok (.invokevirtual 202, 3) := by decide +kernel
theorem dL_law_1637 : decode cL_law 1637 = .ok (.if_icmp .eq 324, 3) := by decide +kernel
theorem dL_law_1640 : decode cL_law 1640 = .ok (.iconst 0, 1) := by decide +kernel
theorem dL_law_1641 : decode cL_law 1641 = .ok (.ireturn, 1) := by decide +kernel
theorem dL_law_1642 : decode cL_law 1642 = .ok (.aload_n 1, 1) := by decide +kernel
theorem dL_law_1643 : decode cL_law 1643 = .ok (.aload_n 0, 1) := by decide +kernel
theorem dL_law_1644 : decode cL_law 1644 = .ok (.iload_n 3, 1) := by decide +kernel
theorem dL_law_1645 : decode cL_law 1645 = .ok (.iconst 1, 1) := by decide +kernel
theorem dL_law_1646 : decode cL_law 1646 = .ok (.iadd, 1) := by decide +kernel
theorem dL_law_1647 : decode cL_law 1647 = .ok (.iaload, 1) := by decide +kernel
theorem dL_law_1648 : decode cL_law 1648 = .ok (.invokevirtual 203, 3) := by decide +kernel
theorem dL_law_1651 : decode cL_law 1651 = .ok (.aload_n 2, 1) := by decide +kernel
theorem dL_law_1652 : decode cL_law 1652 = .ok (.aload_n 0, 1) := by decide +kernel
theorem dL_law_1653 : decode cL_law 1653 = .ok (.iload_n 3, 1) := by decide +kernel
theorem dL_law_1654 : decode cL_law 1654 = .ok (.iconst 1, 1) := by decide +kernel
theorem dL_law_1655 : decode cL_law 1655 = .ok (.iadd, 1) := by decide +kernel
theorem dL_law_1656 : decode cL_law 1656 = .ok (.iaload, 1) := by decide +kernel
theorem dL_law_1657 : decode cL_law 1657 = .ok (.invokevirtual 206, 3) := by decide +kernel
theorem dL_law_1660 : decode cL_law 1660 = .ok (.if_icmp .eq 301, 3) := by decide +kernel
theorem dL_law_1663 : decode cL_law 1663 = .ok (.iconst 0, 1) := by decide +kernel
theorem dL_law_1664 : decode cL_law 1664 = .ok (.ireturn, 1) := by decide +kernel
theorem dL_law_1665 : decode cL_law 1665 = .ok (.aload_n 1, 1) := by decide +kernel
theorem dL_law_1666 : decode cL_law 1666 = .ok (.aload_n 0, 1) := by decide +kernel
theorem dL_law_1667 : decode cL_law 1667 = .ok (.iload_n 3, 1) := by decide +kernel
theorem dL_law_1668 : decode cL_law 1668 = .ok (.iconst 1, 1) := by decide +kernel
theorem dL_law_1669 : decode cL_law 1669 = .ok (.iadd, 1) := by decide +kernel
theorem dL_law_1670 : decode cL_law 1670 = .ok (.iaload, 1) := by decide +kernel
theorem dL_law_1671 : decode cL_law 1671 = .ok (.aload_n 0, 1) := by decide +kernel
theorem dL_law_1672 : decode cL_law 1672 = .ok (.iload_n 3, 1) := by decide +kernel
theorem dL_law_1673 : decode cL_law 1673 = .ok (.iconst 2, 1) := by decide +kernel
theorem dL_law_1674 : decode cL_law 1674 = .ok (.iadd, 1) := by decide +kernel
theorem dL_law_1675 : decode cL_law 1675 = .ok (.iaload, 1) := by decide +kernel
theorem dL_law_1676 : decode cL_law 1676 = .ok (.invokevirtual 207, 3) := by decide +kernel
theorem dL_law_1679 : decode cL_law 1679 = .ok (.aload_n 2, 1) := by decide +kernel
theorem dL_law_1680 : decode cL_law 1680 = .ok (.aload_n 0, 1) := by decide +kernel
theorem dL_law_1681 : decode cL_law 1681 = .ok (.iload_n 3, 1) := by decide +kernel
theorem dL_law_1682 : decode cL_law 1682 = .ok (.iconst 1, 1) := by decide +kernel
theorem dL_law_1683 : decode cL_law 1683 = .ok (.iadd, 1) := by decide +kernel
theorem dL_law_1684 : decode cL_law 1684 = .ok (.iaload, 1) := by decide +kernel
theorem dL_law_1685 : decode cL_law 1685 = .ok (.aload_n 0, 1) := by decide +kernel
theorem dL_law_1686 : decode cL_law 1686 = .ok (.iload_n 3, 1) := by decide +kernel
theorem dL_law_1687 : decode cL_law 1687 = .ok (.iconst 2, 1) := by decide +kernel
theorem dL_law_1688 : decode cL_law 1688 = .ok (.iadd, 1) := by decide +kernel
theorem dL_law_1689 : decode cL_law 1689 = .ok (.iaload, 1) := by decide +kernel
theorem dL_law_1690 : decode cL_law 1690 = .ok (.invokevirtual 210, 3) := by decide +kernel
theorem dL_law_1693 : decode cL_law 1693 = .ok (.if_icmp .eq 268, 3) := by decide +kernel
theorem dL_law_1696 : decode cL_law 1696 = .ok (.iconst 0, 1) := by decide +kernel
theorem dL_law_1697 : decode cL_law 1697 = .ok (.ireturn, 1) := by decide +kernel
theorem dL_law_1698 : decode cL_law 1698 = .ok (.aload_n 1, 1) := by decide +kernel
theorem dL_law_1699 : decode cL_law 1699 = .ok (.aload_n 0, 1) := by decide +kernel
theorem dL_law_1700 : decode cL_law 1700 = .ok (.iload_n 3, 1) := by decide +kernel
theorem dL_law_1701 : decode cL_law 1701 = .ok (.iconst 1, 1) := by decide +kernel
theorem dL_law_1702 : decode cL_law 1702 = .ok (.iadd, 1) := by decide +kernel
theorem dL_law_1703 : decode cL_law 1703 = .ok (.iaload, 1) := by decide +kernel
theorem dL_law_1704 : decode cL_law 1704 = .ok (.aload_n 0, 1) := by decide +kernel
theorem dL_law_1705 : decode cL_law 1705 = .ok (.iload_n 3, 1) := by decide +kernel
theorem dL_law_1706 : decode cL_law 1706 = .ok (.iconst 2, 1) := by decide +kernel
theorem dL_law_1707 : decode cL_law 1707 = .ok (.iadd, 1) := by decide +kernel
theorem dL_law_1708 : decode cL_law 1708 = .ok (.iaload, 1) := by decide +kernel
theorem dL_law_1709 : decode cL_law 1709 = .ok (.aload_n 0, 1) := by decide +kernel
theorem dL_law_1710 : decode cL_law 1710 = .ok (.iload_n 3, 1) := by decide +kernel
theorem dL_law_1711 : decode cL_law 1711 = .ok (.iconst 3, 1) := by decide +kernel
theorem dL_law_1712 : decode cL_law 1712 = .ok (.iadd, 1) := by decide +kernel
theorem dL_law_1713 : decode cL_law 1713 = .ok (.iaload, 1) := by decide +kernel
theorem dL_law_1714 : decode cL_law 1714 = .ok (.invokevirtual 211, 3) := by decide +kernel
theorem dL_law_1717 : decode cL_law 1717 = .ok (.aload_n 2, 1) := by decide +kernel
theorem dL_law_1718 : decode cL_law 1718 = .ok (.aload_n 0, 1) := by decide +kernel
theorem dL_law_1719 : decode cL_law 1719 = .ok (.iload_n 3, 1) := by decide +kernel
theorem dL_law_1720 : decode cL_law 1720 = .ok (.iconst 1, 1) := by decide +kernel
theorem dL_law_1721 : decode cL_law 1721 = .ok (.iadd, 1) := by decide +kernel
theorem dL_law_1722 : decode cL_law 1722 = .ok (.iaload, 1) := by decide +kernel
theorem dL_law_1723 : decode cL_law 1723 = .ok (.aload_n 0, 1) := by decide +kernel
theorem dL_law_1724 : decode cL_law 1724 = .ok (.iload_n 3, 1) := by decide +kernel
theorem dL_law_1725 : decode cL_law 1725 = .ok (.iconst 2, 1) := by decide +kernel
theorem dL_law_1726 : decode cL_law 1726 = .ok (.iadd, 1) := by decide +kernel
theorem dL_law_1727 : decode cL_law 1727 = .ok (.iaload, 1) := by decide +kernel
theorem dL_law_1728 : decode cL_law 1728 = .ok (.aload_n 0, 1) := by decide +kernel
theorem dL_law_1729 : decode cL_law 1729 = .ok (.iload_n 3, 1) := by decide +kernel
theorem dL_law_1730 : decode cL_law 1730 = .ok (.iconst 3, 1) := by decide +kernel
theorem dL_law_1731 : decode cL_law 1731 = .ok (.iadd, 1) := by decide +kernel
theorem dL_law_1732 : decode cL_law 1732 = .ok (.iaload, 1) := by decide +kernel
theorem dL_law_1733 : decode cL_law 1733 = .ok (.invokevirtual 214, 3) := by decide +kernel
theorem dL_law_1736 : decode cL_law 1736 = .ok (.if_icmp .eq 225, 3) := by decide +kernel
theorem dL_law_1739 : decode cL_law 1739 = .ok (.iconst 0, 1) := by decide +kernel
theorem dL_law_1740 : decode cL_law 1740 = .ok (.ireturn, 1) := by decide +kernel
theorem dL_law_1741 : decode cL_law 1741 = .ok (.aload_n 1, 1) := by decide +kernel
theorem dL_law_1742 : decode cL_law 1742 = .ok (.aload_n 0, 1) := by decide +kernel
theorem dL_law_1743 : decode cL_law 1743 = .ok (.iload_n 3, 1) := by decide +kernel
theorem dL_law_1744 : decode cL_law 1744 = .ok (.iconst 1, 1) := by decide +kernel
theorem dL_law_1745 : decode cL_law 1745 = .ok (.iadd, 1) := by decide +kernel
theorem dL_law_1746 : decode cL_law 1746 = .ok (.iaload, 1) := by decide +kernel
theorem dL_law_1747 : decode cL_law 1747 = .ok (.aload_n 0, 1) := by decide +kernel
theorem dL_law_1748 : decode cL_law 1748 = .ok (.iload_n 3, 1) := by decide +kernel
theorem dL_law_1749 : decode cL_law 1749 = .ok (.iconst 2, 1) := by decide +kernel
theorem dL_law_1750 : decode cL_law 1750 = .ok (.iadd, 1) := by decide +kernel
theorem dL_law_1751 : decode cL_law 1751 = .ok (.iaload, 1) := by decide +kernel
theorem dL_law_1752 : decode cL_law 1752 = .ok (.invokevirtual 215, 3) := by decide +kernel
theorem dL_law_1755 : decode cL_law 1755 = .ok (.aload_n 2, 1) := by decide +kernel
theorem dL_law_1756 : decode cL_law 1756 = .ok (.aload_n 0, 1) := by decide +kernel
theorem dL_law_1757 : decode cL_law 1757 = .ok (.iload_n 3, 1) := by decide +kernel
theorem dL_law_1758 : decode cL_law 1758 = .ok (.iconst 1, 1) := by decide +kernel
theorem dL_law_1759 : decode cL_law 1759 = .ok (.iadd, 1) := by decide +kernel
theorem dL_law_1760 : decode cL_law 1760 = .ok (.iaload, 1) := by decide +kernel
theorem dL_law_1761 : decode cL_law 1761 = .ok (.aload_n 0, 1) := by decide +kernel
theorem dL_law_1762 : decode cL_law 1762 = .ok (.iload_n 3, 1) := by decide +kernel
theorem dL_law_1763 : decode cL_law 1763 = .ok (.iconst 2, 1) := by decide +kernel
theorem dL_law_1764 : decode cL_law 1764 = .ok (.iadd, 1) := by decide +kernel
theorem dL_law_1765 : decode cL_law 1765 = .ok (.iaload, 1) := by decide +kernel
theorem dL_law_1766 : decode cL_law 1766 = .ok (.invokevirtual 218, 3) := by decide +kernel
theorem dL_law_1769 : decode cL_law 1769 = .ok (.if_icmp .eq 192, 3) := by decide +kernel
theorem dL_law_1772 : decode cL_law 1772 = .ok (.iconst 0, 1) := by decide +kernel
theorem dL_law_1773 : decode cL_law 1773 = .ok (.ireturn, 1) := by decide +kernel
theorem dL_law_1774 : decode cL_law 1774 = .ok (.aload_n 1, 1) := by decide +kernel
theorem dL_law_1775 : decode cL_law 1775 = .ok (.aload_n 0, 1) := by decide +kernel
theorem dL_law_1776 : decode cL_law 1776 = .ok (.iload_n 3, 1) := by decide +kernel
theorem dL_law_1777 : decode cL_law 1777 = .ok (.iconst 1, 1) := by decide +kernel
theorem dL_law_1778 : decode cL_law 1778 = .ok (.iadd, 1) := by decide +kernel
theorem dL_law_1779 : decode cL_law 1779 = .ok (.iaload, 1) := by decide +kernel
theorem dL_law_1780 : decode cL_law 1780 = .ok (.aload_n 0, 1) := by decide +kernel
theorem dL_law_1781 : decode cL_law 1781 = .ok (.iload_n 3, 1) := by decide +kernel
theorem dL_law_1782 : decode cL_law 1782 = .ok (.iconst 2, 1) := by decide +kernel
theorem dL_law_1783 : decode cL_law 1783 = .ok (.iadd, 1) := by decide +kernel
theorem dL_law_1784 : decode cL_law 1784 = .ok (.iaload, 1) := by decide +kernel
theorem dL_law_1785 : decode cL_law 1785 = .ok (.invokevirtual 219, 3) := by decide +kernel
theorem dL_law_1788 : decode cL_law 1788 = .ok (.aload_n 2, 1) := by decide +kernel
theorem dL_law_1789 : decode cL_law 1789 = .ok (.aload_n 0, 1) := by decide +kernel
theorem dL_law_1790 : decode cL_law 1790 = .ok (.iload_n 3, 1) := by decide +kernel
theorem dL_law_1791 : decode cL_law 1791 = .ok (.iconst 1, 1) := by decide +kernel
theorem dL_law_1792 : decode cL_law 1792 = .ok (.iadd, 1) := by decide +kernel
theorem dL_law_1793 : decode cL_law 1793 = .ok (.iaload, 1) := by decide +kernel
theorem dL_law_1794 : decode cL_law 1794 = .ok (.aload_n 0, 1) := by decide +kernel
theorem dL_law_1795 : decode cL_law 1795 = .ok (.iload_n 3, 1) := by decide +kernel
theorem dL_law_1796 : decode cL_law 1796 = .ok (.iconst 2, 1) := by decide +kernel
theorem dL_law_1797 : decode cL_law 1797 = .ok (.iadd, 1) := by decide +kernel
theorem dL_law_1798 : decode cL_law 1798 = .ok (.iaload, 1) := by decide +kernel
theorem dL_law_1799 : decode cL_law 1799 = .ok (.invokevirtual 222, 3) := by decide +kernel
theorem dL_law_1802 : decode cL_law 1802 = .ok (.if_icmp .eq 159, 3) := by decide +kernel
theorem dL_law_1805 : decode cL_law 1805 = .ok (.iconst 0, 1) := by decide +kernel
theorem dL_law_1806 : decode cL_law 1806 = .ok (.ireturn, 1) := by decide +kernel
theorem dL_law_1807 : decode cL_law 1807 = .ok (.aload_n 1, 1) := by decide +kernel
theorem dL_law_1808 : decode cL_law 1808 = .ok (.aload_n 0, 1) := by decide +kernel
theorem dL_law_1809 : decode cL_law 1809 = .ok (.iload_n 3, 1) := by decide +kernel
theorem dL_law_1810 : decode cL_law 1810 = .ok (.iconst 1, 1) := by decide +kernel
theorem dL_law_1811 : decode cL_law 1811 = .ok (.iadd, 1) := by decide +kernel
theorem dL_law_1812 : decode cL_law 1812 = .ok (.iaload, 1) := by decide +kernel
theorem dL_law_1813 : decode cL_law 1813 = .ok (.aload_n 0, 1) := by decide +kernel
theorem dL_law_1814 : decode cL_law 1814 = .ok (.iload_n 3, 1) := by decide +kernel
theorem dL_law_1815 : decode cL_law 1815 = .ok (.iconst 2, 1) := by decide +kernel
theorem dL_law_1816 : decode cL_law 1816 = .ok (.iadd, 1) := by decide +kernel
theorem dL_law_1817 : decode cL_law 1817 = .ok (.iaload, 1) := by decide +kernel
theorem dL_law_1818 : decode cL_law 1818 = .ok (.invokevirtual 223, 3) := by decide +kernel
theorem dL_law_1821 : decode cL_law 1821 = .ok (.aload_n 2, 1) := by decide +kernel
theorem dL_law_1822 : decode cL_law 1822 = .ok (.aload_n 0, 1) := by decide +kernel
theorem dL_law_1823 : decode cL_law 1823 = .ok (.iload_n 3, 1) := by decide +kernel
theorem dL_law_1824 : decode cL_law 1824 = .ok (.iconst 1, 1) := by decide +kernel
theorem dL_law_1825 : decode cL_law 1825 = .ok (.iadd, 1) := by decide +kernel
theorem dL_law_1826 : decode cL_law 1826 = .ok (.iaload, 1) := by decide +kernel
theorem dL_law_1827 : decode cL_law 1827 = .ok (.aload_n 0, 1) := by decide +kernel
theorem dL_law_1828 : decode cL_law 1828 = .ok (.iload_n 3, 1) := by decide +kernel
theorem dL_law_1829 : decode cL_law 1829 = .ok (.iconst 2, 1) := by decide +kernel
theorem dL_law_1830 : decode cL_law 1830 = .ok (.iadd, 1) := by decide +kernel
theorem dL_law_1831 : decode cL_law 1831 = .ok (.iaload, 1) := by decide +kernel
theorem dL_law_1832 : decode cL_law 1832 = .ok (.invokevirtual 226, 3) := by decide +kernel
theorem dL_law_1835 : decode cL_law 1835 = .ok (.if_icmp .eq 126, 3) := by decide +kernel
theorem dL_law_1838 : decode cL_law 1838 = .ok (.iconst 0, 1) := by decide +kernel
theorem dL_law_1839 : decode cL_law 1839 = .ok (.ireturn, 1) := by decide +kernel
theorem dL_law_1840 : decode cL_law 1840 = .ok (.aload_n 1, 1) := by decide +kernel
theorem dL_law_1841 : decode cL_law 1841 = .ok (.invokevirtual 227, 3) := by decide +kernel
theorem dL_law_1844 : decode cL_law 1844 = .ok (.aload_n 2, 1) := by decide +kernel
theorem dL_law_1845 : decode cL_law 1845 = .ok (.invokevirtual 230, 3) := by decide +kernel
theorem dL_law_1848 : decode cL_law 1848 = .ok (.if_icmp .eq 113, 3) := by decide +kernel
theorem dL_law_1851 : decode cL_law 1851 = .ok (.iconst 0, 1) := by decide +kernel
theorem dL_law_1852 : decode cL_law 1852 = .ok (.ireturn, 1) := by decide +kernel
theorem dL_law_1853 : decode cL_law 1853 = .ok (.aload_n 1, 1) := by decide +kernel
theorem dL_law_1854 : decode cL_law 1854 = .ok (.invokevirtual 231, 3) := by decide +kernel
theorem dL_law_1857 : decode cL_law 1857 = .ok (.aload_n 2, 1) := by decide +kernel
theorem dL_law_1858 : decode cL_law 1858 = .ok (.invokevirtual 234, 3) := by decide +kernel
theorem dL_law_1861 : decode cL_law 1861 = .ok (.if_icmp .eq 100, 3) := by decide +kernel
theorem dL_law_1864 : decode cL_law 1864 = .ok (.iconst 0, 1) := by decide +kernel
theorem dL_law_1865 : decode cL_law 1865 = .ok (.ireturn, 1) := by decide +kernel
theorem dL_law_1866 : decode cL_law 1866 = .ok (.aload_n 1, 1) := by decide +kernel
theorem dL_law_1867 : decode cL_law 1867 = .ok (.aload_n 0, 1) := by decide +kernel
theorem dL_law_1868 : decode cL_law 1868 = .ok (.iload_n 3, 1) := by decide +kernel
theorem dL_law_1869 : decode cL_law 1869 = .ok (.iconst 1, 1) := by decide +kernel
theorem dL_law_1870 : decode cL_law 1870 = .ok (.iadd, 1) := by decide +kernel
theorem dL_law_1871 : decode cL_law 1871 = .ok (.iaload, 1) := by decide +kernel
theorem dL_law_1872 : decode cL_law 1872 = .ok (.invokevirtual 235, 3) := by decide +kernel
theorem dL_law_1875 : decode cL_law 1875 = .ok (.aload_n 2, 1) := by decide +kernel
theorem dL_law_1876 : decode cL_law 1876 = .ok (.aload_n 0, 1) := by decide +kernel
theorem dL_law_1877 : decode cL_law 1877 = .ok (.iload_n 3, 1) := by decide +kernel
theorem dL_law_1878 : decode cL_law 1878 = .ok (.iconst 1, 1) := by decide +kernel
theorem dL_law_1879 : decode cL_law 1879 = .ok (.iadd, 1) := by decide +kernel
theorem dL_law_1880 : decode cL_law 1880 = .ok (.iaload, 1) := by decide +kernel
theorem dL_law_1881 : decode cL_law 1881 = .ok (.invokevirtual 238, 3) := by decide +kernel
theorem dL_law_1884 : decode cL_law 1884 = .ok (.if_icmp .eq 77, 3) := by decide +kernel
theorem dL_law_1887 : decode cL_law 1887 = .ok (.iconst 0, 1) := by decide +kernel
theorem dL_law_1888 : decode cL_law 1888 = .ok (.ireturn, 1) := by decide +kernel
theorem dL_law_1889 : decode cL_law 1889 = .ok (.aload_n 1, 1) := by decide +kernel
theorem dL_law_1890 : decode cL_law 1890 = .ok (.aload_n 0, 1) := by decide +kernel
theorem dL_law_1891 : decode cL_law 1891 = .ok (.iload_n 3, 1) := by decide +kernel
theorem dL_law_1892 : decode cL_law 1892 = .ok (.iconst 1, 1) := by decide +kernel
theorem dL_law_1893 : decode cL_law 1893 = .ok (.iadd, 1) := by decide +kernel
theorem dL_law_1894 : decode cL_law 1894 = .ok (.iaload, 1) := by decide +kernel
theorem dL_law_1895 : decode cL_law 1895 = .ok (.invokevirtual 239, 3) := by decide +kernel
theorem dL_law_1898 : decode cL_law 1898 = .ok (.aload_n 2, 1) := by decide +kernel
theorem dL_law_1899 : decode cL_law 1899 = .ok (.aload_n 0, 1) := by decide +kernel
theorem dL_law_1900 : decode cL_law 1900 = .ok (.iload_n 3, 1) := by decide +kernel
theorem dL_law_1901 : decode cL_law 1901 = .ok (.iconst 1, 1) := by decide +kernel
theorem dL_law_1902 : decode cL_law 1902 = .ok (.iadd, 1) := by decide +kernel
theorem dL_law_1903 : decode cL_law 1903 = .ok (.iaload, 1) := by decide +kernel
theorem dL_law_1904 : decode cL_law 1904 = .ok (.invokevirtual 242, 3) := by decide +kernel
theorem dL_law_1907 : decode cL_law 1907 = .ok (.if_icmp .eq 54, 3) := by decide +kernel
theorem dL_law_1910 : decode cL_law 1910 = .ok (.iconst 0, 1) := by decide +kernel
theorem dL_law_1911 : decode cL_law 1911 = .ok (.ireturn, 1) := by decide +kernel
theorem dL_law_1912 : decode cL_law 1912 = .ok (.aload_n 1, 1) := by decide +kernel
theorem dL_law_1913 : decode cL_law 1913 = .ok (.invokevirtual 243, 3) := by decide +kernel
theorem dL_law_1916 : decode cL_law 1916 = .ok (.aload_n 2, 1) := by decide +kernel
theorem dL_law_1917 : decode cL_law 1917 = .ok (.invokevirtual 246, 3) := by decide +kernel
theorem dL_law_1920 : decode cL_law 1920 = .ok (.if_icmp .eq 41, 3) := by decide +kernel
theorem dL_law_1923 : decode cL_law 1923 = .ok (.iconst 0, 1) := by decide +kernel
theorem dL_law_1924 : decode cL_law 1924 = .ok (.ireturn, 1) := by decide +kernel
theorem dL_law_1925 : decode cL_law 1925 = .ok (.aload_n 1, 1) := by decide +kernel
theorem dL_law_1926 : decode cL_law 1926 = .ok (.invokevirtual 247, 3) := by decide +kernel
theorem dL_law_1929 : decode cL_law 1929 = .ok (.aload_n 2, 1) := by decide +kernel
theorem dL_law_1930 : decode cL_law 1930 = .ok (.invokevirtual 250, 3) := by decide +kernel
theorem dL_law_1933 : decode cL_law 1933 = .ok (.if_icmp .eq 28, 3) := by decide +kernel
theorem dL_law_1936 : decode cL_law 1936 = .ok (.iconst 0, 1) := by decide +kernel
theorem dL_law_1937 : decode cL_law 1937 = .ok (.ireturn, 1) := by decide +kernel
theorem dL_law_1938 : decode cL_law 1938 = .ok (.aload_n 1, 1) := by decide +kernel
theorem dL_law_1939 : decode cL_law 1939 = .ok (.aload_n 0, 1) := by decide +kernel
theorem dL_law_1940 : decode cL_law 1940 = .ok (.iload_n 3, 1) := by decide +kernel
theorem dL_law_1941 : decode cL_law 1941 = .ok (.iconst 1, 1) := by decide +kernel
theorem dL_law_1942 : decode cL_law 1942 = .ok (.iadd, 1) := by decide +kernel
theorem dL_law_1943 : decode cL_law 1943 = .ok (.iaload, 1) := by decide +kernel
theorem dL_law_1944 : decode cL_law 1944 = .ok (.invokevirtual 251, 3) := by decide +kernel
theorem dL_law_1947 : decode cL_law 1947 = .ok (.aload_n 2, 1) := by decide +kernel
theorem dL_law_1948 : decode cL_law 1948 = .ok (.aload_n 0, 1) := by decide +kernel
theorem dL_law_1949 : decode cL_law 1949 = .ok (.iload_n 3, 1) := by decide +kernel
theorem dL_law_1950 : decode cL_law 1950 = .ok (.iconst 1, 1) := by decide +kernel
theorem dL_law_1951 : decode cL_law 1951 = .ok (.iadd, 1) := by decide +kernel
theorem dL_law_1952 : decode cL_law 1952 = .ok (.iaload, 1) := by decide +kernel
theorem dL_law_1953 : decode cL_law 1953 = .ok (.invokevirtual 254, 3) := by decide +kernel
theorem dL_law_1956 : decode cL_law 1956 = .ok (.if_icmp .eq 5, 3) := by decide +kernel
theorem dL_law_1959 : decode cL_law 1959 = .ok (.iconst 0, 1) := by decide +kernel
theorem dL_law_1960 : decode cL_law 1960 = .ok (.ireturn, 1) := by decide +kernel
theorem dL_law_1961 : decode cL_law 1961 = .ok (.iinc 3 6, 3) := by decide +kernel
theorem dL_law_1964 : decode cL_law 1964 = .ok (.goto (-1946), 3) := by decide +kernel
theorem dL_law_1967 : decode cL_law 1967 = .ok (.iconst 1, 1) := by decide +kernel
theorem dL_law_1968 : decode cL_law 1968 = .ok (.ireturn, 1) := by decide +kernel
