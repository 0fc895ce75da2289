/-! decode rows of the law -/
theorem dL_law_1545 : decode code 1545 = .ok (.iload 4, 2) := by decide +kernel
theorem dL_law_1547 : decode code 1547 = .ok (.iconst 5, 1) := by decide +kernel
theorem dL_law_1548 : decode code 1548 = .ok (.iadd, 1) := by decide +kernel
theorem dL_law_1549 : decode code 1549 = .ok (.iaload, 1) := by decide +kernel
theorem dL_law_1550 : decode code 1550 = .ok (.invokevirtual 153, 3) := by decide +kernel
theorem dL_law_1553 : decode code 1553 = .ok (.aload_n 2, 1) := by decide +kernel
theorem dL_law_1554 : decode code 1554 = .ok (.aload_n 0, 1) := by decide +kernel
theorem dL_law_1555 : decode code 1555 = .ok (.iload 4, 2) := by decide +kernel
theorem dL_law_1557 : decode code 1557 = .ok (.iconst 1, 1) := by decide +kernel
theorem dL_law_1558 : decode code 1558 = .ok (.iadd, 1) := by decide +kernel
theorem dL_law_1559 : decode code 1559 = .ok (.iaload, 1) := by decide +kernel
theorem dL_law_1560 : decode code 1560 = .ok (.aload_n 0, 1) := by decide +kernel
theorem dL_law_1561 : decode code 1561 = .ok (.iload 4, 2) := by decide +kernel
theorem dL_law_1563 : decode code 1563 = .ok (.iconst 2, 1) := by decide +kernel
theorem dL_law_1564 : decode code 1564 = .ok (.iadd, 1) := by decide +kernel
theorem dL_law_1565 : decode code 1565 = .ok (.iaload, 1) := by decide +kernel
theorem dL_law_1566 : decode code 1566 = .ok (.aload_n 0, 1) := by decide +kernel
theorem dL_law_1567 : decode code 1567 = .ok (.iload 4, 2) := by decide +kernel
theorem dL_law_1569 : decode code 1569 = .ok (.iconst 3, 1) := by decide +kernel
theorem dL_law_1570 : decode code 1570 = .ok (.iadd, 1) := by decide +kernel
theorem dL_law_1571 : decode code 1571 = .ok (.iaload, 1) := by decide +kernel
theorem dL_law_1572 : decode code 1572 = .ok (.aload_n 0, 1) := by decide +kernel
theorem dL_law_1573 : decode code 1573 = .ok (.iload 4, 2) := by decide +kernel
theorem dL_law_1575 : decode code 1575 = .ok (.iconst 4, 1) := by decide +kernel
theorem dL_law_1576 : decode code 1576 = .ok (.iadd, 1) := by decide +kernel
theorem dL_law_1577 : decode code 1577 = .ok (.iaload, 1) := by decide +kernel
theorem dL_law_1578 : decode code 1578 = .ok (.aload_n 0, 1) := by decide +kernel
theorem dL_law_1579 : decode code 1579 = .ok (.iload 4, 2) := by decide +kernel
theorem dL_law_1581 : decode code 1581 = .ok (.iconst 5, 1) := by decide +kernel
theorem dL_law_1582 : decode code 1582 = .ok (.iadd, 1) := by decide +kernel
theorem dL_law_1583 : decode code 1583 = .ok (.iaload, 1) := by decide +kernel
theorem dL_law_1584 : decode code 1584 = .ok (.invokevirtual 156, 3) := by decide +kernel
theorem dL_law_1587 : decode code 1587 = .ok (.if_icmp .eq 1208, 3) := by decide +kernel
theorem dL_law_1590 : decode code 1590 = .ok (.iconst 0, 1) := by decide +kernel
theorem dL_law_1591 : decode code 1591 = .ok (.ireturn, 1) := by decide +kernel
theorem dL_law_1592 : decode code 1592 = .ok (.aload_n 1, 1) := by decide +kernel
theorem dL_law_1593 : decode code 1593 = .ok (.aload_n 0, 1) := by decide +kernel
theorem dL_law_1594 : decode code 1594 = .ok (.iload 4, 2) := by decide +kernel
theorem dL_law_1596 : decode code 1596 = .ok (.iconst 1, 1) := by decide +kernel
theorem dL_law_1597 : decode code 1597 = .ok (.iadd, 1) := by decide +kernel
theorem dL_law_1598 : decode code 1598 = .ok (.iaload, 1) := by decide +kernel
theorem dL_law_1599 : decode code 1599 = .ok (.aload_n 0, 1) := by decide +kernel
theorem dL_law_1600 : decode code 1600 = .ok (.iload 4, 2) := by decide +kernel
theorem dL_law_1602 : decode code 1602 = .ok (.iconst 2, 1) := by decide +kernel
theorem dL_law_1603 : decode code 1603 = .ok (.iadd, 1) := by decide +kernel
theorem dL_law_1604 : decode code 1604 = .ok (.iaload, 1) := by decide +kernel
theorem dL_law_1605 : decode code 1605 = .ok (.aload_n 0, 1) := by decide +kernel
theorem dL_law_1606 : decode code 1606 = .ok (.iload 4, 2) := by decide +kernel
theorem dL_law_1608 : decode code 1608 = .ok (.iconst 3, 1) := by decide +kernel
theorem dL_law_1609 : decode code 1609 = .ok (.iadd, 1) := by decide +kernel
theorem dL_law_1610 : decode code 1610 = .ok (.iaload, 1) := by decide +kernel
theorem dL_law_1611 : decode code 1611 = .ok (.aload_n 0, 1) := by decide +kernel
theorem dL_law_1612 : decode code 1612 = .ok (.iload 4, 2) := by decide +kernel
theorem dL_law_1614 : decode code 1614 = .ok (.iconst 4, 1) := by decide +kernel
theorem dL_law_1615 : decode code 1615 = .ok (.iadd, 1) := by decide +kernel
theorem dL_law_1616 : decode code 1616 = .ok (.iaload, 1) := by decide +kernel
theorem dL_law_1617 : decode code 1617 = .ok (.invokevirtual 157, 3) := by decide +kernel
theorem dL_law_1620 : decode code 1620 = .ok (.aload_n 2, 1) := by decide +kernel
theorem dL_law_1621 : decode code 1621 = .ok (.aload_n 0, 1) := by decide +kernel
theorem dL_law_1622 : decode code 1622 = .ok (.iload 4, 2) := by decide +kernel
theorem dL_law_1624 : decode code 1624 = .ok (.iconst 1, 1) := by decide +kernel
theorem dL_law_1625 : decode code 1625 = .ok (.iadd, 1) := by decide +kernel
theorem dL_law_1626 : decode code 1626 = .ok (.iaload, 1) := by decide +kernel
theorem dL_law_1627 : decode code 1627 = .ok (.aload_n 0, 1) := by decide +kernel
theorem dL_law_1628 : decode code 1628 = .ok (.iload 4, 2) := by decide +kernel
theorem dL_law_1630 : decode code 1630 = .ok (.iconst 2, 1) := by decide +kernel
theorem dL_law_1631 : decode code 1631 = .ok (.iadd, 1) := by decide +kernel
theorem dL_law_1632 : decode code 1632 = .ok (.iaload, 1) := by decide +kernel
theorem dL_law_1633 : decode code 1633 = .ok (.aload_n 0, 1) := by decide +kernel
theorem dL_law_1634 : decode code 1634 = .ok (.iload 4, 2) := by decide +kernel
theorem dL_law_1636 : decode code 1636 = .ok (.iconst 3, 1) := by decide +kernel
theorem dL_law_1637 : decode code 1637 = .ok (.iadd, 1) := by decide +kernel
theorem dL_law_1638 : decode code 1638 = .ok (.iaload, 1) := by decide +kernel
theorem dL_law_1639 : decode code 1639 = .ok (.aload_n 0, 1) := by decide +kernel
theorem dL_law_1640 : decode code 1640 = .ok (.iload 4, 2) := by decide +kernel
theorem dL_law_1642 : decode code 1642 = .ok (.iconst 4, 1) := by decide +kernel
theorem dL_law_1643 : decode code 1643 = .ok (.iadd, 1) := by decide +kernel
theorem dL_law_1644 : decode code 1644 = .ok (.iaload, 1) := by decide +kernel
theorem dL_law_1645 : decode code 1645 = .ok (.invokevirtual 160, 3) := by decide +kernel
theorem dL_law_1648 : decode code 1648 = .ok (.if_icmp .eq 1147, 3) := by decide +kernel
theorem dL_law_1651 : decode code 1651 = .ok (.iconst 0, 1) := by decide +kernel
theorem dL_law_1652 : decode code 1652 = .ok (.ireturn, 1) := by decide +kernel
theorem dL_law_1653 : decode code 1653 = .ok (.aload_n 1, 1) := by decide +kernel
theorem dL_law_1654 : decode code 1654 = .ok (.aload_n 0, 1) := by decide +kernel
theorem dL_law_1655 : decode code 1655 = .ok (.iload 4, 2) := by decide +kernel
theorem dL_law_1657 : decode code 1657 = .ok (.iconst 1, 1) := by decide +kernel
theorem dL_law_1658 : decode code 1658 = .ok (.iadd, 1) := by decide +kernel
theorem dL_law_1659 : decode code 1659 = .ok (.iaload, 1) := by decide +kernel
theorem dL_law_1660 : decode code 1660 = .ok (.aload_n 0, 1) := by decide +kernel
theorem dL_law_1661 : decode code 1661 = .ok (.iload 4, 2) := by decide +kernel
theorem dL_law_1663 : decode code 1663 = .ok (.iconst 2, 1) := by decide +kernel
theorem dL_law_1664 : decode code 1664 = .ok (.iadd, 1) := by decide +kernel
theorem dL_law_1665 : decode code 1665 = .ok (.iaload, 1) := by decide +kernel
theorem dL_law_1666 : decode code 1666 = .ok (.aload_n 0, 1) := by decide +kernel
theorem dL_law_1667 : decode code 1667 = .ok (.iload 4, 2) := by decide +kernel
theorem dL_law_1669 : decode code 1669 = .ok (.iconst 3, 1) := by decide +kernel
theorem dL_law_1670 : decode code 1670 = .ok (.iadd, 1) := by decide +kernel
theorem dL_law_1671 : decode code 1671 = .ok (.iaload, 1) := by decide +kernel
theorem dL_law_1672 : decode code 1672 = .ok (.invokevirtual 161, 3) := by decide +kernel
theorem dL_law_1675 : decode code 1675 = .ok (.aload_n 2, 1) := by decide +kernel
theorem dL_law_1676 : decode code 1676 = .ok (.aload_n 0, 1) := by decide +kernel
theorem dL_law_1677 : decode code 1677 = .ok (.iload 4, 2) := by decide +kernel
theorem dL_law_1679 : decode code 1679 = .ok (.iconst 1, 1) := by decide +kernel
theorem dL_law_1680 : decode code 1680 = .ok (.iadd, 1) := by decide +kernel
theorem dL_law_1681 : decode code 1681 = .ok (.iaload, 1) := by decide +kernel
theorem dL_law_1682 : decode code 1682 = .ok (.aload_n 0, 1) := by decide +kernel
theorem dL_law_1683 : decode code 1683 = .ok (.iload 4, 2) := by decide +kernel
theorem dL_law_1685 : decode code 1685 = .ok (.iconst 2, 1) := by decide +kernel
theorem dL_law_1686 : decode code 1686 = .ok (.iadd, 1) := by decide +kernel
theorem dL_law_1687 : decode code 1687 = .ok (.iaload, 1) := by decide +kernel
theorem dL_law_1688 : decode code 1688 = .ok (.aload_n 0, 1) := by decide +kernel
theorem dL_law_1689 : decode code 1689 = .ok (.iload 4, 2) := by decide +kernel
theorem dL_law_1691 : decode code 1691 = .ok (.iconst 3, 1) := by decide +kernel
theorem dL_law_1692 : decode code 1692 = .ok (.iadd, 1) := by decide +kernel
theorem dL_law_1693 : decode code 1693 = .ok (.iaload, 1) := by decide +kernel
theorem dL_law_1694 : decode code 1694 = .ok (.invokevirtual 165, 3) := by decide +kernel
theorem dL_law_1697 : decode code 1697 = .ok (.lcmp, 1) := by decide +kernel
theorem dL_law_1698 : decode code 1698 = .ok (.ifCond .eq 1097, 3) := by decide +kernel
theorem dL_law_1701 : decode code 1701 = .ok (.iconst 0, 1) := by decide +kernel
theorem dL_law_1702 : decode code 1702 = .ok (.ireturn, 1) := by decide +kernel
theorem dL_law_1703 : decode code 1703 = .ok (.aload_n 1, 1) := by decide +kernel
theorem dL_law_1704 : decode code 1704 = .ok (.aload_n 0, 1) := by decide +kernel
theorem dL_law_1705 : decode code 1705 = .ok (.iload 4, 2) := by decide +kernel
theorem dL_law_1707 : decode code 1707 = .ok (.iconst 1, 1) := by decide +kernel
theorem dL_law_1708 : decode code 1708 = .ok (.iadd, 1) := by decide +kernel
theorem dL_law_1709 : decode code 1709 = .ok (.iaload, 1) := by decide +kernel
theorem dL_law_1710 : decode code 1710 = .ok (.aload_n 0, 1) := by decide +kernel
theorem dL_law_1711 : decode code 1711 = .ok (.iload 4, 2) := by decide +kernel
theorem dL_law_1713 : decode code 1713 = .ok (.iconst 2, 1) := by decide +kernel
theorem dL_law_1714 : decode code 1714 = .ok (.iadd, 1) := by decide +kernel
theorem dL_law_1715 : decode code 1715 = .ok (.iaload, 1) := by decide +kernel
theorem dL_law_1716 : decode code 1716 = .ok (.aload_n 0, 1) := by decide +kernel
theorem dL_law_1717 : decode code 1717 = .ok (.iload 4, 2) := by decide +kernel
theorem dL_law_1719 : decode code 1719 = .ok (.iconst 3, 1) := by decide +kernel
theorem dL_law_1720 : decode code 1720 = .ok (.iadd, 1) := by decide +kernel
theorem dL_law_1721 : decode code 1721 = .ok (.iaload, 1) := by decide +kernel
theorem dL_law_1722 : decode code 1722 = .ok (.invokevirtual 166, 3) := by decide +kernel
theorem dL_law_1725 : decode code 1725 = .ok (.aload_n 2, 1) := by decide +kernel
theorem dL_law_1726 : decode code 1726 = .ok (.aload_n 0, 1) := by decide +kernel
theorem dL_law_1727 : decode code 1727 = .ok (.iload 4, 2) := by decide +kernel
theorem dL_law_1729 : decode code 1729 = .ok (.iconst 1, 1) := by decide +kernel
theorem dL_law_1730 : decode code 1730 = .ok (.iadd, 1) := by decide +kernel
theorem dL_law_1731 : decode code 1731 = .ok (.iaload, 1) := by decide +kernel
theorem dL_law_1732 : decode code 1732 = .ok (.aload_n 0, 1) := by decide +kernel
theorem dL_law_1733 : decode code 1733 = .ok (.iload 4, 2) := by decide +kernel
theorem dL_law_1735 : decode code 1735 = .ok (.iconst 2, 1) := by decide +kernel
theorem dL_law_1736 : decode code 1736 = .ok (.iadd, 1) := by decide +kernel
theorem dL_law_1737 : decode code 1737 = .ok (.iaload, 1) := by decide +kernel
theorem dL_law_1738 : decode code 1738 = .ok (.aload_n 0, 1) := by decide +kernel
theorem dL_law_1739 : decode code 1739 = .ok (.iload 4, 2) := by decide +kernel
theorem dL_law_1741 : decode code 1741 = .ok (.iconst 3, 1) := by decide +kernel
theorem dL_law_1742 : decode code 1742 = .ok (.iadd, 1) := by decide +kernel
theorem dL_law_1743 : decode code 1743 = .ok (.iaload, 1) := by decide +kernel
theorem dL_law_1744 : decode code 1744 = .ok (.invokevirtual 169, 3) := by decide +kernel
theorem dL_law_1747 : decode code 1747 = .ok (.if_icmp .eq 1048, 3) := by decide +kernel
theorem dL_law_1750 : decode code 1750 = .ok (.iconst 0, 1) := by decide +kernel
theorem dL_law_1751 : decode code 1751 = .ok (.ireturn, 1) := by decide +kernel
theorem dL_law_1752 : decode code 1752 = .ok (.aload_n 1, 1) := by decide +kernel
theorem dL_law_1753 : decode code 1753 = .ok (.aload_n 0, 1) := by decide +kernel
theorem dL_law_1754 : decode code 1754 = .ok (.iload 4, 2) := by decide +kernel
theorem dL_law_1756 : decode code 1756 = .ok (.iconst 1, 1) := by decide +kernel
theorem dL_law_1757 : decode code 1757 = .ok (.iadd, 1) := by decide +kernel
theorem dL_law_1758 : decode code 1758 = .ok (.iaload, 1) := by decide +kernel
theorem dL_law_1759 : decode code 1759 = .ok (.aload_n 0, 1) := by decide +kernel
theorem dL_law_1760 : decode code 1760 = .ok (.iload 4, 2) := by decide +kernel
theorem dL_law_1762 : decode code 1762 = .ok (.iconst 2, 1) := by decide +kernel
theorem dL_law_1763 : decode code 1763 = .ok (.iadd, 1) := by decide +kernel
theorem dL_law_1764 : decode code 1764 = .ok (.iaload, 1) := by decide +kernel
theorem dL_law_1765 : decode code 1765 = .ok (.aload_n 0, 1) := by decide +kernel
theorem dL_law_1766 : decode code 1766 = .ok (.iload 4, 2) := by decide +kernel
theorem dL_law_1768 : decode code 1768 = .ok (.iconst 3, 1) := by decide +kernel
theorem dL_law_1769 : decode code 1769 = .ok (.iadd, 1) := by decide +kernel
theorem dL_law_1770 : decode code 1770 = .ok (.iaload, 1) := by decide +kernel
theorem dL_law_1771 : decode code 1771 = .ok (.invokevirtual 170, 3) := by decide +kernel
theorem dL_law_1774 : decode code 1774 = .ok (.aload_n 2, 1) := by decide +kernel
theorem dL_law_1775 : decode code 1775 = .ok (.aload_n 0, 1) := by decide +kernel
theorem dL_law_1776 : decode code 1776 = .ok (.iload 4, 2) := by decide +kernel
theorem dL_law_1778 : decode code 1778 = .ok (.iconst 1, 1) := by decide +kernel
theorem dL_law_1779 : decode code 1779 = .ok (.iadd, 1) := by decide +kernel
theorem dL_law_1780 : decode code 1780 = .ok (.iaload, 1) := by decide +kernel
theorem dL_law_1781 : decode code 1781 = .ok (.aload_n 0, 1) := by decide +kernel
theorem dL_law_1782 : decode code 1782 = .ok (.iload 4, 2) := by decide +kernel
theorem dL_law_1784 : decode code 1784 = .ok (.iconst 2, 1) := by decide +kernel
theorem dL_law_1785 : decode code 1785 = .ok (.iadd, 1) := by decide +kernel
theorem dL_law_1786 : decode code 1786 = .ok (.iaload, 1) := by decide +kernel
theorem dL_law_1787 : decode code 1787 = .ok (.aload_n 0, 1) := by decide +kernel
theorem dL_law_1788 : decode code 1788 = .ok (.iload 4, 2) := by decide +kernel
theorem dL_law_1790 : decode code 1790 = .ok (.iconst 3, 1) := by decide +kernel
theorem dL_law_1791 : decode code 1791 = .ok (.iadd, 1) := by decide +kernel
theorem dL_law_1792 : decode code 1792 = .ok (.iaload, 1) := by decide +kernel
theorem dL_law_1793 : decode code 1793 = .ok (.invokevirtual 173, 3) := by decide +kernel
theorem dL_law_1796 : decode code 1796 = .ok (.if_icmp .eq 999, 3) := by decide +kernel
theorem dL_law_1799 : decode code 1799 = .ok (.iconst 0, 1) := by decide +kernel
theorem dL_law_1800 : decode code 1800 = .ok (.ireturn, 1) := by decide +kernel
theorem dL_law_1801 : decode code 1801 = .ok (.aload_n 1, 1) := by decide +kernel
theorem dL_law_1802 : decode code 1802 = .ok (.aload_n 0, 1) := by decide +kernel
theorem dL_law_1803 : decode code 1803 = .ok (.iload 4, 2) := by decide +kernel
theorem dL_law_1805 : decode code 1805 = .ok (.iconst 1, 1) := by decide +kernel
theorem dL_law_1806 : decode code 1806 = .ok (.iadd, 1) := by decide +kernel
theorem dL_law_1807 : decode code 1807 = .ok (.iaload, 1) := by decide +kernel
theorem dL_law_1808 : decode code 1808 = .ok (.aload_n 0, 1) := by decide +kernel
theorem dL_law_1809 : decode code 1809 = .ok (.iload 4, 2) := by decide +kernel
theorem dL_law_1811 : decode code 1811 = .ok (.iconst 2, 1) := by decide +kernel
theorem dL_law_1812 : decode code 1812 = .ok (.iadd, 1) := by decide +kernel
theorem dL_law_1813 : decode code 1813 = .ok (.iaload, 1) := by decide +kernel
theorem dL_law_1814 : decode code 1814 = .ok (.aload_n 0, 1) := by decide +kernel
theorem dL_law_1815 : decode code 1815 = .ok (.iload 4, 2) := by decide +kernel
theorem dL_law_1817 : decode code 1817 = .ok (.iconst 3, 1) := by decide +kernel
theorem dL_law_1818 : decode code 1818 = .ok (.iadd, 1) := by decide +kernel
theorem dL_law_1819 : decode code 1819 = .ok (.iaload, 1) := by decide +kernel
theorem dL_law_1820 : decode code 1820 = .ok (.aload_n 0, 1) := by decide +kernel
theorem dL_law_1821 : decode code 1821 = .ok (.iload 4, 2) := by decide +kernel
theorem dL_law_1823 : decode code 1823 = .ok (.iconst 4, 1) := by decide +kernel
theorem dL_law_1824 : decode code 1824 = .ok (.iadd, 1) := by decide +kernel
theorem dL_law_1825 : decode code 1825 = .ok (.iaload, 1) := by decide +kernel
theorem dL_law_1826 : decode code 1826 = .ok (.invokevirtual 174, 3) := by decide +kernel
theorem dL_law_1829 : decode code 1829 = .ok (.aload_n 2, 1) := by decide +kernel
theorem dL_law_1830 : decode code 1830 = .ok (.aload_n 0, 1) := by decide +kernel
theorem dL_law_1831 : decode code 1831 = .ok (.iload 4, 2) := by decide +kernel
theorem dL_law_1833 : decode code 1833 = .ok (.iconst 1, 1) := by decide +kernel
theorem dL_law_1834 : decode code 1834 = .ok (.iadd, 1) := by decide +kernel
theorem dL_law_1835 : decode code 1835 = .ok (.iaload, 1) := by decide +kernel
theorem dL_law_1836 : decode code 1836 = .ok (.aload_n 0, 1) := by decide +kernel
theorem dL_law_1837 : decode code 1837 = .ok (.iload 4, 2) := by decide +kernel
theorem dL_law_1839 : decode code 1839 = .ok (.iconst 2, 1) := by decide +kernel
theorem dL_law_1840 : decode code 1840 = .ok (.iadd, 1) := by decide +kernel
theorem dL_law_1841 : decode code 1841 = .ok (.iaload, 1) := by decide +kernel
theorem dL_law_1842 : decode code 1842 = .ok (.aload_n 0, 1) := by decide +kernel
theorem dL_law_1843 : decode code 1843 = .ok (.iload 4, 2) := by decide +kernel
theorem dL_law_1845 : decode code 1845 = .ok (.iconst 3, 1) := by decide +kernel
