theorem dL_law_1636 : decode cL_law 1636 = .ok (.aload_n 1, 1) := by decide +kernel
theorem dL_law_1637 : decode cL_law 1637 = .ok (.aload_n 0, 1) := by decide +kernel
theorem dL_law_1638 : decode cL_law 1638 = .ok (.iload_n 3, 1) := by decide +kernel
theorem dL_law_1639 : decode cL_law 1639 = .ok (.iconst 1, 1) := by decide +kernel
theorem dL_law_1640 : decode cL_law 1640 = .ok (.iadd, 1) := by decide +kernel
theorem dL_law_1641 : decode cL_law 1641 = .ok (.iaload, 1) := by decide +kernel
theorem dL_law_1642 : decode cL_law 1642 = .ok (.aload_n 0, 1) := by decide +kernel
theorem dL_law_1643 : decode cL_law 1643 = .ok (.iload_n 3, 1) := by decide +kernel
theorem dL_law_1644 : decode cL_law 1644 = .ok (.iconst 2, 1) := by decide +kernel
theorem dL_law_1645 : decode cL_law 1645 = .ok (.iadd, 1) := by decide +kernel
theorem dL_law_1646 : decode cL_law 1646 = .ok (.iaload, 1) := by decide +kernel
theorem dL_law_1647 : decode cL_law 1647 = .ok (.invokevirtual 243, 3) := by decide +kernel
theorem dL_law_1650 : decode cL_law 1650 = .ok (.pop, 1) := by decide +kernel
theorem dL_law_1651 : decode cL_law 1651 = .ok (.aload_n 2, 1) := by decide +kernel
theorem dL_law_1652 : decode cL_law 1652 = .ok (.aload_n 0, 1) := by decide +kernel
theorem dL_law_1653 : decode cL_law 1653 = .ok (.iload_n 3, 1) := by decide +kernel
theorem dL_law_1654 : decode cL_law 1654 = .ok (.iconst 1, 1) := by decide +kernel
theorem dL_law_1655 : decode cL_law 1655 = .ok (.iadd, 1) := by decide +kernel
theorem dL_law_1656 : decode cL_law 1656 = .ok (.iaload, 1) := by decide +kernel
theorem dL_law_1657 : decode cL_law 1657 = .ok (.aload_n 0, 1) := by decide +kernel
theorem dL_law_1658 : decode cL_law 1658 = .ok (.iload_n 3, 1) := by decide +kernel
theorem dL_law_1659 : decode cL_law 1659 = .ok (.iconst 2, 1) := by decide +kernel
theorem dL_law_1660 : decode cL_law 1660 = .ok (.iadd, 1) := by decide +kernel
theorem dL_law_1661 : decode cL_law 1661 = .ok (.iaload, 1) := by decide +kernel
theorem dL_law_1662 : decode cL_law 1662 = .ok (.invokevirtual 246, 3) := by decide +kernel
theorem dL_law_1665 : decode cL_law 1665 = .ok (.pop, 1) := by decide +kernel
theorem dL_law_1666 : decode cL_law 1666 = .ok (.goto 452, 3) := by decide +kernel
theorem dL_law_1669 : decode cL_law 1669 = .ok (.aload_n 1, 1) := by decide +kernel
theorem dL_law_1670 : decode cL_law 1670 = .ok (.aload_n 0, 1) := by decide +kernel
theorem dL_law_1671 : decode cL_law 1671 = .ok (.iload_n 3, 1) := by decide +kernel
theorem dL_law_1672 : decode cL_law 1672 = .ok (.iconst 1, 1) := by decide +kernel
theorem dL_law_1673 : decode cL_law 1673 = .ok (.iadd, 1) := by decide +kernel
theorem dL_law_1674 : decode cL_law 1674 = .ok (.iaload, 1) := by decide +kernel
theorem dL_law_1675 : decode cL_law 1675 = .ok (.aload_n 0, 1) := by decide +kernel
theorem dL_law_1676 : decode cL_law 1676 = .ok (.iload_n 3, 1) := by decide +kernel
theorem dL_law_1677 : decode cL_law 1677 = .ok (.iconst 2, 1) := by decide +kernel
theorem dL_law_1678 : decode cL_law 1678 = .ok (.iadd, 1) := by decide +kernel
theorem dL_law_1679 : decode cL_law 1679 = .ok (.iaload, 1) := by decide +kernel
theorem dL_law_1680 : decode cL_law 1680 = .ok (.invokevirtual 247, 3) := by decide +kernel
theorem dL_law_1683 : decode cL_law 1683 = .ok (.pop, 1) := by decide +kernel
theorem dL_law_1684 : decode cL_law 1684 = .ok (.aload_n 2, 1) := by decide +kernel
theorem dL_law_1685 : decode cL_law 1685 = .ok (.aload_n 0, 1) := by decide +kernel
theorem dL_law_1686 : decode cL_law 1686 = .ok (.iload_n 3, 1) := by decide +kernel
theorem dL_law_1687 : decode cL_law 1687 = .ok (.iconst 1, 1) := by decide +kernel
theorem dL_law_1688 : decode cL_law 1688 = .ok (.iadd, 1) := by decide +kernel
theorem dL_law_1689 : decode cL_law 1689 = .ok (.iaload, 1) := by decide +kernel
theorem dL_law_1690 : decode cL_law 1690 = .ok (.aload_n 0, 1) := by decide +kernel
theorem dL_law_1691 : decode cL_law 1691 = .ok (.iload_n 3, 1) := by decide +kernel
theorem dL_law_1692 : decode cL_law 1692 = .ok (.iconst 2, 1) := by decide +kernel
theorem dL_law_1693 : decode cL_law 1693 = .ok (.iadd, 1) := by decide +kernel
theorem dL_law_1694 : decode cL_law 1694 = .ok (.iaload, 1) := by decide +kernel
theorem dL_law_1695 : decode cL_law 1695 = .ok (.invokevirtual 250, 3) := by decide +kernel
theorem dL_law_1698 : decode cL_law 1698 = .ok (.pop, 1) := by decide +kernel
theorem dL_law_1699 : decode cL_law 1699 = .ok (.goto 419, 3) := by decide +kernel
theorem dL_law_1702 : decode cL_law 1702 = .ok (.aload_n 1, 1) := by decide +kernel
theorem dL_law_1703 : decode cL_law 1703 = .ok (.aload_n 0, 1) := by decide +kernel
theorem dL_law_1704 : decode cL_law 1704 = .ok (.iload_n 3, 1) := by decide +kernel
theorem dL_law_1705 : decode cL_law 1705 = .ok (.iconst 1, 1) := by decide +kernel
theorem dL_law_1706 : decode cL_law 1706 = .ok (.iadd, 1) := by decide +kernel
theorem dL_law_1707 : decode cL_law 1707 = .ok (.iaload, 1) := by decide +kernel
theorem dL_law_1708 : decode cL_law 1708 = .ok (.aload_n 0, 1) := by decide +kernel
theorem dL_law_1709 : decode cL_law 1709 = .ok (.iload_n 3, 1) := by decide +kernel
theorem dL_law_1710 : decode cL_law 1710 = .ok (.iconst 2, 1) := by decide +kernel
theorem dL_law_1711 : decode cL_law 1711 = .ok (.iadd, 1) := by decide +kernel
theorem dL_law_1712 : decode cL_law 1712 = .ok (.iaload, 1) := by decide +kernel
theorem dL_law_1713 : decode cL_law 1713 = .ok (.invokevirtual 251, 3) := by decide +kernel
theorem dL_law_1716 : decode cL_law 1716 = .ok (.pop, 1) := by decide +kernel
theorem dL_law_1717 : decode cL_law 1717 = .ok (.aload_n 2, 1) := by decide +kernel
theorem dL_law_1718 : decode cL_law 1718 = .ok (.aload_n 0, 1) := by decide +kernel
theorem dL_law_1719 : decode cL_law 1719 = .ok (.iload_n 3, 1) := by decide +kernel
theorem dL_law_1720 : decode cL_law 1720 = .ok (.iconst 1, 1) := by decide +kernel
theorem dL_law_1721 : decode cL_law 1721 = .ok (.iadd, 1) := by decide +kernel
theorem dL_law_1722 : decode cL_law 1722 = .ok (.iaload, 1) := by decide +kernel
theorem dL_law_1723 : decode cL_law 1723 = .ok (.aload_n 0, 1) := by decide +kernel
theorem dL_law_1724 : decode cL_law 1724 = .ok (.iload_n 3, 1) := by decide +kernel
theorem dL_law_1725 : decode cL_law 1725 = .ok (.iconst 2, 1) := by decide +kernel
theorem dL_law_1726 : decode cL_law 1726 = .ok (.iadd, 1) := by decide +kernel
theorem dL_law_1727 : decode cL_law 1727 = .ok (.iaload, 1) := by decide +kernel
theorem dL_law_1728 : decode cL_law 1728 = .ok (.invokevirtual 254, 3) := by decide +kernel
theorem dL_law_1731 : decode cL_law 1731 = .ok (.pop, 1) := by decide +kernel
theorem dL_law_1732 : decode cL_law 1732 = .ok (.goto 386, 3) := by decide +kernel
theorem dL_law_1735 : decode cL_law 1735 = .ok (.aload_n 1, 1) := by decide +kernel
theorem dL_law_1736 : decode cL_law 1736 = .ok (.invokevirtual 255, 3) := by decide +kernel
theorem dL_law_1739 : decode cL_law 1739 = .ok (.pop, 1) := by decide +kernel
theorem dL_law_1740 : decode cL_law 1740 = .ok (.aload_n 2, 1) := by decide +kernel
theorem dL_law_1741 : decode cL_law 1741 = .ok (.invokevirtual 258, 3) := by decide +kernel
theorem dL_law_1744 : decode cL_law 1744 = .ok (.pop, 1) := by decide +kernel
theorem dL_law_1745 : decode cL_law 1745 = .ok (.goto 373, 3) := by decide +kernel
theorem dL_law_1748 : decode cL_law 1748 = .ok (.aload_n 1, 1) := by decide +kernel
theorem dL_law_1749 : decode cL_law 1749 = .ok (.invokevirtual 259, 3) := by decide +kernel
theorem dL_law_1752 : decode cL_law 1752 = .ok (.pop, 1) := by decide +kernel
theorem dL_law_1753 : decode cL_law 1753 = .ok (.aload_n 2, 1) := by decide +kernel
theorem dL_law_1754 : decode cL_law 1754 = .ok (.invokevirtual 262, 3) := by decide +kernel
theorem dL_law_1757 : decode cL_law 1757 = .ok (.pop, 1) := by decide +kernel
theorem dL_law_1758 : decode cL_law 1758 = .ok (.goto 360, 3) := by decide +kernel
theorem dL_law_1761 : decode cL_law 1761 = .ok (.aload_n 1, 1) := by decide +kernel
theorem dL_law_1762 : decode cL_law 1762 = .ok (.aload_n 0, 1) := by decide +kernel
theorem dL_law_1763 : decode cL_law 1763 = .ok (.iload_n 3, 1) := by decide +kernel
theorem dL_law_1764 : decode cL_law 1764 = .ok (.iconst 1, 1) := by decide +kernel
theorem dL_law_1765 : decode cL_law 1765 = .ok (.iadd, 1) := by decide +kernel
theorem dL_law_1766 : decode cL_law 1766 = .ok (.iaload, 1) := by decide +kernel
theorem dL_law_1767 : decode cL_law 1767 = .ok (.aload_n 0, 1) := by decide +kernel
theorem dL_law_1768 : decode cL_law 1768 = .ok (.iload_n 3, 1) := by decide +kernel
theorem dL_law_1769 : decode cL_law 1769 = .ok (.iconst 2, 1) := by decide +kernel
theorem dL_law_1770 : decode cL_law 1770 = .ok (.iadd, 1) := by decide +kernel
theorem dL_law_1771 : decode cL_law 1771 = .ok (.iaload, 1) := by decide +kernel
theorem dL_law_1772 : decode cL_law 1772 = .ok (.invokevirtual 263, 3) := by decide +kernel
theorem dL_law_1775 : decode cL_law 1775 = .ok (.pop, 1) := by decide +kernel
theorem dL_law_1776 : decode cL_law 1776 = .ok (.aload_n 2, 1) := by decide +kernel
theorem dL_law_1777 : decode cL_law 1777 = .ok (.aload_n 0, 1) := by decide +kernel
theorem dL_law_1778 : decode cL_law 1778 = .ok (.iload_n 3, 1) := by decide +kernel
theorem dL_law_1779 : decode cL_law 1779 = .ok (.iconst 1, 1) := by decide +kernel
theorem dL_law_1780 : decode cL_law 1780 = .ok (.iadd, 1) := by decide +kernel
theorem dL_law_1781 : decode cL_law 1781 = .ok (.iaload, 1) := by decide +kernel
theorem dL_law_1782 : decode cL_law 1782 = .ok (.aload_n 0, 1) := by decide +kernel
theorem dL_law_1783 : decode cL_law 1783 = .ok (.iload_n 3, 1) := by decide +kernel
theorem dL_law_1784 : decode cL_law 1784 = .ok (.iconst 2, 1) := by decide +kernel
theorem dL_law_1785 : decode cL_law 1785 = .ok (.iadd, 1) := by decide +kernel
theorem dL_law_1786 : decode cL_law 1786 = .ok (.iaload, 1) := by decide +kernel
theorem dL_law_1787 : decode cL_law 1787 = .ok (.invokevirtual 266, 3) := by decide +kernel
theorem dL_law_1790 : decode cL_law 1790 = .ok (.pop, 1) := by decide +kernel
theorem dL_law_1791 : decode cL_law 1791 = .ok (.goto 327, 3) := by decide +kernel
theorem dL_law_1794 : decode cL_law 1794 = .ok (.aload_n 1, 1) := by decide +kernel
theorem dL_law_1795 : decode cL_law 1795 = .ok (.aload_n 0, 1) := by decide +kernel
theorem dL_law_1796 : decode cL_law 1796 = .ok (.iload_n 3, 1) := by decide +kernel
theorem dL_law_1797 : decode cL_law 1797 = .ok (.iconst 1, 1) := by decide +kernel
theorem dL_law_1798 : decode cL_law 1798 = .ok (.iadd, 1) := by decide +kernel
theorem dL_law_1799 : decode cL_law 1799 = .ok (.iaload, 1) := by decide +kernel
theorem dL_law_1800 : decode cL_law 1800 = .ok (.aload_n 0, 1) := by decide +kernel
theorem dL_law_1801 : decode cL_law 1801 = .ok (.iload_n 3, 1) := by decide +kernel
theorem dL_law_1802 : decode cL_law 1802 = .ok (.iconst 2, 1) := by decide +kernel
theorem dL_law_1803 : decode cL_law 1803 = .ok (.iadd, 1) := by decide +kernel
theorem dL_law_1804 : decode cL_law 1804 = .ok (.iaload, 1) := by decide +kernel
theorem dL_law_1805 : decode cL_law 1805 = .ok (.aload_n 0, 1) := by decide +kernel
theorem dL_law_1806 : decode cL_law 1806 = .ok (.iload_n 3, 1) := by decide +kernel
theorem dL_law_1807 : decode cL_law 1807 = .ok (.iconst 3, 1) := by decide +kernel
theorem dL_law_1808 : decode cL_law 1808 = .ok (.iadd, 1) := by decide +kernel
theorem dL_law_1809 : decode cL_law 1809 = .ok (.iaload, 1) := by decide +kernel
theorem dL_law_1810 : decode cL_law 1810 = .ok (.invokevirtual 267, 3) := by decide +kernel
theorem dL_law_1813 : decode cL_law 1813 = .ok (.pop, 1) := by decide +kernel
theorem dL_law_1814 : decode cL_law 1814 = .ok (.aload_n 2, 1) := by decide +kernel
theorem dL_law_1815 : decode cL_law 1815 = .ok (.aload_n 0, 1) := by decide +kernel
theorem dL_law_1816 : decode cL_law 1816 = .ok (.iload_n 3, 1) := by decide +kernel
theorem dL_law_1817 : decode cL_law 1817 = .ok (.iconst 1, 1) := by decide +kernel
theorem dL_law_1818 : decode cL_law 1818 = .ok (.iadd, 1) := by decide +kernel
theorem dL_law_1819 : decode cL_law 1819 = .ok (.iaload, 1) := by decide +kernel
theorem dL_law_1820 : decode cL_law 1820 = .ok (.aload_n 0, 1) := by decide +kernel
theorem dL_law_1821 : decode cL_law 1821 = .ok (.iload_n 3, 1) := by decide +kernel
theorem dL_law_1822 : decode cL_law 1822 = .ok (.iconst 2, 1) := by decide +kernel
theorem dL_law_1823 : decode cL_law 1823 = .ok (.iadd, 1) := by decide +kernel
theorem dL_law_1824 : decode cL_law 1824 = .ok (.iaload, 1) := by decide +kernel
theorem dL_law_1825 : decode cL_law 1825 = .ok (.aload_n 0, 1) := by decide +kernel
theorem dL_law_1826 : decode cL_law 1826 = .ok (.iload_n 3, 1) := by decide +kernel
theorem dL_law_1827 : decode cL_law 1827 = .ok (.iconst 3, 1) := by decide +kernel
theorem dL_law_1828 : decode cL_law 1828 = .ok (.iadd, 1) := by decide +kernel
theorem dL_law_1829 : decode cL_law 1829 = .ok (.iaload, 1) := by decide +kernel
theorem dL_law_1830 : decode cL_law 1830 = .ok (.invokevirtual 270, 3) := by decide +kernel
theorem dL_law_1833 : decode cL_law 1833 = .ok (.pop, 1) := by decide +kernel
theorem dL_law_1834 : decode cL_law 1834 = .ok (.goto 284, 3) := by decide +kernel
theorem dL_law_1837 : decode cL_law 1837 = .ok (.aload_n 1, 1) := by decide +kernel
theorem dL_law_1838 : decode cL_law 1838 = .ok (.aload_n 0, 1) := by decide +kernel
theorem dL_law_1839 : decode cL_law 1839 = .ok (.iload_n 3, 1) := by decide +kernel
theorem dL_law_1840 : decode cL_law 1840 = .ok (.iconst 1, 1) := by decide +kernel
theorem dL_law_1841 : decode cL_law 1841 = .ok (.iadd, 1) := by decide +kernel
theorem dL_law_1842 : decode cL_law 1842 = .ok (.iaload, 1) := by decide +kernel
theorem dL_law_1843 : decode cL_law 1843 = .ok (.aload_n 0, 1) := by decide +kernel
theorem dL_law_1844 : decode cL_law 1844 = .ok (.iload_n 3, 1) := by decide +kernel
theorem dL_law_1845 : decode cL_law 1845 = .ok (.iconst 2, 1) := by decide +kernel
theorem dL_law_1846 : decode cL_law 1846 = .ok (.iadd, 1) := by decide +kernel
theorem dL_law_1847 : decode cL_law 1847 = .ok (.iaload, 1) := by decide +kernel
theorem dL_law_1848 : decode cL_law 1848 = .ok (.invokevirtual 271, 3) := by decide +kernel
theorem dL_law_1851 : decode cL_law 1851 = .ok (.pop, 1) := by decide +kernel
theorem dL_law_1852 : decode cL_law 1852 = .ok (.aload_n 2, 1) := by decide +kernel
theorem dL_law_1853 : decode cL_law 1853 = .ok (.aload_n 0, 1) := by decide +kernel
theorem dL_law_1854 : decode cL_law 1854 = .ok (.iload_n 3, 1) := by decide +kernel
theorem dL_law_1855 : decode cL_law 1855 = .ok (.iconst 1, 1) := by decide +kernel
theorem dL_law_1856 : decode cL_law 1856 = .ok (.iadd, 1) := by decide +kernel
theorem dL_law_1857 : decode cL_law 1857 = .ok (.iaload, 1) := by decide +kernel
theorem dL_law_1858 : decode cL_law 1858 = .ok (.aload_n 0, 1) := by decide +kernel
theorem dL_law_1859 : decode cL_law 1859 = .ok (.iload_n 3, 1) := by decide +kernel
theorem dL_law_1860 : decode cL_law 1860 = .ok (.iconst 2, 1) := by decide +kernel
theorem dL_law_1861 : decode cL_law 1861 = .ok (.iadd, 1) := by decide +kernel
theorem dL_law_1862 : decode cL_law 1862 = .ok (.iaload, 1) := by decide +kernel
theorem dL_law_1863 : decode cL_law 1863 = .ok (.invokevirtual 274, 3) := by decide +kernel
theorem dL_law_1866 : decode cL_law 1866 = .ok (.pop, 1) := by decide +kernel
theorem dL_law_1867 : decode cL_law 1867 = .ok (.goto 251, 3) := by decide +kernel
theorem dL_law_1870 : decode cL_law 1870 = .ok (.aload_n 1, 1) := by decide +kernel
theorem dL_law_1871 : decode cL_law 1871 = .ok (.aload_n 0, 1) := by decide +kernel
theorem dL_law_1872 : decode cL_law 1872 = .ok (.iload_n 3, 1) := by decide +kernel
theorem dL_law_1873 : decode cL_law 1873 = .ok (.iconst 1, 1) := by decide +kernel
theorem dL_law_1874 : decode cL_law 1874 = .ok (.iadd, 1) := by decide +kernel
theorem dL_law_1875 : decode cL_law 1875 = .ok (.iaload, 1) := by decide +kernel
theorem dL_law_1876 : decode cL_law 1876 = .ok (.invokevirtual 275, 3) := by decide +kernel
theorem dL_law_1879 : decode cL_law 1879 = .ok (.pop, 1) := by decide +kernel
theorem dL_law_1880 : decode cL_law 1880 = .ok (.aload_n 2, 1) := by decide +kernel
theorem dL_law_1881 : decode cL_law 1881 = .ok (.aload_n 0, 1) := by decide +kernel
theorem dL_law_1882 : decode cL_law 1882 = .ok (.iload_n 3, 1) := by decide +kernel
theorem dL_law_1883 : decode cL_law 1883 = .ok (.iconst 1, 1) := by decide +kernel
theorem dL_law_1884 : decode cL_law 1884 = .ok (.iadd, 1) := by decide +kernel
theorem dL_law_1885 : decode cL_law 1885 = .ok (.iaload, 1) := by decide +kernel
theorem dL_law_1886 : decode cL_law 1886 = .ok (.invokevirtual 278, 3) := by decide +kernel
theorem dL_law_1889 : decode cL_law 1889 = .ok (.pop, 1) := by decide +kernel
theorem dL_law_1890 : decode cL_law 1890 = .ok (.goto 228, 3) := by decide +kernel
theorem dL_law_1893 : decode cL_law 1893 = .ok (.aload_n 1, 1) := by decide +kernel
theorem dL_law_1894 : decode cL_law 1894 = .ok (.aload_n 0, 1) := by decide +kernel
theorem dL_law_1895 : decode cL_law 1895 = .ok (.iload_n 3, 1) := by decide +kernel
theorem dL_law_1896 : decode cL_law 1896 = .ok (.iconst 1, 1) := by decide +kernel
theorem dL_law_1897 : decode cL_law 1897 = .ok (.iadd, 1) := by decide +kernel
theorem dL_law_1898 : decode cL_law 1898 = .ok (.iaload, 1) := by decide +kernel
theorem dL_law_1899 : decode cL_law 1899 = .ok (.invokevirtual 279, 3) := by decide +kernel
theorem dL_law_1902 : decode cL_law 1902 = .ok (.pop, 1) := by decide +kernel
theorem dL_law_1903 : decode cL_law 1903 = .ok (.aload_n 2, 1) := by decide +kernel
theorem dL_law_1904 : decode cL_law 1904 = .ok (.aload_n 0, 1) := by decide +kernel
theorem dL_law_1905 : decode cL_law 1905 = .ok (.iload_n 3, 1) := by decide +kernel
theorem dL_law_1906 : decode cL_law 1906 = .ok (.iconst 1, 1) := by decide +kernel
theorem dL_law_1907 : decode cL_law 1907 = .ok (.iadd, 1) := by decide +kernel
theorem dL_law_1908 : decode cL_law 1908 = .ok (.iaload, 1) := by decide +kernel
theorem dL_law_1909 : decode cL_law 1909 = .ok (.invokevirtual 282, 3) := by decide +kernel
theorem dL_law_1912 : decode cL_law 1912 = .ok (.pop, 1) := by decide +kernel
theorem dL_law_1913 : decode cL_law 1913 = .ok (.goto 205, 3) := by decide +kernel
theorem dL_law_1916 : decode cL_law 1916 = .ok (.aload_n 1, 1) := by decide +kernel
theorem dL_law_1917 : decode cL_law 1917 = .ok (.aload_n 0, 1) := by decide +kernel
theorem dL_law_1918 : decode cL_law 1918 = .ok (.iload_n 3, 1) := by decide +kernel
theorem dL_law_1919 : decode cL_law 1919 = .ok (.iconst 1, 1) := by decide +kernel
theorem dL_law_1920 : decode cL_law 1920 = .ok (.iadd, 1) := by decide +kernel
theorem dL_law_1921 : decode cL_law 1921 = .ok (.iaload, 1) := by decide +kernel
theorem dL_law_1922 : decode cL_law 1922 = .ok (.invokevirtual 283, 3) := by decide +kernel
theorem dL_law_1925 : decode cL_law 1925 = .ok (.pop, 1) := by decide +kernel
theorem dL_law_1926 : decode cL_law 1926 = .ok (.aload_n 2, 1) := by decide +kernel
theorem dL_law_1927 : decode cL_law 1927 = .ok (.aload_n 0, 1) := by decide +kernel
theorem dL_law_1928 : decode cL_law 1928 = .ok (.iload_n 3, 1) := by decide +kernel
theorem dL_law_1929 : decode cL_law 1929 = .ok (.iconst 1, 1) := by decide +kernel
theorem dL_law_1930 : decode cL_law 1930 = .ok (.iadd, 1) := by decide +kernel
theorem dL_law_1931 : decode cL_law 1931 = .ok (.iaload, 1) := by decide +kernel
theorem dL_law_1932 : decode cL_law 1932 = .ok (.invokevirtual 286, 3) := by decide +kernel
theorem dL_law_1935 : decode cL_law 1935 = .ok (.pop, 1) := by decide +kernel
theorem dL_law_1936 : decode cL_law 1936 = .ok (.goto 182, 3) := by decide +kernel
theorem dL_law_1939 : decode cL_law 1939 = .ok (.aload_n 1, 1) := by decide +kernel
theorem dL_law_1940 : decode cL_law 1940 = .ok (.aload_n 0, 1) := by decide +kernel
theorem dL_law_1941 : decode cL_law 1941 = .ok (.iload_n 3, 1) := by decide +kernel
theorem dL_law_1942 : decode cL_law 1942 = .ok (.iconst 1, 1) := by decide +kernel
theorem dL_law_1943 : decode cL_law 1943 = .ok (.iadd, 1) := by decide +kernel
theorem dL_law_1944 : decode cL_law 1944 = .ok (.iaload, 1) := by decide +kernel
theorem dL_law_1945 : decode cL_law 1945 = .ok (.aload_n 0, 1) := by decide +kernel
theorem dL_law_1946 : decode cL_law 1946 = .ok (.iload_n 3, 1) := by decide +kernel
theorem dL_law_1947 : decode cL_law 1947 = .ok (.iconst 2, 1) := by decide +kernel
theorem dL_law_1948 : decode cL_law 1948 = .ok (.iadd, 1) := by decide +kernel
theorem dL_law_1949 : decode cL_law 1949 = .ok (.iaload, 1) := by decide +kernel
theorem dL_law_1950 : decode cL_law 1950 = .ok (.aload_n 0, 1) := by decide +kernel
theorem dL_law_1951 : decode cL_law 1951 = .ok (.iload_n 3, 1) := by decide +kernel
theorem dL_law_1952 : decode cL_law 1952 = .ok (.iconst 3, 1) := by decide +kernel
theorem dL_law_1953 : decode cL_law 1953 = .ok (.iadd, 1) := by decide +kernel
theorem dL_law_1954 : decode cL_law 1954 = .ok (.iaload, 1) := by decide +kernel
theorem dL_law_1955 : decode cL_law 1955 = .ok (.invokevirtual 287, 3) := by decide +kernel
theorem dL_law_1958 : decode cL_law 1958 = .ok (.pop, 1) := by decide +kernel
theorem dL_law_1959 : decode cL_law 1959 = .ok (.aload_n 2, 1) := by decide +kernel
theorem dL_law_1960 : decode cL_law 1960 = .ok (.aload_n 0, 1) := by decide +kernel
theorem dL_law_1961 : decode cL_law 1961 = .ok (.iload_n 3, 1) := by decide +kernel
theorem dL_law_1962 : decode cL_law 1962 = .ok (.iconst 1, 1) := by decide +kernel
theorem dL_law_1963 : decode cL_law 1963 = .ok (.iadd, 1) := by decide +kernel
theorem dL_law_1964 : decode cL_law 1964 = .ok (.iaload, 1) := by decide +kernel
theorem dL_law_1965 : decode cL_law 1965 = .ok (.aload_n 0, 1) := by decide +kernel
theorem dL_law_1966 : decode cL_law 1966 = .ok (.iload_n 3, 1) := by decide +kernel
theorem dL_law_1967 : decode cL_law 1967 = .ok (.iconst 2, 1) := by decide +kernel
theorem dL_law_1968 : decode cL_law 1968 = .ok (.iadd, 1) := by decide +kernel
theorem dL_law_1969 : decode cL_law 1969 = .ok (.iaload, 1) := by decide +kernel
theorem dL_law_1970 : decode cL_law 1970 = .ok (.aload_n 0, 1) := by decide +kernel
theorem dL_law_1971 : decode cL_law 1971 = .ok (.iload_n 3, 1) := by decide +kernel
theorem dL_law_1972 : decode cL_law 1972 = .ok (.iconst 3, 1) := by decide +kernel
theorem dL_law_1973 : decode cL_law 1973 = .ok (.iadd, 1) := by decide +kernel
theorem dL_law_1974 : decode cL_law 1974 = .ok (.iaload, 1) := by decide +kernel
theorem dL_law_1975 : decode cL_law 1975 = .ok (.invokevirtual 290, 3) := by decide +kernel
theorem dL_law_1978 : decode cL_law 1978 = .ok (.pop, 1) := by decide +kernel
theorem dL_law_1979 : decode cL_law 1979 = .ok (.goto 139, 3) := by decide +kernel
theorem dL_law_1982 : decode cL_law 1982 = .ok (.aload_n 1, 1) := by decide +kernel
theorem dL_law_1983 : decode cL_law 1983 = .ok (.aload_n 0, 1) := by decide +kernel
theorem dL_law_1984 : decode cL_law 1984 = .ok (.iload_n 3, 1) := by decide +kernel
theorem dL_law_1985 : decode cL_law 1985 = .ok (.iconst 1, 1) := by decide +kernel
theorem dL_law_1986 : decode cL_law 1986 = .ok (.iadd, 1) := by decide +kernel
theorem dL_law_1987 : decode cL_law 1987 = .ok (.iaload, 1) := by decide +kernel
theorem dL_law_1988 : decode cL_law 1988 = .ok (.aload_n 0, 1) := by decide +kernel
theorem dL_law_1989 : decode cL_law 1989 = .ok (.iload_n 3, 1) := by decide +kernel
theorem dL_law_1990 : decode cL_law 1990 = .ok (.iconst 2, 1) := by decide +kernel
theorem dL_law_1991 : decode cL_law 1991 = .ok (.iadd, 1) := by decide +kernel
theorem dL_law_1992 : decode cL_law 1992 = .ok (.iaload, 1) := by decide +kernel
theorem dL_law_1993 : decode cL_law 1993 = .ok (.aload_n 0, 1) := by decide +kernel
theorem dL_law_1994 : decode cL_law 1994 = .ok (.iload_n 3, 1) := by decide +kernel
theorem dL_law_1995 : decode cL_law 1995 = .ok (.iconst 3, 1) := by decide +kernel
theorem dL_law_1996 : decode cL_law 1996 = .ok (.iadd, 1) := by decide +kernel
theorem dL_law_1997 : decode cL_law 1997 = .ok (.iaload, 1) := by decide +kernel
theorem dL_law_1998 : decode cL_law 1998 = .ok (.i2l, 1) := by decide +kernel
theorem dL_law_1999 : decode cL_law 1999 = .ok (.bipush 32, 2) := by decide +kernel
theorem dL_law_2001 : decode cL_law 2001 = .ok (.lshl, 1) := by decide +kernel
theorem dL_law_2002 : decode cL_law 2002 = .ok (.aload_n 0, 1) := by decide +kernel
theorem dL_law_2003 : decode cL_law 2003 = .ok (.iload_n 3, 1) := by decide +kernel
theorem dL_law_2004 : decode cL_law 2004 = .ok (.iconst 4, 1) := by decide +kernel
theorem dL_law_2005 : decode cL_law 2005 = .ok (.iadd, 1) := by decide +kernel
theorem dL_law_2006 : decode cL_law 2006 = .ok (.iaload, 1) := by decide +kernel
theorem dL_law_2007 : decode cL_law 2007 = .ok (.i2l, 1) := by decide +kernel
theorem dL_law_2008 : decode cL_law 2008 = .ok (.ldc2_w 291, 3) := by decide +kernel
theorem dL_law_2011 : decode cL_law 2011 = .ok (.land, 1) := by decide +kernel
theorem dL_law_2012 : decode cL_law 2012 = .ok (.lor, 1) := by decide +kernel
theorem dL_law_2013 : decode cL_law 2013 = .ok (.invokevirtual 293, 3) := by decide +kernel
theorem dL_law_2016 : decode cL_law 2016 = .ok (.pop, 1) := by decide +kernel
theorem dL_law_2017 : decode cL_law 2017 = .ok (.aload_n 2, 1) := by decide +kernel
theorem dL_law_2018 : decode cL_law 2018 = .ok (.aload_n 0, 1) := by decide +kernel
theorem dL_law_2019 : decode cL_law 2019 = .ok (.iload_n 3, 1) := by decide +kernel
theorem dL_law_2020 : decode cL_law 2020 = .ok (.iconst 1, 1) := by decide +kernel
theorem dL_law_2021 : decode cL_law 2021 = .ok (.iadd, 1) := by decide +kernel
theorem dL_law_2022 : decode cL_law 2022 = .ok (.iaload, 1) := by decide +kernel
theorem dL_law_2023 : decode cL_law 2023 = .ok (.aload_n 0, 1) := by decide +kernel
theorem dL_law_2024 : decode cL_law 2024 = .ok (.iload_n 3, 1) := by decide +kernel
theorem dL_law_2025 : decode cL_law 2025 = .ok (.iconst 2, 1) := by decide +kernel
theorem dL_law_2026 : decode cL_law 2026 = .ok (.iadd, 1) := by decide +kernel
theorem dL_law_2027 : decode cL_law 2027 = .ok (.iaload, 1) := by decide +kernel
theorem dL_law_2028 : decode cL_law 2028 = .ok (.aload_n 0, 1) := by decide +kernel
theorem dL_law_2029 : decode cL_law 2029 = .ok (.iload_n 3, 1) := by decide +kernel
theorem dL_law_2030 : decode cL_law 2030 = .ok (.iconst 3, 1) := by decide +kernel
theorem dL_law_2031 : decode cL_law 2031 = .ok (.iadd, 1) := by decide +kernel
theorem dL_law_2032 : decode cL_law 2032 = .ok (.iaload, 1) := by decide +kernel
theorem dL_law_2033 : decode cL_law 2033 = .ok (.i2l, 1) := by decide +kernel
theorem dL_law_2034 : decode cL_law 2034 = .ok (.bipush 32, 2) := by decide +kernel
theorem dL_law_2036 : decode cL_law 2036 = .ok (.lshl, 1) := by decide +kernel
theorem dL_law_2037 : decode cL_law 2037 = .ok (.aload_n 0, 1) := by decide +kernel
theorem dL_law_2038 : decode cL_law 2038 = .ok (.iload_n 3, 1) := by decide +kernel
theorem dL_law_2039 : decode cL_law 2039 = .ok (.iconst 4, 1) := by decide +kernel
theorem dL_law_2040 : decode cL_law 2040 = .ok (.iadd, 1) := by decide +kernel
theorem dL_law_2041 : decode cL_law 2041 = .ok (.iaload, 1) := by decide +kernel
theorem dL_law_2042 : decode cL_law 2042 = .ok (.i2l, 1) := by decide +kernel
theorem dL_law_2043 : decode cL_law 2043 = .ok (.ldc2_w 291, 3) := by decide +kernel
theorem dL_law_2046 : decode cL_law 2046 = .ok (.land, 1) := by decide +kernel
theorem dL_law_2047 : decode cL_law 2047 = .ok (.lor, 1) := by decide +kernel
theorem dL_law_2048 : decode cL_law 2048 = .ok (.invokevirtual 297, 3) := by decide +kernel
theorem dL_law_2051 : decode cL_law 2051 = .ok (.pop, 1) := by decide +kernel
theorem dL_law_2052 : decode cL_law 2052 = .ok (.goto 66, 3) := by decide +kernel
theorem dL_law_2055 : decode cL_law 2055 = .ok (.aload_n 1, 1) := by decide +kernel
theorem dL_law_2056 : decode cL_law 2056 = .ok (.aload_n 0, 1) := by decide +kernel
theorem dL_law_2057 : decode cL_law 2057 = .ok (.iload_n 3, 1) := by decide +kernel
theorem dL_law_2058 : decode cL_law 2058 = .ok (.iconst 1, 1) := by decide +kernel
theorem dL_law_2059 : decode cL_law 2059 = .ok (.iadd, 1) := by decide +kernel
theorem dL_law_2060 : decode cL_law 2060 = .ok (.iaload, 1) := by decide +kernel
theorem dL_law_2061 : decode cL_law 2061 = .ok (.aload_n 0, 1) := by decide +kernel
theorem dL_law_2062 : decode cL_law 2062 = .ok (.iload_n 3, 1) := by decide +kernel
theorem dL_law_2063 : decode cL_law 2063 = .ok (.iconst 2, 1) := by decide +kernel
theorem dL_law_2064 : decode cL_law 2064 = .ok (.iadd, 1) := by decide +kernel
theorem dL_law_2065 : decode cL_law 2065 = .ok (.iaload, 1) := by decide +kernel
theorem dL_law_2066 : decode cL_law 2066 = .ok (.aload_n 0, 1) := by decide +kernel
theorem dL_law_2067 : decode cL_law 2067 = .ok (.iload_n 3, 1) := by decide +kernel
theorem dL_law_2068 : decode cL_law 2068 = .ok (.iconst 3, 1) := by decide +kernel
theorem dL_law_2069 : decode cL_law 2069 = .ok (.iadd, 1) := by decide +kernel
theorem dL_law_2070 : decode cL_law 2070 = .ok (.iaload, 1) := by decide +kernel
theorem dL_law_2071 : decode cL_law 2071 = .ok (.aload_n 0, 1) := by decide +kernel
theorem dL_law_2072 : decode cL_law 2072 = .ok (.iload_n 3, 1) := by decide +kernel
theorem dL_law_2073 : decode cL_law 2073 = .ok (.iconst 4, 1) := by decide +kernel
theorem dL_law_2074 : decode cL_law 2074 = .ok (.iadd, 1) := by decide +kernel
theorem dL_law_2075 : decode cL_law 2075 = .ok (.iaload, 1) := by decide +kernel
theorem dL_law_2076 : decode cL_law 2076 = .ok (.aload_n 0, 1) := by decide +kernel
theorem dL_law_2077 : decode cL_law 2077 = .ok (.iload_n 3, 1) := by decide +kernel
theorem dL_law_2078 : decode cL_law 2078 = .ok (.iconst 5, 1) := by decide +kernel
theorem dL_law_2079 : decode cL_law 2079 = .ok (.iadd, 1) := by decide +kernel
theorem dL_law_2080 : decode cL_law 2080 = .ok (.iaload, 1) := by decide +kernel
theorem dL_law_2081 : decode cL_law 2081 = .ok (.invokevirtual 298, 3) := by decide +kernel
theorem dL_law_2084 : decode cL_law 2084 = .ok (.aload_n 2, 1) := by decide +kernel
theorem dL_law_2085 : decode cL_law 2085 = .ok (.aload_n 0, 1) := by decide +kernel
theorem dL_law_2086 : decode cL_law 2086 = .ok (.iload_n 3, 1) := by decide +kernel
theorem dL_law_2087 : decode cL_law 2087 = .ok (.iconst 1, 1) := by decide +kernel
theorem dL_law_2088 : decode cL_law 2088 = .ok (.iadd, 1) := by decide +kernel
theorem dL_law_2089 : decode cL_law 2089 = .ok (.iaload, 1) := by decide +kernel
theorem dL_law_2090 : decode cL_law 2090 = .ok (.aload_n 0, 1) := by decide +kernel
theorem dL_law_2091 : decode cL_law 2091 = .ok (.iload_n 3, 1) := by decide +kernel
theorem dL_law_2092 : decode cL_law 2092 = .ok (.iconst 2, 1) := by decide +kernel
theorem dL_law_2093 : decode cL_law 2093 = .ok (.iadd, 1) := by decide +kernel
theorem dL_law_2094 : decode cL_law 2094 = .ok (.iaload, 1) := by decide +kernel
theorem dL_law_2095 : decode cL_law 2095 = .ok (.aload_n 0, 1) := by decide +kernel
theorem dL_law_2096 : decode cL_law 2096 = .ok (.iload_n 3, 1) := by decide +kernel
theorem dL_law_2097 : decode cL_law 2097 = .ok (.iconst 3, 1) := by decide +kernel
theorem dL_law_2098 : decode cL_law 2098 = .ok (.iadd, 1) := by decide +kernel
theorem dL_law_2099 : decode cL_law 2099 = .ok (.iaload, 1) := by decide +kernel
theorem dL_law_2100 : decode cL_law 2100 = .ok (.aload_n 0, 1) := by decide +kernel
theorem dL_law_2101 : decode cL_law 2101 = .ok (.iload_n 3, 1) := by decide +kernel
theorem dL_law_2102 : decode cL_law 2102 = .ok (.iconst 4, 1) := by decide +kernel
theorem dL_law_2103 : decode cL_law 2103 = .ok (.iadd, 1) := by decide +kernel
theorem dL_law_2104 : decode cL_law 2104 = .ok (.iaload, 1) := by decide +kernel
theorem dL_law_2105 : decode cL_law 2105 = .ok (.aload_n 0, 1) := by decide +kernel
theorem dL_law_2106 : decode cL_law 2106 = .ok (.iload_n 3, 1) := by decide +kernel
theorem dL_law_2107 : decode cL_law 2107 = .ok (.iconst 5, 1) := by decide +kernel
theorem dL_law_2108 : decode cL_law 2108 = .ok (.iadd, 1) := by decide +kernel
theorem dL_law_2109 : decode cL_law 2109 = .ok (.iaload, 1) := by decide +kernel
theorem dL_law_2110 : decode cL_law 2110 = .ok (.invokevirtual 301, 3) := by decide +kernel
theorem dL_law_2113 : decode cL_law 2113 = .ok (.if_icmp .eq 5, 3) := by decide +kernel
theorem wd1678 : Cond.instanceMethod yX9_flown ∈ gW := gm (tm_5 203 (by decide +kernel)) rfl
theorem wd1679 : Cond.selects RX9 yX9_flown yX9_flown ∈ gW := gm (tm_5 204 (by decide +kernel)) rfl
theorem wd1680 : Cond.code yX9_flown cX9_flown 3 (some .int) ∈ gW := gm (tm_5 205 (by decide +kernel)) rfl
theorem wd1681 : Cond.methodLink RL 243 yX9_flown ∈ gW := gm (tm_5 202 (by decide +kernel)) rfl
theorem wd1682 : Cond.instanceMethod yX10_flown ∈ gW := gm (tm_9 101 (by decide +kernel)) rfl
theorem wd1683 : Cond.selects RX10 yX10_flown yX10_flown ∈ gW := gm (tm_9 102 (by decide +kernel)) rfl
theorem wd1684 : Cond.code yX10_flown cX10_flown 5 (some .int) ∈ gW := gm (tm_9 103 (by decide +kernel)) rfl
theorem wd1685 : Cond.methodLink RL 246 yX10_flown ∈ gW := gm (tm_9 100 (by decide +kernel)) rfl
theorem wd1686 : Cond.instanceMethod yX9_light ∈ gW := gm (tm_5 212 (by decide +kernel)) rfl
theorem wd1687 : Cond.selects RX9 yX9_light yX9_light ∈ gW := gm (tm_5 213 (by decide +kernel)) rfl
theorem wd1688 : Cond.code yX9_light cX9_light 3 (some .int) ∈ gW := gm (tm_5 214 (by decide +kernel)) rfl
theorem wd1689 : Cond.methodLink RL 247 yX9_light ∈ gW := gm (tm_5 211 (by decide +kernel)) rfl
theorem wd1690 : Cond.instanceMethod yX10_light ∈ gW := gm (tm_9 132 (by decide +kernel)) rfl
theorem wd1691 : Cond.selects RX10 yX10_light yX10_light ∈ gW := gm (tm_9 133 (by decide +kernel)) rfl
theorem wd1692 : Cond.code yX10_light cX10_light 3 (some .int) ∈ gW := gm (tm_9 134 (by decide +kernel)) rfl
theorem wd1693 : Cond.methodLink RL 250 yX10_light ∈ gW := gm (tm_9 131 (by decide +kernel)) rfl
theorem wd1694 : Cond.instanceMethod yX9_turn ∈ gW := gm (tm_5 228 (by decide +kernel)) rfl
theorem wd1695 : Cond.selects RX9 yX9_turn yX9_turn ∈ gW := gm (tm_5 229 (by decide +kernel)) rfl
theorem wd1696 : Cond.code yX9_turn cX9_turn 3 (some .int) ∈ gW := gm (tm_5 230 (by decide +kernel)) rfl
theorem wd1697 : Cond.methodLink RL 251 yX9_turn ∈ gW := gm (tm_5 227 (by decide +kernel)) rfl
theorem wd1698 : Cond.instanceMethod yX10_turn ∈ gW := gm (tm_9 140 (by decide +kernel)) rfl
theorem wd1699 : Cond.selects RX10 yX10_turn yX10_turn ∈ gW := gm (tm_9 141 (by decide +kernel)) rfl
theorem wd1700 : Cond.code yX10_turn cX10_turn 3 (some .int) ∈ gW := gm (tm_9 142 (by decide +kernel)) rfl
theorem wd1701 : Cond.methodLink RL 254 yX10_turn ∈ gW := gm (tm_9 139 (by decide +kernel)) rfl
theorem wd1702 : Cond.instanceMethod yX9_undo ∈ gW := gm (tm_5 236 (by decide +kernel)) rfl
theorem wd1703 : Cond.selects RX9 yX9_undo yX9_undo ∈ gW := gm (tm_5 237 (by decide +kernel)) rfl
theorem wd1704 : Cond.code yX9_undo cX9_undo 1 (some .int) ∈ gW := gm (tm_5 238 (by decide +kernel)) rfl
theorem wd1705 : Cond.methodLink RL 255 yX9_undo ∈ gW := gm (tm_5 235 (by decide +kernel)) rfl
theorem wd1706 : Cond.instanceMethod yX10_undo ∈ gW := gm (tm_9 144 (by decide +kernel)) rfl
theorem wd1707 : Cond.selects RX10 yX10_undo yX10_undo ∈ gW := gm (tm_9 145 (by decide +kernel)) rfl
theorem wd1708 : Cond.code yX10_undo cX10_undo 1 (some .int) ∈ gW := gm (tm_9 146 (by decide +kernel)) rfl
theorem wd1709 : Cond.methodLink RL 258 yX10_undo ∈ gW := gm (tm_9 143 (by decide +kernel)) rfl
theorem wd1710 : Cond.instanceMethod yX9_anew ∈ gW := gm (tm_6 4 (by decide +kernel)) rfl
theorem wd1711 : Cond.selects RX9 yX9_anew yX9_anew ∈ gW := gm (tm_6 5 (by decide +kernel)) rfl
theorem wd1712 : Cond.code yX9_anew cX9_anew 3 (some .int) ∈ gW := gm (tm_6 6 (by decide +kernel)) rfl
theorem wd1713 : Cond.methodLink RL 259 yX9_anew ∈ gW := gm (tm_6 3 (by decide +kernel)) rfl
theorem wd1714 : Cond.instanceMethod yX10_anew ∈ gW := gm (tm_9 148 (by decide +kernel)) rfl
theorem wd1715 : Cond.selects RX10 yX10_anew yX10_anew ∈ gW := gm (tm_9 149 (by decide +kernel)) rfl
theorem wd1716 : Cond.code yX10_anew cX10_anew 2 (some .int) ∈ gW := gm (tm_9 150 (by decide +kernel)) rfl
theorem wd1717 : Cond.methodLink RL 262 yX10_anew ∈ gW := gm (tm_9 147 (by decide +kernel)) rfl
theorem wd1718 : Cond.instanceMethod yX9_drawn ∈ gW := gm (tm_6 8 (by decide +kernel)) rfl
theorem wd1719 : Cond.selects RX9 yX9_drawn yX9_drawn ∈ gW := gm (tm_6 9 (by decide +kernel)) rfl
theorem wd1720 : Cond.code yX9_drawn cX9_drawn 4 (some .int) ∈ gW := gm (tm_6 10 (by decide +kernel)) rfl
theorem wd1721 : Cond.methodLink RL 263 yX9_drawn ∈ gW := gm (tm_6 7 (by decide +kernel)) rfl
theorem wd1722 : Cond.instanceMethod yX10_drawn ∈ gW := gm (tm_9 106 (by decide +kernel)) rfl
theorem wd1723 : Cond.selects RX10 yX10_drawn yX10_drawn ∈ gW := gm (tm_9 107 (by decide +kernel)) rfl
theorem wd1724 : Cond.code yX10_drawn cX10_drawn 3 (some .int) ∈ gW := gm (tm_9 108 (by decide +kernel)) rfl
theorem wd1725 : Cond.methodLink RL 266 yX10_drawn ∈ gW := gm (tm_9 105 (by decide +kernel)) rfl
theorem wd1726 : Cond.instanceMethod yX9_luck ∈ gW := gm (tm_6 26 (by decide +kernel)) rfl
theorem wd1727 : Cond.selects RX9 yX9_luck yX9_luck ∈ gW := gm (tm_6 27 (by decide +kernel)) rfl
theorem wd1728 : Cond.code yX9_luck cX9_luck 6 (some .int) ∈ gW := gm (tm_6 28 (by decide +kernel)) rfl
theorem wd1729 : Cond.methodLink RL 267 yX9_luck ∈ gW := gm (tm_6 25 (by decide +kernel)) rfl
theorem wd1730 : Cond.instanceMethod yX10_luck ∈ gW := gm (tm_9 127 (by decide +kernel)) rfl
theorem wd1731 : Cond.selects RX10 yX10_luck yX10_luck ∈ gW := gm (tm_9 128 (by decide +kernel)) rfl
theorem wd1732 : Cond.code yX10_luck cX10_luck 6 (some .int) ∈ gW := gm (tm_9 129 (by decide +kernel)) rfl
theorem wd1733 : Cond.methodLink RL 270 yX10_luck ∈ gW := gm (tm_9 126 (by decide +kernel)) rfl
theorem wd1734 : Cond.instanceMethod yX9_rate ∈ gW := gm (tm_6 30 (by decide +kernel)) rfl
theorem wd1735 : Cond.selects RX9 yX9_rate yX9_rate ∈ gW := gm (tm_6 31 (by decide +kernel)) rfl
theorem wd1736 : Cond.code yX9_rate cX9_rate 4 (some .int) ∈ gW := gm (tm_6 32 (by decide +kernel)) rfl
theorem wd1737 : Cond.methodLink RL 271 yX9_rate ∈ gW := gm (tm_6 29 (by decide +kernel)) rfl
theorem wd1738 : Cond.instanceMethod yX10_rate ∈ gW := gm (tm_9 152 (by decide +kernel)) rfl
theorem wd1739 : Cond.selects RX10 yX10_rate yX10_rate ∈ gW := gm (tm_9 153 (by decide +kernel)) rfl
theorem wd1740 : Cond.code yX10_rate cX10_rate 4 (some .int) ∈ gW := gm (tm_9 154 (by decide +kernel)) rfl
theorem wd1741 : Cond.methodLink RL 274 yX10_rate ∈ gW := gm (tm_9 151 (by decide +kernel)) rfl
theorem wd1742 : Cond.instanceMethod yX9_count ∈ gW := gm (tm_6 34 (by decide +kernel)) rfl
theorem wd1743 : Cond.selects RX9 yX9_count yX9_count ∈ gW := gm (tm_6 35 (by decide +kernel)) rfl
theorem wd1744 : Cond.code yX9_count cX9_count 2 (some .int) ∈ gW := gm (tm_6 36 (by decide +kernel)) rfl
theorem wd1745 : Cond.methodLink RL 275 yX9_count ∈ gW := gm (tm_6 33 (by decide +kernel)) rfl
theorem wd1746 : Cond.instanceMethod yX10_count ∈ gW := gm (tm_9 157 (by decide +kernel)) rfl
theorem wd1747 : Cond.selects RX10 yX10_count yX10_count ∈ gW := gm (tm_9 158 (by decide +kernel)) rfl
theorem wd1748 : Cond.code yX10_count cX10_count 4 (some .int) ∈ gW := gm (tm_9 159 (by decide +kernel)) rfl
theorem wd1749 : Cond.methodLink RL 278 yX10_count ∈ gW := gm (tm_9 156 (by decide +kernel)) rfl
theorem wd1750 : Cond.instanceMethod yX9_image ∈ gW := gm (tm_6 42 (by decide +kernel)) rfl
theorem wd1751 : Cond.selects RX9 yX9_image yX9_image ∈ gW := gm (tm_6 43 (by decide +kernel)) rfl
theorem wd1752 : Cond.code yX9_image cX9_image 2 (some .int) ∈ gW := gm (tm_6 44 (by decide +kernel)) rfl
theorem wd1753 : Cond.methodLink RL 279 yX9_image ∈ gW := gm (tm_6 41 (by decide +kernel)) rfl
theorem wd1754 : Cond.instanceMethod yX10_image ∈ gW := gm (tm_9 161 (by decide +kernel)) rfl
theorem wd1755 : Cond.selects RX10 yX10_image yX10_image ∈ gW := gm (tm_9 162 (by decide +kernel)) rfl
theorem wd1756 : Cond.code yX10_image cX10_image 2 (some .int) ∈ gW := gm (tm_9 163 (by decide +kernel)) rfl
theorem wd1757 : Cond.methodLink RL 282 yX10_image ∈ gW := gm (tm_9 160 (by decide +kernel)) rfl
theorem wd1758 : Cond.instanceMethod yX9_back ∈ gW := gm (tm_6 46 (by decide +kernel)) rfl
theorem wd1759 : Cond.selects RX9 yX9_back yX9_back ∈ gW := gm (tm_6 47 (by decide +kernel)) rfl
theorem wd1760 : Cond.code yX9_back cX9_back 2 (some .int) ∈ gW := gm (tm_6 48 (by decide +kernel)) rfl
theorem wd1761 : Cond.methodLink RL 283 yX9_back ∈ gW := gm (tm_6 45 (by decide +kernel)) rfl
theorem wd1762 : Cond.instanceMethod yX10_back ∈ gW := gm (tm_9 165 (by decide +kernel)) rfl
theorem wd1763 : Cond.selects RX10 yX10_back yX10_back ∈ gW := gm (tm_9 166 (by decide +kernel)) rfl
theorem wd1764 : Cond.code yX10_back cX10_back 2 (some .int) ∈ gW := gm (tm_9 167 (by decide +kernel)) rfl
theorem wd1765 : Cond.methodLink RL 286 yX10_back ∈ gW := gm (tm_9 164 (by decide +kernel)) rfl
theorem wd1766 : Cond.instanceMethod yX9_row ∈ gW := gm (tm_6 50 (by decide +kernel)) rfl
theorem wd1767 : Cond.selects RX9 yX9_row yX9_row ∈ gW := gm (tm_6 51 (by decide +kernel)) rfl
theorem wd1768 : Cond.code yX9_row cX9_row 4 (some .int) ∈ gW := gm (tm_6 52 (by decide +kernel)) rfl
theorem wd1769 : Cond.methodLink RL 287 yX9_row ∈ gW := gm (tm_6 49 (by decide +kernel)) rfl
theorem wd1770 : Cond.instanceMethod yX10_row ∈ gW := gm (tm_6 229 (by decide +kernel)) rfl
theorem wd1771 : Cond.selects RX10 yX10_row yX10_row ∈ gW := gm (tm_6 230 (by decide +kernel)) rfl
theorem wd1772 : Cond.code yX10_row cX10_row 5 (some .int) ∈ gW := gm (tm_6 231 (by decide +kernel)) rfl
theorem wd1773 : Cond.methodLink RL 290 yX10_row ∈ gW := gm (tm_6 228 (by decide +kernel)) rfl
theorem wd1774 : Cond.constantLong RL 291 (4294967295 : Int64) ∈ gW := gm (tm_9 168 (by decide +kernel)) rfl
theorem wd1775 : Cond.instanceMethod yX9_write ∈ gW := gm (tm_6 61 (by decide +kernel)) rfl
theorem wd1776 : Cond.selects RX9 yX9_write yX9_write ∈ gW := gm (tm_6 62 (by decide +kernel)) rfl
theorem wd1777 : Cond.code yX9_write cX9_write 6 (some .int) ∈ gW := gm (tm_6 63 (by decide +kernel)) rfl
theorem wd1778 : Cond.methodLink RL 293 yX9_write ∈ gW := gm (tm_6 60 (by decide +kernel)) rfl
theorem wd1779 : Cond.instanceMethod yX10_write ∈ gW := gm (tm_7 0 (by decide +kernel)) rfl
theorem wd1780 : Cond.selects RX10 yX10_write yX10_write ∈ gW := gm (tm_7 1 (by decide +kernel)) rfl
theorem wd1781 : Cond.code yX10_write cX10_write 5 (some .int) ∈ gW := gm (tm_7 2 (by decide +kernel)) rfl
theorem wd1782 : Cond.methodLink RL 297 yX10_write ∈ gW := gm (tm_6 239 (by decide +kernel)) rfl
theorem wd1783 : Cond.instanceMethod yX9_paste ∈ gW := gm (tm_6 69 (by decide +kernel)) rfl
theorem wd1784 : Cond.selects RX9 yX9_paste yX9_paste ∈ gW := gm (tm_6 70 (by decide +kernel)) rfl
theorem wd1785 : Cond.code yX9_paste cX9_paste 8 (some .int) ∈ gW := gm (tm_6 71 (by decide +kernel)) rfl
theorem wd1786 : Cond.methodLink RL 298 yX9_paste ∈ gW := gm (tm_6 68 (by decide +kernel)) rfl
theorem wd1787 : Cond.instanceMethod yX10_paste ∈ gW := gm (tm_7 7 (by decide +kernel)) rfl
theorem wd1788 : Cond.selects RX10 yX10_paste yX10_paste ∈ gW := gm (tm_7 8 (by decide +kernel)) rfl
theorem wd1789 : Cond.code yX10_paste cX10_paste 7 (some .int) ∈ gW := gm (tm_7 9 (by decide +kernel)) rfl
theorem wd1790 : Cond.methodLink RL 301 yX10_paste ∈ gW := gm (tm_7 6 (by decide +kernel)) rfl
theorem my_X9_flown : gWV RX9 yX9_flown cX9_flown 3 (some .int) 2 := ⟨⟨wd1678, wd1679, wd2, wd1680⟩, ⟨rfl, by decide +kernel, by decide +kernel, by decide +kernel⟩⟩
theorem my_X10_flown : gWV RX10 yX10_flown cX10_flown 5 (some .int) 2 := ⟨⟨wd1682, wd1683, wd742, wd1684⟩, ⟨rfl, by decide +kernel, by decide +kernel, by decide +kernel⟩⟩
theorem my_X9_light : gWV RX9 yX9_light cX9_light 3 (some .int) 2 := ⟨⟨wd1686, wd1687, wd2, wd1688⟩, ⟨rfl, by decide +kernel, by decide +kernel, by decide +kernel⟩⟩
theorem my_X10_light : gWV RX10 yX10_light cX10_light 3 (some .int) 2 := ⟨⟨wd1690, wd1691, wd742, wd1692⟩, ⟨rfl, by decide +kernel, by decide +kernel, by decide +kernel⟩⟩
theorem my_X9_turn : gWV RX9 yX9_turn cX9_turn 3 (some .int) 2 := ⟨⟨wd1694, wd1695, wd2, wd1696⟩, ⟨rfl, by decide +kernel, by decide +kernel, by decide +kernel⟩⟩
theorem my_X10_turn : gWV RX10 yX10_turn cX10_turn 3 (some .int) 2 := ⟨⟨wd1698, wd1699, wd742, wd1700⟩, ⟨rfl, by decide +kernel, by decide +kernel, by decide +kernel⟩⟩
theorem my_X9_undo : gWV RX9 yX9_undo cX9_undo 1 (some .int) 0 := ⟨⟨wd1702, wd1703, wd2, wd1704⟩, ⟨rfl, by decide +kernel, by decide +kernel, by decide +kernel⟩⟩
theorem my_X10_undo : gWV RX10 yX10_undo cX10_undo 1 (some .int) 0 := ⟨⟨wd1706, wd1707, wd742, wd1708⟩, ⟨rfl, by decide +kernel, by decide +kernel, by decide +kernel⟩⟩
theorem my_X9_anew : gWV RX9 yX9_anew cX9_anew 3 (some .int) 0 := ⟨⟨wd1710, wd1711, wd2, wd1712⟩, ⟨rfl, by decide +kernel, by decide +kernel, by decide +kernel⟩⟩
theorem my_X10_anew : gWV RX10 yX10_anew cX10_anew 2 (some .int) 0 := ⟨⟨wd1714, wd1715, wd742, wd1716⟩, ⟨rfl, by decide +kernel, by decide +kernel, by decide +kernel⟩⟩
theorem my_X9_drawn : gWV RX9 yX9_drawn cX9_drawn 4 (some .int) 2 := ⟨⟨wd1718, wd1719, wd2, wd1720⟩, ⟨rfl, by decide +kernel, by decide +kernel, by decide +kernel⟩⟩
theorem my_X10_drawn : gWV RX10 yX10_drawn cX10_drawn 3 (some .int) 2 := ⟨⟨wd1722, wd1723, wd742, wd1724⟩, ⟨rfl, by decide +kernel, by decide +kernel, by decide +kernel⟩⟩
theorem my_X9_luck : gWV RX9 yX9_luck cX9_luck 6 (some .int) 3 := ⟨⟨wd1726, wd1727, wd2, wd1728⟩, ⟨rfl, by decide +kernel, by decide +kernel, by decide +kernel⟩⟩
theorem my_X10_luck : gWV RX10 yX10_luck cX10_luck 6 (some .int) 3 := ⟨⟨wd1730, wd1731, wd742, wd1732⟩, ⟨rfl, by decide +kernel, by decide +kernel, by decide +kernel⟩⟩
theorem my_X9_rate : gWV RX9 yX9_rate cX9_rate 4 (some .int) 2 := ⟨⟨wd1734, wd1735, wd2, wd1736⟩, ⟨rfl, by decide +kernel, by decide +kernel, by decide +kernel⟩⟩
theorem my_X10_rate : gWV RX10 yX10_rate cX10_rate 4 (some .int) 2 := ⟨⟨wd1738, wd1739, wd742, wd1740⟩, ⟨rfl, by decide +kernel, by decide +kernel, by decide +kernel⟩⟩
theorem my_X9_count : gWV RX9 yX9_count cX9_count 2 (some .int) 1 := ⟨⟨wd1742, wd1743, wd2, wd1744⟩, ⟨rfl, by decide +kernel, by decide +kernel, by decide +kernel⟩⟩
theorem my_X10_count : gWV RX10 yX10_count cX10_count 4 (some .int) 1 := ⟨⟨wd1746, wd1747, wd742, wd1748⟩, ⟨rfl, by decide +kernel, by decide +kernel, by decide +kernel⟩⟩
theorem my_X9_image : gWV RX9 yX9_image cX9_image 2 (some .int) 1 := ⟨⟨wd1750, wd1751, wd2, wd1752⟩, ⟨rfl, by decide +kernel, by decide +kernel, by decide +kernel⟩⟩
theorem my_X10_image : gWV RX10 yX10_image cX10_image 2 (some .int) 1 := ⟨⟨wd1754, wd1755, wd742, wd1756⟩, ⟨rfl, by decide +kernel, by decide +kernel, by decide +kernel⟩⟩
theorem my_X9_back : gWV RX9 yX9_back cX9_back 2 (some .int) 1 := ⟨⟨wd1758, wd1759, wd2, wd1760⟩, ⟨rfl, by decide +kernel, by decide +kernel, by decide +kernel⟩⟩
theorem my_X10_back : gWV RX10 yX10_back cX10_back 2 (some .int) 1 := ⟨⟨wd1762, wd1763, wd742, wd1764⟩, ⟨rfl, by decide +kernel, by decide +kernel, by decide +kernel⟩⟩
theorem my_X9_row : gWV RX9 yX9_row cX9_row 4 (some .int) 3 := ⟨⟨wd1766, wd1767, wd2, wd1768⟩, ⟨rfl, by decide +kernel, by decide +kernel, by decide +kernel⟩⟩
theorem my_X10_row : gWV RX10 yX10_row cX10_row 5 (some .int) 3 := ⟨⟨wd1770, wd1771, wd742, wd1772⟩, ⟨rfl, by decide +kernel, by decide +kernel, by decide +kernel⟩⟩
theorem my_X9_write : gWV RX9 yX9_write cX9_write 6 (some .int) 3 := ⟨⟨wd1775, wd1776, wd2, wd1777⟩, ⟨rfl, by decide +kernel, by decide +kernel, by decide +kernel⟩⟩
theorem my_X10_write : gWV RX10 yX10_write cX10_write 5 (some .int) 3 := ⟨⟨wd1779, wd1780, wd742, wd1781⟩, ⟨rfl, by decide +kernel, by decide +kernel, by decide +kernel⟩⟩
theorem my_X9_paste : gWV RX9 yX9_paste cX9_paste 8 (some .int) 5 := ⟨⟨wd1783, wd1784, wd2, wd1785⟩, ⟨rfl, by decide +kernel, by decide +kernel, by decide +kernel⟩⟩
theorem my_X10_paste : gWV RX10 yX10_paste cX10_paste 7 (some .int) 5 := ⟨⟨wd1787, wd1788, wd742, wd1789⟩, ⟨rfl, by decide +kernel, by decide +kernel, by decide +kernel⟩⟩
