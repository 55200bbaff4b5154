theorem dL_law__1623 : decode cL_law_ 1623 = .ok (.aload_n 1, 1) := by decide +kernel
theorem dL_law__1624 : decode cL_law_ 1624 = .ok (.aload_n 0, 1) := by decide +kernel
theorem dL_law__1625 : decode cL_law_ 1625 = .ok (.iload 4, 2) := by decide +kernel
theorem dL_law__1627 : decode cL_law_ 1627 = .ok (.iconst 1, 1) := by decide +kernel
theorem dL_law__1628 : decode cL_law_ 1628 = .ok (.iadd, 1) := by decide +kernel
theorem dL_law__1629 : decode cL_law_ 1629 = .ok (.iaload, 1) := by decide +kernel
theorem dL_law__1630 : decode cL_law_ 1630 = .ok (.aload_n 0, 1) := by decide +kernel
theorem dL_law__1631 : decode cL_law_ 1631 = .ok (.iload 4, 2) := by decide +kernel
theorem dL_law__1633 : decode cL_law_ 1633 = .ok (.iconst 2, 1) := by decide +kernel
theorem dL_law__1634 : decode cL_law_ 1634 = .ok (.iadd, 1) := by decide +kernel
theorem dL_law__1635 : decode cL_law_ 1635 = .ok (.iaload, 1) := by decide +kernel
theorem dL_law__1636 : decode cL_law_ 1636 = .ok (.aload_n 0, 1) := by decide +kernel
theorem dL_law__1637 : decode cL_law_ 1637 = .ok (.iload 4, 2) := by decide +kernel
theorem dL_law__1639 : decode cL_law_ 1639 = .ok (.iconst 3, 1) := by decide +kernel
theorem dL_law__1640 : decode cL_law_ 1640 = .ok (.iadd, 1) := by decide +kernel
theorem dL_law__1641 : decode cL_law_ 1641 = .ok (.iaload, 1) := by decide +kernel
theorem dL_law__1642 : decode cL_law_ 1642 = .ok (.aload_n 0, 1) := by decide +kernel
theorem dL_law__1643 : decode cL_law_ 1643 = .ok (.iload 4, 2) := by decide +kernel
theorem dL_law__1645 : decode cL_law_ 1645 = .ok (.iconst 4, 1) := by decide +kernel
theorem dL_law__1646 : decode cL_law_ 1646 = .ok (.iadd, 1) := by decide +kernel
theorem dL_law__1647 : decode cL_law_ 1647 = .ok (.iaload, 1) := by decide +kernel
theorem dL_law__1648 : decode cL_law_ 1648 = .ok (.aload_n 3, 1) := by decide +kernel
theorem dL_law__1649 : decode cL_law_ 1649 = .ok (.invokestatic 198, 3) := by decide +kernel
theorem dL_law__1652 : decode cL_law_ 1652 = .ok (.istore 5, 2) := by decide +kernel
theorem dL_law__1654 : decode cL_law_ 1654 = .ok (.aload_n 2, 1) := by decide +kernel
theorem dL_law__1655 : decode cL_law_ 1655 = .ok (.aload_n 0, 1) := by decide +kernel
theorem dL_law__1656 : decode cL_law_ 1656 = .ok (.iload 4, 2) := by decide +kernel
theorem dL_law__1658 : decode cL_law_ 1658 = .ok (.iconst 1, 1) := by decide +kernel
theorem dL_law__1659 : decode cL_law_ 1659 = .ok (.iadd, 1) := by decide +kernel
theorem dL_law__1660 : decode cL_law_ 1660 = .ok (.iaload, 1) := by decide +kernel
theorem dL_law__1661 : decode cL_law_ 1661 = .ok (.aload_n 0, 1) := by decide +kernel
theorem dL_law__1662 : decode cL_law_ 1662 = .ok (.iload 4, 2) := by decide +kernel
theorem dL_law__1664 : decode cL_law_ 1664 = .ok (.iconst 2, 1) := by decide +kernel
theorem dL_law__1665 : decode cL_law_ 1665 = .ok (.iadd, 1) := by decide +kernel
theorem dL_law__1666 : decode cL_law_ 1666 = .ok (.iaload, 1) := by decide +kernel
theorem dL_law__1667 : decode cL_law_ 1667 = .ok (.aload_n 0, 1) := by decide +kernel
theorem dL_law__1668 : decode cL_law_ 1668 = .ok (.iload 4, 2) := by decide +kernel
theorem dL_law__1670 : decode cL_law_ 1670 = .ok (.iconst 3, 1) := by decide +kernel
theorem dL_law__1671 : decode cL_law_ 1671 = .ok (.iadd, 1) := by decide +kernel
theorem dL_law__1672 : decode cL_law_ 1672 = .ok (.iaload, 1) := by decide +kernel
theorem dL_law__1673 : decode cL_law_ 1673 = .ok (.aload_n 0, 1) := by decide +kernel
theorem dL_law__1674 : decode cL_law_ 1674 = .ok (.iload 4, 2) := by decide +kernel
theorem dL_law__1676 : decode cL_law_ 1676 = .ok (.iconst 4, 1) := by decide +kernel
theorem dL_law__1677 : decode cL_law_ 1677 = .ok (.iadd, 1) := by decide +kernel
theorem dL_law__1678 : decode cL_law_ 1678 = .ok (.iaload, 1) := by decide +kernel
theorem dL_law__1679 : decode cL_law_ 1679 = .ok (.invokevirtual 201, 3) := by decide +kernel
theorem dL_law__1682 : decode cL_law_ 1682 = .ok (.istore 6, 2) := by decide +kernel
theorem dL_law__1684 : decode cL_law_ 1684 = .ok (.aload_n 2, 1) := by decide +kernel
theorem dL_law__1685 : decode cL_law_ 1685 = .ok (.invokevirtual 131, 3) := by decide +kernel
theorem dL_law__1688 : decode cL_law_ 1688 = .ok (.iload 5, 2) := by decide +kernel
theorem dL_law__1690 : decode cL_law_ 1690 = .ok (.if_icmp .eq 5, 3) := by decide +kernel
theorem dL_law__1695 : decode cL_law_ 1695 = .ok (.iload 5, 2) := by decide +kernel
theorem dL_law__1697 : decode cL_law_ 1697 = .ok (.ifCond .ne 15, 3) := by decide +kernel
theorem dL_law__1712 : decode cL_law_ 1712 = .ok (.goto 1043, 3) := by decide +kernel
theorem dL_law__1715 : decode cL_law_ 1715 = .ok (.aload_n 1, 1) := by decide +kernel
theorem dL_law__1716 : decode cL_law_ 1716 = .ok (.aload_n 0, 1) := by decide +kernel
theorem dL_law__1717 : decode cL_law_ 1717 = .ok (.iload 4, 2) := by decide +kernel
theorem dL_law__1719 : decode cL_law_ 1719 = .ok (.iconst 1, 1) := by decide +kernel
theorem dL_law__1720 : decode cL_law_ 1720 = .ok (.iadd, 1) := by decide +kernel
theorem dL_law__1721 : decode cL_law_ 1721 = .ok (.iaload, 1) := by decide +kernel
theorem dL_law__1722 : decode cL_law_ 1722 = .ok (.aload_n 0, 1) := by decide +kernel
theorem dL_law__1723 : decode cL_law_ 1723 = .ok (.iload 4, 2) := by decide +kernel
theorem dL_law__1725 : decode cL_law_ 1725 = .ok (.iconst 2, 1) := by decide +kernel
theorem dL_law__1726 : decode cL_law_ 1726 = .ok (.iadd, 1) := by decide +kernel
theorem dL_law__1727 : decode cL_law_ 1727 = .ok (.iaload, 1) := by decide +kernel
theorem dL_law__1728 : decode cL_law_ 1728 = .ok (.aload_n 0, 1) := by decide +kernel
theorem dL_law__1729 : decode cL_law_ 1729 = .ok (.iload 4, 2) := by decide +kernel
theorem dL_law__1731 : decode cL_law_ 1731 = .ok (.iconst 3, 1) := by decide +kernel
theorem dL_law__1732 : decode cL_law_ 1732 = .ok (.iadd, 1) := by decide +kernel
theorem dL_law__1733 : decode cL_law_ 1733 = .ok (.iaload, 1) := by decide +kernel
theorem dL_law__1734 : decode cL_law_ 1734 = .ok (.aload_n 0, 1) := by decide +kernel
theorem dL_law__1735 : decode cL_law_ 1735 = .ok (.iload 4, 2) := by decide +kernel
theorem dL_law__1737 : decode cL_law_ 1737 = .ok (.iconst 4, 1) := by decide +kernel
theorem dL_law__1738 : decode cL_law_ 1738 = .ok (.iadd, 1) := by decide +kernel
theorem dL_law__1739 : decode cL_law_ 1739 = .ok (.iaload, 1) := by decide +kernel
theorem dL_law__1740 : decode cL_law_ 1740 = .ok (.aload_n 3, 1) := by decide +kernel
theorem dL_law__1741 : decode cL_law_ 1741 = .ok (.invokestatic 202, 3) := by decide +kernel
theorem dL_law__1744 : decode cL_law_ 1744 = .ok (.istore 5, 2) := by decide +kernel
theorem dL_law__1746 : decode cL_law_ 1746 = .ok (.aload_n 2, 1) := by decide +kernel
theorem dL_law__1747 : decode cL_law_ 1747 = .ok (.aload_n 0, 1) := by decide +kernel
theorem dL_law__1748 : decode cL_law_ 1748 = .ok (.iload 4, 2) := by decide +kernel
theorem dL_law__1750 : decode cL_law_ 1750 = .ok (.iconst 1, 1) := by decide +kernel
theorem dL_law__1751 : decode cL_law_ 1751 = .ok (.iadd, 1) := by decide +kernel
theorem dL_law__1752 : decode cL_law_ 1752 = .ok (.iaload, 1) := by decide +kernel
theorem dL_law__1753 : decode cL_law_ 1753 = .ok (.aload_n 0, 1) := by decide +kernel
theorem dL_law__1754 : decode cL_law_ 1754 = .ok (.iload 4, 2) := by decide +kernel
theorem dL_law__1756 : decode cL_law_ 1756 = .ok (.iconst 2, 1) := by decide +kernel
theorem dL_law__1757 : decode cL_law_ 1757 = .ok (.iadd, 1) := by decide +kernel
theorem dL_law__1758 : decode cL_law_ 1758 = .ok (.iaload, 1) := by decide +kernel
theorem dL_law__1759 : decode cL_law_ 1759 = .ok (.aload_n 0, 1) := by decide +kernel
theorem dL_law__1760 : decode cL_law_ 1760 = .ok (.iload 4, 2) := by decide +kernel
theorem dL_law__1762 : decode cL_law_ 1762 = .ok (.iconst 3, 1) := by decide +kernel
theorem dL_law__1763 : decode cL_law_ 1763 = .ok (.iadd, 1) := by decide +kernel
theorem dL_law__1764 : decode cL_law_ 1764 = .ok (.iaload, 1) := by decide +kernel
theorem dL_law__1765 : decode cL_law_ 1765 = .ok (.aload_n 0, 1) := by decide +kernel
theorem dL_law__1766 : decode cL_law_ 1766 = .ok (.iload 4, 2) := by decide +kernel
theorem dL_law__1768 : decode cL_law_ 1768 = .ok (.iconst 4, 1) := by decide +kernel
theorem dL_law__1769 : decode cL_law_ 1769 = .ok (.iadd, 1) := by decide +kernel
theorem dL_law__1770 : decode cL_law_ 1770 = .ok (.iaload, 1) := by decide +kernel
theorem dL_law__1771 : decode cL_law_ 1771 = .ok (.invokevirtual 204, 3) := by decide +kernel
theorem dL_law__1774 : decode cL_law_ 1774 = .ok (.istore 6, 2) := by decide +kernel
theorem dL_law__1776 : decode cL_law_ 1776 = .ok (.aload_n 2, 1) := by decide +kernel
theorem dL_law__1777 : decode cL_law_ 1777 = .ok (.invokevirtual 131, 3) := by decide +kernel
theorem dL_law__1780 : decode cL_law_ 1780 = .ok (.iload 5, 2) := by decide +kernel
theorem dL_law__1782 : decode cL_law_ 1782 = .ok (.if_icmp .eq 5, 3) := by decide +kernel
theorem dL_law__1787 : decode cL_law_ 1787 = .ok (.iload 5, 2) := by decide +kernel
theorem dL_law__1789 : decode cL_law_ 1789 = .ok (.ifCond .ne 15, 3) := by decide +kernel
theorem dL_law__1804 : decode cL_law_ 1804 = .ok (.goto 951, 3) := by decide +kernel
theorem dL_law__1807 : decode cL_law_ 1807 = .ok (.aload_n 1, 1) := by decide +kernel
theorem dL_law__1808 : decode cL_law_ 1808 = .ok (.aload_n 0, 1) := by decide +kernel
theorem dL_law__1809 : decode cL_law_ 1809 = .ok (.iload 4, 2) := by decide +kernel
theorem dL_law__1811 : decode cL_law_ 1811 = .ok (.iconst 1, 1) := by decide +kernel
theorem dL_law__1812 : decode cL_law_ 1812 = .ok (.iadd, 1) := by decide +kernel
theorem dL_law__1813 : decode cL_law_ 1813 = .ok (.iaload, 1) := by decide +kernel
theorem dL_law__1814 : decode cL_law_ 1814 = .ok (.aload_n 0, 1) := by decide +kernel
theorem dL_law__1815 : decode cL_law_ 1815 = .ok (.iload 4, 2) := by decide +kernel
theorem dL_law__1817 : decode cL_law_ 1817 = .ok (.iconst 2, 1) := by decide +kernel
theorem dL_law__1818 : decode cL_law_ 1818 = .ok (.iadd, 1) := by decide +kernel
theorem dL_law__1819 : decode cL_law_ 1819 = .ok (.iaload, 1) := by decide +kernel
theorem dL_law__1820 : decode cL_law_ 1820 = .ok (.aload_n 3, 1) := by decide +kernel
theorem dL_law__1821 : decode cL_law_ 1821 = .ok (.invokestatic 205, 3) := by decide +kernel
theorem dL_law__1824 : decode cL_law_ 1824 = .ok (.istore 5, 2) := by decide +kernel
theorem dL_law__1826 : decode cL_law_ 1826 = .ok (.aload_n 2, 1) := by decide +kernel
theorem dL_law__1827 : decode cL_law_ 1827 = .ok (.aload_n 0, 1) := by decide +kernel
theorem dL_law__1828 : decode cL_law_ 1828 = .ok (.iload 4, 2) := by decide +kernel
theorem dL_law__1830 : decode cL_law_ 1830 = .ok (.iconst 1, 1) := by decide +kernel
theorem dL_law__1831 : decode cL_law_ 1831 = .ok (.iadd, 1) := by decide +kernel
theorem dL_law__1832 : decode cL_law_ 1832 = .ok (.iaload, 1) := by decide +kernel
theorem dL_law__1833 : decode cL_law_ 1833 = .ok (.aload_n 0, 1) := by decide +kernel
theorem dL_law__1834 : decode cL_law_ 1834 = .ok (.iload 4, 2) := by decide +kernel
theorem dL_law__1836 : decode cL_law_ 1836 = .ok (.iconst 2, 1) := by decide +kernel
theorem dL_law__1837 : decode cL_law_ 1837 = .ok (.iadd, 1) := by decide +kernel
theorem dL_law__1838 : decode cL_law_ 1838 = .ok (.iaload, 1) := by decide +kernel
theorem dL_law__1839 : decode cL_law_ 1839 = .ok (.invokevirtual 207, 3) := by decide +kernel
theorem dL_law__1842 : decode cL_law_ 1842 = .ok (.istore 6, 2) := by decide +kernel
theorem dL_law__1844 : decode cL_law_ 1844 = .ok (.aload_n 2, 1) := by decide +kernel
theorem dL_law__1845 : decode cL_law_ 1845 = .ok (.invokevirtual 131, 3) := by decide +kernel
theorem dL_law__1848 : decode cL_law_ 1848 = .ok (.iload 5, 2) := by decide +kernel
theorem dL_law__1850 : decode cL_law_ 1850 = .ok (.if_icmp .eq 5, 3) := by decide +kernel
theorem dL_law__1855 : decode cL_law_ 1855 = .ok (.iload 5, 2) := by decide +kernel
theorem dL_law__1857 : decode cL_law_ 1857 = .ok (.ifCond .ne 15, 3) := by decide +kernel
theorem dL_law__1872 : decode cL_law_ 1872 = .ok (.goto 883, 3) := by decide +kernel
theorem dL_law__1875 : decode cL_law_ 1875 = .ok (.aload_n 1, 1) := by decide +kernel
theorem dL_law__1876 : decode cL_law_ 1876 = .ok (.aload_n 0, 1) := by decide +kernel
theorem dL_law__1877 : decode cL_law_ 1877 = .ok (.iload 4, 2) := by decide +kernel
theorem dL_law__1879 : decode cL_law_ 1879 = .ok (.iconst 1, 1) := by decide +kernel
theorem dL_law__1880 : decode cL_law_ 1880 = .ok (.iadd, 1) := by decide +kernel
theorem dL_law__1881 : decode cL_law_ 1881 = .ok (.iaload, 1) := by decide +kernel
theorem dL_law__1882 : decode cL_law_ 1882 = .ok (.aload_n 0, 1) := by decide +kernel
theorem dL_law__1883 : decode cL_law_ 1883 = .ok (.iload 4, 2) := by decide +kernel
theorem dL_law__1885 : decode cL_law_ 1885 = .ok (.iconst 2, 1) := by decide +kernel
theorem dL_law__1886 : decode cL_law_ 1886 = .ok (.iadd, 1) := by decide +kernel
theorem dL_law__1887 : decode cL_law_ 1887 = .ok (.iaload, 1) := by decide +kernel
theorem dL_law__1888 : decode cL_law_ 1888 = .ok (.aload_n 0, 1) := by decide +kernel
theorem dL_law__1889 : decode cL_law_ 1889 = .ok (.iload 4, 2) := by decide +kernel
theorem dL_law__1891 : decode cL_law_ 1891 = .ok (.iconst 3, 1) := by decide +kernel
theorem dL_law__1892 : decode cL_law_ 1892 = .ok (.iadd, 1) := by decide +kernel
theorem dL_law__1893 : decode cL_law_ 1893 = .ok (.iaload, 1) := by decide +kernel
theorem dL_law__1894 : decode cL_law_ 1894 = .ok (.aload_n 3, 1) := by decide +kernel
theorem dL_law__1895 : decode cL_law_ 1895 = .ok (.invokestatic 208, 3) := by decide +kernel
theorem dL_law__1898 : decode cL_law_ 1898 = .ok (.istore 5, 2) := by decide +kernel
theorem dL_law__1900 : decode cL_law_ 1900 = .ok (.aload_n 2, 1) := by decide +kernel
theorem dL_law__1901 : decode cL_law_ 1901 = .ok (.aload_n 0, 1) := by decide +kernel
theorem dL_law__1902 : decode cL_law_ 1902 = .ok (.iload 4, 2) := by decide +kernel
theorem dL_law__1904 : decode cL_law_ 1904 = .ok (.iconst 1, 1) := by decide +kernel
theorem dL_law__1905 : decode cL_law_ 1905 = .ok (.iadd, 1) := by decide +kernel
theorem dL_law__1906 : decode cL_law_ 1906 = .ok (.iaload, 1) := by decide +kernel
theorem dL_law__1907 : decode cL_law_ 1907 = .ok (.aload_n 0, 1) := by decide +kernel
theorem dL_law__1908 : decode cL_law_ 1908 = .ok (.iload 4, 2) := by decide +kernel
theorem dL_law__1910 : decode cL_law_ 1910 = .ok (.iconst 2, 1) := by decide +kernel
theorem dL_law__1911 : decode cL_law_ 1911 = .ok (.iadd, 1) := by decide +kernel
theorem dL_law__1912 : decode cL_law_ 1912 = .ok (.iaload, 1) := by decide +kernel
theorem dL_law__1913 : decode cL_law_ 1913 = .ok (.aload_n 0, 1) := by decide +kernel
theorem dL_law__1914 : decode cL_law_ 1914 = .ok (.iload 4, 2) := by decide +kernel
theorem dL_law__1916 : decode cL_law_ 1916 = .ok (.iconst 3, 1) := by decide +kernel
theorem dL_law__1917 : decode cL_law_ 1917 = .ok (.iadd, 1) := by decide +kernel
theorem dL_law__1918 : decode cL_law_ 1918 = .ok (.iaload, 1) := by decide +kernel
theorem dL_law__1919 : decode cL_law_ 1919 = .ok (.invokevirtual 210, 3) := by decide +kernel
theorem dL_law__1922 : decode cL_law_ 1922 = .ok (.istore 6, 2) := by decide +kernel
theorem dL_law__1924 : decode cL_law_ 1924 = .ok (.aload_n 2, 1) := by decide +kernel
theorem dL_law__1925 : decode cL_law_ 1925 = .ok (.invokevirtual 131, 3) := by decide +kernel
theorem dL_law__1928 : decode cL_law_ 1928 = .ok (.iload 5, 2) := by decide +kernel
theorem dL_law__1930 : decode cL_law_ 1930 = .ok (.if_icmp .eq 5, 3) := by decide +kernel
theorem dL_law__1935 : decode cL_law_ 1935 = .ok (.iload 5, 2) := by decide +kernel
theorem dL_law__1937 : decode cL_law_ 1937 = .ok (.ifCond .ne 15, 3) := by decide +kernel
theorem dL_law__1952 : decode cL_law_ 1952 = .ok (.goto 803, 3) := by decide +kernel
theorem dL_law__1955 : decode cL_law_ 1955 = .ok (.aload_n 1, 1) := by decide +kernel
theorem dL_law__1956 : decode cL_law_ 1956 = .ok (.aload_n 0, 1) := by decide +kernel
theorem dL_law__1957 : decode cL_law_ 1957 = .ok (.iload 4, 2) := by decide +kernel
theorem dL_law__1959 : decode cL_law_ 1959 = .ok (.iconst 1, 1) := by decide +kernel
theorem dL_law__1960 : decode cL_law_ 1960 = .ok (.iadd, 1) := by decide +kernel
theorem dL_law__1961 : decode cL_law_ 1961 = .ok (.iaload, 1) := by decide +kernel
theorem dL_law__1962 : decode cL_law_ 1962 = .ok (.aload_n 0, 1) := by decide +kernel
theorem dL_law__1963 : decode cL_law_ 1963 = .ok (.iload 4, 2) := by decide +kernel
theorem dL_law__1965 : decode cL_law_ 1965 = .ok (.iconst 2, 1) := by decide +kernel
theorem dL_law__1966 : decode cL_law_ 1966 = .ok (.iadd, 1) := by decide +kernel
theorem dL_law__1967 : decode cL_law_ 1967 = .ok (.iaload, 1) := by decide +kernel
theorem dL_law__1968 : decode cL_law_ 1968 = .ok (.aload_n 0, 1) := by decide +kernel
theorem dL_law__1969 : decode cL_law_ 1969 = .ok (.iload 4, 2) := by decide +kernel
theorem dL_law__1971 : decode cL_law_ 1971 = .ok (.iconst 3, 1) := by decide +kernel
theorem dL_law__1972 : decode cL_law_ 1972 = .ok (.iadd, 1) := by decide +kernel
theorem dL_law__1973 : decode cL_law_ 1973 = .ok (.iaload, 1) := by decide +kernel
theorem dL_law__1974 : decode cL_law_ 1974 = .ok (.aload_n 0, 1) := by decide +kernel
theorem dL_law__1975 : decode cL_law_ 1975 = .ok (.iload 4, 2) := by decide +kernel
theorem dL_law__1977 : decode cL_law_ 1977 = .ok (.iconst 4, 1) := by decide +kernel
theorem dL_law__1978 : decode cL_law_ 1978 = .ok (.iadd, 1) := by decide +kernel
theorem dL_law__1979 : decode cL_law_ 1979 = .ok (.iaload, 1) := by decide +kernel
theorem dL_law__1980 : decode cL_law_ 1980 = .ok (.aload_n 3, 1) := by decide +kernel
theorem dL_law__1981 : decode cL_law_ 1981 = .ok (.invokestatic 211, 3) := by decide +kernel
theorem dL_law__1984 : decode cL_law_ 1984 = .ok (.istore 5, 2) := by decide +kernel
theorem dL_law__1986 : decode cL_law_ 1986 = .ok (.aload_n 2, 1) := by decide +kernel
theorem dL_law__1987 : decode cL_law_ 1987 = .ok (.aload_n 0, 1) := by decide +kernel
theorem dL_law__1988 : decode cL_law_ 1988 = .ok (.iload 4, 2) := by decide +kernel
theorem dL_law__1990 : decode cL_law_ 1990 = .ok (.iconst 1, 1) := by decide +kernel
theorem dL_law__1991 : decode cL_law_ 1991 = .ok (.iadd, 1) := by decide +kernel
theorem dL_law__1992 : decode cL_law_ 1992 = .ok (.iaload, 1) := by decide +kernel
theorem dL_law__1993 : decode cL_law_ 1993 = .ok (.aload_n 0, 1) := by decide +kernel
theorem dL_law__1994 : decode cL_law_ 1994 = .ok (.iload 4, 2) := by decide +kernel
theorem dL_law__1996 : decode cL_law_ 1996 = .ok (.iconst 2, 1) := by decide +kernel
theorem dL_law__1997 : decode cL_law_ 1997 = .ok (.iadd, 1) := by decide +kernel
theorem dL_law__1998 : decode cL_law_ 1998 = .ok (.iaload, 1) := by decide +kernel
theorem dL_law__1999 : decode cL_law_ 1999 = .ok (.aload_n 0, 1) := by decide +kernel
theorem dL_law__2000 : decode cL_law_ 2000 = .ok (.iload 4, 2) := by decide +kernel
theorem dL_law__2002 : decode cL_law_ 2002 = .ok (.iconst 3, 1) := by decide +kernel
theorem dL_law__2003 : decode cL_law_ 2003 = .ok (.iadd, 1) := by decide +kernel
theorem dL_law__2004 : decode cL_law_ 2004 = .ok (.iaload, 1) := by decide +kernel
theorem dL_law__2005 : decode cL_law_ 2005 = .ok (.aload_n 0, 1) := by decide +kernel
theorem dL_law__2006 : decode cL_law_ 2006 = .ok (.iload 4, 2) := by decide +kernel
theorem dL_law__2008 : decode cL_law_ 2008 = .ok (.iconst 4, 1) := by decide +kernel
theorem dL_law__2009 : decode cL_law_ 2009 = .ok (.iadd, 1) := by decide +kernel
theorem dL_law__2010 : decode cL_law_ 2010 = .ok (.iaload, 1) := by decide +kernel
theorem dL_law__2011 : decode cL_law_ 2011 = .ok (.invokevirtual 213, 3) := by decide +kernel
theorem dL_law__2014 : decode cL_law_ 2014 = .ok (.istore 6, 2) := by decide +kernel
theorem dL_law__2016 : decode cL_law_ 2016 = .ok (.aload_n 2, 1) := by decide +kernel
theorem dL_law__2017 : decode cL_law_ 2017 = .ok (.invokevirtual 131, 3) := by decide +kernel
theorem dL_law__2020 : decode cL_law_ 2020 = .ok (.iload 5, 2) := by decide +kernel
theorem dL_law__2022 : decode cL_law_ 2022 = .ok (.if_icmp .eq 5, 3) := by decide +kernel
theorem dL_law__2027 : decode cL_law_ 2027 = .ok (.iload 5, 2) := by decide +kernel
theorem dL_law__2029 : decode cL_law_ 2029 = .ok (.ifCond .ne 15, 3) := by decide +kernel
theorem dL_law__2044 : decode cL_law_ 2044 = .ok (.goto 711, 3) := by decide +kernel
theorem dL_law__2047 : decode cL_law_ 2047 = .ok (.aload_n 1, 1) := by decide +kernel
theorem dL_law__2048 : decode cL_law_ 2048 = .ok (.aload_n 0, 1) := by decide +kernel
theorem dL_law__2049 : decode cL_law_ 2049 = .ok (.iload 4, 2) := by decide +kernel
theorem dL_law__2051 : decode cL_law_ 2051 = .ok (.iconst 1, 1) := by decide +kernel
theorem dL_law__2052 : decode cL_law_ 2052 = .ok (.iadd, 1) := by decide +kernel
theorem dL_law__2053 : decode cL_law_ 2053 = .ok (.iaload, 1) := by decide +kernel
theorem dL_law__2054 : decode cL_law_ 2054 = .ok (.aload_n 0, 1) := by decide +kernel
theorem dL_law__2055 : decode cL_law_ 2055 = .ok (.iload 4, 2) := by decide +kernel
theorem dL_law__2057 : decode cL_law_ 2057 = .ok (.iconst 2, 1) := by decide +kernel
theorem dL_law__2058 : decode cL_law_ 2058 = .ok (.iadd, 1) := by decide +kernel
theorem dL_law__2059 : decode cL_law_ 2059 = .ok (.iaload, 1) := by decide +kernel
theorem dL_law__2060 : decode cL_law_ 2060 = .ok (.aload_n 3, 1) := by decide +kernel
theorem dL_law__2061 : decode cL_law_ 2061 = .ok (.invokestatic 214, 3) := by decide +kernel
theorem dL_law__2064 : decode cL_law_ 2064 = .ok (.istore 5, 2) := by decide +kernel
theorem dL_law__2066 : decode cL_law_ 2066 = .ok (.aload_n 2, 1) := by decide +kernel
theorem dL_law__2067 : decode cL_law_ 2067 = .ok (.aload_n 0, 1) := by decide +kernel
theorem dL_law__2068 : decode cL_law_ 2068 = .ok (.iload 4, 2) := by decide +kernel
theorem dL_law__2070 : decode cL_law_ 2070 = .ok (.iconst 1, 1) := by decide +kernel
theorem dL_law__2071 : decode cL_law_ 2071 = .ok (.iadd, 1) := by decide +kernel
theorem dL_law__2072 : decode cL_law_ 2072 = .ok (.iaload, 1) := by decide +kernel
theorem dL_law__2073 : decode cL_law_ 2073 = .ok (.aload_n 0, 1) := by decide +kernel
theorem dL_law__2074 : decode cL_law_ 2074 = .ok (.iload 4, 2) := by decide +kernel
theorem dL_law__2076 : decode cL_law_ 2076 = .ok (.iconst 2, 1) := by decide +kernel
theorem dL_law__2077 : decode cL_law_ 2077 = .ok (.iadd, 1) := by decide +kernel
theorem dL_law__2078 : decode cL_law_ 2078 = .ok (.iaload, 1) := by decide +kernel
theorem dL_law__2079 : decode cL_law_ 2079 = .ok (.invokevirtual 216, 3) := by decide +kernel
theorem dL_law__2082 : decode cL_law_ 2082 = .ok (.istore 6, 2) := by decide +kernel
theorem dL_law__2084 : decode cL_law_ 2084 = .ok (.aload_n 2, 1) := by decide +kernel
theorem dL_law__2085 : decode cL_law_ 2085 = .ok (.invokevirtual 131, 3) := by decide +kernel
theorem dL_law__2088 : decode cL_law_ 2088 = .ok (.iload 5, 2) := by decide +kernel
theorem dL_law__2090 : decode cL_law_ 2090 = .ok (.if_icmp .eq 5, 3) := by decide +kernel
theorem dL_law__2095 : decode cL_law_ 2095 = .ok (.iload 5, 2) := by decide +kernel
theorem dL_law__2097 : decode cL_law_ 2097 = .ok (.ifCond .ne 15, 3) := by decide +kernel
theorem dL_law__2112 : decode cL_law_ 2112 = .ok (.goto 643, 3) := by decide +kernel
set_option maxHeartbeats 4000000 in
set_option maxRecDepth 100000 in
theorem law_when {p : Program} {e : Env} {s : State} {m : MethodId} {below : List Frame} {meth : Method} {c : Code} (l : Launch) (hl : l.stackTraces = false) {b : Nat} {xs : Nat → Int32} {D : va_G} {cy : Nat → ClassId} {sa : Nat → Nat} {A : Nat → Prop} (hAe : A = fun q => s.heap.size ≤ q) (C0 : lw_At p s m meth c b 10 xs) (hG : GC D cy sa s) (hT : TH A s s.heap) (h63 : xs 0 &&& 63 = 21) : W p l e room_1 s m #[Value.ref b] below meth c s.heap [] 0 0 (lw_Z below #[Value.ref b] s) (entryFrame m ([Value.ref b] : List Value).toArray 7) := by
  obtain ⟨hx, hb, hr, hml, hown0, hts0, hX, hbl, hlocks, hgv⟩ := id C0
  have hown : s.vm.findClass RL = some m.cls := hown0
  have hts := hts0
  have hA : ∀ q : Nat, s.heap.size ≤ q → A q := fun q h => by rw [hAe]; exact h
  have hbA : ¬ A b := by rw [hAe]; exact Nat.not_le.mpr hbl
  have hS : va_S A s.heap s.heap [] := va_S.rf
  have hP : va_P D vwCl [] s.heap := fun k q h => by simp at h
  have hD : va_D A [] := ⟨fun i j p q h => by simp at h, fun k q h => by simp at h⟩
  have hl0 := lv_entry ([.ref b]) (n := 7) (Nat.le_of_ble_eq_true rfl)
  rw [lg_entry_eq]
  generalize (lg_sl ([.ref b]) ++ List.replicate (7 - (lg_sl ([.ref b])).length) Slot.unset).toArray = ls at hl0 ⊢
  have hlv : lv_has ls 7 [(0, .ref b)] := hl0
  have cl8 := hts (.classLink RL 8 RX11) lwd_0
  have in11 := hts (.instantiable RX11 14) lwd_1
  have ini11 := hts (.initialized RX11) lwd_2
  have ini_RX11 := hts (.initialized RX11) lwd_2
  have ml117 := hts (.methodLink RL 117 yX11_init) lwd_3
  have im_X11_init := hts (.instanceMethod yX11_init) lwd_4
  have cl118 := hts (.classLink RL 118 RX12) lwd_5
  have in12 := hts (.instantiable RX12 38) lwd_6
  have ini12 := hts (.initialized RX12) lwd_7
  have ini_RX12 := hts (.initialized RX12) lwd_7
  have ml120 := hts (.methodLink RL 120 yX12_init) lwd_8
  have im_X12_init := hts (.instanceMethod yX12_init) lwd_9
  have ac2 := hts (.arrayClass .long) lwd_10
  refine va_new (ci := 11) (fs := [.null, .null, .null, .int 0, .int 0, .null, .null, .null, .null, .null, .int 0, .null, .null, .null]) (C := RX11) (T := TX11) (N := 14) hx hb hts inX11 tyX11 tyX11_ok hown cl8 in11 ini11 hG.1 hP hD hS hA rfl (by decide) (Nat.le_of_ble_eq_true rfl) (Nat.le_of_ble_eq_true rfl) dL_law__0 (fun q_1 H hP hD hS => ?_)
  have hP : va_P D vwCl [(q_1, .inr (11, [.null, .null, .null, .int 0, .int 0, .null, .null, .null, .null, .null, .int 0, .null, .null, .null]))] H := hP
  have hD : va_D A [(q_1, .inr (11, [.null, .null, .null, .int 0, .int 0, .null, .null, .null, .null, .null, .int 0, .null, .null, .null]))] := hD
  refine lv_dup hx hb dL_law__3 rfl ?_
  refine cj_v (wr := []) (va_runI (As := []) (rest := [.ref q_1]) ⟨hx, hb, hml, hown, hts⟩ (c_K_when l hl D cy sa q_1 H.size) (cwI 0 hts gl_X11_init rfl rfl rfl ini_RX11 ml117 im_X11_init rfl (by decide +kernel) ⟨Nat.le_of_ble_eq_true rfl, Nat.le_of_ble_eq_true rfl⟩) ⟨pcW.blind, (pcW.mk hP hD hS hA hG hT [0] rfl (by decide))⟩ rfl rfl hlv.1 rfl (lv_room (Nat.le_of_ble_eq_true rfl)) dL_law__4 ⟨Nat.le_of_ble_eq_true rfl, Nat.le_of_ble_eq_true rfl⟩) hP hD hS hA [0] [] rfl rfl (by decide) (by decide) (fun u1 H locs hw1 hP hD hS => ?_)
  have hP : va_P D vwCl [(q_1, .inr (11, [.ref (u1.1 0), .ref (u1.1 1), .ref (u1.1 2), .int 0, .int 0, .ref (u1.1 5), .ref (u1.1 6), .ref (u1.1 7), .ref (u1.1 8), .ref (u1.1 9), .int 0, .ref (u1.1 11), .ref (u1.1 12), .ref (u1.1 13)])), ((u1.1 5), .inr (6, [.int 0, .int 0, .ref (u1.1 21), .ref (u1.1 22), .int 0, .int 0, .ref (u1.1 23), .int 0, .ref (u1.1 24), .int 0, .int 0, .ref (u1.1 25), .int 0, .ref (u1.1 26), .int 0, .int 0, .int 0, .int 0, .int 0])), ((u1.1 13), .inl (cy 0, 4, .inl (fun _ => 0)))] H := hP
  have hD : va_D A [(q_1, .inr (11, [.ref (u1.1 0), .ref (u1.1 1), .ref (u1.1 2), .int 0, .int 0, .ref (u1.1 5), .ref (u1.1 6), .ref (u1.1 7), .ref (u1.1 8), .ref (u1.1 9), .int 0, .ref (u1.1 11), .ref (u1.1 12), .ref (u1.1 13)])), ((u1.1 5), .inr (6, [.int 0, .int 0, .ref (u1.1 21), .ref (u1.1 22), .int 0, .int 0, .ref (u1.1 23), .int 0, .ref (u1.1 24), .int 0, .int 0, .ref (u1.1 25), .int 0, .ref (u1.1 26), .int 0, .int 0, .int 0, .int 0, .int 0])), ((u1.1 13), .inl (cy 0, 4, .inl (fun _ => 0)))] := hD
  refine lv_astore_n (lv' := [(1, .ref q_1), (0, .ref b)]) hx hb dL_law__7 rfl hlv (by decide) rfl (fun ls hlv => ?_)
  refine va_new (ci := 12) (fs := [.int 0, .null, .int 0, .int 0, .int 0, .int 0, .int 0, .int 0, .int 0, .null, .null, .null, .null, .null, .null, .null, .int 0, .int 0, .int 0, .null, .null, .null, .int 0, .null, .null, .null, .null, .null, .null, .int 0, .int 0, .int 0, .int 0, .null, .int 0, .null, .int 0, .int 0]) (C := RX12) (T := TX12) (N := 38) hx hb hts inX12 tyX12 tyX12_ok hown cl118 in12 ini12 hG.1 hP hD hS hA rfl (by decide) (Nat.le_of_ble_eq_true rfl) (Nat.le_of_ble_eq_true rfl) dL_law__8 (fun q_2 H hP hD hS => ?_)
  have hP : va_P D vwCl [(q_1, .inr (11, [.ref (u1.1 0), .ref (u1.1 1), .ref (u1.1 2), .int 0, .int 0, .ref (u1.1 5), .ref (u1.1 6), .ref (u1.1 7), .ref (u1.1 8), .ref (u1.1 9), .int 0, .ref (u1.1 11), .ref (u1.1 12), .ref (u1.1 13)])), ((u1.1 5), .inr (6, [.int 0, .int 0, .ref (u1.1 21), .ref (u1.1 22), .int 0, .int 0, .ref (u1.1 23), .int 0, .ref (u1.1 24), .int 0, .int 0, .ref (u1.1 25), .int 0, .ref (u1.1 26), .int 0, .int 0, .int 0, .int 0, .int 0])), ((u1.1 13), .inl (cy 0, 4, .inl (fun _ => 0))), (q_2, .inr (12, [.int 0, .null, .int 0, .int 0, .int 0, .int 0, .int 0, .int 0, .int 0, .null, .null, .null, .null, .null, .null, .null, .int 0, .int 0, .int 0, .null, .null, .null, .int 0, .null, .null, .null, .null, .null, .null, .int 0, .int 0, .int 0, .int 0, .null, .int 0, .null, .int 0, .int 0]))] H := hP
  have hD : va_D A [(q_1, .inr (11, [.ref (u1.1 0), .ref (u1.1 1), .ref (u1.1 2), .int 0, .int 0, .ref (u1.1 5), .ref (u1.1 6), .ref (u1.1 7), .ref (u1.1 8), .ref (u1.1 9), .int 0, .ref (u1.1 11), .ref (u1.1 12), .ref (u1.1 13)])), ((u1.1 5), .inr (6, [.int 0, .int 0, .ref (u1.1 21), .ref (u1.1 22), .int 0, .int 0, .ref (u1.1 23), .int 0, .ref (u1.1 24), .int 0, .int 0, .ref (u1.1 25), .int 0, .ref (u1.1 26), .int 0, .int 0, .int 0, .int 0, .int 0])), ((u1.1 13), .inl (cy 0, 4, .inl (fun _ => 0))), (q_2, .inr (12, [.int 0, .null, .int 0, .int 0, .int 0, .int 0, .int 0, .int 0, .int 0, .null, .null, .null, .null, .null, .null, .null, .int 0, .int 0, .int 0, .null, .null, .null, .int 0, .null, .null, .null, .null, .null, .null, .int 0, .int 0, .int 0, .int 0, .null, .int 0, .null, .int 0, .int 0]))] := hD
  refine lv_dup hx hb dL_law__11 rfl ?_
  refine cj_v (wr := [(q_1, .inr (11, [.ref (u1.1 0), .ref (u1.1 1), .ref (u1.1 2), .int 0, .int 0, .ref (u1.1 5), .ref (u1.1 6), .ref (u1.1 7), .ref (u1.1 8), .ref (u1.1 9), .int 0, .ref (u1.1 11), .ref (u1.1 12), .ref (u1.1 13)])), ((u1.1 5), .inr (6, [.int 0, .int 0, .ref (u1.1 21), .ref (u1.1 22), .int 0, .int 0, .ref (u1.1 23), .int 0, .ref (u1.1 24), .int 0, .int 0, .ref (u1.1 25), .int 0, .ref (u1.1 26), .int 0, .int 0, .int 0, .int 0, .int 0])), ((u1.1 13), .inl (cy 0, 4, .inl (fun _ => 0)))]) (va_runI (As := []) (rest := [.ref q_2]) ⟨hx, hb, hml, hown, hts⟩ (c_M_when l hl D cy sa q_2 H.size) (cwI 0 hts gl_X12_init rfl rfl rfl ini_RX12 ml120 im_X12_init rfl (by decide +kernel) ⟨Nat.le_of_ble_eq_true rfl, Nat.le_of_ble_eq_true rfl⟩) ⟨pcW.blind, (pcW.mk hP hD hS hA hG hT [3] rfl (by decide))⟩ rfl rfl hlv.1 rfl (lv_room (Nat.le_of_ble_eq_true rfl)) dL_law__12 ⟨Nat.le_of_ble_eq_true rfl, Nat.le_of_ble_eq_true rfl⟩) hP hD hS hA [3] [0, 1, 2] rfl rfl (by decide) (by decide) (fun u2 H locs hw2 hP hD hS => ?_)
  have hP : va_P D vwCl [(q_1, .inr (11, [.ref (u1.1 0), .ref (u1.1 1), .ref (u1.1 2), .int 0, .int 0, .ref (u1.1 5), .ref (u1.1 6), .ref (u1.1 7), .ref (u1.1 8), .ref (u1.1 9), .int 0, .ref (u1.1 11), .ref (u1.1 12), .ref (u1.1 13)])), ((u1.1 5), .inr (6, [.int 0, .int 0, .ref (u1.1 21), .ref (u1.1 22), .int 0, .int 0, .ref (u1.1 23), .int 0, .ref (u1.1 24), .int 0, .int 0, .ref (u1.1 25), .int 0, .ref (u1.1 26), .int 0, .int 0, .int 0, .int 0, .int 0])), ((u1.1 13), .inl (cy 0, 4, .inl (fun _ => 0))), (q_2, .inr (12, [.int 0, .ref (u2.1 1), .int 0, .int 0, .int 0, .int 0, .int 0, .int 0, .int (-1), .ref (u2.1 9), .ref (u2.1 10), .ref (u2.1 11), .ref (u2.1 12), .ref (u2.1 13), .ref (u2.1 14), .ref (u2.1 15), .int 0, .int 0, .int 0, .ref (u2.1 19), .ref (u2.1 20), .ref (u2.1 21), .int 0, .ref (u2.1 23), .ref (u2.1 24), .ref (u2.1 25), .ref (u2.1 26), .ref (u2.1 27), .ref (u2.1 28), .int 0, .int 0, .int 0, .int 0, .ref (u2.1 33), .int (-1), .ref (u2.1 35), .int 0, .int 0])), ((u2.1 1), .inl (cy 0, 4, .inl (fun _ => 0))), ((u2.1 10), .inl (cy 0, 68, .inl (fun _ => 0)))] H := hP
  have hD : va_D A [(q_1, .inr (11, [.ref (u1.1 0), .ref (u1.1 1), .ref (u1.1 2), .int 0, .int 0, .ref (u1.1 5), .ref (u1.1 6), .ref (u1.1 7), .ref (u1.1 8), .ref (u1.1 9), .int 0, .ref (u1.1 11), .ref (u1.1 12), .ref (u1.1 13)])), ((u1.1 5), .inr (6, [.int 0, .int 0, .ref (u1.1 21), .ref (u1.1 22), .int 0, .int 0, .ref (u1.1 23), .int 0, .ref (u1.1 24), .int 0, .int 0, .ref (u1.1 25), .int 0, .ref (u1.1 26), .int 0, .int 0, .int 0, .int 0, .int 0])), ((u1.1 13), .inl (cy 0, 4, .inl (fun _ => 0))), (q_2, .inr (12, [.int 0, .ref (u2.1 1), .int 0, .int 0, .int 0, .int 0, .int 0, .int 0, .int (-1), .ref (u2.1 9), .ref (u2.1 10), .ref (u2.1 11), .ref (u2.1 12), .ref (u2.1 13), .ref (u2.1 14), .ref (u2.1 15), .int 0, .int 0, .int 0, .ref (u2.1 19), .ref (u2.1 20), .ref (u2.1 21), .int 0, .ref (u2.1 23), .ref (u2.1 24), .ref (u2.1 25), .ref (u2.1 26), .ref (u2.1 27), .ref (u2.1 28), .int 0, .int 0, .int 0, .int 0, .ref (u2.1 33), .int (-1), .ref (u2.1 35), .int 0, .int 0])), ((u2.1 1), .inl (cy 0, 4, .inl (fun _ => 0))), ((u2.1 10), .inl (cy 0, 68, .inl (fun _ => 0)))] := hD
  refine lv_astore_n (lv' := [(2, .ref q_2), (1, .ref q_1), (0, .ref b)]) hx hb dL_law__15 rfl hlv (by decide) rfl (fun ls hlv => ?_)
  refine lv_iconst (v := 1) hx hb dL_law__16 (by decide) ?_
  refine nw_a (atype := .long) (cy := cy) (a0 := (1, .inr (.inl (fun _ => 0)))) (N' := 1) hx hb ac2 (ty := .long) rfl 2 rfl (fun C h => nomatch h) hG.1 hP hD hS hA (fun cA => rfl) (by decide) (by decide) (Nat.le_of_ble_eq_true rfl) (Nat.le_of_ble_eq_true rfl) (Nat.le_of_ble_eq_true rfl) dL_law__17 (fun q_3 H hP hD hS => ?_)
  have hP : va_P D vwCl [(q_1, .inr (11, [.ref (u1.1 0), .ref (u1.1 1), .ref (u1.1 2), .int 0, .int 0, .ref (u1.1 5), .ref (u1.1 6), .ref (u1.1 7), .ref (u1.1 8), .ref (u1.1 9), .int 0, .ref (u1.1 11), .ref (u1.1 12), .ref (u1.1 13)])), ((u1.1 5), .inr (6, [.int 0, .int 0, .ref (u1.1 21), .ref (u1.1 22), .int 0, .int 0, .ref (u1.1 23), .int 0, .ref (u1.1 24), .int 0, .int 0, .ref (u1.1 25), .int 0, .ref (u1.1 26), .int 0, .int 0, .int 0, .int 0, .int 0])), ((u1.1 13), .inl (cy 0, 4, .inl (fun _ => 0))), (q_2, .inr (12, [.int 0, .ref (u2.1 1), .int 0, .int 0, .int 0, .int 0, .int 0, .int 0, .int (-1), .ref (u2.1 9), .ref (u2.1 10), .ref (u2.1 11), .ref (u2.1 12), .ref (u2.1 13), .ref (u2.1 14), .ref (u2.1 15), .int 0, .int 0, .int 0, .ref (u2.1 19), .ref (u2.1 20), .ref (u2.1 21), .int 0, .ref (u2.1 23), .ref (u2.1 24), .ref (u2.1 25), .ref (u2.1 26), .ref (u2.1 27), .ref (u2.1 28), .int 0, .int 0, .int 0, .int 0, .ref (u2.1 33), .int (-1), .ref (u2.1 35), .int 0, .int 0])), ((u2.1 1), .inl (cy 0, 4, .inl (fun _ => 0))), ((u2.1 10), .inl (cy 0, 68, .inl (fun _ => 0))), (q_3, .inl (cy 2, 1, .inr (.inl (fun _ => 0))))] H := hP
  have hD : va_D A [(q_1, .inr (11, [.ref (u1.1 0), .ref (u1.1 1), .ref (u1.1 2), .int 0, .int 0, .ref (u1.1 5), .ref (u1.1 6), .ref (u1.1 7), .ref (u1.1 8), .ref (u1.1 9), .int 0, .ref (u1.1 11), .ref (u1.1 12), .ref (u1.1 13)])), ((u1.1 5), .inr (6, [.int 0, .int 0, .ref (u1.1 21), .ref (u1.1 22), .int 0, .int 0, .ref (u1.1 23), .int 0, .ref (u1.1 24), .int 0, .int 0, .ref (u1.1 25), .int 0, .ref (u1.1 26), .int 0, .int 0, .int 0, .int 0, .int 0])), ((u1.1 13), .inl (cy 0, 4, .inl (fun _ => 0))), (q_2, .inr (12, [.int 0, .ref (u2.1 1), .int 0, .int 0, .int 0, .int 0, .int 0, .int 0, .int (-1), .ref (u2.1 9), .ref (u2.1 10), .ref (u2.1 11), .ref (u2.1 12), .ref (u2.1 13), .ref (u2.1 14), .ref (u2.1 15), .int 0, .int 0, .int 0, .ref (u2.1 19), .ref (u2.1 20), .ref (u2.1 21), .int 0, .ref (u2.1 23), .ref (u2.1 24), .ref (u2.1 25), .ref (u2.1 26), .ref (u2.1 27), .ref (u2.1 28), .int 0, .int 0, .int 0, .int 0, .ref (u2.1 33), .int (-1), .ref (u2.1 35), .int 0, .int 0])), ((u2.1 1), .inl (cy 0, 4, .inl (fun _ => 0))), ((u2.1 10), .inl (cy 0, 68, .inl (fun _ => 0))), (q_3, .inl (cy 2, 1, .inr (.inl (fun _ => 0))))] := hD
  refine lv_astore_n (lv' := [(3, .ref q_3), (2, .ref q_2), (1, .ref q_1), (0, .ref b)]) hx hb dL_law__19 rfl hlv (by decide) rfl (fun ls hlv => ?_)
  refine lv_iconst (v := 0) hx hb dL_law__20 (by decide) ?_
  refine lv_istore (lv' := [(4, .int 0), (3, .ref q_3), (2, .ref q_2), (1, .ref q_1), (0, .ref b)]) hx hb dL_law__21 hlv (by decide) rfl (fun ls hlv => ?_)
  refine lv_iload hx hb dL_law__23 (lv_at hlv 0 rfl) ?_
  refine lv_aload_n hx hb dL_law__25 rfl (lv_at hlv 4 rfl) ?_
  refine va_slen hx hb hX hbl hbA hS dL_law__26 ?_
  refine lt_i (y := 10) (by decide) ?_
  refine lv_bipush (v := 10) hx hb dL_law__27 (by decide) ?_
  refine lv_isub hx hb dL_law__29 ?_
  refine lt_i (y := 0) (by decide) ?_
  refine lv_icmp_gt (tgt := 2761) hx hb dL_law__30 (by decide) (fun c => absurd c (by decide)) (fun _ => ?_)
  refine lv_aload_n hx hb dL_law__33 rfl (lv_at hlv 4 rfl) ?_
  refine lv_iload hx hb dL_law__34 (lv_at hlv 0 rfl) ?_
  refine va_sld hx hb hX hbl hbA hS (vpd (by decide)) dL_law__36 ?_
  refine lt_i (y := xs 0) rfl ?_
  refine lv_bipush (v := 63) hx hb dL_law__37 (by decide) ?_
  refine lv_iand hx hb dL_law__39 ?_
  refine lt_i (y := 21) h63 ?_
  refine lv_tableIn (tgt := 1623) hx hb dL_law__40 (by decide) (by decide) rfl (by decide) ?_
  refine lv_aload_n hx hb dL_law__1623 rfl (lv_at hlv 3 rfl) ?_
  refine lv_aload_n hx hb dL_law__1624 rfl (lv_at hlv 4 rfl) ?_
  refine lv_iload hx hb dL_law__1625 (lv_at hlv 0 rfl) ?_
  refine lv_iconst (v := 1) hx hb dL_law__1627 (by decide) ?_
  refine lv_iadd hx hb dL_law__1628 ?_
  refine lt_i (y := 1) (by decide) ?_
  refine va_sld hx hb hX hbl hbA hS (vpd (by decide)) dL_law__1629 ?_
  refine lt_i (y := xs 1) rfl ?_
  refine lv_aload_n hx hb dL_law__1630 rfl (lv_at hlv 4 rfl) ?_
  refine lv_iload hx hb dL_law__1631 (lv_at hlv 0 rfl) ?_
  refine lv_iconst (v := 2) hx hb dL_law__1633 (by decide) ?_
  refine lv_iadd hx hb dL_law__1634 ?_
  refine lt_i (y := 2) (by decide) ?_
  refine va_sld hx hb hX hbl hbA hS (vpd (by decide)) dL_law__1635 ?_
  refine lt_i (y := xs 2) rfl ?_
  refine lv_aload_n hx hb dL_law__1636 rfl (lv_at hlv 4 rfl) ?_
  refine lv_iload hx hb dL_law__1637 (lv_at hlv 0 rfl) ?_
  refine lv_iconst (v := 3) hx hb dL_law__1639 (by decide) ?_
  refine lv_iadd hx hb dL_law__1640 ?_
  refine lt_i (y := 3) (by decide) ?_
  refine va_sld hx hb hX hbl hbA hS (vpd (by decide)) dL_law__1641 ?_
  refine lt_i (y := xs 3) rfl ?_
  refine lv_aload_n hx hb dL_law__1642 rfl (lv_at hlv 4 rfl) ?_
  refine lv_iload hx hb dL_law__1643 (lv_at hlv 0 rfl) ?_
  refine lv_iconst (v := 4) hx hb dL_law__1645 (by decide) ?_
  refine lv_iadd hx hb dL_law__1646 ?_
  refine lt_i (y := 4) (by decide) ?_
  refine va_sld hx hb hX hbl hbA hS (vpd (by decide)) dL_law__1647 ?_
  refine lt_i (y := xs 4) rfl ?_
  refine lv_aload_n hx hb dL_law__1648 rfl (lv_at hlv 1 rfl) ?_
  refine cj_i (wr := [(q_2, .inr (12, [.int 0, .ref (u2.1 1), .int 0, .int 0, .int 0, .int 0, .int 0, .int 0, .int (-1), .ref (u2.1 9), .ref (u2.1 10), .ref (u2.1 11), .ref (u2.1 12), .ref (u2.1 13), .ref (u2.1 14), .ref (u2.1 15), .int 0, .int 0, .int 0, .ref (u2.1 19), .ref (u2.1 20), .ref (u2.1 21), .int 0, .ref (u2.1 23), .ref (u2.1 24), .ref (u2.1 25), .ref (u2.1 26), .ref (u2.1 27), .ref (u2.1 28), .int 0, .int 0, .int 0, .int 0, .ref (u2.1 33), .int (-1), .ref (u2.1 35), .int 0, .int 0])), ((u2.1 1), .inl (cy 0, 4, .inl (fun _ => 0))), ((u2.1 10), .inl (cy 0, 68, .inl (fun _ => 0)))]) (vx_runSW (As := [.ref q_1, .int (xs 1), .int (xs 2), .int (xs 3), .int (xs 4), .ref q_3]) (rest := []) ⟨hx, hb, hml, hown, hts⟩ (w_when l hl D cy sa q_1 u1.1 (xs 1) (xs 2) (xs 3) (xs 4) q_3 H.size) (vx_cwSW 6 hts gl_w_when rfl rfl rfl (by decide +kernel) ⟨Nat.le_of_ble_eq_true rfl, Nat.le_of_ble_eq_true rfl⟩) ⟨pcW.blind, (pcW.mk hP hD hS hA hG hT [0, 1, 2, 6] rfl (by decide))⟩ rfl rfl hlv.1 rfl (lv_room (Nat.le_of_ble_eq_true rfl)) dL_law__1649 ⟨Nat.le_of_ble_eq_true rfl, Nat.le_of_ble_eq_true rfl⟩) hP hD hS hA [0, 1, 2, 6] [3, 4, 5] rfl rfl (by decide) (by decide) (fun r3 u3 H locs hw3 hP hD hS => ?_)
  obtain rfl := hw3
  have hP : va_P D vwCl [(q_2, .inr (12, [.int 0, .ref (u2.1 1), .int 0, .int 0, .int 0, .int 0, .int 0, .int 0, .int (-1), .ref (u2.1 9), .ref (u2.1 10), .ref (u2.1 11), .ref (u2.1 12), .ref (u2.1 13), .ref (u2.1 14), .ref (u2.1 15), .int 0, .int 0, .int 0, .ref (u2.1 19), .ref (u2.1 20), .ref (u2.1 21), .int 0, .ref (u2.1 23), .ref (u2.1 24), .ref (u2.1 25), .ref (u2.1 26), .ref (u2.1 27), .ref (u2.1 28), .int 0, .int 0, .int 0, .int 0, .ref (u2.1 33), .int (-1), .ref (u2.1 35), .int 0, .int 0])), ((u2.1 1), .inl (cy 0, 4, .inl (fun _ => 0))), ((u2.1 10), .inl (cy 0, 68, .inl (fun _ => 0))), (q_3, .inl (cy 2, 1, .inr (.inl (fun _ => (u3.2.1 0 : Int32).toInt64))))] H := hP
  have hD : va_D A [(q_2, .inr (12, [.int 0, .ref (u2.1 1), .int 0, .int 0, .int 0, .int 0, .int 0, .int 0, .int (-1), .ref (u2.1 9), .ref (u2.1 10), .ref (u2.1 11), .ref (u2.1 12), .ref (u2.1 13), .ref (u2.1 14), .ref (u2.1 15), .int 0, .int 0, .int 0, .ref (u2.1 19), .ref (u2.1 20), .ref (u2.1 21), .int 0, .ref (u2.1 23), .ref (u2.1 24), .ref (u2.1 25), .ref (u2.1 26), .ref (u2.1 27), .ref (u2.1 28), .int 0, .int 0, .int 0, .int 0, .ref (u2.1 33), .int (-1), .ref (u2.1 35), .int 0, .int 0])), ((u2.1 1), .inl (cy 0, 4, .inl (fun _ => 0))), ((u2.1 10), .inl (cy 0, 68, .inl (fun _ => 0))), (q_3, .inl (cy 2, 1, .inr (.inl (fun _ => (u3.2.1 0 : Int32).toInt64))))] := hD
  refine lv_istore (lv' := [(5, .int 1), (4, .int 0), (3, .ref q_3), (2, .ref q_2), (1, .ref q_1), (0, .ref b)]) hx hb dL_law__1652 hlv (by decide) rfl (fun ls hlv => ?_)
  refine lv_aload_n hx hb dL_law__1654 rfl (lv_at hlv 3 rfl) ?_
  refine lv_aload_n hx hb dL_law__1655 rfl (lv_at hlv 5 rfl) ?_
  refine lv_iload hx hb dL_law__1656 (lv_at hlv 1 rfl) ?_
  refine lv_iconst (v := 1) hx hb dL_law__1658 (by decide) ?_
  refine lv_iadd hx hb dL_law__1659 ?_
  refine lt_i (y := 1) (by decide) ?_
  refine va_sld hx hb hX hbl hbA hS (vpd (by decide)) dL_law__1660 ?_
  refine lt_i (y := xs 1) rfl ?_
  refine lv_aload_n hx hb dL_law__1661 rfl (lv_at hlv 5 rfl) ?_
  refine lv_iload hx hb dL_law__1662 (lv_at hlv 1 rfl) ?_
  refine lv_iconst (v := 2) hx hb dL_law__1664 (by decide) ?_
  refine lv_iadd hx hb dL_law__1665 ?_
  refine lt_i (y := 2) (by decide) ?_
  refine va_sld hx hb hX hbl hbA hS (vpd (by decide)) dL_law__1666 ?_
  refine lt_i (y := xs 2) rfl ?_
  refine lv_aload_n hx hb dL_law__1667 rfl (lv_at hlv 5 rfl) ?_
  refine lv_iload hx hb dL_law__1668 (lv_at hlv 1 rfl) ?_
  refine lv_iconst (v := 3) hx hb dL_law__1670 (by decide) ?_
  refine lv_iadd hx hb dL_law__1671 ?_
  refine lt_i (y := 3) (by decide) ?_
  refine va_sld hx hb hX hbl hbA hS (vpd (by decide)) dL_law__1672 ?_
  refine lt_i (y := xs 3) rfl ?_
  refine lv_aload_n hx hb dL_law__1673 rfl (lv_at hlv 5 rfl) ?_
  refine lv_iload hx hb dL_law__1674 (lv_at hlv 1 rfl) ?_
  refine lv_iconst (v := 4) hx hb dL_law__1676 (by decide) ?_
  refine lv_iadd hx hb dL_law__1677 ?_
  refine lt_i (y := 4) (by decide) ?_
  refine va_sld hx hb hX hbl hbA hS (vpd (by decide)) dL_law__1678 ?_
  refine lt_i (y := xs 4) rfl ?_
  refine cj_i (wr := [(q_3, .inl (cy 2, 1, .inr (.inl (fun _ => (u3.2.1 0 : Int32).toInt64))))]) (va_runV (As := [.int (xs 1), .int (xs 2), .int (xs 3), .int (xs 4)]) (rest := []) ⟨hx, hb, hml, hown, hts⟩ (m_when l hl D cy sa q_2 u2.1 (xs 1) (xs 2) (xs 3) (xs 4) H.size) (cwV 4 hts gl_m_when rfl rfl rfl (by decide +kernel) ⟨Nat.le_of_ble_eq_true rfl, Nat.le_of_ble_eq_true rfl⟩) ⟨pcW.blind, (va_recv hG.1 hP (ci := 12) (q0 := 0) rfl rfl), (pcW.mk hP hD hS hA hG hT [0, 1, 2] rfl (by decide))⟩ rfl rfl hlv.1 rfl (lv_room (Nat.le_of_ble_eq_true rfl)) dL_law__1679 ⟨Nat.le_of_ble_eq_true rfl, Nat.le_of_ble_eq_true rfl⟩) hP hD hS hA [0, 1, 2] [3] rfl rfl (by decide) (by decide) (fun r4 u4 H locs hw4 hP hD hS => ?_)
  obtain rfl := hw4
  have hP : va_P D vwCl [(q_3, .inl (cy 2, 1, .inr (.inl (fun _ => (u3.2.1 0 : Int32).toInt64)))), (q_2, .inr (12, [.int 1, .ref (u2.1 1), .int 0, .int 0, .int 0, .int 0, .int 0, .int 0, .int (-1), .ref (u2.1 9), .ref (u2.1 10), .ref (u2.1 11), .ref (u2.1 12), .ref (u2.1 13), .ref (u2.1 14), .ref (u2.1 15), .int 0, .int 0, .int 0, .ref (u2.1 19), .ref (u2.1 20), .ref (u2.1 21), .int 0, .ref (u2.1 23), .ref (u2.1 24), .ref (u2.1 25), .ref (u2.1 26), .ref (u2.1 27), .ref (u2.1 28), .int 0, .int 0, .int 0, .int 0, .ref (u2.1 33), .int (-1), .ref (u2.1 35), .int 0, .int 0]))] H := hP
  have hD : va_D A [(q_3, .inl (cy 2, 1, .inr (.inl (fun _ => (u3.2.1 0 : Int32).toInt64)))), (q_2, .inr (12, [.int 1, .ref (u2.1 1), .int 0, .int 0, .int 0, .int 0, .int 0, .int 0, .int (-1), .ref (u2.1 9), .ref (u2.1 10), .ref (u2.1 11), .ref (u2.1 12), .ref (u2.1 13), .ref (u2.1 14), .ref (u2.1 15), .int 0, .int 0, .int 0, .ref (u2.1 19), .ref (u2.1 20), .ref (u2.1 21), .int 0, .ref (u2.1 23), .ref (u2.1 24), .ref (u2.1 25), .ref (u2.1 26), .ref (u2.1 27), .ref (u2.1 28), .int 0, .int 0, .int 0, .int 0, .ref (u2.1 33), .int (-1), .ref (u2.1 35), .int 0, .int 0]))] := hD
  refine lv_istore (lv' := [(6, .int 0), (5, .int 1), (4, .int 0), (3, .ref q_3), (2, .ref q_2), (1, .ref q_1), (0, .ref b)]) hx hb dL_law__1682 hlv (by decide) rfl (fun ls hlv => ?_)
  refine lv_aload_n hx hb dL_law__1684 rfl (lv_at hlv 4 rfl) ?_
  refine cj_i (wr := [(q_3, .inl (cy 2, 1, .inr (.inl (fun _ => (u3.2.1 0 : Int32).toInt64))))]) (va_runV (As := []) (rest := []) ⟨hx, hb, hml, hown, hts⟩ (c_thrown l hl D cy sa q_2 u2.1 1 0 0 0 0 0 0 (-1) 0 0 0 0 0 0 0 0 (-1) 0 0 H.size) (cwV 0 hts gl_c_thrown rfl rfl rfl (by decide +kernel) ⟨Nat.le_of_ble_eq_true rfl, Nat.le_of_ble_eq_true rfl⟩) ⟨pcW.blind, (va_recv hG.1 hP (ci := 12) (q0 := 1) rfl rfl), (pcW.mk hP hD hS hA hG hT [1] rfl (by decide))⟩ rfl rfl hlv.1 rfl (lv_room (Nat.le_of_ble_eq_true rfl)) dL_law__1685 ⟨Nat.le_of_ble_eq_true rfl, Nat.le_of_ble_eq_true rfl⟩) hP hD hS hA [1] [0] rfl rfl (by decide) (by decide) (fun r5 u5 H locs hw5 hP hD hS => ?_)
  obtain rfl := hw5
  have hP : va_P D vwCl [(q_3, .inl (cy 2, 1, .inr (.inl (fun _ => (u3.2.1 0 : Int32).toInt64))))] H := hP
  have hD : va_D A [(q_3, .inl (cy 2, 1, .inr (.inl (fun _ => (u3.2.1 0 : Int32).toInt64))))] := hD
  refine lv_iload hx hb dL_law__1688 (lv_at hlv 1 rfl) ?_
  refine lv_icmp_eq (tgt := 1695) hx hb dL_law__1690 (by decide) (fun _ => ?_) (fun c => absurd (by decide) c)
  refine lv_iload hx hb dL_law__1695 (lv_at hlv 1 rfl) ?_
  refine lv_if_ne (tgt := 1712) hx hb dL_law__1697 (by decide) (fun _ => ?_) (fun c => absurd c (by decide))
  refine lv_goto (tgt := 2755) hx hb dL_law__1712 (by decide) ?_
  refine lv_iinc (v := 10) (lv' := [(4, .int 10), (6, .int 0), (5, .int 1), (3, .ref q_3), (2, .ref q_2), (1, .ref q_1), (0, .ref b)]) hx hb dL_law__2755 hlv (k := 2) rfl (by decide) (by decide) rfl (fun ls hlv => ?_)
  refine lv_goto (tgt := 23) hx hb dL_law__2758 (by decide) ?_
  refine lv_iload hx hb dL_law__23 (lv_at hlv 0 rfl) ?_
  refine lv_aload_n hx hb dL_law__25 rfl (lv_at hlv 6 rfl) ?_
  refine va_slen hx hb hX hbl hbA hS dL_law__26 ?_
  refine lt_i (y := 10) (by decide) ?_
  refine lv_bipush (v := 10) hx hb dL_law__27 (by decide) ?_
  refine lv_isub hx hb dL_law__29 ?_
  refine lt_i (y := 0) (by decide) ?_
  refine lv_icmp_gt (tgt := 2761) hx hb dL_law__30 (by decide) (fun _ => ?_) (fun c => absurd (by decide) c)
  refine lv_iconst (v := 1) hx hb dL_law__2761 (by decide) ?_
  refine va_forget (fun q hq => by have h9 := hS.2.2 q hq; rw [hAe] at h9; exact h9) ?_
  refine W.widen (k := 600002) (n := 7302232) (Nat.le_of_ble_eq_true rfl) (Nat.le_of_ble_eq_true rfl) ?_
  exact lw_ret hx hb hr hlocks dL_law__2762
set_option maxHeartbeats 4000000 in
set_option maxRecDepth 100000 in
theorem law_blame {p : Program} {e : Env} {s : State} {m : MethodId} {below : List Frame} {meth : Method} {c : Code} (l : Launch) (hl : l.stackTraces = false) {b : Nat} {xs : Nat → Int32} {D : va_G} {cy : Nat → ClassId} {sa : Nat → Nat} {A : Nat → Prop} (hAe : A = fun q => s.heap.size ≤ q) (C0 : lw_At p s m meth c b 10 xs) (hG : GC D cy sa s) (hT : TH A s s.heap) (h63 : xs 0 &&& 63 = 22) : W p l e room_1 s m #[Value.ref b] below meth c s.heap [] 0 0 (lw_Z below #[Value.ref b] s) (entryFrame m ([Value.ref b] : List Value).toArray 7) := by
  obtain ⟨hx, hb, hr, hml, hown0, hts0, hX, hbl, hlocks, hgv⟩ := id C0
  have hown : s.vm.findClass RL = some m.cls := hown0
  have hts := hts0
  have hA : ∀ q : Nat, s.heap.size ≤ q → A q := fun q h => by rw [hAe]; exact h
  have hbA : ¬ A b := by rw [hAe]; exact Nat.not_le.mpr hbl
  have hS : va_S A s.heap s.heap [] := va_S.rf
  have hP : va_P D vwCl [] s.heap := fun k q h => by simp at h
  have hD : va_D A [] := ⟨fun i j p q h => by simp at h, fun k q h => by simp at h⟩
  have hl0 := lv_entry ([.ref b]) (n := 7) (Nat.le_of_ble_eq_true rfl)
  rw [lg_entry_eq]
  generalize (lg_sl ([.ref b]) ++ List.replicate (7 - (lg_sl ([.ref b])).length) Slot.unset).toArray = ls at hl0 ⊢
  have hlv : lv_has ls 7 [(0, .ref b)] := hl0
  have cl8 := hts (.classLink RL 8 RX11) lwd_0
  have in11 := hts (.instantiable RX11 14) lwd_1
  have ini11 := hts (.initialized RX11) lwd_2
  have ini_RX11 := hts (.initialized RX11) lwd_2
  have ml117 := hts (.methodLink RL 117 yX11_init) lwd_3
  have im_X11_init := hts (.instanceMethod yX11_init) lwd_4
  have cl118 := hts (.classLink RL 118 RX12) lwd_5
  have in12 := hts (.instantiable RX12 38) lwd_6
  have ini12 := hts (.initialized RX12) lwd_7
  have ini_RX12 := hts (.initialized RX12) lwd_7
  have ml120 := hts (.methodLink RL 120 yX12_init) lwd_8
  have im_X12_init := hts (.instanceMethod yX12_init) lwd_9
  have ac2 := hts (.arrayClass .long) lwd_10
  refine va_new (ci := 11) (fs := [.null, .null, .null, .int 0, .int 0, .null, .null, .null, .null, .null, .int 0, .null, .null, .null]) (C := RX11) (T := TX11) (N := 14) hx hb hts inX11 tyX11 tyX11_ok hown cl8 in11 ini11 hG.1 hP hD hS hA rfl (by decide) (Nat.le_of_ble_eq_true rfl) (Nat.le_of_ble_eq_true rfl) dL_law__0 (fun q_1 H hP hD hS => ?_)
  have hP : va_P D vwCl [(q_1, .inr (11, [.null, .null, .null, .int 0, .int 0, .null, .null, .null, .null, .null, .int 0, .null, .null, .null]))] H := hP
  have hD : va_D A [(q_1, .inr (11, [.null, .null, .null, .int 0, .int 0, .null, .null, .null, .null, .null, .int 0, .null, .null, .null]))] := hD
  refine lv_dup hx hb dL_law__3 rfl ?_
  refine cj_v (wr := []) (va_runI (As := []) (rest := [.ref q_1]) ⟨hx, hb, hml, hown, hts⟩ (c_K_blame l hl D cy sa q_1 H.size) (cwI 0 hts gl_X11_init rfl rfl rfl ini_RX11 ml117 im_X11_init rfl (by decide +kernel) ⟨Nat.le_of_ble_eq_true rfl, Nat.le_of_ble_eq_true rfl⟩) ⟨pcW.blind, (pcW.mk hP hD hS hA hG hT [0] rfl (by decide))⟩ rfl rfl hlv.1 rfl (lv_room (Nat.le_of_ble_eq_true rfl)) dL_law__4 ⟨Nat.le_of_ble_eq_true rfl, Nat.le_of_ble_eq_true rfl⟩) hP hD hS hA [0] [] rfl rfl (by decide) (by decide) (fun u1 H locs hw1 hP hD hS => ?_)
  have hP : va_P D vwCl [(q_1, .inr (11, [.ref (u1.1 0), .ref (u1.1 1), .ref (u1.1 2), .int 0, .int 0, .ref (u1.1 5), .ref (u1.1 6), .ref (u1.1 7), .ref (u1.1 8), .ref (u1.1 9), .int 0, .ref (u1.1 11), .ref (u1.1 12), .ref (u1.1 13)])), ((u1.1 5), .inr (6, [.int 0, .int 0, .ref (u1.1 21), .ref (u1.1 22), .int 0, .int 0, .ref (u1.1 23), .int 0, .ref (u1.1 24), .int 0, .int 0, .ref (u1.1 25), .int 0, .ref (u1.1 26), .int 0, .int 0, .int 0, .int 0, .int 0])), ((u1.1 13), .inl (cy 0, 4, .inl (fun _ => 0)))] H := hP
  have hD : va_D A [(q_1, .inr (11, [.ref (u1.1 0), .ref (u1.1 1), .ref (u1.1 2), .int 0, .int 0, .ref (u1.1 5), .ref (u1.1 6), .ref (u1.1 7), .ref (u1.1 8), .ref (u1.1 9), .int 0, .ref (u1.1 11), .ref (u1.1 12), .ref (u1.1 13)])), ((u1.1 5), .inr (6, [.int 0, .int 0, .ref (u1.1 21), .ref (u1.1 22), .int 0, .int 0, .ref (u1.1 23), .int 0, .ref (u1.1 24), .int 0, .int 0, .ref (u1.1 25), .int 0, .ref (u1.1 26), .int 0, .int 0, .int 0, .int 0, .int 0])), ((u1.1 13), .inl (cy 0, 4, .inl (fun _ => 0)))] := hD
  refine lv_astore_n (lv' := [(1, .ref q_1), (0, .ref b)]) hx hb dL_law__7 rfl hlv (by decide) rfl (fun ls hlv => ?_)
  refine va_new (ci := 12) (fs := [.int 0, .null, .int 0, .int 0, .int 0, .int 0, .int 0, .int 0, .int 0, .null, .null, .null, .null, .null, .null, .null, .int 0, .int 0, .int 0, .null, .null, .null, .int 0, .null, .null, .null, .null, .null, .null, .int 0, .int 0, .int 0, .int 0, .null, .int 0, .null, .int 0, .int 0]) (C := RX12) (T := TX12) (N := 38) hx hb hts inX12 tyX12 tyX12_ok hown cl118 in12 ini12 hG.1 hP hD hS hA rfl (by decide) (Nat.le_of_ble_eq_true rfl) (Nat.le_of_ble_eq_true rfl) dL_law__8 (fun q_2 H hP hD hS => ?_)
  have hP : va_P D vwCl [(q_1, .inr (11, [.ref (u1.1 0), .ref (u1.1 1), .ref (u1.1 2), .int 0, .int 0, .ref (u1.1 5), .ref (u1.1 6), .ref (u1.1 7), .ref (u1.1 8), .ref (u1.1 9), .int 0, .ref (u1.1 11), .ref (u1.1 12), .ref (u1.1 13)])), ((u1.1 5), .inr (6, [.int 0, .int 0, .ref (u1.1 21), .ref (u1.1 22), .int 0, .int 0, .ref (u1.1 23), .int 0, .ref (u1.1 24), .int 0, .int 0, .ref (u1.1 25), .int 0, .ref (u1.1 26), .int 0, .int 0, .int 0, .int 0, .int 0])), ((u1.1 13), .inl (cy 0, 4, .inl (fun _ => 0))), (q_2, .inr (12, [.int 0, .null, .int 0, .int 0, .int 0, .int 0, .int 0, .int 0, .int 0, .null, .null, .null, .null, .null, .null, .null, .int 0, .int 0, .int 0, .null, .null, .null, .int 0, .null, .null, .null, .null, .null, .null, .int 0, .int 0, .int 0, .int 0, .null, .int 0, .null, .int 0, .int 0]))] H := hP
  have hD : va_D A [(q_1, .inr (11, [.ref (u1.1 0), .ref (u1.1 1), .ref (u1.1 2), .int 0, .int 0, .ref (u1.1 5), .ref (u1.1 6), .ref (u1.1 7), .ref (u1.1 8), .ref (u1.1 9), .int 0, .ref (u1.1 11), .ref (u1.1 12), .ref (u1.1 13)])), ((u1.1 5), .inr (6, [.int 0, .int 0, .ref (u1.1 21), .ref (u1.1 22), .int 0, .int 0, .ref (u1.1 23), .int 0, .ref (u1.1 24), .int 0, .int 0, .ref (u1.1 25), .int 0, .ref (u1.1 26), .int 0, .int 0, .int 0, .int 0, .int 0])), ((u1.1 13), .inl (cy 0, 4, .inl (fun _ => 0))), (q_2, .inr (12, [.int 0, .null, .int 0, .int 0, .int 0, .int 0, .int 0, .int 0, .int 0, .null, .null, .null, .null, .null, .null, .null, .int 0, .int 0, .int 0, .null, .null, .null, .int 0, .null, .null, .null, .null, .null, .null, .int 0, .int 0, .int 0, .int 0, .null, .int 0, .null, .int 0, .int 0]))] := hD
  refine lv_dup hx hb dL_law__11 rfl ?_
  refine cj_v (wr := [(q_1, .inr (11, [.ref (u1.1 0), .ref (u1.1 1), .ref (u1.1 2), .int 0, .int 0, .ref (u1.1 5), .ref (u1.1 6), .ref (u1.1 7), .ref (u1.1 8), .ref (u1.1 9), .int 0, .ref (u1.1 11), .ref (u1.1 12), .ref (u1.1 13)])), ((u1.1 5), .inr (6, [.int 0, .int 0, .ref (u1.1 21), .ref (u1.1 22), .int 0, .int 0, .ref (u1.1 23), .int 0, .ref (u1.1 24), .int 0, .int 0, .ref (u1.1 25), .int 0, .ref (u1.1 26), .int 0, .int 0, .int 0, .int 0, .int 0])), ((u1.1 13), .inl (cy 0, 4, .inl (fun _ => 0)))]) (va_runI (As := []) (rest := [.ref q_2]) ⟨hx, hb, hml, hown, hts⟩ (c_M_blame l hl D cy sa q_2 H.size) (cwI 0 hts gl_X12_init rfl rfl rfl ini_RX12 ml120 im_X12_init rfl (by decide +kernel) ⟨Nat.le_of_ble_eq_true rfl, Nat.le_of_ble_eq_true rfl⟩) ⟨pcW.blind, (pcW.mk hP hD hS hA hG hT [3] rfl (by decide))⟩ rfl rfl hlv.1 rfl (lv_room (Nat.le_of_ble_eq_true rfl)) dL_law__12 ⟨Nat.le_of_ble_eq_true rfl, Nat.le_of_ble_eq_true rfl⟩) hP hD hS hA [3] [0, 1, 2] rfl rfl (by decide) (by decide) (fun u2 H locs hw2 hP hD hS => ?_)
  have hP : va_P D vwCl [(q_1, .inr (11, [.ref (u1.1 0), .ref (u1.1 1), .ref (u1.1 2), .int 0, .int 0, .ref (u1.1 5), .ref (u1.1 6), .ref (u1.1 7), .ref (u1.1 8), .ref (u1.1 9), .int 0, .ref (u1.1 11), .ref (u1.1 12), .ref (u1.1 13)])), ((u1.1 5), .inr (6, [.int 0, .int 0, .ref (u1.1 21), .ref (u1.1 22), .int 0, .int 0, .ref (u1.1 23), .int 0, .ref (u1.1 24), .int 0, .int 0, .ref (u1.1 25), .int 0, .ref (u1.1 26), .int 0, .int 0, .int 0, .int 0, .int 0])), ((u1.1 13), .inl (cy 0, 4, .inl (fun _ => 0))), (q_2, .inr (12, [.int 0, .ref (u2.1 1), .int 0, .int 0, .int 0, .int 0, .int 0, .int 0, .int (-1), .ref (u2.1 9), .ref (u2.1 10), .ref (u2.1 11), .ref (u2.1 12), .ref (u2.1 13), .ref (u2.1 14), .ref (u2.1 15), .int 0, .int 0, .int 0, .ref (u2.1 19), .ref (u2.1 20), .ref (u2.1 21), .int 0, .ref (u2.1 23), .ref (u2.1 24), .ref (u2.1 25), .ref (u2.1 26), .ref (u2.1 27), .ref (u2.1 28), .int 0, .int 0, .int 0, .int 0, .ref (u2.1 33), .int (-1), .ref (u2.1 35), .int 0, .int 0])), ((u2.1 1), .inl (cy 0, 4, .inl (fun _ => 0))), ((u2.1 10), .inl (cy 0, 68, .inl (fun _ => 0)))] H := hP
  have hD : va_D A [(q_1, .inr (11, [.ref (u1.1 0), .ref (u1.1 1), .ref (u1.1 2), .int 0, .int 0, .ref (u1.1 5), .ref (u1.1 6), .ref (u1.1 7), .ref (u1.1 8), .ref (u1.1 9), .int 0, .ref (u1.1 11), .ref (u1.1 12), .ref (u1.1 13)])), ((u1.1 5), .inr (6, [.int 0, .int 0, .ref (u1.1 21), .ref (u1.1 22), .int 0, .int 0, .ref (u1.1 23), .int 0, .ref (u1.1 24), .int 0, .int 0, .ref (u1.1 25), .int 0, .ref (u1.1 26), .int 0, .int 0, .int 0, .int 0, .int 0])), ((u1.1 13), .inl (cy 0, 4, .inl (fun _ => 0))), (q_2, .inr (12, [.int 0, .ref (u2.1 1), .int 0, .int 0, .int 0, .int 0, .int 0, .int 0, .int (-1), .ref (u2.1 9), .ref (u2.1 10), .ref (u2.1 11), .ref (u2.1 12), .ref (u2.1 13), .ref (u2.1 14), .ref (u2.1 15), .int 0, .int 0, .int 0, .ref (u2.1 19), .ref (u2.1 20), .ref (u2.1 21), .int 0, .ref (u2.1 23), .ref (u2.1 24), .ref (u2.1 25), .ref (u2.1 26), .ref (u2.1 27), .ref (u2.1 28), .int 0, .int 0, .int 0, .int 0, .ref (u2.1 33), .int (-1), .ref (u2.1 35), .int 0, .int 0])), ((u2.1 1), .inl (cy 0, 4, .inl (fun _ => 0))), ((u2.1 10), .inl (cy 0, 68, .inl (fun _ => 0)))] := hD
  refine lv_astore_n (lv' := [(2, .ref q_2), (1, .ref q_1), (0, .ref b)]) hx hb dL_law__15 rfl hlv (by decide) rfl (fun ls hlv => ?_)
  refine lv_iconst (v := 1) hx hb dL_law__16 (by decide) ?_
  refine nw_a (atype := .long) (cy := cy) (a0 := (1, .inr (.inl (fun _ => 0)))) (N' := 1) hx hb ac2 (ty := .long) rfl 2 rfl (fun C h => nomatch h) hG.1 hP hD hS hA (fun cA => rfl) (by decide) (by decide) (Nat.le_of_ble_eq_true rfl) (Nat.le_of_ble_eq_true rfl) (Nat.le_of_ble_eq_true rfl) dL_law__17 (fun q_3 H hP hD hS => ?_)
  have hP : va_P D vwCl [(q_1, .inr (11, [.ref (u1.1 0), .ref (u1.1 1), .ref (u1.1 2), .int 0, .int 0, .ref (u1.1 5), .ref (u1.1 6), .ref (u1.1 7), .ref (u1.1 8), .ref (u1.1 9), .int 0, .ref (u1.1 11), .ref (u1.1 12), .ref (u1.1 13)])), ((u1.1 5), .inr (6, [.int 0, .int 0, .ref (u1.1 21), .ref (u1.1 22), .int 0, .int 0, .ref (u1.1 23), .int 0, .ref (u1.1 24), .int 0, .int 0, .ref (u1.1 25), .int 0, .ref (u1.1 26), .int 0, .int 0, .int 0, .int 0, .int 0])), ((u1.1 13), .inl (cy 0, 4, .inl (fun _ => 0))), (q_2, .inr (12, [.int 0, .ref (u2.1 1), .int 0, .int 0, .int 0, .int 0, .int 0, .int 0, .int (-1), .ref (u2.1 9), .ref (u2.1 10), .ref (u2.1 11), .ref (u2.1 12), .ref (u2.1 13), .ref (u2.1 14), .ref (u2.1 15), .int 0, .int 0, .int 0, .ref (u2.1 19), .ref (u2.1 20), .ref (u2.1 21), .int 0, .ref (u2.1 23), .ref (u2.1 24), .ref (u2.1 25), .ref (u2.1 26), .ref (u2.1 27), .ref (u2.1 28), .int 0, .int 0, .int 0, .int 0, .ref (u2.1 33), .int (-1), .ref (u2.1 35), .int 0, .int 0])), ((u2.1 1), .inl (cy 0, 4, .inl (fun _ => 0))), ((u2.1 10), .inl (cy 0, 68, .inl (fun _ => 0))), (q_3, .inl (cy 2, 1, .inr (.inl (fun _ => 0))))] H := hP
  have hD : va_D A [(q_1, .inr (11, [.ref (u1.1 0), .ref (u1.1 1), .ref (u1.1 2), .int 0, .int 0, .ref (u1.1 5), .ref (u1.1 6), .ref (u1.1 7), .ref (u1.1 8), .ref (u1.1 9), .int 0, .ref (u1.1 11), .ref (u1.1 12), .ref (u1.1 13)])), ((u1.1 5), .inr (6, [.int 0, .int 0, .ref (u1.1 21), .ref (u1.1 22), .int 0, .int 0, .ref (u1.1 23), .int 0, .ref (u1.1 24), .int 0, .int 0, .ref (u1.1 25), .int 0, .ref (u1.1 26), .int 0, .int 0, .int 0, .int 0, .int 0])), ((u1.1 13), .inl (cy 0, 4, .inl (fun _ => 0))), (q_2, .inr (12, [.int 0, .ref (u2.1 1), .int 0, .int 0, .int 0, .int 0, .int 0, .int 0, .int (-1), .ref (u2.1 9), .ref (u2.1 10), .ref (u2.1 11), .ref (u2.1 12), .ref (u2.1 13), .ref (u2.1 14), .ref (u2.1 15), .int 0, .int 0, .int 0, .ref (u2.1 19), .ref (u2.1 20), .ref (u2.1 21), .int 0, .ref (u2.1 23), .ref (u2.1 24), .ref (u2.1 25), .ref (u2.1 26), .ref (u2.1 27), .ref (u2.1 28), .int 0, .int 0, .int 0, .int 0, .ref (u2.1 33), .int (-1), .ref (u2.1 35), .int 0, .int 0])), ((u2.1 1), .inl (cy 0, 4, .inl (fun _ => 0))), ((u2.1 10), .inl (cy 0, 68, .inl (fun _ => 0))), (q_3, .inl (cy 2, 1, .inr (.inl (fun _ => 0))))] := hD
  refine lv_astore_n (lv' := [(3, .ref q_3), (2, .ref q_2), (1, .ref q_1), (0, .ref b)]) hx hb dL_law__19 rfl hlv (by decide) rfl (fun ls hlv => ?_)
  refine lv_iconst (v := 0) hx hb dL_law__20 (by decide) ?_
  refine lv_istore (lv' := [(4, .int 0), (3, .ref q_3), (2, .ref q_2), (1, .ref q_1), (0, .ref b)]) hx hb dL_law__21 hlv (by decide) rfl (fun ls hlv => ?_)
  refine lv_iload hx hb dL_law__23 (lv_at hlv 0 rfl) ?_
  refine lv_aload_n hx hb dL_law__25 rfl (lv_at hlv 4 rfl) ?_
  refine va_slen hx hb hX hbl hbA hS dL_law__26 ?_
  refine lt_i (y := 10) (by decide) ?_
  refine lv_bipush (v := 10) hx hb dL_law__27 (by decide) ?_
  refine lv_isub hx hb dL_law__29 ?_
  refine lt_i (y := 0) (by decide) ?_
  refine lv_icmp_gt (tgt := 2761) hx hb dL_law__30 (by decide) (fun c => absurd c (by decide)) (fun _ => ?_)
  refine lv_aload_n hx hb dL_law__33 rfl (lv_at hlv 4 rfl) ?_
  refine lv_iload hx hb dL_law__34 (lv_at hlv 0 rfl) ?_
  refine va_sld hx hb hX hbl hbA hS (vpd (by decide)) dL_law__36 ?_
  refine lt_i (y := xs 0) rfl ?_
  refine lv_bipush (v := 63) hx hb dL_law__37 (by decide) ?_
  refine lv_iand hx hb dL_law__39 ?_
  refine lt_i (y := 22) h63 ?_
  refine lv_tableIn (tgt := 1715) hx hb dL_law__40 (by decide) (by decide) rfl (by decide) ?_
  refine lv_aload_n hx hb dL_law__1715 rfl (lv_at hlv 3 rfl) ?_
  refine lv_aload_n hx hb dL_law__1716 rfl (lv_at hlv 4 rfl) ?_
  refine lv_iload hx hb dL_law__1717 (lv_at hlv 0 rfl) ?_
  refine lv_iconst (v := 1) hx hb dL_law__1719 (by decide) ?_
  refine lv_iadd hx hb dL_law__1720 ?_
  refine lt_i (y := 1) (by decide) ?_
  refine va_sld hx hb hX hbl hbA hS (vpd (by decide)) dL_law__1721 ?_
  refine lt_i (y := xs 1) rfl ?_
  refine lv_aload_n hx hb dL_law__1722 rfl (lv_at hlv 4 rfl) ?_
  refine lv_iload hx hb dL_law__1723 (lv_at hlv 0 rfl) ?_
  refine lv_iconst (v := 2) hx hb dL_law__1725 (by decide) ?_
  refine lv_iadd hx hb dL_law__1726 ?_
  refine lt_i (y := 2) (by decide) ?_
  refine va_sld hx hb hX hbl hbA hS (vpd (by decide)) dL_law__1727 ?_
  refine lt_i (y := xs 2) rfl ?_
  refine lv_aload_n hx hb dL_law__1728 rfl (lv_at hlv 4 rfl) ?_
  refine lv_iload hx hb dL_law__1729 (lv_at hlv 0 rfl) ?_
  refine lv_iconst (v := 3) hx hb dL_law__1731 (by decide) ?_
  refine lv_iadd hx hb dL_law__1732 ?_
  refine lt_i (y := 3) (by decide) ?_
  refine va_sld hx hb hX hbl hbA hS (vpd (by decide)) dL_law__1733 ?_
  refine lt_i (y := xs 3) rfl ?_
  refine lv_aload_n hx hb dL_law__1734 rfl (lv_at hlv 4 rfl) ?_
  refine lv_iload hx hb dL_law__1735 (lv_at hlv 0 rfl) ?_
  refine lv_iconst (v := 4) hx hb dL_law__1737 (by decide) ?_
  refine lv_iadd hx hb dL_law__1738 ?_
  refine lt_i (y := 4) (by decide) ?_
  refine va_sld hx hb hX hbl hbA hS (vpd (by decide)) dL_law__1739 ?_
  refine lt_i (y := xs 4) rfl ?_
  refine lv_aload_n hx hb dL_law__1740 rfl (lv_at hlv 1 rfl) ?_
  refine cj_i (wr := [(q_2, .inr (12, [.int 0, .ref (u2.1 1), .int 0, .int 0, .int 0, .int 0, .int 0, .int 0, .int (-1), .ref (u2.1 9), .ref (u2.1 10), .ref (u2.1 11), .ref (u2.1 12), .ref (u2.1 13), .ref (u2.1 14), .ref (u2.1 15), .int 0, .int 0, .int 0, .ref (u2.1 19), .ref (u2.1 20), .ref (u2.1 21), .int 0, .ref (u2.1 23), .ref (u2.1 24), .ref (u2.1 25), .ref (u2.1 26), .ref (u2.1 27), .ref (u2.1 28), .int 0, .int 0, .int 0, .int 0, .ref (u2.1 33), .int (-1), .ref (u2.1 35), .int 0, .int 0])), ((u2.1 1), .inl (cy 0, 4, .inl (fun _ => 0))), ((u2.1 10), .inl (cy 0, 68, .inl (fun _ => 0)))]) (vx_runSW (As := [.ref q_1, .int (xs 1), .int (xs 2), .int (xs 3), .int (xs 4), .ref q_3]) (rest := []) ⟨hx, hb, hml, hown, hts⟩ (w_blame l hl D cy sa q_1 u1.1 (xs 1) (xs 2) (xs 3) (xs 4) q_3 H.size) (vx_cwSW 6 hts gl_w_blame rfl rfl rfl (by decide +kernel) ⟨Nat.le_of_ble_eq_true rfl, Nat.le_of_ble_eq_true rfl⟩) ⟨pcW.blind, (pcW.mk hP hD hS hA hG hT [0, 1, 2, 6] rfl (by decide))⟩ rfl rfl hlv.1 rfl (lv_room (Nat.le_of_ble_eq_true rfl)) dL_law__1741 ⟨Nat.le_of_ble_eq_true rfl, Nat.le_of_ble_eq_true rfl⟩) hP hD hS hA [0, 1, 2, 6] [3, 4, 5] rfl rfl (by decide) (by decide) (fun r3 u3 H locs hw3 hP hD hS => ?_)
  obtain rfl := hw3
  have hP : va_P D vwCl [(q_2, .inr (12, [.int 0, .ref (u2.1 1), .int 0, .int 0, .int 0, .int 0, .int 0, .int 0, .int (-1), .ref (u2.1 9), .ref (u2.1 10), .ref (u2.1 11), .ref (u2.1 12), .ref (u2.1 13), .ref (u2.1 14), .ref (u2.1 15), .int 0, .int 0, .int 0, .ref (u2.1 19), .ref (u2.1 20), .ref (u2.1 21), .int 0, .ref (u2.1 23), .ref (u2.1 24), .ref (u2.1 25), .ref (u2.1 26), .ref (u2.1 27), .ref (u2.1 28), .int 0, .int 0, .int 0, .int 0, .ref (u2.1 33), .int (-1), .ref (u2.1 35), .int 0, .int 0])), ((u2.1 1), .inl (cy 0, 4, .inl (fun _ => 0))), ((u2.1 10), .inl (cy 0, 68, .inl (fun _ => 0))), (q_3, .inl (cy 2, 1, .inr (.inl (fun _ => (u3.2.1 0 : Int32).toInt64))))] H := hP
  have hD : va_D A [(q_2, .inr (12, [.int 0, .ref (u2.1 1), .int 0, .int 0, .int 0, .int 0, .int 0, .int 0, .int (-1), .ref (u2.1 9), .ref (u2.1 10), .ref (u2.1 11), .ref (u2.1 12), .ref (u2.1 13), .ref (u2.1 14), .ref (u2.1 15), .int 0, .int 0, .int 0, .ref (u2.1 19), .ref (u2.1 20), .ref (u2.1 21), .int 0, .ref (u2.1 23), .ref (u2.1 24), .ref (u2.1 25), .ref (u2.1 26), .ref (u2.1 27), .ref (u2.1 28), .int 0, .int 0, .int 0, .int 0, .ref (u2.1 33), .int (-1), .ref (u2.1 35), .int 0, .int 0])), ((u2.1 1), .inl (cy 0, 4, .inl (fun _ => 0))), ((u2.1 10), .inl (cy 0, 68, .inl (fun _ => 0))), (q_3, .inl (cy 2, 1, .inr (.inl (fun _ => (u3.2.1 0 : Int32).toInt64))))] := hD
  refine lv_istore (lv' := [(5, .int 1), (4, .int 0), (3, .ref q_3), (2, .ref q_2), (1, .ref q_1), (0, .ref b)]) hx hb dL_law__1744 hlv (by decide) rfl (fun ls hlv => ?_)
  refine lv_aload_n hx hb dL_law__1746 rfl (lv_at hlv 3 rfl) ?_
  refine lv_aload_n hx hb dL_law__1747 rfl (lv_at hlv 5 rfl) ?_
  refine lv_iload hx hb dL_law__1748 (lv_at hlv 1 rfl) ?_
  refine lv_iconst (v := 1) hx hb dL_law__1750 (by decide) ?_
  refine lv_iadd hx hb dL_law__1751 ?_
  refine lt_i (y := 1) (by decide) ?_
  refine va_sld hx hb hX hbl hbA hS (vpd (by decide)) dL_law__1752 ?_
  refine lt_i (y := xs 1) rfl ?_
  refine lv_aload_n hx hb dL_law__1753 rfl (lv_at hlv 5 rfl) ?_
  refine lv_iload hx hb dL_law__1754 (lv_at hlv 1 rfl) ?_
  refine lv_iconst (v := 2) hx hb dL_law__1756 (by decide) ?_
  refine lv_iadd hx hb dL_law__1757 ?_
  refine lt_i (y := 2) (by decide) ?_
  refine va_sld hx hb hX hbl hbA hS (vpd (by decide)) dL_law__1758 ?_
  refine lt_i (y := xs 2) rfl ?_
  refine lv_aload_n hx hb dL_law__1759 rfl (lv_at hlv 5 rfl) ?_
  refine lv_iload hx hb dL_law__1760 (lv_at hlv 1 rfl) ?_
  refine lv_iconst (v := 3) hx hb dL_law__1762 (by decide) ?_
  refine lv_iadd hx hb dL_law__1763 ?_
  refine lt_i (y := 3) (by decide) ?_
  refine va_sld hx hb hX hbl hbA hS (vpd (by decide)) dL_law__1764 ?_
  refine lt_i (y := xs 3) rfl ?_
  refine lv_aload_n hx hb dL_law__1765 rfl (lv_at hlv 5 rfl) ?_
  refine lv_iload hx hb dL_law__1766 (lv_at hlv 1 rfl) ?_
  refine lv_iconst (v := 4) hx hb dL_law__1768 (by decide) ?_
  refine lv_iadd hx hb dL_law__1769 ?_
  refine lt_i (y := 4) (by decide) ?_
  refine va_sld hx hb hX hbl hbA hS (vpd (by decide)) dL_law__1770 ?_
  refine lt_i (y := xs 4) rfl ?_
  refine cj_i (wr := [(q_3, .inl (cy 2, 1, .inr (.inl (fun _ => (u3.2.1 0 : Int32).toInt64))))]) (va_runV (As := [.int (xs 1), .int (xs 2), .int (xs 3), .int (xs 4)]) (rest := []) ⟨hx, hb, hml, hown, hts⟩ (m_blame l hl D cy sa q_2 u2.1 (xs 1) (xs 2) (xs 3) (xs 4) H.size) (cwV 4 hts gl_m_blame rfl rfl rfl (by decide +kernel) ⟨Nat.le_of_ble_eq_true rfl, Nat.le_of_ble_eq_true rfl⟩) ⟨pcW.blind, (va_recv hG.1 hP (ci := 12) (q0 := 0) rfl rfl), (pcW.mk hP hD hS hA hG hT [0, 1, 2] rfl (by decide))⟩ rfl rfl hlv.1 rfl (lv_room (Nat.le_of_ble_eq_true rfl)) dL_law__1771 ⟨Nat.le_of_ble_eq_true rfl, Nat.le_of_ble_eq_true rfl⟩) hP hD hS hA [0, 1, 2] [3] rfl rfl (by decide) (by decide) (fun r4 u4 H locs hw4 hP hD hS => ?_)
  obtain rfl := hw4
  have hP : va_P D vwCl [(q_3, .inl (cy 2, 1, .inr (.inl (fun _ => (u3.2.1 0 : Int32).toInt64)))), (q_2, .inr (12, [.int 1, .ref (u2.1 1), .int 0, .int 0, .int 0, .int 0, .int 0, .int 0, .int (-1), .ref (u2.1 9), .ref (u2.1 10), .ref (u2.1 11), .ref (u2.1 12), .ref (u2.1 13), .ref (u2.1 14), .ref (u2.1 15), .int 0, .int 0, .int 0, .ref (u2.1 19), .ref (u2.1 20), .ref (u2.1 21), .int 0, .ref (u2.1 23), .ref (u2.1 24), .ref (u2.1 25), .ref (u2.1 26), .ref (u2.1 27), .ref (u2.1 28), .int 0, .int 0, .int 0, .int 0, .ref (u2.1 33), .int (-1), .ref (u2.1 35), .int 0, .int 0]))] H := hP
  have hD : va_D A [(q_3, .inl (cy 2, 1, .inr (.inl (fun _ => (u3.2.1 0 : Int32).toInt64)))), (q_2, .inr (12, [.int 1, .ref (u2.1 1), .int 0, .int 0, .int 0, .int 0, .int 0, .int 0, .int (-1), .ref (u2.1 9), .ref (u2.1 10), .ref (u2.1 11), .ref (u2.1 12), .ref (u2.1 13), .ref (u2.1 14), .ref (u2.1 15), .int 0, .int 0, .int 0, .ref (u2.1 19), .ref (u2.1 20), .ref (u2.1 21), .int 0, .ref (u2.1 23), .ref (u2.1 24), .ref (u2.1 25), .ref (u2.1 26), .ref (u2.1 27), .ref (u2.1 28), .int 0, .int 0, .int 0, .int 0, .ref (u2.1 33), .int (-1), .ref (u2.1 35), .int 0, .int 0]))] := hD
  refine lv_istore (lv' := [(6, .int 0), (5, .int 1), (4, .int 0), (3, .ref q_3), (2, .ref q_2), (1, .ref q_1), (0, .ref b)]) hx hb dL_law__1774 hlv (by decide) rfl (fun ls hlv => ?_)
  refine lv_aload_n hx hb dL_law__1776 rfl (lv_at hlv 4 rfl) ?_
  refine cj_i (wr := [(q_3, .inl (cy 2, 1, .inr (.inl (fun _ => (u3.2.1 0 : Int32).toInt64))))]) (va_runV (As := []) (rest := []) ⟨hx, hb, hml, hown, hts⟩ (c_thrown l hl D cy sa q_2 u2.1 1 0 0 0 0 0 0 (-1) 0 0 0 0 0 0 0 0 (-1) 0 0 H.size) (cwV 0 hts gl_c_thrown rfl rfl rfl (by decide +kernel) ⟨Nat.le_of_ble_eq_true rfl, Nat.le_of_ble_eq_true rfl⟩) ⟨pcW.blind, (va_recv hG.1 hP (ci := 12) (q0 := 1) rfl rfl), (pcW.mk hP hD hS hA hG hT [1] rfl (by decide))⟩ rfl rfl hlv.1 rfl (lv_room (Nat.le_of_ble_eq_true rfl)) dL_law__1777 ⟨Nat.le_of_ble_eq_true rfl, Nat.le_of_ble_eq_true rfl⟩) hP hD hS hA [1] [0] rfl rfl (by decide) (by decide) (fun r5 u5 H locs hw5 hP hD hS => ?_)
  obtain rfl := hw5
  have hP : va_P D vwCl [(q_3, .inl (cy 2, 1, .inr (.inl (fun _ => (u3.2.1 0 : Int32).toInt64))))] H := hP
  have hD : va_D A [(q_3, .inl (cy 2, 1, .inr (.inl (fun _ => (u3.2.1 0 : Int32).toInt64))))] := hD
  refine lv_iload hx hb dL_law__1780 (lv_at hlv 1 rfl) ?_
  refine lv_icmp_eq (tgt := 1787) hx hb dL_law__1782 (by decide) (fun _ => ?_) (fun c => absurd (by decide) c)
  refine lv_iload hx hb dL_law__1787 (lv_at hlv 1 rfl) ?_
  refine lv_if_ne (tgt := 1804) hx hb dL_law__1789 (by decide) (fun _ => ?_) (fun c => absurd c (by decide))
  refine lv_goto (tgt := 2755) hx hb dL_law__1804 (by decide) ?_
  refine lv_iinc (v := 10) (lv' := [(4, .int 10), (6, .int 0), (5, .int 1), (3, .ref q_3), (2, .ref q_2), (1, .ref q_1), (0, .ref b)]) hx hb dL_law__2755 hlv (k := 2) rfl (by decide) (by decide) rfl (fun ls hlv => ?_)
  refine lv_goto (tgt := 23) hx hb dL_law__2758 (by decide) ?_
  refine lv_iload hx hb dL_law__23 (lv_at hlv 0 rfl) ?_
  refine lv_aload_n hx hb dL_law__25 rfl (lv_at hlv 6 rfl) ?_
  refine va_slen hx hb hX hbl hbA hS dL_law__26 ?_
  refine lt_i (y := 10) (by decide) ?_
  refine lv_bipush (v := 10) hx hb dL_law__27 (by decide) ?_
  refine lv_isub hx hb dL_law__29 ?_
  refine lt_i (y := 0) (by decide) ?_
  refine lv_icmp_gt (tgt := 2761) hx hb dL_law__30 (by decide) (fun _ => ?_) (fun c => absurd (by decide) c)
  refine lv_iconst (v := 1) hx hb dL_law__2761 (by decide) ?_
  refine va_forget (fun q hq => by have h9 := hS.2.2 q hq; rw [hAe] at h9; exact h9) ?_
  refine W.widen (k := 600002) (n := 7302232) (Nat.le_of_ble_eq_true rfl) (Nat.le_of_ble_eq_true rfl) ?_
  exact lw_ret hx hb hr hlocks dL_law__2762
set_option maxHeartbeats 4000000 in
set_option maxRecDepth 100000 in
theorem law_look {p : Program} {e : Env} {s : State} {m : MethodId} {below : List Frame} {meth : Method} {c : Code} (l : Launch) (hl : l.stackTraces = false) {b : Nat} {xs : Nat → Int32} {D : va_G} {cy : Nat → ClassId} {sa : Nat → Nat} {A : Nat → Prop} (hAe : A = fun q => s.heap.size ≤ q) (C0 : lw_At p s m meth c b 10 xs) (hG : GC D cy sa s) (hT : TH A s s.heap) (h63 : xs 0 &&& 63 = 23) : W p l e room_1 s m #[Value.ref b] below meth c s.heap [] 0 0 (lw_Z below #[Value.ref b] s) (entryFrame m ([Value.ref b] : List Value).toArray 7) := by
  obtain ⟨hx, hb, hr, hml, hown0, hts0, hX, hbl, hlocks, hgv⟩ := id C0
  have hown : s.vm.findClass RL = some m.cls := hown0
  have hts := hts0
  have hA : ∀ q : Nat, s.heap.size ≤ q → A q := fun q h => by rw [hAe]; exact h
  have hbA : ¬ A b := by rw [hAe]; exact Nat.not_le.mpr hbl
  have hS : va_S A s.heap s.heap [] := va_S.rf
  have hP : va_P D vwCl [] s.heap := fun k q h => by simp at h
  have hD : va_D A [] := ⟨fun i j p q h => by simp at h, fun k q h => by simp at h⟩
  have hl0 := lv_entry ([.ref b]) (n := 7) (Nat.le_of_ble_eq_true rfl)
  rw [lg_entry_eq]
  generalize (lg_sl ([.ref b]) ++ List.replicate (7 - (lg_sl ([.ref b])).length) Slot.unset).toArray = ls at hl0 ⊢
  have hlv : lv_has ls 7 [(0, .ref b)] := hl0
  have cl8 := hts (.classLink RL 8 RX11) lwd_0
  have in11 := hts (.instantiable RX11 14) lwd_1
  have ini11 := hts (.initialized RX11) lwd_2
  have ini_RX11 := hts (.initialized RX11) lwd_2
  have ml117 := hts (.methodLink RL 117 yX11_init) lwd_3
  have im_X11_init := hts (.instanceMethod yX11_init) lwd_4
  have cl118 := hts (.classLink RL 118 RX12) lwd_5
  have in12 := hts (.instantiable RX12 38) lwd_6
  have ini12 := hts (.initialized RX12) lwd_7
  have ini_RX12 := hts (.initialized RX12) lwd_7
  have ml120 := hts (.methodLink RL 120 yX12_init) lwd_8
  have im_X12_init := hts (.instanceMethod yX12_init) lwd_9
  have ac2 := hts (.arrayClass .long) lwd_10
  refine va_new (ci := 11) (fs := [.null, .null, .null, .int 0, .int 0, .null, .null, .null, .null, .null, .int 0, .null, .null, .null]) (C := RX11) (T := TX11) (N := 14) hx hb hts inX11 tyX11 tyX11_ok hown cl8 in11 ini11 hG.1 hP hD hS hA rfl (by decide) (Nat.le_of_ble_eq_true rfl) (Nat.le_of_ble_eq_true rfl) dL_law__0 (fun q_1 H hP hD hS => ?_)
  have hP : va_P D vwCl [(q_1, .inr (11, [.null, .null, .null, .int 0, .int 0, .null, .null, .null, .null, .null, .int 0, .null, .null, .null]))] H := hP
  have hD : va_D A [(q_1, .inr (11, [.null, .null, .null, .int 0, .int 0, .null, .null, .null, .null, .null, .int 0, .null, .null, .null]))] := hD
  refine lv_dup hx hb dL_law__3 rfl ?_
  refine cj_v (wr := []) (va_runI (As := []) (rest := [.ref q_1]) ⟨hx, hb, hml, hown, hts⟩ (c_K_look l hl D cy sa q_1 H.size) (cwI 0 hts gl_X11_init rfl rfl rfl ini_RX11 ml117 im_X11_init rfl (by decide +kernel) ⟨Nat.le_of_ble_eq_true rfl, Nat.le_of_ble_eq_true rfl⟩) ⟨pcW.blind, (pcW.mk hP hD hS hA hG hT [0] rfl (by decide))⟩ rfl rfl hlv.1 rfl (lv_room (Nat.le_of_ble_eq_true rfl)) dL_law__4 ⟨Nat.le_of_ble_eq_true rfl, Nat.le_of_ble_eq_true rfl⟩) hP hD hS hA [0] [] rfl rfl (by decide) (by decide) (fun u1 H locs hw1 hP hD hS => ?_)
  have hP : va_P D vwCl [(q_1, .inr (11, [.ref (u1.1 0), .ref (u1.1 1), .ref (u1.1 2), .int 0, .int 0, .ref (u1.1 5), .ref (u1.1 6), .ref (u1.1 7), .ref (u1.1 8), .ref (u1.1 9), .int 0, .ref (u1.1 11), .ref (u1.1 12), .ref (u1.1 13)])), ((u1.1 13), .inl (cy 0, 4, .inl (fun _ => 0)))] H := hP
  have hD : va_D A [(q_1, .inr (11, [.ref (u1.1 0), .ref (u1.1 1), .ref (u1.1 2), .int 0, .int 0, .ref (u1.1 5), .ref (u1.1 6), .ref (u1.1 7), .ref (u1.1 8), .ref (u1.1 9), .int 0, .ref (u1.1 11), .ref (u1.1 12), .ref (u1.1 13)])), ((u1.1 13), .inl (cy 0, 4, .inl (fun _ => 0)))] := hD
  refine lv_astore_n (lv' := [(1, .ref q_1), (0, .ref b)]) hx hb dL_law__7 rfl hlv (by decide) rfl (fun ls hlv => ?_)
  refine va_new (ci := 12) (fs := [.int 0, .null, .int 0, .int 0, .int 0, .int 0, .int 0, .int 0, .int 0, .null, .null, .null, .null, .null, .null, .null, .int 0, .int 0, .int 0, .null, .null, .null, .int 0, .null, .null, .null, .null, .null, .null, .int 0, .int 0, .int 0, .int 0, .null, .int 0, .null, .int 0, .int 0]) (C := RX12) (T := TX12) (N := 38) hx hb hts inX12 tyX12 tyX12_ok hown cl118 in12 ini12 hG.1 hP hD hS hA rfl (by decide) (Nat.le_of_ble_eq_true rfl) (Nat.le_of_ble_eq_true rfl) dL_law__8 (fun q_2 H hP hD hS => ?_)
  have hP : va_P D vwCl [(q_1, .inr (11, [.ref (u1.1 0), .ref (u1.1 1), .ref (u1.1 2), .int 0, .int 0, .ref (u1.1 5), .ref (u1.1 6), .ref (u1.1 7), .ref (u1.1 8), .ref (u1.1 9), .int 0, .ref (u1.1 11), .ref (u1.1 12), .ref (u1.1 13)])), ((u1.1 13), .inl (cy 0, 4, .inl (fun _ => 0))), (q_2, .inr (12, [.int 0, .null, .int 0, .int 0, .int 0, .int 0, .int 0, .int 0, .int 0, .null, .null, .null, .null, .null, .null, .null, .int 0, .int 0, .int 0, .null, .null, .null, .int 0, .null, .null, .null, .null, .null, .null, .int 0, .int 0, .int 0, .int 0, .null, .int 0, .null, .int 0, .int 0]))] H := hP
  have hD : va_D A [(q_1, .inr (11, [.ref (u1.1 0), .ref (u1.1 1), .ref (u1.1 2), .int 0, .int 0, .ref (u1.1 5), .ref (u1.1 6), .ref (u1.1 7), .ref (u1.1 8), .ref (u1.1 9), .int 0, .ref (u1.1 11), .ref (u1.1 12), .ref (u1.1 13)])), ((u1.1 13), .inl (cy 0, 4, .inl (fun _ => 0))), (q_2, .inr (12, [.int 0, .null, .int 0, .int 0, .int 0, .int 0, .int 0, .int 0, .int 0, .null, .null, .null, .null, .null, .null, .null, .int 0, .int 0, .int 0, .null, .null, .null, .int 0, .null, .null, .null, .null, .null, .null, .int 0, .int 0, .int 0, .int 0, .null, .int 0, .null, .int 0, .int 0]))] := hD
  refine lv_dup hx hb dL_law__11 rfl ?_
  refine cj_v (wr := [(q_1, .inr (11, [.ref (u1.1 0), .ref (u1.1 1), .ref (u1.1 2), .int 0, .int 0, .ref (u1.1 5), .ref (u1.1 6), .ref (u1.1 7), .ref (u1.1 8), .ref (u1.1 9), .int 0, .ref (u1.1 11), .ref (u1.1 12), .ref (u1.1 13)])), ((u1.1 13), .inl (cy 0, 4, .inl (fun _ => 0)))]) (va_runI (As := []) (rest := [.ref q_2]) ⟨hx, hb, hml, hown, hts⟩ (c_M_look l hl D cy sa q_2 H.size) (cwI 0 hts gl_X12_init rfl rfl rfl ini_RX12 ml120 im_X12_init rfl (by decide +kernel) ⟨Nat.le_of_ble_eq_true rfl, Nat.le_of_ble_eq_true rfl⟩) ⟨pcW.blind, (pcW.mk hP hD hS hA hG hT [2] rfl (by decide))⟩ rfl rfl hlv.1 rfl (lv_room (Nat.le_of_ble_eq_true rfl)) dL_law__12 ⟨Nat.le_of_ble_eq_true rfl, Nat.le_of_ble_eq_true rfl⟩) hP hD hS hA [2] [0, 1] rfl rfl (by decide) (by decide) (fun u2 H locs hw2 hP hD hS => ?_)
  have hP : va_P D vwCl [(q_1, .inr (11, [.ref (u1.1 0), .ref (u1.1 1), .ref (u1.1 2), .int 0, .int 0, .ref (u1.1 5), .ref (u1.1 6), .ref (u1.1 7), .ref (u1.1 8), .ref (u1.1 9), .int 0, .ref (u1.1 11), .ref (u1.1 12), .ref (u1.1 13)])), ((u1.1 13), .inl (cy 0, 4, .inl (fun _ => 0))), (q_2, .inr (12, [.int 0, .ref (u2.1 1), .int 0, .int 0, .int 0, .int 0, .int 0, .int 0, .int (-1), .ref (u2.1 9), .ref (u2.1 10), .ref (u2.1 11), .ref (u2.1 12), .ref (u2.1 13), .ref (u2.1 14), .ref (u2.1 15), .int 0, .int 0, .int 0, .ref (u2.1 19), .ref (u2.1 20), .ref (u2.1 21), .int 0, .ref (u2.1 23), .ref (u2.1 24), .ref (u2.1 25), .ref (u2.1 26), .ref (u2.1 27), .ref (u2.1 28), .int 0, .int 0, .int 0, .int 0, .ref (u2.1 33), .int (-1), .ref (u2.1 35), .int 0, .int 0])), ((u2.1 1), .inl (cy 0, 4, .inl (fun _ => 0)))] H := hP
  have hD : va_D A [(q_1, .inr (11, [.ref (u1.1 0), .ref (u1.1 1), .ref (u1.1 2), .int 0, .int 0, .ref (u1.1 5), .ref (u1.1 6), .ref (u1.1 7), .ref (u1.1 8), .ref (u1.1 9), .int 0, .ref (u1.1 11), .ref (u1.1 12), .ref (u1.1 13)])), ((u1.1 13), .inl (cy 0, 4, .inl (fun _ => 0))), (q_2, .inr (12, [.int 0, .ref (u2.1 1), .int 0, .int 0, .int 0, .int 0, .int 0, .int 0, .int (-1), .ref (u2.1 9), .ref (u2.1 10), .ref (u2.1 11), .ref (u2.1 12), .ref (u2.1 13), .ref (u2.1 14), .ref (u2.1 15), .int 0, .int 0, .int 0, .ref (u2.1 19), .ref (u2.1 20), .ref (u2.1 21), .int 0, .ref (u2.1 23), .ref (u2.1 24), .ref (u2.1 25), .ref (u2.1 26), .ref (u2.1 27), .ref (u2.1 28), .int 0, .int 0, .int 0, .int 0, .ref (u2.1 33), .int (-1), .ref (u2.1 35), .int 0, .int 0])), ((u2.1 1), .inl (cy 0, 4, .inl (fun _ => 0)))] := hD
  refine lv_astore_n (lv' := [(2, .ref q_2), (1, .ref q_1), (0, .ref b)]) hx hb dL_law__15 rfl hlv (by decide) rfl (fun ls hlv => ?_)
  refine lv_iconst (v := 1) hx hb dL_law__16 (by decide) ?_
  refine nw_a (atype := .long) (cy := cy) (a0 := (1, .inr (.inl (fun _ => 0)))) (N' := 1) hx hb ac2 (ty := .long) rfl 2 rfl (fun C h => nomatch h) hG.1 hP hD hS hA (fun cA => rfl) (by decide) (by decide) (Nat.le_of_ble_eq_true rfl) (Nat.le_of_ble_eq_true rfl) (Nat.le_of_ble_eq_true rfl) dL_law__17 (fun q_3 H hP hD hS => ?_)
  have hP : va_P D vwCl [(q_1, .inr (11, [.ref (u1.1 0), .ref (u1.1 1), .ref (u1.1 2), .int 0, .int 0, .ref (u1.1 5), .ref (u1.1 6), .ref (u1.1 7), .ref (u1.1 8), .ref (u1.1 9), .int 0, .ref (u1.1 11), .ref (u1.1 12), .ref (u1.1 13)])), ((u1.1 13), .inl (cy 0, 4, .inl (fun _ => 0))), (q_2, .inr (12, [.int 0, .ref (u2.1 1), .int 0, .int 0, .int 0, .int 0, .int 0, .int 0, .int (-1), .ref (u2.1 9), .ref (u2.1 10), .ref (u2.1 11), .ref (u2.1 12), .ref (u2.1 13), .ref (u2.1 14), .ref (u2.1 15), .int 0, .int 0, .int 0, .ref (u2.1 19), .ref (u2.1 20), .ref (u2.1 21), .int 0, .ref (u2.1 23), .ref (u2.1 24), .ref (u2.1 25), .ref (u2.1 26), .ref (u2.1 27), .ref (u2.1 28), .int 0, .int 0, .int 0, .int 0, .ref (u2.1 33), .int (-1), .ref (u2.1 35), .int 0, .int 0])), ((u2.1 1), .inl (cy 0, 4, .inl (fun _ => 0))), (q_3, .inl (cy 2, 1, .inr (.inl (fun _ => 0))))] H := hP
  have hD : va_D A [(q_1, .inr (11, [.ref (u1.1 0), .ref (u1.1 1), .ref (u1.1 2), .int 0, .int 0, .ref (u1.1 5), .ref (u1.1 6), .ref (u1.1 7), .ref (u1.1 8), .ref (u1.1 9), .int 0, .ref (u1.1 11), .ref (u1.1 12), .ref (u1.1 13)])), ((u1.1 13), .inl (cy 0, 4, .inl (fun _ => 0))), (q_2, .inr (12, [.int 0, .ref (u2.1 1), .int 0, .int 0, .int 0, .int 0, .int 0, .int 0, .int (-1), .ref (u2.1 9), .ref (u2.1 10), .ref (u2.1 11), .ref (u2.1 12), .ref (u2.1 13), .ref (u2.1 14), .ref (u2.1 15), .int 0, .int 0, .int 0, .ref (u2.1 19), .ref (u2.1 20), .ref (u2.1 21), .int 0, .ref (u2.1 23), .ref (u2.1 24), .ref (u2.1 25), .ref (u2.1 26), .ref (u2.1 27), .ref (u2.1 28), .int 0, .int 0, .int 0, .int 0, .ref (u2.1 33), .int (-1), .ref (u2.1 35), .int 0, .int 0])), ((u2.1 1), .inl (cy 0, 4, .inl (fun _ => 0))), (q_3, .inl (cy 2, 1, .inr (.inl (fun _ => 0))))] := hD
  refine lv_astore_n (lv' := [(3, .ref q_3), (2, .ref q_2), (1, .ref q_1), (0, .ref b)]) hx hb dL_law__19 rfl hlv (by decide) rfl (fun ls hlv => ?_)
  refine lv_iconst (v := 0) hx hb dL_law__20 (by decide) ?_
  refine lv_istore (lv' := [(4, .int 0), (3, .ref q_3), (2, .ref q_2), (1, .ref q_1), (0, .ref b)]) hx hb dL_law__21 hlv (by decide) rfl (fun ls hlv => ?_)
  refine lv_iload hx hb dL_law__23 (lv_at hlv 0 rfl) ?_
  refine lv_aload_n hx hb dL_law__25 rfl (lv_at hlv 4 rfl) ?_
  refine va_slen hx hb hX hbl hbA hS dL_law__26 ?_
  refine lt_i (y := 10) (by decide) ?_
  refine lv_bipush (v := 10) hx hb dL_law__27 (by decide) ?_
  refine lv_isub hx hb dL_law__29 ?_
  refine lt_i (y := 0) (by decide) ?_
  refine lv_icmp_gt (tgt := 2761) hx hb dL_law__30 (by decide) (fun c => absurd c (by decide)) (fun _ => ?_)
  refine lv_aload_n hx hb dL_law__33 rfl (lv_at hlv 4 rfl) ?_
  refine lv_iload hx hb dL_law__34 (lv_at hlv 0 rfl) ?_
  refine va_sld hx hb hX hbl hbA hS (vpd (by decide)) dL_law__36 ?_
  refine lt_i (y := xs 0) rfl ?_
  refine lv_bipush (v := 63) hx hb dL_law__37 (by decide) ?_
  refine lv_iand hx hb dL_law__39 ?_
  refine lt_i (y := 23) h63 ?_
  refine lv_tableIn (tgt := 1807) hx hb dL_law__40 (by decide) (by decide) rfl (by decide) ?_
  refine lv_aload_n hx hb dL_law__1807 rfl (lv_at hlv 3 rfl) ?_
  refine lv_aload_n hx hb dL_law__1808 rfl (lv_at hlv 4 rfl) ?_
  refine lv_iload hx hb dL_law__1809 (lv_at hlv 0 rfl) ?_
  refine lv_iconst (v := 1) hx hb dL_law__1811 (by decide) ?_
  refine lv_iadd hx hb dL_law__1812 ?_
  refine lt_i (y := 1) (by decide) ?_
  refine va_sld hx hb hX hbl hbA hS (vpd (by decide)) dL_law__1813 ?_
  refine lt_i (y := xs 1) rfl ?_
  refine lv_aload_n hx hb dL_law__1814 rfl (lv_at hlv 4 rfl) ?_
  refine lv_iload hx hb dL_law__1815 (lv_at hlv 0 rfl) ?_
  refine lv_iconst (v := 2) hx hb dL_law__1817 (by decide) ?_
  refine lv_iadd hx hb dL_law__1818 ?_
  refine lt_i (y := 2) (by decide) ?_
  refine va_sld hx hb hX hbl hbA hS (vpd (by decide)) dL_law__1819 ?_
  refine lt_i (y := xs 2) rfl ?_
  refine lv_aload_n hx hb dL_law__1820 rfl (lv_at hlv 1 rfl) ?_
  refine cj_i (wr := [(q_2, .inr (12, [.int 0, .ref (u2.1 1), .int 0, .int 0, .int 0, .int 0, .int 0, .int 0, .int (-1), .ref (u2.1 9), .ref (u2.1 10), .ref (u2.1 11), .ref (u2.1 12), .ref (u2.1 13), .ref (u2.1 14), .ref (u2.1 15), .int 0, .int 0, .int 0, .ref (u2.1 19), .ref (u2.1 20), .ref (u2.1 21), .int 0, .ref (u2.1 23), .ref (u2.1 24), .ref (u2.1 25), .ref (u2.1 26), .ref (u2.1 27), .ref (u2.1 28), .int 0, .int 0, .int 0, .int 0, .ref (u2.1 33), .int (-1), .ref (u2.1 35), .int 0, .int 0])), ((u2.1 1), .inl (cy 0, 4, .inl (fun _ => 0)))]) (vx_runSW (As := [.ref q_1, .int (xs 1), .int (xs 2), .ref q_3]) (rest := []) ⟨hx, hb, hml, hown, hts⟩ (w_look l hl D cy sa q_1 u1.1 (xs 1) (xs 2) q_3 H.size) (vx_cwSW 4 hts gl_w_look rfl rfl rfl (by decide +kernel) ⟨Nat.le_of_ble_eq_true rfl, Nat.le_of_ble_eq_true rfl⟩) ⟨pcW.blind, (pcW.mk hP hD hS hA hG hT [0, 1, 4] rfl (by decide))⟩ rfl rfl hlv.1 rfl (lv_room (Nat.le_of_ble_eq_true rfl)) dL_law__1821 ⟨Nat.le_of_ble_eq_true rfl, Nat.le_of_ble_eq_true rfl⟩) hP hD hS hA [0, 1, 4] [2, 3] rfl rfl (by decide) (by decide) (fun r3 u3 H locs hw3 hP hD hS => ?_)
  obtain rfl := hw3
  have hP : va_P D vwCl [(q_2, .inr (12, [.int 0, .ref (u2.1 1), .int 0, .int 0, .int 0, .int 0, .int 0, .int 0, .int (-1), .ref (u2.1 9), .ref (u2.1 10), .ref (u2.1 11), .ref (u2.1 12), .ref (u2.1 13), .ref (u2.1 14), .ref (u2.1 15), .int 0, .int 0, .int 0, .ref (u2.1 19), .ref (u2.1 20), .ref (u2.1 21), .int 0, .ref (u2.1 23), .ref (u2.1 24), .ref (u2.1 25), .ref (u2.1 26), .ref (u2.1 27), .ref (u2.1 28), .int 0, .int 0, .int 0, .int 0, .ref (u2.1 33), .int (-1), .ref (u2.1 35), .int 0, .int 0])), ((u2.1 1), .inl (cy 0, 4, .inl (fun _ => 0))), (q_3, .inl (cy 2, 1, .inr (.inl (fun _ => (u3.2.1 0 : Int32).toInt64))))] H := hP
  have hD : va_D A [(q_2, .inr (12, [.int 0, .ref (u2.1 1), .int 0, .int 0, .int 0, .int 0, .int 0, .int 0, .int (-1), .ref (u2.1 9), .ref (u2.1 10), .ref (u2.1 11), .ref (u2.1 12), .ref (u2.1 13), .ref (u2.1 14), .ref (u2.1 15), .int 0, .int 0, .int 0, .ref (u2.1 19), .ref (u2.1 20), .ref (u2.1 21), .int 0, .ref (u2.1 23), .ref (u2.1 24), .ref (u2.1 25), .ref (u2.1 26), .ref (u2.1 27), .ref (u2.1 28), .int 0, .int 0, .int 0, .int 0, .ref (u2.1 33), .int (-1), .ref (u2.1 35), .int 0, .int 0])), ((u2.1 1), .inl (cy 0, 4, .inl (fun _ => 0))), (q_3, .inl (cy 2, 1, .inr (.inl (fun _ => (u3.2.1 0 : Int32).toInt64))))] := hD
  refine lv_istore (lv' := [(5, .int 1), (4, .int 0), (3, .ref q_3), (2, .ref q_2), (1, .ref q_1), (0, .ref b)]) hx hb dL_law__1824 hlv (by decide) rfl (fun ls hlv => ?_)
  refine lv_aload_n hx hb dL_law__1826 rfl (lv_at hlv 3 rfl) ?_
  refine lv_aload_n hx hb dL_law__1827 rfl (lv_at hlv 5 rfl) ?_
  refine lv_iload hx hb dL_law__1828 (lv_at hlv 1 rfl) ?_
  refine lv_iconst (v := 1) hx hb dL_law__1830 (by decide) ?_
  refine lv_iadd hx hb dL_law__1831 ?_
  refine lt_i (y := 1) (by decide) ?_
  refine va_sld hx hb hX hbl hbA hS (vpd (by decide)) dL_law__1832 ?_
  refine lt_i (y := xs 1) rfl ?_
  refine lv_aload_n hx hb dL_law__1833 rfl (lv_at hlv 5 rfl) ?_
  refine lv_iload hx hb dL_law__1834 (lv_at hlv 1 rfl) ?_
  refine lv_iconst (v := 2) hx hb dL_law__1836 (by decide) ?_
  refine lv_iadd hx hb dL_law__1837 ?_
  refine lt_i (y := 2) (by decide) ?_
  refine va_sld hx hb hX hbl hbA hS (vpd (by decide)) dL_law__1838 ?_
  refine lt_i (y := xs 2) rfl ?_
  refine cj_i (wr := [(q_3, .inl (cy 2, 1, .inr (.inl (fun _ => (u3.2.1 0 : Int32).toInt64))))]) (va_runV (As := [.int (xs 1), .int (xs 2)]) (rest := []) ⟨hx, hb, hml, hown, hts⟩ (m_look l hl D cy sa q_2 u2.1 (xs 1) (xs 2) H.size) (cwV 2 hts gl_m_look rfl rfl rfl (by decide +kernel) ⟨Nat.le_of_ble_eq_true rfl, Nat.le_of_ble_eq_true rfl⟩) ⟨pcW.blind, (va_recv hG.1 hP (ci := 12) (q0 := 0) rfl rfl), (pcW.mk hP hD hS hA hG hT [0, 1] rfl (by decide))⟩ rfl rfl hlv.1 rfl (lv_room (Nat.le_of_ble_eq_true rfl)) dL_law__1839 ⟨Nat.le_of_ble_eq_true rfl, Nat.le_of_ble_eq_true rfl⟩) hP hD hS hA [0, 1] [2] rfl rfl (by decide) (by decide) (fun r4 u4 H locs hw4 hP hD hS => ?_)
  obtain rfl := hw4
  have hP : va_P D vwCl [(q_3, .inl (cy 2, 1, .inr (.inl (fun _ => (u3.2.1 0 : Int32).toInt64)))), (q_2, .inr (12, [.int 1, .ref (u2.1 1), .int 0, .int 0, .int 0, .int 0, .int 0, .int 0, .int (-1), .ref (u2.1 9), .ref (u2.1 10), .ref (u2.1 11), .ref (u2.1 12), .ref (u2.1 13), .ref (u2.1 14), .ref (u2.1 15), .int 0, .int 0, .int 0, .ref (u2.1 19), .ref (u2.1 20), .ref (u2.1 21), .int 0, .ref (u2.1 23), .ref (u2.1 24), .ref (u2.1 25), .ref (u2.1 26), .ref (u2.1 27), .ref (u2.1 28), .int 0, .int 0, .int 0, .int 0, .ref (u2.1 33), .int (-1), .ref (u2.1 35), .int 0, .int 0]))] H := hP
  have hD : va_D A [(q_3, .inl (cy 2, 1, .inr (.inl (fun _ => (u3.2.1 0 : Int32).toInt64)))), (q_2, .inr (12, [.int 1, .ref (u2.1 1), .int 0, .int 0, .int 0, .int 0, .int 0, .int 0, .int (-1), .ref (u2.1 9), .ref (u2.1 10), .ref (u2.1 11), .ref (u2.1 12), .ref (u2.1 13), .ref (u2.1 14), .ref (u2.1 15), .int 0, .int 0, .int 0, .ref (u2.1 19), .ref (u2.1 20), .ref (u2.1 21), .int 0, .ref (u2.1 23), .ref (u2.1 24), .ref (u2.1 25), .ref (u2.1 26), .ref (u2.1 27), .ref (u2.1 28), .int 0, .int 0, .int 0, .int 0, .ref (u2.1 33), .int (-1), .ref (u2.1 35), .int 0, .int 0]))] := hD
  refine lv_istore (lv' := [(6, .int 0), (5, .int 1), (4, .int 0), (3, .ref q_3), (2, .ref q_2), (1, .ref q_1), (0, .ref b)]) hx hb dL_law__1842 hlv (by decide) rfl (fun ls hlv => ?_)
  refine lv_aload_n hx hb dL_law__1844 rfl (lv_at hlv 4 rfl) ?_
  refine cj_i (wr := [(q_3, .inl (cy 2, 1, .inr (.inl (fun _ => (u3.2.1 0 : Int32).toInt64))))]) (va_runV (As := []) (rest := []) ⟨hx, hb, hml, hown, hts⟩ (c_thrown l hl D cy sa q_2 u2.1 1 0 0 0 0 0 0 (-1) 0 0 0 0 0 0 0 0 (-1) 0 0 H.size) (cwV 0 hts gl_c_thrown rfl rfl rfl (by decide +kernel) ⟨Nat.le_of_ble_eq_true rfl, Nat.le_of_ble_eq_true rfl⟩) ⟨pcW.blind, (va_recv hG.1 hP (ci := 12) (q0 := 1) rfl rfl), (pcW.mk hP hD hS hA hG hT [1] rfl (by decide))⟩ rfl rfl hlv.1 rfl (lv_room (Nat.le_of_ble_eq_true rfl)) dL_law__1845 ⟨Nat.le_of_ble_eq_true rfl, Nat.le_of_ble_eq_true rfl⟩) hP hD hS hA [1] [0] rfl rfl (by decide) (by decide) (fun r5 u5 H locs hw5 hP hD hS => ?_)
  obtain rfl := hw5
  have hP : va_P D vwCl [(q_3, .inl (cy 2, 1, .inr (.inl (fun _ => (u3.2.1 0 : Int32).toInt64))))] H := hP
  have hD : va_D A [(q_3, .inl (cy 2, 1, .inr (.inl (fun _ => (u3.2.1 0 : Int32).toInt64))))] := hD
  refine lv_iload hx hb dL_law__1848 (lv_at hlv 1 rfl) ?_
  refine lv_icmp_eq (tgt := 1855) hx hb dL_law__1850 (by decide) (fun _ => ?_) (fun c => absurd (by decide) c)
  refine lv_iload hx hb dL_law__1855 (lv_at hlv 1 rfl) ?_
  refine lv_if_ne (tgt := 1872) hx hb dL_law__1857 (by decide) (fun _ => ?_) (fun c => absurd c (by decide))
  refine lv_goto (tgt := 2755) hx hb dL_law__1872 (by decide) ?_
  refine lv_iinc (v := 10) (lv' := [(4, .int 10), (6, .int 0), (5, .int 1), (3, .ref q_3), (2, .ref q_2), (1, .ref q_1), (0, .ref b)]) hx hb dL_law__2755 hlv (k := 2) rfl (by decide) (by decide) rfl (fun ls hlv => ?_)
  refine lv_goto (tgt := 23) hx hb dL_law__2758 (by decide) ?_
  refine lv_iload hx hb dL_law__23 (lv_at hlv 0 rfl) ?_
  refine lv_aload_n hx hb dL_law__25 rfl (lv_at hlv 6 rfl) ?_
  refine va_slen hx hb hX hbl hbA hS dL_law__26 ?_
  refine lt_i (y := 10) (by decide) ?_
  refine lv_bipush (v := 10) hx hb dL_law__27 (by decide) ?_
  refine lv_isub hx hb dL_law__29 ?_
  refine lt_i (y := 0) (by decide) ?_
  refine lv_icmp_gt (tgt := 2761) hx hb dL_law__30 (by decide) (fun _ => ?_) (fun c => absurd (by decide) c)
  refine lv_iconst (v := 1) hx hb dL_law__2761 (by decide) ?_
  refine va_forget (fun q hq => by have h9 := hS.2.2 q hq; rw [hAe] at h9; exact h9) ?_
  refine W.widen (k := 600002) (n := 7302232) (Nat.le_of_ble_eq_true rfl) (Nat.le_of_ble_eq_true rfl) ?_
  exact lw_ret hx hb hr hlocks dL_law__2762
set_option maxHeartbeats 4000000 in
set_option maxRecDepth 100000 in
theorem law_stand {p : Program} {e : Env} {s : State} {m : MethodId} {below : List Frame} {meth : Method} {c : Code} (l : Launch) (hl : l.stackTraces = false) {b : Nat} {xs : Nat → Int32} {D : va_G} {cy : Nat → ClassId} {sa : Nat → Nat} {A : Nat → Prop} (hAe : A = fun q => s.heap.size ≤ q) (C0 : lw_At p s m meth c b 10 xs) (hG : GC D cy sa s) (hT : TH A s s.heap) (h63 : xs 0 &&& 63 = 24) : W p l e room_1 s m #[Value.ref b] below meth c s.heap [] 0 0 (lw_Z below #[Value.ref b] s) (entryFrame m ([Value.ref b] : List Value).toArray 7) := by
  obtain ⟨hx, hb, hr, hml, hown0, hts0, hX, hbl, hlocks, hgv⟩ := id C0
  have hown : s.vm.findClass RL = some m.cls := hown0
  have hts := hts0
  have hA : ∀ q : Nat, s.heap.size ≤ q → A q := fun q h => by rw [hAe]; exact h
  have hbA : ¬ A b := by rw [hAe]; exact Nat.not_le.mpr hbl
  have hS : va_S A s.heap s.heap [] := va_S.rf
  have hP : va_P D vwCl [] s.heap := fun k q h => by simp at h
  have hD : va_D A [] := ⟨fun i j p q h => by simp at h, fun k q h => by simp at h⟩
  have hl0 := lv_entry ([.ref b]) (n := 7) (Nat.le_of_ble_eq_true rfl)
  rw [lg_entry_eq]
  generalize (lg_sl ([.ref b]) ++ List.replicate (7 - (lg_sl ([.ref b])).length) Slot.unset).toArray = ls at hl0 ⊢
  have hlv : lv_has ls 7 [(0, .ref b)] := hl0
  have cl8 := hts (.classLink RL 8 RX11) lwd_0
  have in11 := hts (.instantiable RX11 14) lwd_1
  have ini11 := hts (.initialized RX11) lwd_2
  have ini_RX11 := hts (.initialized RX11) lwd_2
  have ml117 := hts (.methodLink RL 117 yX11_init) lwd_3
  have im_X11_init := hts (.instanceMethod yX11_init) lwd_4
  have cl118 := hts (.classLink RL 118 RX12) lwd_5
  have in12 := hts (.instantiable RX12 38) lwd_6
  have ini12 := hts (.initialized RX12) lwd_7
  have ini_RX12 := hts (.initialized RX12) lwd_7
  have ml120 := hts (.methodLink RL 120 yX12_init) lwd_8
  have im_X12_init := hts (.instanceMethod yX12_init) lwd_9
  have ac2 := hts (.arrayClass .long) lwd_10
  refine va_new (ci := 11) (fs := [.null, .null, .null, .int 0, .int 0, .null, .null, .null, .null, .null, .int 0, .null, .null, .null]) (C := RX11) (T := TX11) (N := 14) hx hb hts inX11 tyX11 tyX11_ok hown cl8 in11 ini11 hG.1 hP hD hS hA rfl (by decide) (Nat.le_of_ble_eq_true rfl) (Nat.le_of_ble_eq_true rfl) dL_law__0 (fun q_1 H hP hD hS => ?_)
  have hP : va_P D vwCl [(q_1, .inr (11, [.null, .null, .null, .int 0, .int 0, .null, .null, .null, .null, .null, .int 0, .null, .null, .null]))] H := hP
  have hD : va_D A [(q_1, .inr (11, [.null, .null, .null, .int 0, .int 0, .null, .null, .null, .null, .null, .int 0, .null, .null, .null]))] := hD
  refine lv_dup hx hb dL_law__3 rfl ?_
  refine cj_v (wr := []) (va_runI (As := []) (rest := [.ref q_1]) ⟨hx, hb, hml, hown, hts⟩ (c_K_stand l hl D cy sa q_1 H.size) (cwI 0 hts gl_X11_init rfl rfl rfl ini_RX11 ml117 im_X11_init rfl (by decide +kernel) ⟨Nat.le_of_ble_eq_true rfl, Nat.le_of_ble_eq_true rfl⟩) ⟨pcW.blind, (pcW.mk hP hD hS hA hG hT [0] rfl (by decide))⟩ rfl rfl hlv.1 rfl (lv_room (Nat.le_of_ble_eq_true rfl)) dL_law__4 ⟨Nat.le_of_ble_eq_true rfl, Nat.le_of_ble_eq_true rfl⟩) hP hD hS hA [0] [] rfl rfl (by decide) (by decide) (fun u1 H locs hw1 hP hD hS => ?_)
  have hP : va_P D vwCl [(q_1, .inr (11, [.ref (u1.1 0), .ref (u1.1 1), .ref (u1.1 2), .int 0, .int 0, .ref (u1.1 5), .ref (u1.1 6), .ref (u1.1 7), .ref (u1.1 8), .ref (u1.1 9), .int 0, .ref (u1.1 11), .ref (u1.1 12), .ref (u1.1 13)])), ((u1.1 13), .inl (cy 0, 4, .inl (fun _ => 0)))] H := hP
  have hD : va_D A [(q_1, .inr (11, [.ref (u1.1 0), .ref (u1.1 1), .ref (u1.1 2), .int 0, .int 0, .ref (u1.1 5), .ref (u1.1 6), .ref (u1.1 7), .ref (u1.1 8), .ref (u1.1 9), .int 0, .ref (u1.1 11), .ref (u1.1 12), .ref (u1.1 13)])), ((u1.1 13), .inl (cy 0, 4, .inl (fun _ => 0)))] := hD
  refine lv_astore_n (lv' := [(1, .ref q_1), (0, .ref b)]) hx hb dL_law__7 rfl hlv (by decide) rfl (fun ls hlv => ?_)
  refine va_new (ci := 12) (fs := [.int 0, .null, .int 0, .int 0, .int 0, .int 0, .int 0, .int 0, .int 0, .null, .null, .null, .null, .null, .null, .null, .int 0, .int 0, .int 0, .null, .null, .null, .int 0, .null, .null, .null, .null, .null, .null, .int 0, .int 0, .int 0, .int 0, .null, .int 0, .null, .int 0, .int 0]) (C := RX12) (T := TX12) (N := 38) hx hb hts inX12 tyX12 tyX12_ok hown cl118 in12 ini12 hG.1 hP hD hS hA rfl (by decide) (Nat.le_of_ble_eq_true rfl) (Nat.le_of_ble_eq_true rfl) dL_law__8 (fun q_2 H hP hD hS => ?_)
  have hP : va_P D vwCl [(q_1, .inr (11, [.ref (u1.1 0), .ref (u1.1 1), .ref (u1.1 2), .int 0, .int 0, .ref (u1.1 5), .ref (u1.1 6), .ref (u1.1 7), .ref (u1.1 8), .ref (u1.1 9), .int 0, .ref (u1.1 11), .ref (u1.1 12), .ref (u1.1 13)])), ((u1.1 13), .inl (cy 0, 4, .inl (fun _ => 0))), (q_2, .inr (12, [.int 0, .null, .int 0, .int 0, .int 0, .int 0, .int 0, .int 0, .int 0, .null, .null, .null, .null, .null, .null, .null, .int 0, .int 0, .int 0, .null, .null, .null, .int 0, .null, .null, .null, .null, .null, .null, .int 0, .int 0, .int 0, .int 0, .null, .int 0, .null, .int 0, .int 0]))] H := hP
  have hD : va_D A [(q_1, .inr (11, [.ref (u1.1 0), .ref (u1.1 1), .ref (u1.1 2), .int 0, .int 0, .ref (u1.1 5), .ref (u1.1 6), .ref (u1.1 7), .ref (u1.1 8), .ref (u1.1 9), .int 0, .ref (u1.1 11), .ref (u1.1 12), .ref (u1.1 13)])), ((u1.1 13), .inl (cy 0, 4, .inl (fun _ => 0))), (q_2, .inr (12, [.int 0, .null, .int 0, .int 0, .int 0, .int 0, .int 0, .int 0, .int 0, .null, .null, .null, .null, .null, .null, .null, .int 0, .int 0, .int 0, .null, .null, .null, .int 0, .null, .null, .null, .null, .null, .null, .int 0, .int 0, .int 0, .int 0, .null, .int 0, .null, .int 0, .int 0]))] := hD
  refine lv_dup hx hb dL_law__11 rfl ?_
  refine cj_v (wr := [(q_1, .inr (11, [.ref (u1.1 0), .ref (u1.1 1), .ref (u1.1 2), .int 0, .int 0, .ref (u1.1 5), .ref (u1.1 6), .ref (u1.1 7), .ref (u1.1 8), .ref (u1.1 9), .int 0, .ref (u1.1 11), .ref (u1.1 12), .ref (u1.1 13)])), ((u1.1 13), .inl (cy 0, 4, .inl (fun _ => 0)))]) (va_runI (As := []) (rest := [.ref q_2]) ⟨hx, hb, hml, hown, hts⟩ (c_M_stand l hl D cy sa q_2 H.size) (cwI 0 hts gl_X12_init rfl rfl rfl ini_RX12 ml120 im_X12_init rfl (by decide +kernel) ⟨Nat.le_of_ble_eq_true rfl, Nat.le_of_ble_eq_true rfl⟩) ⟨pcW.blind, (pcW.mk hP hD hS hA hG hT [2] rfl (by decide))⟩ rfl rfl hlv.1 rfl (lv_room (Nat.le_of_ble_eq_true rfl)) dL_law__12 ⟨Nat.le_of_ble_eq_true rfl, Nat.le_of_ble_eq_true rfl⟩) hP hD hS hA [2] [0, 1] rfl rfl (by decide) (by decide) (fun u2 H locs hw2 hP hD hS => ?_)
  have hP : va_P D vwCl [(q_1, .inr (11, [.ref (u1.1 0), .ref (u1.1 1), .ref (u1.1 2), .int 0, .int 0, .ref (u1.1 5), .ref (u1.1 6), .ref (u1.1 7), .ref (u1.1 8), .ref (u1.1 9), .int 0, .ref (u1.1 11), .ref (u1.1 12), .ref (u1.1 13)])), ((u1.1 13), .inl (cy 0, 4, .inl (fun _ => 0))), (q_2, .inr (12, [.int 0, .ref (u2.1 1), .int 0, .int 0, .int 0, .int 0, .int 0, .int 0, .int (-1), .ref (u2.1 9), .ref (u2.1 10), .ref (u2.1 11), .ref (u2.1 12), .ref (u2.1 13), .ref (u2.1 14), .ref (u2.1 15), .int 0, .int 0, .int 0, .ref (u2.1 19), .ref (u2.1 20), .ref (u2.1 21), .int 0, .ref (u2.1 23), .ref (u2.1 24), .ref (u2.1 25), .ref (u2.1 26), .ref (u2.1 27), .ref (u2.1 28), .int 0, .int 0, .int 0, .int 0, .ref (u2.1 33), .int (-1), .ref (u2.1 35), .int 0, .int 0])), ((u2.1 1), .inl (cy 0, 4, .inl (fun _ => 0)))] H := hP
  have hD : va_D A [(q_1, .inr (11, [.ref (u1.1 0), .ref (u1.1 1), .ref (u1.1 2), .int 0, .int 0, .ref (u1.1 5), .ref (u1.1 6), .ref (u1.1 7), .ref (u1.1 8), .ref (u1.1 9), .int 0, .ref (u1.1 11), .ref (u1.1 12), .ref (u1.1 13)])), ((u1.1 13), .inl (cy 0, 4, .inl (fun _ => 0))), (q_2, .inr (12, [.int 0, .ref (u2.1 1), .int 0, .int 0, .int 0, .int 0, .int 0, .int 0, .int (-1), .ref (u2.1 9), .ref (u2.1 10), .ref (u2.1 11), .ref (u2.1 12), .ref (u2.1 13), .ref (u2.1 14), .ref (u2.1 15), .int 0, .int 0, .int 0, .ref (u2.1 19), .ref (u2.1 20), .ref (u2.1 21), .int 0, .ref (u2.1 23), .ref (u2.1 24), .ref (u2.1 25), .ref (u2.1 26), .ref (u2.1 27), .ref (u2.1 28), .int 0, .int 0, .int 0, .int 0, .ref (u2.1 33), .int (-1), .ref (u2.1 35), .int 0, .int 0])), ((u2.1 1), .inl (cy 0, 4, .inl (fun _ => 0)))] := hD
  refine lv_astore_n (lv' := [(2, .ref q_2), (1, .ref q_1), (0, .ref b)]) hx hb dL_law__15 rfl hlv (by decide) rfl (fun ls hlv => ?_)
  refine lv_iconst (v := 1) hx hb dL_law__16 (by decide) ?_
  refine nw_a (atype := .long) (cy := cy) (a0 := (1, .inr (.inl (fun _ => 0)))) (N' := 1) hx hb ac2 (ty := .long) rfl 2 rfl (fun C h => nomatch h) hG.1 hP hD hS hA (fun cA => rfl) (by decide) (by decide) (Nat.le_of_ble_eq_true rfl) (Nat.le_of_ble_eq_true rfl) (Nat.le_of_ble_eq_true rfl) dL_law__17 (fun q_3 H hP hD hS => ?_)
  have hP : va_P D vwCl [(q_1, .inr (11, [.ref (u1.1 0), .ref (u1.1 1), .ref (u1.1 2), .int 0, .int 0, .ref (u1.1 5), .ref (u1.1 6), .ref (u1.1 7), .ref (u1.1 8), .ref (u1.1 9), .int 0, .ref (u1.1 11), .ref (u1.1 12), .ref (u1.1 13)])), ((u1.1 13), .inl (cy 0, 4, .inl (fun _ => 0))), (q_2, .inr (12, [.int 0, .ref (u2.1 1), .int 0, .int 0, .int 0, .int 0, .int 0, .int 0, .int (-1), .ref (u2.1 9), .ref (u2.1 10), .ref (u2.1 11), .ref (u2.1 12), .ref (u2.1 13), .ref (u2.1 14), .ref (u2.1 15), .int 0, .int 0, .int 0, .ref (u2.1 19), .ref (u2.1 20), .ref (u2.1 21), .int 0, .ref (u2.1 23), .ref (u2.1 24), .ref (u2.1 25), .ref (u2.1 26), .ref (u2.1 27), .ref (u2.1 28), .int 0, .int 0, .int 0, .int 0, .ref (u2.1 33), .int (-1), .ref (u2.1 35), .int 0, .int 0])), ((u2.1 1), .inl (cy 0, 4, .inl (fun _ => 0))), (q_3, .inl (cy 2, 1, .inr (.inl (fun _ => 0))))] H := hP
  have hD : va_D A [(q_1, .inr (11, [.ref (u1.1 0), .ref (u1.1 1), .ref (u1.1 2), .int 0, .int 0, .ref (u1.1 5), .ref (u1.1 6), .ref (u1.1 7), .ref (u1.1 8), .ref (u1.1 9), .int 0, .ref (u1.1 11), .ref (u1.1 12), .ref (u1.1 13)])), ((u1.1 13), .inl (cy 0, 4, .inl (fun _ => 0))), (q_2, .inr (12, [.int 0, .ref (u2.1 1), .int 0, .int 0, .int 0, .int 0, .int 0, .int 0, .int (-1), .ref (u2.1 9), .ref (u2.1 10), .ref (u2.1 11), .ref (u2.1 12), .ref (u2.1 13), .ref (u2.1 14), .ref (u2.1 15), .int 0, .int 0, .int 0, .ref (u2.1 19), .ref (u2.1 20), .ref (u2.1 21), .int 0, .ref (u2.1 23), .ref (u2.1 24), .ref (u2.1 25), .ref (u2.1 26), .ref (u2.1 27), .ref (u2.1 28), .int 0, .int 0, .int 0, .int 0, .ref (u2.1 33), .int (-1), .ref (u2.1 35), .int 0, .int 0])), ((u2.1 1), .inl (cy 0, 4, .inl (fun _ => 0))), (q_3, .inl (cy 2, 1, .inr (.inl (fun _ => 0))))] := hD
  refine lv_astore_n (lv' := [(3, .ref q_3), (2, .ref q_2), (1, .ref q_1), (0, .ref b)]) hx hb dL_law__19 rfl hlv (by decide) rfl (fun ls hlv => ?_)
  refine lv_iconst (v := 0) hx hb dL_law__20 (by decide) ?_
  refine lv_istore (lv' := [(4, .int 0), (3, .ref q_3), (2, .ref q_2), (1, .ref q_1), (0, .ref b)]) hx hb dL_law__21 hlv (by decide) rfl (fun ls hlv => ?_)
  refine lv_iload hx hb dL_law__23 (lv_at hlv 0 rfl) ?_
  refine lv_aload_n hx hb dL_law__25 rfl (lv_at hlv 4 rfl) ?_
  refine va_slen hx hb hX hbl hbA hS dL_law__26 ?_
  refine lt_i (y := 10) (by decide) ?_
  refine lv_bipush (v := 10) hx hb dL_law__27 (by decide) ?_
  refine lv_isub hx hb dL_law__29 ?_
  refine lt_i (y := 0) (by decide) ?_
  refine lv_icmp_gt (tgt := 2761) hx hb dL_law__30 (by decide) (fun c => absurd c (by decide)) (fun _ => ?_)
  refine lv_aload_n hx hb dL_law__33 rfl (lv_at hlv 4 rfl) ?_
  refine lv_iload hx hb dL_law__34 (lv_at hlv 0 rfl) ?_
  refine va_sld hx hb hX hbl hbA hS (vpd (by decide)) dL_law__36 ?_
  refine lt_i (y := xs 0) rfl ?_
  refine lv_bipush (v := 63) hx hb dL_law__37 (by decide) ?_
  refine lv_iand hx hb dL_law__39 ?_
  refine lt_i (y := 24) h63 ?_
  refine lv_tableIn (tgt := 1875) hx hb dL_law__40 (by decide) (by decide) rfl (by decide) ?_
  refine lv_aload_n hx hb dL_law__1875 rfl (lv_at hlv 3 rfl) ?_
  refine lv_aload_n hx hb dL_law__1876 rfl (lv_at hlv 4 rfl) ?_
  refine lv_iload hx hb dL_law__1877 (lv_at hlv 0 rfl) ?_
  refine lv_iconst (v := 1) hx hb dL_law__1879 (by decide) ?_
  refine lv_iadd hx hb dL_law__1880 ?_
  refine lt_i (y := 1) (by decide) ?_
  refine va_sld hx hb hX hbl hbA hS (vpd (by decide)) dL_law__1881 ?_
  refine lt_i (y := xs 1) rfl ?_
  refine lv_aload_n hx hb dL_law__1882 rfl (lv_at hlv 4 rfl) ?_
  refine lv_iload hx hb dL_law__1883 (lv_at hlv 0 rfl) ?_
  refine lv_iconst (v := 2) hx hb dL_law__1885 (by decide) ?_
  refine lv_iadd hx hb dL_law__1886 ?_
  refine lt_i (y := 2) (by decide) ?_
  refine va_sld hx hb hX hbl hbA hS (vpd (by decide)) dL_law__1887 ?_
  refine lt_i (y := xs 2) rfl ?_
  refine lv_aload_n hx hb dL_law__1888 rfl (lv_at hlv 4 rfl) ?_
  refine lv_iload hx hb dL_law__1889 (lv_at hlv 0 rfl) ?_
  refine lv_iconst (v := 3) hx hb dL_law__1891 (by decide) ?_
  refine lv_iadd hx hb dL_law__1892 ?_
  refine lt_i (y := 3) (by decide) ?_
  refine va_sld hx hb hX hbl hbA hS (vpd (by decide)) dL_law__1893 ?_
  refine lt_i (y := xs 3) rfl ?_
  refine lv_aload_n hx hb dL_law__1894 rfl (lv_at hlv 1 rfl) ?_
  refine cj_i (wr := [(q_2, .inr (12, [.int 0, .ref (u2.1 1), .int 0, .int 0, .int 0, .int 0, .int 0, .int 0, .int (-1), .ref (u2.1 9), .ref (u2.1 10), .ref (u2.1 11), .ref (u2.1 12), .ref (u2.1 13), .ref (u2.1 14), .ref (u2.1 15), .int 0, .int 0, .int 0, .ref (u2.1 19), .ref (u2.1 20), .ref (u2.1 21), .int 0, .ref (u2.1 23), .ref (u2.1 24), .ref (u2.1 25), .ref (u2.1 26), .ref (u2.1 27), .ref (u2.1 28), .int 0, .int 0, .int 0, .int 0, .ref (u2.1 33), .int (-1), .ref (u2.1 35), .int 0, .int 0])), ((u2.1 1), .inl (cy 0, 4, .inl (fun _ => 0)))]) (vx_runSW (As := [.ref q_1, .int (xs 1), .int (xs 2), .int (xs 3), .ref q_3]) (rest := []) ⟨hx, hb, hml, hown, hts⟩ (w_stand l hl D cy sa q_1 u1.1 (xs 1) (xs 2) (xs 3) q_3 H.size) (vx_cwSW 5 hts gl_w_stand rfl rfl rfl (by decide +kernel) ⟨Nat.le_of_ble_eq_true rfl, Nat.le_of_ble_eq_true rfl⟩) ⟨pcW.blind, (pcW.mk hP hD hS hA hG hT [0, 1, 4] rfl (by decide))⟩ rfl rfl hlv.1 rfl (lv_room (Nat.le_of_ble_eq_true rfl)) dL_law__1895 ⟨Nat.le_of_ble_eq_true rfl, Nat.le_of_ble_eq_true rfl⟩) hP hD hS hA [0, 1, 4] [2, 3] rfl rfl (by decide) (by decide) (fun r3 u3 H locs hw3 hP hD hS => ?_)
  obtain rfl := hw3
  have hP : va_P D vwCl [(q_2, .inr (12, [.int 0, .ref (u2.1 1), .int 0, .int 0, .int 0, .int 0, .int 0, .int 0, .int (-1), .ref (u2.1 9), .ref (u2.1 10), .ref (u2.1 11), .ref (u2.1 12), .ref (u2.1 13), .ref (u2.1 14), .ref (u2.1 15), .int 0, .int 0, .int 0, .ref (u2.1 19), .ref (u2.1 20), .ref (u2.1 21), .int 0, .ref (u2.1 23), .ref (u2.1 24), .ref (u2.1 25), .ref (u2.1 26), .ref (u2.1 27), .ref (u2.1 28), .int 0, .int 0, .int 0, .int 0, .ref (u2.1 33), .int (-1), .ref (u2.1 35), .int 0, .int 0])), ((u2.1 1), .inl (cy 0, 4, .inl (fun _ => 0))), (q_3, .inl (cy 2, 1, .inr (.inl (fun _ => (u3.2.1 0 : Int32).toInt64))))] H := hP
  have hD : va_D A [(q_2, .inr (12, [.int 0, .ref (u2.1 1), .int 0, .int 0, .int 0, .int 0, .int 0, .int 0, .int (-1), .ref (u2.1 9), .ref (u2.1 10), .ref (u2.1 11), .ref (u2.1 12), .ref (u2.1 13), .ref (u2.1 14), .ref (u2.1 15), .int 0, .int 0, .int 0, .ref (u2.1 19), .ref (u2.1 20), .ref (u2.1 21), .int 0, .ref (u2.1 23), .ref (u2.1 24), .ref (u2.1 25), .ref (u2.1 26), .ref (u2.1 27), .ref (u2.1 28), .int 0, .int 0, .int 0, .int 0, .ref (u2.1 33), .int (-1), .ref (u2.1 35), .int 0, .int 0])), ((u2.1 1), .inl (cy 0, 4, .inl (fun _ => 0))), (q_3, .inl (cy 2, 1, .inr (.inl (fun _ => (u3.2.1 0 : Int32).toInt64))))] := hD
  refine lv_istore (lv' := [(5, .int 1), (4, .int 0), (3, .ref q_3), (2, .ref q_2), (1, .ref q_1), (0, .ref b)]) hx hb dL_law__1898 hlv (by decide) rfl (fun ls hlv => ?_)
  refine lv_aload_n hx hb dL_law__1900 rfl (lv_at hlv 3 rfl) ?_
  refine lv_aload_n hx hb dL_law__1901 rfl (lv_at hlv 5 rfl) ?_
  refine lv_iload hx hb dL_law__1902 (lv_at hlv 1 rfl) ?_
  refine lv_iconst (v := 1) hx hb dL_law__1904 (by decide) ?_
  refine lv_iadd hx hb dL_law__1905 ?_
  refine lt_i (y := 1) (by decide) ?_
  refine va_sld hx hb hX hbl hbA hS (vpd (by decide)) dL_law__1906 ?_
  refine lt_i (y := xs 1) rfl ?_
  refine lv_aload_n hx hb dL_law__1907 rfl (lv_at hlv 5 rfl) ?_
  refine lv_iload hx hb dL_law__1908 (lv_at hlv 1 rfl) ?_
  refine lv_iconst (v := 2) hx hb dL_law__1910 (by decide) ?_
  refine lv_iadd hx hb dL_law__1911 ?_
  refine lt_i (y := 2) (by decide) ?_
  refine va_sld hx hb hX hbl hbA hS (vpd (by decide)) dL_law__1912 ?_
  refine lt_i (y := xs 2) rfl ?_
  refine lv_aload_n hx hb dL_law__1913 rfl (lv_at hlv 5 rfl) ?_
  refine lv_iload hx hb dL_law__1914 (lv_at hlv 1 rfl) ?_
  refine lv_iconst (v := 3) hx hb dL_law__1916 (by decide) ?_
  refine lv_iadd hx hb dL_law__1917 ?_
  refine lt_i (y := 3) (by decide) ?_
  refine va_sld hx hb hX hbl hbA hS (vpd (by decide)) dL_law__1918 ?_
  refine lt_i (y := xs 3) rfl ?_
  refine cj_i (wr := [(q_3, .inl (cy 2, 1, .inr (.inl (fun _ => (u3.2.1 0 : Int32).toInt64))))]) (va_runV (As := [.int (xs 1), .int (xs 2), .int (xs 3)]) (rest := []) ⟨hx, hb, hml, hown, hts⟩ (m_stand l hl D cy sa q_2 u2.1 (xs 1) (xs 2) (xs 3) H.size) (cwV 3 hts gl_m_stand rfl rfl rfl (by decide +kernel) ⟨Nat.le_of_ble_eq_true rfl, Nat.le_of_ble_eq_true rfl⟩) ⟨pcW.blind, (va_recv hG.1 hP (ci := 12) (q0 := 0) rfl rfl), (pcW.mk hP hD hS hA hG hT [0, 1] rfl (by decide))⟩ rfl rfl hlv.1 rfl (lv_room (Nat.le_of_ble_eq_true rfl)) dL_law__1919 ⟨Nat.le_of_ble_eq_true rfl, Nat.le_of_ble_eq_true rfl⟩) hP hD hS hA [0, 1] [2] rfl rfl (by decide) (by decide) (fun r4 u4 H locs hw4 hP hD hS => ?_)
  obtain rfl := hw4
  have hP : va_P D vwCl [(q_3, .inl (cy 2, 1, .inr (.inl (fun _ => (u3.2.1 0 : Int32).toInt64)))), (q_2, .inr (12, [.int 1, .ref (u2.1 1), .int 0, .int 0, .int 0, .int 0, .int 0, .int 0, .int (-1), .ref (u2.1 9), .ref (u2.1 10), .ref (u2.1 11), .ref (u2.1 12), .ref (u2.1 13), .ref (u2.1 14), .ref (u2.1 15), .int 0, .int 0, .int 0, .ref (u2.1 19), .ref (u2.1 20), .ref (u2.1 21), .int 0, .ref (u2.1 23), .ref (u2.1 24), .ref (u2.1 25), .ref (u2.1 26), .ref (u2.1 27), .ref (u2.1 28), .int 0, .int 0, .int 0, .int 0, .ref (u2.1 33), .int (-1), .ref (u2.1 35), .int 0, .int 0]))] H := hP
  have hD : va_D A [(q_3, .inl (cy 2, 1, .inr (.inl (fun _ => (u3.2.1 0 : Int32).toInt64)))), (q_2, .inr (12, [.int 1, .ref (u2.1 1), .int 0, .int 0, .int 0, .int 0, .int 0, .int 0, .int (-1), .ref (u2.1 9), .ref (u2.1 10), .ref (u2.1 11), .ref (u2.1 12), .ref (u2.1 13), .ref (u2.1 14), .ref (u2.1 15), .int 0, .int 0, .int 0, .ref (u2.1 19), .ref (u2.1 20), .ref (u2.1 21), .int 0, .ref (u2.1 23), .ref (u2.1 24), .ref (u2.1 25), .ref (u2.1 26), .ref (u2.1 27), .ref (u2.1 28), .int 0, .int 0, .int 0, .int 0, .ref (u2.1 33), .int (-1), .ref (u2.1 35), .int 0, .int 0]))] := hD
  refine lv_istore (lv' := [(6, .int 0), (5, .int 1), (4, .int 0), (3, .ref q_3), (2, .ref q_2), (1, .ref q_1), (0, .ref b)]) hx hb dL_law__1922 hlv (by decide) rfl (fun ls hlv => ?_)
  refine lv_aload_n hx hb dL_law__1924 rfl (lv_at hlv 4 rfl) ?_
  refine cj_i (wr := [(q_3, .inl (cy 2, 1, .inr (.inl (fun _ => (u3.2.1 0 : Int32).toInt64))))]) (va_runV (As := []) (rest := []) ⟨hx, hb, hml, hown, hts⟩ (c_thrown l hl D cy sa q_2 u2.1 1 0 0 0 0 0 0 (-1) 0 0 0 0 0 0 0 0 (-1) 0 0 H.size) (cwV 0 hts gl_c_thrown rfl rfl rfl (by decide +kernel) ⟨Nat.le_of_ble_eq_true rfl, Nat.le_of_ble_eq_true rfl⟩) ⟨pcW.blind, (va_recv hG.1 hP (ci := 12) (q0 := 1) rfl rfl), (pcW.mk hP hD hS hA hG hT [1] rfl (by decide))⟩ rfl rfl hlv.1 rfl (lv_room (Nat.le_of_ble_eq_true rfl)) dL_law__1925 ⟨Nat.le_of_ble_eq_true rfl, Nat.le_of_ble_eq_true rfl⟩) hP hD hS hA [1] [0] rfl rfl (by decide) (by decide) (fun r5 u5 H locs hw5 hP hD hS => ?_)
  obtain rfl := hw5
  have hP : va_P D vwCl [(q_3, .inl (cy 2, 1, .inr (.inl (fun _ => (u3.2.1 0 : Int32).toInt64))))] H := hP
  have hD : va_D A [(q_3, .inl (cy 2, 1, .inr (.inl (fun _ => (u3.2.1 0 : Int32).toInt64))))] := hD
  refine lv_iload hx hb dL_law__1928 (lv_at hlv 1 rfl) ?_
  refine lv_icmp_eq (tgt := 1935) hx hb dL_law__1930 (by decide) (fun _ => ?_) (fun c => absurd (by decide) c)
  refine lv_iload hx hb dL_law__1935 (lv_at hlv 1 rfl) ?_
  refine lv_if_ne (tgt := 1952) hx hb dL_law__1937 (by decide) (fun _ => ?_) (fun c => absurd c (by decide))
  refine lv_goto (tgt := 2755) hx hb dL_law__1952 (by decide) ?_
  refine lv_iinc (v := 10) (lv' := [(4, .int 10), (6, .int 0), (5, .int 1), (3, .ref q_3), (2, .ref q_2), (1, .ref q_1), (0, .ref b)]) hx hb dL_law__2755 hlv (k := 2) rfl (by decide) (by decide) rfl (fun ls hlv => ?_)
  refine lv_goto (tgt := 23) hx hb dL_law__2758 (by decide) ?_
  refine lv_iload hx hb dL_law__23 (lv_at hlv 0 rfl) ?_
  refine lv_aload_n hx hb dL_law__25 rfl (lv_at hlv 6 rfl) ?_
  refine va_slen hx hb hX hbl hbA hS dL_law__26 ?_
  refine lt_i (y := 10) (by decide) ?_
  refine lv_bipush (v := 10) hx hb dL_law__27 (by decide) ?_
  refine lv_isub hx hb dL_law__29 ?_
  refine lt_i (y := 0) (by decide) ?_
  refine lv_icmp_gt (tgt := 2761) hx hb dL_law__30 (by decide) (fun _ => ?_) (fun c => absurd (by decide) c)
  refine lv_iconst (v := 1) hx hb dL_law__2761 (by decide) ?_
  refine va_forget (fun q hq => by have h9 := hS.2.2 q hq; rw [hAe] at h9; exact h9) ?_
  refine W.widen (k := 600002) (n := 7302232) (Nat.le_of_ble_eq_true rfl) (Nat.le_of_ble_eq_true rfl) ?_
  exact lw_ret hx hb hr hlocks dL_law__2762
set_option maxHeartbeats 4000000 in
set_option maxRecDepth 100000 in
theorem law_pace {p : Program} {e : Env} {s : State} {m : MethodId} {below : List Frame} {meth : Method} {c : Code} (l : Launch) (hl : l.stackTraces = false) {b : Nat} {xs : Nat → Int32} {D : va_G} {cy : Nat → ClassId} {sa : Nat → Nat} {A : Nat → Prop} (hAe : A = fun q => s.heap.size ≤ q) (C0 : lw_At p s m meth c b 10 xs) (hG : GC D cy sa s) (hT : TH A s s.heap) (h63 : xs 0 &&& 63 = 25) : W p l e room_1 s m #[Value.ref b] below meth c s.heap [] 0 0 (lw_Z below #[Value.ref b] s) (entryFrame m ([Value.ref b] : List Value).toArray 7) := by
  obtain ⟨hx, hb, hr, hml, hown0, hts0, hX, hbl, hlocks, hgv⟩ := id C0
  have hown : s.vm.findClass RL = some m.cls := hown0
  have hts := hts0
  have hA : ∀ q : Nat, s.heap.size ≤ q → A q := fun q h => by rw [hAe]; exact h
  have hbA : ¬ A b := by rw [hAe]; exact Nat.not_le.mpr hbl
  have hS : va_S A s.heap s.heap [] := va_S.rf
  have hP : va_P D vwCl [] s.heap := fun k q h => by simp at h
  have hD : va_D A [] := ⟨fun i j p q h => by simp at h, fun k q h => by simp at h⟩
  have hl0 := lv_entry ([.ref b]) (n := 7) (Nat.le_of_ble_eq_true rfl)
  rw [lg_entry_eq]
  generalize (lg_sl ([.ref b]) ++ List.replicate (7 - (lg_sl ([.ref b])).length) Slot.unset).toArray = ls at hl0 ⊢
  have hlv : lv_has ls 7 [(0, .ref b)] := hl0
  have cl8 := hts (.classLink RL 8 RX11) lwd_0
  have in11 := hts (.instantiable RX11 14) lwd_1
  have ini11 := hts (.initialized RX11) lwd_2
  have ini_RX11 := hts (.initialized RX11) lwd_2
  have ml117 := hts (.methodLink RL 117 yX11_init) lwd_3
  have im_X11_init := hts (.instanceMethod yX11_init) lwd_4
  have cl118 := hts (.classLink RL 118 RX12) lwd_5
  have in12 := hts (.instantiable RX12 38) lwd_6
  have ini12 := hts (.initialized RX12) lwd_7
  have ini_RX12 := hts (.initialized RX12) lwd_7
  have ml120 := hts (.methodLink RL 120 yX12_init) lwd_8
  have im_X12_init := hts (.instanceMethod yX12_init) lwd_9
  have ac2 := hts (.arrayClass .long) lwd_10
  refine va_new (ci := 11) (fs := [.null, .null, .null, .int 0, .int 0, .null, .null, .null, .null, .null, .int 0, .null, .null, .null]) (C := RX11) (T := TX11) (N := 14) hx hb hts inX11 tyX11 tyX11_ok hown cl8 in11 ini11 hG.1 hP hD hS hA rfl (by decide) (Nat.le_of_ble_eq_true rfl) (Nat.le_of_ble_eq_true rfl) dL_law__0 (fun q_1 H hP hD hS => ?_)
  have hP : va_P D vwCl [(q_1, .inr (11, [.null, .null, .null, .int 0, .int 0, .null, .null, .null, .null, .null, .int 0, .null, .null, .null]))] H := hP
  have hD : va_D A [(q_1, .inr (11, [.null, .null, .null, .int 0, .int 0, .null, .null, .null, .null, .null, .int 0, .null, .null, .null]))] := hD
  refine lv_dup hx hb dL_law__3 rfl ?_
  refine cj_v (wr := []) (va_runI (As := []) (rest := [.ref q_1]) ⟨hx, hb, hml, hown, hts⟩ (c_K_pace l hl D cy sa q_1 H.size) (cwI 0 hts gl_X11_init rfl rfl rfl ini_RX11 ml117 im_X11_init rfl (by decide +kernel) ⟨Nat.le_of_ble_eq_true rfl, Nat.le_of_ble_eq_true rfl⟩) ⟨pcW.blind, (pcW.mk hP hD hS hA hG hT [0] rfl (by decide))⟩ rfl rfl hlv.1 rfl (lv_room (Nat.le_of_ble_eq_true rfl)) dL_law__4 ⟨Nat.le_of_ble_eq_true rfl, Nat.le_of_ble_eq_true rfl⟩) hP hD hS hA [0] [] rfl rfl (by decide) (by decide) (fun u1 H locs hw1 hP hD hS => ?_)
  have hP : va_P D vwCl [(q_1, .inr (11, [.ref (u1.1 0), .ref (u1.1 1), .ref (u1.1 2), .int 0, .int 0, .ref (u1.1 5), .ref (u1.1 6), .ref (u1.1 7), .ref (u1.1 8), .ref (u1.1 9), .int 0, .ref (u1.1 11), .ref (u1.1 12), .ref (u1.1 13)])), ((u1.1 13), .inl (cy 0, 4, .inl (fun _ => 0)))] H := hP
  have hD : va_D A [(q_1, .inr (11, [.ref (u1.1 0), .ref (u1.1 1), .ref (u1.1 2), .int 0, .int 0, .ref (u1.1 5), .ref (u1.1 6), .ref (u1.1 7), .ref (u1.1 8), .ref (u1.1 9), .int 0, .ref (u1.1 11), .ref (u1.1 12), .ref (u1.1 13)])), ((u1.1 13), .inl (cy 0, 4, .inl (fun _ => 0)))] := hD
  refine lv_astore_n (lv' := [(1, .ref q_1), (0, .ref b)]) hx hb dL_law__7 rfl hlv (by decide) rfl (fun ls hlv => ?_)
  refine va_new (ci := 12) (fs := [.int 0, .null, .int 0, .int 0, .int 0, .int 0, .int 0, .int 0, .int 0, .null, .null, .null, .null, .null, .null, .null, .int 0, .int 0, .int 0, .null, .null, .null, .int 0, .null, .null, .null, .null, .null, .null, .int 0, .int 0, .int 0, .int 0, .null, .int 0, .null, .int 0, .int 0]) (C := RX12) (T := TX12) (N := 38) hx hb hts inX12 tyX12 tyX12_ok hown cl118 in12 ini12 hG.1 hP hD hS hA rfl (by decide) (Nat.le_of_ble_eq_true rfl) (Nat.le_of_ble_eq_true rfl) dL_law__8 (fun q_2 H hP hD hS => ?_)
  have hP : va_P D vwCl [(q_1, .inr (11, [.ref (u1.1 0), .ref (u1.1 1), .ref (u1.1 2), .int 0, .int 0, .ref (u1.1 5), .ref (u1.1 6), .ref (u1.1 7), .ref (u1.1 8), .ref (u1.1 9), .int 0, .ref (u1.1 11), .ref (u1.1 12), .ref (u1.1 13)])), ((u1.1 13), .inl (cy 0, 4, .inl (fun _ => 0))), (q_2, .inr (12, [.int 0, .null, .int 0, .int 0, .int 0, .int 0, .int 0, .int 0, .int 0, .null, .null, .null, .null, .null, .null, .null, .int 0, .int 0, .int 0, .null, .null, .null, .int 0, .null, .null, .null, .null, .null, .null, .int 0, .int 0, .int 0, .int 0, .null, .int 0, .null, .int 0, .int 0]))] H := hP
  have hD : va_D A [(q_1, .inr (11, [.ref (u1.1 0), .ref (u1.1 1), .ref (u1.1 2), .int 0, .int 0, .ref (u1.1 5), .ref (u1.1 6), .ref (u1.1 7), .ref (u1.1 8), .ref (u1.1 9), .int 0, .ref (u1.1 11), .ref (u1.1 12), .ref (u1.1 13)])), ((u1.1 13), .inl (cy 0, 4, .inl (fun _ => 0))), (q_2, .inr (12, [.int 0, .null, .int 0, .int 0, .int 0, .int 0, .int 0, .int 0, .int 0, .null, .null, .null, .null, .null, .null, .null, .int 0, .int 0, .int 0, .null, .null, .null, .int 0, .null, .null, .null, .null, .null, .null, .int 0, .int 0, .int 0, .int 0, .null, .int 0, .null, .int 0, .int 0]))] := hD
  refine lv_dup hx hb dL_law__11 rfl ?_
  refine cj_v (wr := [(q_1, .inr (11, [.ref (u1.1 0), .ref (u1.1 1), .ref (u1.1 2), .int 0, .int 0, .ref (u1.1 5), .ref (u1.1 6), .ref (u1.1 7), .ref (u1.1 8), .ref (u1.1 9), .int 0, .ref (u1.1 11), .ref (u1.1 12), .ref (u1.1 13)])), ((u1.1 13), .inl (cy 0, 4, .inl (fun _ => 0)))]) (va_runI (As := []) (rest := [.ref q_2]) ⟨hx, hb, hml, hown, hts⟩ (c_M_pace l hl D cy sa q_2 H.size) (cwI 0 hts gl_X12_init rfl rfl rfl ini_RX12 ml120 im_X12_init rfl (by decide +kernel) ⟨Nat.le_of_ble_eq_true rfl, Nat.le_of_ble_eq_true rfl⟩) ⟨pcW.blind, (pcW.mk hP hD hS hA hG hT [2] rfl (by decide))⟩ rfl rfl hlv.1 rfl (lv_room (Nat.le_of_ble_eq_true rfl)) dL_law__12 ⟨Nat.le_of_ble_eq_true rfl, Nat.le_of_ble_eq_true rfl⟩) hP hD hS hA [2] [0, 1] rfl rfl (by decide) (by decide) (fun u2 H locs hw2 hP hD hS => ?_)
  have hP : va_P D vwCl [(q_1, .inr (11, [.ref (u1.1 0), .ref (u1.1 1), .ref (u1.1 2), .int 0, .int 0, .ref (u1.1 5), .ref (u1.1 6), .ref (u1.1 7), .ref (u1.1 8), .ref (u1.1 9), .int 0, .ref (u1.1 11), .ref (u1.1 12), .ref (u1.1 13)])), ((u1.1 13), .inl (cy 0, 4, .inl (fun _ => 0))), (q_2, .inr (12, [.int 0, .ref (u2.1 1), .int 0, .int 0, .int 0, .int 0, .int 0, .int 0, .int (-1), .ref (u2.1 9), .ref (u2.1 10), .ref (u2.1 11), .ref (u2.1 12), .ref (u2.1 13), .ref (u2.1 14), .ref (u2.1 15), .int 0, .int 0, .int 0, .ref (u2.1 19), .ref (u2.1 20), .ref (u2.1 21), .int 0, .ref (u2.1 23), .ref (u2.1 24), .ref (u2.1 25), .ref (u2.1 26), .ref (u2.1 27), .ref (u2.1 28), .int 0, .int 0, .int 0, .int 0, .ref (u2.1 33), .int (-1), .ref (u2.1 35), .int 0, .int 0])), ((u2.1 1), .inl (cy 0, 4, .inl (fun _ => 0)))] H := hP
  have hD : va_D A [(q_1, .inr (11, [.ref (u1.1 0), .ref (u1.1 1), .ref (u1.1 2), .int 0, .int 0, .ref (u1.1 5), .ref (u1.1 6), .ref (u1.1 7), .ref (u1.1 8), .ref (u1.1 9), .int 0, .ref (u1.1 11), .ref (u1.1 12), .ref (u1.1 13)])), ((u1.1 13), .inl (cy 0, 4, .inl (fun _ => 0))), (q_2, .inr (12, [.int 0, .ref (u2.1 1), .int 0, .int 0, .int 0, .int 0, .int 0, .int 0, .int (-1), .ref (u2.1 9), .ref (u2.1 10), .ref (u2.1 11), .ref (u2.1 12), .ref (u2.1 13), .ref (u2.1 14), .ref (u2.1 15), .int 0, .int 0, .int 0, .ref (u2.1 19), .ref (u2.1 20), .ref (u2.1 21), .int 0, .ref (u2.1 23), .ref (u2.1 24), .ref (u2.1 25), .ref (u2.1 26), .ref (u2.1 27), .ref (u2.1 28), .int 0, .int 0, .int 0, .int 0, .ref (u2.1 33), .int (-1), .ref (u2.1 35), .int 0, .int 0])), ((u2.1 1), .inl (cy 0, 4, .inl (fun _ => 0)))] := hD
  refine lv_astore_n (lv' := [(2, .ref q_2), (1, .ref q_1), (0, .ref b)]) hx hb dL_law__15 rfl hlv (by decide) rfl (fun ls hlv => ?_)
  refine lv_iconst (v := 1) hx hb dL_law__16 (by decide) ?_
  refine nw_a (atype := .long) (cy := cy) (a0 := (1, .inr (.inl (fun _ => 0)))) (N' := 1) hx hb ac2 (ty := .long) rfl 2 rfl (fun C h => nomatch h) hG.1 hP hD hS hA (fun cA => rfl) (by decide) (by decide) (Nat.le_of_ble_eq_true rfl) (Nat.le_of_ble_eq_true rfl) (Nat.le_of_ble_eq_true rfl) dL_law__17 (fun q_3 H hP hD hS => ?_)
  have hP : va_P D vwCl [(q_1, .inr (11, [.ref (u1.1 0), .ref (u1.1 1), .ref (u1.1 2), .int 0, .int 0, .ref (u1.1 5), .ref (u1.1 6), .ref (u1.1 7), .ref (u1.1 8), .ref (u1.1 9), .int 0, .ref (u1.1 11), .ref (u1.1 12), .ref (u1.1 13)])), ((u1.1 13), .inl (cy 0, 4, .inl (fun _ => 0))), (q_2, .inr (12, [.int 0, .ref (u2.1 1), .int 0, .int 0, .int 0, .int 0, .int 0, .int 0, .int (-1), .ref (u2.1 9), .ref (u2.1 10), .ref (u2.1 11), .ref (u2.1 12), .ref (u2.1 13), .ref (u2.1 14), .ref (u2.1 15), .int 0, .int 0, .int 0, .ref (u2.1 19), .ref (u2.1 20), .ref (u2.1 21), .int 0, .ref (u2.1 23), .ref (u2.1 24), .ref (u2.1 25), .ref (u2.1 26), .ref (u2.1 27), .ref (u2.1 28), .int 0, .int 0, .int 0, .int 0, .ref (u2.1 33), .int (-1), .ref (u2.1 35), .int 0, .int 0])), ((u2.1 1), .inl (cy 0, 4, .inl (fun _ => 0))), (q_3, .inl (cy 2, 1, .inr (.inl (fun _ => 0))))] H := hP
  have hD : va_D A [(q_1, .inr (11, [.ref (u1.1 0), .ref (u1.1 1), .ref (u1.1 2), .int 0, .int 0, .ref (u1.1 5), .ref (u1.1 6), .ref (u1.1 7), .ref (u1.1 8), .ref (u1.1 9), .int 0, .ref (u1.1 11), .ref (u1.1 12), .ref (u1.1 13)])), ((u1.1 13), .inl (cy 0, 4, .inl (fun _ => 0))), (q_2, .inr (12, [.int 0, .ref (u2.1 1), .int 0, .int 0, .int 0, .int 0, .int 0, .int 0, .int (-1), .ref (u2.1 9), .ref (u2.1 10), .ref (u2.1 11), .ref (u2.1 12), .ref (u2.1 13), .ref (u2.1 14), .ref (u2.1 15), .int 0, .int 0, .int 0, .ref (u2.1 19), .ref (u2.1 20), .ref (u2.1 21), .int 0, .ref (u2.1 23), .ref (u2.1 24), .ref (u2.1 25), .ref (u2.1 26), .ref (u2.1 27), .ref (u2.1 28), .int 0, .int 0, .int 0, .int 0, .ref (u2.1 33), .int (-1), .ref (u2.1 35), .int 0, .int 0])), ((u2.1 1), .inl (cy 0, 4, .inl (fun _ => 0))), (q_3, .inl (cy 2, 1, .inr (.inl (fun _ => 0))))] := hD
  refine lv_astore_n (lv' := [(3, .ref q_3), (2, .ref q_2), (1, .ref q_1), (0, .ref b)]) hx hb dL_law__19 rfl hlv (by decide) rfl (fun ls hlv => ?_)
  refine lv_iconst (v := 0) hx hb dL_law__20 (by decide) ?_
  refine lv_istore (lv' := [(4, .int 0), (3, .ref q_3), (2, .ref q_2), (1, .ref q_1), (0, .ref b)]) hx hb dL_law__21 hlv (by decide) rfl (fun ls hlv => ?_)
  refine lv_iload hx hb dL_law__23 (lv_at hlv 0 rfl) ?_
  refine lv_aload_n hx hb dL_law__25 rfl (lv_at hlv 4 rfl) ?_
  refine va_slen hx hb hX hbl hbA hS dL_law__26 ?_
  refine lt_i (y := 10) (by decide) ?_
  refine lv_bipush (v := 10) hx hb dL_law__27 (by decide) ?_
  refine lv_isub hx hb dL_law__29 ?_
  refine lt_i (y := 0) (by decide) ?_
  refine lv_icmp_gt (tgt := 2761) hx hb dL_law__30 (by decide) (fun c => absurd c (by decide)) (fun _ => ?_)
  refine lv_aload_n hx hb dL_law__33 rfl (lv_at hlv 4 rfl) ?_
  refine lv_iload hx hb dL_law__34 (lv_at hlv 0 rfl) ?_
  refine va_sld hx hb hX hbl hbA hS (vpd (by decide)) dL_law__36 ?_
  refine lt_i (y := xs 0) rfl ?_
  refine lv_bipush (v := 63) hx hb dL_law__37 (by decide) ?_
  refine lv_iand hx hb dL_law__39 ?_
  refine lt_i (y := 25) h63 ?_
  refine lv_tableIn (tgt := 1955) hx hb dL_law__40 (by decide) (by decide) rfl (by decide) ?_
  refine lv_aload_n hx hb dL_law__1955 rfl (lv_at hlv 3 rfl) ?_
  refine lv_aload_n hx hb dL_law__1956 rfl (lv_at hlv 4 rfl) ?_
  refine lv_iload hx hb dL_law__1957 (lv_at hlv 0 rfl) ?_
  refine lv_iconst (v := 1) hx hb dL_law__1959 (by decide) ?_
  refine lv_iadd hx hb dL_law__1960 ?_
  refine lt_i (y := 1) (by decide) ?_
  refine va_sld hx hb hX hbl hbA hS (vpd (by decide)) dL_law__1961 ?_
  refine lt_i (y := xs 1) rfl ?_
  refine lv_aload_n hx hb dL_law__1962 rfl (lv_at hlv 4 rfl) ?_
  refine lv_iload hx hb dL_law__1963 (lv_at hlv 0 rfl) ?_
  refine lv_iconst (v := 2) hx hb dL_law__1965 (by decide) ?_
  refine lv_iadd hx hb dL_law__1966 ?_
  refine lt_i (y := 2) (by decide) ?_
  refine va_sld hx hb hX hbl hbA hS (vpd (by decide)) dL_law__1967 ?_
  refine lt_i (y := xs 2) rfl ?_
  refine lv_aload_n hx hb dL_law__1968 rfl (lv_at hlv 4 rfl) ?_
  refine lv_iload hx hb dL_law__1969 (lv_at hlv 0 rfl) ?_
  refine lv_iconst (v := 3) hx hb dL_law__1971 (by decide) ?_
  refine lv_iadd hx hb dL_law__1972 ?_
  refine lt_i (y := 3) (by decide) ?_
  refine va_sld hx hb hX hbl hbA hS (vpd (by decide)) dL_law__1973 ?_
  refine lt_i (y := xs 3) rfl ?_
  refine lv_aload_n hx hb dL_law__1974 rfl (lv_at hlv 4 rfl) ?_
  refine lv_iload hx hb dL_law__1975 (lv_at hlv 0 rfl) ?_
  refine lv_iconst (v := 4) hx hb dL_law__1977 (by decide) ?_
  refine lv_iadd hx hb dL_law__1978 ?_
  refine lt_i (y := 4) (by decide) ?_
  refine va_sld hx hb hX hbl hbA hS (vpd (by decide)) dL_law__1979 ?_
  refine lt_i (y := xs 4) rfl ?_
  refine lv_aload_n hx hb dL_law__1980 rfl (lv_at hlv 1 rfl) ?_
  refine cj_i (wr := [(q_2, .inr (12, [.int 0, .ref (u2.1 1), .int 0, .int 0, .int 0, .int 0, .int 0, .int 0, .int (-1), .ref (u2.1 9), .ref (u2.1 10), .ref (u2.1 11), .ref (u2.1 12), .ref (u2.1 13), .ref (u2.1 14), .ref (u2.1 15), .int 0, .int 0, .int 0, .ref (u2.1 19), .ref (u2.1 20), .ref (u2.1 21), .int 0, .ref (u2.1 23), .ref (u2.1 24), .ref (u2.1 25), .ref (u2.1 26), .ref (u2.1 27), .ref (u2.1 28), .int 0, .int 0, .int 0, .int 0, .ref (u2.1 33), .int (-1), .ref (u2.1 35), .int 0, .int 0])), ((u2.1 1), .inl (cy 0, 4, .inl (fun _ => 0)))]) (vx_runSW (As := [.ref q_1, .int (xs 1), .int (xs 2), .int (xs 3), .int (xs 4), .ref q_3]) (rest := []) ⟨hx, hb, hml, hown, hts⟩ (w_pace l hl D cy sa q_1 u1.1 (xs 1) (xs 2) (xs 3) (xs 4) q_3 H.size) (vx_cwSW 6 hts gl_w_pace rfl rfl rfl (by decide +kernel) ⟨Nat.le_of_ble_eq_true rfl, Nat.le_of_ble_eq_true rfl⟩) ⟨pcW.blind, (pcW.mk hP hD hS hA hG hT [0, 1, 4] rfl (by decide))⟩ rfl rfl hlv.1 rfl (lv_room (Nat.le_of_ble_eq_true rfl)) dL_law__1981 ⟨Nat.le_of_ble_eq_true rfl, Nat.le_of_ble_eq_true rfl⟩) hP hD hS hA [0, 1, 4] [2, 3] rfl rfl (by decide) (by decide) (fun r3 u3 H locs hw3 hP hD hS => ?_)
  obtain rfl := hw3
  have hP : va_P D vwCl [(q_2, .inr (12, [.int 0, .ref (u2.1 1), .int 0, .int 0, .int 0, .int 0, .int 0, .int 0, .int (-1), .ref (u2.1 9), .ref (u2.1 10), .ref (u2.1 11), .ref (u2.1 12), .ref (u2.1 13), .ref (u2.1 14), .ref (u2.1 15), .int 0, .int 0, .int 0, .ref (u2.1 19), .ref (u2.1 20), .ref (u2.1 21), .int 0, .ref (u2.1 23), .ref (u2.1 24), .ref (u2.1 25), .ref (u2.1 26), .ref (u2.1 27), .ref (u2.1 28), .int 0, .int 0, .int 0, .int 0, .ref (u2.1 33), .int (-1), .ref (u2.1 35), .int 0, .int 0])), ((u2.1 1), .inl (cy 0, 4, .inl (fun _ => 0))), (q_3, .inl (cy 2, 1, .inr (.inl (fun _ => (u3.2.1 0 : Int32).toInt64))))] H := hP
  have hD : va_D A [(q_2, .inr (12, [.int 0, .ref (u2.1 1), .int 0, .int 0, .int 0, .int 0, .int 0, .int 0, .int (-1), .ref (u2.1 9), .ref (u2.1 10), .ref (u2.1 11), .ref (u2.1 12), .ref (u2.1 13), .ref (u2.1 14), .ref (u2.1 15), .int 0, .int 0, .int 0, .ref (u2.1 19), .ref (u2.1 20), .ref (u2.1 21), .int 0, .ref (u2.1 23), .ref (u2.1 24), .ref (u2.1 25), .ref (u2.1 26), .ref (u2.1 27), .ref (u2.1 28), .int 0, .int 0, .int 0, .int 0, .ref (u2.1 33), .int (-1), .ref (u2.1 35), .int 0, .int 0])), ((u2.1 1), .inl (cy 0, 4, .inl (fun _ => 0))), (q_3, .inl (cy 2, 1, .inr (.inl (fun _ => (u3.2.1 0 : Int32).toInt64))))] := hD
  refine lv_istore (lv' := [(5, .int 1), (4, .int 0), (3, .ref q_3), (2, .ref q_2), (1, .ref q_1), (0, .ref b)]) hx hb dL_law__1984 hlv (by decide) rfl (fun ls hlv => ?_)
  refine lv_aload_n hx hb dL_law__1986 rfl (lv_at hlv 3 rfl) ?_
  refine lv_aload_n hx hb dL_law__1987 rfl (lv_at hlv 5 rfl) ?_
  refine lv_iload hx hb dL_law__1988 (lv_at hlv 1 rfl) ?_
  refine lv_iconst (v := 1) hx hb dL_law__1990 (by decide) ?_
  refine lv_iadd hx hb dL_law__1991 ?_
  refine lt_i (y := 1) (by decide) ?_
  refine va_sld hx hb hX hbl hbA hS (vpd (by decide)) dL_law__1992 ?_
  refine lt_i (y := xs 1) rfl ?_
  refine lv_aload_n hx hb dL_law__1993 rfl (lv_at hlv 5 rfl) ?_
  refine lv_iload hx hb dL_law__1994 (lv_at hlv 1 rfl) ?_
  refine lv_iconst (v := 2) hx hb dL_law__1996 (by decide) ?_
  refine lv_iadd hx hb dL_law__1997 ?_
  refine lt_i (y := 2) (by decide) ?_
  refine va_sld hx hb hX hbl hbA hS (vpd (by decide)) dL_law__1998 ?_
  refine lt_i (y := xs 2) rfl ?_
  refine lv_aload_n hx hb dL_law__1999 rfl (lv_at hlv 5 rfl) ?_
  refine lv_iload hx hb dL_law__2000 (lv_at hlv 1 rfl) ?_
  refine lv_iconst (v := 3) hx hb dL_law__2002 (by decide) ?_
  refine lv_iadd hx hb dL_law__2003 ?_
  refine lt_i (y := 3) (by decide) ?_
  refine va_sld hx hb hX hbl hbA hS (vpd (by decide)) dL_law__2004 ?_
  refine lt_i (y := xs 3) rfl ?_
  refine lv_aload_n hx hb dL_law__2005 rfl (lv_at hlv 5 rfl) ?_
  refine lv_iload hx hb dL_law__2006 (lv_at hlv 1 rfl) ?_
  refine lv_iconst (v := 4) hx hb dL_law__2008 (by decide) ?_
  refine lv_iadd hx hb dL_law__2009 ?_
  refine lt_i (y := 4) (by decide) ?_
  refine va_sld hx hb hX hbl hbA hS (vpd (by decide)) dL_law__2010 ?_
  refine lt_i (y := xs 4) rfl ?_
  refine cj_i (wr := [(q_3, .inl (cy 2, 1, .inr (.inl (fun _ => (u3.2.1 0 : Int32).toInt64))))]) (va_runV (As := [.int (xs 1), .int (xs 2), .int (xs 3), .int (xs 4)]) (rest := []) ⟨hx, hb, hml, hown, hts⟩ (m_pace l hl D cy sa q_2 u2.1 (xs 1) (xs 2) (xs 3) (xs 4) H.size) (cwV 4 hts gl_m_pace rfl rfl rfl (by decide +kernel) ⟨Nat.le_of_ble_eq_true rfl, Nat.le_of_ble_eq_true rfl⟩) ⟨pcW.blind, (va_recv hG.1 hP (ci := 12) (q0 := 0) rfl rfl), (pcW.mk hP hD hS hA hG hT [0, 1] rfl (by decide))⟩ rfl rfl hlv.1 rfl (lv_room (Nat.le_of_ble_eq_true rfl)) dL_law__2011 ⟨Nat.le_of_ble_eq_true rfl, Nat.le_of_ble_eq_true rfl⟩) hP hD hS hA [0, 1] [2] rfl rfl (by decide) (by decide) (fun r4 u4 H locs hw4 hP hD hS => ?_)
  obtain rfl := hw4
  have hP : va_P D vwCl [(q_3, .inl (cy 2, 1, .inr (.inl (fun _ => (u3.2.1 0 : Int32).toInt64)))), (q_2, .inr (12, [.int 1, .ref (u2.1 1), .int 0, .int 0, .int 0, .int 0, .int 0, .int 0, .int (-1), .ref (u2.1 9), .ref (u2.1 10), .ref (u2.1 11), .ref (u2.1 12), .ref (u2.1 13), .ref (u2.1 14), .ref (u2.1 15), .int 0, .int 0, .int 0, .ref (u2.1 19), .ref (u2.1 20), .ref (u2.1 21), .int 0, .ref (u2.1 23), .ref (u2.1 24), .ref (u2.1 25), .ref (u2.1 26), .ref (u2.1 27), .ref (u2.1 28), .int 0, .int 0, .int 0, .int 0, .ref (u2.1 33), .int (-1), .ref (u2.1 35), .int 0, .int 0]))] H := hP
  have hD : va_D A [(q_3, .inl (cy 2, 1, .inr (.inl (fun _ => (u3.2.1 0 : Int32).toInt64)))), (q_2, .inr (12, [.int 1, .ref (u2.1 1), .int 0, .int 0, .int 0, .int 0, .int 0, .int 0, .int (-1), .ref (u2.1 9), .ref (u2.1 10), .ref (u2.1 11), .ref (u2.1 12), .ref (u2.1 13), .ref (u2.1 14), .ref (u2.1 15), .int 0, .int 0, .int 0, .ref (u2.1 19), .ref (u2.1 20), .ref (u2.1 21), .int 0, .ref (u2.1 23), .ref (u2.1 24), .ref (u2.1 25), .ref (u2.1 26), .ref (u2.1 27), .ref (u2.1 28), .int 0, .int 0, .int 0, .int 0, .ref (u2.1 33), .int (-1), .ref (u2.1 35), .int 0, .int 0]))] := hD
  refine lv_istore (lv' := [(6, .int 0), (5, .int 1), (4, .int 0), (3, .ref q_3), (2, .ref q_2), (1, .ref q_1), (0, .ref b)]) hx hb dL_law__2014 hlv (by decide) rfl (fun ls hlv => ?_)
  refine lv_aload_n hx hb dL_law__2016 rfl (lv_at hlv 4 rfl) ?_
  refine cj_i (wr := [(q_3, .inl (cy 2, 1, .inr (.inl (fun _ => (u3.2.1 0 : Int32).toInt64))))]) (va_runV (As := []) (rest := []) ⟨hx, hb, hml, hown, hts⟩ (c_thrown l hl D cy sa q_2 u2.1 1 0 0 0 0 0 0 (-1) 0 0 0 0 0 0 0 0 (-1) 0 0 H.size) (cwV 0 hts gl_c_thrown rfl rfl rfl (by decide +kernel) ⟨Nat.le_of_ble_eq_true rfl, Nat.le_of_ble_eq_true rfl⟩) ⟨pcW.blind, (va_recv hG.1 hP (ci := 12) (q0 := 1) rfl rfl), (pcW.mk hP hD hS hA hG hT [1] rfl (by decide))⟩ rfl rfl hlv.1 rfl (lv_room (Nat.le_of_ble_eq_true rfl)) dL_law__2017 ⟨Nat.le_of_ble_eq_true rfl, Nat.le_of_ble_eq_true rfl⟩) hP hD hS hA [1] [0] rfl rfl (by decide) (by decide) (fun r5 u5 H locs hw5 hP hD hS => ?_)
  obtain rfl := hw5
  have hP : va_P D vwCl [(q_3, .inl (cy 2, 1, .inr (.inl (fun _ => (u3.2.1 0 : Int32).toInt64))))] H := hP
  have hD : va_D A [(q_3, .inl (cy 2, 1, .inr (.inl (fun _ => (u3.2.1 0 : Int32).toInt64))))] := hD
  refine lv_iload hx hb dL_law__2020 (lv_at hlv 1 rfl) ?_
  refine lv_icmp_eq (tgt := 2027) hx hb dL_law__2022 (by decide) (fun _ => ?_) (fun c => absurd (by decide) c)
  refine lv_iload hx hb dL_law__2027 (lv_at hlv 1 rfl) ?_
  refine lv_if_ne (tgt := 2044) hx hb dL_law__2029 (by decide) (fun _ => ?_) (fun c => absurd c (by decide))
  refine lv_goto (tgt := 2755) hx hb dL_law__2044 (by decide) ?_
  refine lv_iinc (v := 10) (lv' := [(4, .int 10), (6, .int 0), (5, .int 1), (3, .ref q_3), (2, .ref q_2), (1, .ref q_1), (0, .ref b)]) hx hb dL_law__2755 hlv (k := 2) rfl (by decide) (by decide) rfl (fun ls hlv => ?_)
  refine lv_goto (tgt := 23) hx hb dL_law__2758 (by decide) ?_
  refine lv_iload hx hb dL_law__23 (lv_at hlv 0 rfl) ?_
  refine lv_aload_n hx hb dL_law__25 rfl (lv_at hlv 6 rfl) ?_
  refine va_slen hx hb hX hbl hbA hS dL_law__26 ?_
  refine lt_i (y := 10) (by decide) ?_
  refine lv_bipush (v := 10) hx hb dL_law__27 (by decide) ?_
  refine lv_isub hx hb dL_law__29 ?_
  refine lt_i (y := 0) (by decide) ?_
  refine lv_icmp_gt (tgt := 2761) hx hb dL_law__30 (by decide) (fun _ => ?_) (fun c => absurd (by decide) c)
  refine lv_iconst (v := 1) hx hb dL_law__2761 (by decide) ?_
  refine va_forget (fun q hq => by have h9 := hS.2.2 q hq; rw [hAe] at h9; exact h9) ?_
  refine W.widen (k := 600002) (n := 7302232) (Nat.le_of_ble_eq_true rfl) (Nat.le_of_ble_eq_true rfl) ?_
  exact lw_ret hx hb hr hlocks dL_law__2762
set_option maxHeartbeats 4000000 in
set_option maxRecDepth 100000 in
theorem law_moved {p : Program} {e : Env} {s : State} {m : MethodId} {below : List Frame} {meth : Method} {c : Code} (l : Launch) (hl : l.stackTraces = false) {b : Nat} {xs : Nat → Int32} {D : va_G} {cy : Nat → ClassId} {sa : Nat → Nat} {A : Nat → Prop} (hAe : A = fun q => s.heap.size ≤ q) (C0 : lw_At p s m meth c b 10 xs) (hG : GC D cy sa s) (hT : TH A s s.heap) (h63 : xs 0 &&& 63 = 26) : W p l e room_1 s m #[Value.ref b] below meth c s.heap [] 0 0 (lw_Z below #[Value.ref b] s) (entryFrame m ([Value.ref b] : List Value).toArray 7) := by
  obtain ⟨hx, hb, hr, hml, hown0, hts0, hX, hbl, hlocks, hgv⟩ := id C0
  have hown : s.vm.findClass RL = some m.cls := hown0
  have hts := hts0
  have hA : ∀ q : Nat, s.heap.size ≤ q → A q := fun q h => by rw [hAe]; exact h
  have hbA : ¬ A b := by rw [hAe]; exact Nat.not_le.mpr hbl
  have hS : va_S A s.heap s.heap [] := va_S.rf
  have hP : va_P D vwCl [] s.heap := fun k q h => by simp at h
  have hD : va_D A [] := ⟨fun i j p q h => by simp at h, fun k q h => by simp at h⟩
  have hl0 := lv_entry ([.ref b]) (n := 7) (Nat.le_of_ble_eq_true rfl)
  rw [lg_entry_eq]
  generalize (lg_sl ([.ref b]) ++ List.replicate (7 - (lg_sl ([.ref b])).length) Slot.unset).toArray = ls at hl0 ⊢
  have hlv : lv_has ls 7 [(0, .ref b)] := hl0
  have cl8 := hts (.classLink RL 8 RX11) lwd_0
  have in11 := hts (.instantiable RX11 14) lwd_1
  have ini11 := hts (.initialized RX11) lwd_2
  have ini_RX11 := hts (.initialized RX11) lwd_2
  have ml117 := hts (.methodLink RL 117 yX11_init) lwd_3
  have im_X11_init := hts (.instanceMethod yX11_init) lwd_4
  have cl118 := hts (.classLink RL 118 RX12) lwd_5
  have in12 := hts (.instantiable RX12 38) lwd_6
  have ini12 := hts (.initialized RX12) lwd_7
  have ini_RX12 := hts (.initialized RX12) lwd_7
  have ml120 := hts (.methodLink RL 120 yX12_init) lwd_8
  have im_X12_init := hts (.instanceMethod yX12_init) lwd_9
  have ac2 := hts (.arrayClass .long) lwd_10
  refine va_new (ci := 11) (fs := [.null, .null, .null, .int 0, .int 0, .null, .null, .null, .null, .null, .int 0, .null, .null, .null]) (C := RX11) (T := TX11) (N := 14) hx hb hts inX11 tyX11 tyX11_ok hown cl8 in11 ini11 hG.1 hP hD hS hA rfl (by decide) (Nat.le_of_ble_eq_true rfl) (Nat.le_of_ble_eq_true rfl) dL_law__0 (fun q_1 H hP hD hS => ?_)
  have hP : va_P D vwCl [(q_1, .inr (11, [.null, .null, .null, .int 0, .int 0, .null, .null, .null, .null, .null, .int 0, .null, .null, .null]))] H := hP
  have hD : va_D A [(q_1, .inr (11, [.null, .null, .null, .int 0, .int 0, .null, .null, .null, .null, .null, .int 0, .null, .null, .null]))] := hD
  refine lv_dup hx hb dL_law__3 rfl ?_
  refine cj_v (wr := []) (va_runI (As := []) (rest := [.ref q_1]) ⟨hx, hb, hml, hown, hts⟩ (c_K_moved l hl D cy sa q_1 H.size) (cwI 0 hts gl_X11_init rfl rfl rfl ini_RX11 ml117 im_X11_init rfl (by decide +kernel) ⟨Nat.le_of_ble_eq_true rfl, Nat.le_of_ble_eq_true rfl⟩) ⟨pcW.blind, (pcW.mk hP hD hS hA hG hT [0] rfl (by decide))⟩ rfl rfl hlv.1 rfl (lv_room (Nat.le_of_ble_eq_true rfl)) dL_law__4 ⟨Nat.le_of_ble_eq_true rfl, Nat.le_of_ble_eq_true rfl⟩) hP hD hS hA [0] [] rfl rfl (by decide) (by decide) (fun u1 H locs hw1 hP hD hS => ?_)
  have hP : va_P D vwCl [(q_1, .inr (11, [.ref (u1.1 0), .ref (u1.1 1), .ref (u1.1 2), .int 0, .int 0, .ref (u1.1 5), .ref (u1.1 6), .ref (u1.1 7), .ref (u1.1 8), .ref (u1.1 9), .int 0, .ref (u1.1 11), .ref (u1.1 12), .ref (u1.1 13)])), ((u1.1 13), .inl (cy 0, 4, .inl (fun _ => 0)))] H := hP
  have hD : va_D A [(q_1, .inr (11, [.ref (u1.1 0), .ref (u1.1 1), .ref (u1.1 2), .int 0, .int 0, .ref (u1.1 5), .ref (u1.1 6), .ref (u1.1 7), .ref (u1.1 8), .ref (u1.1 9), .int 0, .ref (u1.1 11), .ref (u1.1 12), .ref (u1.1 13)])), ((u1.1 13), .inl (cy 0, 4, .inl (fun _ => 0)))] := hD
  refine lv_astore_n (lv' := [(1, .ref q_1), (0, .ref b)]) hx hb dL_law__7 rfl hlv (by decide) rfl (fun ls hlv => ?_)
  refine va_new (ci := 12) (fs := [.int 0, .null, .int 0, .int 0, .int 0, .int 0, .int 0, .int 0, .int 0, .null, .null, .null, .null, .null, .null, .null, .int 0, .int 0, .int 0, .null, .null, .null, .int 0, .null, .null, .null, .null, .null, .null, .int 0, .int 0, .int 0, .int 0, .null, .int 0, .null, .int 0, .int 0]) (C := RX12) (T := TX12) (N := 38) hx hb hts inX12 tyX12 tyX12_ok hown cl118 in12 ini12 hG.1 hP hD hS hA rfl (by decide) (Nat.le_of_ble_eq_true rfl) (Nat.le_of_ble_eq_true rfl) dL_law__8 (fun q_2 H hP hD hS => ?_)
  have hP : va_P D vwCl [(q_1, .inr (11, [.ref (u1.1 0), .ref (u1.1 1), .ref (u1.1 2), .int 0, .int 0, .ref (u1.1 5), .ref (u1.1 6), .ref (u1.1 7), .ref (u1.1 8), .ref (u1.1 9), .int 0, .ref (u1.1 11), .ref (u1.1 12), .ref (u1.1 13)])), ((u1.1 13), .inl (cy 0, 4, .inl (fun _ => 0))), (q_2, .inr (12, [.int 0, .null, .int 0, .int 0, .int 0, .int 0, .int 0, .int 0, .int 0, .null, .null, .null, .null, .null, .null, .null, .int 0, .int 0, .int 0, .null, .null, .null, .int 0, .null, .null, .null, .null, .null, .null, .int 0, .int 0, .int 0, .int 0, .null, .int 0, .null, .int 0, .int 0]))] H := hP
  have hD : va_D A [(q_1, .inr (11, [.ref (u1.1 0), .ref (u1.1 1), .ref (u1.1 2), .int 0, .int 0, .ref (u1.1 5), .ref (u1.1 6), .ref (u1.1 7), .ref (u1.1 8), .ref (u1.1 9), .int 0, .ref (u1.1 11), .ref (u1.1 12), .ref (u1.1 13)])), ((u1.1 13), .inl (cy 0, 4, .inl (fun _ => 0))), (q_2, .inr (12, [.int 0, .null, .int 0, .int 0, .int 0, .int 0, .int 0, .int 0, .int 0, .null, .null, .null, .null, .null, .null, .null, .int 0, .int 0, .int 0, .null, .null, .null, .int 0, .null, .null, .null, .null, .null, .null, .int 0, .int 0, .int 0, .int 0, .null, .int 0, .null, .int 0, .int 0]))] := hD
  refine lv_dup hx hb dL_law__11 rfl ?_
  refine cj_v (wr := [(q_1, .inr (11, [.ref (u1.1 0), .ref (u1.1 1), .ref (u1.1 2), .int 0, .int 0, .ref (u1.1 5), .ref (u1.1 6), .ref (u1.1 7), .ref (u1.1 8), .ref (u1.1 9), .int 0, .ref (u1.1 11), .ref (u1.1 12), .ref (u1.1 13)])), ((u1.1 13), .inl (cy 0, 4, .inl (fun _ => 0)))]) (va_runI (As := []) (rest := [.ref q_2]) ⟨hx, hb, hml, hown, hts⟩ (c_M_moved l hl D cy sa q_2 H.size) (cwI 0 hts gl_X12_init rfl rfl rfl ini_RX12 ml120 im_X12_init rfl (by decide +kernel) ⟨Nat.le_of_ble_eq_true rfl, Nat.le_of_ble_eq_true rfl⟩) ⟨pcW.blind, (pcW.mk hP hD hS hA hG hT [2] rfl (by decide))⟩ rfl rfl hlv.1 rfl (lv_room (Nat.le_of_ble_eq_true rfl)) dL_law__12 ⟨Nat.le_of_ble_eq_true rfl, Nat.le_of_ble_eq_true rfl⟩) hP hD hS hA [2] [0, 1] rfl rfl (by decide) (by decide) (fun u2 H locs hw2 hP hD hS => ?_)
  have hP : va_P D vwCl [(q_1, .inr (11, [.ref (u1.1 0), .ref (u1.1 1), .ref (u1.1 2), .int 0, .int 0, .ref (u1.1 5), .ref (u1.1 6), .ref (u1.1 7), .ref (u1.1 8), .ref (u1.1 9), .int 0, .ref (u1.1 11), .ref (u1.1 12), .ref (u1.1 13)])), ((u1.1 13), .inl (cy 0, 4, .inl (fun _ => 0))), (q_2, .inr (12, [.int 0, .ref (u2.1 1), .int 0, .int 0, .int 0, .int 0, .int 0, .int 0, .int (-1), .ref (u2.1 9), .ref (u2.1 10), .ref (u2.1 11), .ref (u2.1 12), .ref (u2.1 13), .ref (u2.1 14), .ref (u2.1 15), .int 0, .int 0, .int 0, .ref (u2.1 19), .ref (u2.1 20), .ref (u2.1 21), .int 0, .ref (u2.1 23), .ref (u2.1 24), .ref (u2.1 25), .ref (u2.1 26), .ref (u2.1 27), .ref (u2.1 28), .int 0, .int 0, .int 0, .int 0, .ref (u2.1 33), .int (-1), .ref (u2.1 35), .int 0, .int 0])), ((u2.1 1), .inl (cy 0, 4, .inl (fun _ => 0)))] H := hP
  have hD : va_D A [(q_1, .inr (11, [.ref (u1.1 0), .ref (u1.1 1), .ref (u1.1 2), .int 0, .int 0, .ref (u1.1 5), .ref (u1.1 6), .ref (u1.1 7), .ref (u1.1 8), .ref (u1.1 9), .int 0, .ref (u1.1 11), .ref (u1.1 12), .ref (u1.1 13)])), ((u1.1 13), .inl (cy 0, 4, .inl (fun _ => 0))), (q_2, .inr (12, [.int 0, .ref (u2.1 1), .int 0, .int 0, .int 0, .int 0, .int 0, .int 0, .int (-1), .ref (u2.1 9), .ref (u2.1 10), .ref (u2.1 11), .ref (u2.1 12), .ref (u2.1 13), .ref (u2.1 14), .ref (u2.1 15), .int 0, .int 0, .int 0, .ref (u2.1 19), .ref (u2.1 20), .ref (u2.1 21), .int 0, .ref (u2.1 23), .ref (u2.1 24), .ref (u2.1 25), .ref (u2.1 26), .ref (u2.1 27), .ref (u2.1 28), .int 0, .int 0, .int 0, .int 0, .ref (u2.1 33), .int (-1), .ref (u2.1 35), .int 0, .int 0])), ((u2.1 1), .inl (cy 0, 4, .inl (fun _ => 0)))] := hD
  refine lv_astore_n (lv' := [(2, .ref q_2), (1, .ref q_1), (0, .ref b)]) hx hb dL_law__15 rfl hlv (by decide) rfl (fun ls hlv => ?_)
  refine lv_iconst (v := 1) hx hb dL_law__16 (by decide) ?_
  refine nw_a (atype := .long) (cy := cy) (a0 := (1, .inr (.inl (fun _ => 0)))) (N' := 1) hx hb ac2 (ty := .long) rfl 2 rfl (fun C h => nomatch h) hG.1 hP hD hS hA (fun cA => rfl) (by decide) (by decide) (Nat.le_of_ble_eq_true rfl) (Nat.le_of_ble_eq_true rfl) (Nat.le_of_ble_eq_true rfl) dL_law__17 (fun q_3 H hP hD hS => ?_)
  have hP : va_P D vwCl [(q_1, .inr (11, [.ref (u1.1 0), .ref (u1.1 1), .ref (u1.1 2), .int 0, .int 0, .ref (u1.1 5), .ref (u1.1 6), .ref (u1.1 7), .ref (u1.1 8), .ref (u1.1 9), .int 0, .ref (u1.1 11), .ref (u1.1 12), .ref (u1.1 13)])), ((u1.1 13), .inl (cy 0, 4, .inl (fun _ => 0))), (q_2, .inr (12, [.int 0, .ref (u2.1 1), .int 0, .int 0, .int 0, .int 0, .int 0, .int 0, .int (-1), .ref (u2.1 9), .ref (u2.1 10), .ref (u2.1 11), .ref (u2.1 12), .ref (u2.1 13), .ref (u2.1 14), .ref (u2.1 15), .int 0, .int 0, .int 0, .ref (u2.1 19), .ref (u2.1 20), .ref (u2.1 21), .int 0, .ref (u2.1 23), .ref (u2.1 24), .ref (u2.1 25), .ref (u2.1 26), .ref (u2.1 27), .ref (u2.1 28), .int 0, .int 0, .int 0, .int 0, .ref (u2.1 33), .int (-1), .ref (u2.1 35), .int 0, .int 0])), ((u2.1 1), .inl (cy 0, 4, .inl (fun _ => 0))), (q_3, .inl (cy 2, 1, .inr (.inl (fun _ => 0))))] H := hP
  have hD : va_D A [(q_1, .inr (11, [.ref (u1.1 0), .ref (u1.1 1), .ref (u1.1 2), .int 0, .int 0, .ref (u1.1 5), .ref (u1.1 6), .ref (u1.1 7), .ref (u1.1 8), .ref (u1.1 9), .int 0, .ref (u1.1 11), .ref (u1.1 12), .ref (u1.1 13)])), ((u1.1 13), .inl (cy 0, 4, .inl (fun _ => 0))), (q_2, .inr (12, [.int 0, .ref (u2.1 1), .int 0, .int 0, .int 0, .int 0, .int 0, .int 0, .int (-1), .ref (u2.1 9), .ref (u2.1 10), .ref (u2.1 11), .ref (u2.1 12), .ref (u2.1 13), .ref (u2.1 14), .ref (u2.1 15), .int 0, .int 0, .int 0, .ref (u2.1 19), .ref (u2.1 20), .ref (u2.1 21), .int 0, .ref (u2.1 23), .ref (u2.1 24), .ref (u2.1 25), .ref (u2.1 26), .ref (u2.1 27), .ref (u2.1 28), .int 0, .int 0, .int 0, .int 0, .ref (u2.1 33), .int (-1), .ref (u2.1 35), .int 0, .int 0])), ((u2.1 1), .inl (cy 0, 4, .inl (fun _ => 0))), (q_3, .inl (cy 2, 1, .inr (.inl (fun _ => 0))))] := hD
  refine lv_astore_n (lv' := [(3, .ref q_3), (2, .ref q_2), (1, .ref q_1), (0, .ref b)]) hx hb dL_law__19 rfl hlv (by decide) rfl (fun ls hlv => ?_)
  refine lv_iconst (v := 0) hx hb dL_law__20 (by decide) ?_
  refine lv_istore (lv' := [(4, .int 0), (3, .ref q_3), (2, .ref q_2), (1, .ref q_1), (0, .ref b)]) hx hb dL_law__21 hlv (by decide) rfl (fun ls hlv => ?_)
  refine lv_iload hx hb dL_law__23 (lv_at hlv 0 rfl) ?_
  refine lv_aload_n hx hb dL_law__25 rfl (lv_at hlv 4 rfl) ?_
  refine va_slen hx hb hX hbl hbA hS dL_law__26 ?_
  refine lt_i (y := 10) (by decide) ?_
  refine lv_bipush (v := 10) hx hb dL_law__27 (by decide) ?_
  refine lv_isub hx hb dL_law__29 ?_
  refine lt_i (y := 0) (by decide) ?_
  refine lv_icmp_gt (tgt := 2761) hx hb dL_law__30 (by decide) (fun c => absurd c (by decide)) (fun _ => ?_)
  refine lv_aload_n hx hb dL_law__33 rfl (lv_at hlv 4 rfl) ?_
  refine lv_iload hx hb dL_law__34 (lv_at hlv 0 rfl) ?_
  refine va_sld hx hb hX hbl hbA hS (vpd (by decide)) dL_law__36 ?_
  refine lt_i (y := xs 0) rfl ?_
  refine lv_bipush (v := 63) hx hb dL_law__37 (by decide) ?_
  refine lv_iand hx hb dL_law__39 ?_
  refine lt_i (y := 26) h63 ?_
  refine lv_tableIn (tgt := 2047) hx hb dL_law__40 (by decide) (by decide) rfl (by decide) ?_
  refine lv_aload_n hx hb dL_law__2047 rfl (lv_at hlv 3 rfl) ?_
  refine lv_aload_n hx hb dL_law__2048 rfl (lv_at hlv 4 rfl) ?_
  refine lv_iload hx hb dL_law__2049 (lv_at hlv 0 rfl) ?_
  refine lv_iconst (v := 1) hx hb dL_law__2051 (by decide) ?_
  refine lv_iadd hx hb dL_law__2052 ?_
  refine lt_i (y := 1) (by decide) ?_
  refine va_sld hx hb hX hbl hbA hS (vpd (by decide)) dL_law__2053 ?_
  refine lt_i (y := xs 1) rfl ?_
  refine lv_aload_n hx hb dL_law__2054 rfl (lv_at hlv 4 rfl) ?_
  refine lv_iload hx hb dL_law__2055 (lv_at hlv 0 rfl) ?_
  refine lv_iconst (v := 2) hx hb dL_law__2057 (by decide) ?_
  refine lv_iadd hx hb dL_law__2058 ?_
  refine lt_i (y := 2) (by decide) ?_
  refine va_sld hx hb hX hbl hbA hS (vpd (by decide)) dL_law__2059 ?_
  refine lt_i (y := xs 2) rfl ?_
  refine lv_aload_n hx hb dL_law__2060 rfl (lv_at hlv 1 rfl) ?_
  refine cj_i (wr := [(q_2, .inr (12, [.int 0, .ref (u2.1 1), .int 0, .int 0, .int 0, .int 0, .int 0, .int 0, .int (-1), .ref (u2.1 9), .ref (u2.1 10), .ref (u2.1 11), .ref (u2.1 12), .ref (u2.1 13), .ref (u2.1 14), .ref (u2.1 15), .int 0, .int 0, .int 0, .ref (u2.1 19), .ref (u2.1 20), .ref (u2.1 21), .int 0, .ref (u2.1 23), .ref (u2.1 24), .ref (u2.1 25), .ref (u2.1 26), .ref (u2.1 27), .ref (u2.1 28), .int 0, .int 0, .int 0, .int 0, .ref (u2.1 33), .int (-1), .ref (u2.1 35), .int 0, .int 0])), ((u2.1 1), .inl (cy 0, 4, .inl (fun _ => 0)))]) (vx_runSW (As := [.ref q_1, .int (xs 1), .int (xs 2), .ref q_3]) (rest := []) ⟨hx, hb, hml, hown, hts⟩ (w_moved l hl D cy sa q_1 u1.1 (xs 1) (xs 2) q_3 H.size) (vx_cwSW 4 hts gl_w_moved rfl rfl rfl (by decide +kernel) ⟨Nat.le_of_ble_eq_true rfl, Nat.le_of_ble_eq_true rfl⟩) ⟨pcW.blind, (pcW.mk hP hD hS hA hG hT [0, 1, 4] rfl (by decide))⟩ rfl rfl hlv.1 rfl (lv_room (Nat.le_of_ble_eq_true rfl)) dL_law__2061 ⟨Nat.le_of_ble_eq_true rfl, Nat.le_of_ble_eq_true rfl⟩) hP hD hS hA [0, 1, 4] [2, 3] rfl rfl (by decide) (by decide) (fun r3 u3 H locs hw3 hP hD hS => ?_)
  obtain rfl := hw3
  have hP : va_P D vwCl [(q_2, .inr (12, [.int 0, .ref (u2.1 1), .int 0, .int 0, .int 0, .int 0, .int 0, .int 0, .int (-1), .ref (u2.1 9), .ref (u2.1 10), .ref (u2.1 11), .ref (u2.1 12), .ref (u2.1 13), .ref (u2.1 14), .ref (u2.1 15), .int 0, .int 0, .int 0, .ref (u2.1 19), .ref (u2.1 20), .ref (u2.1 21), .int 0, .ref (u2.1 23), .ref (u2.1 24), .ref (u2.1 25), .ref (u2.1 26), .ref (u2.1 27), .ref (u2.1 28), .int 0, .int 0, .int 0, .int 0, .ref (u2.1 33), .int (-1), .ref (u2.1 35), .int 0, .int 0])), ((u2.1 1), .inl (cy 0, 4, .inl (fun _ => 0))), (q_3, .inl (cy 2, 1, .inr (.inl (fun _ => (u3.2.1 0 : Int32).toInt64))))] H := hP
  have hD : va_D A [(q_2, .inr (12, [.int 0, .ref (u2.1 1), .int 0, .int 0, .int 0, .int 0, .int 0, .int 0, .int (-1), .ref (u2.1 9), .ref (u2.1 10), .ref (u2.1 11), .ref (u2.1 12), .ref (u2.1 13), .ref (u2.1 14), .ref (u2.1 15), .int 0, .int 0, .int 0, .ref (u2.1 19), .ref (u2.1 20), .ref (u2.1 21), .int 0, .ref (u2.1 23), .ref (u2.1 24), .ref (u2.1 25), .ref (u2.1 26), .ref (u2.1 27), .ref (u2.1 28), .int 0, .int 0, .int 0, .int 0, .ref (u2.1 33), .int (-1), .ref (u2.1 35), .int 0, .int 0])), ((u2.1 1), .inl (cy 0, 4, .inl (fun _ => 0))), (q_3, .inl (cy 2, 1, .inr (.inl (fun _ => (u3.2.1 0 : Int32).toInt64))))] := hD
  refine lv_istore (lv' := [(5, .int 1), (4, .int 0), (3, .ref q_3), (2, .ref q_2), (1, .ref q_1), (0, .ref b)]) hx hb dL_law__2064 hlv (by decide) rfl (fun ls hlv => ?_)
  refine lv_aload_n hx hb dL_law__2066 rfl (lv_at hlv 3 rfl) ?_
  refine lv_aload_n hx hb dL_law__2067 rfl (lv_at hlv 5 rfl) ?_
  refine lv_iload hx hb dL_law__2068 (lv_at hlv 1 rfl) ?_
  refine lv_iconst (v := 1) hx hb dL_law__2070 (by decide) ?_
  refine lv_iadd hx hb dL_law__2071 ?_
  refine lt_i (y := 1) (by decide) ?_
  refine va_sld hx hb hX hbl hbA hS (vpd (by decide)) dL_law__2072 ?_
  refine lt_i (y := xs 1) rfl ?_
  refine lv_aload_n hx hb dL_law__2073 rfl (lv_at hlv 5 rfl) ?_
  refine lv_iload hx hb dL_law__2074 (lv_at hlv 1 rfl) ?_
  refine lv_iconst (v := 2) hx hb dL_law__2076 (by decide) ?_
  refine lv_iadd hx hb dL_law__2077 ?_
  refine lt_i (y := 2) (by decide) ?_
  refine va_sld hx hb hX hbl hbA hS (vpd (by decide)) dL_law__2078 ?_
  refine lt_i (y := xs 2) rfl ?_
  refine cj_i (wr := [(q_3, .inl (cy 2, 1, .inr (.inl (fun _ => (u3.2.1 0 : Int32).toInt64))))]) (va_runV (As := [.int (xs 1), .int (xs 2)]) (rest := []) ⟨hx, hb, hml, hown, hts⟩ (m_moved l hl D cy sa q_2 u2.1 (xs 1) (xs 2) H.size) (cwV 2 hts gl_m_moved rfl rfl rfl (by decide +kernel) ⟨Nat.le_of_ble_eq_true rfl, Nat.le_of_ble_eq_true rfl⟩) ⟨pcW.blind, (va_recv hG.1 hP (ci := 12) (q0 := 0) rfl rfl), (pcW.mk hP hD hS hA hG hT [0, 1] rfl (by decide))⟩ rfl rfl hlv.1 rfl (lv_room (Nat.le_of_ble_eq_true rfl)) dL_law__2079 ⟨Nat.le_of_ble_eq_true rfl, Nat.le_of_ble_eq_true rfl⟩) hP hD hS hA [0, 1] [2] rfl rfl (by decide) (by decide) (fun r4 u4 H locs hw4 hP hD hS => ?_)
  obtain rfl := hw4
  have hP : va_P D vwCl [(q_3, .inl (cy 2, 1, .inr (.inl (fun _ => (u3.2.1 0 : Int32).toInt64)))), (q_2, .inr (12, [.int 1, .ref (u2.1 1), .int 0, .int 0, .int 0, .int 0, .int 0, .int 0, .int (-1), .ref (u2.1 9), .ref (u2.1 10), .ref (u2.1 11), .ref (u2.1 12), .ref (u2.1 13), .ref (u2.1 14), .ref (u2.1 15), .int 0, .int 0, .int 0, .ref (u2.1 19), .ref (u2.1 20), .ref (u2.1 21), .int 0, .ref (u2.1 23), .ref (u2.1 24), .ref (u2.1 25), .ref (u2.1 26), .ref (u2.1 27), .ref (u2.1 28), .int 0, .int 0, .int 0, .int 0, .ref (u2.1 33), .int (-1), .ref (u2.1 35), .int 0, .int 0]))] H := hP
  have hD : va_D A [(q_3, .inl (cy 2, 1, .inr (.inl (fun _ => (u3.2.1 0 : Int32).toInt64)))), (q_2, .inr (12, [.int 1, .ref (u2.1 1), .int 0, .int 0, .int 0, .int 0, .int 0, .int 0, .int (-1), .ref (u2.1 9), .ref (u2.1 10), .ref (u2.1 11), .ref (u2.1 12), .ref (u2.1 13), .ref (u2.1 14), .ref (u2.1 15), .int 0, .int 0, .int 0, .ref (u2.1 19), .ref (u2.1 20), .ref (u2.1 21), .int 0, .ref (u2.1 23), .ref (u2.1 24), .ref (u2.1 25), .ref (u2.1 26), .ref (u2.1 27), .ref (u2.1 28), .int 0, .int 0, .int 0, .int 0, .ref (u2.1 33), .int (-1), .ref (u2.1 35), .int 0, .int 0]))] := hD
  refine lv_istore (lv' := [(6, .int 0), (5, .int 1), (4, .int 0), (3, .ref q_3), (2, .ref q_2), (1, .ref q_1), (0, .ref b)]) hx hb dL_law__2082 hlv (by decide) rfl (fun ls hlv => ?_)
  refine lv_aload_n hx hb dL_law__2084 rfl (lv_at hlv 4 rfl) ?_
  refine cj_i (wr := [(q_3, .inl (cy 2, 1, .inr (.inl (fun _ => (u3.2.1 0 : Int32).toInt64))))]) (va_runV (As := []) (rest := []) ⟨hx, hb, hml, hown, hts⟩ (c_thrown l hl D cy sa q_2 u2.1 1 0 0 0 0 0 0 (-1) 0 0 0 0 0 0 0 0 (-1) 0 0 H.size) (cwV 0 hts gl_c_thrown rfl rfl rfl (by decide +kernel) ⟨Nat.le_of_ble_eq_true rfl, Nat.le_of_ble_eq_true rfl⟩) ⟨pcW.blind, (va_recv hG.1 hP (ci := 12) (q0 := 1) rfl rfl), (pcW.mk hP hD hS hA hG hT [1] rfl (by decide))⟩ rfl rfl hlv.1 rfl (lv_room (Nat.le_of_ble_eq_true rfl)) dL_law__2085 ⟨Nat.le_of_ble_eq_true rfl, Nat.le_of_ble_eq_true rfl⟩) hP hD hS hA [1] [0] rfl rfl (by decide) (by decide) (fun r5 u5 H locs hw5 hP hD hS => ?_)
  obtain rfl := hw5
  have hP : va_P D vwCl [(q_3, .inl (cy 2, 1, .inr (.inl (fun _ => (u3.2.1 0 : Int32).toInt64))))] H := hP
  have hD : va_D A [(q_3, .inl (cy 2, 1, .inr (.inl (fun _ => (u3.2.1 0 : Int32).toInt64))))] := hD
  refine lv_iload hx hb dL_law__2088 (lv_at hlv 1 rfl) ?_
  refine lv_icmp_eq (tgt := 2095) hx hb dL_law__2090 (by decide) (fun _ => ?_) (fun c => absurd (by decide) c)
  refine lv_iload hx hb dL_law__2095 (lv_at hlv 1 rfl) ?_
  refine lv_if_ne (tgt := 2112) hx hb dL_law__2097 (by decide) (fun _ => ?_) (fun c => absurd c (by decide))
  refine lv_goto (tgt := 2755) hx hb dL_law__2112 (by decide) ?_
  refine lv_iinc (v := 10) (lv' := [(4, .int 10), (6, .int 0), (5, .int 1), (3, .ref q_3), (2, .ref q_2), (1, .ref q_1), (0, .ref b)]) hx hb dL_law__2755 hlv (k := 2) rfl (by decide) (by decide) rfl (fun ls hlv => ?_)
  refine lv_goto (tgt := 23) hx hb dL_law__2758 (by decide) ?_
  refine lv_iload hx hb dL_law__23 (lv_at hlv 0 rfl) ?_
  refine lv_aload_n hx hb dL_law__25 rfl (lv_at hlv 6 rfl) ?_
  refine va_slen hx hb hX hbl hbA hS dL_law__26 ?_
  refine lt_i (y := 10) (by decide) ?_
  refine lv_bipush (v := 10) hx hb dL_law__27 (by decide) ?_
  refine lv_isub hx hb dL_law__29 ?_
  refine lt_i (y := 0) (by decide) ?_
  refine lv_icmp_gt (tgt := 2761) hx hb dL_law__30 (by decide) (fun _ => ?_) (fun c => absurd (by decide) c)
  refine lv_iconst (v := 1) hx hb dL_law__2761 (by decide) ?_
  refine va_forget (fun q hq => by have h9 := hS.2.2 q hq; rw [hAe] at h9; exact h9) ?_
  refine W.widen (k := 600002) (n := 7302232) (Nat.le_of_ble_eq_true rfl) (Nat.le_of_ble_eq_true rfl) ?_
  exact lw_ret hx hb hr hlocks dL_law__2762
