theorem dL_law_1743 : decode cL_law 1743 = .ok (.aload_n 1, 1) := by decide +kernel
theorem dL_law_1744 : decode cL_law 1744 = .ok (.aload_n 0, 1) := by decide +kernel
theorem dL_law_1745 : decode cL_law 1745 = .ok (.iload_n 3, 1) := by decide +kernel
theorem dL_law_1746 : decode cL_law 1746 = .ok (.iconst 1, 1) := by decide +kernel
theorem dL_law_1747 : decode cL_law 1747 = .ok (.iadd, 1) := by decide +kernel
theorem dL_law_1748 : decode cL_law 1748 = .ok (.iaload, 1) := by decide +kernel
theorem dL_law_1749 : decode cL_law 1749 = .ok (.aload_n 0, 1) := by decide +kernel
theorem dL_law_1750 : decode cL_law 1750 = .ok (.iload_n 3, 1) := by decide +kernel
theorem dL_law_1751 : decode cL_law 1751 = .ok (.iconst 2, 1) := by decide +kernel
theorem dL_law_1752 : decode cL_law 1752 = .ok (.iadd, 1) := by decide +kernel
theorem dL_law_1753 : decode cL_law 1753 = .ok (.iaload, 1) := by decide +kernel
theorem dL_law_1754 : decode cL_law 1754 = .ok (.aload_n 0, 1) := by decide +kernel
theorem dL_law_1755 : decode cL_law 1755 = .ok (.iload_n 3, 1) := by decide +kernel
theorem dL_law_1756 : decode cL_law 1756 = .ok (.iconst 3, 1) := by decide +kernel
theorem dL_law_1757 : decode cL_law 1757 = .ok (.iadd, 1) := by decide +kernel
theorem dL_law_1758 : decode cL_law 1758 = .ok (.iaload, 1) := by decide +kernel
set_option maxRecDepth 20000 in
theorem ggL_law_X10_luck : GoodIn wsL_law wsX10_luck := goodIn_r _ [1553, 44, 917, 1513, 1514, 1515, 2, 1516, 1517, 1554, 1555, 1556, 530, 531, 532, 533, 24, 528, 534, 535, 320, 321, 39, 322, 323, 544, 545, 546, 547, 1518, 1519, 1520, 43, 1521, 1522, 112, 1523, 215, 216, 217, 1524, 113, 1525, 1526, 1527, 1528, 1529, 1530, 1531, 1532, 1533, 316, 317, 318, 81, 319, 548, 330, 331, 332, 1672, 1673, 1674, 1675, 1676, 1677, 1678, 1679, 1680, 1681, 1682, 1740, 1741, 1742, 1743, 1744, 1724, 1725, 1726, 1727, 1732, 1733, 1734, 1735, 1736, 1737, 1738, 1739] (by decide +kernel) (by decide +kernel)
set_option maxRecDepth 20000 in
theorem gL_law_X10_luck : GoodIn wsL_law (wsV RL 239 RX10 yX10_luck wsX10_luck) := goodIn_app (goodIn_of _ (by decide +kernel)) ggL_law_X10_luck
theorem dL_law_1759 : decode cL_law 1759 = .ok (.invokevirtual 239, 3) := by decide +kernel
theorem dL_law_1762 : decode cL_law 1762 = .ok (.aload_n 2, 1) := by decide +kernel
theorem dL_law_1763 : decode cL_law 1763 = .ok (.aload_n 0, 1) := by decide +kernel
theorem dL_law_1764 : decode cL_law 1764 = .ok (.iload_n 3, 1) := by decide +kernel
theorem dL_law_1765 : decode cL_law 1765 = .ok (.iconst 1, 1) := by decide +kernel
theorem dL_law_1766 : decode cL_law 1766 = .ok (.iadd, 1) := by decide +kernel
theorem dL_law_1767 : decode cL_law 1767 = .ok (.iaload, 1) := by decide +kernel
theorem dL_law_1768 : decode cL_law 1768 = .ok (.aload_n 0, 1) := by decide +kernel
theorem dL_law_1769 : decode cL_law 1769 = .ok (.iload_n 3, 1) := by decide +kernel
theorem dL_law_1770 : decode cL_law 1770 = .ok (.iconst 2, 1) := by decide +kernel
theorem dL_law_1771 : decode cL_law 1771 = .ok (.iadd, 1) := by decide +kernel
theorem dL_law_1772 : decode cL_law 1772 = .ok (.iaload, 1) := by decide +kernel
theorem dL_law_1773 : decode cL_law 1773 = .ok (.aload_n 0, 1) := by decide +kernel
theorem dL_law_1774 : decode cL_law 1774 = .ok (.iload_n 3, 1) := by decide +kernel
theorem dL_law_1775 : decode cL_law 1775 = .ok (.iconst 3, 1) := by decide +kernel
theorem dL_law_1776 : decode cL_law 1776 = .ok (.iadd, 1) := by decide +kernel
theorem dL_law_1777 : decode cL_law 1777 = .ok (.iaload, 1) := by decide +kernel
set_option maxRecDepth 20000 in
theorem ggL_law_X11_luck : GoodIn wsL_law wsX11_luck := goodIn_r _ [1560, 164, 1561, 141, 1538, 1539, 5, 1540, 1541, 182, 183, 184, 573, 574, 575, 576, 137, 1542, 1543, 1544, 1545, 142, 1546, 1547, 1548, 1549, 1683, 1684, 1685, 1686, 1687, 1688, 1689, 1690, 1691, 1692, 1693, 1694, 1695, 1696, 1697, 1698, 1699, 1700, 1701, 1702, 1703, 1704, 1705, 1706, 1707, 1708, 1709, 1710, 1711, 1712, 1713] (by decide +kernel) (by decide +kernel)
set_option maxRecDepth 20000 in
theorem gL_law_X11_luck : GoodIn wsL_law (wsV RL 242 RX11 yX11_luck wsX11_luck) := goodIn_app (goodIn_of _ (by decide +kernel)) ggL_law_X11_luck
theorem dL_law_1778 : decode cL_law 1778 = .ok (.invokevirtual 242, 3) := by decide +kernel
theorem dL_law_1781 : decode cL_law 1781 = .ok (.if_icmp .eq 352, 3) := by decide +kernel
theorem dL_law_1786 : decode cL_law 1786 = .ok (.aload_n 1, 1) := by decide +kernel
theorem dL_law_1787 : decode cL_law 1787 = .ok (.aload_n 0, 1) := by decide +kernel
theorem dL_law_1788 : decode cL_law 1788 = .ok (.iload_n 3, 1) := by decide +kernel
theorem dL_law_1789 : decode cL_law 1789 = .ok (.iconst 1, 1) := by decide +kernel
theorem dL_law_1790 : decode cL_law 1790 = .ok (.iadd, 1) := by decide +kernel
theorem dL_law_1791 : decode cL_law 1791 = .ok (.iaload, 1) := by decide +kernel
theorem dL_law_1792 : decode cL_law 1792 = .ok (.aload_n 0, 1) := by decide +kernel
theorem dL_law_1793 : decode cL_law 1793 = .ok (.iload_n 3, 1) := by decide +kernel
theorem dL_law_1794 : decode cL_law 1794 = .ok (.iconst 2, 1) := by decide +kernel
theorem dL_law_1795 : decode cL_law 1795 = .ok (.iadd, 1) := by decide +kernel
theorem dL_law_1796 : decode cL_law 1796 = .ok (.iaload, 1) := by decide +kernel
set_option maxRecDepth 20000 in
theorem ggL_law_X10_winds : GoodIn wsL_law wsX10_winds := goodIn_r _ [1565, 44, 917, 1513, 623, 624, 625, 2, 626, 24, 35, 190, 1514, 1515, 1516, 1517, 1554, 1555, 1556, 544, 545, 546, 547, 528, 534, 1518, 1519, 1520, 43, 1521, 1522, 112, 1523, 215, 216, 217, 1524, 113, 1525, 1526, 1527, 1528, 1529, 1530, 1531, 1532, 1533, 316, 317, 39, 318, 81, 319, 320, 321, 322, 323, 722, 723, 724, 725, 726, 727, 728, 729, 730, 704, 705, 706, 707, 708, 709, 652, 653, 654, 655, 553, 330, 331, 332, 1672, 1673, 1674, 1675, 1676, 1677, 1678, 1679, 1680, 1681, 1682, 1740, 1741, 1742, 1743, 1744, 1724, 1725, 1726, 1727, 1752, 1753, 1754, 1755, 1756, 1757, 1758, 1732, 1733, 1734, 1735, 1736, 1737, 1738, 1739] (by decide +kernel) (by decide +kernel)
set_option maxRecDepth 20000 in
theorem gL_law_X10_winds : GoodIn wsL_law (wsV RL 243 RX10 yX10_winds wsX10_winds) := goodIn_app (goodIn_of _ (by decide +kernel)) ggL_law_X10_winds
theorem dL_law_1797 : decode cL_law 1797 = .ok (.invokevirtual 243, 3) := by decide +kernel
theorem dL_law_1800 : decode cL_law 1800 = .ok (.aload_n 2, 1) := by decide +kernel
theorem dL_law_1801 : decode cL_law 1801 = .ok (.aload_n 0, 1) := by decide +kernel
theorem dL_law_1802 : decode cL_law 1802 = .ok (.iload_n 3, 1) := by decide +kernel
theorem dL_law_1803 : decode cL_law 1803 = .ok (.iconst 1, 1) := by decide +kernel
theorem dL_law_1804 : decode cL_law 1804 = .ok (.iadd, 1) := by decide +kernel
theorem dL_law_1805 : decode cL_law 1805 = .ok (.iaload, 1) := by decide +kernel
theorem dL_law_1806 : decode cL_law 1806 = .ok (.aload_n 0, 1) := by decide +kernel
theorem dL_law_1807 : decode cL_law 1807 = .ok (.iload_n 3, 1) := by decide +kernel
theorem dL_law_1808 : decode cL_law 1808 = .ok (.iconst 2, 1) := by decide +kernel
theorem dL_law_1809 : decode cL_law 1809 = .ok (.iadd, 1) := by decide +kernel
theorem dL_law_1810 : decode cL_law 1810 = .ok (.iaload, 1) := by decide +kernel
set_option maxRecDepth 20000 in
theorem ggL_law_X11_winds : GoodIn wsL_law wsX11_winds := goodIn_r _ [1569, 164, 1561, 1538, 1539, 5, 1540, 1541, 182, 183, 184, 636, 637, 638, 639, 136, 1542, 1543, 1544, 1545, 137, 142, 1546, 1547, 1548, 1549, 141, 735, 736, 737, 738, 714, 715, 716, 717, 1683, 1684, 1685, 1686, 1687, 1688, 1689, 1690, 1691, 1692, 1693, 1694, 1695, 1696, 1697, 1698, 1699, 1700, 1701, 1702, 1703, 1704, 1705, 1706, 1707, 1708, 1709, 1710, 1711, 1712, 1713] (by decide +kernel) (by decide +kernel)
set_option maxRecDepth 20000 in
theorem gL_law_X11_winds : GoodIn wsL_law (wsV RL 246 RX11 yX11_winds wsX11_winds) := goodIn_app (goodIn_of _ (by decide +kernel)) ggL_law_X11_winds
theorem dL_law_1811 : decode cL_law 1811 = .ok (.invokevirtual 246, 3) := by decide +kernel
theorem dL_law_1814 : decode cL_law 1814 = .ok (.if_icmp .eq 319, 3) := by decide +kernel
theorem dL_law_1819 : decode cL_law 1819 = .ok (.aload_n 1, 1) := by decide +kernel
theorem dL_law_1820 : decode cL_law 1820 = .ok (.aload_n 0, 1) := by decide +kernel
theorem dL_law_1821 : decode cL_law 1821 = .ok (.iload_n 3, 1) := by decide +kernel
theorem dL_law_1822 : decode cL_law 1822 = .ok (.iconst 1, 1) := by decide +kernel
theorem dL_law_1823 : decode cL_law 1823 = .ok (.iadd, 1) := by decide +kernel
theorem dL_law_1824 : decode cL_law 1824 = .ok (.iaload, 1) := by decide +kernel
theorem dL_law_1825 : decode cL_law 1825 = .ok (.aload_n 0, 1) := by decide +kernel
theorem dL_law_1826 : decode cL_law 1826 = .ok (.iload_n 3, 1) := by decide +kernel
theorem dL_law_1827 : decode cL_law 1827 = .ok (.iconst 2, 1) := by decide +kernel
theorem dL_law_1828 : decode cL_law 1828 = .ok (.iadd, 1) := by decide +kernel
theorem dL_law_1829 : decode cL_law 1829 = .ok (.iaload, 1) := by decide +kernel
set_option maxRecDepth 20000 in
theorem ggL_law_X10_rate : GoodIn wsL_law wsX10_rate := goodIn_r _ [1573, 24, 889, 35, 1574, 530, 531, 532, 2, 533, 528, 534, 535, 320, 321, 39, 322, 323, 536, 537, 538, 64, 539, 72, 74, 386, 1672, 1673, 1674, 1675, 1676, 1677, 1678, 1679, 1680, 1681, 1682, 1724, 1725, 1726, 1727, 1752, 1753, 1754, 1755, 1756, 1757, 1758, 1732, 1733, 1734, 1735, 1736, 1737, 1738, 1739, 1740, 1741] (by decide +kernel) (by decide +kernel)
set_option maxRecDepth 20000 in
theorem gL_law_X10_rate : GoodIn wsL_law (wsV RL 247 RX10 yX10_rate wsX10_rate) := goodIn_app (goodIn_of _ (by decide +kernel)) ggL_law_X10_rate
theorem dL_law_1830 : decode cL_law 1830 = .ok (.invokevirtual 247, 3) := by decide +kernel
theorem dL_law_1833 : decode cL_law 1833 = .ok (.aload_n 2, 1) := by decide +kernel
theorem dL_law_1834 : decode cL_law 1834 = .ok (.aload_n 0, 1) := by decide +kernel
theorem dL_law_1835 : decode cL_law 1835 = .ok (.iload_n 3, 1) := by decide +kernel
theorem dL_law_1836 : decode cL_law 1836 = .ok (.iconst 1, 1) := by decide +kernel
theorem dL_law_1837 : decode cL_law 1837 = .ok (.iadd, 1) := by decide +kernel
theorem dL_law_1838 : decode cL_law 1838 = .ok (.iaload, 1) := by decide +kernel
theorem dL_law_1839 : decode cL_law 1839 = .ok (.aload_n 0, 1) := by decide +kernel
theorem dL_law_1840 : decode cL_law 1840 = .ok (.iload_n 3, 1) := by decide +kernel
theorem dL_law_1841 : decode cL_law 1841 = .ok (.iconst 2, 1) := by decide +kernel
theorem dL_law_1842 : decode cL_law 1842 = .ok (.iadd, 1) := by decide +kernel
theorem dL_law_1843 : decode cL_law 1843 = .ok (.iaload, 1) := by decide +kernel
set_option maxRecDepth 20000 in
theorem ggL_law_X11_rate : GoodIn wsL_law wsX11_rate := goodIn_r _ [1578, 164, 1579, 137, 138, 573, 574, 575, 5, 576, 182, 183, 184, 1683, 1684, 1685, 1686, 1687, 1688, 1689, 1690, 1691, 1692, 1693, 1694, 1695, 1696, 1697, 1698, 1699, 1700, 1701, 1702, 1703, 1704, 1705, 1706, 1707, 1708, 1709, 1710, 1711, 1712, 1713] (by decide +kernel) (by decide +kernel)
set_option maxRecDepth 20000 in
theorem gL_law_X11_rate : GoodIn wsL_law (wsV RL 250 RX11 yX11_rate wsX11_rate) := goodIn_app (goodIn_of _ (by decide +kernel)) ggL_law_X11_rate
theorem dL_law_1844 : decode cL_law 1844 = .ok (.invokevirtual 250, 3) := by decide +kernel
theorem dL_law_1847 : decode cL_law 1847 = .ok (.if_icmp .eq 286, 3) := by decide +kernel
theorem dL_law_1852 : decode cL_law 1852 = .ok (.aload_n 1, 1) := by decide +kernel
theorem dL_law_1853 : decode cL_law 1853 = .ok (.aload_n 0, 1) := by decide +kernel
theorem dL_law_1854 : decode cL_law 1854 = .ok (.iload_n 3, 1) := by decide +kernel
theorem dL_law_1855 : decode cL_law 1855 = .ok (.iconst 1, 1) := by decide +kernel
theorem dL_law_1856 : decode cL_law 1856 = .ok (.iadd, 1) := by decide +kernel
theorem dL_law_1857 : decode cL_law 1857 = .ok (.iaload, 1) := by decide +kernel
theorem dL_law_1858 : decode cL_law 1858 = .ok (.aload_n 0, 1) := by decide +kernel
theorem dL_law_1859 : decode cL_law 1859 = .ok (.iload_n 3, 1) := by decide +kernel
theorem dL_law_1860 : decode cL_law 1860 = .ok (.iconst 2, 1) := by decide +kernel
theorem dL_law_1861 : decode cL_law 1861 = .ok (.iadd, 1) := by decide +kernel
theorem dL_law_1862 : decode cL_law 1862 = .ok (.iaload, 1) := by decide +kernel
set_option maxRecDepth 20000 in
theorem ggL_law_X10_forge : GoodIn wsL_law wsX10_forge := goodIn_r _ [1583, 24, 889, 35, 1584, 530, 531, 532, 2, 533, 528, 534, 535, 320, 321, 39, 322, 323, 559, 560, 561, 64, 562, 72, 77, 386, 1672, 1673, 1674, 1675, 1676, 1677, 1678, 1679, 1680, 1681, 1682, 1724, 1725, 1726, 1727, 1752, 1753, 1754, 1755, 1756, 1757, 1758, 1732, 1733, 1734, 1735, 1736, 1737, 1738, 1739, 1740, 1741] (by decide +kernel) (by decide +kernel)
set_option maxRecDepth 20000 in
theorem gL_law_X10_forge : GoodIn wsL_law (wsV RL 251 RX10 yX10_forge wsX10_forge) := goodIn_app (goodIn_of _ (by decide +kernel)) ggL_law_X10_forge
theorem dL_law_1863 : decode cL_law 1863 = .ok (.invokevirtual 251, 3) := by decide +kernel
theorem dL_law_1866 : decode cL_law 1866 = .ok (.aload_n 2, 1) := by decide +kernel
theorem dL_law_1867 : decode cL_law 1867 = .ok (.aload_n 0, 1) := by decide +kernel
theorem dL_law_1868 : decode cL_law 1868 = .ok (.iload_n 3, 1) := by decide +kernel
theorem dL_law_1869 : decode cL_law 1869 = .ok (.iconst 1, 1) := by decide +kernel
theorem dL_law_1870 : decode cL_law 1870 = .ok (.iadd, 1) := by decide +kernel
theorem dL_law_1871 : decode cL_law 1871 = .ok (.iaload, 1) := by decide +kernel
theorem dL_law_1872 : decode cL_law 1872 = .ok (.aload_n 0, 1) := by decide +kernel
theorem dL_law_1873 : decode cL_law 1873 = .ok (.iload_n 3, 1) := by decide +kernel
theorem dL_law_1874 : decode cL_law 1874 = .ok (.iconst 2, 1) := by decide +kernel
theorem dL_law_1875 : decode cL_law 1875 = .ok (.iadd, 1) := by decide +kernel
theorem dL_law_1876 : decode cL_law 1876 = .ok (.iaload, 1) := by decide +kernel
set_option maxRecDepth 20000 in
theorem ggL_law_X11_forge : GoodIn wsL_law wsX11_forge := goodIn_r _ [1588, 164, 137, 138, 573, 574, 575, 5, 576, 182, 183, 184, 1683, 1684, 1685, 1686, 1687, 1688, 1689, 1690, 1691, 1692, 1693, 1694, 1695, 1696, 1697, 1698, 1699, 1700, 1701, 1702, 1703, 1704, 1705, 1706, 1707, 1708, 1709, 1710, 1711, 1712, 1713] (by decide +kernel) (by decide +kernel)
set_option maxRecDepth 20000 in
theorem gL_law_X11_forge : GoodIn wsL_law (wsV RL 254 RX11 yX11_forge wsX11_forge) := goodIn_app (goodIn_of _ (by decide +kernel)) ggL_law_X11_forge
theorem dL_law_1877 : decode cL_law 1877 = .ok (.invokevirtual 254, 3) := by decide +kernel
theorem dL_law_1880 : decode cL_law 1880 = .ok (.if_icmp .eq 253, 3) := by decide +kernel
theorem dL_law_1885 : decode cL_law 1885 = .ok (.aload_n 1, 1) := by decide +kernel
theorem dL_law_1886 : decode cL_law 1886 = .ok (.aload_n 0, 1) := by decide +kernel
theorem dL_law_1887 : decode cL_law 1887 = .ok (.iload_n 3, 1) := by decide +kernel
theorem dL_law_1888 : decode cL_law 1888 = .ok (.iconst 1, 1) := by decide +kernel
theorem dL_law_1889 : decode cL_law 1889 = .ok (.iadd, 1) := by decide +kernel
theorem dL_law_1890 : decode cL_law 1890 = .ok (.iaload, 1) := by decide +kernel
set_option maxRecDepth 20000 in
theorem ggL_law_X10_count : GoodIn wsL_law wsX10_count := goodIn_r _ [1592, 917, 24, 35, 1593, 889, 190, 16, 149, 31, 544, 545, 546, 2, 547, 528, 534, 627, 628, 629, 39, 630, 631, 550, 551, 552, 323, 553, 330, 331, 332, 81, 319, 320, 321, 322, 1033, 923, 924, 925, 926, 927, 928, 1594, 1595, 1596, 64, 1597, 72, 203, 1598, 560, 561, 562, 77, 386, 1599, 1600, 1601, 30, 1602, 1147, 1603, 1740, 1741, 1672, 1673, 1674, 1675, 1676, 1677, 1678, 1679, 1680, 1681, 1682, 1724, 1725, 1726, 1727, 1752, 1753, 1754, 1755, 1756, 1757, 1758, 1714, 1715, 1732, 1733, 1734, 1735, 1736, 1737, 1738, 1739, 1728, 1729, 1730, 1731] (by decide +kernel) (by decide +kernel)
set_option maxRecDepth 20000 in
theorem gL_law_X10_count : GoodIn wsL_law (wsV RL 255 RX10 yX10_count wsX10_count) := goodIn_app (goodIn_of _ (by decide +kernel)) ggL_law_X10_count
theorem dL_law_1891 : decode cL_law 1891 = .ok (.invokevirtual 255, 3) := by decide +kernel
theorem dL_law_1894 : decode cL_law 1894 = .ok (.aload_n 2, 1) := by decide +kernel
theorem dL_law_1895 : decode cL_law 1895 = .ok (.aload_n 0, 1) := by decide +kernel
theorem dL_law_1896 : decode cL_law 1896 = .ok (.iload_n 3, 1) := by decide +kernel
theorem dL_law_1897 : decode cL_law 1897 = .ok (.iconst 1, 1) := by decide +kernel
theorem dL_law_1898 : decode cL_law 1898 = .ok (.iadd, 1) := by decide +kernel
theorem dL_law_1899 : decode cL_law 1899 = .ok (.iaload, 1) := by decide +kernel
set_option maxRecDepth 20000 in
theorem ggL_law_X11_count : GoodIn wsL_law wsX11_count := goodIn_r _ [1607, 164, 137, 136, 165, 130, 577, 578, 579, 5, 580, 139, 581, 582, 583, 584, 141, 142, 143, 572, 585, 586, 587, 588, 589, 590, 591, 138, 592, 593, 594, 595, 596, 597, 598, 599, 600, 601, 602, 603, 604, 605, 606, 607, 608, 609, 610, 640, 641, 642, 643, 937, 938, 939, 1683, 1684, 1685, 1686, 1687, 1688, 1689, 1690, 1691, 1692, 1693, 1694, 1695, 1696, 1697, 1698, 1699, 1700, 1701, 1702, 1703, 1704, 1705, 1706, 1707, 1708, 1709, 1710, 1711, 1712, 1713] (by decide +kernel) (by decide +kernel)
set_option maxRecDepth 20000 in
theorem gL_law_X11_count : GoodIn wsL_law (wsV RL 258 RX11 yX11_count wsX11_count) := goodIn_app (goodIn_of _ (by decide +kernel)) ggL_law_X11_count
theorem dL_law_1900 : decode cL_law 1900 = .ok (.invokevirtual 258, 3) := by decide +kernel
theorem dL_law_1903 : decode cL_law 1903 = .ok (.if_icmp .eq 230, 3) := by decide +kernel
theorem dL_law_1908 : decode cL_law 1908 = .ok (.aload_n 1, 1) := by decide +kernel
theorem dL_law_1909 : decode cL_law 1909 = .ok (.aload_n 0, 1) := by decide +kernel
theorem dL_law_1910 : decode cL_law 1910 = .ok (.iload_n 3, 1) := by decide +kernel
theorem dL_law_1911 : decode cL_law 1911 = .ok (.iconst 1, 1) := by decide +kernel
theorem dL_law_1912 : decode cL_law 1912 = .ok (.iadd, 1) := by decide +kernel
theorem dL_law_1913 : decode cL_law 1913 = .ok (.iaload, 1) := by decide +kernel
set_option maxRecDepth 20000 in
theorem ggL_law_X10_image : GoodIn wsL_law wsX10_image := goodIn_r _ [1611, 25, 24, 27, 1612, 1613, 1614, 23, 1615, 86, 89, 1616, 348, 349, 350, 360, 343, 344, 345, 64, 346, 72, 74, 347, 75, 76, 77, 204, 205, 351, 352, 353, 39, 354, 323, 81, 355, 356, 357, 358, 359, 88, 361, 362, 363, 34, 364, 95, 98, 365, 96, 366, 367, 368, 369, 370, 371, 372, 373, 374, 375, 376, 377, 378, 379, 380, 381, 320, 321, 322, 382, 383, 384, 385, 386, 387, 316, 317, 318, 319, 388, 389, 390, 391, 392, 393, 330, 331, 332, 394, 395, 396, 397, 97, 398, 399, 400, 401, 402, 403, 2, 404, 1672, 1673, 1674, 1675, 1676, 1677, 1678, 1679, 1680, 1681, 1682, 1724, 1725, 1726, 1727, 1752, 1753, 1754, 1755, 1756, 1757, 1758, 1740, 1741, 1732, 1733, 1734, 1735, 1736, 1737, 1738, 1739] (by decide +kernel) (by decide +kernel)
set_option maxRecDepth 20000 in
theorem gL_law_X10_image : GoodIn wsL_law (wsV RL 259 RX10 yX10_image wsX10_image) := goodIn_app (goodIn_of _ (by decide +kernel)) ggL_law_X10_image
theorem dL_law_1914 : decode cL_law 1914 = .ok (.invokevirtual 259, 3) := by decide +kernel
theorem dL_law_1917 : decode cL_law 1917 = .ok (.aload_n 2, 1) := by decide +kernel
theorem dL_law_1918 : decode cL_law 1918 = .ok (.aload_n 0, 1) := by decide +kernel
theorem dL_law_1919 : decode cL_law 1919 = .ok (.iload_n 3, 1) := by decide +kernel
theorem dL_law_1920 : decode cL_law 1920 = .ok (.iconst 1, 1) := by decide +kernel
theorem dL_law_1921 : decode cL_law 1921 = .ok (.iadd, 1) := by decide +kernel
theorem dL_law_1922 : decode cL_law 1922 = .ok (.iaload, 1) := by decide +kernel
set_option maxRecDepth 20000 in
theorem ggL_law_X11_image : GoodIn wsL_law wsX11_image := goodIn_r _ [1620, 164, 1621, 140, 182, 183, 5, 184, 507, 508, 509, 510, 136, 137, 138, 139, 511, 512, 513, 1683, 1684, 1685, 1686, 1687, 1688, 1689, 1690, 1691, 1692, 1693, 1694, 1695, 1696, 1697, 1698, 1699, 1700, 1701, 1702, 1703, 1704, 1705, 1706, 1707, 1708, 1709, 1710, 1711, 1712, 1713] (by decide +kernel) (by decide +kernel)
set_option maxRecDepth 20000 in
theorem gL_law_X11_image : GoodIn wsL_law (wsV RL 262 RX11 yX11_image wsX11_image) := goodIn_app (goodIn_of _ (by decide +kernel)) ggL_law_X11_image
theorem dL_law_1923 : decode cL_law 1923 = .ok (.invokevirtual 262, 3) := by decide +kernel
theorem dL_law_1926 : decode cL_law 1926 = .ok (.if_icmp .eq 207, 3) := by decide +kernel
theorem dL_law_1931 : decode cL_law 1931 = .ok (.aload_n 1, 1) := by decide +kernel
theorem dL_law_1932 : decode cL_law 1932 = .ok (.aload_n 0, 1) := by decide +kernel
theorem dL_law_1933 : decode cL_law 1933 = .ok (.iload_n 3, 1) := by decide +kernel
theorem dL_law_1934 : decode cL_law 1934 = .ok (.iconst 1, 1) := by decide +kernel
theorem dL_law_1935 : decode cL_law 1935 = .ok (.iadd, 1) := by decide +kernel
theorem dL_law_1936 : decode cL_law 1936 = .ok (.iaload, 1) := by decide +kernel
set_option maxRecDepth 20000 in
theorem ggL_law_X10_back : GoodIn wsL_law wsX10_back := goodIn_r _ [1625, 27, 24, 25, 1612, 1613, 1614, 23, 1615, 86, 89, 1616, 348, 349, 350, 360, 343, 344, 345, 64, 346, 72, 74, 347, 75, 76, 77, 204, 205, 351, 352, 353, 39, 354, 323, 81, 355, 356, 357, 358, 359, 88, 361, 362, 363, 34, 364, 95, 98, 365, 96, 366, 367, 368, 369, 370, 371, 372, 373, 374, 375, 376, 377, 378, 379, 380, 381, 320, 321, 322, 382, 383, 384, 385, 386, 387, 316, 317, 318, 319, 388, 389, 390, 391, 392, 393, 330, 331, 332, 394, 395, 396, 397, 97, 398, 399, 400, 401, 402, 403, 2, 404, 1672, 1673, 1674, 1675, 1676, 1677, 1678, 1679, 1680, 1681, 1682, 1724, 1725, 1726, 1727, 1752, 1753, 1754, 1755, 1756, 1757, 1758, 1740, 1741, 1732, 1733, 1734, 1735, 1736, 1737, 1738, 1739] (by decide +kernel) (by decide +kernel)
set_option maxRecDepth 20000 in
theorem gL_law_X10_back : GoodIn wsL_law (wsV RL 263 RX10 yX10_back wsX10_back) := goodIn_app (goodIn_of _ (by decide +kernel)) ggL_law_X10_back
theorem dL_law_1937 : decode cL_law 1937 = .ok (.invokevirtual 263, 3) := by decide +kernel
theorem dL_law_1940 : decode cL_law 1940 = .ok (.aload_n 2, 1) := by decide +kernel
theorem dL_law_1941 : decode cL_law 1941 = .ok (.aload_n 0, 1) := by decide +kernel
theorem dL_law_1942 : decode cL_law 1942 = .ok (.iload_n 3, 1) := by decide +kernel
theorem dL_law_1943 : decode cL_law 1943 = .ok (.iconst 1, 1) := by decide +kernel
theorem dL_law_1944 : decode cL_law 1944 = .ok (.iadd, 1) := by decide +kernel
theorem dL_law_1945 : decode cL_law 1945 = .ok (.iaload, 1) := by decide +kernel
set_option maxRecDepth 20000 in
theorem ggL_law_X11_back : GoodIn wsL_law wsX11_back := goodIn_r _ [1629, 164, 1621, 140, 182, 183, 5, 184, 507, 508, 509, 510, 136, 137, 138, 139, 511, 512, 513, 1683, 1684, 1685, 1686, 1687, 1688, 1689, 1690, 1691, 1692, 1693, 1694, 1695, 1696, 1697, 1698, 1699, 1700, 1701, 1702, 1703, 1704, 1705, 1706, 1707, 1708, 1709, 1710, 1711, 1712, 1713] (by decide +kernel) (by decide +kernel)
set_option maxRecDepth 20000 in
theorem gL_law_X11_back : GoodIn wsL_law (wsV RL 266 RX11 yX11_back wsX11_back) := goodIn_app (goodIn_of _ (by decide +kernel)) ggL_law_X11_back
theorem dL_law_1946 : decode cL_law 1946 = .ok (.invokevirtual 266, 3) := by decide +kernel
theorem dL_law_1949 : decode cL_law 1949 = .ok (.if_icmp .eq 184, 3) := by decide +kernel
theorem dL_law_1954 : decode cL_law 1954 = .ok (.aload_n 1, 1) := by decide +kernel
theorem dL_law_1955 : decode cL_law 1955 = .ok (.aload_n 0, 1) := by decide +kernel
theorem dL_law_1956 : decode cL_law 1956 = .ok (.iload_n 3, 1) := by decide +kernel
theorem dL_law_1957 : decode cL_law 1957 = .ok (.iconst 1, 1) := by decide +kernel
theorem dL_law_1958 : decode cL_law 1958 = .ok (.iadd, 1) := by decide +kernel
theorem dL_law_1959 : decode cL_law 1959 = .ok (.iaload, 1) := by decide +kernel
theorem dL_law_1960 : decode cL_law 1960 = .ok (.aload_n 0, 1) := by decide +kernel
theorem dL_law_1961 : decode cL_law 1961 = .ok (.iload_n 3, 1) := by decide +kernel
theorem dL_law_1962 : decode cL_law 1962 = .ok (.iconst 2, 1) := by decide +kernel
theorem dL_law_1963 : decode cL_law 1963 = .ok (.iadd, 1) := by decide +kernel
theorem dL_law_1964 : decode cL_law 1964 = .ok (.iaload, 1) := by decide +kernel
theorem dL_law_1965 : decode cL_law 1965 = .ok (.aload_n 0, 1) := by decide +kernel
theorem dL_law_1966 : decode cL_law 1966 = .ok (.iload_n 3, 1) := by decide +kernel
theorem dL_law_1967 : decode cL_law 1967 = .ok (.iconst 3, 1) := by decide +kernel
theorem dL_law_1968 : decode cL_law 1968 = .ok (.iadd, 1) := by decide +kernel
theorem dL_law_1969 : decode cL_law 1969 = .ok (.iaload, 1) := by decide +kernel
set_option maxRecDepth 20000 in
theorem ggL_law_X10_row : GoodIn wsL_law wsX10_row := goodIn_r _ [1633, 31, 1139, 1140, 1141, 30, 1142, 1634, 1635, 1636, 1637, 1147, 105, 106, 104, 1148, 1672, 1673, 1674, 1675, 1676, 1677, 1678, 1679, 1680, 1681, 1682, 1728, 1729, 1730, 1731] (by decide +kernel) (by decide +kernel)
set_option maxRecDepth 20000 in
theorem gL_law_X10_row : GoodIn wsL_law (wsV RL 267 RX10 yX10_row wsX10_row) := goodIn_app (goodIn_of _ (by decide +kernel)) ggL_law_X10_row
theorem dL_law_1970 : decode cL_law 1970 = .ok (.invokevirtual 267, 3) := by decide +kernel
theorem dL_law_1973 : decode cL_law 1973 = .ok (.aload_n 2, 1) := by decide +kernel
theorem dL_law_1974 : decode cL_law 1974 = .ok (.aload_n 0, 1) := by decide +kernel
theorem dL_law_1975 : decode cL_law 1975 = .ok (.iload_n 3, 1) := by decide +kernel
theorem dL_law_1976 : decode cL_law 1976 = .ok (.iconst 1, 1) := by decide +kernel
theorem dL_law_1977 : decode cL_law 1977 = .ok (.iadd, 1) := by decide +kernel
theorem dL_law_1978 : decode cL_law 1978 = .ok (.iaload, 1) := by decide +kernel
theorem dL_law_1979 : decode cL_law 1979 = .ok (.aload_n 0, 1) := by decide +kernel
theorem dL_law_1980 : decode cL_law 1980 = .ok (.iload_n 3, 1) := by decide +kernel
theorem dL_law_1981 : decode cL_law 1981 = .ok (.iconst 2, 1) := by decide +kernel
theorem dL_law_1982 : decode cL_law 1982 = .ok (.iadd, 1) := by decide +kernel
theorem dL_law_1983 : decode cL_law 1983 = .ok (.iaload, 1) := by decide +kernel
theorem dL_law_1984 : decode cL_law 1984 = .ok (.aload_n 0, 1) := by decide +kernel
theorem dL_law_1985 : decode cL_law 1985 = .ok (.iload_n 3, 1) := by decide +kernel
theorem dL_law_1986 : decode cL_law 1986 = .ok (.iconst 3, 1) := by decide +kernel
theorem dL_law_1987 : decode cL_law 1987 = .ok (.iadd, 1) := by decide +kernel
theorem dL_law_1988 : decode cL_law 1988 = .ok (.iaload, 1) := by decide +kernel
set_option maxRecDepth 20000 in
theorem ggL_law_X11_row : GoodIn wsL_law wsX11_row := goodIn_r _ [1641, 164, 912, 130, 131, 132, 1180, 1181, 5, 1182, 182, 183, 184, 1683, 1684, 1685, 1686, 1687, 1688, 1689, 1690, 1691, 1692, 1693, 1694, 1695, 1696, 1697, 1698, 1699, 1700, 1701, 1702, 1703, 1704, 1705, 1706, 1707, 1708, 1709, 1710, 1711, 1712, 1713] (by decide +kernel) (by decide +kernel)
set_option maxRecDepth 20000 in
theorem gL_law_X11_row : GoodIn wsL_law (wsV RL 270 RX11 yX11_row wsX11_row) := goodIn_app (goodIn_of _ (by decide +kernel)) ggL_law_X11_row
theorem dL_law_1989 : decode cL_law 1989 = .ok (.invokevirtual 270, 3) := by decide +kernel
theorem dL_law_1992 : decode cL_law 1992 = .ok (.if_icmp .eq 141, 3) := by decide +kernel
theorem dL_law_1997 : decode cL_law 1997 = .ok (.aload_n 1, 1) := by decide +kernel
theorem dL_law_1998 : decode cL_law 1998 = .ok (.aload_n 0, 1) := by decide +kernel
theorem dL_law_1999 : decode cL_law 1999 = .ok (.iload_n 3, 1) := by decide +kernel
theorem dL_law_2000 : decode cL_law 2000 = .ok (.iconst 1, 1) := by decide +kernel
theorem dL_law_2001 : decode cL_law 2001 = .ok (.iadd, 1) := by decide +kernel
theorem dL_law_2002 : decode cL_law 2002 = .ok (.iaload, 1) := by decide +kernel
theorem dL_law_2003 : decode cL_law 2003 = .ok (.aload_n 0, 1) := by decide +kernel
theorem dL_law_2004 : decode cL_law 2004 = .ok (.iload_n 3, 1) := by decide +kernel
theorem dL_law_2005 : decode cL_law 2005 = .ok (.iconst 2, 1) := by decide +kernel
theorem dL_law_2006 : decode cL_law 2006 = .ok (.iadd, 1) := by decide +kernel
theorem dL_law_2007 : decode cL_law 2007 = .ok (.iaload, 1) := by decide +kernel
theorem dL_law_2008 : decode cL_law 2008 = .ok (.aload_n 0, 1) := by decide +kernel
theorem dL_law_2009 : decode cL_law 2009 = .ok (.iload_n 3, 1) := by decide +kernel
theorem dL_law_2010 : decode cL_law 2010 = .ok (.iconst 3, 1) := by decide +kernel
theorem dL_law_2011 : decode cL_law 2011 = .ok (.iadd, 1) := by decide +kernel
theorem dL_law_2012 : decode cL_law 2012 = .ok (.iaload, 1) := by decide +kernel
theorem dL_law_2013 : decode cL_law 2013 = .ok (.i2l, 1) := by decide +kernel
theorem dL_law_2014 : decode cL_law 2014 = .ok (.bipush 32, 2) := by decide +kernel
theorem dL_law_2016 : decode cL_law 2016 = .ok (.lshl, 1) := by decide +kernel
theorem dL_law_2017 : decode cL_law 2017 = .ok (.aload_n 0, 1) := by decide +kernel
theorem dL_law_2018 : decode cL_law 2018 = .ok (.iload_n 3, 1) := by decide +kernel
theorem dL_law_2019 : decode cL_law 2019 = .ok (.iconst 4, 1) := by decide +kernel
theorem dL_law_2020 : decode cL_law 2020 = .ok (.iadd, 1) := by decide +kernel
theorem dL_law_2021 : decode cL_law 2021 = .ok (.iaload, 1) := by decide +kernel
theorem dL_law_2022 : decode cL_law 2022 = .ok (.i2l, 1) := by decide +kernel
theorem dL_law_2023 : decode cL_law 2023 = .ok (.ldc2_w 271, 3) := by decide +kernel
theorem dL_law_2026 : decode cL_law 2026 = .ok (.land, 1) := by decide +kernel
theorem dL_law_2027 : decode cL_law 2027 = .ok (.lor, 1) := by decide +kernel
set_option maxRecDepth 20000 in
theorem ggL_law_X10_write : GoodIn wsL_law wsX10_write := goodIn_r _ [1645, 31, 1139, 1140, 1141, 30, 1142, 1143, 1144, 1145, 1146, 1147, 1148, 403, 2, 404, 1646, 1158, 1159, 1160, 1161, 1150, 1151, 1152, 106, 1647, 1648, 1649, 1650, 104, 105, 1157, 1651, 1652, 1653, 1672, 1673, 1674, 1675, 1676, 1677, 1678, 1679, 1680, 1681, 1682, 1728, 1729, 1730, 1731] (by decide +kernel) (by decide +kernel)
set_option maxRecDepth 20000 in
theorem gL_law_X10_write : GoodIn wsL_law (wsV RL 273 RX10 yX10_write wsX10_write) := goodIn_app (goodIn_of _ (by decide +kernel)) ggL_law_X10_write
theorem dL_law_2028 : decode cL_law 2028 = .ok (.invokevirtual 273, 3) := by decide +kernel
theorem dL_law_2031 : decode cL_law 2031 = .ok (.aload_n 2, 1) := by decide +kernel
theorem dL_law_2032 : decode cL_law 2032 = .ok (.aload_n 0, 1) := by decide +kernel
theorem dL_law_2033 : decode cL_law 2033 = .ok (.iload_n 3, 1) := by decide +kernel
theorem dL_law_2034 : decode cL_law 2034 = .ok (.iconst 1, 1) := by decide +kernel
theorem dL_law_2035 : decode cL_law 2035 = .ok (.iadd, 1) := by decide +kernel
theorem dL_law_2036 : decode cL_law 2036 = .ok (.iaload, 1) := by decide +kernel
theorem dL_law_2037 : decode cL_law 2037 = .ok (.aload_n 0, 1) := by decide +kernel
theorem dL_law_2038 : decode cL_law 2038 = .ok (.iload_n 3, 1) := by decide +kernel
theorem dL_law_2039 : decode cL_law 2039 = .ok (.iconst 2, 1) := by decide +kernel
theorem dL_law_2040 : decode cL_law 2040 = .ok (.iadd, 1) := by decide +kernel
theorem dL_law_2041 : decode cL_law 2041 = .ok (.iaload, 1) := by decide +kernel
theorem dL_law_2042 : decode cL_law 2042 = .ok (.aload_n 0, 1) := by decide +kernel
theorem dL_law_2043 : decode cL_law 2043 = .ok (.iload_n 3, 1) := by decide +kernel
theorem dL_law_2044 : decode cL_law 2044 = .ok (.iconst 3, 1) := by decide +kernel
theorem dL_law_2045 : decode cL_law 2045 = .ok (.iadd, 1) := by decide +kernel
theorem dL_law_2046 : decode cL_law 2046 = .ok (.iaload, 1) := by decide +kernel
theorem dL_law_2047 : decode cL_law 2047 = .ok (.i2l, 1) := by decide +kernel
theorem dL_law_2048 : decode cL_law 2048 = .ok (.bipush 32, 2) := by decide +kernel
theorem dL_law_2050 : decode cL_law 2050 = .ok (.lshl, 1) := by decide +kernel
theorem dL_law_2051 : decode cL_law 2051 = .ok (.aload_n 0, 1) := by decide +kernel
theorem dL_law_2052 : decode cL_law 2052 = .ok (.iload_n 3, 1) := by decide +kernel
theorem dL_law_2053 : decode cL_law 2053 = .ok (.iconst 4, 1) := by decide +kernel
theorem dL_law_2054 : decode cL_law 2054 = .ok (.iadd, 1) := by decide +kernel
theorem dL_law_2055 : decode cL_law 2055 = .ok (.iaload, 1) := by decide +kernel
theorem dL_law_2056 : decode cL_law 2056 = .ok (.i2l, 1) := by decide +kernel
theorem dL_law_2057 : decode cL_law 2057 = .ok (.ldc2_w 271, 3) := by decide +kernel
theorem dL_law_2060 : decode cL_law 2060 = .ok (.land, 1) := by decide +kernel
theorem dL_law_2061 : decode cL_law 2061 = .ok (.lor, 1) := by decide +kernel
set_option maxRecDepth 20000 in
theorem ggL_law_X11_write : GoodIn wsL_law wsX11_write := goodIn_r _ [1657, 164, 130, 131, 132, 1180, 1181, 5, 1182, 912, 182, 183, 184, 1658, 1659, 1660, 1683, 1684, 1685, 1686, 1687, 1688, 1689, 1690, 1691, 1692, 1693, 1694, 1695, 1696, 1697, 1698, 1699, 1700, 1701, 1702, 1703, 1704, 1705, 1706, 1707, 1708, 1709, 1710, 1711, 1712, 1713] (by decide +kernel) (by decide +kernel)
set_option maxRecDepth 20000 in
theorem gL_law_X11_write : GoodIn wsL_law (wsV RL 277 RX11 yX11_write wsX11_write) := goodIn_app (goodIn_of _ (by decide +kernel)) ggL_law_X11_write
theorem dL_law_2062 : decode cL_law 2062 = .ok (.invokevirtual 277, 3) := by decide +kernel
theorem dL_law_2065 : decode cL_law 2065 = .ok (.if_icmp .eq 68, 3) := by decide +kernel
theorem dL_law_2070 : decode cL_law 2070 = .ok (.aload_n 1, 1) := by decide +kernel
theorem dL_law_2071 : decode cL_law 2071 = .ok (.aload_n 0, 1) := by decide +kernel
theorem dL_law_2072 : decode cL_law 2072 = .ok (.iload_n 3, 1) := by decide +kernel
theorem dL_law_2073 : decode cL_law 2073 = .ok (.iconst 1, 1) := by decide +kernel
theorem dL_law_2074 : decode cL_law 2074 = .ok (.iadd, 1) := by decide +kernel
theorem dL_law_2075 : decode cL_law 2075 = .ok (.iaload, 1) := by decide +kernel
theorem dL_law_2076 : decode cL_law 2076 = .ok (.aload_n 0, 1) := by decide +kernel
theorem dL_law_2077 : decode cL_law 2077 = .ok (.iload_n 3, 1) := by decide +kernel
theorem dL_law_2078 : decode cL_law 2078 = .ok (.iconst 2, 1) := by decide +kernel
theorem dL_law_2079 : decode cL_law 2079 = .ok (.iadd, 1) := by decide +kernel
theorem dL_law_2080 : decode cL_law 2080 = .ok (.iaload, 1) := by decide +kernel
theorem dL_law_2081 : decode cL_law 2081 = .ok (.aload_n 0, 1) := by decide +kernel
theorem dL_law_2082 : decode cL_law 2082 = .ok (.iload_n 3, 1) := by decide +kernel
theorem dL_law_2083 : decode cL_law 2083 = .ok (.iconst 3, 1) := by decide +kernel
theorem dL_law_2084 : decode cL_law 2084 = .ok (.iadd, 1) := by decide +kernel
theorem dL_law_2085 : decode cL_law 2085 = .ok (.iaload, 1) := by decide +kernel
theorem dL_law_2086 : decode cL_law 2086 = .ok (.aload_n 0, 1) := by decide +kernel
theorem dL_law_2087 : decode cL_law 2087 = .ok (.iload_n 3, 1) := by decide +kernel
theorem dL_law_2088 : decode cL_law 2088 = .ok (.iconst 4, 1) := by decide +kernel
theorem dL_law_2089 : decode cL_law 2089 = .ok (.iadd, 1) := by decide +kernel
theorem dL_law_2090 : decode cL_law 2090 = .ok (.iaload, 1) := by decide +kernel
theorem dL_law_2091 : decode cL_law 2091 = .ok (.aload_n 0, 1) := by decide +kernel
theorem dL_law_2092 : decode cL_law 2092 = .ok (.iload_n 3, 1) := by decide +kernel
theorem dL_law_2093 : decode cL_law 2093 = .ok (.iconst 5, 1) := by decide +kernel
theorem dL_law_2094 : decode cL_law 2094 = .ok (.iadd, 1) := by decide +kernel
theorem dL_law_2095 : decode cL_law 2095 = .ok (.iaload, 1) := by decide +kernel
set_option maxRecDepth 20000 in
theorem ggL_law_X10_paste : GoodIn wsL_law wsX10_paste := goodIn_r _ [1664, 31, 1665, 1666, 1667, 348, 349, 350, 1139, 1140, 1141, 30, 1142, 1143, 1144, 1145, 1146, 1147, 1148, 403, 2, 404, 1646, 1158, 1159, 1160, 1161, 1150, 1151, 1152, 106, 1672, 1673, 1674, 1675, 1676, 1677, 1678, 1679, 1680, 1681, 1682, 1728, 1729, 1730, 1731] (by decide +kernel) (by decide +kernel)
set_option maxRecDepth 20000 in
theorem gL_law_X10_paste : GoodIn wsL_law (wsV RL 278 RX10 yX10_paste wsX10_paste) := goodIn_app (goodIn_of _ (by decide +kernel)) ggL_law_X10_paste
theorem dL_law_2096 : decode cL_law 2096 = .ok (.invokevirtual 278, 3) := by decide +kernel
theorem dL_law_2099 : decode cL_law 2099 = .ok (.aload_n 2, 1) := by decide +kernel
theorem dL_law_2100 : decode cL_law 2100 = .ok (.aload_n 0, 1) := by decide +kernel
theorem dL_law_2101 : decode cL_law 2101 = .ok (.iload_n 3, 1) := by decide +kernel
theorem dL_law_2102 : decode cL_law 2102 = .ok (.iconst 1, 1) := by decide +kernel
theorem dL_law_2103 : decode cL_law 2103 = .ok (.iadd, 1) := by decide +kernel
theorem dL_law_2104 : decode cL_law 2104 = .ok (.iaload, 1) := by decide +kernel
theorem dL_law_2105 : decode cL_law 2105 = .ok (.aload_n 0, 1) := by decide +kernel
theorem dL_law_2106 : decode cL_law 2106 = .ok (.iload_n 3, 1) := by decide +kernel
theorem dL_law_2107 : decode cL_law 2107 = .ok (.iconst 2, 1) := by decide +kernel
theorem dL_law_2108 : decode cL_law 2108 = .ok (.iadd, 1) := by decide +kernel
theorem dL_law_2109 : decode cL_law 2109 = .ok (.iaload, 1) := by decide +kernel
theorem dL_law_2110 : decode cL_law 2110 = .ok (.aload_n 0, 1) := by decide +kernel
theorem dL_law_2111 : decode cL_law 2111 = .ok (.iload_n 3, 1) := by decide +kernel
theorem dL_law_2112 : decode cL_law 2112 = .ok (.iconst 3, 1) := by decide +kernel
theorem dL_law_2113 : decode cL_law 2113 = .ok (.iadd, 1) := by decide +kernel
theorem dL_law_2114 : decode cL_law 2114 = .ok (.iaload, 1) := by decide +kernel
theorem dL_law_2115 : decode cL_law 2115 = .ok (.aload_n 0, 1) := by decide +kernel
theorem dL_law_2116 : decode cL_law 2116 = .ok (.iload_n 3, 1) := by decide +kernel
theorem dL_law_2117 : decode cL_law 2117 = .ok (.iconst 4, 1) := by decide +kernel
theorem dL_law_2118 : decode cL_law 2118 = .ok (.iadd, 1) := by decide +kernel
theorem dL_law_2119 : decode cL_law 2119 = .ok (.iaload, 1) := by decide +kernel
theorem dL_law_2120 : decode cL_law 2120 = .ok (.aload_n 0, 1) := by decide +kernel
theorem dL_law_2121 : decode cL_law 2121 = .ok (.iload_n 3, 1) := by decide +kernel
theorem dL_law_2122 : decode cL_law 2122 = .ok (.iconst 5, 1) := by decide +kernel
theorem dL_law_2123 : decode cL_law 2123 = .ok (.iadd, 1) := by decide +kernel
theorem dL_law_2124 : decode cL_law 2124 = .ok (.iaload, 1) := by decide +kernel
set_option maxRecDepth 20000 in
theorem ggL_law_X11_paste : GoodIn wsL_law wsX11_paste := goodIn_r _ [1671, 164, 130, 131, 133, 132, 1180, 1181, 5, 1182, 912, 182, 183, 184, 1683, 1684, 1685, 1686, 1687, 1688, 1689, 1690, 1691, 1692, 1693, 1694, 1695, 1696, 1697, 1698, 1699, 1700, 1701, 1702, 1703, 1704, 1705, 1706, 1707, 1708, 1709, 1710, 1711, 1712, 1713] (by decide +kernel) (by decide +kernel)
set_option maxRecDepth 20000 in
theorem gL_law_X11_paste : GoodIn wsL_law (wsV RL 281 RX11 yX11_paste wsX11_paste) := goodIn_app (goodIn_of _ (by decide +kernel)) ggL_law_X11_paste
theorem dL_law_2125 : decode cL_law 2125 = .ok (.invokevirtual 281, 3) := by decide +kernel
theorem dL_law_2128 : decode cL_law 2128 = .ok (.if_icmp .eq 5, 3) := by decide +kernel
set_option maxHeartbeats 4000000 in
set_option maxRecDepth 100000 in
theorem law_c55 {p : Program} {e : Env} {s : State} {m : MethodId} {below : List Frame} {meth : Method} {c : Code} (l : Launch) {b L : Nat} {xs : Nat → Int32} (C0 : lw_At p s m meth c b L xs) (h6 : L = 6) (G : va_G) (ct : Nat → ClassId) (a rr bm : Nat → Nat) (H : Heap) (locs : List Loc) (hK : KK G ct s) (hPx : va_P G vwCl (xF a rr ct) H) (hPm : va_P G vwCl (mF bm ct) H) (hDx : va_D (fun q : Nat => s.heap.size ≤ q) (xF a rr ct)) (hDm : va_D (fun q : Nat => s.heap.size ≤ q) (mF bm ct)) (hap : ∀ q, aset (xF a rr ct) q → ¬ aset (mF bm ct) q) (hS : va_S (fun q : Nat => s.heap.size ≤ q) s.heap H locs) (ls : Array Slot) (hl : lv_has ls 4 [(3, .int 0), (2, .ref (bm 0)), (1, .ref (a 0)), (0, .ref b)]) : W p l e room_1 s m #[Value.ref b] below meth c H locs 110 5410 (lw_Z below #[Value.ref b] s) (F0 m 1743 ls []) := by
  have C1 := C0
  obtain ⟨hx, hb, hr, hml, hown, hts, hX, hbl, hlocks, hgv⟩ := C0
  subst h6
  have hown : s.vm.findClass RL = some m.cls := hown
  have hts : ∀ z ∈ wsL_law, z.before #[Value.ref b] s = true := fun z h => hts z (wsL_law_in z h)
  have hbA : ¬ (fun q : Nat => s.heap.size ≤ q) b := Nat.not_le.mpr hbl
  refine lv_aload_n hx hb dL_law_1743 rfl (lv_at hl 2 rfl) ?_
  refine lv_aload_n hx hb dL_law_1744 rfl (lv_at hl 3 rfl) ?_
  refine lv_iload_n hx hb dL_law_1745 rfl (lv_at hl 0 rfl) ?_
  refine lv_iconst (v := 1) hx hb dL_law_1746 (by decide) ?_
  refine lv_iadd hx hb dL_law_1747 ?_
  refine ix_i (y := 1) (by decide) ?_
  refine va_sld hx hb hX hbl hbA hS (in_lit (by decide)) dL_law_1748 ?_
  refine lv_aload_n hx hb dL_law_1749 rfl (lv_at hl 3 rfl) ?_
  refine lv_iload_n hx hb dL_law_1750 rfl (lv_at hl 0 rfl) ?_
  refine lv_iconst (v := 2) hx hb dL_law_1751 (by decide) ?_
  refine lv_iadd hx hb dL_law_1752 ?_
  refine ix_i (y := 2) (by decide) ?_
  refine va_sld hx hb hX hbl hbA hS (in_lit (by decide)) dL_law_1753 ?_
  refine lv_aload_n hx hb dL_law_1754 rfl (lv_at hl 3 rfl) ?_
  refine lv_iload_n hx hb dL_law_1755 rfl (lv_at hl 0 rfl) ?_
  refine lv_iconst (v := 3) hx hb dL_law_1756 (by decide) ?_
  refine lv_iadd hx hb dL_law_1757 ?_
  refine ix_i (y := 3) (by decide) ?_
  refine va_sld hx hb hX hbl hbA hS (in_lit (by decide)) dL_law_1758 ?_
  refine ro_calli (va_runV (As := [.int (xs (1 : Int32).toNatClampNeg), .int (xs (2 : Int32).toNatClampNeg), .int (xs (3 : Int32).toNatClampNeg)]) (rest := []) ⟨hx, hb, hml, hown, hts⟩ (c_X10_luck l G ct a rr (xs (1 : Int32).toNatClampNeg) (xs (2 : Int32).toNatClampNeg) (xs (3 : Int32).toNatClampNeg)) (cwV 3 hts gL_law_X10_luck rfl rfl rfl (by decide +kernel) ⟨Nat.le_of_ble_eq_true rfl, Nat.le_of_ble_eq_true rfl⟩) (ro_preV 10 0 hK hPx rfl rfl) rfl rfl hl.1 rfl (lv_room (Nat.le_of_ble_eq_true rfl)) dL_law_1759 ⟨Nat.le_of_ble_eq_true rfl, Nat.le_of_ble_eq_true rfl⟩) hS hPm (fun r1 H locs wr1 hPm hS => ?_)
  refine lv_aload_n hx hb dL_law_1762 rfl (lv_at hl 1 rfl) ?_
  refine lv_aload_n hx hb dL_law_1763 rfl (lv_at hl 3 rfl) ?_
  refine lv_iload_n hx hb dL_law_1764 rfl (lv_at hl 0 rfl) ?_
  refine lv_iconst (v := 1) hx hb dL_law_1765 (by decide) ?_
  refine lv_iadd hx hb dL_law_1766 ?_
  refine ix_i (y := 1) (by decide) ?_
  refine va_sld hx hb hX hbl hbA hS (in_lit (by decide)) dL_law_1767 ?_
  refine lv_aload_n hx hb dL_law_1768 rfl (lv_at hl 3 rfl) ?_
  refine lv_iload_n hx hb dL_law_1769 rfl (lv_at hl 0 rfl) ?_
  refine lv_iconst (v := 2) hx hb dL_law_1770 (by decide) ?_
  refine lv_iadd hx hb dL_law_1771 ?_
  refine ix_i (y := 2) (by decide) ?_
  refine va_sld hx hb hX hbl hbA hS (in_lit (by decide)) dL_law_1772 ?_
  refine lv_aload_n hx hb dL_law_1773 rfl (lv_at hl 3 rfl) ?_
  refine lv_iload_n hx hb dL_law_1774 rfl (lv_at hl 0 rfl) ?_
  refine lv_iconst (v := 3) hx hb dL_law_1775 (by decide) ?_
  refine lv_iadd hx hb dL_law_1776 ?_
  refine ix_i (y := 3) (by decide) ?_
  refine va_sld hx hb hX hbl hbA hS (in_lit (by decide)) dL_law_1777 ?_
  refine wq_calli (va_runV (As := [.int (xs (1 : Int32).toNatClampNeg), .int (xs (2 : Int32).toNatClampNeg), .int (xs (3 : Int32).toNatClampNeg)]) (rest := [.int r1]) ⟨hx, hb, hml, hown, hts⟩ (c_X11_luck l G ct bm (xs (1 : Int32).toNatClampNeg) (xs (2 : Int32).toNatClampNeg) (xs (3 : Int32).toNatClampNeg)) (cwV 3 hts gL_law_X11_luck rfl rfl rfl (by decide +kernel) ⟨Nat.le_of_ble_eq_true rfl, Nat.le_of_ble_eq_true rfl⟩) (wr_preV 11 0 hK hPm hDm rfl rfl) rfl rfl hl.1 rfl (lv_room (Nat.le_of_ble_eq_true rfl)) dL_law_1778 ⟨Nat.le_of_ble_eq_true rfl, Nat.le_of_ble_eq_true rfl⟩) hS (aset_D hDm) (fun r2 H locs wr2 hk hS => ?_)
  refine lv_icmp_eq (tgt := 2133) hx hb dL_law_1781 (by decide) (fun c_1 => ?_) (fun c_1 => ?_)
  · exact law_next l C1 rfl H locs hS ls (lv_sub hl [0, 3] rfl)
  · exact absurd (wr1.trans wr2.symm) c_1
set_option maxHeartbeats 4000000 in
set_option maxRecDepth 100000 in
theorem law_c56 {p : Program} {e : Env} {s : State} {m : MethodId} {below : List Frame} {meth : Method} {c : Code} (l : Launch) {b L : Nat} {xs : Nat → Int32} (C0 : lw_At p s m meth c b L xs) (h6 : L = 6) (G : va_G) (ct : Nat → ClassId) (a rr bm : Nat → Nat) (H : Heap) (locs : List Loc) (hK : KK G ct s) (hPx : va_P G vwCl (xF a rr ct) H) (hPm : va_P G vwCl (mF bm ct) H) (hDx : va_D (fun q : Nat => s.heap.size ≤ q) (xF a rr ct)) (hDm : va_D (fun q : Nat => s.heap.size ≤ q) (mF bm ct)) (hap : ∀ q, aset (xF a rr ct) q → ¬ aset (mF bm ct) q) (hS : va_S (fun q : Nat => s.heap.size ≤ q) s.heap H locs) (ls : Array Slot) (hl : lv_has ls 4 [(3, .int 0), (2, .ref (bm 0)), (1, .ref (a 0)), (0, .ref b)]) : W p l e room_1 s m #[Value.ref b] below meth c H locs 110 5410 (lw_Z below #[Value.ref b] s) (F0 m 1786 ls []) := by
  have C1 := C0
  obtain ⟨hx, hb, hr, hml, hown, hts, hX, hbl, hlocks, hgv⟩ := C0
  subst h6
  have hown : s.vm.findClass RL = some m.cls := hown
  have hts : ∀ z ∈ wsL_law, z.before #[Value.ref b] s = true := fun z h => hts z (wsL_law_in z h)
  have hbA : ¬ (fun q : Nat => s.heap.size ≤ q) b := Nat.not_le.mpr hbl
  refine lv_aload_n hx hb dL_law_1786 rfl (lv_at hl 2 rfl) ?_
  refine lv_aload_n hx hb dL_law_1787 rfl (lv_at hl 3 rfl) ?_
  refine lv_iload_n hx hb dL_law_1788 rfl (lv_at hl 0 rfl) ?_
  refine lv_iconst (v := 1) hx hb dL_law_1789 (by decide) ?_
  refine lv_iadd hx hb dL_law_1790 ?_
  refine ix_i (y := 1) (by decide) ?_
  refine va_sld hx hb hX hbl hbA hS (in_lit (by decide)) dL_law_1791 ?_
  refine lv_aload_n hx hb dL_law_1792 rfl (lv_at hl 3 rfl) ?_
  refine lv_iload_n hx hb dL_law_1793 rfl (lv_at hl 0 rfl) ?_
  refine lv_iconst (v := 2) hx hb dL_law_1794 (by decide) ?_
  refine lv_iadd hx hb dL_law_1795 ?_
  refine ix_i (y := 2) (by decide) ?_
  refine va_sld hx hb hX hbl hbA hS (in_lit (by decide)) dL_law_1796 ?_
  refine ro_calli (va_runV (As := [.int (xs (1 : Int32).toNatClampNeg), .int (xs (2 : Int32).toNatClampNeg)]) (rest := []) ⟨hx, hb, hml, hown, hts⟩ (c_X10_winds l G ct a rr (xs (1 : Int32).toNatClampNeg) (xs (2 : Int32).toNatClampNeg)) (cwV 2 hts gL_law_X10_winds rfl rfl rfl (by decide +kernel) ⟨Nat.le_of_ble_eq_true rfl, Nat.le_of_ble_eq_true rfl⟩) (ro_preV 10 0 hK hPx rfl rfl) rfl rfl hl.1 rfl (lv_room (Nat.le_of_ble_eq_true rfl)) dL_law_1797 ⟨Nat.le_of_ble_eq_true rfl, Nat.le_of_ble_eq_true rfl⟩) hS hPm (fun r1 H locs wr1 hPm hS => ?_)
  refine lv_aload_n hx hb dL_law_1800 rfl (lv_at hl 1 rfl) ?_
  refine lv_aload_n hx hb dL_law_1801 rfl (lv_at hl 3 rfl) ?_
  refine lv_iload_n hx hb dL_law_1802 rfl (lv_at hl 0 rfl) ?_
  refine lv_iconst (v := 1) hx hb dL_law_1803 (by decide) ?_
  refine lv_iadd hx hb dL_law_1804 ?_
  refine ix_i (y := 1) (by decide) ?_
  refine va_sld hx hb hX hbl hbA hS (in_lit (by decide)) dL_law_1805 ?_
  refine lv_aload_n hx hb dL_law_1806 rfl (lv_at hl 3 rfl) ?_
  refine lv_iload_n hx hb dL_law_1807 rfl (lv_at hl 0 rfl) ?_
  refine lv_iconst (v := 2) hx hb dL_law_1808 (by decide) ?_
  refine lv_iadd hx hb dL_law_1809 ?_
  refine ix_i (y := 2) (by decide) ?_
  refine va_sld hx hb hX hbl hbA hS (in_lit (by decide)) dL_law_1810 ?_
  refine wq_calli (va_runV (As := [.int (xs (1 : Int32).toNatClampNeg), .int (xs (2 : Int32).toNatClampNeg)]) (rest := [.int r1]) ⟨hx, hb, hml, hown, hts⟩ (c_X11_winds l G ct bm (xs (1 : Int32).toNatClampNeg) (xs (2 : Int32).toNatClampNeg)) (cwV 2 hts gL_law_X11_winds rfl rfl rfl (by decide +kernel) ⟨Nat.le_of_ble_eq_true rfl, Nat.le_of_ble_eq_true rfl⟩) (wr_preV 11 0 hK hPm hDm rfl rfl) rfl rfl hl.1 rfl (lv_room (Nat.le_of_ble_eq_true rfl)) dL_law_1811 ⟨Nat.le_of_ble_eq_true rfl, Nat.le_of_ble_eq_true rfl⟩) hS (aset_D hDm) (fun r2 H locs wr2 hk hS => ?_)
  refine lv_icmp_eq (tgt := 2133) hx hb dL_law_1814 (by decide) (fun c_1 => ?_) (fun c_1 => ?_)
  · exact law_next l C1 rfl H locs hS ls (lv_sub hl [0, 3] rfl)
  · exact absurd (wr1.trans wr2.symm) c_1
set_option maxHeartbeats 4000000 in
set_option maxRecDepth 100000 in
theorem law_c57 {p : Program} {e : Env} {s : State} {m : MethodId} {below : List Frame} {meth : Method} {c : Code} (l : Launch) {b L : Nat} {xs : Nat → Int32} (C0 : lw_At p s m meth c b L xs) (h6 : L = 6) (G : va_G) (ct : Nat → ClassId) (a rr bm : Nat → Nat) (H : Heap) (locs : List Loc) (hK : KK G ct s) (hPx : va_P G vwCl (xF a rr ct) H) (hPm : va_P G vwCl (mF bm ct) H) (hDx : va_D (fun q : Nat => s.heap.size ≤ q) (xF a rr ct)) (hDm : va_D (fun q : Nat => s.heap.size ≤ q) (mF bm ct)) (hap : ∀ q, aset (xF a rr ct) q → ¬ aset (mF bm ct) q) (hS : va_S (fun q : Nat => s.heap.size ≤ q) s.heap H locs) (ls : Array Slot) (hl : lv_has ls 4 [(3, .int 0), (2, .ref (bm 0)), (1, .ref (a 0)), (0, .ref b)]) : W p l e room_1 s m #[Value.ref b] below meth c H locs 110 5410 (lw_Z below #[Value.ref b] s) (F0 m 1819 ls []) := by
  have C1 := C0
  obtain ⟨hx, hb, hr, hml, hown, hts, hX, hbl, hlocks, hgv⟩ := C0
  subst h6
  have hown : s.vm.findClass RL = some m.cls := hown
  have hts : ∀ z ∈ wsL_law, z.before #[Value.ref b] s = true := fun z h => hts z (wsL_law_in z h)
  have hbA : ¬ (fun q : Nat => s.heap.size ≤ q) b := Nat.not_le.mpr hbl
  refine lv_aload_n hx hb dL_law_1819 rfl (lv_at hl 2 rfl) ?_
  refine lv_aload_n hx hb dL_law_1820 rfl (lv_at hl 3 rfl) ?_
  refine lv_iload_n hx hb dL_law_1821 rfl (lv_at hl 0 rfl) ?_
  refine lv_iconst (v := 1) hx hb dL_law_1822 (by decide) ?_
  refine lv_iadd hx hb dL_law_1823 ?_
  refine ix_i (y := 1) (by decide) ?_
  refine va_sld hx hb hX hbl hbA hS (in_lit (by decide)) dL_law_1824 ?_
  refine lv_aload_n hx hb dL_law_1825 rfl (lv_at hl 3 rfl) ?_
  refine lv_iload_n hx hb dL_law_1826 rfl (lv_at hl 0 rfl) ?_
  refine lv_iconst (v := 2) hx hb dL_law_1827 (by decide) ?_
  refine lv_iadd hx hb dL_law_1828 ?_
  refine ix_i (y := 2) (by decide) ?_
  refine va_sld hx hb hX hbl hbA hS (in_lit (by decide)) dL_law_1829 ?_
  refine ro_calli (va_runV (As := [.int (xs (1 : Int32).toNatClampNeg), .int (xs (2 : Int32).toNatClampNeg)]) (rest := []) ⟨hx, hb, hml, hown, hts⟩ (c_X10_rate l G ct a rr (xs (1 : Int32).toNatClampNeg) (xs (2 : Int32).toNatClampNeg)) (cwV 2 hts gL_law_X10_rate rfl rfl rfl (by decide +kernel) ⟨Nat.le_of_ble_eq_true rfl, Nat.le_of_ble_eq_true rfl⟩) (ro_preV 10 0 hK hPx rfl rfl) rfl rfl hl.1 rfl (lv_room (Nat.le_of_ble_eq_true rfl)) dL_law_1830 ⟨Nat.le_of_ble_eq_true rfl, Nat.le_of_ble_eq_true rfl⟩) hS hPm (fun r1 H locs wr1 hPm hS => ?_)
  refine lv_aload_n hx hb dL_law_1833 rfl (lv_at hl 1 rfl) ?_
  refine lv_aload_n hx hb dL_law_1834 rfl (lv_at hl 3 rfl) ?_
  refine lv_iload_n hx hb dL_law_1835 rfl (lv_at hl 0 rfl) ?_
  refine lv_iconst (v := 1) hx hb dL_law_1836 (by decide) ?_
  refine lv_iadd hx hb dL_law_1837 ?_
  refine ix_i (y := 1) (by decide) ?_
  refine va_sld hx hb hX hbl hbA hS (in_lit (by decide)) dL_law_1838 ?_
  refine lv_aload_n hx hb dL_law_1839 rfl (lv_at hl 3 rfl) ?_
  refine lv_iload_n hx hb dL_law_1840 rfl (lv_at hl 0 rfl) ?_
  refine lv_iconst (v := 2) hx hb dL_law_1841 (by decide) ?_
  refine lv_iadd hx hb dL_law_1842 ?_
  refine ix_i (y := 2) (by decide) ?_
  refine va_sld hx hb hX hbl hbA hS (in_lit (by decide)) dL_law_1843 ?_
  refine wq_calli (va_runV (As := [.int (xs (1 : Int32).toNatClampNeg), .int (xs (2 : Int32).toNatClampNeg)]) (rest := [.int r1]) ⟨hx, hb, hml, hown, hts⟩ (c_X11_rate l G ct bm (xs (1 : Int32).toNatClampNeg) (xs (2 : Int32).toNatClampNeg)) (cwV 2 hts gL_law_X11_rate rfl rfl rfl (by decide +kernel) ⟨Nat.le_of_ble_eq_true rfl, Nat.le_of_ble_eq_true rfl⟩) (wr_preV 11 0 hK hPm hDm rfl rfl) rfl rfl hl.1 rfl (lv_room (Nat.le_of_ble_eq_true rfl)) dL_law_1844 ⟨Nat.le_of_ble_eq_true rfl, Nat.le_of_ble_eq_true rfl⟩) hS (aset_D hDm) (fun r2 H locs wr2 hk hS => ?_)
  refine lv_icmp_eq (tgt := 2133) hx hb dL_law_1847 (by decide) (fun c_1 => ?_) (fun c_1 => ?_)
  · exact law_next l C1 rfl H locs hS ls (lv_sub hl [0, 3] rfl)
  · exact absurd (wr1.trans wr2.symm) c_1
set_option maxHeartbeats 4000000 in
set_option maxRecDepth 100000 in
theorem law_c58 {p : Program} {e : Env} {s : State} {m : MethodId} {below : List Frame} {meth : Method} {c : Code} (l : Launch) {b L : Nat} {xs : Nat → Int32} (C0 : lw_At p s m meth c b L xs) (h6 : L = 6) (G : va_G) (ct : Nat → ClassId) (a rr bm : Nat → Nat) (H : Heap) (locs : List Loc) (hK : KK G ct s) (hPx : va_P G vwCl (xF a rr ct) H) (hPm : va_P G vwCl (mF bm ct) H) (hDx : va_D (fun q : Nat => s.heap.size ≤ q) (xF a rr ct)) (hDm : va_D (fun q : Nat => s.heap.size ≤ q) (mF bm ct)) (hap : ∀ q, aset (xF a rr ct) q → ¬ aset (mF bm ct) q) (hS : va_S (fun q : Nat => s.heap.size ≤ q) s.heap H locs) (ls : Array Slot) (hl : lv_has ls 4 [(3, .int 0), (2, .ref (bm 0)), (1, .ref (a 0)), (0, .ref b)]) : W p l e room_1 s m #[Value.ref b] below meth c H locs 110 5410 (lw_Z below #[Value.ref b] s) (F0 m 1852 ls []) := by
  have C1 := C0
  obtain ⟨hx, hb, hr, hml, hown, hts, hX, hbl, hlocks, hgv⟩ := C0
  subst h6
  have hown : s.vm.findClass RL = some m.cls := hown
  have hts : ∀ z ∈ wsL_law, z.before #[Value.ref b] s = true := fun z h => hts z (wsL_law_in z h)
  have hbA : ¬ (fun q : Nat => s.heap.size ≤ q) b := Nat.not_le.mpr hbl
  refine lv_aload_n hx hb dL_law_1852 rfl (lv_at hl 2 rfl) ?_
  refine lv_aload_n hx hb dL_law_1853 rfl (lv_at hl 3 rfl) ?_
  refine lv_iload_n hx hb dL_law_1854 rfl (lv_at hl 0 rfl) ?_
  refine lv_iconst (v := 1) hx hb dL_law_1855 (by decide) ?_
  refine lv_iadd hx hb dL_law_1856 ?_
  refine ix_i (y := 1) (by decide) ?_
  refine va_sld hx hb hX hbl hbA hS (in_lit (by decide)) dL_law_1857 ?_
  refine lv_aload_n hx hb dL_law_1858 rfl (lv_at hl 3 rfl) ?_
  refine lv_iload_n hx hb dL_law_1859 rfl (lv_at hl 0 rfl) ?_
  refine lv_iconst (v := 2) hx hb dL_law_1860 (by decide) ?_
  refine lv_iadd hx hb dL_law_1861 ?_
  refine ix_i (y := 2) (by decide) ?_
  refine va_sld hx hb hX hbl hbA hS (in_lit (by decide)) dL_law_1862 ?_
  refine ro_calli (va_runV (As := [.int (xs (1 : Int32).toNatClampNeg), .int (xs (2 : Int32).toNatClampNeg)]) (rest := []) ⟨hx, hb, hml, hown, hts⟩ (c_X10_forge l G ct a rr (xs (1 : Int32).toNatClampNeg) (xs (2 : Int32).toNatClampNeg)) (cwV 2 hts gL_law_X10_forge rfl rfl rfl (by decide +kernel) ⟨Nat.le_of_ble_eq_true rfl, Nat.le_of_ble_eq_true rfl⟩) (ro_preV 10 0 hK hPx rfl rfl) rfl rfl hl.1 rfl (lv_room (Nat.le_of_ble_eq_true rfl)) dL_law_1863 ⟨Nat.le_of_ble_eq_true rfl, Nat.le_of_ble_eq_true rfl⟩) hS hPm (fun r1 H locs wr1 hPm hS => ?_)
  refine lv_aload_n hx hb dL_law_1866 rfl (lv_at hl 1 rfl) ?_
  refine lv_aload_n hx hb dL_law_1867 rfl (lv_at hl 3 rfl) ?_
  refine lv_iload_n hx hb dL_law_1868 rfl (lv_at hl 0 rfl) ?_
  refine lv_iconst (v := 1) hx hb dL_law_1869 (by decide) ?_
  refine lv_iadd hx hb dL_law_1870 ?_
  refine ix_i (y := 1) (by decide) ?_
  refine va_sld hx hb hX hbl hbA hS (in_lit (by decide)) dL_law_1871 ?_
  refine lv_aload_n hx hb dL_law_1872 rfl (lv_at hl 3 rfl) ?_
  refine lv_iload_n hx hb dL_law_1873 rfl (lv_at hl 0 rfl) ?_
  refine lv_iconst (v := 2) hx hb dL_law_1874 (by decide) ?_
  refine lv_iadd hx hb dL_law_1875 ?_
  refine ix_i (y := 2) (by decide) ?_
  refine va_sld hx hb hX hbl hbA hS (in_lit (by decide)) dL_law_1876 ?_
  refine wq_calli (va_runV (As := [.int (xs (1 : Int32).toNatClampNeg), .int (xs (2 : Int32).toNatClampNeg)]) (rest := [.int r1]) ⟨hx, hb, hml, hown, hts⟩ (c_X11_forge l G ct bm (xs (1 : Int32).toNatClampNeg) (xs (2 : Int32).toNatClampNeg)) (cwV 2 hts gL_law_X11_forge rfl rfl rfl (by decide +kernel) ⟨Nat.le_of_ble_eq_true rfl, Nat.le_of_ble_eq_true rfl⟩) (wr_preV 11 0 hK hPm hDm rfl rfl) rfl rfl hl.1 rfl (lv_room (Nat.le_of_ble_eq_true rfl)) dL_law_1877 ⟨Nat.le_of_ble_eq_true rfl, Nat.le_of_ble_eq_true rfl⟩) hS (aset_D hDm) (fun r2 H locs wr2 hk hS => ?_)
  refine lv_icmp_eq (tgt := 2133) hx hb dL_law_1880 (by decide) (fun c_1 => ?_) (fun c_1 => ?_)
  · exact law_next l C1 rfl H locs hS ls (lv_sub hl [0, 3] rfl)
  · exact absurd (wr1.trans wr2.symm) c_1
set_option maxHeartbeats 4000000 in
set_option maxRecDepth 100000 in
theorem law_c59 {p : Program} {e : Env} {s : State} {m : MethodId} {below : List Frame} {meth : Method} {c : Code} (l : Launch) {b L : Nat} {xs : Nat → Int32} (C0 : lw_At p s m meth c b L xs) (h6 : L = 6) (G : va_G) (ct : Nat → ClassId) (a rr bm : Nat → Nat) (H : Heap) (locs : List Loc) (hK : KK G ct s) (hPx : va_P G vwCl (xF a rr ct) H) (hPm : va_P G vwCl (mF bm ct) H) (hDx : va_D (fun q : Nat => s.heap.size ≤ q) (xF a rr ct)) (hDm : va_D (fun q : Nat => s.heap.size ≤ q) (mF bm ct)) (hap : ∀ q, aset (xF a rr ct) q → ¬ aset (mF bm ct) q) (hS : va_S (fun q : Nat => s.heap.size ≤ q) s.heap H locs) (ls : Array Slot) (hl : lv_has ls 4 [(3, .int 0), (2, .ref (bm 0)), (1, .ref (a 0)), (0, .ref b)]) : W p l e room_1 s m #[Value.ref b] below meth c H locs 110 5410 (lw_Z below #[Value.ref b] s) (F0 m 1885 ls []) := by
  have C1 := C0
  obtain ⟨hx, hb, hr, hml, hown, hts, hX, hbl, hlocks, hgv⟩ := C0
  subst h6
  have hown : s.vm.findClass RL = some m.cls := hown
  have hts : ∀ z ∈ wsL_law, z.before #[Value.ref b] s = true := fun z h => hts z (wsL_law_in z h)
  have hbA : ¬ (fun q : Nat => s.heap.size ≤ q) b := Nat.not_le.mpr hbl
  refine lv_aload_n hx hb dL_law_1885 rfl (lv_at hl 2 rfl) ?_
  refine lv_aload_n hx hb dL_law_1886 rfl (lv_at hl 3 rfl) ?_
  refine lv_iload_n hx hb dL_law_1887 rfl (lv_at hl 0 rfl) ?_
  refine lv_iconst (v := 1) hx hb dL_law_1888 (by decide) ?_
  refine lv_iadd hx hb dL_law_1889 ?_
  refine ix_i (y := 1) (by decide) ?_
  refine va_sld hx hb hX hbl hbA hS (in_lit (by decide)) dL_law_1890 ?_
  refine ro_calli (va_runV (As := [.int (xs (1 : Int32).toNatClampNeg)]) (rest := []) ⟨hx, hb, hml, hown, hts⟩ (c_X10_count l G ct a rr (xs (1 : Int32).toNatClampNeg)) (cwV 1 hts gL_law_X10_count rfl rfl rfl (by decide +kernel) ⟨Nat.le_of_ble_eq_true rfl, Nat.le_of_ble_eq_true rfl⟩) (ro_preV 10 0 hK hPx rfl rfl) rfl rfl hl.1 rfl (lv_room (Nat.le_of_ble_eq_true rfl)) dL_law_1891 ⟨Nat.le_of_ble_eq_true rfl, Nat.le_of_ble_eq_true rfl⟩) hS hPm (fun r1 H locs wr1 hPm hS => ?_)
  refine lv_aload_n hx hb dL_law_1894 rfl (lv_at hl 1 rfl) ?_
  refine lv_aload_n hx hb dL_law_1895 rfl (lv_at hl 3 rfl) ?_
  refine lv_iload_n hx hb dL_law_1896 rfl (lv_at hl 0 rfl) ?_
  refine lv_iconst (v := 1) hx hb dL_law_1897 (by decide) ?_
  refine lv_iadd hx hb dL_law_1898 ?_
  refine ix_i (y := 1) (by decide) ?_
  refine va_sld hx hb hX hbl hbA hS (in_lit (by decide)) dL_law_1899 ?_
  refine wq_calli (va_runV (As := [.int (xs (1 : Int32).toNatClampNeg)]) (rest := [.int r1]) ⟨hx, hb, hml, hown, hts⟩ (c_X11_count l G ct bm (xs (1 : Int32).toNatClampNeg)) (cwV 1 hts gL_law_X11_count rfl rfl rfl (by decide +kernel) ⟨Nat.le_of_ble_eq_true rfl, Nat.le_of_ble_eq_true rfl⟩) (wr_preV 11 0 hK hPm hDm rfl rfl) rfl rfl hl.1 rfl (lv_room (Nat.le_of_ble_eq_true rfl)) dL_law_1900 ⟨Nat.le_of_ble_eq_true rfl, Nat.le_of_ble_eq_true rfl⟩) hS (aset_D hDm) (fun r2 H locs wr2 hk hS => ?_)
  refine lv_icmp_eq (tgt := 2133) hx hb dL_law_1903 (by decide) (fun c_1 => ?_) (fun c_1 => ?_)
  · exact law_next l C1 rfl H locs hS ls (lv_sub hl [0, 3] rfl)
  · exact absurd (wr1.trans wr2.symm) c_1
set_option maxHeartbeats 4000000 in
set_option maxRecDepth 100000 in
theorem law_c60 {p : Program} {e : Env} {s : State} {m : MethodId} {below : List Frame} {meth : Method} {c : Code} (l : Launch) {b L : Nat} {xs : Nat → Int32} (C0 : lw_At p s m meth c b L xs) (h6 : L = 6) (G : va_G) (ct : Nat → ClassId) (a rr bm : Nat → Nat) (H : Heap) (locs : List Loc) (hK : KK G ct s) (hPx : va_P G vwCl (xF a rr ct) H) (hPm : va_P G vwCl (mF bm ct) H) (hDx : va_D (fun q : Nat => s.heap.size ≤ q) (xF a rr ct)) (hDm : va_D (fun q : Nat => s.heap.size ≤ q) (mF bm ct)) (hap : ∀ q, aset (xF a rr ct) q → ¬ aset (mF bm ct) q) (hS : va_S (fun q : Nat => s.heap.size ≤ q) s.heap H locs) (ls : Array Slot) (hl : lv_has ls 4 [(3, .int 0), (2, .ref (bm 0)), (1, .ref (a 0)), (0, .ref b)]) : W p l e room_1 s m #[Value.ref b] below meth c H locs 110 5410 (lw_Z below #[Value.ref b] s) (F0 m 1908 ls []) := by
  have C1 := C0
  obtain ⟨hx, hb, hr, hml, hown, hts, hX, hbl, hlocks, hgv⟩ := C0
  subst h6
  have hown : s.vm.findClass RL = some m.cls := hown
  have hts : ∀ z ∈ wsL_law, z.before #[Value.ref b] s = true := fun z h => hts z (wsL_law_in z h)
  have hbA : ¬ (fun q : Nat => s.heap.size ≤ q) b := Nat.not_le.mpr hbl
  refine lv_aload_n hx hb dL_law_1908 rfl (lv_at hl 2 rfl) ?_
  refine lv_aload_n hx hb dL_law_1909 rfl (lv_at hl 3 rfl) ?_
  refine lv_iload_n hx hb dL_law_1910 rfl (lv_at hl 0 rfl) ?_
  refine lv_iconst (v := 1) hx hb dL_law_1911 (by decide) ?_
  refine lv_iadd hx hb dL_law_1912 ?_
  refine ix_i (y := 1) (by decide) ?_
  refine va_sld hx hb hX hbl hbA hS (in_lit (by decide)) dL_law_1913 ?_
  refine wq_calli (va_runV (As := [.int (xs (1 : Int32).toNatClampNeg)]) (rest := []) ⟨hx, hb, hml, hown, hts⟩ (c_X10_image l G ct a rr (xs (1 : Int32).toNatClampNeg)) (cwV 1 hts gL_law_X10_image rfl rfl rfl (by decide +kernel) ⟨Nat.le_of_ble_eq_true rfl, Nat.le_of_ble_eq_true rfl⟩) (wr_preV 10 0 hK hPx hDx rfl rfl) rfl rfl hl.1 rfl (lv_room (Nat.le_of_ble_eq_true rfl)) dL_law_1914 ⟨Nat.le_of_ble_eq_true rfl, Nat.le_of_ble_eq_true rfl⟩) hS (aset_D hDx) (fun r1 H locs wr1 hk hS => ?_)
  have hPm := keep_m hPm hap hk
  refine lv_aload_n hx hb dL_law_1917 rfl (lv_at hl 1 rfl) ?_
  refine lv_aload_n hx hb dL_law_1918 rfl (lv_at hl 3 rfl) ?_
  refine lv_iload_n hx hb dL_law_1919 rfl (lv_at hl 0 rfl) ?_
  refine lv_iconst (v := 1) hx hb dL_law_1920 (by decide) ?_
  refine lv_iadd hx hb dL_law_1921 ?_
  refine ix_i (y := 1) (by decide) ?_
  refine va_sld hx hb hX hbl hbA hS (in_lit (by decide)) dL_law_1922 ?_
  refine wq_calli (va_runV (As := [.int (xs (1 : Int32).toNatClampNeg)]) (rest := [.int r1]) ⟨hx, hb, hml, hown, hts⟩ (c_X11_image l G ct bm (xs (1 : Int32).toNatClampNeg)) (cwV 1 hts gL_law_X11_image rfl rfl rfl (by decide +kernel) ⟨Nat.le_of_ble_eq_true rfl, Nat.le_of_ble_eq_true rfl⟩) (wr_preV 11 0 hK hPm hDm rfl rfl) rfl rfl hl.1 rfl (lv_room (Nat.le_of_ble_eq_true rfl)) dL_law_1923 ⟨Nat.le_of_ble_eq_true rfl, Nat.le_of_ble_eq_true rfl⟩) hS (aset_D hDm) (fun r2 H locs wr2 hk hS => ?_)
  refine lv_icmp_eq (tgt := 2133) hx hb dL_law_1926 (by decide) (fun c_1 => ?_) (fun c_1 => ?_)
  · exact law_next l C1 rfl H locs hS ls (lv_sub hl [0, 3] rfl)
  · exact absurd (wr1.trans wr2.symm) c_1
set_option maxHeartbeats 4000000 in
set_option maxRecDepth 100000 in
theorem law_c61 {p : Program} {e : Env} {s : State} {m : MethodId} {below : List Frame} {meth : Method} {c : Code} (l : Launch) {b L : Nat} {xs : Nat → Int32} (C0 : lw_At p s m meth c b L xs) (h6 : L = 6) (G : va_G) (ct : Nat → ClassId) (a rr bm : Nat → Nat) (H : Heap) (locs : List Loc) (hK : KK G ct s) (hPx : va_P G vwCl (xF a rr ct) H) (hPm : va_P G vwCl (mF bm ct) H) (hDx : va_D (fun q : Nat => s.heap.size ≤ q) (xF a rr ct)) (hDm : va_D (fun q : Nat => s.heap.size ≤ q) (mF bm ct)) (hap : ∀ q, aset (xF a rr ct) q → ¬ aset (mF bm ct) q) (hS : va_S (fun q : Nat => s.heap.size ≤ q) s.heap H locs) (ls : Array Slot) (hl : lv_has ls 4 [(3, .int 0), (2, .ref (bm 0)), (1, .ref (a 0)), (0, .ref b)]) : W p l e room_1 s m #[Value.ref b] below meth c H locs 110 5410 (lw_Z below #[Value.ref b] s) (F0 m 1931 ls []) := by
  have C1 := C0
  obtain ⟨hx, hb, hr, hml, hown, hts, hX, hbl, hlocks, hgv⟩ := C0
  subst h6
  have hown : s.vm.findClass RL = some m.cls := hown
  have hts : ∀ z ∈ wsL_law, z.before #[Value.ref b] s = true := fun z h => hts z (wsL_law_in z h)
  have hbA : ¬ (fun q : Nat => s.heap.size ≤ q) b := Nat.not_le.mpr hbl
  refine lv_aload_n hx hb dL_law_1931 rfl (lv_at hl 2 rfl) ?_
  refine lv_aload_n hx hb dL_law_1932 rfl (lv_at hl 3 rfl) ?_
  refine lv_iload_n hx hb dL_law_1933 rfl (lv_at hl 0 rfl) ?_
  refine lv_iconst (v := 1) hx hb dL_law_1934 (by decide) ?_
  refine lv_iadd hx hb dL_law_1935 ?_
  refine ix_i (y := 1) (by decide) ?_
  refine va_sld hx hb hX hbl hbA hS (in_lit (by decide)) dL_law_1936 ?_
  refine ro_calli (va_runV (As := [.int (xs (1 : Int32).toNatClampNeg)]) (rest := []) ⟨hx, hb, hml, hown, hts⟩ (c_X10_back l G ct a rr (xs (1 : Int32).toNatClampNeg)) (cwV 1 hts gL_law_X10_back rfl rfl rfl (by decide +kernel) ⟨Nat.le_of_ble_eq_true rfl, Nat.le_of_ble_eq_true rfl⟩) (ro_preV 10 0 hK hPx rfl rfl) rfl rfl hl.1 rfl (lv_room (Nat.le_of_ble_eq_true rfl)) dL_law_1937 ⟨Nat.le_of_ble_eq_true rfl, Nat.le_of_ble_eq_true rfl⟩) hS hPm (fun r1 H locs wr1 hPm hS => ?_)
  refine lv_aload_n hx hb dL_law_1940 rfl (lv_at hl 1 rfl) ?_
  refine lv_aload_n hx hb dL_law_1941 rfl (lv_at hl 3 rfl) ?_
  refine lv_iload_n hx hb dL_law_1942 rfl (lv_at hl 0 rfl) ?_
  refine lv_iconst (v := 1) hx hb dL_law_1943 (by decide) ?_
  refine lv_iadd hx hb dL_law_1944 ?_
  refine ix_i (y := 1) (by decide) ?_
  refine va_sld hx hb hX hbl hbA hS (in_lit (by decide)) dL_law_1945 ?_
  refine wq_calli (va_runV (As := [.int (xs (1 : Int32).toNatClampNeg)]) (rest := [.int r1]) ⟨hx, hb, hml, hown, hts⟩ (c_X11_back l G ct bm (xs (1 : Int32).toNatClampNeg)) (cwV 1 hts gL_law_X11_back rfl rfl rfl (by decide +kernel) ⟨Nat.le_of_ble_eq_true rfl, Nat.le_of_ble_eq_true rfl⟩) (wr_preV 11 0 hK hPm hDm rfl rfl) rfl rfl hl.1 rfl (lv_room (Nat.le_of_ble_eq_true rfl)) dL_law_1946 ⟨Nat.le_of_ble_eq_true rfl, Nat.le_of_ble_eq_true rfl⟩) hS (aset_D hDm) (fun r2 H locs wr2 hk hS => ?_)
  refine lv_icmp_eq (tgt := 2133) hx hb dL_law_1949 (by decide) (fun c_1 => ?_) (fun c_1 => ?_)
  · exact law_next l C1 rfl H locs hS ls (lv_sub hl [0, 3] rfl)
  · exact absurd (wr1.trans wr2.symm) c_1
set_option maxHeartbeats 4000000 in
set_option maxRecDepth 100000 in
theorem law_c62 {p : Program} {e : Env} {s : State} {m : MethodId} {below : List Frame} {meth : Method} {c : Code} (l : Launch) {b L : Nat} {xs : Nat → Int32} (C0 : lw_At p s m meth c b L xs) (h6 : L = 6) (G : va_G) (ct : Nat → ClassId) (a rr bm : Nat → Nat) (H : Heap) (locs : List Loc) (hK : KK G ct s) (hPx : va_P G vwCl (xF a rr ct) H) (hPm : va_P G vwCl (mF bm ct) H) (hDx : va_D (fun q : Nat => s.heap.size ≤ q) (xF a rr ct)) (hDm : va_D (fun q : Nat => s.heap.size ≤ q) (mF bm ct)) (hap : ∀ q, aset (xF a rr ct) q → ¬ aset (mF bm ct) q) (hS : va_S (fun q : Nat => s.heap.size ≤ q) s.heap H locs) (ls : Array Slot) (hl : lv_has ls 4 [(3, .int 0), (2, .ref (bm 0)), (1, .ref (a 0)), (0, .ref b)]) : W p l e room_1 s m #[Value.ref b] below meth c H locs 110 5410 (lw_Z below #[Value.ref b] s) (F0 m 1954 ls []) := by
  have C1 := C0
  obtain ⟨hx, hb, hr, hml, hown, hts, hX, hbl, hlocks, hgv⟩ := C0
  subst h6
  have hown : s.vm.findClass RL = some m.cls := hown
  have hts : ∀ z ∈ wsL_law, z.before #[Value.ref b] s = true := fun z h => hts z (wsL_law_in z h)
  have hbA : ¬ (fun q : Nat => s.heap.size ≤ q) b := Nat.not_le.mpr hbl
  refine lv_aload_n hx hb dL_law_1954 rfl (lv_at hl 2 rfl) ?_
  refine lv_aload_n hx hb dL_law_1955 rfl (lv_at hl 3 rfl) ?_
  refine lv_iload_n hx hb dL_law_1956 rfl (lv_at hl 0 rfl) ?_
  refine lv_iconst (v := 1) hx hb dL_law_1957 (by decide) ?_
  refine lv_iadd hx hb dL_law_1958 ?_
  refine ix_i (y := 1) (by decide) ?_
  refine va_sld hx hb hX hbl hbA hS (in_lit (by decide)) dL_law_1959 ?_
  refine lv_aload_n hx hb dL_law_1960 rfl (lv_at hl 3 rfl) ?_
  refine lv_iload_n hx hb dL_law_1961 rfl (lv_at hl 0 rfl) ?_
  refine lv_iconst (v := 2) hx hb dL_law_1962 (by decide) ?_
  refine lv_iadd hx hb dL_law_1963 ?_
  refine ix_i (y := 2) (by decide) ?_
  refine va_sld hx hb hX hbl hbA hS (in_lit (by decide)) dL_law_1964 ?_
  refine lv_aload_n hx hb dL_law_1965 rfl (lv_at hl 3 rfl) ?_
  refine lv_iload_n hx hb dL_law_1966 rfl (lv_at hl 0 rfl) ?_
  refine lv_iconst (v := 3) hx hb dL_law_1967 (by decide) ?_
  refine lv_iadd hx hb dL_law_1968 ?_
  refine ix_i (y := 3) (by decide) ?_
  refine va_sld hx hb hX hbl hbA hS (in_lit (by decide)) dL_law_1969 ?_
  refine wq_calli (va_runV (As := [.int (xs (1 : Int32).toNatClampNeg), .int (xs (2 : Int32).toNatClampNeg), .int (xs (3 : Int32).toNatClampNeg)]) (rest := []) ⟨hx, hb, hml, hown, hts⟩ (c_X10_row l G ct a rr (xs (1 : Int32).toNatClampNeg) (xs (2 : Int32).toNatClampNeg) (xs (3 : Int32).toNatClampNeg)) (cwV 3 hts gL_law_X10_row rfl rfl rfl (by decide +kernel) ⟨Nat.le_of_ble_eq_true rfl, Nat.le_of_ble_eq_true rfl⟩) (wr_preV 10 0 hK hPx hDx rfl rfl) rfl rfl hl.1 rfl (lv_room (Nat.le_of_ble_eq_true rfl)) dL_law_1970 ⟨Nat.le_of_ble_eq_true rfl, Nat.le_of_ble_eq_true rfl⟩) hS (aset_D hDx) (fun r1 H locs wr1 hk hS => ?_)
  have hPm := keep_m hPm hap hk
  refine lv_aload_n hx hb dL_law_1973 rfl (lv_at hl 1 rfl) ?_
  refine lv_aload_n hx hb dL_law_1974 rfl (lv_at hl 3 rfl) ?_
  refine lv_iload_n hx hb dL_law_1975 rfl (lv_at hl 0 rfl) ?_
  refine lv_iconst (v := 1) hx hb dL_law_1976 (by decide) ?_
  refine lv_iadd hx hb dL_law_1977 ?_
  refine ix_i (y := 1) (by decide) ?_
  refine va_sld hx hb hX hbl hbA hS (in_lit (by decide)) dL_law_1978 ?_
  refine lv_aload_n hx hb dL_law_1979 rfl (lv_at hl 3 rfl) ?_
  refine lv_iload_n hx hb dL_law_1980 rfl (lv_at hl 0 rfl) ?_
  refine lv_iconst (v := 2) hx hb dL_law_1981 (by decide) ?_
  refine lv_iadd hx hb dL_law_1982 ?_
  refine ix_i (y := 2) (by decide) ?_
  refine va_sld hx hb hX hbl hbA hS (in_lit (by decide)) dL_law_1983 ?_
  refine lv_aload_n hx hb dL_law_1984 rfl (lv_at hl 3 rfl) ?_
  refine lv_iload_n hx hb dL_law_1985 rfl (lv_at hl 0 rfl) ?_
  refine lv_iconst (v := 3) hx hb dL_law_1986 (by decide) ?_
  refine lv_iadd hx hb dL_law_1987 ?_
  refine ix_i (y := 3) (by decide) ?_
  refine va_sld hx hb hX hbl hbA hS (in_lit (by decide)) dL_law_1988 ?_
  refine wq_calli (va_runV (As := [.int (xs (1 : Int32).toNatClampNeg), .int (xs (2 : Int32).toNatClampNeg), .int (xs (3 : Int32).toNatClampNeg)]) (rest := [.int r1]) ⟨hx, hb, hml, hown, hts⟩ (c_X11_row l G ct bm (xs (1 : Int32).toNatClampNeg) (xs (2 : Int32).toNatClampNeg) (xs (3 : Int32).toNatClampNeg)) (cwV 3 hts gL_law_X11_row rfl rfl rfl (by decide +kernel) ⟨Nat.le_of_ble_eq_true rfl, Nat.le_of_ble_eq_true rfl⟩) (wr_preV 11 0 hK hPm hDm rfl rfl) rfl rfl hl.1 rfl (lv_room (Nat.le_of_ble_eq_true rfl)) dL_law_1989 ⟨Nat.le_of_ble_eq_true rfl, Nat.le_of_ble_eq_true rfl⟩) hS (aset_D hDm) (fun r2 H locs wr2 hk hS => ?_)
  refine lv_icmp_eq (tgt := 2133) hx hb dL_law_1992 (by decide) (fun c_1 => ?_) (fun c_1 => ?_)
  · exact law_next l C1 rfl H locs hS ls (lv_sub hl [0, 3] rfl)
  · exact absurd (wr1.trans wr2.symm) c_1
set_option maxHeartbeats 4000000 in
set_option maxRecDepth 100000 in
theorem law_c63 {p : Program} {e : Env} {s : State} {m : MethodId} {below : List Frame} {meth : Method} {c : Code} (l : Launch) {b L : Nat} {xs : Nat → Int32} (C0 : lw_At p s m meth c b L xs) (h6 : L = 6) (G : va_G) (ct : Nat → ClassId) (a rr bm : Nat → Nat) (H : Heap) (locs : List Loc) (hK : KK G ct s) (hPx : va_P G vwCl (xF a rr ct) H) (hPm : va_P G vwCl (mF bm ct) H) (hDx : va_D (fun q : Nat => s.heap.size ≤ q) (xF a rr ct)) (hDm : va_D (fun q : Nat => s.heap.size ≤ q) (mF bm ct)) (hap : ∀ q, aset (xF a rr ct) q → ¬ aset (mF bm ct) q) (hS : va_S (fun q : Nat => s.heap.size ≤ q) s.heap H locs) (ls : Array Slot) (hl : lv_has ls 4 [(3, .int 0), (2, .ref (bm 0)), (1, .ref (a 0)), (0, .ref b)]) : W p l e room_1 s m #[Value.ref b] below meth c H locs 110 5410 (lw_Z below #[Value.ref b] s) (F0 m 1997 ls []) := by
  have C1 := C0
  obtain ⟨hx, hb, hr, hml, hown, hts, hX, hbl, hlocks, hgv⟩ := C0
  subst h6
  have hown : s.vm.findClass RL = some m.cls := hown
  have hts : ∀ z ∈ wsL_law, z.before #[Value.ref b] s = true := fun z h => hts z (wsL_law_in z h)
  have hbA : ¬ (fun q : Nat => s.heap.size ≤ q) b := Nat.not_le.mpr hbl
  refine lv_aload_n hx hb dL_law_1997 rfl (lv_at hl 2 rfl) ?_
  refine lv_aload_n hx hb dL_law_1998 rfl (lv_at hl 3 rfl) ?_
  refine lv_iload_n hx hb dL_law_1999 rfl (lv_at hl 0 rfl) ?_
  refine lv_iconst (v := 1) hx hb dL_law_2000 (by decide) ?_
  refine lv_iadd hx hb dL_law_2001 ?_
  refine ix_i (y := 1) (by decide) ?_
  refine va_sld hx hb hX hbl hbA hS (in_lit (by decide)) dL_law_2002 ?_
  refine lv_aload_n hx hb dL_law_2003 rfl (lv_at hl 3 rfl) ?_
  refine lv_iload_n hx hb dL_law_2004 rfl (lv_at hl 0 rfl) ?_
  refine lv_iconst (v := 2) hx hb dL_law_2005 (by decide) ?_
  refine lv_iadd hx hb dL_law_2006 ?_
  refine ix_i (y := 2) (by decide) ?_
  refine va_sld hx hb hX hbl hbA hS (in_lit (by decide)) dL_law_2007 ?_
  refine lv_aload_n hx hb dL_law_2008 rfl (lv_at hl 3 rfl) ?_
  refine lv_iload_n hx hb dL_law_2009 rfl (lv_at hl 0 rfl) ?_
  refine lv_iconst (v := 3) hx hb dL_law_2010 (by decide) ?_
  refine lv_iadd hx hb dL_law_2011 ?_
  refine ix_i (y := 3) (by decide) ?_
  refine va_sld hx hb hX hbl hbA hS (in_lit (by decide)) dL_law_2012 ?_
  refine lv_i2l hx hb dL_law_2013 rfl ?_
  refine lv_bipush (v := 32) hx hb dL_law_2014 (by decide) ?_
  refine lv_lshl hx hb dL_law_2016 rfl ?_
  refine lv_aload_n hx hb dL_law_2017 rfl (lv_at hl 3 rfl) ?_
  refine lv_iload_n hx hb dL_law_2018 rfl (lv_at hl 0 rfl) ?_
  refine lv_iconst (v := 4) hx hb dL_law_2019 (by decide) ?_
  refine lv_iadd hx hb dL_law_2020 ?_
  refine ix_i (y := 4) (by decide) ?_
  refine va_sld hx hb hX hbl hbA hS (in_lit (by decide)) dL_law_2021 ?_
  refine lv_i2l hx hb dL_law_2022 rfl ?_
  refine lv_ldc2 (own := RL) (v := 4294967295) hx hb hown (hts (.constantLong RL 271 (4294967295)) (by decide +kernel)) dL_law_2023 ?_
  refine lv_land hx hb dL_law_2026 ?_
  refine lv_lor hx hb dL_law_2027 ?_
  refine ro_calli (va_runV (As := [.int (xs (1 : Int32).toNatClampNeg), .int (xs (2 : Int32).toNatClampNeg), .long ((((xs (3 : Int32).toNatClampNeg).toInt64) <<< ((32 : Int32).toInt64 &&& 63)) ||| (((xs (4 : Int32).toNatClampNeg).toInt64) &&& 4294967295))]) (rest := []) ⟨hx, hb, hml, hown, hts⟩ (c_X10_write l G ct a rr (xs (1 : Int32).toNatClampNeg) (xs (2 : Int32).toNatClampNeg) ((((xs (3 : Int32).toNatClampNeg).toInt64) <<< ((32 : Int32).toInt64 &&& 63)) ||| (((xs (4 : Int32).toNatClampNeg).toInt64) &&& 4294967295))) (cwV 3 hts gL_law_X10_write rfl rfl rfl (by decide +kernel) ⟨Nat.le_of_ble_eq_true rfl, Nat.le_of_ble_eq_true rfl⟩) (ro_preV 10 0 hK hPx rfl rfl) rfl rfl hl.1 rfl (lv_room (Nat.le_of_ble_eq_true rfl)) dL_law_2028 ⟨Nat.le_of_ble_eq_true rfl, Nat.le_of_ble_eq_true rfl⟩) hS hPm (fun r1 H locs wr1 hPm hS => ?_)
  refine lv_aload_n hx hb dL_law_2031 rfl (lv_at hl 1 rfl) ?_
  refine lv_aload_n hx hb dL_law_2032 rfl (lv_at hl 3 rfl) ?_
  refine lv_iload_n hx hb dL_law_2033 rfl (lv_at hl 0 rfl) ?_
  refine lv_iconst (v := 1) hx hb dL_law_2034 (by decide) ?_
  refine lv_iadd hx hb dL_law_2035 ?_
  refine ix_i (y := 1) (by decide) ?_
  refine va_sld hx hb hX hbl hbA hS (in_lit (by decide)) dL_law_2036 ?_
  refine lv_aload_n hx hb dL_law_2037 rfl (lv_at hl 3 rfl) ?_
  refine lv_iload_n hx hb dL_law_2038 rfl (lv_at hl 0 rfl) ?_
  refine lv_iconst (v := 2) hx hb dL_law_2039 (by decide) ?_
  refine lv_iadd hx hb dL_law_2040 ?_
  refine ix_i (y := 2) (by decide) ?_
  refine va_sld hx hb hX hbl hbA hS (in_lit (by decide)) dL_law_2041 ?_
  refine lv_aload_n hx hb dL_law_2042 rfl (lv_at hl 3 rfl) ?_
  refine lv_iload_n hx hb dL_law_2043 rfl (lv_at hl 0 rfl) ?_
  refine lv_iconst (v := 3) hx hb dL_law_2044 (by decide) ?_
  refine lv_iadd hx hb dL_law_2045 ?_
  refine ix_i (y := 3) (by decide) ?_
  refine va_sld hx hb hX hbl hbA hS (in_lit (by decide)) dL_law_2046 ?_
  refine lv_i2l hx hb dL_law_2047 rfl ?_
  refine lv_bipush (v := 32) hx hb dL_law_2048 (by decide) ?_
  refine lv_lshl hx hb dL_law_2050 rfl ?_
  refine lv_aload_n hx hb dL_law_2051 rfl (lv_at hl 3 rfl) ?_
  refine lv_iload_n hx hb dL_law_2052 rfl (lv_at hl 0 rfl) ?_
  refine lv_iconst (v := 4) hx hb dL_law_2053 (by decide) ?_
  refine lv_iadd hx hb dL_law_2054 ?_
  refine ix_i (y := 4) (by decide) ?_
  refine va_sld hx hb hX hbl hbA hS (in_lit (by decide)) dL_law_2055 ?_
  refine lv_i2l hx hb dL_law_2056 rfl ?_
  refine lv_ldc2 (own := RL) (v := 4294967295) hx hb hown (hts (.constantLong RL 271 (4294967295)) (by decide +kernel)) dL_law_2057 ?_
  refine lv_land hx hb dL_law_2060 ?_
  refine lv_lor hx hb dL_law_2061 ?_
  refine wq_calli (va_runV (As := [.int (xs (1 : Int32).toNatClampNeg), .int (xs (2 : Int32).toNatClampNeg), .long ((((xs (3 : Int32).toNatClampNeg).toInt64) <<< ((32 : Int32).toInt64 &&& 63)) ||| (((xs (4 : Int32).toNatClampNeg).toInt64) &&& 4294967295))]) (rest := [.int r1]) ⟨hx, hb, hml, hown, hts⟩ (c_X11_write l G ct bm (xs (1 : Int32).toNatClampNeg) (xs (2 : Int32).toNatClampNeg) ((((xs (3 : Int32).toNatClampNeg).toInt64) <<< ((32 : Int32).toInt64 &&& 63)) ||| (((xs (4 : Int32).toNatClampNeg).toInt64) &&& 4294967295))) (cwV 3 hts gL_law_X11_write rfl rfl rfl (by decide +kernel) ⟨Nat.le_of_ble_eq_true rfl, Nat.le_of_ble_eq_true rfl⟩) (wr_preV 11 0 hK hPm hDm rfl rfl) rfl rfl hl.1 rfl (lv_room (Nat.le_of_ble_eq_true rfl)) dL_law_2062 ⟨Nat.le_of_ble_eq_true rfl, Nat.le_of_ble_eq_true rfl⟩) hS (aset_D hDm) (fun r2 H locs wr2 hk hS => ?_)
  refine lv_icmp_eq (tgt := 2133) hx hb dL_law_2065 (by decide) (fun c_1 => ?_) (fun c_1 => ?_)
  · exact law_next l C1 rfl H locs hS ls (lv_sub hl [0, 3] rfl)
  · exact absurd (wr1.trans wr2.symm) c_1
set_option maxHeartbeats 4000000 in
set_option maxRecDepth 100000 in
theorem law_c64 {p : Program} {e : Env} {s : State} {m : MethodId} {below : List Frame} {meth : Method} {c : Code} (l : Launch) {b L : Nat} {xs : Nat → Int32} (C0 : lw_At p s m meth c b L xs) (h6 : L = 6) (G : va_G) (ct : Nat → ClassId) (a rr bm : Nat → Nat) (H : Heap) (locs : List Loc) (hK : KK G ct s) (hPx : va_P G vwCl (xF a rr ct) H) (hPm : va_P G vwCl (mF bm ct) H) (hDx : va_D (fun q : Nat => s.heap.size ≤ q) (xF a rr ct)) (hDm : va_D (fun q : Nat => s.heap.size ≤ q) (mF bm ct)) (hap : ∀ q, aset (xF a rr ct) q → ¬ aset (mF bm ct) q) (hS : va_S (fun q : Nat => s.heap.size ≤ q) s.heap H locs) (ls : Array Slot) (hl : lv_has ls 4 [(3, .int 0), (2, .ref (bm 0)), (1, .ref (a 0)), (0, .ref b)]) : W p l e room_1 s m #[Value.ref b] below meth c H locs 110 5410 (lw_Z below #[Value.ref b] s) (F0 m 2070 ls []) := by
  have C1 := C0
  obtain ⟨hx, hb, hr, hml, hown, hts, hX, hbl, hlocks, hgv⟩ := C0
  subst h6
  have hown : s.vm.findClass RL = some m.cls := hown
  have hts : ∀ z ∈ wsL_law, z.before #[Value.ref b] s = true := fun z h => hts z (wsL_law_in z h)
  have hbA : ¬ (fun q : Nat => s.heap.size ≤ q) b := Nat.not_le.mpr hbl
  refine lv_aload_n hx hb dL_law_2070 rfl (lv_at hl 2 rfl) ?_
  refine lv_aload_n hx hb dL_law_2071 rfl (lv_at hl 3 rfl) ?_
  refine lv_iload_n hx hb dL_law_2072 rfl (lv_at hl 0 rfl) ?_
  refine lv_iconst (v := 1) hx hb dL_law_2073 (by decide) ?_
  refine lv_iadd hx hb dL_law_2074 ?_
  refine ix_i (y := 1) (by decide) ?_
  refine va_sld hx hb hX hbl hbA hS (in_lit (by decide)) dL_law_2075 ?_
  refine lv_aload_n hx hb dL_law_2076 rfl (lv_at hl 3 rfl) ?_
  refine lv_iload_n hx hb dL_law_2077 rfl (lv_at hl 0 rfl) ?_
  refine lv_iconst (v := 2) hx hb dL_law_2078 (by decide) ?_
  refine lv_iadd hx hb dL_law_2079 ?_
  refine ix_i (y := 2) (by decide) ?_
  refine va_sld hx hb hX hbl hbA hS (in_lit (by decide)) dL_law_2080 ?_
  refine lv_aload_n hx hb dL_law_2081 rfl (lv_at hl 3 rfl) ?_
  refine lv_iload_n hx hb dL_law_2082 rfl (lv_at hl 0 rfl) ?_
  refine lv_iconst (v := 3) hx hb dL_law_2083 (by decide) ?_
  refine lv_iadd hx hb dL_law_2084 ?_
  refine ix_i (y := 3) (by decide) ?_
  refine va_sld hx hb hX hbl hbA hS (in_lit (by decide)) dL_law_2085 ?_
  refine lv_aload_n hx hb dL_law_2086 rfl (lv_at hl 3 rfl) ?_
  refine lv_iload_n hx hb dL_law_2087 rfl (lv_at hl 0 rfl) ?_
  refine lv_iconst (v := 4) hx hb dL_law_2088 (by decide) ?_
  refine lv_iadd hx hb dL_law_2089 ?_
  refine ix_i (y := 4) (by decide) ?_
  refine va_sld hx hb hX hbl hbA hS (in_lit (by decide)) dL_law_2090 ?_
  refine lv_aload_n hx hb dL_law_2091 rfl (lv_at hl 3 rfl) ?_
  refine lv_iload_n hx hb dL_law_2092 rfl (lv_at hl 0 rfl) ?_
  refine lv_iconst (v := 5) hx hb dL_law_2093 (by decide) ?_
  refine lv_iadd hx hb dL_law_2094 ?_
  refine ix_i (y := 5) (by decide) ?_
  refine va_sld hx hb hX hbl hbA hS (in_lit (by decide)) dL_law_2095 ?_
  refine ro_calli (va_runV (As := [.int (xs (1 : Int32).toNatClampNeg), .int (xs (2 : Int32).toNatClampNeg), .int (xs (3 : Int32).toNatClampNeg), .int (xs (4 : Int32).toNatClampNeg), .int (xs (5 : Int32).toNatClampNeg)]) (rest := []) ⟨hx, hb, hml, hown, hts⟩ (c_X10_paste l G ct a rr (xs (1 : Int32).toNatClampNeg) (xs (2 : Int32).toNatClampNeg) (xs (3 : Int32).toNatClampNeg) (xs (4 : Int32).toNatClampNeg) (xs (5 : Int32).toNatClampNeg)) (cwV 5 hts gL_law_X10_paste rfl rfl rfl (by decide +kernel) ⟨Nat.le_of_ble_eq_true rfl, Nat.le_of_ble_eq_true rfl⟩) (ro_preV 10 0 hK hPx rfl rfl) rfl rfl hl.1 rfl (lv_room (Nat.le_of_ble_eq_true rfl)) dL_law_2096 ⟨Nat.le_of_ble_eq_true rfl, Nat.le_of_ble_eq_true rfl⟩) hS hPm (fun r1 H locs wr1 hPm hS => ?_)
  refine lv_aload_n hx hb dL_law_2099 rfl (lv_at hl 1 rfl) ?_
  refine lv_aload_n hx hb dL_law_2100 rfl (lv_at hl 3 rfl) ?_
  refine lv_iload_n hx hb dL_law_2101 rfl (lv_at hl 0 rfl) ?_
  refine lv_iconst (v := 1) hx hb dL_law_2102 (by decide) ?_
  refine lv_iadd hx hb dL_law_2103 ?_
  refine ix_i (y := 1) (by decide) ?_
  refine va_sld hx hb hX hbl hbA hS (in_lit (by decide)) dL_law_2104 ?_
  refine lv_aload_n hx hb dL_law_2105 rfl (lv_at hl 3 rfl) ?_
  refine lv_iload_n hx hb dL_law_2106 rfl (lv_at hl 0 rfl) ?_
  refine lv_iconst (v := 2) hx hb dL_law_2107 (by decide) ?_
  refine lv_iadd hx hb dL_law_2108 ?_
  refine ix_i (y := 2) (by decide) ?_
  refine va_sld hx hb hX hbl hbA hS (in_lit (by decide)) dL_law_2109 ?_
  refine lv_aload_n hx hb dL_law_2110 rfl (lv_at hl 3 rfl) ?_
  refine lv_iload_n hx hb dL_law_2111 rfl (lv_at hl 0 rfl) ?_
  refine lv_iconst (v := 3) hx hb dL_law_2112 (by decide) ?_
  refine lv_iadd hx hb dL_law_2113 ?_
  refine ix_i (y := 3) (by decide) ?_
  refine va_sld hx hb hX hbl hbA hS (in_lit (by decide)) dL_law_2114 ?_
  refine lv_aload_n hx hb dL_law_2115 rfl (lv_at hl 3 rfl) ?_
  refine lv_iload_n hx hb dL_law_2116 rfl (lv_at hl 0 rfl) ?_
  refine lv_iconst (v := 4) hx hb dL_law_2117 (by decide) ?_
  refine lv_iadd hx hb dL_law_2118 ?_
  refine ix_i (y := 4) (by decide) ?_
  refine va_sld hx hb hX hbl hbA hS (in_lit (by decide)) dL_law_2119 ?_
  refine lv_aload_n hx hb dL_law_2120 rfl (lv_at hl 3 rfl) ?_
  refine lv_iload_n hx hb dL_law_2121 rfl (lv_at hl 0 rfl) ?_
  refine lv_iconst (v := 5) hx hb dL_law_2122 (by decide) ?_
  refine lv_iadd hx hb dL_law_2123 ?_
  refine ix_i (y := 5) (by decide) ?_
  refine va_sld hx hb hX hbl hbA hS (in_lit (by decide)) dL_law_2124 ?_
  refine wq_calli (va_runV (As := [.int (xs (1 : Int32).toNatClampNeg), .int (xs (2 : Int32).toNatClampNeg), .int (xs (3 : Int32).toNatClampNeg), .int (xs (4 : Int32).toNatClampNeg), .int (xs (5 : Int32).toNatClampNeg)]) (rest := [.int r1]) ⟨hx, hb, hml, hown, hts⟩ (c_X11_paste l G ct bm (xs (1 : Int32).toNatClampNeg) (xs (2 : Int32).toNatClampNeg) (xs (3 : Int32).toNatClampNeg) (xs (4 : Int32).toNatClampNeg) (xs (5 : Int32).toNatClampNeg)) (cwV 5 hts gL_law_X11_paste rfl rfl rfl (by decide +kernel) ⟨Nat.le_of_ble_eq_true rfl, Nat.le_of_ble_eq_true rfl⟩) (wr_preV 11 0 hK hPm hDm rfl rfl) rfl rfl hl.1 rfl (lv_room (Nat.le_of_ble_eq_true rfl)) dL_law_2125 ⟨Nat.le_of_ble_eq_true rfl, Nat.le_of_ble_eq_true rfl⟩) hS (aset_D hDm) (fun r2 H locs wr2 hk hS => ?_)
  refine lv_icmp_eq (tgt := 2133) hx hb dL_law_2128 (by decide) (fun c_1 => ?_) (fun c_1 => ?_)
  · exact law_next l C1 rfl H locs hS ls (lv_sub hl [0, 3] rfl)
  · exact absurd (wr1.trans wr2.symm) c_1