theorem dL_law_1786 : decode cL_law 1786 = .ok (.aload_n 1, 1) := by decide +kernel
theorem dL_law_1787 : decode cL_law 1787 = .ok (.aload_n 0, 1) := by decide +kernel
theorem dL_law_1788 : decode cL_law 1788 = .ok (.iload_n 3, 1) := by decide +kernel
theorem dL_law_1789 : decode cL_law 1789 = .ok (.iconst 1, 1) := by decide +kernel
theorem dL_law_1790 : decode cL_law 1790 = .ok (.iadd, 1) := by decide +kernel
theorem dL_law_1791 : decode cL_law 1791 = .ok (.iaload, 1) := by decide +kernel
theorem dL_law_1792 : decode cL_law 1792 = .ok (.aload_n 0, 1) := by decide +kernel
theorem dL_law_1793 : decode cL_law 1793 = .ok (.iload_n 3, 1) := by decide +kernel
theorem dL_law_1794 : decode cL_law 1794 = .ok (.iconst 2, 1) := by decide +kernel
theorem dL_law_1795 : decode cL_law 1795 = .ok (.iadd, 1) := by decide +kernel
theorem dL_law_1796 : decode cL_law 1796 = .ok (.iaload, 1) := by decide +kernel
set_option maxRecDepth 20000 in
theorem ggL_law_X10_winds : GoodIn wsL_law wsX10_winds := goodIn_s _ [(65, 5), (1, 20), (38, 5), (63, 1), (25, 23), (26, 0), (26, 1), (0, 2), (26, 2), (1, 0), (1, 11), (7, 22), (63, 2), (63, 3), (63, 4), (63, 5), (64, 18), (64, 19), (64, 20), (22, 16), (22, 17), (22, 18), (22, 19), (22, 0), (22, 6), (63, 6), (63, 7), (63, 8), (1, 19), (63, 9), (63, 10), (4, 16), (63, 11), (8, 23), (9, 0), (9, 1), (63, 12), (4, 17), (63, 13), (63, 14), (63, 15), (63, 16), (63, 17), (63, 18), (63, 19), (63, 20), (63, 21), (13, 4), (13, 5), (1, 15), (13, 6), (3, 9), (13, 7), (13, 8), (13, 9), (13, 10), (13, 11), (30, 2), (30, 3), (30, 4), (30, 5), (30, 6), (30, 7), (30, 8), (30, 9), (30, 10), (29, 8), (29, 9), (29, 10), (29, 11), (29, 12), (29, 13), (27, 4), (27, 5), (27, 6), (27, 7), (23, 1), (13, 18), (13, 19), (13, 20), (70, 0), (70, 1), (70, 2), (70, 3), (70, 4), (70, 5), (70, 6), (70, 7), (70, 8), (70, 9), (70, 10), (77, 0), (77, 1), (78, 0), (78, 1), (78, 2), (74, 0), (74, 1), (74, 2), (74, 3), (81, 0), (81, 1), (81, 2), (81, 3), (81, 4), (81, 5), (81, 6), (76, 0), (76, 1), (76, 2), (76, 3), (76, 4), (76, 5), (76, 6), (76, 7)] (by rfl) (by decide +kernel)
set_option maxRecDepth 20000 in
theorem gL_law_X10_winds : GoodIn wsL_law (wsV RL 243 RX10 yX10_winds wsX10_winds) := goodIn_app (goodIn_s _ [(65, 2), (65, 3), (65, 4), (0, 2)] (by rfl) (by decide +kernel)) ggL_law_X10_winds
theorem dL_law_1797 : decode cL_law 1797 = .ok (.invokevirtual 243, 3) := by decide +kernel
theorem dL_law_1800 : decode cL_law 1800 = .ok (.pop, 1) := by decide +kernel
theorem dL_law_1801 : decode cL_law 1801 = .ok (.aload_n 2, 1) := by decide +kernel
theorem dL_law_1802 : decode cL_law 1802 = .ok (.aload_n 0, 1) := by decide +kernel
theorem dL_law_1803 : decode cL_law 1803 = .ok (.iload_n 3, 1) := by decide +kernel
theorem dL_law_1804 : decode cL_law 1804 = .ok (.iconst 1, 1) := by decide +kernel
theorem dL_law_1805 : decode cL_law 1805 = .ok (.iadd, 1) := by decide +kernel
theorem dL_law_1806 : decode cL_law 1806 = .ok (.iaload, 1) := by decide +kernel
theorem dL_law_1807 : decode cL_law 1807 = .ok (.aload_n 0, 1) := by decide +kernel
theorem dL_law_1808 : decode cL_law 1808 = .ok (.iload_n 3, 1) := by decide +kernel
theorem dL_law_1809 : decode cL_law 1809 = .ok (.iconst 2, 1) := by decide +kernel
theorem dL_law_1810 : decode cL_law 1810 = .ok (.iadd, 1) := by decide +kernel
theorem dL_law_1811 : decode cL_law 1811 = .ok (.iaload, 1) := by decide +kernel
set_option maxRecDepth 20000 in
theorem ggL_law_X11_winds : GoodIn wsL_law wsX11_winds := goodIn_s _ [(65, 9), (6, 20), (65, 1), (64, 2), (64, 3), (0, 5), (64, 4), (64, 5), (7, 14), (7, 15), (7, 16), (26, 12), (26, 13), (26, 14), (26, 15), (5, 16), (64, 6), (64, 7), (64, 8), (64, 9), (5, 17), (5, 22), (64, 10), (64, 11), (64, 12), (64, 13), (5, 21), (30, 15), (30, 16), (30, 17), (30, 18), (29, 18), (29, 19), (29, 20), (29, 21), (71, 0), (71, 1), (71, 2), (71, 3), (71, 4), (71, 5), (71, 6), (71, 7), (71, 8), (71, 9), (71, 10), (71, 11), (71, 12), (71, 13), (71, 14), (71, 15), (71, 16), (71, 17), (71, 18), (71, 19), (71, 20), (71, 21), (71, 22), (71, 23), (71, 24), (71, 25), (71, 26), (71, 27), (71, 28), (71, 29), (71, 30)] (by rfl) (by decide +kernel)
set_option maxRecDepth 20000 in
theorem gL_law_X11_winds : GoodIn wsL_law (wsV RL 246 RX11 yX11_winds wsX11_winds) := goodIn_app (goodIn_s _ [(65, 6), (65, 7), (65, 8), (0, 5)] (by rfl) (by decide +kernel)) ggL_law_X11_winds
theorem dL_law_1812 : decode cL_law 1812 = .ok (.invokevirtual 246, 3) := by decide +kernel
theorem dL_law_1815 : decode cL_law 1815 = .ok (.pop, 1) := by decide +kernel
theorem dL_law_1816 : decode cL_law 1816 = .ok (.goto 317, 3) := by decide +kernel
theorem dL_law_1819 : decode cL_law 1819 = .ok (.aload_n 1, 1) := by decide +kernel
theorem dL_law_1820 : decode cL_law 1820 = .ok (.aload_n 0, 1) := by decide +kernel
theorem dL_law_1821 : decode cL_law 1821 = .ok (.iload_n 3, 1) := by decide +kernel
theorem dL_law_1822 : decode cL_law 1822 = .ok (.iconst 1, 1) := by decide +kernel
theorem dL_law_1823 : decode cL_law 1823 = .ok (.iadd, 1) := by decide +kernel
theorem dL_law_1824 : decode cL_law 1824 = .ok (.iaload, 1) := by decide +kernel
theorem dL_law_1825 : decode cL_law 1825 = .ok (.aload_n 0, 1) := by decide +kernel
theorem dL_law_1826 : decode cL_law 1826 = .ok (.iload_n 3, 1) := by decide +kernel
theorem dL_law_1827 : decode cL_law 1827 = .ok (.iconst 2, 1) := by decide +kernel
theorem dL_law_1828 : decode cL_law 1828 = .ok (.iadd, 1) := by decide +kernel
theorem dL_law_1829 : decode cL_law 1829 = .ok (.iaload, 1) := by decide +kernel
set_option maxRecDepth 20000 in
theorem ggL_law_X10_rate : GoodIn wsL_law wsX10_rate := goodIn_s _ [(65, 13), (1, 0), (37, 1), (1, 11), (65, 14), (22, 2), (22, 3), (22, 4), (0, 2), (22, 5), (22, 0), (22, 6), (22, 7), (13, 8), (13, 9), (1, 15), (13, 10), (13, 11), (22, 8), (22, 9), (22, 10), (2, 16), (22, 11), (3, 0), (3, 2), (16, 2), (70, 0), (70, 1), (70, 2), (70, 3), (70, 4), (70, 5), (70, 6), (70, 7), (70, 8), (70, 9), (70, 10), (74, 0), (74, 1), (74, 2), (74, 3), (81, 0), (81, 1), (81, 2), (81, 3), (81, 4), (81, 5), (81, 6), (76, 0), (76, 1), (76, 2), (76, 3), (76, 4), (76, 5), (76, 6), (76, 7), (77, 0), (77, 1)] (by rfl) (by decide +kernel)
set_option maxRecDepth 20000 in
theorem gL_law_X10_rate : GoodIn wsL_law (wsV RL 247 RX10 yX10_rate wsX10_rate) := goodIn_app (goodIn_s _ [(65, 10), (65, 11), (65, 12), (0, 2)] (by rfl) (by decide +kernel)) ggL_law_X10_rate
theorem dL_law_1830 : decode cL_law 1830 = .ok (.invokevirtual 247, 3) := by decide +kernel
theorem dL_law_1833 : decode cL_law 1833 = .ok (.pop, 1) := by decide +kernel
theorem dL_law_1834 : decode cL_law 1834 = .ok (.aload_n 2, 1) := by decide +kernel
theorem dL_law_1835 : decode cL_law 1835 = .ok (.aload_n 0, 1) := by decide +kernel
theorem dL_law_1836 : decode cL_law 1836 = .ok (.iload_n 3, 1) := by decide +kernel
theorem dL_law_1837 : decode cL_law 1837 = .ok (.iconst 1, 1) := by decide +kernel
theorem dL_law_1838 : decode cL_law 1838 = .ok (.iadd, 1) := by decide +kernel
theorem dL_law_1839 : decode cL_law 1839 = .ok (.iaload, 1) := by decide +kernel
theorem dL_law_1840 : decode cL_law 1840 = .ok (.aload_n 0, 1) := by decide +kernel
theorem dL_law_1841 : decode cL_law 1841 = .ok (.iload_n 3, 1) := by decide +kernel
theorem dL_law_1842 : decode cL_law 1842 = .ok (.iconst 2, 1) := by decide +kernel
theorem dL_law_1843 : decode cL_law 1843 = .ok (.iadd, 1) := by decide +kernel
theorem dL_law_1844 : decode cL_law 1844 = .ok (.iaload, 1) := by decide +kernel
set_option maxRecDepth 20000 in
theorem ggL_law_X11_rate : GoodIn wsL_law wsX11_rate := goodIn_s _ [(65, 18), (6, 20), (65, 19), (5, 17), (5, 18), (23, 21), (23, 22), (23, 23), (0, 5), (24, 0), (7, 14), (7, 15), (7, 16), (71, 0), (71, 1), (71, 2), (71, 3), (71, 4), (71, 5), (71, 6), (71, 7), (71, 8), (71, 9), (71, 10), (71, 11), (71, 12), (71, 13), (71, 14), (71, 15), (71, 16), (71, 17), (71, 18), (71, 19), (71, 20), (71, 21), (71, 22), (71, 23), (71, 24), (71, 25), (71, 26), (71, 27), (71, 28), (71, 29), (71, 30)] (by rfl) (by decide +kernel)
set_option maxRecDepth 20000 in
theorem gL_law_X11_rate : GoodIn wsL_law (wsV RL 250 RX11 yX11_rate wsX11_rate) := goodIn_app (goodIn_s _ [(65, 15), (65, 16), (65, 17), (0, 5)] (by rfl) (by decide +kernel)) ggL_law_X11_rate
theorem dL_law_1845 : decode cL_law 1845 = .ok (.invokevirtual 250, 3) := by decide +kernel
theorem dL_law_1848 : decode cL_law 1848 = .ok (.pop, 1) := by decide +kernel
theorem dL_law_1849 : decode cL_law 1849 = .ok (.goto 284, 3) := by decide +kernel
theorem dL_law_1852 : decode cL_law 1852 = .ok (.aload_n 1, 1) := by decide +kernel
theorem dL_law_1853 : decode cL_law 1853 = .ok (.aload_n 0, 1) := by decide +kernel
theorem dL_law_1854 : decode cL_law 1854 = .ok (.iload_n 3, 1) := by decide +kernel
theorem dL_law_1855 : decode cL_law 1855 = .ok (.iconst 1, 1) := by decide +kernel
theorem dL_law_1856 : decode cL_law 1856 = .ok (.iadd, 1) := by decide +kernel
theorem dL_law_1857 : decode cL_law 1857 = .ok (.iaload, 1) := by decide +kernel
theorem dL_law_1858 : decode cL_law 1858 = .ok (.aload_n 0, 1) := by decide +kernel
theorem dL_law_1859 : decode cL_law 1859 = .ok (.iload_n 3, 1) := by decide +kernel
theorem dL_law_1860 : decode cL_law 1860 = .ok (.iconst 2, 1) := by decide +kernel
theorem dL_law_1861 : decode cL_law 1861 = .ok (.iadd, 1) := by decide +kernel
theorem dL_law_1862 : decode cL_law 1862 = .ok (.iaload, 1) := by decide +kernel
set_option maxRecDepth 20000 in
theorem ggL_law_X10_forge : GoodIn wsL_law wsX10_forge := goodIn_s _ [(65, 23), (1, 0), (37, 1), (1, 11), (66, 0), (22, 2), (22, 3), (22, 4), (0, 2), (22, 5), (22, 0), (22, 6), (22, 7), (13, 8), (13, 9), (1, 15), (13, 10), (13, 11), (23, 7), (23, 8), (23, 9), (2, 16), (23, 10), (3, 0), (3, 5), (16, 2), (70, 0), (70, 1), (70, 2), (70, 3), (70, 4), (70, 5), (70, 6), (70, 7), (70, 8), (70, 9), (70, 10), (74, 0), (74, 1), (74, 2), (74, 3), (81, 0), (81, 1), (81, 2), (81, 3), (81, 4), (81, 5), (81, 6), (76, 0), (76, 1), (76, 2), (76, 3), (76, 4), (76, 5), (76, 6), (76, 7), (77, 0), (77, 1)] (by rfl) (by decide +kernel)
set_option maxRecDepth 20000 in
theorem gL_law_X10_forge : GoodIn wsL_law (wsV RL 251 RX10 yX10_forge wsX10_forge) := goodIn_app (goodIn_s _ [(65, 20), (65, 21), (65, 22), (0, 2)] (by rfl) (by decide +kernel)) ggL_law_X10_forge
theorem dL_law_1863 : decode cL_law 1863 = .ok (.invokevirtual 251, 3) := by decide +kernel
theorem dL_law_1866 : decode cL_law 1866 = .ok (.pop, 1) := by decide +kernel
theorem dL_law_1867 : decode cL_law 1867 = .ok (.aload_n 2, 1) := by decide +kernel
theorem dL_law_1868 : decode cL_law 1868 = .ok (.aload_n 0, 1) := by decide +kernel
theorem dL_law_1869 : decode cL_law 1869 = .ok (.iload_n 3, 1) := by decide +kernel
theorem dL_law_1870 : decode cL_law 1870 = .ok (.iconst 1, 1) := by decide +kernel
theorem dL_law_1871 : decode cL_law 1871 = .ok (.iadd, 1) := by decide +kernel
theorem dL_law_1872 : decode cL_law 1872 = .ok (.iaload, 1) := by decide +kernel
theorem dL_law_1873 : decode cL_law 1873 = .ok (.aload_n 0, 1) := by decide +kernel
theorem dL_law_1874 : decode cL_law 1874 = .ok (.iload_n 3, 1) := by decide +kernel
theorem dL_law_1875 : decode cL_law 1875 = .ok (.iconst 2, 1) := by decide +kernel
theorem dL_law_1876 : decode cL_law 1876 = .ok (.iadd, 1) := by decide +kernel
theorem dL_law_1877 : decode cL_law 1877 = .ok (.iaload, 1) := by decide +kernel
set_option maxRecDepth 20000 in
theorem ggL_law_X11_forge : GoodIn wsL_law wsX11_forge := goodIn_s _ [(66, 4), (6, 20), (5, 17), (5, 18), (23, 21), (23, 22), (23, 23), (0, 5), (24, 0), (7, 14), (7, 15), (7, 16), (71, 0), (71, 1), (71, 2), (71, 3), (71, 4), (71, 5), (71, 6), (71, 7), (71, 8), (71, 9), (71, 10), (71, 11), (71, 12), (71, 13), (71, 14), (71, 15), (71, 16), (71, 17), (71, 18), (71, 19), (71, 20), (71, 21), (71, 22), (71, 23), (71, 24), (71, 25), (71, 26), (71, 27), (71, 28), (71, 29), (71, 30)] (by rfl) (by decide +kernel)
set_option maxRecDepth 20000 in
theorem gL_law_X11_forge : GoodIn wsL_law (wsV RL 254 RX11 yX11_forge wsX11_forge) := goodIn_app (goodIn_s _ [(66, 1), (66, 2), (66, 3), (0, 5)] (by rfl) (by decide +kernel)) ggL_law_X11_forge
theorem dL_law_1878 : decode cL_law 1878 = .ok (.invokevirtual 254, 3) := by decide +kernel
theorem dL_law_1881 : decode cL_law 1881 = .ok (.pop, 1) := by decide +kernel
theorem dL_law_1882 : decode cL_law 1882 = .ok (.goto 251, 3) := by decide +kernel
theorem dL_law_1885 : decode cL_law 1885 = .ok (.aload_n 1, 1) := by decide +kernel
theorem dL_law_1886 : decode cL_law 1886 = .ok (.aload_n 0, 1) := by decide +kernel
theorem dL_law_1887 : decode cL_law 1887 = .ok (.iload_n 3, 1) := by decide +kernel
theorem dL_law_1888 : decode cL_law 1888 = .ok (.iconst 1, 1) := by decide +kernel
theorem dL_law_1889 : decode cL_law 1889 = .ok (.iadd, 1) := by decide +kernel
theorem dL_law_1890 : decode cL_law 1890 = .ok (.iaload, 1) := by decide +kernel
set_option maxRecDepth 20000 in
theorem ggL_law_X10_count : GoodIn wsL_law wsX10_count := goodIn_s _ [(66, 8), (38, 5), (1, 0), (1, 11), (66, 9), (37, 1), (7, 22), (0, 16), (6, 5), (1, 7), (22, 16), (22, 17), (22, 18), (0, 2), (22, 19), (22, 0), (22, 6), (26, 3), (26, 4), (26, 5), (1, 15), (26, 6), (26, 7), (22, 22), (22, 23), (23, 0), (13, 11), (23, 1), (13, 18), (13, 19), (13, 20), (3, 9), (13, 7), (13, 8), (13, 9), (13, 10), (43, 1), (38, 11), (38, 12), (38, 13), (38, 14), (38, 15), (38, 16), (66, 10), (66, 11), (66, 12), (2, 16), (66, 13), (3, 0), (8, 11), (66, 14), (23, 8), (23, 9), (23, 10), (3, 5), (16, 2), (66, 15), (66, 16), (66, 17), (1, 6), (66, 18), (47, 19), (66, 19), (77, 0), (77, 1), (70, 0), (70, 1), (70, 2), (70, 3), (70, 4), (70, 5), (70, 6), (70, 7), (70, 8), (70, 9), (70, 10), (74, 0), (74, 1), (74, 2), (74, 3), (81, 0), (81, 1), (81, 2), (81, 3), (81, 4), (81, 5), (81, 6), (72, 0), (72, 1), (76, 0), (76, 1), (76, 2), (76, 3), (76, 4), (76, 5), (76, 6), (76, 7), (75, 0), (75, 1), (75, 2), (75, 3)] (by rfl) (by decide +kernel)
set_option maxRecDepth 20000 in
theorem gL_law_X10_count : GoodIn wsL_law (wsV RL 255 RX10 yX10_count wsX10_count) := goodIn_app (goodIn_s _ [(66, 5), (66, 6), (66, 7), (0, 2)] (by rfl) (by decide +kernel)) ggL_law_X10_count
theorem dL_law_1891 : decode cL_law 1891 = .ok (.invokevirtual 255, 3) := by decide +kernel
theorem dL_law_1894 : decode cL_law 1894 = .ok (.pop, 1) := by decide +kernel
theorem dL_law_1895 : decode cL_law 1895 = .ok (.aload_n 2, 1) := by decide +kernel
theorem dL_law_1896 : decode cL_law 1896 = .ok (.aload_n 0, 1) := by decide +kernel
theorem dL_law_1897 : decode cL_law 1897 = .ok (.iload_n 3, 1) := by decide +kernel
theorem dL_law_1898 : decode cL_law 1898 = .ok (.iconst 1, 1) := by decide +kernel
theorem dL_law_1899 : decode cL_law 1899 = .ok (.iadd, 1) := by decide +kernel
theorem dL_law_1900 : decode cL_law 1900 = .ok (.iaload, 1) := by decide +kernel
set_option maxRecDepth 20000 in
theorem ggL_law_X11_count : GoodIn wsL_law wsX11_count := goodIn_s _ [(66, 23), (6, 20), (5, 17), (5, 16), (6, 21), (5, 10), (24, 1), (24, 2), (24, 3), (0, 5), (24, 4), (5, 19), (24, 5), (24, 6), (24, 7), (24, 8), (5, 21), (5, 22), (5, 23), (23, 20), (24, 9), (24, 10), (24, 11), (24, 12), (24, 13), (24, 14), (24, 15), (5, 18), (24, 16), (24, 17), (24, 18), (24, 19), (24, 20), (24, 21), (24, 22), (24, 23), (25, 0), (25, 1), (25, 2), (25, 3), (25, 4), (25, 5), (25, 6), (25, 7), (25, 8), (25, 9), (25, 10), (26, 16), (26, 17), (26, 18), (26, 19), (39, 1), (39, 2), (39, 3), (71, 0), (71, 1), (71, 2), (71, 3), (71, 4), (71, 5), (71, 6), (71, 7), (71, 8), (71, 9), (71, 10), (71, 11), (71, 12), (71, 13), (71, 14), (71, 15), (71, 16), (71, 17), (71, 18), (71, 19), (71, 20), (71, 21), (71, 22), (71, 23), (71, 24), (71, 25), (71, 26), (71, 27), (71, 28), (71, 29), (71, 30)] (by rfl) (by decide +kernel)
set_option maxRecDepth 20000 in
theorem gL_law_X11_count : GoodIn wsL_law (wsV RL 258 RX11 yX11_count wsX11_count) := goodIn_app (goodIn_s _ [(66, 20), (66, 21), (66, 22), (0, 5)] (by rfl) (by decide +kernel)) ggL_law_X11_count
theorem dL_law_1901 : decode cL_law 1901 = .ok (.invokevirtual 258, 3) := by decide +kernel
theorem dL_law_1904 : decode cL_law 1904 = .ok (.pop, 1) := by decide +kernel
theorem dL_law_1905 : decode cL_law 1905 = .ok (.goto 228, 3) := by decide +kernel
set_option maxHeartbeats 8000000 in
set_option maxRecDepth 100000 in
theorem law_c56 {p : Program} {e : Env} {s : State} {m : MethodId} {below : List Frame} {meth : Method} {c : Code} (l : Launch) {b L : Nat} {xs : Nat → Int32} (C0 : lw_At p s m meth c b L xs) (hL : L ≤ 3072) (k : Nat) (hk6 : k + 6 ≤ L) (G : va_G) (ct : Nat → ClassId) (a rr bm adK adV : Nat → Nat) (v : Nat → Nat → Int32) (f : Nat → Nat → Int32) (g : Nat → Nat → Int64) (v2 : Nat → Nat → Int32) (f2 : Nat → Nat → Int32) (g2 : Nat → Nat → Int64) (H : Heap) (locs : List Loc) (hK : KK G ct s) (hZ : SS adK adV (fun q : Nat => s.heap.size ≤ q) s s.heap) (hD0 : va_D (fun q : Nat => s.heap.size ≤ q) (xW a rr ct (fun _ _ => 0) (fun _ _ => 0) (fun _ _ => 0))) (hE0 : va_D (fun q : Nat => s.heap.size ≤ q) (mW bm ct (fun _ _ => 0) (fun _ _ => 0) (fun _ _ => 0))) (hap0 : wset a rr bm ct) (hIx : XI v f g) (hIm : MI v2 f2 g2) (hR : REL v f g v2 f2 g2) (hPx : va_P G vwCl (xW a rr ct v f g) H) (hPm : va_P G vwCl (mW bm ct v2 f2 g2) H) (hS : va_S (fun q : Nat => s.heap.size ≤ q) s.heap H locs) (ls : Array Slot) (hl : lv_has ls 4 [(3, .int (nI k)), (2, .ref (bm 0)), (1, .ref (a 0)), (0, .ref b)]) (kk : ∀ (v : Nat → Nat → Int32) (f : Nat → Nat → Int32) (g : Nat → Nat → Int64) (v2 : Nat → Nat → Int32) (f2 : Nat → Nat → Int32) (g2 : Nat → Nat → Int64) (H : Heap) (locs : List Loc) (ls : Array Slot), XI v f g → MI v2 f2 g2 → REL v f g v2 f2 g2 → va_P G vwCl (xW a rr ct v f g) H → va_P G vwCl (mW bm ct v2 f2 g2) H → va_S (fun q : Nat => s.heap.size ≤ q) s.heap H locs → lv_has ls 4 [(3, .int (nI k)), (2, .ref (bm 0)), (1, .ref (a 0)), (0, .ref b)] → W p l e room_1 s m #[Value.ref b] below meth c H locs 110 5410 (lw_Z below #[Value.ref b] s) (F0 m 2133 ls [])) : W p l e room_1 s m #[Value.ref b] below meth c H locs 110 5410 (lw_Z below #[Value.ref b] s) (F0 m 1786 ls []) := by
  obtain ⟨hx, hb, hr, hml, hown, hts, hX, hbl, hlocks, hgv⟩ := C0
  have hown : s.vm.findClass RL = some m.cls := hown
  have hts : ∀ z ∈ wsL_law, z.before #[Value.ref b] s = true := fun z h => hts z (wsL_law_in z h)
  have hbA : ¬ (fun q : Nat => s.heap.size ≤ q) b := Nat.not_le.mpr hbl
  have hDx : va_D (fun q : Nat => s.heap.size ≤ q) (xW a rr ct v f g) := hD0.ad (xW_ad ..)
  have hDm : va_D (fun q : Nat => s.heap.size ≤ q) (mW bm ct v2 f2 g2) := hE0.ad (mW_ad ..)
  have hap : ∀ q, aset (xW a rr ct v f g) q → ¬ aset (mW bm ct v2 f2 g2) q := fun q h1 h2 => hap0 q (aset_ad (xW_ad ..) h1) (aset_ad (mW_ad ..) h2)
  refine lv_aload_n hx hb dL_law_1786 rfl (lv_at hl 2 rfl) ?_
  refine lv_aload_n hx hb dL_law_1787 rfl (lv_at hl 3 rfl) ?_
  refine lv_iload_n hx hb dL_law_1788 rfl (lv_at hl 0 rfl) ?_
  refine lv_iconst (v := 1) hx hb dL_law_1789 (by decide) ?_
  refine lv_iadd hx hb dL_law_1790 ?_
  refine ix_i (y := nI (k + 1)) (nI_add k 1) ?_
  refine va_sld hx hb hX hbl hbA hS (vp_in_nI (n := k + 1) (by omega) (by omega)) dL_law_1791 ?_
  refine lv_aload_n hx hb dL_law_1792 rfl (lv_at hl 3 rfl) ?_
  refine lv_iload_n hx hb dL_law_1793 rfl (lv_at hl 0 rfl) ?_
  refine lv_iconst (v := 2) hx hb dL_law_1794 (by decide) ?_
  refine lv_iadd hx hb dL_law_1795 ?_
  refine ix_i (y := nI (k + 2)) (nI_add k 2) ?_
  refine va_sld hx hb hX hbl hbA hS (vp_in_nI (n := k + 2) (by omega) (by omega)) dL_law_1796 ?_
  refine lw_callx (w1 := (fun u : SU => [((a 0), .inr (10, [.ref (a 1), .ref (a 3), .ref (a 11), .ref (a 25), .ref (a 68), .ref (a 69), .ref (a 77), .ref (a 82), .ref (a 84), .ref (a 88), .ref (a 91)])), ((a 11), .inr (4, [.ref (a 12), .ref (a 19), .ref (a 24), .int (v 11 3)])), ((a 12), .inr (9, [.ref (a 13), .ref (a 15), .ref (a 16), .ref (a 17), .ref (a 18), .int (v 12 5), .int (v 12 6)])), ((a 19), .inr (2, [.ref (a 12), .ref (a 20), .ref (a 22), .ref (a 23), .int (v 19 4), .int (v 19 5), .int (v 19 6), .int (v 19 7)])), ((a 20), .inr (0, [.ref (a 21), .int (v 20 1)])), ((a 84), .inr (7, [.ref (a 85), .ref (a 87), .long (u.2.2 0 0)])), ((a 85), .inr (0, [.ref (a 86), .int (u.1 0)])), ((a 86), .inl (ct 0, 8, .inl (u.2.1 0))), ((a 87), .inl (ct 0, 8, .inl (u.2.1 1)))])) (va_runV (As := [.int (xs (nI (k + 1)).toNatClampNeg), .int (xs (nI (k + 2)).toNatClampNeg)]) (rest := []) ⟨hx, hb, hml, hown, hts⟩ (a_X10_winds l G ct (a 0) (a 1) (a 3) (a 11) (a 25) (a 68) (a 69) (a 77) (a 82) (a 84) (a 88) (a 91) (a 12) (a 19) (a 24) (v 11 3) (a 13) (a 15) (a 16) (a 17) (a 18) (v 12 5) (v 12 6) (a 20) (a 22) (a 23) (v 19 4) (v 19 5) (v 19 6) (v 19 7) (a 21) (v 20 1) (a 85) (a 87) (g 84 2) (a 86) (v 85 1) (f 86) (f 87) (xs (nI (k + 1)).toNatClampNeg) (xs (nI (k + 2)).toNatClampNeg) hIx.2.2.2.1 hIx.2.2.2.2.2.2.2.2.2.2.2.2.2.1) (cwV 2 hts gL_law_X10_winds rfl rfl rfl (by decide +kernel) ⟨Nat.le_of_ble_eq_true rfl, Nat.le_of_ble_eq_true rfl⟩) (wr_preV 10 0 hK (hPx.sub [0, 11, 12, 19, 20, 84, 85, 86, 87] rfl) (hDx.sub [0, 11, 12, 19, 20, 84, 85, 86, 87] (by decide) rfl) rfl rfl) rfl rfl hl.1 rfl (lv_room (Nat.le_of_ble_eq_true rfl)) dL_law_1797 ⟨Nat.le_of_ble_eq_true rfl, Nat.le_of_ble_eq_true rfl⟩) hS hPx hDx hPm hap [0, 11, 12, 19, 20, 84, 85, 86, 87] rfl (fun r1 u1 H locs wr1 hPm hF hS => ?_)
  obtain ⟨r1p0, r1p1, r1p2, r1p3, r1p4, r1p5, r1p6, r1p7, r1p8, r1p9, -⟩ := wr1
  have hPx : va_P G vwCl (xW a rr ct (uv v [(85, 1, u1.1 0)]) (uf f [(86, u1.2.1 0), (87, u1.2.1 1)]) (uf g [(84, fun _ => u1.2.2 0 0)])) H := hF (xW a rr ct (uv v [(85, 1, u1.1 0)]) (uf f [(86, u1.2.1 0), (87, u1.2.1 1)]) (uf g [(84, fun _ => u1.2.2 0 0)])) rfl (fun k9 hk9 => xW_same a rr ct v (uv v [(85, 1, u1.1 0)]) f (uf f [(86, u1.2.1 0), (87, u1.2.1 1)]) g (uf g [(84, fun _ => u1.2.2 0 0)]) k9 (uv_st hk9 (by rfl)) (uf_st hk9 (by rfl)) (uf_st hk9 (by rfl)))
  have hIx : XI (uv v [(85, 1, u1.1 0)]) (uf f [(86, u1.2.1 0), (87, u1.2.1 1)]) (uf g [(84, fun _ => u1.2.2 0 0)]) := ⟨hIx.1, hIx.2.1, hIx.2.2.1, hIx.2.2.2.1, hIx.2.2.2.2.1, hIx.2.2.2.2.2.1, hIx.2.2.2.2.2.2.1, hIx.2.2.2.2.2.2.2.1, hIx.2.2.2.2.2.2.2.2.1, hIx.2.2.2.2.2.2.2.2.2.1, hIx.2.2.2.2.2.2.2.2.2.2.1, hIx.2.2.2.2.2.2.2.2.2.2.2.1, hIx.2.2.2.2.2.2.2.2.2.2.2.2.1, r1p9, hIx.2.2.2.2.2.2.2.2.2.2.2.2.2.2.1, hIx.2.2.2.2.2.2.2.2.2.2.2.2.2.2.2.1, trivial⟩
  have hap : ∀ q, aset (xW a rr ct (uv v [(85, 1, u1.1 0)]) (uf f [(86, u1.2.1 0), (87, u1.2.1 1)]) (uf g [(84, fun _ => u1.2.2 0 0)])) q → ¬ aset (mW bm ct v2 f2 g2) q := fun q h1 h2 => hap0 q (aset_ad (xW_ad ..) h1) (aset_ad (mW_ad ..) h2)
  refine lv_pop hx hb dL_law_1800 rfl ?_
  refine lv_aload_n hx hb dL_law_1801 rfl (lv_at hl 1 rfl) ?_
  refine lv_aload_n hx hb dL_law_1802 rfl (lv_at hl 3 rfl) ?_
  refine lv_iload_n hx hb dL_law_1803 rfl (lv_at hl 0 rfl) ?_
  refine lv_iconst (v := 1) hx hb dL_law_1804 (by decide) ?_
  refine lv_iadd hx hb dL_law_1805 ?_
  refine ix_i (y := nI (k + 1)) (nI_add k 1) ?_
  refine va_sld hx hb hX hbl hbA hS (vp_in_nI (n := k + 1) (by omega) (by omega)) dL_law_1806 ?_
  refine lv_aload_n hx hb dL_law_1807 rfl (lv_at hl 3 rfl) ?_
  refine lv_iload_n hx hb dL_law_1808 rfl (lv_at hl 0 rfl) ?_
  refine lv_iconst (v := 2) hx hb dL_law_1809 (by decide) ?_
  refine lv_iadd hx hb dL_law_1810 ?_
  refine ix_i (y := nI (k + 2)) (nI_add k 2) ?_
  refine va_sld hx hb hX hbl hbA hS (vp_in_nI (n := k + 2) (by omega) (by omega)) dL_law_1811 ?_
  refine lw_callx (w1 := (fun u : SU => [((bm 0), .inr (11, [.int (u.1 0), .ref (bm 1), .ref (bm 2), .ref (bm 3), .ref (bm 4), .ref (bm 5), .int (v2 0 6), .int (v2 0 7), .int (v2 0 8), .int (v2 0 9), .int (v2 0 10), .long (g2 0 11), .int (v2 0 12), .int (v2 0 13), .int (v2 0 14), .int (v2 0 15), .ref (bm 6), .ref (bm 7), .ref (bm 8), .ref (bm 9), .ref (bm 10), .ref (bm 11), .ref (bm 12), .ref (bm 13), .int (v2 0 24), .int (v2 0 25), .int (v2 0 26), .int (v2 0 27), .ref (bm 14), .int (v2 0 29), .int (v2 0 30)])), ((bm 6), .inl (ct 0, 5, .inl (f2 6))), ((bm 7), .inl (ct 0, 15, .inl (f2 7))), ((bm 11), .inl (ct 0, 8, .inl (u.2.1 0))), ((bm 12), .inl (ct 0, 8, .inl (u.2.1 1)))])) (va_runV (As := [.int (xs (nI (k + 1)).toNatClampNeg), .int (xs (nI (k + 2)).toNatClampNeg)]) (rest := []) ⟨hx, hb, hml, hown, hts⟩ (a_X11_winds l G ct (bm 0) (v2 0 0) (bm 1) (bm 2) (bm 3) (bm 4) (bm 5) (v2 0 6) (v2 0 7) (v2 0 8) (v2 0 9) (v2 0 10) (g2 0 11) (v2 0 12) (v2 0 13) (v2 0 14) (v2 0 15) (bm 6) (bm 7) (bm 8) (bm 9) (bm 10) (bm 11) (bm 12) (bm 13) (v2 0 24) (v2 0 25) (v2 0 26) (v2 0 27) (bm 14) (v2 0 29) (v2 0 30) (f2 6) (f2 7) (f2 11) (f2 12) (xs (nI (k + 1)).toNatClampNeg) (xs (nI (k + 2)).toNatClampNeg) hIm.2.1 hIm.2.2.1 hIm.2.2.2.2.2.1) (cwV 2 hts gL_law_X11_winds rfl rfl rfl (by decide +kernel) ⟨Nat.le_of_ble_eq_true rfl, Nat.le_of_ble_eq_true rfl⟩) (wr_preV 11 0 hK (hPm.sub [0, 6, 7, 11, 12] rfl) (hDm.sub [0, 6, 7, 11, 12] (by decide) rfl) rfl rfl) rfl rfl hl.1 rfl (lv_room (Nat.le_of_ble_eq_true rfl)) dL_law_1812 ⟨Nat.le_of_ble_eq_true rfl, Nat.le_of_ble_eq_true rfl⟩) hS hPm hDm hPx (fun q h1 h2 => hap q h2 h1) [0, 6, 7, 11, 12] rfl (fun r2 u2 H locs wr2 hPx hF hS => ?_)
  obtain ⟨r2p0, r2p1, r2p2, r2p3, r2p4, r2p5, r2p6, r2p7, -⟩ := wr2
  have hPm : va_P G vwCl (mW bm ct (uv v2 [(0, 0, u2.1 0)]) (uf f2 [(11, u2.2.1 0), (12, u2.2.1 1)]) g2) H := hF (mW bm ct (uv v2 [(0, 0, u2.1 0)]) (uf f2 [(11, u2.2.1 0), (12, u2.2.1 1)]) g2) rfl (fun k9 hk9 => mW_same bm ct v2 (uv v2 [(0, 0, u2.1 0)]) f2 (uf f2 [(11, u2.2.1 0), (12, u2.2.1 1)]) g2 g2 k9 (uv_st hk9 (by rfl)) (uf_st hk9 (by rfl)) rfl)
  have hIm : MI (uv v2 [(0, 0, u2.1 0)]) (uf f2 [(11, u2.2.1 0), (12, u2.2.1 1)]) g2 := ⟨hIm.1, hIm.2.1, hIm.2.2.1, hIm.2.2.2.1, hIm.2.2.2.2.1, r2p6, hIm.2.2.2.2.2.2.1, trivial⟩
  refine lv_pop hx hb dL_law_1815 rfl ?_
  refine lv_goto (tgt := 2133) hx hb dL_law_1816 (by decide) ?_
  exact kk (uv v [(85, 1, u1.1 0)]) (uf f [(86, u1.2.1 0), (87, u1.2.1 1)]) (uf g [(84, fun _ => u1.2.2 0 0)]) (uv v2 [(0, 0, u2.1 0)]) (uf f2 [(11, u2.2.1 0), (12, u2.2.1 1)]) g2 H locs ls hIx hIm hR hPx hPm hS hl
set_option maxHeartbeats 8000000 in
set_option maxRecDepth 100000 in
theorem law_c57 {p : Program} {e : Env} {s : State} {m : MethodId} {below : List Frame} {meth : Method} {c : Code} (l : Launch) {b L : Nat} {xs : Nat → Int32} (C0 : lw_At p s m meth c b L xs) (hL : L ≤ 3072) (k : Nat) (hk6 : k + 6 ≤ L) (G : va_G) (ct : Nat → ClassId) (a rr bm adK adV : Nat → Nat) (v : Nat → Nat → Int32) (f : Nat → Nat → Int32) (g : Nat → Nat → Int64) (v2 : Nat → Nat → Int32) (f2 : Nat → Nat → Int32) (g2 : Nat → Nat → Int64) (H : Heap) (locs : List Loc) (hK : KK G ct s) (hZ : SS adK adV (fun q : Nat => s.heap.size ≤ q) s s.heap) (hD0 : va_D (fun q : Nat => s.heap.size ≤ q) (xW a rr ct (fun _ _ => 0) (fun _ _ => 0) (fun _ _ => 0))) (hE0 : va_D (fun q : Nat => s.heap.size ≤ q) (mW bm ct (fun _ _ => 0) (fun _ _ => 0) (fun _ _ => 0))) (hap0 : wset a rr bm ct) (hIx : XI v f g) (hIm : MI v2 f2 g2) (hR : REL v f g v2 f2 g2) (hPx : va_P G vwCl (xW a rr ct v f g) H) (hPm : va_P G vwCl (mW bm ct v2 f2 g2) H) (hS : va_S (fun q : Nat => s.heap.size ≤ q) s.heap H locs) (ls : Array Slot) (hl : lv_has ls 4 [(3, .int (nI k)), (2, .ref (bm 0)), (1, .ref (a 0)), (0, .ref b)]) (kk : ∀ (v : Nat → Nat → Int32) (f : Nat → Nat → Int32) (g : Nat → Nat → Int64) (v2 : Nat → Nat → Int32) (f2 : Nat → Nat → Int32) (g2 : Nat → Nat → Int64) (H : Heap) (locs : List Loc) (ls : Array Slot), XI v f g → MI v2 f2 g2 → REL v f g v2 f2 g2 → va_P G vwCl (xW a rr ct v f g) H → va_P G vwCl (mW bm ct v2 f2 g2) H → va_S (fun q : Nat => s.heap.size ≤ q) s.heap H locs → lv_has ls 4 [(3, .int (nI k)), (2, .ref (bm 0)), (1, .ref (a 0)), (0, .ref b)] → W p l e room_1 s m #[Value.ref b] below meth c H locs 110 5410 (lw_Z below #[Value.ref b] s) (F0 m 2133 ls [])) : W p l e room_1 s m #[Value.ref b] below meth c H locs 110 5410 (lw_Z below #[Value.ref b] s) (F0 m 1819 ls []) := by
  obtain ⟨hx, hb, hr, hml, hown, hts, hX, hbl, hlocks, hgv⟩ := C0
  have hown : s.vm.findClass RL = some m.cls := hown
  have hts : ∀ z ∈ wsL_law, z.before #[Value.ref b] s = true := fun z h => hts z (wsL_law_in z h)
  have hbA : ¬ (fun q : Nat => s.heap.size ≤ q) b := Nat.not_le.mpr hbl
  have hDx : va_D (fun q : Nat => s.heap.size ≤ q) (xW a rr ct v f g) := hD0.ad (xW_ad ..)
  have hDm : va_D (fun q : Nat => s.heap.size ≤ q) (mW bm ct v2 f2 g2) := hE0.ad (mW_ad ..)
  have hap : ∀ q, aset (xW a rr ct v f g) q → ¬ aset (mW bm ct v2 f2 g2) q := fun q h1 h2 => hap0 q (aset_ad (xW_ad ..) h1) (aset_ad (mW_ad ..) h2)
  refine lv_aload_n hx hb dL_law_1819 rfl (lv_at hl 2 rfl) ?_
  refine lv_aload_n hx hb dL_law_1820 rfl (lv_at hl 3 rfl) ?_
  refine lv_iload_n hx hb dL_law_1821 rfl (lv_at hl 0 rfl) ?_
  refine lv_iconst (v := 1) hx hb dL_law_1822 (by decide) ?_
  refine lv_iadd hx hb dL_law_1823 ?_
  refine ix_i (y := nI (k + 1)) (nI_add k 1) ?_
  refine va_sld hx hb hX hbl hbA hS (vp_in_nI (n := k + 1) (by omega) (by omega)) dL_law_1824 ?_
  refine lv_aload_n hx hb dL_law_1825 rfl (lv_at hl 3 rfl) ?_
  refine lv_iload_n hx hb dL_law_1826 rfl (lv_at hl 0 rfl) ?_
  refine lv_iconst (v := 2) hx hb dL_law_1827 (by decide) ?_
  refine lv_iadd hx hb dL_law_1828 ?_
  refine ix_i (y := nI (k + 2)) (nI_add k 2) ?_
  refine va_sld hx hb hX hbl hbA hS (vp_in_nI (n := k + 2) (by omega) (by omega)) dL_law_1829 ?_
  refine lw_callx (w1 := (fun u : SU => [((a 0), .inr (10, [.ref (a 1), .ref (a 3), .ref (a 11), .ref (a 25), .ref (a 68), .ref (a 69), .ref (a 77), .ref (a 82), .ref (a 84), .ref (a 88), .ref (a 91)])), ((a 11), .inr (4, [.ref (a 12), .ref (a 19), .ref (a 24), .int (v 11 3)])), ((a 12), .inr (9, [.ref (a 13), .ref (a 15), .ref (a 16), .ref (a 17), .ref (a 18), .int (v 12 5), .int (v 12 6)])), ((a 13), .inr (0, [.ref (a 14), .int (v 13 1)])), ((a 15), .inl (ct 0, 8, .inl (u.2.1 0))), ((a 19), .inr (2, [.ref (a 12), .ref (a 20), .ref (a 22), .ref (a 23), .int (v 19 4), .int (v 19 5), .int (v 19 6), .int (v 19 7)])), ((a 20), .inr (0, [.ref (a 21), .int (v 20 1)]))])) (va_runV (As := [.int (xs (nI (k + 1)).toNatClampNeg), .int (xs (nI (k + 2)).toNatClampNeg)]) (rest := []) ⟨hx, hb, hml, hown, hts⟩ (a_X10_rate l G ct (a 0) (a 1) (a 3) (a 11) (a 25) (a 68) (a 69) (a 77) (a 82) (a 84) (a 88) (a 91) (a 12) (a 19) (a 24) (v 11 3) (a 13) (a 15) (a 16) (a 17) (a 18) (v 12 5) (v 12 6) (a 14) (v 13 1) (f 15) (a 20) (a 22) (a 23) (v 19 4) (v 19 5) (v 19 6) (v 19 7) (a 21) (v 20 1) (xs (nI (k + 1)).toNatClampNeg) (xs (nI (k + 2)).toNatClampNeg) hIx.2.2.1 hIx.2.2.2.1) (cwV 2 hts gL_law_X10_rate rfl rfl rfl (by decide +kernel) ⟨Nat.le_of_ble_eq_true rfl, Nat.le_of_ble_eq_true rfl⟩) (wr_preV 10 0 hK (hPx.sub [0, 11, 12, 13, 15, 19, 20] rfl) (hDx.sub [0, 11, 12, 13, 15, 19, 20] (by decide) rfl) rfl rfl) rfl rfl hl.1 rfl (lv_room (Nat.le_of_ble_eq_true rfl)) dL_law_1830 ⟨Nat.le_of_ble_eq_true rfl, Nat.le_of_ble_eq_true rfl⟩) hS hPx hDx hPm hap [0, 11, 12, 13, 15, 19, 20] rfl (fun r1 u1 H locs wr1 hPm hF hS => ?_)
  obtain ⟨r1p0, r1p1, r1p2, r1p3, r1p4, r1p5, r1p6, r1p7, r1p8, r1p9, r1p10, r1p11, -⟩ := wr1
  have hPx : va_P G vwCl (xW a rr ct v (uf f [(15, u1.2.1 0)]) g) H := hF (xW a rr ct v (uf f [(15, u1.2.1 0)]) g) rfl (fun k9 hk9 => xW_same a rr ct v v f (uf f [(15, u1.2.1 0)]) g g k9 rfl (uf_st hk9 (by rfl)) rfl)
  have hIx : XI v (uf f [(15, u1.2.1 0)]) g := ⟨hIx.1, hIx.2.1, hIx.2.2.1, hIx.2.2.2.1, hIx.2.2.2.2.1, hIx.2.2.2.2.2.1, hIx.2.2.2.2.2.2.1, hIx.2.2.2.2.2.2.2.1, hIx.2.2.2.2.2.2.2.2.1, hIx.2.2.2.2.2.2.2.2.2.1, hIx.2.2.2.2.2.2.2.2.2.2.1, hIx.2.2.2.2.2.2.2.2.2.2.2.1, hIx.2.2.2.2.2.2.2.2.2.2.2.2.1, hIx.2.2.2.2.2.2.2.2.2.2.2.2.2.1, hIx.2.2.2.2.2.2.2.2.2.2.2.2.2.2.1, hIx.2.2.2.2.2.2.2.2.2.2.2.2.2.2.2.1, trivial⟩
  have hap : ∀ q, aset (xW a rr ct v (uf f [(15, u1.2.1 0)]) g) q → ¬ aset (mW bm ct v2 f2 g2) q := fun q h1 h2 => hap0 q (aset_ad (xW_ad ..) h1) (aset_ad (mW_ad ..) h2)
  refine lv_pop hx hb dL_law_1833 rfl ?_
  refine lv_aload_n hx hb dL_law_1834 rfl (lv_at hl 1 rfl) ?_
  refine lv_aload_n hx hb dL_law_1835 rfl (lv_at hl 3 rfl) ?_
  refine lv_iload_n hx hb dL_law_1836 rfl (lv_at hl 0 rfl) ?_
  refine lv_iconst (v := 1) hx hb dL_law_1837 (by decide) ?_
  refine lv_iadd hx hb dL_law_1838 ?_
  refine ix_i (y := nI (k + 1)) (nI_add k 1) ?_
  refine va_sld hx hb hX hbl hbA hS (vp_in_nI (n := k + 1) (by omega) (by omega)) dL_law_1839 ?_
  refine lv_aload_n hx hb dL_law_1840 rfl (lv_at hl 3 rfl) ?_
  refine lv_iload_n hx hb dL_law_1841 rfl (lv_at hl 0 rfl) ?_
  refine lv_iconst (v := 2) hx hb dL_law_1842 (by decide) ?_
  refine lv_iadd hx hb dL_law_1843 ?_
  refine ix_i (y := nI (k + 2)) (nI_add k 2) ?_
  refine va_sld hx hb hX hbl hbA hS (vp_in_nI (n := k + 2) (by omega) (by omega)) dL_law_1844 ?_
  refine lw_callx (w1 := (fun u : SU => [((bm 0), .inr (11, [.int (u.1 0), .ref (bm 1), .ref (bm 2), .ref (bm 3), .ref (bm 4), .ref (bm 5), .int (v2 0 6), .int (v2 0 7), .int (v2 0 8), .int (v2 0 9), .int (v2 0 10), .long (g2 0 11), .int (v2 0 12), .int (v2 0 13), .int (v2 0 14), .int (v2 0 15), .ref (bm 6), .ref (bm 7), .ref (bm 8), .ref (bm 9), .ref (bm 10), .ref (bm 11), .ref (bm 12), .ref (bm 13), .int (v2 0 24), .int (v2 0 25), .int (v2 0 26), .int (v2 0 27), .ref (bm 14), .int (v2 0 29), .int (v2 0 30)])), ((bm 7), .inl (ct 0, 15, .inl (f2 7))), ((bm 8), .inl (ct 0, 200, .inl (u.2.1 0)))])) (va_runV (As := [.int (xs (nI (k + 1)).toNatClampNeg), .int (xs (nI (k + 2)).toNatClampNeg)]) (rest := []) ⟨hx, hb, hml, hown, hts⟩ (a_X11_rate l G ct (bm 0) (v2 0 0) (bm 1) (bm 2) (bm 3) (bm 4) (bm 5) (v2 0 6) (v2 0 7) (v2 0 8) (v2 0 9) (v2 0 10) (g2 0 11) (v2 0 12) (v2 0 13) (v2 0 14) (v2 0 15) (bm 6) (bm 7) (bm 8) (bm 9) (bm 10) (bm 11) (bm 12) (bm 13) (v2 0 24) (v2 0 25) (v2 0 26) (v2 0 27) (bm 14) (v2 0 29) (v2 0 30) (f2 7) (f2 8) (xs (nI (k + 1)).toNatClampNeg) (xs (nI (k + 2)).toNatClampNeg) hIm.2.1 hIm.2.2.1 hIm.2.2.2.1) (cwV 2 hts gL_law_X11_rate rfl rfl rfl (by decide +kernel) ⟨Nat.le_of_ble_eq_true rfl, Nat.le_of_ble_eq_true rfl⟩) (wr_preV 11 0 hK (hPm.sub [0, 7, 8] rfl) (hDm.sub [0, 7, 8] (by decide) rfl) rfl rfl) rfl rfl hl.1 rfl (lv_room (Nat.le_of_ble_eq_true rfl)) dL_law_1845 ⟨Nat.le_of_ble_eq_true rfl, Nat.le_of_ble_eq_true rfl⟩) hS hPm hDm hPx (fun q h1 h2 => hap q h2 h1) [0, 7, 8] rfl (fun r2 u2 H locs wr2 hPx hF hS => ?_)
  obtain ⟨r2p0, r2p1, r2p2, r2p3, r2p4, r2p5, r2p6, r2p7, -⟩ := wr2
  have hPm : va_P G vwCl (mW bm ct (uv v2 [(0, 0, u2.1 0)]) (uf f2 [(8, u2.2.1 0)]) g2) H := hF (mW bm ct (uv v2 [(0, 0, u2.1 0)]) (uf f2 [(8, u2.2.1 0)]) g2) rfl (fun k9 hk9 => mW_same bm ct v2 (uv v2 [(0, 0, u2.1 0)]) f2 (uf f2 [(8, u2.2.1 0)]) g2 g2 k9 (uv_st hk9 (by rfl)) (uf_st hk9 (by rfl)) rfl)
  have hIm : MI (uv v2 [(0, 0, u2.1 0)]) (uf f2 [(8, u2.2.1 0)]) g2 := ⟨hIm.1, hIm.2.1, hIm.2.2.1, r2p6, hIm.2.2.2.2.1, hIm.2.2.2.2.2.1, hIm.2.2.2.2.2.2.1, trivial⟩
  refine lv_pop hx hb dL_law_1848 rfl ?_
  refine lv_goto (tgt := 2133) hx hb dL_law_1849 (by decide) ?_
  exact kk v (uf f [(15, u1.2.1 0)]) g (uv v2 [(0, 0, u2.1 0)]) (uf f2 [(8, u2.2.1 0)]) g2 H locs ls hIx hIm hR hPx hPm hS hl
set_option maxHeartbeats 8000000 in
set_option maxRecDepth 100000 in
theorem law_c58 {p : Program} {e : Env} {s : State} {m : MethodId} {below : List Frame} {meth : Method} {c : Code} (l : Launch) {b L : Nat} {xs : Nat → Int32} (C0 : lw_At p s m meth c b L xs) (hL : L ≤ 3072) (k : Nat) (hk6 : k + 6 ≤ L) (G : va_G) (ct : Nat → ClassId) (a rr bm adK adV : Nat → Nat) (v : Nat → Nat → Int32) (f : Nat → Nat → Int32) (g : Nat → Nat → Int64) (v2 : Nat → Nat → Int32) (f2 : Nat → Nat → Int32) (g2 : Nat → Nat → Int64) (H : Heap) (locs : List Loc) (hK : KK G ct s) (hZ : SS adK adV (fun q : Nat => s.heap.size ≤ q) s s.heap) (hD0 : va_D (fun q : Nat => s.heap.size ≤ q) (xW a rr ct (fun _ _ => 0) (fun _ _ => 0) (fun _ _ => 0))) (hE0 : va_D (fun q : Nat => s.heap.size ≤ q) (mW bm ct (fun _ _ => 0) (fun _ _ => 0) (fun _ _ => 0))) (hap0 : wset a rr bm ct) (hIx : XI v f g) (hIm : MI v2 f2 g2) (hR : REL v f g v2 f2 g2) (hPx : va_P G vwCl (xW a rr ct v f g) H) (hPm : va_P G vwCl (mW bm ct v2 f2 g2) H) (hS : va_S (fun q : Nat => s.heap.size ≤ q) s.heap H locs) (ls : Array Slot) (hl : lv_has ls 4 [(3, .int (nI k)), (2, .ref (bm 0)), (1, .ref (a 0)), (0, .ref b)]) (kk : ∀ (v : Nat → Nat → Int32) (f : Nat → Nat → Int32) (g : Nat → Nat → Int64) (v2 : Nat → Nat → Int32) (f2 : Nat → Nat → Int32) (g2 : Nat → Nat → Int64) (H : Heap) (locs : List Loc) (ls : Array Slot), XI v f g → MI v2 f2 g2 → REL v f g v2 f2 g2 → va_P G vwCl (xW a rr ct v f g) H → va_P G vwCl (mW bm ct v2 f2 g2) H → va_S (fun q : Nat => s.heap.size ≤ q) s.heap H locs → lv_has ls 4 [(3, .int (nI k)), (2, .ref (bm 0)), (1, .ref (a 0)), (0, .ref b)] → W p l e room_1 s m #[Value.ref b] below meth c H locs 110 5410 (lw_Z below #[Value.ref b] s) (F0 m 2133 ls [])) : W p l e room_1 s m #[Value.ref b] below meth c H locs 110 5410 (lw_Z below #[Value.ref b] s) (F0 m 1852 ls []) := by
  obtain ⟨hx, hb, hr, hml, hown, hts, hX, hbl, hlocks, hgv⟩ := C0
  have hown : s.vm.findClass RL = some m.cls := hown
  have hts : ∀ z ∈ wsL_law, z.before #[Value.ref b] s = true := fun z h => hts z (wsL_law_in z h)
  have hbA : ¬ (fun q : Nat => s.heap.size ≤ q) b := Nat.not_le.mpr hbl
  have hDx : va_D (fun q : Nat => s.heap.size ≤ q) (xW a rr ct v f g) := hD0.ad (xW_ad ..)
  have hDm : va_D (fun q : Nat => s.heap.size ≤ q) (mW bm ct v2 f2 g2) := hE0.ad (mW_ad ..)
  have hap : ∀ q, aset (xW a rr ct v f g) q → ¬ aset (mW bm ct v2 f2 g2) q := fun q h1 h2 => hap0 q (aset_ad (xW_ad ..) h1) (aset_ad (mW_ad ..) h2)
  refine lv_aload_n hx hb dL_law_1852 rfl (lv_at hl 2 rfl) ?_
  refine lv_aload_n hx hb dL_law_1853 rfl (lv_at hl 3 rfl) ?_
  refine lv_iload_n hx hb dL_law_1854 rfl (lv_at hl 0 rfl) ?_
  refine lv_iconst (v := 1) hx hb dL_law_1855 (by decide) ?_
  refine lv_iadd hx hb dL_law_1856 ?_
  refine ix_i (y := nI (k + 1)) (nI_add k 1) ?_
  refine va_sld hx hb hX hbl hbA hS (vp_in_nI (n := k + 1) (by omega) (by omega)) dL_law_1857 ?_
  refine lv_aload_n hx hb dL_law_1858 rfl (lv_at hl 3 rfl) ?_
  refine lv_iload_n hx hb dL_law_1859 rfl (lv_at hl 0 rfl) ?_
  refine lv_iconst (v := 2) hx hb dL_law_1860 (by decide) ?_
  refine lv_iadd hx hb dL_law_1861 ?_
  refine ix_i (y := nI (k + 2)) (nI_add k 2) ?_
  refine va_sld hx hb hX hbl hbA hS (vp_in_nI (n := k + 2) (by omega) (by omega)) dL_law_1862 ?_
  refine lw_callx (w1 := (fun u : SU => [((a 0), .inr (10, [.ref (a 1), .ref (a 3), .ref (a 11), .ref (a 25), .ref (a 68), .ref (a 69), .ref (a 77), .ref (a 82), .ref (a 84), .ref (a 88), .ref (a 91)])), ((a 11), .inr (4, [.ref (a 12), .ref (a 19), .ref (a 24), .int (v 11 3)])), ((a 12), .inr (9, [.ref (a 13), .ref (a 15), .ref (a 16), .ref (a 17), .ref (a 18), .int (v 12 5), .int (v 12 6)])), ((a 13), .inr (0, [.ref (a 14), .int (v 13 1)])), ((a 18), .inl (ct 0, 8, .inl (u.2.1 0))), ((a 19), .inr (2, [.ref (a 12), .ref (a 20), .ref (a 22), .ref (a 23), .int (v 19 4), .int (v 19 5), .int (v 19 6), .int (v 19 7)])), ((a 20), .inr (0, [.ref (a 21), .int (v 20 1)]))])) (va_runV (As := [.int (xs (nI (k + 1)).toNatClampNeg), .int (xs (nI (k + 2)).toNatClampNeg)]) (rest := []) ⟨hx, hb, hml, hown, hts⟩ (a_X10_forge l G ct (a 0) (a 1) (a 3) (a 11) (a 25) (a 68) (a 69) (a 77) (a 82) (a 84) (a 88) (a 91) (a 12) (a 19) (a 24) (v 11 3) (a 13) (a 15) (a 16) (a 17) (a 18) (v 12 5) (v 12 6) (a 14) (v 13 1) (f 18) (a 20) (a 22) (a 23) (v 19 4) (v 19 5) (v 19 6) (v 19 7) (a 21) (v 20 1) (xs (nI (k + 1)).toNatClampNeg) (xs (nI (k + 2)).toNatClampNeg) hIx.2.2.1 hIx.2.2.2.1) (cwV 2 hts gL_law_X10_forge rfl rfl rfl (by decide +kernel) ⟨Nat.le_of_ble_eq_true rfl, Nat.le_of_ble_eq_true rfl⟩) (wr_preV 10 0 hK (hPx.sub [0, 11, 12, 13, 18, 19, 20] rfl) (hDx.sub [0, 11, 12, 13, 18, 19, 20] (by decide) rfl) rfl rfl) rfl rfl hl.1 rfl (lv_room (Nat.le_of_ble_eq_true rfl)) dL_law_1863 ⟨Nat.le_of_ble_eq_true rfl, Nat.le_of_ble_eq_true rfl⟩) hS hPx hDx hPm hap [0, 11, 12, 13, 18, 19, 20] rfl (fun r1 u1 H locs wr1 hPm hF hS => ?_)
  obtain ⟨r1p0, r1p1, r1p2, r1p3, r1p4, r1p5, r1p6, r1p7, r1p8, r1p9, r1p10, r1p11, -⟩ := wr1
  have hPx : va_P G vwCl (xW a rr ct v (uf f [(18, u1.2.1 0)]) g) H := hF (xW a rr ct v (uf f [(18, u1.2.1 0)]) g) rfl (fun k9 hk9 => xW_same a rr ct v v f (uf f [(18, u1.2.1 0)]) g g k9 rfl (uf_st hk9 (by rfl)) rfl)
  have hIx : XI v (uf f [(18, u1.2.1 0)]) g := ⟨hIx.1, hIx.2.1, hIx.2.2.1, hIx.2.2.2.1, hIx.2.2.2.2.1, hIx.2.2.2.2.2.1, hIx.2.2.2.2.2.2.1, hIx.2.2.2.2.2.2.2.1, hIx.2.2.2.2.2.2.2.2.1, hIx.2.2.2.2.2.2.2.2.2.1, hIx.2.2.2.2.2.2.2.2.2.2.1, hIx.2.2.2.2.2.2.2.2.2.2.2.1, hIx.2.2.2.2.2.2.2.2.2.2.2.2.1, hIx.2.2.2.2.2.2.2.2.2.2.2.2.2.1, hIx.2.2.2.2.2.2.2.2.2.2.2.2.2.2.1, hIx.2.2.2.2.2.2.2.2.2.2.2.2.2.2.2.1, trivial⟩
  have hap : ∀ q, aset (xW a rr ct v (uf f [(18, u1.2.1 0)]) g) q → ¬ aset (mW bm ct v2 f2 g2) q := fun q h1 h2 => hap0 q (aset_ad (xW_ad ..) h1) (aset_ad (mW_ad ..) h2)
  refine lv_pop hx hb dL_law_1866 rfl ?_
  refine lv_aload_n hx hb dL_law_1867 rfl (lv_at hl 1 rfl) ?_
  refine lv_aload_n hx hb dL_law_1868 rfl (lv_at hl 3 rfl) ?_
  refine lv_iload_n hx hb dL_law_1869 rfl (lv_at hl 0 rfl) ?_
  refine lv_iconst (v := 1) hx hb dL_law_1870 (by decide) ?_
  refine lv_iadd hx hb dL_law_1871 ?_
  refine ix_i (y := nI (k + 1)) (nI_add k 1) ?_
  refine va_sld hx hb hX hbl hbA hS (vp_in_nI (n := k + 1) (by omega) (by omega)) dL_law_1872 ?_
  refine lv_aload_n hx hb dL_law_1873 rfl (lv_at hl 3 rfl) ?_
  refine lv_iload_n hx hb dL_law_1874 rfl (lv_at hl 0 rfl) ?_
  refine lv_iconst (v := 2) hx hb dL_law_1875 (by decide) ?_
  refine lv_iadd hx hb dL_law_1876 ?_
  refine ix_i (y := nI (k + 2)) (nI_add k 2) ?_
  refine va_sld hx hb hX hbl hbA hS (vp_in_nI (n := k + 2) (by omega) (by omega)) dL_law_1877 ?_
  refine lw_callx (w1 := (fun u : SU => [((bm 0), .inr (11, [.int (u.1 0), .ref (bm 1), .ref (bm 2), .ref (bm 3), .ref (bm 4), .ref (bm 5), .int (v2 0 6), .int (v2 0 7), .int (v2 0 8), .int (v2 0 9), .int (v2 0 10), .long (g2 0 11), .int (v2 0 12), .int (v2 0 13), .int (v2 0 14), .int (v2 0 15), .ref (bm 6), .ref (bm 7), .ref (bm 8), .ref (bm 9), .ref (bm 10), .ref (bm 11), .ref (bm 12), .ref (bm 13), .int (v2 0 24), .int (v2 0 25), .int (v2 0 26), .int (v2 0 27), .ref (bm 14), .int (v2 0 29), .int (v2 0 30)])), ((bm 7), .inl (ct 0, 15, .inl (f2 7))), ((bm 8), .inl (ct 0, 200, .inl (u.2.1 0)))])) (va_runV (As := [.int (xs (nI (k + 1)).toNatClampNeg), .int (xs (nI (k + 2)).toNatClampNeg)]) (rest := []) ⟨hx, hb, hml, hown, hts⟩ (a_X11_forge l G ct (bm 0) (v2 0 0) (bm 1) (bm 2) (bm 3) (bm 4) (bm 5) (v2 0 6) (v2 0 7) (v2 0 8) (v2 0 9) (v2 0 10) (g2 0 11) (v2 0 12) (v2 0 13) (v2 0 14) (v2 0 15) (bm 6) (bm 7) (bm 8) (bm 9) (bm 10) (bm 11) (bm 12) (bm 13) (v2 0 24) (v2 0 25) (v2 0 26) (v2 0 27) (bm 14) (v2 0 29) (v2 0 30) (f2 7) (f2 8) (xs (nI (k + 1)).toNatClampNeg) (xs (nI (k + 2)).toNatClampNeg) hIm.2.1 hIm.2.2.1 hIm.2.2.2.1) (cwV 2 hts gL_law_X11_forge rfl rfl rfl (by decide +kernel) ⟨Nat.le_of_ble_eq_true rfl, Nat.le_of_ble_eq_true rfl⟩) (wr_preV 11 0 hK (hPm.sub [0, 7, 8] rfl) (hDm.sub [0, 7, 8] (by decide) rfl) rfl rfl) rfl rfl hl.1 rfl (lv_room (Nat.le_of_ble_eq_true rfl)) dL_law_1878 ⟨Nat.le_of_ble_eq_true rfl, Nat.le_of_ble_eq_true rfl⟩) hS hPm hDm hPx (fun q h1 h2 => hap q h2 h1) [0, 7, 8] rfl (fun r2 u2 H locs wr2 hPx hF hS => ?_)
  obtain ⟨r2p0, r2p1, r2p2, r2p3, r2p4, r2p5, r2p6, r2p7, -⟩ := wr2
  have hPm : va_P G vwCl (mW bm ct (uv v2 [(0, 0, u2.1 0)]) (uf f2 [(8, u2.2.1 0)]) g2) H := hF (mW bm ct (uv v2 [(0, 0, u2.1 0)]) (uf f2 [(8, u2.2.1 0)]) g2) rfl (fun k9 hk9 => mW_same bm ct v2 (uv v2 [(0, 0, u2.1 0)]) f2 (uf f2 [(8, u2.2.1 0)]) g2 g2 k9 (uv_st hk9 (by rfl)) (uf_st hk9 (by rfl)) rfl)
  have hIm : MI (uv v2 [(0, 0, u2.1 0)]) (uf f2 [(8, u2.2.1 0)]) g2 := ⟨hIm.1, hIm.2.1, hIm.2.2.1, r2p6, hIm.2.2.2.2.1, hIm.2.2.2.2.2.1, hIm.2.2.2.2.2.2.1, trivial⟩
  refine lv_pop hx hb dL_law_1881 rfl ?_
  refine lv_goto (tgt := 2133) hx hb dL_law_1882 (by decide) ?_
  exact kk v (uf f [(18, u1.2.1 0)]) g (uv v2 [(0, 0, u2.1 0)]) (uf f2 [(8, u2.2.1 0)]) g2 H locs ls hIx hIm hR hPx hPm hS hl
set_option maxHeartbeats 8000000 in
set_option maxRecDepth 100000 in
theorem law_c59 {p : Program} {e : Env} {s : State} {m : MethodId} {below : List Frame} {meth : Method} {c : Code} (l : Launch) {b L : Nat} {xs : Nat → Int32} (C0 : lw_At p s m meth c b L xs) (hL : L ≤ 3072) (k : Nat) (hk6 : k + 6 ≤ L) (G : va_G) (ct : Nat → ClassId) (a rr bm adK adV : Nat → Nat) (v : Nat → Nat → Int32) (f : Nat → Nat → Int32) (g : Nat → Nat → Int64) (v2 : Nat → Nat → Int32) (f2 : Nat → Nat → Int32) (g2 : Nat → Nat → Int64) (H : Heap) (locs : List Loc) (hK : KK G ct s) (hZ : SS adK adV (fun q : Nat => s.heap.size ≤ q) s s.heap) (hD0 : va_D (fun q : Nat => s.heap.size ≤ q) (xW a rr ct (fun _ _ => 0) (fun _ _ => 0) (fun _ _ => 0))) (hE0 : va_D (fun q : Nat => s.heap.size ≤ q) (mW bm ct (fun _ _ => 0) (fun _ _ => 0) (fun _ _ => 0))) (hap0 : wset a rr bm ct) (hIx : XI v f g) (hIm : MI v2 f2 g2) (hR : REL v f g v2 f2 g2) (hPx : va_P G vwCl (xW a rr ct v f g) H) (hPm : va_P G vwCl (mW bm ct v2 f2 g2) H) (hS : va_S (fun q : Nat => s.heap.size ≤ q) s.heap H locs) (ls : Array Slot) (hl : lv_has ls 4 [(3, .int (nI k)), (2, .ref (bm 0)), (1, .ref (a 0)), (0, .ref b)]) (kk : ∀ (v : Nat → Nat → Int32) (f : Nat → Nat → Int32) (g : Nat → Nat → Int64) (v2 : Nat → Nat → Int32) (f2 : Nat → Nat → Int32) (g2 : Nat → Nat → Int64) (H : Heap) (locs : List Loc) (ls : Array Slot), XI v f g → MI v2 f2 g2 → REL v f g v2 f2 g2 → va_P G vwCl (xW a rr ct v f g) H → va_P G vwCl (mW bm ct v2 f2 g2) H → va_S (fun q : Nat => s.heap.size ≤ q) s.heap H locs → lv_has ls 4 [(3, .int (nI k)), (2, .ref (bm 0)), (1, .ref (a 0)), (0, .ref b)] → W p l e room_1 s m #[Value.ref b] below meth c H locs 110 5410 (lw_Z below #[Value.ref b] s) (F0 m 2133 ls [])) : W p l e room_1 s m #[Value.ref b] below meth c H locs 110 5410 (lw_Z below #[Value.ref b] s) (F0 m 1885 ls []) := by
  obtain ⟨hx, hb, hr, hml, hown, hts, hX, hbl, hlocks, hgv⟩ := C0
  have hown : s.vm.findClass RL = some m.cls := hown
  have hts : ∀ z ∈ wsL_law, z.before #[Value.ref b] s = true := fun z h => hts z (wsL_law_in z h)
  have hbA : ¬ (fun q : Nat => s.heap.size ≤ q) b := Nat.not_le.mpr hbl
  have hDx : va_D (fun q : Nat => s.heap.size ≤ q) (xW a rr ct v f g) := hD0.ad (xW_ad ..)
  have hDm : va_D (fun q : Nat => s.heap.size ≤ q) (mW bm ct v2 f2 g2) := hE0.ad (mW_ad ..)
  have hap : ∀ q, aset (xW a rr ct v f g) q → ¬ aset (mW bm ct v2 f2 g2) q := fun q h1 h2 => hap0 q (aset_ad (xW_ad ..) h1) (aset_ad (mW_ad ..) h2)
  refine lv_aload_n hx hb dL_law_1885 rfl (lv_at hl 2 rfl) ?_
  refine lv_aload_n hx hb dL_law_1886 rfl (lv_at hl 3 rfl) ?_
  refine lv_iload_n hx hb dL_law_1887 rfl (lv_at hl 0 rfl) ?_
  refine lv_iconst (v := 1) hx hb dL_law_1888 (by decide) ?_
  refine lv_iadd hx hb dL_law_1889 ?_
  refine ix_i (y := nI (k + 1)) (nI_add k 1) ?_
  refine va_sld hx hb hX hbl hbA hS (vp_in_nI (n := k + 1) (by omega) (by omega)) dL_law_1890 ?_
  refine ro_calli (va_runV (As := [.int (xs (nI (k + 1)).toNatClampNeg)]) (rest := []) ⟨hx, hb, hml, hown, hts⟩ (a_X10_count l G ct (a 0) (a 1) (a 3) (a 11) (a 25) (a 68) (a 69) (a 77) (a 82) (a 84) (a 88) (a 91) (a 2) (v 1 1) (a 12) (a 19) (a 24) (v 11 3) (a 13) (a 15) (a 16) (a 17) (a 18) (v 12 5) (v 12 6) (a 14) (v 13 1) (f 18) (a 20) (a 22) (a 23) (v 19 4) (v 19 5) (v 19 6) (v 19 7) (a 21) (v 20 1) (f 21) (a 70) (a 75) (a 76) (v 69 3) (xs (nI (k + 1)).toNatClampNeg) hIx.1 hIx.2.2.1 hIx.2.2.2.1) (cwV 1 hts gL_law_X10_count rfl rfl rfl (by decide +kernel) ⟨Nat.le_of_ble_eq_true rfl, Nat.le_of_ble_eq_true rfl⟩) (ro_preV 10 0 hK (hPx.sub [0, 1, 11, 12, 13, 18, 19, 20, 21, 69] rfl) rfl rfl) rfl rfl hl.1 rfl (lv_room (Nat.le_of_ble_eq_true rfl)) dL_law_1891 ⟨Nat.le_of_ble_eq_true rfl, Nat.le_of_ble_eq_true rfl⟩) hS (hPx.app hPm) (fun r1 H locs wr1 hPP hS => ?_)
  have hPx := va_P.left hPP
  have hPm := va_P.right hPP
  obtain ⟨r1p0, r1p1, -⟩ := wr1
  refine lv_pop hx hb dL_law_1894 rfl ?_
  refine lv_aload_n hx hb dL_law_1895 rfl (lv_at hl 1 rfl) ?_
  refine lv_aload_n hx hb dL_law_1896 rfl (lv_at hl 3 rfl) ?_
  refine lv_iload_n hx hb dL_law_1897 rfl (lv_at hl 0 rfl) ?_
  refine lv_iconst (v := 1) hx hb dL_law_1898 (by decide) ?_
  refine lv_iadd hx hb dL_law_1899 ?_
  refine ix_i (y := nI (k + 1)) (nI_add k 1) ?_
  refine va_sld hx hb hX hbl hbA hS (vp_in_nI (n := k + 1) (by omega) (by omega)) dL_law_1900 ?_
  refine lw_callx (w1 := (fun u : SU => [((bm 0), .inr (11, [.int (u.1 0), .ref (bm 1), .ref (bm 2), .ref (bm 3), .ref (bm 4), .ref (bm 5), .int (v2 0 6), .int (v2 0 7), .int (v2 0 8), .int (v2 0 9), .int (v2 0 10), .long (g2 0 11), .int (v2 0 12), .int (v2 0 13), .int (v2 0 14), .int (v2 0 15), .ref (bm 6), .ref (bm 7), .ref (bm 8), .ref (bm 9), .ref (bm 10), .ref (bm 11), .ref (bm 12), .ref (bm 13), .int (u.1 1), .int (u.1 2), .int (u.1 3), .int (u.1 4), .ref (bm 14), .int (v2 0 29), .int (v2 0 30)])), ((bm 1), .inl (ct 0, 4, .inl (f2 1))), ((bm 6), .inl (ct 0, 5, .inl (f2 6))), ((bm 7), .inl (ct 0, 15, .inl (f2 7))), ((bm 8), .inl (ct 0, 200, .inl (f2 8))), ((bm 9), .inl (ct 0, 1000, .inl (f2 9))), ((bm 11), .inl (ct 0, 8, .inl (u.2.1 0))), ((bm 12), .inl (ct 0, 8, .inl (u.2.1 1))), ((bm 13), .inl (ct 0, 8, .inl (u.2.1 2)))])) (va_runV (As := [.int (xs (nI (k + 1)).toNatClampNeg)]) (rest := []) ⟨hx, hb, hml, hown, hts⟩ (a_X11_count l G ct (bm 0) (v2 0 0) (bm 1) (bm 2) (bm 3) (bm 4) (bm 5) (v2 0 6) (v2 0 7) (v2 0 8) (v2 0 9) (v2 0 10) (g2 0 11) (v2 0 12) (v2 0 13) (v2 0 14) (v2 0 15) (bm 6) (bm 7) (bm 8) (bm 9) (bm 10) (bm 11) (bm 12) (bm 13) (v2 0 24) (v2 0 25) (v2 0 26) (v2 0 27) (bm 14) (v2 0 29) (v2 0 30) (f2 1) (f2 6) (f2 7) (f2 8) (f2 9) (f2 11) (f2 12) (f2 13) (xs (nI (k + 1)).toNatClampNeg) hIm.2.1 hIm.2.2.1 hIm.2.2.2.1 hIm.2.2.2.2.1 hIm.2.2.2.2.2.1 hIm.2.2.2.2.2.2.1) (cwV 1 hts gL_law_X11_count rfl rfl rfl (by decide +kernel) ⟨Nat.le_of_ble_eq_true rfl, Nat.le_of_ble_eq_true rfl⟩) (wr_preV 11 0 hK (hPm.sub [0, 1, 6, 7, 8, 9, 11, 12, 13] rfl) (hDm.sub [0, 1, 6, 7, 8, 9, 11, 12, 13] (by decide) rfl) rfl rfl) rfl rfl hl.1 rfl (lv_room (Nat.le_of_ble_eq_true rfl)) dL_law_1901 ⟨Nat.le_of_ble_eq_true rfl, Nat.le_of_ble_eq_true rfl⟩) hS hPm hDm hPx (fun q h1 h2 => hap q h2 h1) [0, 1, 6, 7, 8, 9, 11, 12, 13] rfl (fun r2 u2 H locs wr2 hPx hF hS => ?_)
  obtain ⟨r2p0, r2p1, r2p2, r2p3, r2p4, -⟩ := wr2
  have hPm : va_P G vwCl (mW bm ct (uv v2 [(0, 0, u2.1 0), (0, 24, u2.1 1), (0, 25, u2.1 2), (0, 26, u2.1 3), (0, 27, u2.1 4)]) (uf f2 [(11, u2.2.1 0), (12, u2.2.1 1), (13, u2.2.1 2)]) g2) H := hF (mW bm ct (uv v2 [(0, 0, u2.1 0), (0, 24, u2.1 1), (0, 25, u2.1 2), (0, 26, u2.1 3), (0, 27, u2.1 4)]) (uf f2 [(11, u2.2.1 0), (12, u2.2.1 1), (13, u2.2.1 2)]) g2) rfl (fun k9 hk9 => mW_same bm ct v2 (uv v2 [(0, 0, u2.1 0), (0, 24, u2.1 1), (0, 25, u2.1 2), (0, 26, u2.1 3), (0, 27, u2.1 4)]) f2 (uf f2 [(11, u2.2.1 0), (12, u2.2.1 1), (13, u2.2.1 2)]) g2 g2 k9 (uv_st hk9 (by rfl)) (uf_st hk9 (by rfl)) rfl)
  have hIm : MI (uv v2 [(0, 0, u2.1 0), (0, 24, u2.1 1), (0, 25, u2.1 2), (0, 26, u2.1 3), (0, 27, u2.1 4)]) (uf f2 [(11, u2.2.1 0), (12, u2.2.1 1), (13, u2.2.1 2)]) g2 := ⟨hIm.1, hIm.2.1, hIm.2.2.1, hIm.2.2.2.1, hIm.2.2.2.2.1, r2p2, r2p3, trivial⟩
  refine lv_pop hx hb dL_law_1904 rfl ?_
  refine lv_goto (tgt := 2133) hx hb dL_law_1905 (by decide) ?_
  exact kk v f g (uv v2 [(0, 0, u2.1 0), (0, 24, u2.1 1), (0, 25, u2.1 2), (0, 26, u2.1 3), (0, 27, u2.1 4)]) (uf f2 [(11, u2.2.1 0), (12, u2.2.1 1), (13, u2.2.1 2)]) g2 H locs ls hIx hIm hR hPx hPm hS hl
