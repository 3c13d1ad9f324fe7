theorem dL_law_1908 : decode cL_law 1908 = .ok (.aload_n 1, 1) := by decide +kernel
theorem dL_law_1909 : decode cL_law 1909 = .ok (.aload_n 0, 1) := by decide +kernel
theorem dL_law_1910 : decode cL_law 1910 = .ok (.iload_n 3, 1) := by decide +kernel
theorem dL_law_1911 : decode cL_law 1911 = .ok (.iconst 1, 1) := by decide +kernel
theorem dL_law_1912 : decode cL_law 1912 = .ok (.iadd, 1) := by decide +kernel
theorem dL_law_1913 : decode cL_law 1913 = .ok (.iaload, 1) := by decide +kernel
set_option maxRecDepth 20000 in
theorem ggL_law_X10_image : GoodIn wsL_law wsX10_image := goodIn_s _ [(67, 3), (1, 1), (1, 0), (1, 3), (67, 4), (67, 5), (67, 6), (0, 23), (67, 7), (3, 14), (3, 17), (67, 8), (14, 12), (14, 13), (14, 14), (15, 0), (14, 7), (14, 8), (14, 9), (2, 16), (14, 10), (3, 0), (3, 2), (14, 11), (3, 3), (3, 4), (3, 5), (8, 12), (8, 13), (14, 15), (14, 16), (14, 17), (1, 15), (14, 18), (13, 11), (3, 9), (14, 19), (14, 20), (14, 21), (14, 22), (14, 23), (3, 16), (15, 1), (15, 2), (15, 3), (1, 10), (15, 4), (3, 23), (4, 2), (15, 5), (4, 0), (15, 6), (15, 7), (15, 8), (15, 9), (15, 10), (15, 11), (15, 12), (15, 13), (15, 14), (15, 15), (15, 16), (15, 17), (15, 18), (15, 19), (15, 20), (15, 21), (13, 8), (13, 9), (13, 10), (15, 22), (15, 23), (16, 0), (16, 1), (16, 2), (16, 3), (13, 4), (13, 5), (13, 6), (13, 7), (16, 4), (16, 5), (16, 6), (16, 7), (16, 8), (16, 9), (13, 18), (13, 19), (13, 20), (16, 10), (16, 11), (16, 12), (16, 13), (4, 1), (16, 14), (16, 15), (16, 16), (16, 17), (16, 18), (16, 19), (0, 2), (16, 20), (70, 0), (70, 1), (70, 2), (70, 3), (70, 4), (70, 5), (70, 6), (70, 7), (70, 8), (70, 9), (70, 10), (74, 0), (74, 1), (74, 2), (74, 3), (81, 0), (81, 1), (81, 2), (81, 3), (81, 4), (81, 5), (81, 6), (77, 0), (77, 1), (76, 0), (76, 1), (76, 2), (76, 3), (76, 4), (76, 5), (76, 6), (76, 7)] (by rfl) (by decide +kernel)
set_option maxRecDepth 20000 in
theorem gL_law_X10_image : GoodIn wsL_law (wsV RL 259 RX10 yX10_image wsX10_image) := goodIn_app (goodIn_s _ [(67, 0), (67, 1), (67, 2), (0, 2)] (by rfl) (by decide +kernel)) ggL_law_X10_image
theorem dL_law_1914 : decode cL_law 1914 = .ok (.invokevirtual 259, 3) := by decide +kernel
theorem dL_law_1917 : decode cL_law 1917 = .ok (.pop, 1) := by decide +kernel
theorem dL_law_1918 : decode cL_law 1918 = .ok (.aload_n 2, 1) := by decide +kernel
theorem dL_law_1919 : decode cL_law 1919 = .ok (.aload_n 0, 1) := by decide +kernel
theorem dL_law_1920 : decode cL_law 1920 = .ok (.iload_n 3, 1) := by decide +kernel
theorem dL_law_1921 : decode cL_law 1921 = .ok (.iconst 1, 1) := by decide +kernel
theorem dL_law_1922 : decode cL_law 1922 = .ok (.iadd, 1) := by decide +kernel
theorem dL_law_1923 : decode cL_law 1923 = .ok (.iaload, 1) := by decide +kernel
set_option maxRecDepth 20000 in
theorem ggL_law_X11_image : GoodIn wsL_law wsX11_image := goodIn_s _ [(67, 12), (6, 20), (67, 13), (5, 20), (7, 14), (7, 15), (0, 5), (7, 16), (21, 3), (21, 4), (21, 5), (21, 6), (5, 16), (5, 17), (5, 18), (5, 19), (21, 7), (21, 8), (21, 9), (71, 0), (71, 1), (71, 2), (71, 3), (71, 4), (71, 5), (71, 6), (71, 7), (71, 8), (71, 9), (71, 10), (71, 11), (71, 12), (71, 13), (71, 14), (71, 15), (71, 16), (71, 17), (71, 18), (71, 19), (71, 20), (71, 21), (71, 22), (71, 23), (71, 24), (71, 25), (71, 26), (71, 27), (71, 28), (71, 29), (71, 30)] (by rfl) (by decide +kernel)
set_option maxRecDepth 20000 in
theorem gL_law_X11_image : GoodIn wsL_law (wsV RL 262 RX11 yX11_image wsX11_image) := goodIn_app (goodIn_s _ [(67, 9), (67, 10), (67, 11), (0, 5)] (by rfl) (by decide +kernel)) ggL_law_X11_image
theorem dL_law_1924 : decode cL_law 1924 = .ok (.invokevirtual 262, 3) := by decide +kernel
theorem dL_law_1927 : decode cL_law 1927 = .ok (.pop, 1) := by decide +kernel
theorem dL_law_1928 : decode cL_law 1928 = .ok (.goto 205, 3) := by decide +kernel
theorem dL_law_1931 : decode cL_law 1931 = .ok (.aload_n 1, 1) := by decide +kernel
theorem dL_law_1932 : decode cL_law 1932 = .ok (.aload_n 0, 1) := by decide +kernel
theorem dL_law_1933 : decode cL_law 1933 = .ok (.iload_n 3, 1) := by decide +kernel
theorem dL_law_1934 : decode cL_law 1934 = .ok (.iconst 1, 1) := by decide +kernel
theorem dL_law_1935 : decode cL_law 1935 = .ok (.iadd, 1) := by decide +kernel
theorem dL_law_1936 : decode cL_law 1936 = .ok (.iaload, 1) := by decide +kernel
set_option maxRecDepth 20000 in
theorem ggL_law_X10_back : GoodIn wsL_law wsX10_back := goodIn_s _ [(67, 17), (1, 3), (1, 0), (1, 1), (67, 4), (67, 5), (67, 6), (0, 23), (67, 7), (3, 14), (3, 17), (67, 8), (14, 12), (14, 13), (14, 14), (15, 0), (14, 7), (14, 8), (14, 9), (2, 16), (14, 10), (3, 0), (3, 2), (14, 11), (3, 3), (3, 4), (3, 5), (8, 12), (8, 13), (14, 15), (14, 16), (14, 17), (1, 15), (14, 18), (13, 11), (3, 9), (14, 19), (14, 20), (14, 21), (14, 22), (14, 23), (3, 16), (15, 1), (15, 2), (15, 3), (1, 10), (15, 4), (3, 23), (4, 2), (15, 5), (4, 0), (15, 6), (15, 7), (15, 8), (15, 9), (15, 10), (15, 11), (15, 12), (15, 13), (15, 14), (15, 15), (15, 16), (15, 17), (15, 18), (15, 19), (15, 20), (15, 21), (13, 8), (13, 9), (13, 10), (15, 22), (15, 23), (16, 0), (16, 1), (16, 2), (16, 3), (13, 4), (13, 5), (13, 6), (13, 7), (16, 4), (16, 5), (16, 6), (16, 7), (16, 8), (16, 9), (13, 18), (13, 19), (13, 20), (16, 10), (16, 11), (16, 12), (16, 13), (4, 1), (16, 14), (16, 15), (16, 16), (16, 17), (16, 18), (16, 19), (0, 2), (16, 20), (70, 0), (70, 1), (70, 2), (70, 3), (70, 4), (70, 5), (70, 6), (70, 7), (70, 8), (70, 9), (70, 10), (74, 0), (74, 1), (74, 2), (74, 3), (81, 0), (81, 1), (81, 2), (81, 3), (81, 4), (81, 5), (81, 6), (77, 0), (77, 1), (76, 0), (76, 1), (76, 2), (76, 3), (76, 4), (76, 5), (76, 6), (76, 7)] (by rfl) (by decide +kernel)
set_option maxRecDepth 20000 in
theorem gL_law_X10_back : GoodIn wsL_law (wsV RL 263 RX10 yX10_back wsX10_back) := goodIn_app (goodIn_s _ [(67, 14), (67, 15), (67, 16), (0, 2)] (by rfl) (by decide +kernel)) ggL_law_X10_back
theorem dL_law_1937 : decode cL_law 1937 = .ok (.invokevirtual 263, 3) := by decide +kernel
theorem dL_law_1940 : decode cL_law 1940 = .ok (.pop, 1) := by decide +kernel
theorem dL_law_1941 : decode cL_law 1941 = .ok (.aload_n 2, 1) := by decide +kernel
theorem dL_law_1942 : decode cL_law 1942 = .ok (.aload_n 0, 1) := by decide +kernel
theorem dL_law_1943 : decode cL_law 1943 = .ok (.iload_n 3, 1) := by decide +kernel
theorem dL_law_1944 : decode cL_law 1944 = .ok (.iconst 1, 1) := by decide +kernel
theorem dL_law_1945 : decode cL_law 1945 = .ok (.iadd, 1) := by decide +kernel
theorem dL_law_1946 : decode cL_law 1946 = .ok (.iaload, 1) := by decide +kernel
set_option maxRecDepth 20000 in
theorem ggL_law_X11_back : GoodIn wsL_law wsX11_back := goodIn_s _ [(67, 21), (6, 20), (67, 13), (5, 20), (7, 14), (7, 15), (0, 5), (7, 16), (21, 3), (21, 4), (21, 5), (21, 6), (5, 16), (5, 17), (5, 18), (5, 19), (21, 7), (21, 8), (21, 9), (71, 0), (71, 1), (71, 2), (71, 3), (71, 4), (71, 5), (71, 6), (71, 7), (71, 8), (71, 9), (71, 10), (71, 11), (71, 12), (71, 13), (71, 14), (71, 15), (71, 16), (71, 17), (71, 18), (71, 19), (71, 20), (71, 21), (71, 22), (71, 23), (71, 24), (71, 25), (71, 26), (71, 27), (71, 28), (71, 29), (71, 30)] (by rfl) (by decide +kernel)
set_option maxRecDepth 20000 in
theorem gL_law_X11_back : GoodIn wsL_law (wsV RL 266 RX11 yX11_back wsX11_back) := goodIn_app (goodIn_s _ [(67, 18), (67, 19), (67, 20), (0, 5)] (by rfl) (by decide +kernel)) ggL_law_X11_back
theorem dL_law_1947 : decode cL_law 1947 = .ok (.invokevirtual 266, 3) := by decide +kernel
theorem dL_law_1950 : decode cL_law 1950 = .ok (.pop, 1) := by decide +kernel
theorem dL_law_1951 : decode cL_law 1951 = .ok (.goto 182, 3) := by decide +kernel
theorem dL_law_1954 : decode cL_law 1954 = .ok (.aload_n 1, 1) := by decide +kernel
theorem dL_law_1955 : decode cL_law 1955 = .ok (.aload_n 0, 1) := by decide +kernel
theorem dL_law_1956 : decode cL_law 1956 = .ok (.iload_n 3, 1) := by decide +kernel
theorem dL_law_1957 : decode cL_law 1957 = .ok (.iconst 1, 1) := by decide +kernel
theorem dL_law_1958 : decode cL_law 1958 = .ok (.iadd, 1) := by decide +kernel
theorem dL_law_1959 : decode cL_law 1959 = .ok (.iaload, 1) := by decide +kernel
theorem dL_law_1960 : decode cL_law 1960 = .ok (.aload_n 0, 1) := by decide +kernel
theorem dL_law_1961 : decode cL_law 1961 = .ok (.iload_n 3, 1) := by decide +kernel
theorem dL_law_1962 : decode cL_law 1962 = .ok (.iconst 2, 1) := by decide +kernel
theorem dL_law_1963 : decode cL_law 1963 = .ok (.iadd, 1) := by decide +kernel
theorem dL_law_1964 : decode cL_law 1964 = .ok (.iaload, 1) := by decide +kernel
theorem dL_law_1965 : decode cL_law 1965 = .ok (.aload_n 0, 1) := by decide +kernel
theorem dL_law_1966 : decode cL_law 1966 = .ok (.iload_n 3, 1) := by decide +kernel
theorem dL_law_1967 : decode cL_law 1967 = .ok (.iconst 3, 1) := by decide +kernel
theorem dL_law_1968 : decode cL_law 1968 = .ok (.iadd, 1) := by decide +kernel
theorem dL_law_1969 : decode cL_law 1969 = .ok (.iaload, 1) := by decide +kernel
set_option maxRecDepth 20000 in
theorem ggL_law_X10_row : GoodIn wsL_law wsX10_row := goodIn_s _ [(68, 1), (1, 7), (47, 11), (47, 12), (47, 13), (1, 6), (47, 14), (68, 2), (68, 3), (68, 4), (68, 5), (47, 19), (4, 9), (4, 10), (4, 8), (47, 20), (70, 0), (70, 1), (70, 2), (70, 3), (70, 4), (70, 5), (70, 6), (70, 7), (70, 8), (70, 9), (70, 10), (75, 0), (75, 1), (75, 2), (75, 3)] (by rfl) (by decide +kernel)
set_option maxRecDepth 20000 in
theorem gL_law_X10_row : GoodIn wsL_law (wsV RL 267 RX10 yX10_row wsX10_row) := goodIn_app (goodIn_s _ [(67, 22), (67, 23), (68, 0), (0, 2)] (by rfl) (by decide +kernel)) ggL_law_X10_row
theorem dL_law_1970 : decode cL_law 1970 = .ok (.invokevirtual 267, 3) := by decide +kernel
theorem dL_law_1973 : decode cL_law 1973 = .ok (.pop, 1) := by decide +kernel
theorem dL_law_1974 : decode cL_law 1974 = .ok (.aload_n 2, 1) := by decide +kernel
theorem dL_law_1975 : decode cL_law 1975 = .ok (.aload_n 0, 1) := by decide +kernel
theorem dL_law_1976 : decode cL_law 1976 = .ok (.iload_n 3, 1) := by decide +kernel
theorem dL_law_1977 : decode cL_law 1977 = .ok (.iconst 1, 1) := by decide +kernel
theorem dL_law_1978 : decode cL_law 1978 = .ok (.iadd, 1) := by decide +kernel
theorem dL_law_1979 : decode cL_law 1979 = .ok (.iaload, 1) := by decide +kernel
theorem dL_law_1980 : decode cL_law 1980 = .ok (.aload_n 0, 1) := by decide +kernel
theorem dL_law_1981 : decode cL_law 1981 = .ok (.iload_n 3, 1) := by decide +kernel
theorem dL_law_1982 : decode cL_law 1982 = .ok (.iconst 2, 1) := by decide +kernel
theorem dL_law_1983 : decode cL_law 1983 = .ok (.iadd, 1) := by decide +kernel
theorem dL_law_1984 : decode cL_law 1984 = .ok (.iaload, 1) := by decide +kernel
theorem dL_law_1985 : decode cL_law 1985 = .ok (.aload_n 0, 1) := by decide +kernel
theorem dL_law_1986 : decode cL_law 1986 = .ok (.iload_n 3, 1) := by decide +kernel
theorem dL_law_1987 : decode cL_law 1987 = .ok (.iconst 3, 1) := by decide +kernel
theorem dL_law_1988 : decode cL_law 1988 = .ok (.iadd, 1) := by decide +kernel
theorem dL_law_1989 : decode cL_law 1989 = .ok (.iaload, 1) := by decide +kernel
set_option maxRecDepth 20000 in
theorem ggL_law_X11_row : GoodIn wsL_law wsX11_row := goodIn_s _ [(68, 9), (6, 20), (38, 0), (5, 10), (5, 11), (5, 12), (49, 4), (49, 5), (0, 5), (49, 6), (7, 14), (7, 15), (7, 16), (71, 0), (71, 1), (71, 2), (71, 3), (71, 4), (71, 5), (71, 6), (71, 7), (71, 8), (71, 9), (71, 10), (71, 11), (71, 12), (71, 13), (71, 14), (71, 15), (71, 16), (71, 17), (71, 18), (71, 19), (71, 20), (71, 21), (71, 22), (71, 23), (71, 24), (71, 25), (71, 26), (71, 27), (71, 28), (71, 29), (71, 30)] (by rfl) (by decide +kernel)
set_option maxRecDepth 20000 in
theorem gL_law_X11_row : GoodIn wsL_law (wsV RL 270 RX11 yX11_row wsX11_row) := goodIn_app (goodIn_s _ [(68, 6), (68, 7), (68, 8), (0, 5)] (by rfl) (by decide +kernel)) ggL_law_X11_row
theorem dL_law_1990 : decode cL_law 1990 = .ok (.invokevirtual 270, 3) := by decide +kernel
theorem dL_law_1993 : decode cL_law 1993 = .ok (.pop, 1) := by decide +kernel
theorem dL_law_1994 : decode cL_law 1994 = .ok (.goto 139, 3) := by decide +kernel
theorem dL_law_1997 : decode cL_law 1997 = .ok (.aload_n 1, 1) := by decide +kernel
theorem dL_law_1998 : decode cL_law 1998 = .ok (.aload_n 0, 1) := by decide +kernel
theorem dL_law_1999 : decode cL_law 1999 = .ok (.iload_n 3, 1) := by decide +kernel
theorem dL_law_2000 : decode cL_law 2000 = .ok (.iconst 1, 1) := by decide +kernel
theorem dL_law_2001 : decode cL_law 2001 = .ok (.iadd, 1) := by decide +kernel
theorem dL_law_2002 : decode cL_law 2002 = .ok (.iaload, 1) := by decide +kernel
theorem dL_law_2003 : decode cL_law 2003 = .ok (.aload_n 0, 1) := by decide +kernel
theorem dL_law_2004 : decode cL_law 2004 = .ok (.iload_n 3, 1) := by decide +kernel
theorem dL_law_2005 : decode cL_law 2005 = .ok (.iconst 2, 1) := by decide +kernel
theorem dL_law_2006 : decode cL_law 2006 = .ok (.iadd, 1) := by decide +kernel
theorem dL_law_2007 : decode cL_law 2007 = .ok (.iaload, 1) := by decide +kernel
theorem dL_law_2008 : decode cL_law 2008 = .ok (.aload_n 0, 1) := by decide +kernel
theorem dL_law_2009 : decode cL_law 2009 = .ok (.iload_n 3, 1) := by decide +kernel
theorem dL_law_2010 : decode cL_law 2010 = .ok (.iconst 3, 1) := by decide +kernel
theorem dL_law_2011 : decode cL_law 2011 = .ok (.iadd, 1) := by decide +kernel
theorem dL_law_2012 : decode cL_law 2012 = .ok (.iaload, 1) := by decide +kernel
theorem dL_law_2013 : decode cL_law 2013 = .ok (.i2l, 1) := by decide +kernel
theorem dL_law_2014 : decode cL_law 2014 = .ok (.bipush 32, 2) := by decide +kernel
theorem dL_law_2016 : decode cL_law 2016 = .ok (.lshl, 1) := by decide +kernel
theorem dL_law_2017 : decode cL_law 2017 = .ok (.aload_n 0, 1) := by decide +kernel
theorem dL_law_2018 : decode cL_law 2018 = .ok (.iload_n 3, 1) := by decide +kernel
theorem dL_law_2019 : decode cL_law 2019 = .ok (.iconst 4, 1) := by decide +kernel
theorem dL_law_2020 : decode cL_law 2020 = .ok (.iadd, 1) := by decide +kernel
theorem dL_law_2021 : decode cL_law 2021 = .ok (.iaload, 1) := by decide +kernel
theorem dL_law_2022 : decode cL_law 2022 = .ok (.i2l, 1) := by decide +kernel
theorem dL_law_2023 : decode cL_law 2023 = .ok (.ldc2_w 271, 3) := by decide +kernel
theorem dL_law_2026 : decode cL_law 2026 = .ok (.land, 1) := by decide +kernel
theorem dL_law_2027 : decode cL_law 2027 = .ok (.lor, 1) := by decide +kernel
set_option maxRecDepth 20000 in
theorem ggL_law_X10_write : GoodIn wsL_law wsX10_write := goodIn_s _ [(68, 13), (1, 7), (47, 11), (47, 12), (47, 13), (1, 6), (47, 14), (47, 15), (47, 16), (47, 17), (47, 18), (47, 19), (47, 20), (16, 19), (0, 2), (16, 20), (68, 14), (48, 6), (48, 7), (48, 8), (48, 9), (47, 22), (47, 23), (48, 0), (4, 10), (68, 15), (68, 16), (68, 17), (68, 18), (4, 8), (4, 9), (48, 5), (68, 19), (68, 20), (68, 21), (70, 0), (70, 1), (70, 2), (70, 3), (70, 4), (70, 5), (70, 6), (70, 7), (70, 8), (70, 9), (70, 10), (75, 0), (75, 1), (75, 2), (75, 3)] (by rfl) (by decide +kernel)
set_option maxRecDepth 20000 in
theorem gL_law_X10_write : GoodIn wsL_law (wsV RL 273 RX10 yX10_write wsX10_write) := goodIn_app (goodIn_s _ [(68, 10), (68, 11), (68, 12), (0, 2)] (by rfl) (by decide +kernel)) ggL_law_X10_write
theorem dL_law_2028 : decode cL_law 2028 = .ok (.invokevirtual 273, 3) := by decide +kernel
theorem dL_law_2031 : decode cL_law 2031 = .ok (.pop, 1) := by decide +kernel
theorem dL_law_2032 : decode cL_law 2032 = .ok (.aload_n 2, 1) := by decide +kernel
theorem dL_law_2033 : decode cL_law 2033 = .ok (.aload_n 0, 1) := by decide +kernel
theorem dL_law_2034 : decode cL_law 2034 = .ok (.iload_n 3, 1) := by decide +kernel
theorem dL_law_2035 : decode cL_law 2035 = .ok (.iconst 1, 1) := by decide +kernel
theorem dL_law_2036 : decode cL_law 2036 = .ok (.iadd, 1) := by decide +kernel
theorem dL_law_2037 : decode cL_law 2037 = .ok (.iaload, 1) := by decide +kernel
theorem dL_law_2038 : decode cL_law 2038 = .ok (.aload_n 0, 1) := by decide +kernel
theorem dL_law_2039 : decode cL_law 2039 = .ok (.iload_n 3, 1) := by decide +kernel
theorem dL_law_2040 : decode cL_law 2040 = .ok (.iconst 2, 1) := by decide +kernel
theorem dL_law_2041 : decode cL_law 2041 = .ok (.iadd, 1) := by decide +kernel
theorem dL_law_2042 : decode cL_law 2042 = .ok (.iaload, 1) := by decide +kernel
theorem dL_law_2043 : decode cL_law 2043 = .ok (.aload_n 0, 1) := by decide +kernel
theorem dL_law_2044 : decode cL_law 2044 = .ok (.iload_n 3, 1) := by decide +kernel
theorem dL_law_2045 : decode cL_law 2045 = .ok (.iconst 3, 1) := by decide +kernel
theorem dL_law_2046 : decode cL_law 2046 = .ok (.iadd, 1) := by decide +kernel
theorem dL_law_2047 : decode cL_law 2047 = .ok (.iaload, 1) := by decide +kernel
theorem dL_law_2048 : decode cL_law 2048 = .ok (.i2l, 1) := by decide +kernel
theorem dL_law_2049 : decode cL_law 2049 = .ok (.bipush 32, 2) := by decide +kernel
theorem dL_law_2051 : decode cL_law 2051 = .ok (.lshl, 1) := by decide +kernel
theorem dL_law_2052 : decode cL_law 2052 = .ok (.aload_n 0, 1) := by decide +kernel
theorem dL_law_2053 : decode cL_law 2053 = .ok (.iload_n 3, 1) := by decide +kernel
theorem dL_law_2054 : decode cL_law 2054 = .ok (.iconst 4, 1) := by decide +kernel
theorem dL_law_2055 : decode cL_law 2055 = .ok (.iadd, 1) := by decide +kernel
theorem dL_law_2056 : decode cL_law 2056 = .ok (.iaload, 1) := by decide +kernel
theorem dL_law_2057 : decode cL_law 2057 = .ok (.i2l, 1) := by decide +kernel
theorem dL_law_2058 : decode cL_law 2058 = .ok (.ldc2_w 271, 3) := by decide +kernel
theorem dL_law_2061 : decode cL_law 2061 = .ok (.land, 1) := by decide +kernel
theorem dL_law_2062 : decode cL_law 2062 = .ok (.lor, 1) := by decide +kernel
set_option maxRecDepth 20000 in
theorem ggL_law_X11_write : GoodIn wsL_law wsX11_write := goodIn_s _ [(69, 1), (6, 20), (5, 10), (5, 11), (5, 12), (49, 4), (49, 5), (0, 5), (49, 6), (38, 0), (7, 14), (7, 15), (7, 16), (69, 2), (69, 3), (69, 4), (71, 0), (71, 1), (71, 2), (71, 3), (71, 4), (71, 5), (71, 6), (71, 7), (71, 8), (71, 9), (71, 10), (71, 11), (71, 12), (71, 13), (71, 14), (71, 15), (71, 16), (71, 17), (71, 18), (71, 19), (71, 20), (71, 21), (71, 22), (71, 23), (71, 24), (71, 25), (71, 26), (71, 27), (71, 28), (71, 29), (71, 30)] (by rfl) (by decide +kernel)
set_option maxRecDepth 20000 in
theorem gL_law_X11_write : GoodIn wsL_law (wsV RL 277 RX11 yX11_write wsX11_write) := goodIn_app (goodIn_s _ [(68, 22), (68, 23), (69, 0), (0, 5)] (by rfl) (by decide +kernel)) ggL_law_X11_write
theorem dL_law_2063 : decode cL_law 2063 = .ok (.invokevirtual 277, 3) := by decide +kernel
theorem dL_law_2066 : decode cL_law 2066 = .ok (.pop, 1) := by decide +kernel
theorem dL_law_2067 : decode cL_law 2067 = .ok (.goto 66, 3) := by decide +kernel
set_option maxHeartbeats 8000000 in
set_option maxRecDepth 100000 in
theorem law_c60 {p : Program} {e : Env} {s : State} {m : MethodId} {below : List Frame} {meth : Method} {c : Code} (l : Launch) {b L : Nat} {xs : Nat → Int32} (C0 : lw_At p s m meth c b L xs) (hL : L ≤ 3072) (k : Nat) (hk6 : k + 6 ≤ L) (G : va_G) (ct : Nat → ClassId) (a rr bm adK adV : Nat → Nat) (v : Nat → Nat → Int32) (f : Nat → Nat → Int32) (g : Nat → Nat → Int64) (v2 : Nat → Nat → Int32) (f2 : Nat → Nat → Int32) (g2 : Nat → Nat → Int64) (H : Heap) (locs : List Loc) (hK : KK G ct s) (hZ : SS adK adV (fun q : Nat => s.heap.size ≤ q) s s.heap) (hD0 : va_D (fun q : Nat => s.heap.size ≤ q) (xW a rr ct (fun _ _ => 0) (fun _ _ => 0) (fun _ _ => 0))) (hE0 : va_D (fun q : Nat => s.heap.size ≤ q) (mW bm ct (fun _ _ => 0) (fun _ _ => 0) (fun _ _ => 0))) (hap0 : wset a rr bm ct) (hIx : XI v f g) (hIm : MI v2 f2 g2) (hR : REL v f g v2 f2 g2) (hPx : va_P G vwCl (xW a rr ct v f g) H) (hPm : va_P G vwCl (mW bm ct v2 f2 g2) H) (hS : va_S (fun q : Nat => s.heap.size ≤ q) s.heap H locs) (ls : Array Slot) (hl : lv_has ls 4 [(3, .int (nI k)), (2, .ref (bm 0)), (1, .ref (a 0)), (0, .ref b)]) (kk : ∀ (v : Nat → Nat → Int32) (f : Nat → Nat → Int32) (g : Nat → Nat → Int64) (v2 : Nat → Nat → Int32) (f2 : Nat → Nat → Int32) (g2 : Nat → Nat → Int64) (H : Heap) (locs : List Loc) (ls : Array Slot), XI v f g → MI v2 f2 g2 → REL v f g v2 f2 g2 → va_P G vwCl (xW a rr ct v f g) H → va_P G vwCl (mW bm ct v2 f2 g2) H → va_S (fun q : Nat => s.heap.size ≤ q) s.heap H locs → lv_has ls 4 [(3, .int (nI k)), (2, .ref (bm 0)), (1, .ref (a 0)), (0, .ref b)] → W p l e room_1 s m #[Value.ref b] below meth c H locs 110 5410 (lw_Z below #[Value.ref b] s) (F0 m 2133 ls [])) : W p l e room_1 s m #[Value.ref b] below meth c H locs 110 5410 (lw_Z below #[Value.ref b] s) (F0 m 1908 ls []) := by
  obtain ⟨hx, hb, hr, hml, hown, hts, hX, hbl, hlocks, hgv⟩ := C0
  have hown : s.vm.findClass RL = some m.cls := hown
  have hts : ∀ z ∈ wsL_law, z.before #[Value.ref b] s = true := fun z h => hts z (wsL_law_in z h)
  have hbA : ¬ (fun q : Nat => s.heap.size ≤ q) b := Nat.not_le.mpr hbl
  have hDx : va_D (fun q : Nat => s.heap.size ≤ q) (xW a rr ct v f g) := hD0.ad (xW_ad ..)
  have hDm : va_D (fun q : Nat => s.heap.size ≤ q) (mW bm ct v2 f2 g2) := hE0.ad (mW_ad ..)
  have hap : ∀ q, aset (xW a rr ct v f g) q → ¬ aset (mW bm ct v2 f2 g2) q := fun q h1 h2 => hap0 q (aset_ad (xW_ad ..) h1) (aset_ad (mW_ad ..) h2)
  refine lv_aload_n hx hb dL_law_1908 rfl (lv_at hl 2 rfl) ?_
  refine lv_aload_n hx hb dL_law_1909 rfl (lv_at hl 3 rfl) ?_
  refine lv_iload_n hx hb dL_law_1910 rfl (lv_at hl 0 rfl) ?_
  refine lv_iconst (v := 1) hx hb dL_law_1911 (by decide) ?_
  refine lv_iadd hx hb dL_law_1912 ?_
  refine ix_i (y := nI (k + 1)) (nI_add k 1) ?_
  refine va_sld hx hb hX hbl hbA hS (vp_in_nI (n := k + 1) (by omega) (by omega)) dL_law_1913 ?_
  refine lw_callx (w1 := (fun u : SU => [((a 0), .inr (10, [.ref (a 1), .ref (a 3), .ref (a 11), .ref (a 25), .ref (a 68), .ref (a 69), .ref (a 77), .ref (a 82), .ref (a 84), .ref (a 88), .ref (a 91)])), ((a 11), .inr (4, [.ref (a 12), .ref (a 19), .ref (a 24), .int (v 11 3)])), ((a 12), .inr (9, [.ref (a 13), .ref (a 15), .ref (a 16), .ref (a 17), .ref (a 18), .int (v 12 5), .int (v 12 6)])), ((a 13), .inr (0, [.ref (a 14), .int (v 13 1)])), ((a 14), .inl (ct 0, 8, .inl (f 14))), ((a 15), .inl (ct 0, 8, .inl (f 15))), ((a 16), .inl (ct 0, 8, .inl (f 16))), ((a 17), .inl (ct 0, 8, .inl (f 17))), ((a 18), .inl (ct 0, 8, .inl (f 18))), ((a 24), .inl (ct 0, 40, .inl (f 24))), ((a 25), .inl (ct 4, 3, .inr (.inr (.inr (.inr (va_up (va_up (va_up (fun _ => none) 0 (some (a 26))) 1 (some (a 40))) 2 (some (a 54)))))))), ((a 26), .inr (4, [.ref (a 27), .ref (a 34), .ref (a 39), .int (u.1 0)])), ((a 27), .inr (9, [.ref (a 28), .ref (a 30), .ref (a 31), .ref (a 32), .ref (a 33), .int (u.1 1), .int (u.1 2)])), ((a 28), .inr (0, [.ref (a 29), .int (u.1 3)])), ((a 29), .inl (ct 0, 8, .inl (u.2.1 0))), ((a 30), .inl (ct 0, 8, .inl (u.2.1 1))), ((a 31), .inl (ct 0, 8, .inl (u.2.1 2))), ((a 32), .inl (ct 0, 8, .inl (u.2.1 3))), ((a 33), .inl (ct 0, 8, .inl (u.2.1 4))), ((a 34), .inr (2, [.ref (a 27), .ref (a 35), .ref (a 37), .ref (a 38), .int (u.1 4), .int (u.1 5), .int (u.1 6), .int (u.1 7)])), ((a 35), .inr (0, [.ref (a 36), .int (u.1 8)])), ((a 36), .inl (ct 0, 8, .inl (u.2.1 5))), ((a 37), .inl (ct 0, 8, .inl (u.2.1 6))), ((a 38), .inl (ct 0, 8, .inl (u.2.1 7))), ((a 39), .inl (ct 0, 40, .inl (u.2.1 8))), ((a 40), .inr (4, [.ref (a 41), .ref (a 48), .ref (a 53), .int (u.1 9)])), ((a 41), .inr (9, [.ref (a 42), .ref (a 44), .ref (a 45), .ref (a 46), .ref (a 47), .int (u.1 10), .int (u.1 11)])), ((a 42), .inr (0, [.ref (a 43), .int (u.1 12)])), ((a 43), .inl (ct 0, 8, .inl (u.2.1 9))), ((a 44), .inl (ct 0, 8, .inl (u.2.1 10))), ((a 45), .inl (ct 0, 8, .inl (u.2.1 11))), ((a 46), .inl (ct 0, 8, .inl (u.2.1 12))), ((a 47), .inl (ct 0, 8, .inl (u.2.1 13))), ((a 48), .inr (2, [.ref (a 41), .ref (a 49), .ref (a 51), .ref (a 52), .int (u.1 13), .int (u.1 14), .int (u.1 15), .int (u.1 16)])), ((a 49), .inr (0, [.ref (a 50), .int (u.1 17)])), ((a 50), .inl (ct 0, 8, .inl (u.2.1 14))), ((a 51), .inl (ct 0, 8, .inl (u.2.1 15))), ((a 52), .inl (ct 0, 8, .inl (u.2.1 16))), ((a 53), .inl (ct 0, 40, .inl (u.2.1 17))), ((a 54), .inr (4, [.ref (a 55), .ref (a 62), .ref (a 67), .int (u.1 18)])), ((a 55), .inr (9, [.ref (a 56), .ref (a 58), .ref (a 59), .ref (a 60), .ref (a 61), .int (u.1 19), .int (u.1 20)])), ((a 56), .inr (0, [.ref (a 57), .int (u.1 21)])), ((a 57), .inl (ct 0, 8, .inl (u.2.1 18))), ((a 58), .inl (ct 0, 8, .inl (u.2.1 19))), ((a 59), .inl (ct 0, 8, .inl (u.2.1 20))), ((a 60), .inl (ct 0, 8, .inl (u.2.1 21))), ((a 61), .inl (ct 0, 8, .inl (u.2.1 22))), ((a 62), .inr (2, [.ref (a 55), .ref (a 63), .ref (a 65), .ref (a 66), .int (u.1 22), .int (u.1 23), .int (u.1 24), .int (u.1 25)])), ((a 63), .inr (0, [.ref (a 64), .int (u.1 26)])), ((a 64), .inl (ct 0, 8, .inl (u.2.1 23))), ((a 65), .inl (ct 0, 8, .inl (u.2.1 24))), ((a 66), .inl (ct 0, 8, .inl (u.2.1 25))), ((a 67), .inl (ct 0, 40, .inl (u.2.1 26))), ((a 68), .inl (ct 2, 3, .inl (u.2.1 27)))])) (va_runV (As := [.int (xs (nI (k + 1)).toNatClampNeg)]) (rest := []) ⟨hx, hb, hml, hown, hts⟩ (a_X10_image l G ct (a 0) (a 1) (a 3) (a 11) (a 25) (a 68) (a 69) (a 77) (a 82) (a 84) (a 88) (a 91) (a 12) (a 19) (a 24) (v 11 3) (a 13) (a 15) (a 16) (a 17) (a 18) (v 12 5) (v 12 6) (a 14) (v 13 1) (f 14) (f 15) (f 16) (f 17) (f 18) (f 24) (a 26) (a 40) (a 54) (a 27) (a 34) (a 39) (v 26 3) (a 28) (a 30) (a 31) (a 32) (a 33) (v 27 5) (v 27 6) (a 29) (v 28 1) (f 29) (f 30) (f 31) (f 32) (f 33) (a 35) (a 37) (a 38) (v 34 4) (v 34 5) (v 34 6) (v 34 7) (a 36) (v 35 1) (f 36) (f 37) (f 38) (f 39) (a 41) (a 48) (a 53) (v 40 3) (a 42) (a 44) (a 45) (a 46) (a 47) (v 41 5) (v 41 6) (a 43) (v 42 1) (f 43) (f 44) (f 45) (f 46) (f 47) (a 49) (a 51) (a 52) (v 48 4) (v 48 5) (v 48 6) (v 48 7) (a 50) (v 49 1) (f 50) (f 51) (f 52) (f 53) (a 55) (a 62) (a 67) (v 54 3) (a 56) (a 58) (a 59) (a 60) (a 61) (v 55 5) (v 55 6) (a 57) (v 56 1) (f 57) (f 58) (f 59) (f 60) (f 61) (a 63) (a 65) (a 66) (v 62 4) (v 62 5) (v 62 6) (v 62 7) (a 64) (v 63 1) (f 64) (f 65) (f 66) (f 67) (f 68) (xs (nI (k + 1)).toNatClampNeg) hIx.2.2.1 hIx.2.2.2.2.1 hIx.2.2.2.2.2.1 hIx.2.2.2.2.2.2.1 hIx.2.2.2.2.2.2.2.1 hIx.2.2.2.2.2.2.2.2.1 hIx.2.2.2.2.2.2.2.2.2.1) (cwV 1 hts gL_law_X10_image rfl rfl rfl (by decide +kernel) ⟨Nat.le_of_ble_eq_true rfl, Nat.le_of_ble_eq_true rfl⟩) (wr_preV 10 0 hK (hPx.sub [0, 11, 12, 13, 14, 15, 16, 17, 18, 24, 25, 26, 27, 28, 29, 30, 31, 32, 33, 34, 35, 36, 37, 38, 39, 40, 41, 42, 43, 44, 45, 46, 47, 48, 49, 50, 51, 52, 53, 54, 55, 56, 57, 58, 59, 60, 61, 62, 63, 64, 65, 66, 67, 68] rfl) (hDx.sub [0, 11, 12, 13, 14, 15, 16, 17, 18, 24, 25, 26, 27, 28, 29, 30, 31, 32, 33, 34, 35, 36, 37, 38, 39, 40, 41, 42, 43, 44, 45, 46, 47, 48, 49, 50, 51, 52, 53, 54, 55, 56, 57, 58, 59, 60, 61, 62, 63, 64, 65, 66, 67, 68] (by decide) rfl) rfl rfl) rfl rfl hl.1 rfl (lv_room (Nat.le_of_ble_eq_true rfl)) dL_law_1914 ⟨Nat.le_of_ble_eq_true rfl, Nat.le_of_ble_eq_true rfl⟩) hS hPx hDx hPm hap [0, 11, 12, 13, 14, 15, 16, 17, 18, 24, 25, 26, 27, 28, 29, 30, 31, 32, 33, 34, 35, 36, 37, 38, 39, 40, 41, 42, 43, 44, 45, 46, 47, 48, 49, 50, 51, 52, 53, 54, 55, 56, 57, 58, 59, 60, 61, 62, 63, 64, 65, 66, 67, 68] rfl (fun r1 u1 H locs wr1 hPm hF hS => ?_)
  obtain ⟨r1p0, r1p1, r1p2, r1p3, r1p4, r1p5, r1p6, r1p7, r1p8, -⟩ := wr1
  have hPx : va_P G vwCl (xW a rr ct (uv v [(26, 3, u1.1 0), (27, 5, u1.1 1), (27, 6, u1.1 2), (28, 1, u1.1 3), (34, 4, u1.1 4), (34, 5, u1.1 5), (34, 6, u1.1 6), (34, 7, u1.1 7), (35, 1, u1.1 8), (40, 3, u1.1 9), (41, 5, u1.1 10), (41, 6, u1.1 11), (42, 1, u1.1 12), (48, 4, u1.1 13), (48, 5, u1.1 14), (48, 6, u1.1 15), (48, 7, u1.1 16), (49, 1, u1.1 17), (54, 3, u1.1 18), (55, 5, u1.1 19), (55, 6, u1.1 20), (56, 1, u1.1 21), (62, 4, u1.1 22), (62, 5, u1.1 23), (62, 6, u1.1 24), (62, 7, u1.1 25), (63, 1, u1.1 26)]) (uf f [(29, u1.2.1 0), (30, u1.2.1 1), (31, u1.2.1 2), (32, u1.2.1 3), (33, u1.2.1 4), (36, u1.2.1 5), (37, u1.2.1 6), (38, u1.2.1 7), (39, u1.2.1 8), (43, u1.2.1 9), (44, u1.2.1 10), (45, u1.2.1 11), (46, u1.2.1 12), (47, u1.2.1 13), (50, u1.2.1 14), (51, u1.2.1 15), (52, u1.2.1 16), (53, u1.2.1 17), (57, u1.2.1 18), (58, u1.2.1 19), (59, u1.2.1 20), (60, u1.2.1 21), (61, u1.2.1 22), (64, u1.2.1 23), (65, u1.2.1 24), (66, u1.2.1 25), (67, u1.2.1 26), (68, u1.2.1 27)]) g) H := hF (xW a rr ct (uv v [(26, 3, u1.1 0), (27, 5, u1.1 1), (27, 6, u1.1 2), (28, 1, u1.1 3), (34, 4, u1.1 4), (34, 5, u1.1 5), (34, 6, u1.1 6), (34, 7, u1.1 7), (35, 1, u1.1 8), (40, 3, u1.1 9), (41, 5, u1.1 10), (41, 6, u1.1 11), (42, 1, u1.1 12), (48, 4, u1.1 13), (48, 5, u1.1 14), (48, 6, u1.1 15), (48, 7, u1.1 16), (49, 1, u1.1 17), (54, 3, u1.1 18), (55, 5, u1.1 19), (55, 6, u1.1 20), (56, 1, u1.1 21), (62, 4, u1.1 22), (62, 5, u1.1 23), (62, 6, u1.1 24), (62, 7, u1.1 25), (63, 1, u1.1 26)]) (uf f [(29, u1.2.1 0), (30, u1.2.1 1), (31, u1.2.1 2), (32, u1.2.1 3), (33, u1.2.1 4), (36, u1.2.1 5), (37, u1.2.1 6), (38, u1.2.1 7), (39, u1.2.1 8), (43, u1.2.1 9), (44, u1.2.1 10), (45, u1.2.1 11), (46, u1.2.1 12), (47, u1.2.1 13), (50, u1.2.1 14), (51, u1.2.1 15), (52, u1.2.1 16), (53, u1.2.1 17), (57, u1.2.1 18), (58, u1.2.1 19), (59, u1.2.1 20), (60, u1.2.1 21), (61, u1.2.1 22), (64, u1.2.1 23), (65, u1.2.1 24), (66, u1.2.1 25), (67, u1.2.1 26), (68, u1.2.1 27)]) g) rfl (fun k9 hk9 => xW_same a rr ct v (uv v [(26, 3, u1.1 0), (27, 5, u1.1 1), (27, 6, u1.1 2), (28, 1, u1.1 3), (34, 4, u1.1 4), (34, 5, u1.1 5), (34, 6, u1.1 6), (34, 7, u1.1 7), (35, 1, u1.1 8), (40, 3, u1.1 9), (41, 5, u1.1 10), (41, 6, u1.1 11), (42, 1, u1.1 12), (48, 4, u1.1 13), (48, 5, u1.1 14), (48, 6, u1.1 15), (48, 7, u1.1 16), (49, 1, u1.1 17), (54, 3, u1.1 18), (55, 5, u1.1 19), (55, 6, u1.1 20), (56, 1, u1.1 21), (62, 4, u1.1 22), (62, 5, u1.1 23), (62, 6, u1.1 24), (62, 7, u1.1 25), (63, 1, u1.1 26)]) f (uf f [(29, u1.2.1 0), (30, u1.2.1 1), (31, u1.2.1 2), (32, u1.2.1 3), (33, u1.2.1 4), (36, u1.2.1 5), (37, u1.2.1 6), (38, u1.2.1 7), (39, u1.2.1 8), (43, u1.2.1 9), (44, u1.2.1 10), (45, u1.2.1 11), (46, u1.2.1 12), (47, u1.2.1 13), (50, u1.2.1 14), (51, u1.2.1 15), (52, u1.2.1 16), (53, u1.2.1 17), (57, u1.2.1 18), (58, u1.2.1 19), (59, u1.2.1 20), (60, u1.2.1 21), (61, u1.2.1 22), (64, u1.2.1 23), (65, u1.2.1 24), (66, u1.2.1 25), (67, u1.2.1 26), (68, u1.2.1 27)]) g g k9 (uv_st hk9 (by rfl)) (uf_st hk9 (by rfl)) rfl)
  have hIx : XI (uv v [(26, 3, u1.1 0), (27, 5, u1.1 1), (27, 6, u1.1 2), (28, 1, u1.1 3), (34, 4, u1.1 4), (34, 5, u1.1 5), (34, 6, u1.1 6), (34, 7, u1.1 7), (35, 1, u1.1 8), (40, 3, u1.1 9), (41, 5, u1.1 10), (41, 6, u1.1 11), (42, 1, u1.1 12), (48, 4, u1.1 13), (48, 5, u1.1 14), (48, 6, u1.1 15), (48, 7, u1.1 16), (49, 1, u1.1 17), (54, 3, u1.1 18), (55, 5, u1.1 19), (55, 6, u1.1 20), (56, 1, u1.1 21), (62, 4, u1.1 22), (62, 5, u1.1 23), (62, 6, u1.1 24), (62, 7, u1.1 25), (63, 1, u1.1 26)]) (uf f [(29, u1.2.1 0), (30, u1.2.1 1), (31, u1.2.1 2), (32, u1.2.1 3), (33, u1.2.1 4), (36, u1.2.1 5), (37, u1.2.1 6), (38, u1.2.1 7), (39, u1.2.1 8), (43, u1.2.1 9), (44, u1.2.1 10), (45, u1.2.1 11), (46, u1.2.1 12), (47, u1.2.1 13), (50, u1.2.1 14), (51, u1.2.1 15), (52, u1.2.1 16), (53, u1.2.1 17), (57, u1.2.1 18), (58, u1.2.1 19), (59, u1.2.1 20), (60, u1.2.1 21), (61, u1.2.1 22), (64, u1.2.1 23), (65, u1.2.1 24), (66, u1.2.1 25), (67, u1.2.1 26), (68, u1.2.1 27)]) g := ⟨hIx.1, hIx.2.1, hIx.2.2.1, hIx.2.2.2.1, r1p3, r1p4, r1p5, r1p6, r1p7, r1p8, hIx.2.2.2.2.2.2.2.2.2.2.1, hIx.2.2.2.2.2.2.2.2.2.2.2.1, hIx.2.2.2.2.2.2.2.2.2.2.2.2.1, hIx.2.2.2.2.2.2.2.2.2.2.2.2.2.1, hIx.2.2.2.2.2.2.2.2.2.2.2.2.2.2.1, hIx.2.2.2.2.2.2.2.2.2.2.2.2.2.2.2.1, trivial⟩
  have hap : ∀ q, aset (xW a rr ct (uv v [(26, 3, u1.1 0), (27, 5, u1.1 1), (27, 6, u1.1 2), (28, 1, u1.1 3), (34, 4, u1.1 4), (34, 5, u1.1 5), (34, 6, u1.1 6), (34, 7, u1.1 7), (35, 1, u1.1 8), (40, 3, u1.1 9), (41, 5, u1.1 10), (41, 6, u1.1 11), (42, 1, u1.1 12), (48, 4, u1.1 13), (48, 5, u1.1 14), (48, 6, u1.1 15), (48, 7, u1.1 16), (49, 1, u1.1 17), (54, 3, u1.1 18), (55, 5, u1.1 19), (55, 6, u1.1 20), (56, 1, u1.1 21), (62, 4, u1.1 22), (62, 5, u1.1 23), (62, 6, u1.1 24), (62, 7, u1.1 25), (63, 1, u1.1 26)]) (uf f [(29, u1.2.1 0), (30, u1.2.1 1), (31, u1.2.1 2), (32, u1.2.1 3), (33, u1.2.1 4), (36, u1.2.1 5), (37, u1.2.1 6), (38, u1.2.1 7), (39, u1.2.1 8), (43, u1.2.1 9), (44, u1.2.1 10), (45, u1.2.1 11), (46, u1.2.1 12), (47, u1.2.1 13), (50, u1.2.1 14), (51, u1.2.1 15), (52, u1.2.1 16), (53, u1.2.1 17), (57, u1.2.1 18), (58, u1.2.1 19), (59, u1.2.1 20), (60, u1.2.1 21), (61, u1.2.1 22), (64, u1.2.1 23), (65, u1.2.1 24), (66, u1.2.1 25), (67, u1.2.1 26), (68, u1.2.1 27)]) g) q → ¬ aset (mW bm ct v2 f2 g2) q := fun q h1 h2 => hap0 q (aset_ad (xW_ad ..) h1) (aset_ad (mW_ad ..) h2)
  refine lv_pop hx hb dL_law_1917 rfl ?_
  refine lv_aload_n hx hb dL_law_1918 rfl (lv_at hl 1 rfl) ?_
  refine lv_aload_n hx hb dL_law_1919 rfl (lv_at hl 3 rfl) ?_
  refine lv_iload_n hx hb dL_law_1920 rfl (lv_at hl 0 rfl) ?_
  refine lv_iconst (v := 1) hx hb dL_law_1921 (by decide) ?_
  refine lv_iadd hx hb dL_law_1922 ?_
  refine ix_i (y := nI (k + 1)) (nI_add k 1) ?_
  refine va_sld hx hb hX hbl hbA hS (vp_in_nI (n := k + 1) (by omega) (by omega)) dL_law_1923 ?_
  refine lw_callx (w1 := (fun u : SU => [((bm 0), .inr (11, [.int (u.1 0), .ref (bm 1), .ref (bm 2), .ref (bm 3), .ref (bm 4), .ref (bm 5), .int (v2 0 6), .int (v2 0 7), .int (v2 0 8), .int (v2 0 9), .int (v2 0 10), .long (g2 0 11), .int (v2 0 12), .int (v2 0 13), .int (v2 0 14), .int (v2 0 15), .ref (bm 6), .ref (bm 7), .ref (bm 8), .ref (bm 9), .ref (bm 10), .ref (bm 11), .ref (bm 12), .ref (bm 13), .int (v2 0 24), .int (v2 0 25), .int (v2 0 26), .int (v2 0 27), .ref (bm 14), .int (v2 0 29), .int (v2 0 30)])), ((bm 6), .inl (ct 0, 5, .inl (u.2.1 0))), ((bm 7), .inl (ct 0, 15, .inl (u.2.1 1))), ((bm 8), .inl (ct 0, 200, .inl (u.2.1 2))), ((bm 9), .inl (ct 0, 1000, .inl (u.2.1 3))), ((bm 10), .inl (ct 2, 3, .inl (u.2.1 4)))])) (va_runV (As := [.int (xs (nI (k + 1)).toNatClampNeg)]) (rest := []) ⟨hx, hb, hml, hown, hts⟩ (a_X11_image l G ct (bm 0) (v2 0 0) (bm 1) (bm 2) (bm 3) (bm 4) (bm 5) (v2 0 6) (v2 0 7) (v2 0 8) (v2 0 9) (v2 0 10) (g2 0 11) (v2 0 12) (v2 0 13) (v2 0 14) (v2 0 15) (bm 6) (bm 7) (bm 8) (bm 9) (bm 10) (bm 11) (bm 12) (bm 13) (v2 0 24) (v2 0 25) (v2 0 26) (v2 0 27) (bm 14) (v2 0 29) (v2 0 30) (f2 6) (f2 7) (f2 8) (f2 9) (f2 10) (xs (nI (k + 1)).toNatClampNeg) hIm.2.1 hIm.2.2.1 hIm.2.2.2.1 hIm.2.2.2.2.1) (cwV 1 hts gL_law_X11_image rfl rfl rfl (by decide +kernel) ⟨Nat.le_of_ble_eq_true rfl, Nat.le_of_ble_eq_true rfl⟩) (wr_preV 11 0 hK (hPm.sub [0, 6, 7, 8, 9, 10] rfl) (hDm.sub [0, 6, 7, 8, 9, 10] (by decide) rfl) rfl rfl) rfl rfl hl.1 rfl (lv_room (Nat.le_of_ble_eq_true rfl)) dL_law_1924 ⟨Nat.le_of_ble_eq_true rfl, Nat.le_of_ble_eq_true rfl⟩) hS hPm hDm hPx (fun q h1 h2 => hap q h2 h1) [0, 6, 7, 8, 9, 10] rfl (fun r2 u2 H locs wr2 hPx hF hS => ?_)
  obtain ⟨r2p0, r2p1, r2p2, r2p3, r2p4, r2p5, r2p6, -⟩ := wr2
  have hPm : va_P G vwCl (mW bm ct (uv v2 [(0, 0, u2.1 0)]) (uf f2 [(6, u2.2.1 0), (7, u2.2.1 1), (8, u2.2.1 2), (9, u2.2.1 3), (10, u2.2.1 4)]) g2) H := hF (mW bm ct (uv v2 [(0, 0, u2.1 0)]) (uf f2 [(6, u2.2.1 0), (7, u2.2.1 1), (8, u2.2.1 2), (9, u2.2.1 3), (10, u2.2.1 4)]) g2) rfl (fun k9 hk9 => mW_same bm ct v2 (uv v2 [(0, 0, u2.1 0)]) f2 (uf f2 [(6, u2.2.1 0), (7, u2.2.1 1), (8, u2.2.1 2), (9, u2.2.1 3), (10, u2.2.1 4)]) g2 g2 k9 (uv_st hk9 (by rfl)) (uf_st hk9 (by rfl)) rfl)
  have hIm : MI (uv v2 [(0, 0, u2.1 0)]) (uf f2 [(6, u2.2.1 0), (7, u2.2.1 1), (8, u2.2.1 2), (9, u2.2.1 3), (10, u2.2.1 4)]) g2 := ⟨hIm.1, hIm.2.1, r2p3, r2p4, r2p5, hIm.2.2.2.2.2.1, hIm.2.2.2.2.2.2.1, trivial⟩
  refine lv_pop hx hb dL_law_1927 rfl ?_
  refine lv_goto (tgt := 2133) hx hb dL_law_1928 (by decide) ?_
  exact kk (uv v [(26, 3, u1.1 0), (27, 5, u1.1 1), (27, 6, u1.1 2), (28, 1, u1.1 3), (34, 4, u1.1 4), (34, 5, u1.1 5), (34, 6, u1.1 6), (34, 7, u1.1 7), (35, 1, u1.1 8), (40, 3, u1.1 9), (41, 5, u1.1 10), (41, 6, u1.1 11), (42, 1, u1.1 12), (48, 4, u1.1 13), (48, 5, u1.1 14), (48, 6, u1.1 15), (48, 7, u1.1 16), (49, 1, u1.1 17), (54, 3, u1.1 18), (55, 5, u1.1 19), (55, 6, u1.1 20), (56, 1, u1.1 21), (62, 4, u1.1 22), (62, 5, u1.1 23), (62, 6, u1.1 24), (62, 7, u1.1 25), (63, 1, u1.1 26)]) (uf f [(29, u1.2.1 0), (30, u1.2.1 1), (31, u1.2.1 2), (32, u1.2.1 3), (33, u1.2.1 4), (36, u1.2.1 5), (37, u1.2.1 6), (38, u1.2.1 7), (39, u1.2.1 8), (43, u1.2.1 9), (44, u1.2.1 10), (45, u1.2.1 11), (46, u1.2.1 12), (47, u1.2.1 13), (50, u1.2.1 14), (51, u1.2.1 15), (52, u1.2.1 16), (53, u1.2.1 17), (57, u1.2.1 18), (58, u1.2.1 19), (59, u1.2.1 20), (60, u1.2.1 21), (61, u1.2.1 22), (64, u1.2.1 23), (65, u1.2.1 24), (66, u1.2.1 25), (67, u1.2.1 26), (68, u1.2.1 27)]) g (uv v2 [(0, 0, u2.1 0)]) (uf f2 [(6, u2.2.1 0), (7, u2.2.1 1), (8, u2.2.1 2), (9, u2.2.1 3), (10, u2.2.1 4)]) g2 H locs ls hIx hIm hR hPx hPm hS hl
set_option maxHeartbeats 8000000 in
set_option maxRecDepth 100000 in
theorem law_c61 {p : Program} {e : Env} {s : State} {m : MethodId} {below : List Frame} {meth : Method} {c : Code} (l : Launch) {b L : Nat} {xs : Nat → Int32} (C0 : lw_At p s m meth c b L xs) (hL : L ≤ 3072) (k : Nat) (hk6 : k + 6 ≤ L) (G : va_G) (ct : Nat → ClassId) (a rr bm adK adV : Nat → Nat) (v : Nat → Nat → Int32) (f : Nat → Nat → Int32) (g : Nat → Nat → Int64) (v2 : Nat → Nat → Int32) (f2 : Nat → Nat → Int32) (g2 : Nat → Nat → Int64) (H : Heap) (locs : List Loc) (hK : KK G ct s) (hZ : SS adK adV (fun q : Nat => s.heap.size ≤ q) s s.heap) (hD0 : va_D (fun q : Nat => s.heap.size ≤ q) (xW a rr ct (fun _ _ => 0) (fun _ _ => 0) (fun _ _ => 0))) (hE0 : va_D (fun q : Nat => s.heap.size ≤ q) (mW bm ct (fun _ _ => 0) (fun _ _ => 0) (fun _ _ => 0))) (hap0 : wset a rr bm ct) (hIx : XI v f g) (hIm : MI v2 f2 g2) (hR : REL v f g v2 f2 g2) (hPx : va_P G vwCl (xW a rr ct v f g) H) (hPm : va_P G vwCl (mW bm ct v2 f2 g2) H) (hS : va_S (fun q : Nat => s.heap.size ≤ q) s.heap H locs) (ls : Array Slot) (hl : lv_has ls 4 [(3, .int (nI k)), (2, .ref (bm 0)), (1, .ref (a 0)), (0, .ref b)]) (kk : ∀ (v : Nat → Nat → Int32) (f : Nat → Nat → Int32) (g : Nat → Nat → Int64) (v2 : Nat → Nat → Int32) (f2 : Nat → Nat → Int32) (g2 : Nat → Nat → Int64) (H : Heap) (locs : List Loc) (ls : Array Slot), XI v f g → MI v2 f2 g2 → REL v f g v2 f2 g2 → va_P G vwCl (xW a rr ct v f g) H → va_P G vwCl (mW bm ct v2 f2 g2) H → va_S (fun q : Nat => s.heap.size ≤ q) s.heap H locs → lv_has ls 4 [(3, .int (nI k)), (2, .ref (bm 0)), (1, .ref (a 0)), (0, .ref b)] → W p l e room_1 s m #[Value.ref b] below meth c H locs 110 5410 (lw_Z below #[Value.ref b] s) (F0 m 2133 ls [])) : W p l e room_1 s m #[Value.ref b] below meth c H locs 110 5410 (lw_Z below #[Value.ref b] s) (F0 m 1931 ls []) := by
  obtain ⟨hx, hb, hr, hml, hown, hts, hX, hbl, hlocks, hgv⟩ := C0
  have hown : s.vm.findClass RL = some m.cls := hown
  have hts : ∀ z ∈ wsL_law, z.before #[Value.ref b] s = true := fun z h => hts z (wsL_law_in z h)
  have hbA : ¬ (fun q : Nat => s.heap.size ≤ q) b := Nat.not_le.mpr hbl
  have hDx : va_D (fun q : Nat => s.heap.size ≤ q) (xW a rr ct v f g) := hD0.ad (xW_ad ..)
  have hDm : va_D (fun q : Nat => s.heap.size ≤ q) (mW bm ct v2 f2 g2) := hE0.ad (mW_ad ..)
  have hap : ∀ q, aset (xW a rr ct v f g) q → ¬ aset (mW bm ct v2 f2 g2) q := fun q h1 h2 => hap0 q (aset_ad (xW_ad ..) h1) (aset_ad (mW_ad ..) h2)
  refine lv_aload_n hx hb dL_law_1931 rfl (lv_at hl 2 rfl) ?_
  refine lv_aload_n hx hb dL_law_1932 rfl (lv_at hl 3 rfl) ?_
  refine lv_iload_n hx hb dL_law_1933 rfl (lv_at hl 0 rfl) ?_
  refine lv_iconst (v := 1) hx hb dL_law_1934 (by decide) ?_
  refine lv_iadd hx hb dL_law_1935 ?_
  refine ix_i (y := nI (k + 1)) (nI_add k 1) ?_
  refine va_sld hx hb hX hbl hbA hS (vp_in_nI (n := k + 1) (by omega) (by omega)) dL_law_1936 ?_
  refine lw_callx (w1 := (fun u : SU => [((a 0), .inr (10, [.ref (a 1), .ref (a 3), .ref (a 11), .ref (a 25), .ref (a 68), .ref (a 69), .ref (a 77), .ref (a 82), .ref (a 84), .ref (a 88), .ref (a 91)])), ((a 11), .inr (4, [.ref (a 12), .ref (a 19), .ref (a 24), .int (u.1 0)])), ((a 12), .inr (9, [.ref (a 13), .ref (a 15), .ref (a 16), .ref (a 17), .ref (a 18), .int (u.1 1), .int (u.1 2)])), ((a 13), .inr (0, [.ref (a 14), .int (u.1 3)])), ((a 14), .inl (ct 0, 8, .inl (u.2.1 0))), ((a 15), .inl (ct 0, 8, .inl (u.2.1 1))), ((a 16), .inl (ct 0, 8, .inl (u.2.1 2))), ((a 17), .inl (ct 0, 8, .inl (u.2.1 3))), ((a 18), .inl (ct 0, 8, .inl (u.2.1 4))), ((a 19), .inr (2, [.ref (a 12), .ref (a 20), .ref (a 22), .ref (a 23), .int (u.1 4), .int (u.1 5), .int (u.1 6), .int (u.1 7)])), ((a 20), .inr (0, [.ref (a 21), .int (u.1 8)])), ((a 21), .inl (ct 0, 8, .inl (u.2.1 5))), ((a 22), .inl (ct 0, 8, .inl (u.2.1 6))), ((a 23), .inl (ct 0, 8, .inl (u.2.1 7))), ((a 24), .inl (ct 0, 40, .inl (u.2.1 8))), ((a 25), .inl (ct 4, 3, .inr (.inr (.inr (.inr (va_up (va_up (va_up (fun _ => none) 0 (some (a 26))) 1 (some (a 40))) 2 (some (a 54)))))))), ((a 26), .inr (4, [.ref (a 27), .ref (a 34), .ref (a 39), .int (v 26 3)])), ((a 27), .inr (9, [.ref (a 28), .ref (a 30), .ref (a 31), .ref (a 32), .ref (a 33), .int (v 27 5), .int (v 27 6)])), ((a 28), .inr (0, [.ref (a 29), .int (v 28 1)])), ((a 29), .inl (ct 0, 8, .inl (f 29))), ((a 30), .inl (ct 0, 8, .inl (f 30))), ((a 31), .inl (ct 0, 8, .inl (f 31))), ((a 32), .inl (ct 0, 8, .inl (f 32))), ((a 33), .inl (ct 0, 8, .inl (f 33))), ((a 39), .inl (ct 0, 40, .inl (f 39))), ((a 40), .inr (4, [.ref (a 41), .ref (a 48), .ref (a 53), .int (v 40 3)])), ((a 41), .inr (9, [.ref (a 42), .ref (a 44), .ref (a 45), .ref (a 46), .ref (a 47), .int (v 41 5), .int (v 41 6)])), ((a 42), .inr (0, [.ref (a 43), .int (v 42 1)])), ((a 43), .inl (ct 0, 8, .inl (f 43))), ((a 44), .inl (ct 0, 8, .inl (f 44))), ((a 45), .inl (ct 0, 8, .inl (f 45))), ((a 46), .inl (ct 0, 8, .inl (f 46))), ((a 47), .inl (ct 0, 8, .inl (f 47))), ((a 53), .inl (ct 0, 40, .inl (f 53))), ((a 54), .inr (4, [.ref (a 55), .ref (a 62), .ref (a 67), .int (v 54 3)])), ((a 55), .inr (9, [.ref (a 56), .ref (a 58), .ref (a 59), .ref (a 60), .ref (a 61), .int (v 55 5), .int (v 55 6)])), ((a 56), .inr (0, [.ref (a 57), .int (v 56 1)])), ((a 57), .inl (ct 0, 8, .inl (f 57))), ((a 58), .inl (ct 0, 8, .inl (f 58))), ((a 59), .inl (ct 0, 8, .inl (f 59))), ((a 60), .inl (ct 0, 8, .inl (f 60))), ((a 61), .inl (ct 0, 8, .inl (f 61))), ((a 67), .inl (ct 0, 40, .inl (f 67))), ((a 68), .inl (ct 2, 3, .inl (f 68)))])) (va_runV (As := [.int (xs (nI (k + 1)).toNatClampNeg)]) (rest := []) ⟨hx, hb, hml, hown, hts⟩ (a_X10_back l G ct (a 0) (a 1) (a 3) (a 11) (a 25) (a 68) (a 69) (a 77) (a 82) (a 84) (a 88) (a 91) (a 12) (a 19) (a 24) (v 11 3) (a 13) (a 15) (a 16) (a 17) (a 18) (v 12 5) (v 12 6) (a 14) (v 13 1) (f 14) (f 15) (f 16) (f 17) (f 18) (a 20) (a 22) (a 23) (v 19 4) (v 19 5) (v 19 6) (v 19 7) (a 21) (v 20 1) (f 21) (f 22) (f 23) (f 24) (a 26) (a 40) (a 54) (a 27) (a 34) (a 39) (v 26 3) (a 28) (a 30) (a 31) (a 32) (a 33) (v 27 5) (v 27 6) (a 29) (v 28 1) (f 29) (f 30) (f 31) (f 32) (f 33) (f 39) (a 41) (a 48) (a 53) (v 40 3) (a 42) (a 44) (a 45) (a 46) (a 47) (v 41 5) (v 41 6) (a 43) (v 42 1) (f 43) (f 44) (f 45) (f 46) (f 47) (f 53) (a 55) (a 62) (a 67) (v 54 3) (a 56) (a 58) (a 59) (a 60) (a 61) (v 55 5) (v 55 6) (a 57) (v 56 1) (f 57) (f 58) (f 59) (f 60) (f 61) (f 67) (f 68) (xs (nI (k + 1)).toNatClampNeg) hIx.2.2.1 hIx.2.2.2.1 hIx.2.2.2.2.1 hIx.2.2.2.2.2.2.1 hIx.2.2.2.2.2.2.2.2.1) (cwV 1 hts gL_law_X10_back rfl rfl rfl (by decide +kernel) ⟨Nat.le_of_ble_eq_true rfl, Nat.le_of_ble_eq_true rfl⟩) (wr_preV 10 0 hK (hPx.sub [0, 11, 12, 13, 14, 15, 16, 17, 18, 19, 20, 21, 22, 23, 24, 25, 26, 27, 28, 29, 30, 31, 32, 33, 39, 40, 41, 42, 43, 44, 45, 46, 47, 53, 54, 55, 56, 57, 58, 59, 60, 61, 67, 68] rfl) (hDx.sub [0, 11, 12, 13, 14, 15, 16, 17, 18, 19, 20, 21, 22, 23, 24, 25, 26, 27, 28, 29, 30, 31, 32, 33, 39, 40, 41, 42, 43, 44, 45, 46, 47, 53, 54, 55, 56, 57, 58, 59, 60, 61, 67, 68] (by decide) rfl) rfl rfl) rfl rfl hl.1 rfl (lv_room (Nat.le_of_ble_eq_true rfl)) dL_law_1937 ⟨Nat.le_of_ble_eq_true rfl, Nat.le_of_ble_eq_true rfl⟩) hS hPx hDx hPm hap [0, 11, 12, 13, 14, 15, 16, 17, 18, 19, 20, 21, 22, 23, 24, 25, 26, 27, 28, 29, 30, 31, 32, 33, 39, 40, 41, 42, 43, 44, 45, 46, 47, 53, 54, 55, 56, 57, 58, 59, 60, 61, 67, 68] rfl (fun r1 u1 H locs wr1 hPm hF hS => ?_)
  obtain ⟨r1p0, r1p1, r1p2, r1p3, r1p4, -⟩ := wr1
  have hPx : va_P G vwCl (xW a rr ct (uv v [(11, 3, u1.1 0), (12, 5, u1.1 1), (12, 6, u1.1 2), (13, 1, u1.1 3), (19, 4, u1.1 4), (19, 5, u1.1 5), (19, 6, u1.1 6), (19, 7, u1.1 7), (20, 1, u1.1 8)]) (uf f [(14, u1.2.1 0), (15, u1.2.1 1), (16, u1.2.1 2), (17, u1.2.1 3), (18, u1.2.1 4), (21, u1.2.1 5), (22, u1.2.1 6), (23, u1.2.1 7), (24, u1.2.1 8)]) g) H := hF (xW a rr ct (uv v [(11, 3, u1.1 0), (12, 5, u1.1 1), (12, 6, u1.1 2), (13, 1, u1.1 3), (19, 4, u1.1 4), (19, 5, u1.1 5), (19, 6, u1.1 6), (19, 7, u1.1 7), (20, 1, u1.1 8)]) (uf f [(14, u1.2.1 0), (15, u1.2.1 1), (16, u1.2.1 2), (17, u1.2.1 3), (18, u1.2.1 4), (21, u1.2.1 5), (22, u1.2.1 6), (23, u1.2.1 7), (24, u1.2.1 8)]) g) rfl (fun k9 hk9 => xW_same a rr ct v (uv v [(11, 3, u1.1 0), (12, 5, u1.1 1), (12, 6, u1.1 2), (13, 1, u1.1 3), (19, 4, u1.1 4), (19, 5, u1.1 5), (19, 6, u1.1 6), (19, 7, u1.1 7), (20, 1, u1.1 8)]) f (uf f [(14, u1.2.1 0), (15, u1.2.1 1), (16, u1.2.1 2), (17, u1.2.1 3), (18, u1.2.1 4), (21, u1.2.1 5), (22, u1.2.1 6), (23, u1.2.1 7), (24, u1.2.1 8)]) g g k9 (uv_st hk9 (by rfl)) (uf_st hk9 (by rfl)) rfl)
  have hIx : XI (uv v [(11, 3, u1.1 0), (12, 5, u1.1 1), (12, 6, u1.1 2), (13, 1, u1.1 3), (19, 4, u1.1 4), (19, 5, u1.1 5), (19, 6, u1.1 6), (19, 7, u1.1 7), (20, 1, u1.1 8)]) (uf f [(14, u1.2.1 0), (15, u1.2.1 1), (16, u1.2.1 2), (17, u1.2.1 3), (18, u1.2.1 4), (21, u1.2.1 5), (22, u1.2.1 6), (23, u1.2.1 7), (24, u1.2.1 8)]) g := ⟨hIx.1, hIx.2.1, r1p3, r1p4, hIx.2.2.2.2.1, hIx.2.2.2.2.2.1, hIx.2.2.2.2.2.2.1, hIx.2.2.2.2.2.2.2.1, hIx.2.2.2.2.2.2.2.2.1, hIx.2.2.2.2.2.2.2.2.2.1, hIx.2.2.2.2.2.2.2.2.2.2.1, hIx.2.2.2.2.2.2.2.2.2.2.2.1, hIx.2.2.2.2.2.2.2.2.2.2.2.2.1, hIx.2.2.2.2.2.2.2.2.2.2.2.2.2.1, hIx.2.2.2.2.2.2.2.2.2.2.2.2.2.2.1, hIx.2.2.2.2.2.2.2.2.2.2.2.2.2.2.2.1, trivial⟩
  have hap : ∀ q, aset (xW a rr ct (uv v [(11, 3, u1.1 0), (12, 5, u1.1 1), (12, 6, u1.1 2), (13, 1, u1.1 3), (19, 4, u1.1 4), (19, 5, u1.1 5), (19, 6, u1.1 6), (19, 7, u1.1 7), (20, 1, u1.1 8)]) (uf f [(14, u1.2.1 0), (15, u1.2.1 1), (16, u1.2.1 2), (17, u1.2.1 3), (18, u1.2.1 4), (21, u1.2.1 5), (22, u1.2.1 6), (23, u1.2.1 7), (24, u1.2.1 8)]) g) q → ¬ aset (mW bm ct v2 f2 g2) q := fun q h1 h2 => hap0 q (aset_ad (xW_ad ..) h1) (aset_ad (mW_ad ..) h2)
  refine lv_pop hx hb dL_law_1940 rfl ?_
  refine lv_aload_n hx hb dL_law_1941 rfl (lv_at hl 1 rfl) ?_
  refine lv_aload_n hx hb dL_law_1942 rfl (lv_at hl 3 rfl) ?_
  refine lv_iload_n hx hb dL_law_1943 rfl (lv_at hl 0 rfl) ?_
  refine lv_iconst (v := 1) hx hb dL_law_1944 (by decide) ?_
  refine lv_iadd hx hb dL_law_1945 ?_
  refine ix_i (y := nI (k + 1)) (nI_add k 1) ?_
  refine va_sld hx hb hX hbl hbA hS (vp_in_nI (n := k + 1) (by omega) (by omega)) dL_law_1946 ?_
  refine lw_callx (w1 := (fun u : SU => [((bm 0), .inr (11, [.int (u.1 0), .ref (bm 1), .ref (bm 2), .ref (bm 3), .ref (bm 4), .ref (bm 5), .int (v2 0 6), .int (v2 0 7), .int (v2 0 8), .int (v2 0 9), .int (v2 0 10), .long (g2 0 11), .int (v2 0 12), .int (v2 0 13), .int (v2 0 14), .int (v2 0 15), .ref (bm 6), .ref (bm 7), .ref (bm 8), .ref (bm 9), .ref (bm 10), .ref (bm 11), .ref (bm 12), .ref (bm 13), .int (v2 0 24), .int (v2 0 25), .int (v2 0 26), .int (v2 0 27), .ref (bm 14), .int (v2 0 29), .int (v2 0 30)])), ((bm 6), .inl (ct 0, 5, .inl (u.2.1 0))), ((bm 7), .inl (ct 0, 15, .inl (u.2.1 1))), ((bm 8), .inl (ct 0, 200, .inl (u.2.1 2))), ((bm 9), .inl (ct 0, 1000, .inl (u.2.1 3))), ((bm 10), .inl (ct 2, 3, .inl (f2 10)))])) (va_runV (As := [.int (xs (nI (k + 1)).toNatClampNeg)]) (rest := []) ⟨hx, hb, hml, hown, hts⟩ (a_X11_back l G ct (bm 0) (v2 0 0) (bm 1) (bm 2) (bm 3) (bm 4) (bm 5) (v2 0 6) (v2 0 7) (v2 0 8) (v2 0 9) (v2 0 10) (g2 0 11) (v2 0 12) (v2 0 13) (v2 0 14) (v2 0 15) (bm 6) (bm 7) (bm 8) (bm 9) (bm 10) (bm 11) (bm 12) (bm 13) (v2 0 24) (v2 0 25) (v2 0 26) (v2 0 27) (bm 14) (v2 0 29) (v2 0 30) (f2 6) (f2 7) (f2 8) (f2 9) (f2 10) (xs (nI (k + 1)).toNatClampNeg) hIm.2.1 hIm.2.2.1 hIm.2.2.2.1 hIm.2.2.2.2.1) (cwV 1 hts gL_law_X11_back rfl rfl rfl (by decide +kernel) ⟨Nat.le_of_ble_eq_true rfl, Nat.le_of_ble_eq_true rfl⟩) (wr_preV 11 0 hK (hPm.sub [0, 6, 7, 8, 9, 10] rfl) (hDm.sub [0, 6, 7, 8, 9, 10] (by decide) rfl) rfl rfl) rfl rfl hl.1 rfl (lv_room (Nat.le_of_ble_eq_true rfl)) dL_law_1947 ⟨Nat.le_of_ble_eq_true rfl, Nat.le_of_ble_eq_true rfl⟩) hS hPm hDm hPx (fun q h1 h2 => hap q h2 h1) [0, 6, 7, 8, 9, 10] rfl (fun r2 u2 H locs wr2 hPx hF hS => ?_)
  obtain ⟨r2p0, r2p1, r2p2, r2p3, r2p4, r2p5, r2p6, -⟩ := wr2
  have hPm : va_P G vwCl (mW bm ct (uv v2 [(0, 0, u2.1 0)]) (uf f2 [(6, u2.2.1 0), (7, u2.2.1 1), (8, u2.2.1 2), (9, u2.2.1 3)]) g2) H := hF (mW bm ct (uv v2 [(0, 0, u2.1 0)]) (uf f2 [(6, u2.2.1 0), (7, u2.2.1 1), (8, u2.2.1 2), (9, u2.2.1 3)]) g2) rfl (fun k9 hk9 => mW_same bm ct v2 (uv v2 [(0, 0, u2.1 0)]) f2 (uf f2 [(6, u2.2.1 0), (7, u2.2.1 1), (8, u2.2.1 2), (9, u2.2.1 3)]) g2 g2 k9 (uv_st hk9 (by rfl)) (uf_st hk9 (by rfl)) rfl)
  have hIm : MI (uv v2 [(0, 0, u2.1 0)]) (uf f2 [(6, u2.2.1 0), (7, u2.2.1 1), (8, u2.2.1 2), (9, u2.2.1 3)]) g2 := ⟨hIm.1, hIm.2.1, r2p3, r2p4, r2p5, hIm.2.2.2.2.2.1, hIm.2.2.2.2.2.2.1, trivial⟩
  refine lv_pop hx hb dL_law_1950 rfl ?_
  refine lv_goto (tgt := 2133) hx hb dL_law_1951 (by decide) ?_
  exact kk (uv v [(11, 3, u1.1 0), (12, 5, u1.1 1), (12, 6, u1.1 2), (13, 1, u1.1 3), (19, 4, u1.1 4), (19, 5, u1.1 5), (19, 6, u1.1 6), (19, 7, u1.1 7), (20, 1, u1.1 8)]) (uf f [(14, u1.2.1 0), (15, u1.2.1 1), (16, u1.2.1 2), (17, u1.2.1 3), (18, u1.2.1 4), (21, u1.2.1 5), (22, u1.2.1 6), (23, u1.2.1 7), (24, u1.2.1 8)]) g (uv v2 [(0, 0, u2.1 0)]) (uf f2 [(6, u2.2.1 0), (7, u2.2.1 1), (8, u2.2.1 2), (9, u2.2.1 3)]) g2 H locs ls hIx hIm hR hPx hPm hS hl
set_option maxHeartbeats 8000000 in
set_option maxRecDepth 100000 in
theorem law_c62 {p : Program} {e : Env} {s : State} {m : MethodId} {below : List Frame} {meth : Method} {c : Code} (l : Launch) {b L : Nat} {xs : Nat → Int32} (C0 : lw_At p s m meth c b L xs) (hL : L ≤ 3072) (k : Nat) (hk6 : k + 6 ≤ L) (G : va_G) (ct : Nat → ClassId) (a rr bm adK adV : Nat → Nat) (v : Nat → Nat → Int32) (f : Nat → Nat → Int32) (g : Nat → Nat → Int64) (v2 : Nat → Nat → Int32) (f2 : Nat → Nat → Int32) (g2 : Nat → Nat → Int64) (H : Heap) (locs : List Loc) (hK : KK G ct s) (hZ : SS adK adV (fun q : Nat => s.heap.size ≤ q) s s.heap) (hD0 : va_D (fun q : Nat => s.heap.size ≤ q) (xW a rr ct (fun _ _ => 0) (fun _ _ => 0) (fun _ _ => 0))) (hE0 : va_D (fun q : Nat => s.heap.size ≤ q) (mW bm ct (fun _ _ => 0) (fun _ _ => 0) (fun _ _ => 0))) (hap0 : wset a rr bm ct) (hIx : XI v f g) (hIm : MI v2 f2 g2) (hR : REL v f g v2 f2 g2) (hPx : va_P G vwCl (xW a rr ct v f g) H) (hPm : va_P G vwCl (mW bm ct v2 f2 g2) H) (hS : va_S (fun q : Nat => s.heap.size ≤ q) s.heap H locs) (ls : Array Slot) (hl : lv_has ls 4 [(3, .int (nI k)), (2, .ref (bm 0)), (1, .ref (a 0)), (0, .ref b)]) (kk : ∀ (v : Nat → Nat → Int32) (f : Nat → Nat → Int32) (g : Nat → Nat → Int64) (v2 : Nat → Nat → Int32) (f2 : Nat → Nat → Int32) (g2 : Nat → Nat → Int64) (H : Heap) (locs : List Loc) (ls : Array Slot), XI v f g → MI v2 f2 g2 → REL v f g v2 f2 g2 → va_P G vwCl (xW a rr ct v f g) H → va_P G vwCl (mW bm ct v2 f2 g2) H → va_S (fun q : Nat => s.heap.size ≤ q) s.heap H locs → lv_has ls 4 [(3, .int (nI k)), (2, .ref (bm 0)), (1, .ref (a 0)), (0, .ref b)] → W p l e room_1 s m #[Value.ref b] below meth c H locs 110 5410 (lw_Z below #[Value.ref b] s) (F0 m 2133 ls [])) : W p l e room_1 s m #[Value.ref b] below meth c H locs 110 5410 (lw_Z below #[Value.ref b] s) (F0 m 1954 ls []) := by
  obtain ⟨hx, hb, hr, hml, hown, hts, hX, hbl, hlocks, hgv⟩ := C0
  have hown : s.vm.findClass RL = some m.cls := hown
  have hts : ∀ z ∈ wsL_law, z.before #[Value.ref b] s = true := fun z h => hts z (wsL_law_in z h)
  have hbA : ¬ (fun q : Nat => s.heap.size ≤ q) b := Nat.not_le.mpr hbl
  have hDx : va_D (fun q : Nat => s.heap.size ≤ q) (xW a rr ct v f g) := hD0.ad (xW_ad ..)
  have hDm : va_D (fun q : Nat => s.heap.size ≤ q) (mW bm ct v2 f2 g2) := hE0.ad (mW_ad ..)
  have hap : ∀ q, aset (xW a rr ct v f g) q → ¬ aset (mW bm ct v2 f2 g2) q := fun q h1 h2 => hap0 q (aset_ad (xW_ad ..) h1) (aset_ad (mW_ad ..) h2)
  refine lv_aload_n hx hb dL_law_1954 rfl (lv_at hl 2 rfl) ?_
  refine lv_aload_n hx hb dL_law_1955 rfl (lv_at hl 3 rfl) ?_
  refine lv_iload_n hx hb dL_law_1956 rfl (lv_at hl 0 rfl) ?_
  refine lv_iconst (v := 1) hx hb dL_law_1957 (by decide) ?_
  refine lv_iadd hx hb dL_law_1958 ?_
  refine ix_i (y := nI (k + 1)) (nI_add k 1) ?_
  refine va_sld hx hb hX hbl hbA hS (vp_in_nI (n := k + 1) (by omega) (by omega)) dL_law_1959 ?_
  refine lv_aload_n hx hb dL_law_1960 rfl (lv_at hl 3 rfl) ?_
  refine lv_iload_n hx hb dL_law_1961 rfl (lv_at hl 0 rfl) ?_
  refine lv_iconst (v := 2) hx hb dL_law_1962 (by decide) ?_
  refine lv_iadd hx hb dL_law_1963 ?_
  refine ix_i (y := nI (k + 2)) (nI_add k 2) ?_
  refine va_sld hx hb hX hbl hbA hS (vp_in_nI (n := k + 2) (by omega) (by omega)) dL_law_1964 ?_
  refine lv_aload_n hx hb dL_law_1965 rfl (lv_at hl 3 rfl) ?_
  refine lv_iload_n hx hb dL_law_1966 rfl (lv_at hl 0 rfl) ?_
  refine lv_iconst (v := 3) hx hb dL_law_1967 (by decide) ?_
  refine lv_iadd hx hb dL_law_1968 ?_
  refine ix_i (y := nI (k + 3)) (nI_add k 3) ?_
  refine va_sld hx hb hX hbl hbA hS (vp_in_nI (n := k + 3) (by omega) (by omega)) dL_law_1969 ?_
  refine lw_callx (w1 := (fun u : SU => [((a 0), .inr (10, [.ref (a 1), .ref (a 3), .ref (a 11), .ref (a 25), .ref (a 68), .ref (a 69), .ref (a 77), .ref (a 82), .ref (a 84), .ref (a 88), .ref (a 91)])), ((a 69), .inr (6, [.ref (a 70), .ref (a 75), .ref (a 76), .int (u.1 0)])), ((a 70), .inl (ct 5, 4, .inr (.inr (.inr (.inr (fun i => if i < 4 then some (rr i) else none)))))), ((rr 0), .inl (ct 3, 60, .inr (.inl (u.2.2 0)))), ((rr 1), .inl (ct 3, 60, .inr (.inl (u.2.2 1)))), ((rr 2), .inl (ct 3, 60, .inr (.inl (u.2.2 2)))), ((rr 3), .inl (ct 3, 60, .inr (.inl (u.2.2 3)))), ((a 75), .inl (ct 0, 4, .inl (u.2.1 0))), ((a 76), .inl (ct 0, 4, .inl (u.2.1 1)))])) (va_runV (As := [.int (xs (nI (k + 1)).toNatClampNeg), .int (xs (nI (k + 2)).toNatClampNeg), .int (xs (nI (k + 3)).toNatClampNeg)]) (rest := []) ⟨hx, hb, hml, hown, hts⟩ (e_X10_row l G ct (a 0) (a 1) (a 3) (a 11) (a 25) (a 68) (a 69) (a 77) (a 82) (a 84) (a 88) (a 91) (a 70) (a 75) (a 76) (v 69 3) rr (g 71) (g 72) (g 73) (g 74) (f 75) (f 76) (xs (nI (k + 1)).toNatClampNeg) (xs (nI (k + 2)).toNatClampNeg) (xs (nI (k + 3)).toNatClampNeg) hIx.2.2.2.2.2.2.2.2.2.2.1) (cwV 3 hts gL_law_X10_row rfl rfl rfl (by decide +kernel) ⟨Nat.le_of_ble_eq_true rfl, Nat.le_of_ble_eq_true rfl⟩) (wr_preV 10 0 hK (hPx.sub [0, 69, 70, 71, 72, 73, 74, 75, 76] rfl) (hDx.sub [0, 69, 70, 71, 72, 73, 74, 75, 76] (by decide) rfl) rfl rfl) rfl rfl hl.1 rfl (lv_room (Nat.le_of_ble_eq_true rfl)) dL_law_1970 ⟨Nat.le_of_ble_eq_true rfl, Nat.le_of_ble_eq_true rfl⟩) hS hPx hDx hPm hap [0, 69, 70, 71, 72, 73, 74, 75, 76] rfl (fun r1 u1 H locs wr1 hPm hF hS => ?_)
  obtain ⟨r1p0, r1p1, r1p2, r1p3, r1p4, r1p5, r1p6, r1p7, r1p8, r1p9, r1p10, r1p11, r1p12, r1p13, r1p14, -⟩ := wr1
  have hPx : va_P G vwCl (xW a rr ct (uv v [(69, 3, u1.1 0)]) (uf f [(75, u1.2.1 0), (76, u1.2.1 1)]) (uf g [(71, u1.2.2 0), (72, u1.2.2 1), (73, u1.2.2 2), (74, u1.2.2 3)])) H := hF (xW a rr ct (uv v [(69, 3, u1.1 0)]) (uf f [(75, u1.2.1 0), (76, u1.2.1 1)]) (uf g [(71, u1.2.2 0), (72, u1.2.2 1), (73, u1.2.2 2), (74, u1.2.2 3)])) rfl (fun k9 hk9 => xW_same a rr ct v (uv v [(69, 3, u1.1 0)]) f (uf f [(75, u1.2.1 0), (76, u1.2.1 1)]) g (uf g [(71, u1.2.2 0), (72, u1.2.2 1), (73, u1.2.2 2), (74, u1.2.2 3)]) k9 (uv_st hk9 (by rfl)) (uf_st hk9 (by rfl)) (uf_st hk9 (by rfl)))
  have hIx : XI (uv v [(69, 3, u1.1 0)]) (uf f [(75, u1.2.1 0), (76, u1.2.1 1)]) (uf g [(71, u1.2.2 0), (72, u1.2.2 1), (73, u1.2.2 2), (74, u1.2.2 3)]) := ⟨hIx.1, hIx.2.1, hIx.2.2.1, hIx.2.2.2.1, hIx.2.2.2.2.1, hIx.2.2.2.2.2.1, hIx.2.2.2.2.2.2.1, hIx.2.2.2.2.2.2.2.1, hIx.2.2.2.2.2.2.2.2.1, hIx.2.2.2.2.2.2.2.2.2.1, r1p7, hIx.2.2.2.2.2.2.2.2.2.2.2.1, hIx.2.2.2.2.2.2.2.2.2.2.2.2.1, hIx.2.2.2.2.2.2.2.2.2.2.2.2.2.1, hIx.2.2.2.2.2.2.2.2.2.2.2.2.2.2.1, hIx.2.2.2.2.2.2.2.2.2.2.2.2.2.2.2.1, trivial⟩
  have hap : ∀ q, aset (xW a rr ct (uv v [(69, 3, u1.1 0)]) (uf f [(75, u1.2.1 0), (76, u1.2.1 1)]) (uf g [(71, u1.2.2 0), (72, u1.2.2 1), (73, u1.2.2 2), (74, u1.2.2 3)])) q → ¬ aset (mW bm ct v2 f2 g2) q := fun q h1 h2 => hap0 q (aset_ad (xW_ad ..) h1) (aset_ad (mW_ad ..) h2)
  refine lv_pop hx hb dL_law_1973 rfl ?_
  refine lv_aload_n hx hb dL_law_1974 rfl (lv_at hl 1 rfl) ?_
  refine lv_aload_n hx hb dL_law_1975 rfl (lv_at hl 3 rfl) ?_
  refine lv_iload_n hx hb dL_law_1976 rfl (lv_at hl 0 rfl) ?_
  refine lv_iconst (v := 1) hx hb dL_law_1977 (by decide) ?_
  refine lv_iadd hx hb dL_law_1978 ?_
  refine ix_i (y := nI (k + 1)) (nI_add k 1) ?_
  refine va_sld hx hb hX hbl hbA hS (vp_in_nI (n := k + 1) (by omega) (by omega)) dL_law_1979 ?_
  refine lv_aload_n hx hb dL_law_1980 rfl (lv_at hl 3 rfl) ?_
  refine lv_iload_n hx hb dL_law_1981 rfl (lv_at hl 0 rfl) ?_
  refine lv_iconst (v := 2) hx hb dL_law_1982 (by decide) ?_
  refine lv_iadd hx hb dL_law_1983 ?_
  refine ix_i (y := nI (k + 2)) (nI_add k 2) ?_
  refine va_sld hx hb hX hbl hbA hS (vp_in_nI (n := k + 2) (by omega) (by omega)) dL_law_1984 ?_
  refine lv_aload_n hx hb dL_law_1985 rfl (lv_at hl 3 rfl) ?_
  refine lv_iload_n hx hb dL_law_1986 rfl (lv_at hl 0 rfl) ?_
  refine lv_iconst (v := 3) hx hb dL_law_1987 (by decide) ?_
  refine lv_iadd hx hb dL_law_1988 ?_
  refine ix_i (y := nI (k + 3)) (nI_add k 3) ?_
  refine va_sld hx hb hX hbl hbA hS (vp_in_nI (n := k + 3) (by omega) (by omega)) dL_law_1989 ?_
  refine lw_callx (w1 := (fun u : SU => [((bm 0), .inr (11, [.int (u.1 0), .ref (bm 1), .ref (bm 2), .ref (bm 3), .ref (bm 4), .ref (bm 5), .int (v2 0 6), .int (v2 0 7), .int (v2 0 8), .int (v2 0 9), .int (v2 0 10), .long (g2 0 11), .int (v2 0 12), .int (v2 0 13), .int (v2 0 14), .int (v2 0 15), .ref (bm 6), .ref (bm 7), .ref (bm 8), .ref (bm 9), .ref (bm 10), .ref (bm 11), .ref (bm 12), .ref (bm 13), .int (v2 0 24), .int (v2 0 25), .int (v2 0 26), .int (v2 0 27), .ref (bm 14), .int (v2 0 29), .int (v2 0 30)])), ((bm 1), .inl (ct 0, 4, .inl (u.2.1 0))), ((bm 2), .inl (ct 0, 4, .inl (u.2.1 1))), ((bm 3), .inl (ct 3, 240, .inr (.inl (u.2.2 0))))])) (va_runV (As := [.int (xs (nI (k + 1)).toNatClampNeg), .int (xs (nI (k + 2)).toNatClampNeg), .int (xs (nI (k + 3)).toNatClampNeg)]) (rest := []) ⟨hx, hb, hml, hown, hts⟩ (e_X11_row l G ct (bm 0) (v2 0 0) (bm 1) (bm 2) (bm 3) (bm 4) (bm 5) (v2 0 6) (v2 0 7) (v2 0 8) (v2 0 9) (v2 0 10) (g2 0 11) (v2 0 12) (v2 0 13) (v2 0 14) (v2 0 15) (bm 6) (bm 7) (bm 8) (bm 9) (bm 10) (bm 11) (bm 12) (bm 13) (v2 0 24) (v2 0 25) (v2 0 26) (v2 0 27) (bm 14) (v2 0 29) (v2 0 30) (f2 1) (f2 2) (g2 3) (xs (nI (k + 1)).toNatClampNeg) (xs (nI (k + 2)).toNatClampNeg) (xs (nI (k + 3)).toNatClampNeg) hIm.1 hIm.2.1) (cwV 3 hts gL_law_X11_row rfl rfl rfl (by decide +kernel) ⟨Nat.le_of_ble_eq_true rfl, Nat.le_of_ble_eq_true rfl⟩) (wr_preV 11 0 hK (hPm.sub [0, 1, 2, 3] rfl) (hDm.sub [0, 1, 2, 3] (by decide) rfl) rfl rfl) rfl rfl hl.1 rfl (lv_room (Nat.le_of_ble_eq_true rfl)) dL_law_1990 ⟨Nat.le_of_ble_eq_true rfl, Nat.le_of_ble_eq_true rfl⟩) hS hPm hDm hPx (fun q h1 h2 => hap q h2 h1) [0, 1, 2, 3] rfl (fun r2 u2 H locs wr2 hPx hF hS => ?_)
  obtain ⟨r2p0, r2p1, r2p2, r2p3, r2p4, r2p5, r2p6, r2p7, r2p8, r2p9, r2p10, r2p11, r2p12, r2p13, -⟩ := wr2
  have hPm : va_P G vwCl (mW bm ct (uv v2 [(0, 0, u2.1 0)]) (uf f2 [(1, u2.2.1 0), (2, u2.2.1 1)]) (uf g2 [(3, u2.2.2 0)])) H := hF (mW bm ct (uv v2 [(0, 0, u2.1 0)]) (uf f2 [(1, u2.2.1 0), (2, u2.2.1 1)]) (uf g2 [(3, u2.2.2 0)])) rfl (fun k9 hk9 => mW_same bm ct v2 (uv v2 [(0, 0, u2.1 0)]) f2 (uf f2 [(1, u2.2.1 0), (2, u2.2.1 1)]) g2 (uf g2 [(3, u2.2.2 0)]) k9 (uv_st hk9 (by rfl)) (uf_st hk9 (by rfl)) (uf_st hk9 (by rfl)))
  have hIm : MI (uv v2 [(0, 0, u2.1 0)]) (uf f2 [(1, u2.2.1 0), (2, u2.2.1 1)]) (uf g2 [(3, u2.2.2 0)]) := ⟨r2p7, hIm.2.1, hIm.2.2.1, hIm.2.2.2.1, hIm.2.2.2.2.1, hIm.2.2.2.2.2.1, hIm.2.2.2.2.2.2.1, trivial⟩
  refine lv_pop hx hb dL_law_1993 rfl ?_
  refine lv_goto (tgt := 2133) hx hb dL_law_1994 (by decide) ?_
  exact kk (uv v [(69, 3, u1.1 0)]) (uf f [(75, u1.2.1 0), (76, u1.2.1 1)]) (uf g [(71, u1.2.2 0), (72, u1.2.2 1), (73, u1.2.2 2), (74, u1.2.2 3)]) (uv v2 [(0, 0, u2.1 0)]) (uf f2 [(1, u2.2.1 0), (2, u2.2.1 1)]) (uf g2 [(3, u2.2.2 0)]) H locs ls hIx hIm (show RK (u1.1 0) (u1.2.1 0) (u1.2.1 1) (u2.2.1 0) (u2.2.1 1) from RK_step hR r1p8 r2p9 r1p9 r1p10 r1p11 r1p12 r1p13 r1p14 r2p10 r2p11 r2p12 r2p13) hPx hPm hS hl
set_option maxHeartbeats 8000000 in
set_option maxRecDepth 100000 in
theorem law_c63 {p : Program} {e : Env} {s : State} {m : MethodId} {below : List Frame} {meth : Method} {c : Code} (l : Launch) {b L : Nat} {xs : Nat → Int32} (C0 : lw_At p s m meth c b L xs) (hL : L ≤ 3072) (k : Nat) (hk6 : k + 6 ≤ L) (G : va_G) (ct : Nat → ClassId) (a rr bm adK adV : Nat → Nat) (v : Nat → Nat → Int32) (f : Nat → Nat → Int32) (g : Nat → Nat → Int64) (v2 : Nat → Nat → Int32) (f2 : Nat → Nat → Int32) (g2 : Nat → Nat → Int64) (H : Heap) (locs : List Loc) (hK : KK G ct s) (hZ : SS adK adV (fun q : Nat => s.heap.size ≤ q) s s.heap) (hD0 : va_D (fun q : Nat => s.heap.size ≤ q) (xW a rr ct (fun _ _ => 0) (fun _ _ => 0) (fun _ _ => 0))) (hE0 : va_D (fun q : Nat => s.heap.size ≤ q) (mW bm ct (fun _ _ => 0) (fun _ _ => 0) (fun _ _ => 0))) (hap0 : wset a rr bm ct) (hIx : XI v f g) (hIm : MI v2 f2 g2) (hR : REL v f g v2 f2 g2) (hPx : va_P G vwCl (xW a rr ct v f g) H) (hPm : va_P G vwCl (mW bm ct v2 f2 g2) H) (hS : va_S (fun q : Nat => s.heap.size ≤ q) s.heap H locs) (ls : Array Slot) (hl : lv_has ls 4 [(3, .int (nI k)), (2, .ref (bm 0)), (1, .ref (a 0)), (0, .ref b)]) (kk : ∀ (v : Nat → Nat → Int32) (f : Nat → Nat → Int32) (g : Nat → Nat → Int64) (v2 : Nat → Nat → Int32) (f2 : Nat → Nat → Int32) (g2 : Nat → Nat → Int64) (H : Heap) (locs : List Loc) (ls : Array Slot), XI v f g → MI v2 f2 g2 → REL v f g v2 f2 g2 → va_P G vwCl (xW a rr ct v f g) H → va_P G vwCl (mW bm ct v2 f2 g2) H → va_S (fun q : Nat => s.heap.size ≤ q) s.heap H locs → lv_has ls 4 [(3, .int (nI k)), (2, .ref (bm 0)), (1, .ref (a 0)), (0, .ref b)] → W p l e room_1 s m #[Value.ref b] below meth c H locs 110 5410 (lw_Z below #[Value.ref b] s) (F0 m 2133 ls [])) : W p l e room_1 s m #[Value.ref b] below meth c H locs 110 5410 (lw_Z below #[Value.ref b] s) (F0 m 1997 ls []) := by
  obtain ⟨hx, hb, hr, hml, hown, hts, hX, hbl, hlocks, hgv⟩ := C0
  have hown : s.vm.findClass RL = some m.cls := hown
  have hts : ∀ z ∈ wsL_law, z.before #[Value.ref b] s = true := fun z h => hts z (wsL_law_in z h)
  have hbA : ¬ (fun q : Nat => s.heap.size ≤ q) b := Nat.not_le.mpr hbl
  have hDx : va_D (fun q : Nat => s.heap.size ≤ q) (xW a rr ct v f g) := hD0.ad (xW_ad ..)
  have hDm : va_D (fun q : Nat => s.heap.size ≤ q) (mW bm ct v2 f2 g2) := hE0.ad (mW_ad ..)
  have hap : ∀ q, aset (xW a rr ct v f g) q → ¬ aset (mW bm ct v2 f2 g2) q := fun q h1 h2 => hap0 q (aset_ad (xW_ad ..) h1) (aset_ad (mW_ad ..) h2)
  refine lv_aload_n hx hb dL_law_1997 rfl (lv_at hl 2 rfl) ?_
  refine lv_aload_n hx hb dL_law_1998 rfl (lv_at hl 3 rfl) ?_
  refine lv_iload_n hx hb dL_law_1999 rfl (lv_at hl 0 rfl) ?_
  refine lv_iconst (v := 1) hx hb dL_law_2000 (by decide) ?_
  refine lv_iadd hx hb dL_law_2001 ?_
  refine ix_i (y := nI (k + 1)) (nI_add k 1) ?_
  refine va_sld hx hb hX hbl hbA hS (vp_in_nI (n := k + 1) (by omega) (by omega)) dL_law_2002 ?_
  refine lv_aload_n hx hb dL_law_2003 rfl (lv_at hl 3 rfl) ?_
  refine lv_iload_n hx hb dL_law_2004 rfl (lv_at hl 0 rfl) ?_
  refine lv_iconst (v := 2) hx hb dL_law_2005 (by decide) ?_
  refine lv_iadd hx hb dL_law_2006 ?_
  refine ix_i (y := nI (k + 2)) (nI_add k 2) ?_
  refine va_sld hx hb hX hbl hbA hS (vp_in_nI (n := k + 2) (by omega) (by omega)) dL_law_2007 ?_
  refine lv_aload_n hx hb dL_law_2008 rfl (lv_at hl 3 rfl) ?_
  refine lv_iload_n hx hb dL_law_2009 rfl (lv_at hl 0 rfl) ?_
  refine lv_iconst (v := 3) hx hb dL_law_2010 (by decide) ?_
  refine lv_iadd hx hb dL_law_2011 ?_
  refine ix_i (y := nI (k + 3)) (nI_add k 3) ?_
  refine va_sld hx hb hX hbl hbA hS (vp_in_nI (n := k + 3) (by omega) (by omega)) dL_law_2012 ?_
  refine lv_i2l hx hb dL_law_2013 rfl ?_
  refine lv_bipush (v := 32) hx hb dL_law_2014 (by decide) ?_
  refine lv_lshl hx hb dL_law_2016 rfl ?_
  refine lv_aload_n hx hb dL_law_2017 rfl (lv_at hl 3 rfl) ?_
  refine lv_iload_n hx hb dL_law_2018 rfl (lv_at hl 0 rfl) ?_
  refine lv_iconst (v := 4) hx hb dL_law_2019 (by decide) ?_
  refine lv_iadd hx hb dL_law_2020 ?_
  refine ix_i (y := nI (k + 4)) (nI_add k 4) ?_
  refine va_sld hx hb hX hbl hbA hS (vp_in_nI (n := k + 4) (by omega) (by omega)) dL_law_2021 ?_
  refine lv_i2l hx hb dL_law_2022 rfl ?_
  refine lv_ldc2 (own := RL) (v := 4294967295) hx hb hown (hts (.constantLong RL 271 (4294967295)) (by decide +kernel)) dL_law_2023 ?_
  refine lv_land hx hb dL_law_2026 ?_
  refine lv_lor hx hb dL_law_2027 ?_
  refine lw_callx (w1 := (fun u : SU => [((a 0), .inr (10, [.ref (a 1), .ref (a 3), .ref (a 11), .ref (a 25), .ref (a 68), .ref (a 69), .ref (a 77), .ref (a 82), .ref (a 84), .ref (a 88), .ref (a 91)])), ((a 69), .inr (6, [.ref (a 70), .ref (a 75), .ref (a 76), .int (v 69 3)])), ((a 70), .inl (ct 5, 4, .inr (.inr (.inr (.inr (fun i => if i < 4 then some (rr i) else none)))))), ((rr 0), .inl (ct 3, 60, .inr (.inl (u.2.2 0)))), ((rr 1), .inl (ct 3, 60, .inr (.inl (u.2.2 1)))), ((rr 2), .inl (ct 3, 60, .inr (.inl (u.2.2 2)))), ((rr 3), .inl (ct 3, 60, .inr (.inl (u.2.2 3)))), ((a 75), .inl (ct 0, 4, .inl (f 75))), ((a 76), .inl (ct 0, 4, .inl (f 76)))])) (va_runV (As := [.int (xs (nI (k + 1)).toNatClampNeg), .int (xs (nI (k + 2)).toNatClampNeg), .long ((((xs (nI (k + 3)).toNatClampNeg)).toInt64 <<< ((32 : Int32).toInt64 &&& 63)) ||| (((xs (nI (k + 4)).toNatClampNeg)).toInt64 &&& 4294967295))]) (rest := []) ⟨hx, hb, hml, hown, hts⟩ (a_X10_write l G ct (a 0) (a 1) (a 3) (a 11) (a 25) (a 68) (a 69) (a 77) (a 82) (a 84) (a 88) (a 91) (a 70) (a 75) (a 76) (v 69 3) rr (g 71) (g 72) (g 73) (g 74) (f 75) (f 76) (xs (nI (k + 1)).toNatClampNeg) (xs (nI (k + 2)).toNatClampNeg) ((((xs (nI (k + 3)).toNatClampNeg)).toInt64 <<< ((32 : Int32).toInt64 &&& 63)) ||| (((xs (nI (k + 4)).toNatClampNeg)).toInt64 &&& 4294967295)) hIx.2.2.2.2.2.2.2.2.2.2.1) (cwV 3 hts gL_law_X10_write rfl rfl rfl (by decide +kernel) ⟨Nat.le_of_ble_eq_true rfl, Nat.le_of_ble_eq_true rfl⟩) (wr_preV 10 0 hK (hPx.sub [0, 69, 70, 71, 72, 73, 74, 75, 76] rfl) (hDx.sub [0, 69, 70, 71, 72, 73, 74, 75, 76] (by decide) rfl) rfl rfl) rfl rfl hl.1 rfl (lv_room (Nat.le_of_ble_eq_true rfl)) dL_law_2028 ⟨Nat.le_of_ble_eq_true rfl, Nat.le_of_ble_eq_true rfl⟩) hS hPx hDx hPm hap [0, 69, 70, 71, 72, 73, 74, 75, 76] rfl (fun r1 u1 H locs wr1 hPm hF hS => ?_)
  obtain ⟨r1p0, r1p1, r1p2, r1p3, -⟩ := wr1
  have hPx : va_P G vwCl (xW a rr ct v f (uf g [(71, u1.2.2 0), (72, u1.2.2 1), (73, u1.2.2 2), (74, u1.2.2 3)])) H := hF (xW a rr ct v f (uf g [(71, u1.2.2 0), (72, u1.2.2 1), (73, u1.2.2 2), (74, u1.2.2 3)])) rfl (fun k9 hk9 => xW_same a rr ct v v f f g (uf g [(71, u1.2.2 0), (72, u1.2.2 1), (73, u1.2.2 2), (74, u1.2.2 3)]) k9 rfl rfl (uf_st hk9 (by rfl)))
  have hIx : XI v f (uf g [(71, u1.2.2 0), (72, u1.2.2 1), (73, u1.2.2 2), (74, u1.2.2 3)]) := ⟨hIx.1, hIx.2.1, hIx.2.2.1, hIx.2.2.2.1, hIx.2.2.2.2.1, hIx.2.2.2.2.2.1, hIx.2.2.2.2.2.2.1, hIx.2.2.2.2.2.2.2.1, hIx.2.2.2.2.2.2.2.2.1, hIx.2.2.2.2.2.2.2.2.2.1, hIx.2.2.2.2.2.2.2.2.2.2.1, hIx.2.2.2.2.2.2.2.2.2.2.2.1, hIx.2.2.2.2.2.2.2.2.2.2.2.2.1, hIx.2.2.2.2.2.2.2.2.2.2.2.2.2.1, hIx.2.2.2.2.2.2.2.2.2.2.2.2.2.2.1, hIx.2.2.2.2.2.2.2.2.2.2.2.2.2.2.2.1, trivial⟩
  have hap : ∀ q, aset (xW a rr ct v f (uf g [(71, u1.2.2 0), (72, u1.2.2 1), (73, u1.2.2 2), (74, u1.2.2 3)])) q → ¬ aset (mW bm ct v2 f2 g2) q := fun q h1 h2 => hap0 q (aset_ad (xW_ad ..) h1) (aset_ad (mW_ad ..) h2)
  refine lv_pop hx hb dL_law_2031 rfl ?_
  refine lv_aload_n hx hb dL_law_2032 rfl (lv_at hl 1 rfl) ?_
  refine lv_aload_n hx hb dL_law_2033 rfl (lv_at hl 3 rfl) ?_
  refine lv_iload_n hx hb dL_law_2034 rfl (lv_at hl 0 rfl) ?_
  refine lv_iconst (v := 1) hx hb dL_law_2035 (by decide) ?_
  refine lv_iadd hx hb dL_law_2036 ?_
  refine ix_i (y := nI (k + 1)) (nI_add k 1) ?_
  refine va_sld hx hb hX hbl hbA hS (vp_in_nI (n := k + 1) (by omega) (by omega)) dL_law_2037 ?_
  refine lv_aload_n hx hb dL_law_2038 rfl (lv_at hl 3 rfl) ?_
  refine lv_iload_n hx hb dL_law_2039 rfl (lv_at hl 0 rfl) ?_
  refine lv_iconst (v := 2) hx hb dL_law_2040 (by decide) ?_
  refine lv_iadd hx hb dL_law_2041 ?_
  refine ix_i (y := nI (k + 2)) (nI_add k 2) ?_
  refine va_sld hx hb hX hbl hbA hS (vp_in_nI (n := k + 2) (by omega) (by omega)) dL_law_2042 ?_
  refine lv_aload_n hx hb dL_law_2043 rfl (lv_at hl 3 rfl) ?_
  refine lv_iload_n hx hb dL_law_2044 rfl (lv_at hl 0 rfl) ?_
  refine lv_iconst (v := 3) hx hb dL_law_2045 (by decide) ?_
  refine lv_iadd hx hb dL_law_2046 ?_
  refine ix_i (y := nI (k + 3)) (nI_add k 3) ?_
  refine va_sld hx hb hX hbl hbA hS (vp_in_nI (n := k + 3) (by omega) (by omega)) dL_law_2047 ?_
  refine lv_i2l hx hb dL_law_2048 rfl ?_
  refine lv_bipush (v := 32) hx hb dL_law_2049 (by decide) ?_
  refine lv_lshl hx hb dL_law_2051 rfl ?_
  refine lv_aload_n hx hb dL_law_2052 rfl (lv_at hl 3 rfl) ?_
  refine lv_iload_n hx hb dL_law_2053 rfl (lv_at hl 0 rfl) ?_
  refine lv_iconst (v := 4) hx hb dL_law_2054 (by decide) ?_
  refine lv_iadd hx hb dL_law_2055 ?_
  refine ix_i (y := nI (k + 4)) (nI_add k 4) ?_
  refine va_sld hx hb hX hbl hbA hS (vp_in_nI (n := k + 4) (by omega) (by omega)) dL_law_2056 ?_
  refine lv_i2l hx hb dL_law_2057 rfl ?_
  refine lv_ldc2 (own := RL) (v := 4294967295) hx hb hown (hts (.constantLong RL 271 (4294967295)) (by decide +kernel)) dL_law_2058 ?_
  refine lv_land hx hb dL_law_2061 ?_
  refine lv_lor hx hb dL_law_2062 ?_
  refine lw_callx (w1 := (fun u : SU => [((bm 0), .inr (11, [.int (u.1 0), .ref (bm 1), .ref (bm 2), .ref (bm 3), .ref (bm 4), .ref (bm 5), .int (v2 0 6), .int (v2 0 7), .int (v2 0 8), .int (v2 0 9), .int (v2 0 10), .long (g2 0 11), .int (v2 0 12), .int (v2 0 13), .int (v2 0 14), .int (v2 0 15), .ref (bm 6), .ref (bm 7), .ref (bm 8), .ref (bm 9), .ref (bm 10), .ref (bm 11), .ref (bm 12), .ref (bm 13), .int (v2 0 24), .int (v2 0 25), .int (v2 0 26), .int (v2 0 27), .ref (bm 14), .int (v2 0 29), .int (v2 0 30)])), ((bm 1), .inl (ct 0, 4, .inl (f2 1))), ((bm 2), .inl (ct 0, 4, .inl (f2 2))), ((bm 3), .inl (ct 3, 240, .inr (.inl (u.2.2 0))))])) (va_runV (As := [.int (xs (nI (k + 1)).toNatClampNeg), .int (xs (nI (k + 2)).toNatClampNeg), .long ((((xs (nI (k + 3)).toNatClampNeg)).toInt64 <<< ((32 : Int32).toInt64 &&& 63)) ||| (((xs (nI (k + 4)).toNatClampNeg)).toInt64 &&& 4294967295))]) (rest := []) ⟨hx, hb, hml, hown, hts⟩ (a_X11_write l G ct (bm 0) (v2 0 0) (bm 1) (bm 2) (bm 3) (bm 4) (bm 5) (v2 0 6) (v2 0 7) (v2 0 8) (v2 0 9) (v2 0 10) (g2 0 11) (v2 0 12) (v2 0 13) (v2 0 14) (v2 0 15) (bm 6) (bm 7) (bm 8) (bm 9) (bm 10) (bm 11) (bm 12) (bm 13) (v2 0 24) (v2 0 25) (v2 0 26) (v2 0 27) (bm 14) (v2 0 29) (v2 0 30) (f2 1) (f2 2) (g2 3) (xs (nI (k + 1)).toNatClampNeg) (xs (nI (k + 2)).toNatClampNeg) ((((xs (nI (k + 3)).toNatClampNeg)).toInt64 <<< ((32 : Int32).toInt64 &&& 63)) ||| (((xs (nI (k + 4)).toNatClampNeg)).toInt64 &&& 4294967295)) hIm.1 hIm.2.1) (cwV 3 hts gL_law_X11_write rfl rfl rfl (by decide +kernel) ⟨Nat.le_of_ble_eq_true rfl, Nat.le_of_ble_eq_true rfl⟩) (wr_preV 11 0 hK (hPm.sub [0, 1, 2, 3] rfl) (hDm.sub [0, 1, 2, 3] (by decide) rfl) rfl rfl) rfl rfl hl.1 rfl (lv_room (Nat.le_of_ble_eq_true rfl)) dL_law_2063 ⟨Nat.le_of_ble_eq_true rfl, Nat.le_of_ble_eq_true rfl⟩) hS hPm hDm hPx (fun q h1 h2 => hap q h2 h1) [0, 1, 2, 3] rfl (fun r2 u2 H locs wr2 hPx hF hS => ?_)
  obtain ⟨r2p0, r2p1, r2p2, r2p3, r2p4, -⟩ := wr2
  have hPm : va_P G vwCl (mW bm ct (uv v2 [(0, 0, u2.1 0)]) f2 (uf g2 [(3, u2.2.2 0)])) H := hF (mW bm ct (uv v2 [(0, 0, u2.1 0)]) f2 (uf g2 [(3, u2.2.2 0)])) rfl (fun k9 hk9 => mW_same bm ct v2 (uv v2 [(0, 0, u2.1 0)]) f2 f2 g2 (uf g2 [(3, u2.2.2 0)]) k9 (uv_st hk9 (by rfl)) rfl (uf_st hk9 (by rfl)))
  have hIm : MI (uv v2 [(0, 0, u2.1 0)]) f2 (uf g2 [(3, u2.2.2 0)]) := ⟨hIm.1, hIm.2.1, hIm.2.2.1, hIm.2.2.2.1, hIm.2.2.2.2.1, hIm.2.2.2.2.2.1, hIm.2.2.2.2.2.2.1, trivial⟩
  refine lv_pop hx hb dL_law_2066 rfl ?_
  refine lv_goto (tgt := 2133) hx hb dL_law_2067 (by decide) ?_
  exact kk v f (uf g [(71, u1.2.2 0), (72, u1.2.2 1), (73, u1.2.2 2), (74, u1.2.2 3)]) (uv v2 [(0, 0, u2.1 0)]) f2 (uf g2 [(3, u2.2.2 0)]) H locs ls hIx hIm hR hPx hPm hS hl
