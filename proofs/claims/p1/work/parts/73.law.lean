theorem dL_law_954 : decode cL_law 954 = .ok (.aload_n 1, 1) := by decide +kernel
set_option maxRecDepth 20000 in
theorem ggL_law_X10_anew : GoodIn wsL_law wsX10_anew := goodIn_r _ [898, 24, 889, 623, 624, 625, 2, 626, 35, 190, 890, 357, 358, 23, 359, 88, 89, 360, 361, 362, 363, 34, 364, 95, 98, 365, 96, 366, 367, 368, 369, 370, 352, 353, 39, 354, 323, 81, 355, 348, 349, 350, 371, 372, 373, 374, 375, 376, 377, 378, 379, 380, 381, 320, 321, 322, 382, 383, 384, 64, 385, 72, 77, 205, 386, 387, 316, 317, 318, 319, 388, 389, 390, 391, 392, 393, 330, 331, 332, 394, 395, 396, 397, 97, 398, 399, 400, 401, 402, 403, 404, 1672, 1673, 1674, 1675, 1676, 1677, 1678, 1679, 1680, 1681, 1682, 1724, 1725, 1726, 1727, 1752, 1753, 1754, 1755, 1756, 1757, 1758, 1732, 1733, 1734, 1735, 1736, 1737, 1738, 1739, 1740, 1741] (by decide +kernel) (by decide +kernel)
set_option maxRecDepth 20000 in
theorem gL_law_X10_anew : GoodIn wsL_law (wsV RL 107 RX10 yX10_anew wsX10_anew) := goodIn_app (goodIn_of _ (by decide +kernel)) ggL_law_X10_anew
theorem dL_law_955 : decode cL_law 955 = .ok (.invokevirtual 107, 3) := by decide +kernel
theorem dL_law_958 : decode cL_law 958 = .ok (.aload_n 2, 1) := by decide +kernel
set_option maxRecDepth 20000 in
theorem ggL_law_X11_anew : GoodIn wsL_law wsX11_anew := goodIn_r _ [902, 164, 137, 636, 637, 638, 5, 639, 136, 1683, 1684, 1685, 1686, 1687, 1688, 1689, 1690, 1691, 1692, 1693, 1694, 1695, 1696, 1697, 1698, 1699, 1700, 1701, 1702, 1703, 1704, 1705, 1706, 1707, 1708, 1709, 1710, 1711, 1712, 1713] (by decide +kernel) (by decide +kernel)
set_option maxRecDepth 20000 in
theorem gL_law_X11_anew : GoodIn wsL_law (wsV RL 110 RX11 yX11_anew wsX11_anew) := goodIn_app (goodIn_of _ (by decide +kernel)) ggL_law_X11_anew
theorem dL_law_959 : decode cL_law 959 = .ok (.invokevirtual 110, 3) := by decide +kernel
theorem dL_law_962 : decode cL_law 962 = .ok (.if_icmp .eq 1171, 3) := by decide +kernel
theorem dL_law_967 : decode cL_law 967 = .ok (.aload_n 1, 1) := by decide +kernel
theorem dL_law_968 : decode cL_law 968 = .ok (.aload_n 0, 1) := by decide +kernel
theorem dL_law_969 : decode cL_law 969 = .ok (.iload_n 3, 1) := by decide +kernel
theorem dL_law_970 : decode cL_law 970 = .ok (.iconst 1, 1) := by decide +kernel
theorem dL_law_971 : decode cL_law 971 = .ok (.iadd, 1) := by decide +kernel
theorem dL_law_972 : decode cL_law 972 = .ok (.iaload, 1) := by decide +kernel
set_option maxRecDepth 20000 in
theorem ggL_law_X10_now : GoodIn wsL_law wsX10_now := goodIn_r _ [906, 24, 528, 880, 529, 871, 907, 623, 624, 625, 2, 626, 35, 190, 1672, 1673, 1674, 1675, 1676, 1677, 1678, 1679, 1680, 1681, 1682, 1724, 1725, 1726, 1727, 1732, 1733, 1734, 1735, 1736, 1737, 1738, 1739, 1752, 1753, 1754, 1755, 1756, 1757, 1758] (by decide +kernel) (by decide +kernel)
set_option maxRecDepth 20000 in
theorem gL_law_X10_now : GoodIn wsL_law (wsV RL 111 RX10 yX10_now wsX10_now) := goodIn_app (goodIn_of _ (by decide +kernel)) ggL_law_X10_now
theorem dL_law_973 : decode cL_law 973 = .ok (.invokevirtual 111, 3) := by decide +kernel
theorem dL_law_976 : decode cL_law 976 = .ok (.aload_n 2, 1) := by decide +kernel
theorem dL_law_977 : decode cL_law 977 = .ok (.aload_n 0, 1) := by decide +kernel
theorem dL_law_978 : decode cL_law 978 = .ok (.iload_n 3, 1) := by decide +kernel
theorem dL_law_979 : decode cL_law 979 = .ok (.iconst 1, 1) := by decide +kernel
theorem dL_law_980 : decode cL_law 980 = .ok (.iadd, 1) := by decide +kernel
theorem dL_law_981 : decode cL_law 981 = .ok (.iaload, 1) := by decide +kernel
set_option maxRecDepth 20000 in
theorem ggL_law_X11_now : GoodIn wsL_law wsX11_now := goodIn_r _ [911, 164, 912, 586, 572, 585, 587, 636, 637, 638, 5, 639, 136, 182, 183, 184, 577, 578, 579, 580, 137, 139, 581, 582, 583, 584, 141, 142, 143, 588, 589, 590, 591, 138, 592, 593, 594, 595, 596, 597, 598, 599, 600, 601, 602, 603, 604, 605, 606, 607, 608, 609, 610, 1683, 1684, 1685, 1686, 1687, 1688, 1689, 1690, 1691, 1692, 1693, 1694, 1695, 1696, 1697, 1698, 1699, 1700, 1701, 1702, 1703, 1704, 1705, 1706, 1707, 1708, 1709, 1710, 1711, 1712, 1713] (by decide +kernel) (by decide +kernel)
set_option maxRecDepth 20000 in
theorem gL_law_X11_now : GoodIn wsL_law (wsV RL 114 RX11 yX11_now wsX11_now) := goodIn_app (goodIn_of _ (by decide +kernel)) ggL_law_X11_now
theorem dL_law_982 : decode cL_law 982 = .ok (.invokevirtual 114, 3) := by decide +kernel
theorem dL_law_985 : decode cL_law 985 = .ok (.if_icmp .eq 1148, 3) := by decide +kernel
theorem dL_law_990 : decode cL_law 990 = .ok (.aload_n 1, 1) := by decide +kernel
set_option maxRecDepth 20000 in
theorem ggL_law_X10_own : GoodIn wsL_law wsX10_own := goodIn_r _ [916, 917, 623, 624, 625, 2, 626, 24, 35, 190, 544, 545, 546, 547, 528, 534, 918, 919, 920, 39, 921, 323, 631, 550, 551, 552, 553, 330, 331, 332, 81, 319, 320, 321, 322, 922, 923, 924, 925, 926, 927, 928, 722, 723, 724, 725, 726, 727, 728, 729, 730, 704, 705, 706, 707, 708, 216, 709, 652, 653, 654, 655, 1740, 1741, 1672, 1673, 1674, 1675, 1676, 1677, 1678, 1679, 1680, 1681, 1682, 1724, 1725, 1726, 1727, 1752, 1753, 1754, 1755, 1756, 1757, 1758, 1732, 1733, 1734, 1735, 1736, 1737, 1738, 1739] (by decide +kernel) (by decide +kernel)
set_option maxRecDepth 20000 in
theorem gL_law_X10_own : GoodIn wsL_law (wsV RL 115 RX10 yX10_own wsX10_own) := goodIn_app (goodIn_of _ (by decide +kernel)) ggL_law_X10_own
theorem dL_law_991 : decode cL_law 991 = .ok (.invokevirtual 115, 3) := by decide +kernel
theorem dL_law_994 : decode cL_law 994 = .ok (.aload_n 2, 1) := by decide +kernel
set_option maxRecDepth 20000 in
theorem ggL_law_X11_own : GoodIn wsL_law wsX11_own := goodIn_r _ [932, 164, 137, 636, 637, 638, 5, 639, 136, 577, 578, 579, 580, 139, 581, 582, 583, 584, 141, 142, 143, 572, 585, 586, 587, 588, 589, 590, 591, 138, 592, 593, 594, 595, 596, 597, 598, 599, 600, 601, 602, 603, 604, 605, 606, 607, 608, 609, 610, 933, 934, 935, 936, 611, 612, 613, 614, 937, 938, 939, 735, 736, 737, 738, 714, 715, 716, 717, 1683, 1684, 1685, 1686, 1687, 1688, 1689, 1690, 1691, 1692, 1693, 1694, 1695, 1696, 1697, 1698, 1699, 1700, 1701, 1702, 1703, 1704, 1705, 1706, 1707, 1708, 1709, 1710, 1711, 1712, 1713] (by decide +kernel) (by decide +kernel)
set_option maxRecDepth 20000 in
theorem gL_law_X11_own : GoodIn wsL_law (wsV RL 118 RX11 yX11_own wsX11_own) := goodIn_app (goodIn_of _ (by decide +kernel)) ggL_law_X11_own
theorem dL_law_995 : decode cL_law 995 = .ok (.invokevirtual 118, 3) := by decide +kernel
theorem dL_law_998 : decode cL_law 998 = .ok (.if_icmp .eq 1135, 3) := by decide +kernel
theorem dL_law_1003 : decode cL_law 1003 = .ok (.aload_n 1, 1) := by decide +kernel
theorem dL_law_1004 : decode cL_law 1004 = .ok (.aload_n 0, 1) := by decide +kernel
theorem dL_law_1005 : decode cL_law 1005 = .ok (.iload_n 3, 1) := by decide +kernel
theorem dL_law_1006 : decode cL_law 1006 = .ok (.iconst 1, 1) := by decide +kernel
theorem dL_law_1007 : decode cL_law 1007 = .ok (.iadd, 1) := by decide +kernel
theorem dL_law_1008 : decode cL_law 1008 = .ok (.iaload, 1) := by decide +kernel
set_option maxRecDepth 20000 in
theorem ggL_law_X10_first : GoodIn wsL_law wsX10_first := goodIn_r _ [943, 917, 623, 624, 625, 2, 626, 24, 35, 190, 544, 545, 546, 547, 528, 534, 918, 919, 920, 39, 921, 323, 631, 550, 551, 552, 553, 330, 331, 332, 81, 319, 320, 321, 322, 922, 923, 924, 925, 926, 927, 928, 703, 704, 705, 706, 707, 708, 216, 709, 652, 653, 654, 655, 944, 945, 946, 947, 1740, 1741, 1672, 1673, 1674, 1675, 1676, 1677, 1678, 1679, 1680, 1681, 1682, 1724, 1725, 1726, 1727, 1752, 1753, 1754, 1755, 1756, 1757, 1758, 1732, 1733, 1734, 1735, 1736, 1737, 1738, 1739] (by decide +kernel) (by decide +kernel)
set_option maxRecDepth 20000 in
theorem gL_law_X10_first : GoodIn wsL_law (wsV RL 119 RX10 yX10_first wsX10_first) := goodIn_app (goodIn_of _ (by decide +kernel)) ggL_law_X10_first
theorem dL_law_1009 : decode cL_law 1009 = .ok (.invokevirtual 119, 3) := by decide +kernel
theorem dL_law_1012 : decode cL_law 1012 = .ok (.aload_n 2, 1) := by decide +kernel
theorem dL_law_1013 : decode cL_law 1013 = .ok (.aload_n 0, 1) := by decide +kernel
theorem dL_law_1014 : decode cL_law 1014 = .ok (.iload_n 3, 1) := by decide +kernel
theorem dL_law_1015 : decode cL_law 1015 = .ok (.iconst 1, 1) := by decide +kernel
theorem dL_law_1016 : decode cL_law 1016 = .ok (.iadd, 1) := by decide +kernel
theorem dL_law_1017 : decode cL_law 1017 = .ok (.iaload, 1) := by decide +kernel
set_option maxRecDepth 20000 in
theorem ggL_law_X11_first : GoodIn wsL_law wsX11_first := goodIn_r _ [951, 164, 137, 636, 637, 638, 5, 639, 136, 182, 183, 184, 577, 578, 579, 580, 139, 581, 582, 583, 584, 141, 142, 143, 572, 585, 586, 587, 588, 589, 590, 591, 138, 592, 593, 594, 595, 596, 597, 598, 599, 600, 601, 602, 603, 604, 605, 606, 607, 608, 609, 610, 933, 934, 935, 936, 611, 612, 613, 614, 937, 938, 939, 683, 684, 685, 686, 1683, 1684, 1685, 1686, 1687, 1688, 1689, 1690, 1691, 1692, 1693, 1694, 1695, 1696, 1697, 1698, 1699, 1700, 1701, 1702, 1703, 1704, 1705, 1706, 1707, 1708, 1709, 1710, 1711, 1712, 1713] (by decide +kernel) (by decide +kernel)
set_option maxRecDepth 20000 in
theorem gL_law_X11_first : GoodIn wsL_law (wsV RL 122 RX11 yX11_first wsX11_first) := goodIn_app (goodIn_of _ (by decide +kernel)) ggL_law_X11_first
theorem dL_law_1018 : decode cL_law 1018 = .ok (.invokevirtual 122, 3) := by decide +kernel
theorem dL_law_1021 : decode cL_law 1021 = .ok (.if_icmp .eq 1112, 3) := by decide +kernel
theorem dL_law_1026 : decode cL_law 1026 = .ok (.aload_n 1, 1) := by decide +kernel
set_option maxRecDepth 20000 in
theorem ggL_law_X10_work : GoodIn wsL_law wsX10_work := goodIn_r _ [955, 917, 24, 35, 623, 624, 625, 2, 626, 190, 544, 545, 546, 547, 528, 534, 956, 957, 958, 23, 959, 88, 376, 960, 961, 550, 551, 39, 552, 323, 553, 330, 331, 332, 81, 319, 320, 321, 322, 554, 555, 556, 64, 557, 72, 76, 386, 962, 963, 964, 965, 966, 215, 216, 217, 967, 923, 924, 925, 926, 927, 928, 968, 969, 970, 971, 754, 86, 403, 404, 756, 541, 542, 543, 75, 1740, 1741, 1672, 1673, 1674, 1675, 1676, 1677, 1678, 1679, 1680, 1681, 1682, 1724, 1725, 1726, 1727, 1752, 1753, 1754, 1755, 1756, 1757, 1758, 1732, 1733, 1734, 1735, 1736, 1737, 1738, 1739] (by decide +kernel) (by decide +kernel)
set_option maxRecDepth 20000 in
theorem gL_law_X10_work : GoodIn wsL_law (wsV RL 123 RX10 yX10_work wsX10_work) := goodIn_app (goodIn_of _ (by decide +kernel)) ggL_law_X10_work
theorem dL_law_1027 : decode cL_law 1027 = .ok (.invokevirtual 123, 3) := by decide +kernel
theorem dL_law_1030 : decode cL_law 1030 = .ok (.aload_n 2, 1) := by decide +kernel
set_option maxRecDepth 20000 in
theorem ggL_law_X11_work : GoodIn wsL_law wsX11_work := goodIn_r _ [975, 164, 137, 144, 636, 637, 638, 5, 639, 136, 577, 578, 579, 580, 139, 581, 582, 583, 584, 141, 142, 143, 572, 585, 586, 587, 588, 589, 590, 591, 138, 592, 593, 594, 595, 596, 597, 598, 599, 600, 601, 602, 603, 604, 605, 606, 607, 608, 609, 610, 976, 977, 978, 979, 980, 981, 982, 983, 1683, 1684, 1685, 1686, 1687, 1688, 1689, 1690, 1691, 1692, 1693, 1694, 1695, 1696, 1697, 1698, 1699, 1700, 1701, 1702, 1703, 1704, 1705, 1706, 1707, 1708, 1709, 1710, 1711, 1712, 1713] (by decide +kernel) (by decide +kernel)
set_option maxRecDepth 20000 in
theorem gL_law_X11_work : GoodIn wsL_law (wsV RL 126 RX11 yX11_work wsX11_work) := goodIn_app (goodIn_of _ (by decide +kernel)) ggL_law_X11_work
theorem dL_law_1031 : decode cL_law 1031 = .ok (.invokevirtual 126, 3) := by decide +kernel
theorem dL_law_1034 : decode cL_law 1034 = .ok (.if_icmp .eq 1099, 3) := by decide +kernel
theorem dL_law_1039 : decode cL_law 1039 = .ok (.aload_n 1, 1) := by decide +kernel
theorem dL_law_1040 : decode cL_law 1040 = .ok (.aload_n 0, 1) := by decide +kernel
theorem dL_law_1041 : decode cL_law 1041 = .ok (.iload_n 3, 1) := by decide +kernel
theorem dL_law_1042 : decode cL_law 1042 = .ok (.iconst 1, 1) := by decide +kernel
theorem dL_law_1043 : decode cL_law 1043 = .ok (.iadd, 1) := by decide +kernel
theorem dL_law_1044 : decode cL_law 1044 = .ok (.iaload, 1) := by decide +kernel
set_option maxRecDepth 20000 in
theorem ggL_law_X10_works : GoodIn wsL_law wsX10_works := goodIn_r _ [987, 24, 530, 531, 532, 2, 533, 528, 534, 535, 320, 321, 39, 322, 323, 988, 989, 990, 23, 991, 88, 376, 86, 674, 330, 331, 332, 81, 319, 992, 957, 958, 959, 960, 961, 550, 551, 552, 553, 993, 555, 556, 64, 557, 72, 76, 386, 403, 404, 994, 995, 996, 997, 998, 963, 964, 965, 966, 215, 216, 217, 967, 923, 924, 925, 926, 927, 928, 968, 969, 970, 971, 754, 756, 541, 542, 543, 75, 1672, 1673, 1674, 1675, 1676, 1677, 1678, 1679, 1680, 1681, 1682, 1724, 1725, 1726, 1727, 1732, 1733, 1734, 1735, 1736, 1737, 1738, 1739, 1740, 1741, 1752, 1753, 1754, 1755, 1756, 1757, 1758] (by decide +kernel) (by decide +kernel)
set_option maxRecDepth 20000 in
theorem gL_law_X10_works : GoodIn wsL_law (wsV RL 127 RX10 yX10_works wsX10_works) := goodIn_app (goodIn_of _ (by decide +kernel)) ggL_law_X10_works
theorem dL_law_1045 : decode cL_law 1045 = .ok (.invokevirtual 127, 3) := by decide +kernel
theorem dL_law_1048 : decode cL_law 1048 = .ok (.aload_n 2, 1) := by decide +kernel
theorem dL_law_1049 : decode cL_law 1049 = .ok (.aload_n 0, 1) := by decide +kernel
theorem dL_law_1050 : decode cL_law 1050 = .ok (.iload_n 3, 1) := by decide +kernel
theorem dL_law_1051 : decode cL_law 1051 = .ok (.iconst 1, 1) := by decide +kernel
theorem dL_law_1052 : decode cL_law 1052 = .ok (.iadd, 1) := by decide +kernel
theorem dL_law_1053 : decode cL_law 1053 = .ok (.iaload, 1) := by decide +kernel
set_option maxRecDepth 20000 in
theorem ggL_law_X11_works : GoodIn wsL_law wsX11_works := goodIn_r _ [1002, 164, 141, 144, 573, 574, 575, 5, 576, 137, 182, 183, 184, 577, 578, 579, 580, 139, 581, 582, 583, 584, 142, 143, 572, 585, 586, 587, 588, 589, 590, 591, 138, 592, 593, 594, 595, 596, 597, 598, 599, 600, 601, 602, 603, 604, 605, 606, 607, 608, 609, 610, 976, 977, 978, 979, 980, 981, 982, 983, 1683, 1684, 1685, 1686, 1687, 1688, 1689, 1690, 1691, 1692, 1693, 1694, 1695, 1696, 1697, 1698, 1699, 1700, 1701, 1702, 1703, 1704, 1705, 1706, 1707, 1708, 1709, 1710, 1711, 1712, 1713] (by decide +kernel) (by decide +kernel)
set_option maxRecDepth 20000 in
theorem gL_law_X11_works : GoodIn wsL_law (wsV RL 130 RX11 yX11_works wsX11_works) := goodIn_app (goodIn_of _ (by decide +kernel)) ggL_law_X11_works
theorem dL_law_1054 : decode cL_law 1054 = .ok (.invokevirtual 130, 3) := by decide +kernel
theorem dL_law_1057 : decode cL_law 1057 = .ok (.if_icmp .eq 1076, 3) := by decide +kernel
theorem dL_law_1062 : decode cL_law 1062 = .ok (.aload_n 1, 1) := by decide +kernel
theorem dL_law_1063 : decode cL_law 1063 = .ok (.aload_n 0, 1) := by decide +kernel
theorem dL_law_1064 : decode cL_law 1064 = .ok (.iload_n 3, 1) := by decide +kernel
theorem dL_law_1065 : decode cL_law 1065 = .ok (.iconst 1, 1) := by decide +kernel
theorem dL_law_1066 : decode cL_law 1066 = .ok (.iadd, 1) := by decide +kernel
theorem dL_law_1067 : decode cL_law 1067 = .ok (.iaload, 1) := by decide +kernel
set_option maxRecDepth 20000 in
theorem ggL_law_X10_cover : GoodIn wsL_law wsX10_cover := goodIn_r _ [1006, 1007, 1008, 1009, 2, 1010, 48, 24, 623, 624, 625, 626, 35, 190, 1011, 1012, 1013, 1014, 1015, 1016, 47, 1017, 119, 1018, 1019, 1020, 1021, 1022, 1023, 550, 551, 39, 552, 323, 553, 330, 331, 332, 81, 319, 320, 321, 322, 1024, 796, 797, 64, 798, 72, 203, 403, 404, 799, 541, 542, 543, 75, 386, 1025, 1026, 1027, 1028, 117, 118, 1029, 1030, 1031, 1032, 1033, 923, 924, 925, 926, 927, 928, 1672, 1673, 1674, 1675, 1676, 1677, 1678, 1679, 1680, 1681, 1682, 1724, 1725, 1726, 1727, 1752, 1753, 1754, 1755, 1756, 1757, 1758, 1745, 1746, 1747, 1740, 1741, 1732, 1733, 1734, 1735, 1736, 1737, 1738, 1739] (by decide +kernel) (by decide +kernel)
set_option maxRecDepth 20000 in
theorem gL_law_X10_cover : GoodIn wsL_law (wsV RL 131 RX10 yX10_cover wsX10_cover) := goodIn_app (goodIn_of _ (by decide +kernel)) ggL_law_X10_cover
theorem dL_law_1068 : decode cL_law 1068 = .ok (.invokevirtual 131, 3) := by decide +kernel
theorem dL_law_1071 : decode cL_law 1071 = .ok (.aload_n 2, 1) := by decide +kernel
theorem dL_law_1072 : decode cL_law 1072 = .ok (.aload_n 0, 1) := by decide +kernel
theorem dL_law_1073 : decode cL_law 1073 = .ok (.iload_n 3, 1) := by decide +kernel
theorem dL_law_1074 : decode cL_law 1074 = .ok (.iconst 1, 1) := by decide +kernel
theorem dL_law_1075 : decode cL_law 1075 = .ok (.iadd, 1) := by decide +kernel
theorem dL_law_1076 : decode cL_law 1076 = .ok (.iaload, 1) := by decide +kernel
set_option maxRecDepth 20000 in
theorem ggL_law_X11_cover : GoodIn wsL_law wsX11_cover := goodIn_r _ [1037, 164, 1038, 1039, 1040, 5, 1041, 1042, 636, 637, 638, 639, 136, 182, 183, 184, 1043, 1044, 1045, 1046, 137, 577, 578, 579, 580, 139, 581, 582, 583, 584, 141, 142, 143, 572, 585, 586, 587, 588, 589, 590, 591, 138, 592, 593, 594, 595, 596, 597, 598, 599, 600, 601, 602, 603, 604, 605, 606, 607, 608, 609, 610, 937, 938, 939, 1047, 1048, 1049, 1050, 611, 612, 613, 614, 1051, 1052, 1053, 1054, 1683, 1684, 1685, 1686, 1687, 1688, 1689, 1690, 1691, 1692, 1693, 1694, 1695, 1696, 1697, 1698, 1699, 1700, 1701, 1702, 1703, 1704, 1705, 1706, 1707, 1708, 1709, 1710, 1711, 1712, 1713] (by decide +kernel) (by decide +kernel)
set_option maxRecDepth 20000 in
theorem gL_law_X11_cover : GoodIn wsL_law (wsV RL 134 RX11 yX11_cover wsX11_cover) := goodIn_app (goodIn_of _ (by decide +kernel)) ggL_law_X11_cover
theorem dL_law_1077 : decode cL_law 1077 = .ok (.invokevirtual 134, 3) := by decide +kernel
theorem dL_law_1080 : decode cL_law 1080 = .ok (.if_icmp .eq 1053, 3) := by decide +kernel
theorem dL_law_1085 : decode cL_law 1085 = .ok (.aload_n 1, 1) := by decide +kernel
theorem dL_law_1086 : decode cL_law 1086 = .ok (.aload_n 0, 1) := by decide +kernel
theorem dL_law_1087 : decode cL_law 1087 = .ok (.iload_n 3, 1) := by decide +kernel
theorem dL_law_1088 : decode cL_law 1088 = .ok (.iconst 1, 1) := by decide +kernel
theorem dL_law_1089 : decode cL_law 1089 = .ok (.iadd, 1) := by decide +kernel
theorem dL_law_1090 : decode cL_law 1090 = .ok (.iaload, 1) := by decide +kernel
set_option maxRecDepth 20000 in
theorem ggL_law_X10_covers : GoodIn wsL_law wsX10_covers := goodIn_r _ [1010, 48, 24, 623, 624, 625, 2, 626, 35, 190, 1011, 1012, 1013, 1014, 1015, 1016, 47, 1017, 119, 1018, 1019, 1020, 1021, 1022, 1023, 550, 551, 39, 552, 323, 553, 330, 331, 332, 81, 319, 320, 321, 322, 1024, 796, 797, 64, 798, 72, 203, 403, 404, 799, 541, 542, 543, 75, 386, 1025, 1026, 1027, 1028, 117, 118, 1029, 1030, 1031, 1032, 1672, 1673, 1674, 1675, 1676, 1677, 1678, 1679, 1680, 1681, 1682, 1724, 1725, 1726, 1727, 1752, 1753, 1754, 1755, 1756, 1757, 1758, 1745, 1746, 1747, 1740, 1741, 1732, 1733, 1734, 1735, 1736, 1737, 1738, 1739] (by decide +kernel) (by decide +kernel)
set_option maxRecDepth 20000 in
theorem gL_law_X10_covers : GoodIn wsL_law (wsV RL 135 RX10 yX10_covers wsX10_covers) := goodIn_app (goodIn_of _ (by decide +kernel)) ggL_law_X10_covers
theorem dL_law_1091 : decode cL_law 1091 = .ok (.invokevirtual 135, 3) := by decide +kernel
theorem dL_law_1094 : decode cL_law 1094 = .ok (.aload_n 2, 1) := by decide +kernel
theorem dL_law_1095 : decode cL_law 1095 = .ok (.aload_n 0, 1) := by decide +kernel
theorem dL_law_1096 : decode cL_law 1096 = .ok (.iload_n 3, 1) := by decide +kernel
theorem dL_law_1097 : decode cL_law 1097 = .ok (.iconst 1, 1) := by decide +kernel
theorem dL_law_1098 : decode cL_law 1098 = .ok (.iadd, 1) := by decide +kernel
theorem dL_law_1099 : decode cL_law 1099 = .ok (.iaload, 1) := by decide +kernel
set_option maxRecDepth 20000 in
theorem ggL_law_X11_covers : GoodIn wsL_law wsX11_covers := goodIn_r _ [1059, 164, 1038, 1039, 1040, 5, 1041, 1042, 636, 637, 638, 639, 136, 182, 183, 184, 1043, 1044, 1045, 1046, 137, 577, 578, 579, 580, 139, 581, 582, 583, 584, 141, 142, 143, 572, 585, 586, 587, 588, 589, 590, 591, 138, 592, 593, 594, 595, 596, 597, 598, 599, 600, 601, 602, 603, 604, 605, 606, 607, 608, 609, 610, 937, 938, 939, 1047, 1048, 1049, 1050, 611, 612, 613, 614, 1051, 1052, 1053, 1054, 1683, 1684, 1685, 1686, 1687, 1688, 1689, 1690, 1691, 1692, 1693, 1694, 1695, 1696, 1697, 1698, 1699, 1700, 1701, 1702, 1703, 1704, 1705, 1706, 1707, 1708, 1709, 1710, 1711, 1712, 1713] (by decide +kernel) (by decide +kernel)
set_option maxRecDepth 20000 in
theorem gL_law_X11_covers : GoodIn wsL_law (wsV RL 138 RX11 yX11_covers wsX11_covers) := goodIn_app (goodIn_of _ (by decide +kernel)) ggL_law_X11_covers
theorem dL_law_1100 : decode cL_law 1100 = .ok (.invokevirtual 138, 3) := by decide +kernel
theorem dL_law_1103 : decode cL_law 1103 = .ok (.if_icmp .eq 1030, 3) := by decide +kernel
theorem dL_law_1108 : decode cL_law 1108 = .ok (.aload_n 1, 1) := by decide +kernel
theorem dL_law_1109 : decode cL_law 1109 = .ok (.aload_n 0, 1) := by decide +kernel
theorem dL_law_1110 : decode cL_law 1110 = .ok (.iload_n 3, 1) := by decide +kernel
theorem dL_law_1111 : decode cL_law 1111 = .ok (.iconst 1, 1) := by decide +kernel
theorem dL_law_1112 : decode cL_law 1112 = .ok (.iadd, 1) := by decide +kernel
theorem dL_law_1113 : decode cL_law 1113 = .ok (.iaload, 1) := by decide +kernel
set_option maxRecDepth 20000 in
theorem ggL_law_X10_buy : GoodIn wsL_law wsX10_buy := goodIn_r _ [1063, 48, 1064, 1065, 1066, 2, 1067, 24, 623, 624, 625, 626, 35, 190, 1011, 1012, 1013, 1068, 1069, 1070, 47, 1071, 119, 1018, 1019, 1020, 1072, 537, 538, 64, 539, 72, 74, 386, 320, 321, 39, 322, 323, 1073, 541, 542, 543, 75, 1025, 1026, 1027, 1028, 117, 118, 1029, 1030, 1031, 1032, 1074, 1075, 1076, 1077, 1672, 1673, 1674, 1675, 1676, 1677, 1678, 1679, 1680, 1681, 1682, 1724, 1725, 1726, 1727, 1752, 1753, 1754, 1755, 1756, 1757, 1758, 1745, 1746, 1747, 1740, 1741] (by decide +kernel) (by decide +kernel)
set_option maxRecDepth 20000 in
theorem gL_law_X10_buy : GoodIn wsL_law (wsV RL 139 RX10 yX10_buy wsX10_buy) := goodIn_app (goodIn_of _ (by decide +kernel)) ggL_law_X10_buy
theorem dL_law_1114 : decode cL_law 1114 = .ok (.invokevirtual 139, 3) := by decide +kernel
theorem dL_law_1117 : decode cL_law 1117 = .ok (.aload_n 2, 1) := by decide +kernel
theorem dL_law_1118 : decode cL_law 1118 = .ok (.aload_n 0, 1) := by decide +kernel
theorem dL_law_1119 : decode cL_law 1119 = .ok (.iload_n 3, 1) := by decide +kernel
theorem dL_law_1120 : decode cL_law 1120 = .ok (.iconst 1, 1) := by decide +kernel
theorem dL_law_1121 : decode cL_law 1121 = .ok (.iadd, 1) := by decide +kernel
theorem dL_law_1122 : decode cL_law 1122 = .ok (.iaload, 1) := by decide +kernel
set_option maxRecDepth 20000 in
theorem ggL_law_X11_buy : GoodIn wsL_law wsX11_buy := goodIn_r _ [1081, 164, 1038, 1039, 1040, 5, 1041, 1042, 636, 637, 638, 639, 136, 182, 183, 184, 1082, 1083, 1084, 1085, 137, 1086, 1087, 1088, 1089, 608, 609, 610, 588, 589, 590, 591, 138, 1051, 1052, 1053, 1054, 1683, 1684, 1685, 1686, 1687, 1688, 1689, 1690, 1691, 1692, 1693, 1694, 1695, 1696, 1697, 1698, 1699, 1700, 1701, 1702, 1703, 1704, 1705, 1706, 1707, 1708, 1709, 1710, 1711, 1712, 1713] (by decide +kernel) (by decide +kernel)
set_option maxRecDepth 20000 in
theorem gL_law_X11_buy : GoodIn wsL_law (wsV RL 142 RX11 yX11_buy wsX11_buy) := goodIn_app (goodIn_of _ (by decide +kernel)) ggL_law_X11_buy
theorem dL_law_1123 : decode cL_law 1123 = .ok (.invokevirtual 142, 3) := by decide +kernel
theorem dL_law_1126 : decode cL_law 1126 = .ok (.if_icmp .eq 1007, 3) := by decide +kernel
theorem dL_law_1131 : decode cL_law 1131 = .ok (.aload_n 1, 1) := by decide +kernel
theorem dL_law_1132 : decode cL_law 1132 = .ok (.aload_n 0, 1) := by decide +kernel
theorem dL_law_1133 : decode cL_law 1133 = .ok (.iload_n 3, 1) := by decide +kernel
theorem dL_law_1134 : decode cL_law 1134 = .ok (.iconst 1, 1) := by decide +kernel
theorem dL_law_1135 : decode cL_law 1135 = .ok (.iadd, 1) := by decide +kernel
theorem dL_law_1136 : decode cL_law 1136 = .ok (.iaload, 1) := by decide +kernel
set_option maxRecDepth 20000 in
theorem ggL_law_X10_bought : GoodIn wsL_law wsX10_bought := goodIn_r _ [1067, 48, 24, 623, 624, 625, 2, 626, 35, 190, 1011, 1012, 1013, 1068, 1069, 1070, 47, 1071, 119, 1018, 1019, 1020, 1072, 537, 538, 64, 539, 72, 74, 386, 320, 321, 39, 322, 323, 1073, 541, 542, 543, 75, 1025, 1026, 1027, 1028, 117, 118, 1029, 1030, 1031, 1032, 1672, 1673, 1674, 1675, 1676, 1677, 1678, 1679, 1680, 1681, 1682, 1724, 1725, 1726, 1727, 1752, 1753, 1754, 1755, 1756, 1757, 1758, 1745, 1746, 1747, 1740, 1741] (by decide +kernel) (by decide +kernel)
set_option maxRecDepth 20000 in
theorem gL_law_X10_bought : GoodIn wsL_law (wsV RL 143 RX10 yX10_bought wsX10_bought) := goodIn_app (goodIn_of _ (by decide +kernel)) ggL_law_X10_bought
theorem dL_law_1137 : decode cL_law 1137 = .ok (.invokevirtual 143, 3) := by decide +kernel
theorem dL_law_1140 : decode cL_law 1140 = .ok (.aload_n 2, 1) := by decide +kernel
theorem dL_law_1141 : decode cL_law 1141 = .ok (.aload_n 0, 1) := by decide +kernel
theorem dL_law_1142 : decode cL_law 1142 = .ok (.iload_n 3, 1) := by decide +kernel
theorem dL_law_1143 : decode cL_law 1143 = .ok (.iconst 1, 1) := by decide +kernel
theorem dL_law_1144 : decode cL_law 1144 = .ok (.iadd, 1) := by decide +kernel
theorem dL_law_1145 : decode cL_law 1145 = .ok (.iaload, 1) := by decide +kernel
set_option maxRecDepth 20000 in
theorem ggL_law_X11_bought : GoodIn wsL_law wsX11_bought := goodIn_r _ [1094, 164, 1038, 1039, 1040, 5, 1041, 1042, 636, 637, 638, 639, 136, 182, 183, 184, 1082, 1083, 1084, 1085, 137, 1086, 1087, 1088, 1089, 608, 609, 610, 588, 589, 590, 591, 138, 1051, 1052, 1053, 1054, 1683, 1684, 1685, 1686, 1687, 1688, 1689, 1690, 1691, 1692, 1693, 1694, 1695, 1696, 1697, 1698, 1699, 1700, 1701, 1702, 1703, 1704, 1705, 1706, 1707, 1708, 1709, 1710, 1711, 1712, 1713] (by decide +kernel) (by decide +kernel)
set_option maxRecDepth 20000 in
theorem gL_law_X11_bought : GoodIn wsL_law (wsV RL 146 RX11 yX11_bought wsX11_bought) := goodIn_app (goodIn_of _ (by decide +kernel)) ggL_law_X11_bought
theorem dL_law_1146 : decode cL_law 1146 = .ok (.invokevirtual 146, 3) := by decide +kernel
theorem dL_law_1149 : decode cL_law 1149 = .ok (.if_icmp .eq 984, 3) := by decide +kernel
theorem dL_law_1154 : decode cL_law 1154 = .ok (.aload_n 1, 1) := by decide +kernel
theorem dL_law_1155 : decode cL_law 1155 = .ok (.aload_n 0, 1) := by decide +kernel
theorem dL_law_1156 : decode cL_law 1156 = .ok (.iload_n 3, 1) := by decide +kernel
theorem dL_law_1157 : decode cL_law 1157 = .ok (.iconst 1, 1) := by decide +kernel
theorem dL_law_1158 : decode cL_law 1158 = .ok (.iadd, 1) := by decide +kernel
theorem dL_law_1159 : decode cL_law 1159 = .ok (.iaload, 1) := by decide +kernel
set_option maxRecDepth 20000 in
theorem ggL_law_X10_deeds : GoodIn wsL_law wsX10_deeds := goodIn_r _ [1098, 48, 1099, 1100, 1101, 2, 1102, 24, 623, 624, 625, 626, 35, 190, 1068, 1069, 1070, 47, 1071, 119, 1018, 1019, 1020, 1072, 537, 538, 64, 539, 72, 74, 386, 320, 321, 39, 322, 323, 1073, 541, 542, 543, 75, 1025, 1026, 1027, 1028, 117, 118, 1103, 1104, 1105, 1106, 1107, 923, 924, 925, 926, 927, 928, 1108, 1109, 1110, 1111, 1033, 1672, 1673, 1674, 1675, 1676, 1677, 1678, 1679, 1680, 1681, 1682, 1724, 1725, 1726, 1727, 1752, 1753, 1754, 1755, 1756, 1757, 1758, 1745, 1746, 1747, 1740, 1741] (by decide +kernel) (by decide +kernel)
set_option maxRecDepth 20000 in
theorem gL_law_X10_deeds : GoodIn wsL_law (wsV RL 147 RX10 yX10_deeds wsX10_deeds) := goodIn_app (goodIn_of _ (by decide +kernel)) ggL_law_X10_deeds
theorem dL_law_1160 : decode cL_law 1160 = .ok (.invokevirtual 147, 3) := by decide +kernel
theorem dL_law_1163 : decode cL_law 1163 = .ok (.aload_n 2, 1) := by decide +kernel
theorem dL_law_1164 : decode cL_law 1164 = .ok (.aload_n 0, 1) := by decide +kernel
theorem dL_law_1165 : decode cL_law 1165 = .ok (.iload_n 3, 1) := by decide +kernel
theorem dL_law_1166 : decode cL_law 1166 = .ok (.iconst 1, 1) := by decide +kernel
theorem dL_law_1167 : decode cL_law 1167 = .ok (.iadd, 1) := by decide +kernel
theorem dL_law_1168 : decode cL_law 1168 = .ok (.iaload, 1) := by decide +kernel
set_option maxRecDepth 20000 in
theorem ggL_law_X11_deeds : GoodIn wsL_law wsX11_deeds := goodIn_r _ [1115, 164, 1116, 636, 637, 638, 5, 639, 136, 182, 183, 184, 1117, 1118, 1119, 1120, 137, 1086, 1087, 1088, 1089, 608, 609, 610, 588, 589, 590, 591, 138, 1051, 1052, 1053, 1054, 937, 938, 939, 1683, 1684, 1685, 1686, 1687, 1688, 1689, 1690, 1691, 1692, 1693, 1694, 1695, 1696, 1697, 1698, 1699, 1700, 1701, 1702, 1703, 1704, 1705, 1706, 1707, 1708, 1709, 1710, 1711, 1712, 1713] (by decide +kernel) (by decide +kernel)
set_option maxRecDepth 20000 in
theorem gL_law_X11_deeds : GoodIn wsL_law (wsV RL 150 RX11 yX11_deeds wsX11_deeds) := goodIn_app (goodIn_of _ (by decide +kernel)) ggL_law_X11_deeds
theorem dL_law_1169 : decode cL_law 1169 = .ok (.invokevirtual 150, 3) := by decide +kernel
theorem dL_law_1172 : decode cL_law 1172 = .ok (.if_icmp .eq 961, 3) := by decide +kernel
set_option maxHeartbeats 4000000 in
set_option maxRecDepth 100000 in
theorem law_c22 {p : Program} {e : Env} {s : State} {m : MethodId} {below : List Frame} {meth : Method} {c : Code} (l : Launch) {b L : Nat} {xs : Nat → Int32} (C0 : lw_At p s m meth c b L xs) (h6 : L = 6) (G : va_G) (ct : Nat → ClassId) (a rr bm : Nat → Nat) (H : Heap) (locs : List Loc) (hK : KK G ct s) (hPx : va_P G vwCl (xF a rr ct) H) (hPm : va_P G vwCl (mF bm ct) H) (hDx : va_D (fun q : Nat => s.heap.size ≤ q) (xF a rr ct)) (hDm : va_D (fun q : Nat => s.heap.size ≤ q) (mF bm ct)) (hap : ∀ q, aset (xF a rr ct) q → ¬ aset (mF bm ct) q) (hS : va_S (fun q : Nat => s.heap.size ≤ q) s.heap H locs) (ls : Array Slot) (hl : lv_has ls 4 [(3, .int 0), (2, .ref (bm 0)), (1, .ref (a 0)), (0, .ref b)]) : W p l e room_1 s m #[Value.ref b] below meth c H locs 110 5410 (lw_Z below #[Value.ref b] s) (F0 m 954 ls []) := by
  have C1 := C0
  obtain ⟨hx, hb, hr, hml, hown, hts, hX, hbl, hlocks, hgv⟩ := C0
  subst h6
  have hown : s.vm.findClass RL = some m.cls := hown
  have hts : ∀ z ∈ wsL_law, z.before #[Value.ref b] s = true := fun z h => hts z (wsL_law_in z h)
  have hbA : ¬ (fun q : Nat => s.heap.size ≤ q) b := Nat.not_le.mpr hbl
  refine lv_aload_n hx hb dL_law_954 rfl (lv_at hl 2 rfl) ?_
  refine ro_calli (va_runV (As := []) (rest := []) ⟨hx, hb, hml, hown, hts⟩ (c_X10_anew l G ct a rr ) (cwV 0 hts gL_law_X10_anew rfl rfl rfl (by decide +kernel) ⟨Nat.le_of_ble_eq_true rfl, Nat.le_of_ble_eq_true rfl⟩) (ro_preV 10 0 hK hPx rfl rfl) rfl rfl hl.1 rfl (lv_room (Nat.le_of_ble_eq_true rfl)) dL_law_955 ⟨Nat.le_of_ble_eq_true rfl, Nat.le_of_ble_eq_true rfl⟩) hS hPm (fun r1 H locs wr1 hPm hS => ?_)
  refine lv_aload_n hx hb dL_law_958 rfl (lv_at hl 1 rfl) ?_
  refine wq_calli (va_runV (As := []) (rest := [.int r1]) ⟨hx, hb, hml, hown, hts⟩ (c_X11_anew l G ct bm ) (cwV 0 hts gL_law_X11_anew rfl rfl rfl (by decide +kernel) ⟨Nat.le_of_ble_eq_true rfl, Nat.le_of_ble_eq_true rfl⟩) (wr_preV 11 0 hK hPm hDm rfl rfl) rfl rfl hl.1 rfl (lv_room (Nat.le_of_ble_eq_true rfl)) dL_law_959 ⟨Nat.le_of_ble_eq_true rfl, Nat.le_of_ble_eq_true rfl⟩) hS (aset_D hDm) (fun r2 H locs wr2 hk hS => ?_)
  refine lv_icmp_eq (tgt := 2133) hx hb dL_law_962 (by decide) (fun c_1 => ?_) (fun c_1 => ?_)
  · exact law_next l C1 rfl H locs hS ls (lv_sub hl [0, 3] rfl)
  · exact absurd (wr1.trans wr2.symm) c_1
set_option maxHeartbeats 4000000 in
set_option maxRecDepth 100000 in
theorem law_c23 {p : Program} {e : Env} {s : State} {m : MethodId} {below : List Frame} {meth : Method} {c : Code} (l : Launch) {b L : Nat} {xs : Nat → Int32} (C0 : lw_At p s m meth c b L xs) (h6 : L = 6) (G : va_G) (ct : Nat → ClassId) (a rr bm : Nat → Nat) (H : Heap) (locs : List Loc) (hK : KK G ct s) (hPx : va_P G vwCl (xF a rr ct) H) (hPm : va_P G vwCl (mF bm ct) H) (hDx : va_D (fun q : Nat => s.heap.size ≤ q) (xF a rr ct)) (hDm : va_D (fun q : Nat => s.heap.size ≤ q) (mF bm ct)) (hap : ∀ q, aset (xF a rr ct) q → ¬ aset (mF bm ct) q) (hS : va_S (fun q : Nat => s.heap.size ≤ q) s.heap H locs) (ls : Array Slot) (hl : lv_has ls 4 [(3, .int 0), (2, .ref (bm 0)), (1, .ref (a 0)), (0, .ref b)]) : W p l e room_1 s m #[Value.ref b] below meth c H locs 110 5410 (lw_Z below #[Value.ref b] s) (F0 m 967 ls []) := by
  have C1 := C0
  obtain ⟨hx, hb, hr, hml, hown, hts, hX, hbl, hlocks, hgv⟩ := C0
  subst h6
  have hown : s.vm.findClass RL = some m.cls := hown
  have hts : ∀ z ∈ wsL_law, z.before #[Value.ref b] s = true := fun z h => hts z (wsL_law_in z h)
  have hbA : ¬ (fun q : Nat => s.heap.size ≤ q) b := Nat.not_le.mpr hbl
  refine lv_aload_n hx hb dL_law_967 rfl (lv_at hl 2 rfl) ?_
  refine lv_aload_n hx hb dL_law_968 rfl (lv_at hl 3 rfl) ?_
  refine lv_iload_n hx hb dL_law_969 rfl (lv_at hl 0 rfl) ?_
  refine lv_iconst (v := 1) hx hb dL_law_970 (by decide) ?_
  refine lv_iadd hx hb dL_law_971 ?_
  refine ix_i (y := 1) (by decide) ?_
  refine va_sld hx hb hX hbl hbA hS (in_lit (by decide)) dL_law_972 ?_
  refine ro_calli (va_runV (As := [.int (xs (1 : Int32).toNatClampNeg)]) (rest := []) ⟨hx, hb, hml, hown, hts⟩ (c_X10_now l G ct a rr (xs (1 : Int32).toNatClampNeg)) (cwV 1 hts gL_law_X10_now rfl rfl rfl (by decide +kernel) ⟨Nat.le_of_ble_eq_true rfl, Nat.le_of_ble_eq_true rfl⟩) (ro_preV 10 0 hK hPx rfl rfl) rfl rfl hl.1 rfl (lv_room (Nat.le_of_ble_eq_true rfl)) dL_law_973 ⟨Nat.le_of_ble_eq_true rfl, Nat.le_of_ble_eq_true rfl⟩) hS hPm (fun r1 H locs wr1 hPm hS => ?_)
  refine lv_aload_n hx hb dL_law_976 rfl (lv_at hl 1 rfl) ?_
  refine lv_aload_n hx hb dL_law_977 rfl (lv_at hl 3 rfl) ?_
  refine lv_iload_n hx hb dL_law_978 rfl (lv_at hl 0 rfl) ?_
  refine lv_iconst (v := 1) hx hb dL_law_979 (by decide) ?_
  refine lv_iadd hx hb dL_law_980 ?_
  refine ix_i (y := 1) (by decide) ?_
  refine va_sld hx hb hX hbl hbA hS (in_lit (by decide)) dL_law_981 ?_
  refine wq_calli (va_runV (As := [.int (xs (1 : Int32).toNatClampNeg)]) (rest := [.int r1]) ⟨hx, hb, hml, hown, hts⟩ (c_X11_now l G ct bm (xs (1 : Int32).toNatClampNeg)) (cwV 1 hts gL_law_X11_now rfl rfl rfl (by decide +kernel) ⟨Nat.le_of_ble_eq_true rfl, Nat.le_of_ble_eq_true rfl⟩) (wr_preV 11 0 hK hPm hDm rfl rfl) rfl rfl hl.1 rfl (lv_room (Nat.le_of_ble_eq_true rfl)) dL_law_982 ⟨Nat.le_of_ble_eq_true rfl, Nat.le_of_ble_eq_true rfl⟩) hS (aset_D hDm) (fun r2 H locs wr2 hk hS => ?_)
  refine lv_icmp_eq (tgt := 2133) hx hb dL_law_985 (by decide) (fun c_1 => ?_) (fun c_1 => ?_)
  · exact law_next l C1 rfl H locs hS ls (lv_sub hl [0, 3] rfl)
  · exact absurd (wr1.trans wr2.symm) c_1
set_option maxHeartbeats 4000000 in
set_option maxRecDepth 100000 in
theorem law_c24 {p : Program} {e : Env} {s : State} {m : MethodId} {below : List Frame} {meth : Method} {c : Code} (l : Launch) {b L : Nat} {xs : Nat → Int32} (C0 : lw_At p s m meth c b L xs) (h6 : L = 6) (G : va_G) (ct : Nat → ClassId) (a rr bm : Nat → Nat) (H : Heap) (locs : List Loc) (hK : KK G ct s) (hPx : va_P G vwCl (xF a rr ct) H) (hPm : va_P G vwCl (mF bm ct) H) (hDx : va_D (fun q : Nat => s.heap.size ≤ q) (xF a rr ct)) (hDm : va_D (fun q : Nat => s.heap.size ≤ q) (mF bm ct)) (hap : ∀ q, aset (xF a rr ct) q → ¬ aset (mF bm ct) q) (hS : va_S (fun q : Nat => s.heap.size ≤ q) s.heap H locs) (ls : Array Slot) (hl : lv_has ls 4 [(3, .int 0), (2, .ref (bm 0)), (1, .ref (a 0)), (0, .ref b)]) : W p l e room_1 s m #[Value.ref b] below meth c H locs 110 5410 (lw_Z below #[Value.ref b] s) (F0 m 990 ls []) := by
  have C1 := C0
  obtain ⟨hx, hb, hr, hml, hown, hts, hX, hbl, hlocks, hgv⟩ := C0
  subst h6
  have hown : s.vm.findClass RL = some m.cls := hown
  have hts : ∀ z ∈ wsL_law, z.before #[Value.ref b] s = true := fun z h => hts z (wsL_law_in z h)
  have hbA : ¬ (fun q : Nat => s.heap.size ≤ q) b := Nat.not_le.mpr hbl
  refine lv_aload_n hx hb dL_law_990 rfl (lv_at hl 2 rfl) ?_
  refine ro_calli (va_runV (As := []) (rest := []) ⟨hx, hb, hml, hown, hts⟩ (c_X10_own l G ct a rr ) (cwV 0 hts gL_law_X10_own rfl rfl rfl (by decide +kernel) ⟨Nat.le_of_ble_eq_true rfl, Nat.le_of_ble_eq_true rfl⟩) (ro_preV 10 0 hK hPx rfl rfl) rfl rfl hl.1 rfl (lv_room (Nat.le_of_ble_eq_true rfl)) dL_law_991 ⟨Nat.le_of_ble_eq_true rfl, Nat.le_of_ble_eq_true rfl⟩) hS hPm (fun r1 H locs wr1 hPm hS => ?_)
  refine lv_aload_n hx hb dL_law_994 rfl (lv_at hl 1 rfl) ?_
  refine wq_calli (va_runV (As := []) (rest := [.int r1]) ⟨hx, hb, hml, hown, hts⟩ (c_X11_own l G ct bm ) (cwV 0 hts gL_law_X11_own rfl rfl rfl (by decide +kernel) ⟨Nat.le_of_ble_eq_true rfl, Nat.le_of_ble_eq_true rfl⟩) (wr_preV 11 0 hK hPm hDm rfl rfl) rfl rfl hl.1 rfl (lv_room (Nat.le_of_ble_eq_true rfl)) dL_law_995 ⟨Nat.le_of_ble_eq_true rfl, Nat.le_of_ble_eq_true rfl⟩) hS (aset_D hDm) (fun r2 H locs wr2 hk hS => ?_)
  refine lv_icmp_eq (tgt := 2133) hx hb dL_law_998 (by decide) (fun c_1 => ?_) (fun c_1 => ?_)
  · exact law_next l C1 rfl H locs hS ls (lv_sub hl [0, 3] rfl)
  · exact absurd (wr1.trans wr2.symm) c_1
set_option maxHeartbeats 4000000 in
set_option maxRecDepth 100000 in
theorem law_c25 {p : Program} {e : Env} {s : State} {m : MethodId} {below : List Frame} {meth : Method} {c : Code} (l : Launch) {b L : Nat} {xs : Nat → Int32} (C0 : lw_At p s m meth c b L xs) (h6 : L = 6) (G : va_G) (ct : Nat → ClassId) (a rr bm : Nat → Nat) (H : Heap) (locs : List Loc) (hK : KK G ct s) (hPx : va_P G vwCl (xF a rr ct) H) (hPm : va_P G vwCl (mF bm ct) H) (hDx : va_D (fun q : Nat => s.heap.size ≤ q) (xF a rr ct)) (hDm : va_D (fun q : Nat => s.heap.size ≤ q) (mF bm ct)) (hap : ∀ q, aset (xF a rr ct) q → ¬ aset (mF bm ct) q) (hS : va_S (fun q : Nat => s.heap.size ≤ q) s.heap H locs) (ls : Array Slot) (hl : lv_has ls 4 [(3, .int 0), (2, .ref (bm 0)), (1, .ref (a 0)), (0, .ref b)]) : W p l e room_1 s m #[Value.ref b] below meth c H locs 110 5410 (lw_Z below #[Value.ref b] s) (F0 m 1003 ls []) := by
  have C1 := C0
  obtain ⟨hx, hb, hr, hml, hown, hts, hX, hbl, hlocks, hgv⟩ := C0
  subst h6
  have hown : s.vm.findClass RL = some m.cls := hown
  have hts : ∀ z ∈ wsL_law, z.before #[Value.ref b] s = true := fun z h => hts z (wsL_law_in z h)
  have hbA : ¬ (fun q : Nat => s.heap.size ≤ q) b := Nat.not_le.mpr hbl
  refine lv_aload_n hx hb dL_law_1003 rfl (lv_at hl 2 rfl) ?_
  refine lv_aload_n hx hb dL_law_1004 rfl (lv_at hl 3 rfl) ?_
  refine lv_iload_n hx hb dL_law_1005 rfl (lv_at hl 0 rfl) ?_
  refine lv_iconst (v := 1) hx hb dL_law_1006 (by decide) ?_
  refine lv_iadd hx hb dL_law_1007 ?_
  refine ix_i (y := 1) (by decide) ?_
  refine va_sld hx hb hX hbl hbA hS (in_lit (by decide)) dL_law_1008 ?_
  refine ro_calli (va_runV (As := [.int (xs (1 : Int32).toNatClampNeg)]) (rest := []) ⟨hx, hb, hml, hown, hts⟩ (c_X10_first l G ct a rr (xs (1 : Int32).toNatClampNeg)) (cwV 1 hts gL_law_X10_first rfl rfl rfl (by decide +kernel) ⟨Nat.le_of_ble_eq_true rfl, Nat.le_of_ble_eq_true rfl⟩) (ro_preV 10 0 hK hPx rfl rfl) rfl rfl hl.1 rfl (lv_room (Nat.le_of_ble_eq_true rfl)) dL_law_1009 ⟨Nat.le_of_ble_eq_true rfl, Nat.le_of_ble_eq_true rfl⟩) hS hPm (fun r1 H locs wr1 hPm hS => ?_)
  refine lv_aload_n hx hb dL_law_1012 rfl (lv_at hl 1 rfl) ?_
  refine lv_aload_n hx hb dL_law_1013 rfl (lv_at hl 3 rfl) ?_
  refine lv_iload_n hx hb dL_law_1014 rfl (lv_at hl 0 rfl) ?_
  refine lv_iconst (v := 1) hx hb dL_law_1015 (by decide) ?_
  refine lv_iadd hx hb dL_law_1016 ?_
  refine ix_i (y := 1) (by decide) ?_
  refine va_sld hx hb hX hbl hbA hS (in_lit (by decide)) dL_law_1017 ?_
  refine wq_calli (va_runV (As := [.int (xs (1 : Int32).toNatClampNeg)]) (rest := [.int r1]) ⟨hx, hb, hml, hown, hts⟩ (c_X11_first l G ct bm (xs (1 : Int32).toNatClampNeg)) (cwV 1 hts gL_law_X11_first rfl rfl rfl (by decide +kernel) ⟨Nat.le_of_ble_eq_true rfl, Nat.le_of_ble_eq_true rfl⟩) (wr_preV 11 0 hK hPm hDm rfl rfl) rfl rfl hl.1 rfl (lv_room (Nat.le_of_ble_eq_true rfl)) dL_law_1018 ⟨Nat.le_of_ble_eq_true rfl, Nat.le_of_ble_eq_true rfl⟩) hS (aset_D hDm) (fun r2 H locs wr2 hk hS => ?_)
  refine lv_icmp_eq (tgt := 2133) hx hb dL_law_1021 (by decide) (fun c_1 => ?_) (fun c_1 => ?_)
  · exact law_next l C1 rfl H locs hS ls (lv_sub hl [0, 3] rfl)
  · exact absurd (wr1.trans wr2.symm) c_1
set_option maxHeartbeats 4000000 in
set_option maxRecDepth 100000 in
theorem law_c26 {p : Program} {e : Env} {s : State} {m : MethodId} {below : List Frame} {meth : Method} {c : Code} (l : Launch) {b L : Nat} {xs : Nat → Int32} (C0 : lw_At p s m meth c b L xs) (h6 : L = 6) (G : va_G) (ct : Nat → ClassId) (a rr bm : Nat → Nat) (H : Heap) (locs : List Loc) (hK : KK G ct s) (hPx : va_P G vwCl (xF a rr ct) H) (hPm : va_P G vwCl (mF bm ct) H) (hDx : va_D (fun q : Nat => s.heap.size ≤ q) (xF a rr ct)) (hDm : va_D (fun q : Nat => s.heap.size ≤ q) (mF bm ct)) (hap : ∀ q, aset (xF a rr ct) q → ¬ aset (mF bm ct) q) (hS : va_S (fun q : Nat => s.heap.size ≤ q) s.heap H locs) (ls : Array Slot) (hl : lv_has ls 4 [(3, .int 0), (2, .ref (bm 0)), (1, .ref (a 0)), (0, .ref b)]) : W p l e room_1 s m #[Value.ref b] below meth c H locs 110 5410 (lw_Z below #[Value.ref b] s) (F0 m 1026 ls []) := by
  have C1 := C0
  obtain ⟨hx, hb, hr, hml, hown, hts, hX, hbl, hlocks, hgv⟩ := C0
  subst h6
  have hown : s.vm.findClass RL = some m.cls := hown
  have hts : ∀ z ∈ wsL_law, z.before #[Value.ref b] s = true := fun z h => hts z (wsL_law_in z h)
  have hbA : ¬ (fun q : Nat => s.heap.size ≤ q) b := Nat.not_le.mpr hbl
  refine lv_aload_n hx hb dL_law_1026 rfl (lv_at hl 2 rfl) ?_
  refine ro_calli (va_runV (As := []) (rest := []) ⟨hx, hb, hml, hown, hts⟩ (c_X10_work l G ct a rr ) (cwV 0 hts gL_law_X10_work rfl rfl rfl (by decide +kernel) ⟨Nat.le_of_ble_eq_true rfl, Nat.le_of_ble_eq_true rfl⟩) (ro_preV 10 0 hK hPx rfl rfl) rfl rfl hl.1 rfl (lv_room (Nat.le_of_ble_eq_true rfl)) dL_law_1027 ⟨Nat.le_of_ble_eq_true rfl, Nat.le_of_ble_eq_true rfl⟩) hS hPm (fun r1 H locs wr1 hPm hS => ?_)
  refine lv_aload_n hx hb dL_law_1030 rfl (lv_at hl 1 rfl) ?_
  refine wq_calli (va_runV (As := []) (rest := [.int r1]) ⟨hx, hb, hml, hown, hts⟩ (c_X11_work l G ct bm ) (cwV 0 hts gL_law_X11_work rfl rfl rfl (by decide +kernel) ⟨Nat.le_of_ble_eq_true rfl, Nat.le_of_ble_eq_true rfl⟩) (wr_preV 11 0 hK hPm hDm rfl rfl) rfl rfl hl.1 rfl (lv_room (Nat.le_of_ble_eq_true rfl)) dL_law_1031 ⟨Nat.le_of_ble_eq_true rfl, Nat.le_of_ble_eq_true rfl⟩) hS (aset_D hDm) (fun r2 H locs wr2 hk hS => ?_)
  refine lv_icmp_eq (tgt := 2133) hx hb dL_law_1034 (by decide) (fun c_1 => ?_) (fun c_1 => ?_)
  · exact law_next l C1 rfl H locs hS ls (lv_sub hl [0, 3] rfl)
  · exact absurd (wr1.trans wr2.symm) c_1
set_option maxHeartbeats 4000000 in
set_option maxRecDepth 100000 in
theorem law_c27 {p : Program} {e : Env} {s : State} {m : MethodId} {below : List Frame} {meth : Method} {c : Code} (l : Launch) {b L : Nat} {xs : Nat → Int32} (C0 : lw_At p s m meth c b L xs) (h6 : L = 6) (G : va_G) (ct : Nat → ClassId) (a rr bm : Nat → Nat) (H : Heap) (locs : List Loc) (hK : KK G ct s) (hPx : va_P G vwCl (xF a rr ct) H) (hPm : va_P G vwCl (mF bm ct) H) (hDx : va_D (fun q : Nat => s.heap.size ≤ q) (xF a rr ct)) (hDm : va_D (fun q : Nat => s.heap.size ≤ q) (mF bm ct)) (hap : ∀ q, aset (xF a rr ct) q → ¬ aset (mF bm ct) q) (hS : va_S (fun q : Nat => s.heap.size ≤ q) s.heap H locs) (ls : Array Slot) (hl : lv_has ls 4 [(3, .int 0), (2, .ref (bm 0)), (1, .ref (a 0)), (0, .ref b)]) : W p l e room_1 s m #[Value.ref b] below meth c H locs 110 5410 (lw_Z below #[Value.ref b] s) (F0 m 1039 ls []) := by
  have C1 := C0
  obtain ⟨hx, hb, hr, hml, hown, hts, hX, hbl, hlocks, hgv⟩ := C0
  subst h6
  have hown : s.vm.findClass RL = some m.cls := hown
  have hts : ∀ z ∈ wsL_law, z.before #[Value.ref b] s = true := fun z h => hts z (wsL_law_in z h)
  have hbA : ¬ (fun q : Nat => s.heap.size ≤ q) b := Nat.not_le.mpr hbl
  refine lv_aload_n hx hb dL_law_1039 rfl (lv_at hl 2 rfl) ?_
  refine lv_aload_n hx hb dL_law_1040 rfl (lv_at hl 3 rfl) ?_
  refine lv_iload_n hx hb dL_law_1041 rfl (lv_at hl 0 rfl) ?_
  refine lv_iconst (v := 1) hx hb dL_law_1042 (by decide) ?_
  refine lv_iadd hx hb dL_law_1043 ?_
  refine ix_i (y := 1) (by decide) ?_
  refine va_sld hx hb hX hbl hbA hS (in_lit (by decide)) dL_law_1044 ?_
  refine ro_calli (va_runV (As := [.int (xs (1 : Int32).toNatClampNeg)]) (rest := []) ⟨hx, hb, hml, hown, hts⟩ (c_X10_works l G ct a rr (xs (1 : Int32).toNatClampNeg)) (cwV 1 hts gL_law_X10_works rfl rfl rfl (by decide +kernel) ⟨Nat.le_of_ble_eq_true rfl, Nat.le_of_ble_eq_true rfl⟩) (ro_preV 10 0 hK hPx rfl rfl) rfl rfl hl.1 rfl (lv_room (Nat.le_of_ble_eq_true rfl)) dL_law_1045 ⟨Nat.le_of_ble_eq_true rfl, Nat.le_of_ble_eq_true rfl⟩) hS hPm (fun r1 H locs wr1 hPm hS => ?_)
  refine lv_aload_n hx hb dL_law_1048 rfl (lv_at hl 1 rfl) ?_
  refine lv_aload_n hx hb dL_law_1049 rfl (lv_at hl 3 rfl) ?_
  refine lv_iload_n hx hb dL_law_1050 rfl (lv_at hl 0 rfl) ?_
  refine lv_iconst (v := 1) hx hb dL_law_1051 (by decide) ?_
  refine lv_iadd hx hb dL_law_1052 ?_
  refine ix_i (y := 1) (by decide) ?_
  refine va_sld hx hb hX hbl hbA hS (in_lit (by decide)) dL_law_1053 ?_
  refine wq_calli (va_runV (As := [.int (xs (1 : Int32).toNatClampNeg)]) (rest := [.int r1]) ⟨hx, hb, hml, hown, hts⟩ (c_X11_works l G ct bm (xs (1 : Int32).toNatClampNeg)) (cwV 1 hts gL_law_X11_works rfl rfl rfl (by decide +kernel) ⟨Nat.le_of_ble_eq_true rfl, Nat.le_of_ble_eq_true rfl⟩) (wr_preV 11 0 hK hPm hDm rfl rfl) rfl rfl hl.1 rfl (lv_room (Nat.le_of_ble_eq_true rfl)) dL_law_1054 ⟨Nat.le_of_ble_eq_true rfl, Nat.le_of_ble_eq_true rfl⟩) hS (aset_D hDm) (fun r2 H locs wr2 hk hS => ?_)
  refine lv_icmp_eq (tgt := 2133) hx hb dL_law_1057 (by decide) (fun c_1 => ?_) (fun c_1 => ?_)
  · exact law_next l C1 rfl H locs hS ls (lv_sub hl [0, 3] rfl)
  · exact absurd (wr1.trans wr2.symm) c_1
set_option maxHeartbeats 4000000 in
set_option maxRecDepth 100000 in
theorem law_c28 {p : Program} {e : Env} {s : State} {m : MethodId} {below : List Frame} {meth : Method} {c : Code} (l : Launch) {b L : Nat} {xs : Nat → Int32} (C0 : lw_At p s m meth c b L xs) (h6 : L = 6) (G : va_G) (ct : Nat → ClassId) (a rr bm : Nat → Nat) (H : Heap) (locs : List Loc) (hK : KK G ct s) (hPx : va_P G vwCl (xF a rr ct) H) (hPm : va_P G vwCl (mF bm ct) H) (hDx : va_D (fun q : Nat => s.heap.size ≤ q) (xF a rr ct)) (hDm : va_D (fun q : Nat => s.heap.size ≤ q) (mF bm ct)) (hap : ∀ q, aset (xF a rr ct) q → ¬ aset (mF bm ct) q) (hS : va_S (fun q : Nat => s.heap.size ≤ q) s.heap H locs) (ls : Array Slot) (hl : lv_has ls 4 [(3, .int 0), (2, .ref (bm 0)), (1, .ref (a 0)), (0, .ref b)]) : W p l e room_1 s m #[Value.ref b] below meth c H locs 110 5410 (lw_Z below #[Value.ref b] s) (F0 m 1062 ls []) := by
  have C1 := C0
  obtain ⟨hx, hb, hr, hml, hown, hts, hX, hbl, hlocks, hgv⟩ := C0
  subst h6
  have hown : s.vm.findClass RL = some m.cls := hown
  have hts : ∀ z ∈ wsL_law, z.before #[Value.ref b] s = true := fun z h => hts z (wsL_law_in z h)
  have hbA : ¬ (fun q : Nat => s.heap.size ≤ q) b := Nat.not_le.mpr hbl
  refine lv_aload_n hx hb dL_law_1062 rfl (lv_at hl 2 rfl) ?_
  refine lv_aload_n hx hb dL_law_1063 rfl (lv_at hl 3 rfl) ?_
  refine lv_iload_n hx hb dL_law_1064 rfl (lv_at hl 0 rfl) ?_
  refine lv_iconst (v := 1) hx hb dL_law_1065 (by decide) ?_
  refine lv_iadd hx hb dL_law_1066 ?_
  refine ix_i (y := 1) (by decide) ?_
  refine va_sld hx hb hX hbl hbA hS (in_lit (by decide)) dL_law_1067 ?_
  refine ro_calli (va_runV (As := [.int (xs (1 : Int32).toNatClampNeg)]) (rest := []) ⟨hx, hb, hml, hown, hts⟩ (c_X10_cover l G ct a rr (xs (1 : Int32).toNatClampNeg)) (cwV 1 hts gL_law_X10_cover rfl rfl rfl (by decide +kernel) ⟨Nat.le_of_ble_eq_true rfl, Nat.le_of_ble_eq_true rfl⟩) (ro_preV 10 0 hK hPx rfl rfl) rfl rfl hl.1 rfl (lv_room (Nat.le_of_ble_eq_true rfl)) dL_law_1068 ⟨Nat.le_of_ble_eq_true rfl, Nat.le_of_ble_eq_true rfl⟩) hS hPm (fun r1 H locs wr1 hPm hS => ?_)
  refine lv_aload_n hx hb dL_law_1071 rfl (lv_at hl 1 rfl) ?_
  refine lv_aload_n hx hb dL_law_1072 rfl (lv_at hl 3 rfl) ?_
  refine lv_iload_n hx hb dL_law_1073 rfl (lv_at hl 0 rfl) ?_
  refine lv_iconst (v := 1) hx hb dL_law_1074 (by decide) ?_
  refine lv_iadd hx hb dL_law_1075 ?_
  refine ix_i (y := 1) (by decide) ?_
  refine va_sld hx hb hX hbl hbA hS (in_lit (by decide)) dL_law_1076 ?_
  refine wq_calli (va_runV (As := [.int (xs (1 : Int32).toNatClampNeg)]) (rest := [.int r1]) ⟨hx, hb, hml, hown, hts⟩ (c_X11_cover l G ct bm (xs (1 : Int32).toNatClampNeg)) (cwV 1 hts gL_law_X11_cover rfl rfl rfl (by decide +kernel) ⟨Nat.le_of_ble_eq_true rfl, Nat.le_of_ble_eq_true rfl⟩) (wr_preV 11 0 hK hPm hDm rfl rfl) rfl rfl hl.1 rfl (lv_room (Nat.le_of_ble_eq_true rfl)) dL_law_1077 ⟨Nat.le_of_ble_eq_true rfl, Nat.le_of_ble_eq_true rfl⟩) hS (aset_D hDm) (fun r2 H locs wr2 hk hS => ?_)
  refine lv_icmp_eq (tgt := 2133) hx hb dL_law_1080 (by decide) (fun c_1 => ?_) (fun c_1 => ?_)
  · exact law_next l C1 rfl H locs hS ls (lv_sub hl [0, 3] rfl)
  · exact absurd (wr1.trans wr2.symm) c_1
set_option maxHeartbeats 4000000 in
set_option maxRecDepth 100000 in
theorem law_c29 {p : Program} {e : Env} {s : State} {m : MethodId} {below : List Frame} {meth : Method} {c : Code} (l : Launch) {b L : Nat} {xs : Nat → Int32} (C0 : lw_At p s m meth c b L xs) (h6 : L = 6) (G : va_G) (ct : Nat → ClassId) (a rr bm : Nat → Nat) (H : Heap) (locs : List Loc) (hK : KK G ct s) (hPx : va_P G vwCl (xF a rr ct) H) (hPm : va_P G vwCl (mF bm ct) H) (hDx : va_D (fun q : Nat => s.heap.size ≤ q) (xF a rr ct)) (hDm : va_D (fun q : Nat => s.heap.size ≤ q) (mF bm ct)) (hap : ∀ q, aset (xF a rr ct) q → ¬ aset (mF bm ct) q) (hS : va_S (fun q : Nat => s.heap.size ≤ q) s.heap H locs) (ls : Array Slot) (hl : lv_has ls 4 [(3, .int 0), (2, .ref (bm 0)), (1, .ref (a 0)), (0, .ref b)]) : W p l e room_1 s m #[Value.ref b] below meth c H locs 110 5410 (lw_Z below #[Value.ref b] s) (F0 m 1085 ls []) := by
  have C1 := C0
  obtain ⟨hx, hb, hr, hml, hown, hts, hX, hbl, hlocks, hgv⟩ := C0
  subst h6
  have hown : s.vm.findClass RL = some m.cls := hown
  have hts : ∀ z ∈ wsL_law, z.before #[Value.ref b] s = true := fun z h => hts z (wsL_law_in z h)
  have hbA : ¬ (fun q : Nat => s.heap.size ≤ q) b := Nat.not_le.mpr hbl
  refine lv_aload_n hx hb dL_law_1085 rfl (lv_at hl 2 rfl) ?_
  refine lv_aload_n hx hb dL_law_1086 rfl (lv_at hl 3 rfl) ?_
  refine lv_iload_n hx hb dL_law_1087 rfl (lv_at hl 0 rfl) ?_
  refine lv_iconst (v := 1) hx hb dL_law_1088 (by decide) ?_
  refine lv_iadd hx hb dL_law_1089 ?_
  refine ix_i (y := 1) (by decide) ?_
  refine va_sld hx hb hX hbl hbA hS (in_lit (by decide)) dL_law_1090 ?_
  refine ro_calli (va_runV (As := [.int (xs (1 : Int32).toNatClampNeg)]) (rest := []) ⟨hx, hb, hml, hown, hts⟩ (c_X10_covers l G ct a rr (xs (1 : Int32).toNatClampNeg)) (cwV 1 hts gL_law_X10_covers rfl rfl rfl (by decide +kernel) ⟨Nat.le_of_ble_eq_true rfl, Nat.le_of_ble_eq_true rfl⟩) (ro_preV 10 0 hK hPx rfl rfl) rfl rfl hl.1 rfl (lv_room (Nat.le_of_ble_eq_true rfl)) dL_law_1091 ⟨Nat.le_of_ble_eq_true rfl, Nat.le_of_ble_eq_true rfl⟩) hS hPm (fun r1 H locs wr1 hPm hS => ?_)
  refine lv_aload_n hx hb dL_law_1094 rfl (lv_at hl 1 rfl) ?_
  refine lv_aload_n hx hb dL_law_1095 rfl (lv_at hl 3 rfl) ?_
  refine lv_iload_n hx hb dL_law_1096 rfl (lv_at hl 0 rfl) ?_
  refine lv_iconst (v := 1) hx hb dL_law_1097 (by decide) ?_
  refine lv_iadd hx hb dL_law_1098 ?_
  refine ix_i (y := 1) (by decide) ?_
  refine va_sld hx hb hX hbl hbA hS (in_lit (by decide)) dL_law_1099 ?_
  refine wq_calli (va_runV (As := [.int (xs (1 : Int32).toNatClampNeg)]) (rest := [.int r1]) ⟨hx, hb, hml, hown, hts⟩ (c_X11_covers l G ct bm (xs (1 : Int32).toNatClampNeg)) (cwV 1 hts gL_law_X11_covers rfl rfl rfl (by decide +kernel) ⟨Nat.le_of_ble_eq_true rfl, Nat.le_of_ble_eq_true rfl⟩) (wr_preV 11 0 hK hPm hDm rfl rfl) rfl rfl hl.1 rfl (lv_room (Nat.le_of_ble_eq_true rfl)) dL_law_1100 ⟨Nat.le_of_ble_eq_true rfl, Nat.le_of_ble_eq_true rfl⟩) hS (aset_D hDm) (fun r2 H locs wr2 hk hS => ?_)
  refine lv_icmp_eq (tgt := 2133) hx hb dL_law_1103 (by decide) (fun c_1 => ?_) (fun c_1 => ?_)
  · exact law_next l C1 rfl H locs hS ls (lv_sub hl [0, 3] rfl)
  · exact absurd (wr1.trans wr2.symm) c_1
set_option maxHeartbeats 4000000 in
set_option maxRecDepth 100000 in
theorem law_c30 {p : Program} {e : Env} {s : State} {m : MethodId} {below : List Frame} {meth : Method} {c : Code} (l : Launch) {b L : Nat} {xs : Nat → Int32} (C0 : lw_At p s m meth c b L xs) (h6 : L = 6) (G : va_G) (ct : Nat → ClassId) (a rr bm : Nat → Nat) (H : Heap) (locs : List Loc) (hK : KK G ct s) (hPx : va_P G vwCl (xF a rr ct) H) (hPm : va_P G vwCl (mF bm ct) H) (hDx : va_D (fun q : Nat => s.heap.size ≤ q) (xF a rr ct)) (hDm : va_D (fun q : Nat => s.heap.size ≤ q) (mF bm ct)) (hap : ∀ q, aset (xF a rr ct) q → ¬ aset (mF bm ct) q) (hS : va_S (fun q : Nat => s.heap.size ≤ q) s.heap H locs) (ls : Array Slot) (hl : lv_has ls 4 [(3, .int 0), (2, .ref (bm 0)), (1, .ref (a 0)), (0, .ref b)]) : W p l e room_1 s m #[Value.ref b] below meth c H locs 110 5410 (lw_Z below #[Value.ref b] s) (F0 m 1108 ls []) := by
  have C1 := C0
  obtain ⟨hx, hb, hr, hml, hown, hts, hX, hbl, hlocks, hgv⟩ := C0
  subst h6
  have hown : s.vm.findClass RL = some m.cls := hown
  have hts : ∀ z ∈ wsL_law, z.before #[Value.ref b] s = true := fun z h => hts z (wsL_law_in z h)
  have hbA : ¬ (fun q : Nat => s.heap.size ≤ q) b := Nat.not_le.mpr hbl
  refine lv_aload_n hx hb dL_law_1108 rfl (lv_at hl 2 rfl) ?_
  refine lv_aload_n hx hb dL_law_1109 rfl (lv_at hl 3 rfl) ?_
  refine lv_iload_n hx hb dL_law_1110 rfl (lv_at hl 0 rfl) ?_
  refine lv_iconst (v := 1) hx hb dL_law_1111 (by decide) ?_
  refine lv_iadd hx hb dL_law_1112 ?_
  refine ix_i (y := 1) (by decide) ?_
  refine va_sld hx hb hX hbl hbA hS (in_lit (by decide)) dL_law_1113 ?_
  refine ro_calli (va_runV (As := [.int (xs (1 : Int32).toNatClampNeg)]) (rest := []) ⟨hx, hb, hml, hown, hts⟩ (c_X10_buy l G ct a rr (xs (1 : Int32).toNatClampNeg)) (cwV 1 hts gL_law_X10_buy rfl rfl rfl (by decide +kernel) ⟨Nat.le_of_ble_eq_true rfl, Nat.le_of_ble_eq_true rfl⟩) (ro_preV 10 0 hK hPx rfl rfl) rfl rfl hl.1 rfl (lv_room (Nat.le_of_ble_eq_true rfl)) dL_law_1114 ⟨Nat.le_of_ble_eq_true rfl, Nat.le_of_ble_eq_true rfl⟩) hS hPm (fun r1 H locs wr1 hPm hS => ?_)
  refine lv_aload_n hx hb dL_law_1117 rfl (lv_at hl 1 rfl) ?_
  refine lv_aload_n hx hb dL_law_1118 rfl (lv_at hl 3 rfl) ?_
  refine lv_iload_n hx hb dL_law_1119 rfl (lv_at hl 0 rfl) ?_
  refine lv_iconst (v := 1) hx hb dL_law_1120 (by decide) ?_
  refine lv_iadd hx hb dL_law_1121 ?_
  refine ix_i (y := 1) (by decide) ?_
  refine va_sld hx hb hX hbl hbA hS (in_lit (by decide)) dL_law_1122 ?_
  refine wq_calli (va_runV (As := [.int (xs (1 : Int32).toNatClampNeg)]) (rest := [.int r1]) ⟨hx, hb, hml, hown, hts⟩ (c_X11_buy l G ct bm (xs (1 : Int32).toNatClampNeg)) (cwV 1 hts gL_law_X11_buy rfl rfl rfl (by decide +kernel) ⟨Nat.le_of_ble_eq_true rfl, Nat.le_of_ble_eq_true rfl⟩) (wr_preV 11 0 hK hPm hDm rfl rfl) rfl rfl hl.1 rfl (lv_room (Nat.le_of_ble_eq_true rfl)) dL_law_1123 ⟨Nat.le_of_ble_eq_true rfl, Nat.le_of_ble_eq_true rfl⟩) hS (aset_D hDm) (fun r2 H locs wr2 hk hS => ?_)
  refine lv_icmp_eq (tgt := 2133) hx hb dL_law_1126 (by decide) (fun c_1 => ?_) (fun c_1 => ?_)
  · exact law_next l C1 rfl H locs hS ls (lv_sub hl [0, 3] rfl)
  · exact absurd (wr1.trans wr2.symm) c_1
set_option maxHeartbeats 4000000 in
set_option maxRecDepth 100000 in
theorem law_c31 {p : Program} {e : Env} {s : State} {m : MethodId} {below : List Frame} {meth : Method} {c : Code} (l : Launch) {b L : Nat} {xs : Nat → Int32} (C0 : lw_At p s m meth c b L xs) (h6 : L = 6) (G : va_G) (ct : Nat → ClassId) (a rr bm : Nat → Nat) (H : Heap) (locs : List Loc) (hK : KK G ct s) (hPx : va_P G vwCl (xF a rr ct) H) (hPm : va_P G vwCl (mF bm ct) H) (hDx : va_D (fun q : Nat => s.heap.size ≤ q) (xF a rr ct)) (hDm : va_D (fun q : Nat => s.heap.size ≤ q) (mF bm ct)) (hap : ∀ q, aset (xF a rr ct) q → ¬ aset (mF bm ct) q) (hS : va_S (fun q : Nat => s.heap.size ≤ q) s.heap H locs) (ls : Array Slot) (hl : lv_has ls 4 [(3, .int 0), (2, .ref (bm 0)), (1, .ref (a 0)), (0, .ref b)]) : W p l e room_1 s m #[Value.ref b] below meth c H locs 110 5410 (lw_Z below #[Value.ref b] s) (F0 m 1131 ls []) := by
  have C1 := C0
  obtain ⟨hx, hb, hr, hml, hown, hts, hX, hbl, hlocks, hgv⟩ := C0
  subst h6
  have hown : s.vm.findClass RL = some m.cls := hown
  have hts : ∀ z ∈ wsL_law, z.before #[Value.ref b] s = true := fun z h => hts z (wsL_law_in z h)
  have hbA : ¬ (fun q : Nat => s.heap.size ≤ q) b := Nat.not_le.mpr hbl
  refine lv_aload_n hx hb dL_law_1131 rfl (lv_at hl 2 rfl) ?_
  refine lv_aload_n hx hb dL_law_1132 rfl (lv_at hl 3 rfl) ?_
  refine lv_iload_n hx hb dL_law_1133 rfl (lv_at hl 0 rfl) ?_
  refine lv_iconst (v := 1) hx hb dL_law_1134 (by decide) ?_
  refine lv_iadd hx hb dL_law_1135 ?_
  refine ix_i (y := 1) (by decide) ?_
  refine va_sld hx hb hX hbl hbA hS (in_lit (by decide)) dL_law_1136 ?_
  refine ro_calli (va_runV (As := [.int (xs (1 : Int32).toNatClampNeg)]) (rest := []) ⟨hx, hb, hml, hown, hts⟩ (c_X10_bought l G ct a rr (xs (1 : Int32).toNatClampNeg)) (cwV 1 hts gL_law_X10_bought rfl rfl rfl (by decide +kernel) ⟨Nat.le_of_ble_eq_true rfl, Nat.le_of_ble_eq_true rfl⟩) (ro_preV 10 0 hK hPx rfl rfl) rfl rfl hl.1 rfl (lv_room (Nat.le_of_ble_eq_true rfl)) dL_law_1137 ⟨Nat.le_of_ble_eq_true rfl, Nat.le_of_ble_eq_true rfl⟩) hS hPm (fun r1 H locs wr1 hPm hS => ?_)
  refine lv_aload_n hx hb dL_law_1140 rfl (lv_at hl 1 rfl) ?_
  refine lv_aload_n hx hb dL_law_1141 rfl (lv_at hl 3 rfl) ?_
  refine lv_iload_n hx hb dL_law_1142 rfl (lv_at hl 0 rfl) ?_
  refine lv_iconst (v := 1) hx hb dL_law_1143 (by decide) ?_
  refine lv_iadd hx hb dL_law_1144 ?_
  refine ix_i (y := 1) (by decide) ?_
  refine va_sld hx hb hX hbl hbA hS (in_lit (by decide)) dL_law_1145 ?_
  refine wq_calli (va_runV (As := [.int (xs (1 : Int32).toNatClampNeg)]) (rest := [.int r1]) ⟨hx, hb, hml, hown, hts⟩ (c_X11_bought l G ct bm (xs (1 : Int32).toNatClampNeg)) (cwV 1 hts gL_law_X11_bought rfl rfl rfl (by decide +kernel) ⟨Nat.le_of_ble_eq_true rfl, Nat.le_of_ble_eq_true rfl⟩) (wr_preV 11 0 hK hPm hDm rfl rfl) rfl rfl hl.1 rfl (lv_room (Nat.le_of_ble_eq_true rfl)) dL_law_1146 ⟨Nat.le_of_ble_eq_true rfl, Nat.le_of_ble_eq_true rfl⟩) hS (aset_D hDm) (fun r2 H locs wr2 hk hS => ?_)
  refine lv_icmp_eq (tgt := 2133) hx hb dL_law_1149 (by decide) (fun c_1 => ?_) (fun c_1 => ?_)
  · exact law_next l C1 rfl H locs hS ls (lv_sub hl [0, 3] rfl)
  · exact absurd (wr1.trans wr2.symm) c_1
set_option maxHeartbeats 4000000 in
set_option maxRecDepth 100000 in
theorem law_c32 {p : Program} {e : Env} {s : State} {m : MethodId} {below : List Frame} {meth : Method} {c : Code} (l : Launch) {b L : Nat} {xs : Nat → Int32} (C0 : lw_At p s m meth c b L xs) (h6 : L = 6) (G : va_G) (ct : Nat → ClassId) (a rr bm : Nat → Nat) (H : Heap) (locs : List Loc) (hK : KK G ct s) (hPx : va_P G vwCl (xF a rr ct) H) (hPm : va_P G vwCl (mF bm ct) H) (hDx : va_D (fun q : Nat => s.heap.size ≤ q) (xF a rr ct)) (hDm : va_D (fun q : Nat => s.heap.size ≤ q) (mF bm ct)) (hap : ∀ q, aset (xF a rr ct) q → ¬ aset (mF bm ct) q) (hS : va_S (fun q : Nat => s.heap.size ≤ q) s.heap H locs) (ls : Array Slot) (hl : lv_has ls 4 [(3, .int 0), (2, .ref (bm 0)), (1, .ref (a 0)), (0, .ref b)]) : W p l e room_1 s m #[Value.ref b] below meth c H locs 110 5410 (lw_Z below #[Value.ref b] s) (F0 m 1154 ls []) := by
  have C1 := C0
  obtain ⟨hx, hb, hr, hml, hown, hts, hX, hbl, hlocks, hgv⟩ := C0
  subst h6
  have hown : s.vm.findClass RL = some m.cls := hown
  have hts : ∀ z ∈ wsL_law, z.before #[Value.ref b] s = true := fun z h => hts z (wsL_law_in z h)
  have hbA : ¬ (fun q : Nat => s.heap.size ≤ q) b := Nat.not_le.mpr hbl
  refine lv_aload_n hx hb dL_law_1154 rfl (lv_at hl 2 rfl) ?_
  refine lv_aload_n hx hb dL_law_1155 rfl (lv_at hl 3 rfl) ?_
  refine lv_iload_n hx hb dL_law_1156 rfl (lv_at hl 0 rfl) ?_
  refine lv_iconst (v := 1) hx hb dL_law_1157 (by decide) ?_
  refine lv_iadd hx hb dL_law_1158 ?_
  refine ix_i (y := 1) (by decide) ?_
  refine va_sld hx hb hX hbl hbA hS (in_lit (by decide)) dL_law_1159 ?_
  refine ro_calli (va_runV (As := [.int (xs (1 : Int32).toNatClampNeg)]) (rest := []) ⟨hx, hb, hml, hown, hts⟩ (c_X10_deeds l G ct a rr (xs (1 : Int32).toNatClampNeg)) (cwV 1 hts gL_law_X10_deeds rfl rfl rfl (by decide +kernel) ⟨Nat.le_of_ble_eq_true rfl, Nat.le_of_ble_eq_true rfl⟩) (ro_preV 10 0 hK hPx rfl rfl) rfl rfl hl.1 rfl (lv_room (Nat.le_of_ble_eq_true rfl)) dL_law_1160 ⟨Nat.le_of_ble_eq_true rfl, Nat.le_of_ble_eq_true rfl⟩) hS hPm (fun r1 H locs wr1 hPm hS => ?_)
  refine lv_aload_n hx hb dL_law_1163 rfl (lv_at hl 1 rfl) ?_
  refine lv_aload_n hx hb dL_law_1164 rfl (lv_at hl 3 rfl) ?_
  refine lv_iload_n hx hb dL_law_1165 rfl (lv_at hl 0 rfl) ?_
  refine lv_iconst (v := 1) hx hb dL_law_1166 (by decide) ?_
  refine lv_iadd hx hb dL_law_1167 ?_
  refine ix_i (y := 1) (by decide) ?_
  refine va_sld hx hb hX hbl hbA hS (in_lit (by decide)) dL_law_1168 ?_
  refine wq_calli (va_runV (As := [.int (xs (1 : Int32).toNatClampNeg)]) (rest := [.int r1]) ⟨hx, hb, hml, hown, hts⟩ (c_X11_deeds l G ct bm (xs (1 : Int32).toNatClampNeg)) (cwV 1 hts gL_law_X11_deeds rfl rfl rfl (by decide +kernel) ⟨Nat.le_of_ble_eq_true rfl, Nat.le_of_ble_eq_true rfl⟩) (wr_preV 11 0 hK hPm hDm rfl rfl) rfl rfl hl.1 rfl (lv_room (Nat.le_of_ble_eq_true rfl)) dL_law_1169 ⟨Nat.le_of_ble_eq_true rfl, Nat.le_of_ble_eq_true rfl⟩) hS (aset_D hDm) (fun r2 H locs wr2 hk hS => ?_)
  refine lv_icmp_eq (tgt := 2133) hx hb dL_law_1172 (by decide) (fun c_1 => ?_) (fun c_1 => ?_)
  · exact law_next l C1 rfl H locs hS ls (lv_sub hl [0, 3] rfl)
  · exact absurd (wr1.trans wr2.symm) c_1