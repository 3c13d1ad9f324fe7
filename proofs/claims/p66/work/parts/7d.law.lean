theorem dL_law_1664 : decode cL_law 1664 = .ok (.aload_n 1, 1) := by decide +kernel
theorem dL_law_1665 : decode cL_law 1665 = .ok (.aload_n 0, 1) := by decide +kernel
theorem dL_law_1666 : decode cL_law 1666 = .ok (.iload_n 3, 1) := by decide +kernel
theorem dL_law_1667 : decode cL_law 1667 = .ok (.iconst 1, 1) := by decide +kernel
theorem dL_law_1668 : decode cL_law 1668 = .ok (.iadd, 1) := by decide +kernel
theorem dL_law_1669 : decode cL_law 1669 = .ok (.iaload, 1) := by decide +kernel
set_option maxRecDepth 20000 in
theorem ggL_law_X10_judge : GoodIn wsL_law wsX10_judge := goodIn_s _ [(61, 4), (61, 5), (61, 6), (61, 7), (0, 2), (61, 8), (1, 7), (47, 7), (47, 8), (47, 9), (47, 10), (47, 11), (47, 12), (47, 13), (1, 6), (47, 14), (25, 23), (26, 0), (26, 1), (26, 2), (1, 0), (1, 11), (7, 22), (47, 15), (47, 16), (47, 17), (47, 18), (47, 19), (47, 20), (16, 19), (16, 20), (47, 21), (47, 22), (47, 23), (48, 0), (4, 10), (61, 9), (61, 10), (61, 11), (61, 12), (61, 13), (48, 14), (48, 2), (48, 3), (48, 4), (4, 8), (48, 5), (48, 6), (48, 7), (48, 8), (48, 9), (61, 14), (61, 15), (61, 16), (61, 17), (38, 5), (47, 6), (22, 16), (22, 17), (22, 18), (22, 19), (22, 0), (22, 6), (48, 1), (61, 18), (61, 19), (61, 20), (61, 21), (1, 12), (61, 22), (15, 2), (15, 3), (1, 10), (15, 4), (3, 23), (4, 2), (15, 5), (4, 0), (15, 6), (15, 7), (15, 8), (15, 9), (15, 10), (14, 16), (14, 17), (1, 15), (14, 18), (13, 11), (3, 9), (14, 19), (14, 12), (14, 13), (14, 14), (61, 23), (16, 15), (16, 16), (16, 17), (16, 18), (4, 1), (16, 9), (13, 18), (13, 19), (13, 20), (13, 7), (13, 8), (13, 9), (13, 10), (16, 3), (13, 4), (13, 5), (13, 6), (33, 16), (33, 17), (33, 18), (33, 19), (33, 20), (33, 21), (33, 22), (33, 23), (34, 0), (22, 13), (22, 14), (2, 16), (22, 15), (3, 0), (3, 3), (16, 2), (62, 0), (15, 18), (15, 19), (15, 20), (15, 21), (15, 22), (15, 23), (16, 0), (16, 1), (3, 5), (8, 13), (70, 0), (70, 1), (70, 2), (70, 3), (70, 4), (70, 5), (70, 6), (70, 7), (70, 8), (70, 9), (70, 10), (74, 0), (74, 1), (74, 2), (74, 3), (81, 0), (81, 1), (81, 2), (81, 3), (81, 4), (81, 5), (81, 6), (75, 0), (75, 1), (75, 2), (75, 3), (77, 0), (77, 1), (76, 0), (76, 1), (76, 2), (76, 3), (76, 4), (76, 5), (76, 6), (76, 7)] (by rfl) (by decide +kernel)
set_option maxRecDepth 20000 in
theorem gL_law_X10_judge : GoodIn wsL_law (wsV RL 227 RX10 yX10_judge wsX10_judge) := goodIn_app (goodIn_s _ [(61, 1), (61, 2), (61, 3), (0, 2)] (by rfl) (by decide +kernel)) ggL_law_X10_judge
theorem dL_law_1670 : decode cL_law 1670 = .ok (.invokevirtual 227, 3) := by decide +kernel
theorem dL_law_1673 : decode cL_law 1673 = .ok (.pop, 1) := by decide +kernel
theorem dL_law_1674 : decode cL_law 1674 = .ok (.aload_n 2, 1) := by decide +kernel
theorem dL_law_1675 : decode cL_law 1675 = .ok (.aload_n 0, 1) := by decide +kernel
theorem dL_law_1676 : decode cL_law 1676 = .ok (.iload_n 3, 1) := by decide +kernel
theorem dL_law_1677 : decode cL_law 1677 = .ok (.iconst 1, 1) := by decide +kernel
theorem dL_law_1678 : decode cL_law 1678 = .ok (.iadd, 1) := by decide +kernel
theorem dL_law_1679 : decode cL_law 1679 = .ok (.iaload, 1) := by decide +kernel
set_option maxRecDepth 20000 in
theorem ggL_law_X11_judge : GoodIn wsL_law wsX11_judge := goodIn_s _ [(62, 4), (6, 20), (62, 5), (62, 6), (62, 7), (0, 5), (62, 8), (5, 10), (5, 11), (5, 12), (18, 2), (49, 4), (49, 5), (49, 6), (38, 0), (7, 14), (7, 15), (7, 16), (26, 12), (26, 13), (26, 14), (26, 15), (5, 16), (23, 21), (23, 22), (23, 23), (24, 0), (5, 17), (31, 21), (31, 22), (31, 23), (32, 0), (62, 9), (62, 10), (62, 11), (62, 12), (24, 5), (24, 6), (24, 7), (24, 8), (5, 21), (5, 22), (5, 23), (23, 20), (24, 9), (24, 10), (24, 11), (24, 12), (24, 13), (24, 14), (24, 15), (5, 18), (25, 4), (25, 5), (25, 6), (25, 7), (25, 8), (25, 9), (25, 10), (34, 5), (34, 6), (34, 7), (34, 8), (24, 20), (24, 21), (24, 22), (24, 23), (25, 0), (25, 1), (25, 2), (25, 3), (71, 0), (71, 1), (71, 2), (71, 3), (71, 4), (71, 5), (71, 6), (71, 7), (71, 8), (71, 9), (71, 10), (71, 11), (71, 12), (71, 13), (71, 14), (71, 15), (71, 16), (71, 17), (71, 18), (71, 19), (71, 20), (71, 21), (71, 22), (71, 23), (71, 24), (71, 25), (71, 26), (71, 27), (71, 28), (71, 29), (71, 30)] (by rfl) (by decide +kernel)
set_option maxRecDepth 20000 in
theorem gL_law_X11_judge : GoodIn wsL_law (wsV RL 230 RX11 yX11_judge wsX11_judge) := goodIn_app (goodIn_s _ [(62, 1), (62, 2), (62, 3), (0, 5)] (by rfl) (by decide +kernel)) ggL_law_X11_judge
theorem dL_law_1680 : decode cL_law 1680 = .ok (.invokevirtual 230, 3) := by decide +kernel
theorem dL_law_1683 : decode cL_law 1683 = .ok (.pop, 1) := by decide +kernel
theorem dL_law_1684 : decode cL_law 1684 = .ok (.goto 449, 3) := by decide +kernel
theorem dL_law_1687 : decode cL_law 1687 = .ok (.aload_n 1, 1) := by decide +kernel
theorem dL_law_1688 : decode cL_law 1688 = .ok (.aload_n 0, 1) := by decide +kernel
theorem dL_law_1689 : decode cL_law 1689 = .ok (.iload_n 3, 1) := by decide +kernel
theorem dL_law_1690 : decode cL_law 1690 = .ok (.iconst 1, 1) := by decide +kernel
theorem dL_law_1691 : decode cL_law 1691 = .ok (.iadd, 1) := by decide +kernel
theorem dL_law_1692 : decode cL_law 1692 = .ok (.iaload, 1) := by decide +kernel
set_option maxRecDepth 20000 in
theorem ggL_law_X10_freed : GoodIn wsL_law wsX10_freed := goodIn_s _ [(62, 16), (1, 12), (22, 6), (61, 5), (61, 6), (61, 7), (0, 2), (61, 8), (1, 7), (47, 7), (47, 8), (47, 9), (47, 10), (47, 11), (47, 12), (47, 13), (1, 6), (47, 14), (25, 23), (26, 0), (26, 1), (26, 2), (1, 0), (1, 11), (7, 22), (47, 15), (47, 16), (47, 17), (47, 18), (47, 19), (47, 20), (16, 19), (16, 20), (47, 21), (47, 22), (47, 23), (48, 0), (4, 10), (61, 9), (61, 10), (61, 11), (61, 12), (61, 13), (48, 14), (48, 2), (48, 3), (48, 4), (4, 8), (48, 5), (48, 6), (48, 7), (48, 8), (48, 9), (61, 14), (61, 15), (61, 16), (61, 17), (38, 5), (47, 6), (22, 16), (22, 17), (22, 18), (22, 19), (22, 0), (48, 1), (61, 18), (61, 19), (61, 20), (61, 21), (61, 22), (15, 2), (15, 3), (1, 10), (15, 4), (3, 23), (4, 2), (15, 5), (4, 0), (15, 6), (15, 7), (15, 8), (15, 9), (15, 10), (14, 16), (14, 17), (1, 15), (14, 18), (13, 11), (3, 9), (14, 19), (14, 12), (14, 13), (14, 14), (61, 23), (16, 15), (16, 16), (16, 17), (16, 18), (4, 1), (16, 9), (13, 18), (13, 19), (13, 20), (13, 7), (13, 8), (13, 9), (13, 10), (16, 3), (13, 4), (13, 5), (13, 6), (33, 16), (33, 17), (33, 18), (33, 19), (33, 20), (33, 21), (33, 22), (33, 23), (34, 0), (22, 13), (22, 14), (2, 16), (22, 15), (3, 0), (3, 3), (16, 2), (62, 0), (15, 18), (15, 19), (15, 20), (15, 21), (15, 22), (15, 23), (16, 0), (16, 1), (3, 5), (8, 13), (26, 3), (26, 4), (26, 5), (26, 6), (26, 7), (22, 22), (22, 23), (23, 0), (23, 1), (70, 0), (70, 1), (70, 2), (70, 3), (70, 4), (70, 5), (70, 6), (70, 7), (70, 8), (70, 9), (70, 10), (76, 0), (76, 1), (76, 2), (76, 3), (76, 4), (76, 5), (76, 6), (76, 7), (74, 0), (74, 1), (74, 2), (74, 3), (81, 0), (81, 1), (81, 2), (81, 3), (81, 4), (81, 5), (81, 6), (75, 0), (75, 1), (75, 2), (75, 3), (77, 0), (77, 1)] (by rfl) (by decide +kernel)
set_option maxRecDepth 20000 in
theorem gL_law_X10_freed : GoodIn wsL_law (wsV RL 231 RX10 yX10_freed wsX10_freed) := goodIn_app (goodIn_s _ [(62, 13), (62, 14), (62, 15), (0, 2)] (by rfl) (by decide +kernel)) ggL_law_X10_freed
theorem dL_law_1693 : decode cL_law 1693 = .ok (.invokevirtual 231, 3) := by decide +kernel
theorem dL_law_1696 : decode cL_law 1696 = .ok (.pop, 1) := by decide +kernel
theorem dL_law_1697 : decode cL_law 1697 = .ok (.aload_n 2, 1) := by decide +kernel
theorem dL_law_1698 : decode cL_law 1698 = .ok (.aload_n 0, 1) := by decide +kernel
theorem dL_law_1699 : decode cL_law 1699 = .ok (.iload_n 3, 1) := by decide +kernel
theorem dL_law_1700 : decode cL_law 1700 = .ok (.iconst 1, 1) := by decide +kernel
theorem dL_law_1701 : decode cL_law 1701 = .ok (.iadd, 1) := by decide +kernel
theorem dL_law_1702 : decode cL_law 1702 = .ok (.iaload, 1) := by decide +kernel
set_option maxRecDepth 20000 in
theorem ggL_law_X11_freed : GoodIn wsL_law wsX11_freed := goodIn_s _ [(62, 20), (6, 20), (62, 5), (62, 6), (62, 7), (0, 5), (62, 8), (5, 10), (5, 11), (5, 12), (18, 2), (49, 4), (49, 5), (49, 6), (38, 0), (7, 14), (7, 15), (7, 16), (26, 12), (26, 13), (26, 14), (26, 15), (5, 16), (23, 21), (23, 22), (23, 23), (24, 0), (5, 17), (31, 21), (31, 22), (31, 23), (32, 0), (62, 9), (62, 10), (62, 11), (62, 12), (24, 5), (24, 6), (24, 7), (24, 8), (5, 21), (5, 22), (5, 23), (23, 20), (24, 9), (24, 10), (24, 11), (24, 12), (24, 13), (24, 14), (24, 15), (5, 18), (25, 4), (25, 5), (25, 6), (25, 7), (25, 8), (25, 9), (25, 10), (34, 5), (34, 6), (34, 7), (34, 8), (24, 20), (24, 21), (24, 22), (24, 23), (25, 0), (25, 1), (25, 2), (25, 3), (26, 16), (26, 17), (26, 18), (26, 19), (71, 0), (71, 1), (71, 2), (71, 3), (71, 4), (71, 5), (71, 6), (71, 7), (71, 8), (71, 9), (71, 10), (71, 11), (71, 12), (71, 13), (71, 14), (71, 15), (71, 16), (71, 17), (71, 18), (71, 19), (71, 20), (71, 21), (71, 22), (71, 23), (71, 24), (71, 25), (71, 26), (71, 27), (71, 28), (71, 29), (71, 30)] (by rfl) (by decide +kernel)
set_option maxRecDepth 20000 in
theorem gL_law_X11_freed : GoodIn wsL_law (wsV RL 234 RX11 yX11_freed wsX11_freed) := goodIn_app (goodIn_s _ [(62, 17), (62, 18), (62, 19), (0, 5)] (by rfl) (by decide +kernel)) ggL_law_X11_freed
theorem dL_law_1703 : decode cL_law 1703 = .ok (.invokevirtual 234, 3) := by decide +kernel
theorem dL_law_1706 : decode cL_law 1706 = .ok (.pop, 1) := by decide +kernel
theorem dL_law_1707 : decode cL_law 1707 = .ok (.goto 426, 3) := by decide +kernel
theorem dL_law_1710 : decode cL_law 1710 = .ok (.aload_n 1, 1) := by decide +kernel
theorem dL_law_1711 : decode cL_law 1711 = .ok (.aload_n 0, 1) := by decide +kernel
theorem dL_law_1712 : decode cL_law 1712 = .ok (.iload_n 3, 1) := by decide +kernel
theorem dL_law_1713 : decode cL_law 1713 = .ok (.iconst 1, 1) := by decide +kernel
theorem dL_law_1714 : decode cL_law 1714 = .ok (.iadd, 1) := by decide +kernel
theorem dL_law_1715 : decode cL_law 1715 = .ok (.iaload, 1) := by decide +kernel
theorem dL_law_1716 : decode cL_law 1716 = .ok (.aload_n 0, 1) := by decide +kernel
theorem dL_law_1717 : decode cL_law 1717 = .ok (.iload_n 3, 1) := by decide +kernel
theorem dL_law_1718 : decode cL_law 1718 = .ok (.iconst 2, 1) := by decide +kernel
theorem dL_law_1719 : decode cL_law 1719 = .ok (.iadd, 1) := by decide +kernel
theorem dL_law_1720 : decode cL_law 1720 = .ok (.iaload, 1) := by decide +kernel
set_option maxRecDepth 20000 in
theorem ggL_law_X10_drawn : GoodIn wsL_law wsX10_drawn := goodIn_s _ [(63, 0), (1, 20), (38, 5), (63, 1), (63, 2), (63, 3), (0, 2), (63, 4), (63, 5), (22, 2), (22, 3), (22, 4), (22, 5), (1, 0), (22, 0), (22, 6), (22, 7), (13, 8), (13, 9), (1, 15), (13, 10), (13, 11), (22, 16), (22, 17), (22, 18), (22, 19), (63, 6), (63, 7), (63, 8), (1, 19), (63, 9), (63, 10), (4, 16), (63, 11), (8, 23), (9, 0), (9, 1), (63, 12), (4, 17), (63, 13), (63, 14), (63, 15), (63, 16), (63, 17), (63, 18), (63, 19), (63, 20), (63, 21), (13, 4), (13, 5), (13, 6), (3, 9), (13, 7), (22, 20), (13, 18), (13, 19), (13, 20), (70, 0), (70, 1), (70, 2), (70, 3), (70, 4), (70, 5), (70, 6), (70, 7), (70, 8), (70, 9), (70, 10), (77, 0), (77, 1), (78, 0), (78, 1), (78, 2), (74, 0), (74, 1), (74, 2), (74, 3), (76, 0), (76, 1), (76, 2), (76, 3), (76, 4), (76, 5), (76, 6), (76, 7)] (by rfl) (by decide +kernel)
set_option maxRecDepth 20000 in
theorem gL_law_X10_drawn : GoodIn wsL_law (wsV RL 235 RX10 yX10_drawn wsX10_drawn) := goodIn_app (goodIn_s _ [(62, 21), (62, 22), (62, 23), (0, 2)] (by rfl) (by decide +kernel)) ggL_law_X10_drawn
theorem dL_law_1721 : decode cL_law 1721 = .ok (.invokevirtual 235, 3) := by decide +kernel
theorem dL_law_1724 : decode cL_law 1724 = .ok (.pop, 1) := by decide +kernel
theorem dL_law_1725 : decode cL_law 1725 = .ok (.aload_n 2, 1) := by decide +kernel
theorem dL_law_1726 : decode cL_law 1726 = .ok (.aload_n 0, 1) := by decide +kernel
theorem dL_law_1727 : decode cL_law 1727 = .ok (.iload_n 3, 1) := by decide +kernel
theorem dL_law_1728 : decode cL_law 1728 = .ok (.iconst 1, 1) := by decide +kernel
theorem dL_law_1729 : decode cL_law 1729 = .ok (.iadd, 1) := by decide +kernel
theorem dL_law_1730 : decode cL_law 1730 = .ok (.iaload, 1) := by decide +kernel
theorem dL_law_1731 : decode cL_law 1731 = .ok (.aload_n 0, 1) := by decide +kernel
theorem dL_law_1732 : decode cL_law 1732 = .ok (.iload_n 3, 1) := by decide +kernel
theorem dL_law_1733 : decode cL_law 1733 = .ok (.iconst 2, 1) := by decide +kernel
theorem dL_law_1734 : decode cL_law 1734 = .ok (.iadd, 1) := by decide +kernel
theorem dL_law_1735 : decode cL_law 1735 = .ok (.iaload, 1) := by decide +kernel
set_option maxRecDepth 20000 in
theorem ggL_law_X11_drawn : GoodIn wsL_law wsX11_drawn := goodIn_s _ [(64, 1), (6, 20), (5, 21), (64, 2), (64, 3), (0, 5), (64, 4), (64, 5), (7, 14), (7, 15), (7, 16), (23, 21), (23, 22), (23, 23), (24, 0), (5, 17), (64, 6), (64, 7), (64, 8), (64, 9), (5, 22), (64, 10), (64, 11), (64, 12), (64, 13), (71, 0), (71, 1), (71, 2), (71, 3), (71, 4), (71, 5), (71, 6), (71, 7), (71, 8), (71, 9), (71, 10), (71, 11), (71, 12), (71, 13), (71, 14), (71, 15), (71, 16), (71, 17), (71, 18), (71, 19), (71, 20), (71, 21), (71, 22), (71, 23), (71, 24), (71, 25), (71, 26), (71, 27), (71, 28), (71, 29), (71, 30)] (by rfl) (by decide +kernel)
set_option maxRecDepth 20000 in
theorem gL_law_X11_drawn : GoodIn wsL_law (wsV RL 238 RX11 yX11_drawn wsX11_drawn) := goodIn_app (goodIn_s _ [(63, 22), (63, 23), (64, 0), (0, 5)] (by rfl) (by decide +kernel)) ggL_law_X11_drawn
theorem dL_law_1736 : decode cL_law 1736 = .ok (.invokevirtual 238, 3) := by decide +kernel
theorem dL_law_1739 : decode cL_law 1739 = .ok (.pop, 1) := by decide +kernel
theorem dL_law_1740 : decode cL_law 1740 = .ok (.goto 393, 3) := by decide +kernel
theorem dL_law_1743 : decode cL_law 1743 = .ok (.aload_n 1, 1) := by decide +kernel
theorem dL_law_1744 : decode cL_law 1744 = .ok (.aload_n 0, 1) := by decide +kernel
theorem dL_law_1745 : decode cL_law 1745 = .ok (.iload_n 3, 1) := by decide +kernel
theorem dL_law_1746 : decode cL_law 1746 = .ok (.iconst 1, 1) := by decide +kernel
theorem dL_law_1747 : decode cL_law 1747 = .ok (.iadd, 1) := by decide +kernel
theorem dL_law_1748 : decode cL_law 1748 = .ok (.iaload, 1) := by decide +kernel
theorem dL_law_1749 : decode cL_law 1749 = .ok (.aload_n 0, 1) := by decide +kernel
theorem dL_law_1750 : decode cL_law 1750 = .ok (.iload_n 3, 1) := by decide +kernel
theorem dL_law_1751 : decode cL_law 1751 = .ok (.iconst 2, 1) := by decide +kernel
theorem dL_law_1752 : decode cL_law 1752 = .ok (.iadd, 1) := by decide +kernel
theorem dL_law_1753 : decode cL_law 1753 = .ok (.iaload, 1) := by decide +kernel
theorem dL_law_1754 : decode cL_law 1754 = .ok (.aload_n 0, 1) := by decide +kernel
theorem dL_law_1755 : decode cL_law 1755 = .ok (.iload_n 3, 1) := by decide +kernel
theorem dL_law_1756 : decode cL_law 1756 = .ok (.iconst 3, 1) := by decide +kernel
theorem dL_law_1757 : decode cL_law 1757 = .ok (.iadd, 1) := by decide +kernel
theorem dL_law_1758 : decode cL_law 1758 = .ok (.iaload, 1) := by decide +kernel
set_option maxRecDepth 20000 in
theorem ggL_law_X10_luck : GoodIn wsL_law wsX10_luck := goodIn_s _ [(64, 17), (1, 20), (38, 5), (63, 1), (63, 2), (63, 3), (0, 2), (63, 4), (63, 5), (64, 18), (64, 19), (64, 20), (22, 2), (22, 3), (22, 4), (22, 5), (1, 0), (22, 0), (22, 6), (22, 7), (13, 8), (13, 9), (1, 15), (13, 10), (13, 11), (22, 16), (22, 17), (22, 18), (22, 19), (63, 6), (63, 7), (63, 8), (1, 19), (63, 9), (63, 10), (4, 16), (63, 11), (8, 23), (9, 0), (9, 1), (63, 12), (4, 17), (63, 13), (63, 14), (63, 15), (63, 16), (63, 17), (63, 18), (63, 19), (63, 20), (63, 21), (13, 4), (13, 5), (13, 6), (3, 9), (13, 7), (22, 20), (13, 18), (13, 19), (13, 20), (70, 0), (70, 1), (70, 2), (70, 3), (70, 4), (70, 5), (70, 6), (70, 7), (70, 8), (70, 9), (70, 10), (77, 0), (77, 1), (78, 0), (78, 1), (78, 2), (74, 0), (74, 1), (74, 2), (74, 3), (76, 0), (76, 1), (76, 2), (76, 3), (76, 4), (76, 5), (76, 6), (76, 7)] (by rfl) (by decide +kernel)
set_option maxRecDepth 20000 in
theorem gL_law_X10_luck : GoodIn wsL_law (wsV RL 239 RX10 yX10_luck wsX10_luck) := goodIn_app (goodIn_s _ [(64, 14), (64, 15), (64, 16), (0, 2)] (by rfl) (by decide +kernel)) ggL_law_X10_luck
theorem dL_law_1759 : decode cL_law 1759 = .ok (.invokevirtual 239, 3) := by decide +kernel
theorem dL_law_1762 : decode cL_law 1762 = .ok (.pop, 1) := by decide +kernel
theorem dL_law_1763 : decode cL_law 1763 = .ok (.aload_n 2, 1) := by decide +kernel
theorem dL_law_1764 : decode cL_law 1764 = .ok (.aload_n 0, 1) := by decide +kernel
theorem dL_law_1765 : decode cL_law 1765 = .ok (.iload_n 3, 1) := by decide +kernel
theorem dL_law_1766 : decode cL_law 1766 = .ok (.iconst 1, 1) := by decide +kernel
theorem dL_law_1767 : decode cL_law 1767 = .ok (.iadd, 1) := by decide +kernel
theorem dL_law_1768 : decode cL_law 1768 = .ok (.iaload, 1) := by decide +kernel
theorem dL_law_1769 : decode cL_law 1769 = .ok (.aload_n 0, 1) := by decide +kernel
theorem dL_law_1770 : decode cL_law 1770 = .ok (.iload_n 3, 1) := by decide +kernel
theorem dL_law_1771 : decode cL_law 1771 = .ok (.iconst 2, 1) := by decide +kernel
theorem dL_law_1772 : decode cL_law 1772 = .ok (.iadd, 1) := by decide +kernel
theorem dL_law_1773 : decode cL_law 1773 = .ok (.iaload, 1) := by decide +kernel
theorem dL_law_1774 : decode cL_law 1774 = .ok (.aload_n 0, 1) := by decide +kernel
theorem dL_law_1775 : decode cL_law 1775 = .ok (.iload_n 3, 1) := by decide +kernel
theorem dL_law_1776 : decode cL_law 1776 = .ok (.iconst 3, 1) := by decide +kernel
theorem dL_law_1777 : decode cL_law 1777 = .ok (.iadd, 1) := by decide +kernel
theorem dL_law_1778 : decode cL_law 1778 = .ok (.iaload, 1) := by decide +kernel
set_option maxRecDepth 20000 in
theorem ggL_law_X11_luck : GoodIn wsL_law wsX11_luck := goodIn_s _ [(65, 0), (6, 20), (65, 1), (5, 21), (64, 2), (64, 3), (0, 5), (64, 4), (64, 5), (7, 14), (7, 15), (7, 16), (23, 21), (23, 22), (23, 23), (24, 0), (5, 17), (64, 6), (64, 7), (64, 8), (64, 9), (5, 22), (64, 10), (64, 11), (64, 12), (64, 13), (71, 0), (71, 1), (71, 2), (71, 3), (71, 4), (71, 5), (71, 6), (71, 7), (71, 8), (71, 9), (71, 10), (71, 11), (71, 12), (71, 13), (71, 14), (71, 15), (71, 16), (71, 17), (71, 18), (71, 19), (71, 20), (71, 21), (71, 22), (71, 23), (71, 24), (71, 25), (71, 26), (71, 27), (71, 28), (71, 29), (71, 30)] (by rfl) (by decide +kernel)
set_option maxRecDepth 20000 in
theorem gL_law_X11_luck : GoodIn wsL_law (wsV RL 242 RX11 yX11_luck wsX11_luck) := goodIn_app (goodIn_s _ [(64, 21), (64, 22), (64, 23), (0, 5)] (by rfl) (by decide +kernel)) ggL_law_X11_luck
theorem dL_law_1779 : decode cL_law 1779 = .ok (.invokevirtual 242, 3) := by decide +kernel
theorem dL_law_1782 : decode cL_law 1782 = .ok (.pop, 1) := by decide +kernel
theorem dL_law_1783 : decode cL_law 1783 = .ok (.goto 350, 3) := by decide +kernel
set_option maxHeartbeats 8000000 in
set_option maxRecDepth 100000 in
theorem law_c52 {p : Program} {e : Env} {s : State} {m : MethodId} {below : List Frame} {meth : Method} {c : Code} (l : Launch) {b L : Nat} {xs : Nat → Int32} (C0 : lw_At p s m meth c b L xs) (hL : L ≤ 3072) (k : Nat) (hk6 : k + 6 ≤ L) (G : va_G) (ct : Nat → ClassId) (a rr bm adK adV : Nat → Nat) (v : Nat → Nat → Int32) (f : Nat → Nat → Int32) (g : Nat → Nat → Int64) (v2 : Nat → Nat → Int32) (f2 : Nat → Nat → Int32) (g2 : Nat → Nat → Int64) (H : Heap) (locs : List Loc) (hK : KK G ct s) (hZ : SS adK adV (fun q : Nat => s.heap.size ≤ q) s s.heap) (hD0 : va_D (fun q : Nat => s.heap.size ≤ q) (xW a rr ct (fun _ _ => 0) (fun _ _ => 0) (fun _ _ => 0))) (hE0 : va_D (fun q : Nat => s.heap.size ≤ q) (mW bm ct (fun _ _ => 0) (fun _ _ => 0) (fun _ _ => 0))) (hap0 : wset a rr bm ct) (hIx : XI v f g) (hIm : MI v2 f2 g2) (hR : REL v f g v2 f2 g2) (hPx : va_P G vwCl (xW a rr ct v f g) H) (hPm : va_P G vwCl (mW bm ct v2 f2 g2) H) (hS : va_S (fun q : Nat => s.heap.size ≤ q) s.heap H locs) (ls : Array Slot) (hl : lv_has ls 4 [(3, .int (nI k)), (2, .ref (bm 0)), (1, .ref (a 0)), (0, .ref b)]) (kk : ∀ (v : Nat → Nat → Int32) (f : Nat → Nat → Int32) (g : Nat → Nat → Int64) (v2 : Nat → Nat → Int32) (f2 : Nat → Nat → Int32) (g2 : Nat → Nat → Int64) (H : Heap) (locs : List Loc) (ls : Array Slot), XI v f g → MI v2 f2 g2 → REL v f g v2 f2 g2 → va_P G vwCl (xW a rr ct v f g) H → va_P G vwCl (mW bm ct v2 f2 g2) H → va_S (fun q : Nat => s.heap.size ≤ q) s.heap H locs → lv_has ls 4 [(3, .int (nI k)), (2, .ref (bm 0)), (1, .ref (a 0)), (0, .ref b)] → W p l e room_1 s m #[Value.ref b] below meth c H locs 110 5410 (lw_Z below #[Value.ref b] s) (F0 m 2133 ls [])) : W p l e room_1 s m #[Value.ref b] below meth c H locs 110 5410 (lw_Z below #[Value.ref b] s) (F0 m 1664 ls []) := by
  obtain ⟨hx, hb, hr, hml, hown, hts, hX, hbl, hlocks, hgv⟩ := C0
  have hown : s.vm.findClass RL = some m.cls := hown
  have hts : ∀ z ∈ wsL_law, z.before #[Value.ref b] s = true := fun z h => hts z (wsL_law_in z h)
  have hbA : ¬ (fun q : Nat => s.heap.size ≤ q) b := Nat.not_le.mpr hbl
  have hDx : va_D (fun q : Nat => s.heap.size ≤ q) (xW a rr ct v f g) := hD0.ad (xW_ad ..)
  have hDm : va_D (fun q : Nat => s.heap.size ≤ q) (mW bm ct v2 f2 g2) := hE0.ad (mW_ad ..)
  have hap : ∀ q, aset (xW a rr ct v f g) q → ¬ aset (mW bm ct v2 f2 g2) q := fun q h1 h2 => hap0 q (aset_ad (xW_ad ..) h1) (aset_ad (mW_ad ..) h2)
  refine lv_aload_n hx hb dL_law_1664 rfl (lv_at hl 2 rfl) ?_
  refine lv_aload_n hx hb dL_law_1665 rfl (lv_at hl 3 rfl) ?_
  refine lv_iload_n hx hb dL_law_1666 rfl (lv_at hl 0 rfl) ?_
  refine lv_iconst (v := 1) hx hb dL_law_1667 (by decide) ?_
  refine lv_iadd hx hb dL_law_1668 ?_
  refine ix_i (y := nI (k + 1)) (nI_add k 1) ?_
  refine va_sld hx hb hX hbl hbA hS (vp_in_nI (n := k + 1) (by omega) (by omega)) dL_law_1669 ?_
  refine lw_callx (w1 := (fun u : SU => [((a 0), .inr (10, [.ref (a 1), .ref (a 3), .ref (a 11), .ref (a 25), .ref (a 68), .ref (a 69), .ref (a 77), .ref (a 82), .ref (a 84), .ref (a 88), .ref (a 91)])), ((a 11), .inr (4, [.ref (a 12), .ref (a 19), .ref (a 24), .int (v 11 3)])), ((a 12), .inr (9, [.ref (a 13), .ref (a 15), .ref (a 16), .ref (a 17), .ref (a 18), .int (v 12 5), .int (v 12 6)])), ((a 13), .inr (0, [.ref (a 14), .int (v 13 1)])), ((a 14), .inl (ct 0, 8, .inl (f 14))), ((a 16), .inl (ct 0, 8, .inl (f 16))), ((a 18), .inl (ct 0, 8, .inl (f 18))), ((a 19), .inr (2, [.ref (a 12), .ref (a 20), .ref (a 22), .ref (a 23), .int (v 19 4), .int (v 19 5), .int (v 19 6), .int (v 19 7)])), ((a 20), .inr (0, [.ref (a 21), .int (v 20 1)])), ((a 69), .inr (6, [.ref (a 70), .ref (a 75), .ref (a 76), .int (v 69 3)])), ((a 70), .inl (ct 5, 4, .inr (.inr (.inr (.inr (fun i => if i < 4 then some (rr i) else none)))))), ((rr 0), .inl (ct 3, 60, .inr (.inl (g 71)))), ((rr 1), .inl (ct 3, 60, .inr (.inl (g 72)))), ((rr 2), .inl (ct 3, 60, .inr (.inl (g 73)))), ((rr 3), .inl (ct 3, 60, .inr (.inl (g 74)))), ((a 76), .inl (ct 0, 4, .inl (f 76))), ((a 77), .inr (2, [.ref (a 12), .ref (a 78), .ref (a 80), .ref (a 81), .int (u.1 0), .int (u.1 1), .int (u.1 2), .int (u.1 3)])), ((a 78), .inr (0, [.ref (a 79), .int (u.1 4)])), ((a 79), .inl (ct 0, 8, .inl (u.2.1 0))), ((a 80), .inl (ct 0, 8, .inl (u.2.1 1))), ((a 81), .inl (ct 0, 8, .inl (f 81)))])) (va_runV (As := [.int (xs (nI (k + 1)).toNatClampNeg)]) (rest := []) ⟨hx, hb, hml, hown, hts⟩ (a_X10_judge l G ct (a 0) (a 1) (a 3) (a 11) (a 25) (a 68) (a 69) (a 77) (a 82) (a 84) (a 88) (a 91) (a 12) (a 19) (a 24) (v 11 3) (a 13) (a 15) (a 16) (a 17) (a 18) (v 12 5) (v 12 6) (a 14) (v 13 1) (f 14) (f 16) (f 18) (a 20) (a 22) (a 23) (v 19 4) (v 19 5) (v 19 6) (v 19 7) (a 21) (v 20 1) (a 70) (a 75) (a 76) (v 69 3) rr (g 71) (g 72) (g 73) (g 74) (f 76) (a 78) (a 80) (a 81) (v 77 4) (v 77 5) (v 77 6) (v 77 7) (a 79) (v 78 1) (f 79) (f 80) (f 81) (xs (nI (k + 1)).toNatClampNeg) hIx.2.2.1 hIx.2.2.2.1 hIx.2.2.2.2.2.2.2.2.2.2.1 hIx.2.2.2.2.2.2.2.2.2.2.2.1) (cwV 1 hts gL_law_X10_judge rfl rfl rfl (by decide +kernel) ⟨Nat.le_of_ble_eq_true rfl, Nat.le_of_ble_eq_true rfl⟩) (wr_preV 10 0 hK (hPx.sub [0, 11, 12, 13, 14, 16, 18, 19, 20, 69, 70, 71, 72, 73, 74, 76, 77, 78, 79, 80, 81] rfl) (hDx.sub [0, 11, 12, 13, 14, 16, 18, 19, 20, 69, 70, 71, 72, 73, 74, 76, 77, 78, 79, 80, 81] (by decide) rfl) rfl rfl) rfl rfl hl.1 rfl (lv_room (Nat.le_of_ble_eq_true rfl)) dL_law_1670 ⟨Nat.le_of_ble_eq_true rfl, Nat.le_of_ble_eq_true rfl⟩) hS hPx hDx hPm hap [0, 11, 12, 13, 14, 16, 18, 19, 20, 69, 70, 71, 72, 73, 74, 76, 77, 78, 79, 80, 81] rfl (fun r1 u1 H locs wr1 hPm hF hS => ?_)
  obtain ⟨r1p0, r1p1, r1p2, r1p3, r1p4, r1p5, -⟩ := wr1
  have hPx : va_P G vwCl (xW a rr ct (uv v [(77, 4, u1.1 0), (77, 5, u1.1 1), (77, 6, u1.1 2), (77, 7, u1.1 3), (78, 1, u1.1 4)]) (uf f [(79, u1.2.1 0), (80, u1.2.1 1)]) g) H := hF (xW a rr ct (uv v [(77, 4, u1.1 0), (77, 5, u1.1 1), (77, 6, u1.1 2), (77, 7, u1.1 3), (78, 1, u1.1 4)]) (uf f [(79, u1.2.1 0), (80, u1.2.1 1)]) g) rfl (fun k9 hk9 => xW_same a rr ct v (uv v [(77, 4, u1.1 0), (77, 5, u1.1 1), (77, 6, u1.1 2), (77, 7, u1.1 3), (78, 1, u1.1 4)]) f (uf f [(79, u1.2.1 0), (80, u1.2.1 1)]) g g k9 (uv_st hk9 (by rfl)) (uf_st hk9 (by rfl)) rfl)
  have hIx : XI (uv v [(77, 4, u1.1 0), (77, 5, u1.1 1), (77, 6, u1.1 2), (77, 7, u1.1 3), (78, 1, u1.1 4)]) (uf f [(79, u1.2.1 0), (80, u1.2.1 1)]) g := ⟨hIx.1, hIx.2.1, hIx.2.2.1, hIx.2.2.2.1, hIx.2.2.2.2.1, hIx.2.2.2.2.2.1, hIx.2.2.2.2.2.2.1, hIx.2.2.2.2.2.2.2.1, hIx.2.2.2.2.2.2.2.2.1, hIx.2.2.2.2.2.2.2.2.2.1, hIx.2.2.2.2.2.2.2.2.2.2.1, r1p5, hIx.2.2.2.2.2.2.2.2.2.2.2.2.1, hIx.2.2.2.2.2.2.2.2.2.2.2.2.2.1, hIx.2.2.2.2.2.2.2.2.2.2.2.2.2.2.1, hIx.2.2.2.2.2.2.2.2.2.2.2.2.2.2.2.1, trivial⟩
  have hap : ∀ q, aset (xW a rr ct (uv v [(77, 4, u1.1 0), (77, 5, u1.1 1), (77, 6, u1.1 2), (77, 7, u1.1 3), (78, 1, u1.1 4)]) (uf f [(79, u1.2.1 0), (80, u1.2.1 1)]) g) q → ¬ aset (mW bm ct v2 f2 g2) q := fun q h1 h2 => hap0 q (aset_ad (xW_ad ..) h1) (aset_ad (mW_ad ..) h2)
  refine lv_pop hx hb dL_law_1673 rfl ?_
  refine lv_aload_n hx hb dL_law_1674 rfl (lv_at hl 1 rfl) ?_
  refine lv_aload_n hx hb dL_law_1675 rfl (lv_at hl 3 rfl) ?_
  refine lv_iload_n hx hb dL_law_1676 rfl (lv_at hl 0 rfl) ?_
  refine lv_iconst (v := 1) hx hb dL_law_1677 (by decide) ?_
  refine lv_iadd hx hb dL_law_1678 ?_
  refine ix_i (y := nI (k + 1)) (nI_add k 1) ?_
  refine va_sld hx hb hX hbl hbA hS (vp_in_nI (n := k + 1) (by omega) (by omega)) dL_law_1679 ?_
  refine lw_callx (w1 := (fun u : SU => [((bm 0), .inr (11, [.int (u.1 0), .ref (bm 1), .ref (bm 2), .ref (bm 3), .ref (bm 4), .ref (bm 5), .int (v2 0 6), .int (v2 0 7), .int (v2 0 8), .int (v2 0 9), .int (v2 0 10), .long (g2 0 11), .int (v2 0 12), .int (v2 0 13), .int (v2 0 14), .int (v2 0 15), .ref (bm 6), .ref (bm 7), .ref (bm 8), .ref (bm 9), .ref (bm 10), .ref (bm 11), .ref (bm 12), .ref (bm 13), .int (u.1 1), .int (u.1 2), .int (u.1 3), .int (u.1 4), .ref (bm 14), .int (v2 0 29), .int (v2 0 30)])), ((bm 1), .inl (ct 0, 4, .inl (f2 1))), ((bm 2), .inl (ct 0, 4, .inl (f2 2))), ((bm 3), .inl (ct 3, 240, .inr (.inl (g2 3)))), ((bm 6), .inl (ct 0, 5, .inl (f2 6))), ((bm 7), .inl (ct 0, 15, .inl (f2 7))), ((bm 8), .inl (ct 0, 200, .inl (f2 8))), ((bm 11), .inl (ct 0, 8, .inl (u.2.1 0))), ((bm 12), .inl (ct 0, 8, .inl (u.2.1 1))), ((bm 13), .inl (ct 0, 8, .inl (u.2.1 2)))])) (va_runV (As := [.int (xs (nI (k + 1)).toNatClampNeg)]) (rest := []) ⟨hx, hb, hml, hown, hts⟩ (a_X11_judge l G ct (bm 0) (v2 0 0) (bm 1) (bm 2) (bm 3) (bm 4) (bm 5) (v2 0 6) (v2 0 7) (v2 0 8) (v2 0 9) (v2 0 10) (g2 0 11) (v2 0 12) (v2 0 13) (v2 0 14) (v2 0 15) (bm 6) (bm 7) (bm 8) (bm 9) (bm 10) (bm 11) (bm 12) (bm 13) (v2 0 24) (v2 0 25) (v2 0 26) (v2 0 27) (bm 14) (v2 0 29) (v2 0 30) (f2 1) (f2 2) (g2 3) (f2 6) (f2 7) (f2 8) (f2 11) (f2 12) (f2 13) (xs (nI (k + 1)).toNatClampNeg) hIm.1 hIm.2.1 hIm.2.2.1 hIm.2.2.2.1 hIm.2.2.2.2.2.1 hIm.2.2.2.2.2.2.1) (cwV 1 hts gL_law_X11_judge rfl rfl rfl (by decide +kernel) ⟨Nat.le_of_ble_eq_true rfl, Nat.le_of_ble_eq_true rfl⟩) (wr_preV 11 0 hK (hPm.sub [0, 1, 2, 3, 6, 7, 8, 11, 12, 13] rfl) (hDm.sub [0, 1, 2, 3, 6, 7, 8, 11, 12, 13] (by decide) rfl) rfl rfl) rfl rfl hl.1 rfl (lv_room (Nat.le_of_ble_eq_true rfl)) dL_law_1680 ⟨Nat.le_of_ble_eq_true rfl, Nat.le_of_ble_eq_true rfl⟩) hS hPm hDm hPx (fun q h1 h2 => hap q h2 h1) [0, 1, 2, 3, 6, 7, 8, 11, 12, 13] rfl (fun r2 u2 H locs wr2 hPx hF hS => ?_)
  obtain ⟨r2p0, r2p1, r2p2, r2p3, r2p4, r2p5, -⟩ := wr2
  have hPm : va_P G vwCl (mW bm ct (uv v2 [(0, 0, u2.1 0), (0, 24, u2.1 1), (0, 25, u2.1 2), (0, 26, u2.1 3), (0, 27, u2.1 4)]) (uf f2 [(11, u2.2.1 0), (12, u2.2.1 1), (13, u2.2.1 2)]) g2) H := hF (mW bm ct (uv v2 [(0, 0, u2.1 0), (0, 24, u2.1 1), (0, 25, u2.1 2), (0, 26, u2.1 3), (0, 27, u2.1 4)]) (uf f2 [(11, u2.2.1 0), (12, u2.2.1 1), (13, u2.2.1 2)]) g2) rfl (fun k9 hk9 => mW_same bm ct v2 (uv v2 [(0, 0, u2.1 0), (0, 24, u2.1 1), (0, 25, u2.1 2), (0, 26, u2.1 3), (0, 27, u2.1 4)]) f2 (uf f2 [(11, u2.2.1 0), (12, u2.2.1 1), (13, u2.2.1 2)]) g2 g2 k9 (uv_st hk9 (by rfl)) (uf_st hk9 (by rfl)) rfl)
  have hIm : MI (uv v2 [(0, 0, u2.1 0), (0, 24, u2.1 1), (0, 25, u2.1 2), (0, 26, u2.1 3), (0, 27, u2.1 4)]) (uf f2 [(11, u2.2.1 0), (12, u2.2.1 1), (13, u2.2.1 2)]) g2 := ⟨hIm.1, hIm.2.1, hIm.2.2.1, hIm.2.2.2.1, hIm.2.2.2.2.1, r2p3, r2p4, trivial⟩
  refine lv_pop hx hb dL_law_1683 rfl ?_
  refine lv_goto (tgt := 2133) hx hb dL_law_1684 (by decide) ?_
  exact kk (uv v [(77, 4, u1.1 0), (77, 5, u1.1 1), (77, 6, u1.1 2), (77, 7, u1.1 3), (78, 1, u1.1 4)]) (uf f [(79, u1.2.1 0), (80, u1.2.1 1)]) g (uv v2 [(0, 0, u2.1 0), (0, 24, u2.1 1), (0, 25, u2.1 2), (0, 26, u2.1 3), (0, 27, u2.1 4)]) (uf f2 [(11, u2.2.1 0), (12, u2.2.1 1), (13, u2.2.1 2)]) g2 H locs ls hIx hIm hR hPx hPm hS hl
set_option maxHeartbeats 8000000 in
set_option maxRecDepth 100000 in
theorem law_c53 {p : Program} {e : Env} {s : State} {m : MethodId} {below : List Frame} {meth : Method} {c : Code} (l : Launch) {b L : Nat} {xs : Nat → Int32} (C0 : lw_At p s m meth c b L xs) (hL : L ≤ 3072) (k : Nat) (hk6 : k + 6 ≤ L) (G : va_G) (ct : Nat → ClassId) (a rr bm adK adV : Nat → Nat) (v : Nat → Nat → Int32) (f : Nat → Nat → Int32) (g : Nat → Nat → Int64) (v2 : Nat → Nat → Int32) (f2 : Nat → Nat → Int32) (g2 : Nat → Nat → Int64) (H : Heap) (locs : List Loc) (hK : KK G ct s) (hZ : SS adK adV (fun q : Nat => s.heap.size ≤ q) s s.heap) (hD0 : va_D (fun q : Nat => s.heap.size ≤ q) (xW a rr ct (fun _ _ => 0) (fun _ _ => 0) (fun _ _ => 0))) (hE0 : va_D (fun q : Nat => s.heap.size ≤ q) (mW bm ct (fun _ _ => 0) (fun _ _ => 0) (fun _ _ => 0))) (hap0 : wset a rr bm ct) (hIx : XI v f g) (hIm : MI v2 f2 g2) (hR : REL v f g v2 f2 g2) (hPx : va_P G vwCl (xW a rr ct v f g) H) (hPm : va_P G vwCl (mW bm ct v2 f2 g2) H) (hS : va_S (fun q : Nat => s.heap.size ≤ q) s.heap H locs) (ls : Array Slot) (hl : lv_has ls 4 [(3, .int (nI k)), (2, .ref (bm 0)), (1, .ref (a 0)), (0, .ref b)]) (kk : ∀ (v : Nat → Nat → Int32) (f : Nat → Nat → Int32) (g : Nat → Nat → Int64) (v2 : Nat → Nat → Int32) (f2 : Nat → Nat → Int32) (g2 : Nat → Nat → Int64) (H : Heap) (locs : List Loc) (ls : Array Slot), XI v f g → MI v2 f2 g2 → REL v f g v2 f2 g2 → va_P G vwCl (xW a rr ct v f g) H → va_P G vwCl (mW bm ct v2 f2 g2) H → va_S (fun q : Nat => s.heap.size ≤ q) s.heap H locs → lv_has ls 4 [(3, .int (nI k)), (2, .ref (bm 0)), (1, .ref (a 0)), (0, .ref b)] → W p l e room_1 s m #[Value.ref b] below meth c H locs 110 5410 (lw_Z below #[Value.ref b] s) (F0 m 2133 ls [])) : W p l e room_1 s m #[Value.ref b] below meth c H locs 110 5410 (lw_Z below #[Value.ref b] s) (F0 m 1687 ls []) := by
  obtain ⟨hx, hb, hr, hml, hown, hts, hX, hbl, hlocks, hgv⟩ := C0
  have hown : s.vm.findClass RL = some m.cls := hown
  have hts : ∀ z ∈ wsL_law, z.before #[Value.ref b] s = true := fun z h => hts z (wsL_law_in z h)
  have hbA : ¬ (fun q : Nat => s.heap.size ≤ q) b := Nat.not_le.mpr hbl
  have hDx : va_D (fun q : Nat => s.heap.size ≤ q) (xW a rr ct v f g) := hD0.ad (xW_ad ..)
  have hDm : va_D (fun q : Nat => s.heap.size ≤ q) (mW bm ct v2 f2 g2) := hE0.ad (mW_ad ..)
  have hap : ∀ q, aset (xW a rr ct v f g) q → ¬ aset (mW bm ct v2 f2 g2) q := fun q h1 h2 => hap0 q (aset_ad (xW_ad ..) h1) (aset_ad (mW_ad ..) h2)
  refine lv_aload_n hx hb dL_law_1687 rfl (lv_at hl 2 rfl) ?_
  refine lv_aload_n hx hb dL_law_1688 rfl (lv_at hl 3 rfl) ?_
  refine lv_iload_n hx hb dL_law_1689 rfl (lv_at hl 0 rfl) ?_
  refine lv_iconst (v := 1) hx hb dL_law_1690 (by decide) ?_
  refine lv_iadd hx hb dL_law_1691 ?_
  refine ix_i (y := nI (k + 1)) (nI_add k 1) ?_
  refine va_sld hx hb hX hbl hbA hS (vp_in_nI (n := k + 1) (by omega) (by omega)) dL_law_1692 ?_
  refine lw_callx (w1 := (fun u : SU => [((a 0), .inr (10, [.ref (a 1), .ref (a 3), .ref (a 11), .ref (a 25), .ref (a 68), .ref (a 69), .ref (a 77), .ref (a 82), .ref (a 84), .ref (a 88), .ref (a 91)])), ((a 11), .inr (4, [.ref (a 12), .ref (a 19), .ref (a 24), .int (v 11 3)])), ((a 12), .inr (9, [.ref (a 13), .ref (a 15), .ref (a 16), .ref (a 17), .ref (a 18), .int (v 12 5), .int (v 12 6)])), ((a 13), .inr (0, [.ref (a 14), .int (v 13 1)])), ((a 14), .inl (ct 0, 8, .inl (f 14))), ((a 16), .inl (ct 0, 8, .inl (f 16))), ((a 18), .inl (ct 0, 8, .inl (f 18))), ((a 19), .inr (2, [.ref (a 12), .ref (a 20), .ref (a 22), .ref (a 23), .int (v 19 4), .int (v 19 5), .int (v 19 6), .int (v 19 7)])), ((a 20), .inr (0, [.ref (a 21), .int (v 20 1)])), ((a 69), .inr (6, [.ref (a 70), .ref (a 75), .ref (a 76), .int (v 69 3)])), ((a 70), .inl (ct 5, 4, .inr (.inr (.inr (.inr (fun i => if i < 4 then some (rr i) else none)))))), ((rr 0), .inl (ct 3, 60, .inr (.inl (g 71)))), ((rr 1), .inl (ct 3, 60, .inr (.inl (g 72)))), ((rr 2), .inl (ct 3, 60, .inr (.inl (g 73)))), ((rr 3), .inl (ct 3, 60, .inr (.inl (g 74)))), ((a 76), .inl (ct 0, 4, .inl (f 76))), ((a 77), .inr (2, [.ref (a 12), .ref (a 78), .ref (a 80), .ref (a 81), .int (u.1 0), .int (u.1 1), .int (u.1 2), .int (u.1 3)])), ((a 78), .inr (0, [.ref (a 79), .int (u.1 4)])), ((a 79), .inl (ct 0, 8, .inl (u.2.1 0))), ((a 80), .inl (ct 0, 8, .inl (u.2.1 1))), ((a 81), .inl (ct 0, 8, .inl (f 81)))])) (va_runV (As := [.int (xs (nI (k + 1)).toNatClampNeg)]) (rest := []) ⟨hx, hb, hml, hown, hts⟩ (a_X10_freed l G ct (a 0) (a 1) (a 3) (a 11) (a 25) (a 68) (a 69) (a 77) (a 82) (a 84) (a 88) (a 91) (a 12) (a 19) (a 24) (v 11 3) (a 13) (a 15) (a 16) (a 17) (a 18) (v 12 5) (v 12 6) (a 14) (v 13 1) (f 14) (f 16) (f 18) (a 20) (a 22) (a 23) (v 19 4) (v 19 5) (v 19 6) (v 19 7) (a 21) (v 20 1) (a 70) (a 75) (a 76) (v 69 3) rr (g 71) (g 72) (g 73) (g 74) (f 76) (a 78) (a 80) (a 81) (v 77 4) (v 77 5) (v 77 6) (v 77 7) (a 79) (v 78 1) (f 79) (f 80) (f 81) (xs (nI (k + 1)).toNatClampNeg) hIx.2.2.1 hIx.2.2.2.1 hIx.2.2.2.2.2.2.2.2.2.2.1 hIx.2.2.2.2.2.2.2.2.2.2.2.1) (cwV 1 hts gL_law_X10_freed rfl rfl rfl (by decide +kernel) ⟨Nat.le_of_ble_eq_true rfl, Nat.le_of_ble_eq_true rfl⟩) (wr_preV 10 0 hK (hPx.sub [0, 11, 12, 13, 14, 16, 18, 19, 20, 69, 70, 71, 72, 73, 74, 76, 77, 78, 79, 80, 81] rfl) (hDx.sub [0, 11, 12, 13, 14, 16, 18, 19, 20, 69, 70, 71, 72, 73, 74, 76, 77, 78, 79, 80, 81] (by decide) rfl) rfl rfl) rfl rfl hl.1 rfl (lv_room (Nat.le_of_ble_eq_true rfl)) dL_law_1693 ⟨Nat.le_of_ble_eq_true rfl, Nat.le_of_ble_eq_true rfl⟩) hS hPx hDx hPm hap [0, 11, 12, 13, 14, 16, 18, 19, 20, 69, 70, 71, 72, 73, 74, 76, 77, 78, 79, 80, 81] rfl (fun r1 u1 H locs wr1 hPm hF hS => ?_)
  obtain ⟨r1p0, r1p1, r1p2, r1p3, r1p4, r1p5, -⟩ := wr1
  have hPx : va_P G vwCl (xW a rr ct (uv v [(77, 4, u1.1 0), (77, 5, u1.1 1), (77, 6, u1.1 2), (77, 7, u1.1 3), (78, 1, u1.1 4)]) (uf f [(79, u1.2.1 0), (80, u1.2.1 1)]) g) H := hF (xW a rr ct (uv v [(77, 4, u1.1 0), (77, 5, u1.1 1), (77, 6, u1.1 2), (77, 7, u1.1 3), (78, 1, u1.1 4)]) (uf f [(79, u1.2.1 0), (80, u1.2.1 1)]) g) rfl (fun k9 hk9 => xW_same a rr ct v (uv v [(77, 4, u1.1 0), (77, 5, u1.1 1), (77, 6, u1.1 2), (77, 7, u1.1 3), (78, 1, u1.1 4)]) f (uf f [(79, u1.2.1 0), (80, u1.2.1 1)]) g g k9 (uv_st hk9 (by rfl)) (uf_st hk9 (by rfl)) rfl)
  have hIx : XI (uv v [(77, 4, u1.1 0), (77, 5, u1.1 1), (77, 6, u1.1 2), (77, 7, u1.1 3), (78, 1, u1.1 4)]) (uf f [(79, u1.2.1 0), (80, u1.2.1 1)]) g := ⟨hIx.1, hIx.2.1, hIx.2.2.1, hIx.2.2.2.1, hIx.2.2.2.2.1, hIx.2.2.2.2.2.1, hIx.2.2.2.2.2.2.1, hIx.2.2.2.2.2.2.2.1, hIx.2.2.2.2.2.2.2.2.1, hIx.2.2.2.2.2.2.2.2.2.1, hIx.2.2.2.2.2.2.2.2.2.2.1, r1p5, hIx.2.2.2.2.2.2.2.2.2.2.2.2.1, hIx.2.2.2.2.2.2.2.2.2.2.2.2.2.1, hIx.2.2.2.2.2.2.2.2.2.2.2.2.2.2.1, hIx.2.2.2.2.2.2.2.2.2.2.2.2.2.2.2.1, trivial⟩
  have hap : ∀ q, aset (xW a rr ct (uv v [(77, 4, u1.1 0), (77, 5, u1.1 1), (77, 6, u1.1 2), (77, 7, u1.1 3), (78, 1, u1.1 4)]) (uf f [(79, u1.2.1 0), (80, u1.2.1 1)]) g) q → ¬ aset (mW bm ct v2 f2 g2) q := fun q h1 h2 => hap0 q (aset_ad (xW_ad ..) h1) (aset_ad (mW_ad ..) h2)
  refine lv_pop hx hb dL_law_1696 rfl ?_
  refine lv_aload_n hx hb dL_law_1697 rfl (lv_at hl 1 rfl) ?_
  refine lv_aload_n hx hb dL_law_1698 rfl (lv_at hl 3 rfl) ?_
  refine lv_iload_n hx hb dL_law_1699 rfl (lv_at hl 0 rfl) ?_
  refine lv_iconst (v := 1) hx hb dL_law_1700 (by decide) ?_
  refine lv_iadd hx hb dL_law_1701 ?_
  refine ix_i (y := nI (k + 1)) (nI_add k 1) ?_
  refine va_sld hx hb hX hbl hbA hS (vp_in_nI (n := k + 1) (by omega) (by omega)) dL_law_1702 ?_
  refine lw_callx (w1 := (fun u : SU => [((bm 0), .inr (11, [.int (u.1 0), .ref (bm 1), .ref (bm 2), .ref (bm 3), .ref (bm 4), .ref (bm 5), .int (v2 0 6), .int (v2 0 7), .int (v2 0 8), .int (v2 0 9), .int (v2 0 10), .long (g2 0 11), .int (v2 0 12), .int (v2 0 13), .int (v2 0 14), .int (v2 0 15), .ref (bm 6), .ref (bm 7), .ref (bm 8), .ref (bm 9), .ref (bm 10), .ref (bm 11), .ref (bm 12), .ref (bm 13), .int (u.1 1), .int (u.1 2), .int (u.1 3), .int (u.1 4), .ref (bm 14), .int (v2 0 29), .int (v2 0 30)])), ((bm 1), .inl (ct 0, 4, .inl (f2 1))), ((bm 2), .inl (ct 0, 4, .inl (f2 2))), ((bm 3), .inl (ct 3, 240, .inr (.inl (g2 3)))), ((bm 6), .inl (ct 0, 5, .inl (f2 6))), ((bm 7), .inl (ct 0, 15, .inl (f2 7))), ((bm 8), .inl (ct 0, 200, .inl (f2 8))), ((bm 11), .inl (ct 0, 8, .inl (u.2.1 0))), ((bm 12), .inl (ct 0, 8, .inl (u.2.1 1))), ((bm 13), .inl (ct 0, 8, .inl (u.2.1 2)))])) (va_runV (As := [.int (xs (nI (k + 1)).toNatClampNeg)]) (rest := []) ⟨hx, hb, hml, hown, hts⟩ (a_X11_freed l G ct (bm 0) (v2 0 0) (bm 1) (bm 2) (bm 3) (bm 4) (bm 5) (v2 0 6) (v2 0 7) (v2 0 8) (v2 0 9) (v2 0 10) (g2 0 11) (v2 0 12) (v2 0 13) (v2 0 14) (v2 0 15) (bm 6) (bm 7) (bm 8) (bm 9) (bm 10) (bm 11) (bm 12) (bm 13) (v2 0 24) (v2 0 25) (v2 0 26) (v2 0 27) (bm 14) (v2 0 29) (v2 0 30) (f2 1) (f2 2) (g2 3) (f2 6) (f2 7) (f2 8) (f2 11) (f2 12) (f2 13) (xs (nI (k + 1)).toNatClampNeg) hIm.1 hIm.2.1 hIm.2.2.1 hIm.2.2.2.1 hIm.2.2.2.2.2.1 hIm.2.2.2.2.2.2.1) (cwV 1 hts gL_law_X11_freed rfl rfl rfl (by decide +kernel) ⟨Nat.le_of_ble_eq_true rfl, Nat.le_of_ble_eq_true rfl⟩) (wr_preV 11 0 hK (hPm.sub [0, 1, 2, 3, 6, 7, 8, 11, 12, 13] rfl) (hDm.sub [0, 1, 2, 3, 6, 7, 8, 11, 12, 13] (by decide) rfl) rfl rfl) rfl rfl hl.1 rfl (lv_room (Nat.le_of_ble_eq_true rfl)) dL_law_1703 ⟨Nat.le_of_ble_eq_true rfl, Nat.le_of_ble_eq_true rfl⟩) hS hPm hDm hPx (fun q h1 h2 => hap q h2 h1) [0, 1, 2, 3, 6, 7, 8, 11, 12, 13] rfl (fun r2 u2 H locs wr2 hPx hF hS => ?_)
  obtain ⟨r2p0, r2p1, r2p2, r2p3, r2p4, r2p5, -⟩ := wr2
  have hPm : va_P G vwCl (mW bm ct (uv v2 [(0, 0, u2.1 0), (0, 24, u2.1 1), (0, 25, u2.1 2), (0, 26, u2.1 3), (0, 27, u2.1 4)]) (uf f2 [(11, u2.2.1 0), (12, u2.2.1 1), (13, u2.2.1 2)]) g2) H := hF (mW bm ct (uv v2 [(0, 0, u2.1 0), (0, 24, u2.1 1), (0, 25, u2.1 2), (0, 26, u2.1 3), (0, 27, u2.1 4)]) (uf f2 [(11, u2.2.1 0), (12, u2.2.1 1), (13, u2.2.1 2)]) g2) rfl (fun k9 hk9 => mW_same bm ct v2 (uv v2 [(0, 0, u2.1 0), (0, 24, u2.1 1), (0, 25, u2.1 2), (0, 26, u2.1 3), (0, 27, u2.1 4)]) f2 (uf f2 [(11, u2.2.1 0), (12, u2.2.1 1), (13, u2.2.1 2)]) g2 g2 k9 (uv_st hk9 (by rfl)) (uf_st hk9 (by rfl)) rfl)
  have hIm : MI (uv v2 [(0, 0, u2.1 0), (0, 24, u2.1 1), (0, 25, u2.1 2), (0, 26, u2.1 3), (0, 27, u2.1 4)]) (uf f2 [(11, u2.2.1 0), (12, u2.2.1 1), (13, u2.2.1 2)]) g2 := ⟨hIm.1, hIm.2.1, hIm.2.2.1, hIm.2.2.2.1, hIm.2.2.2.2.1, r2p3, r2p4, trivial⟩
  refine lv_pop hx hb dL_law_1706 rfl ?_
  refine lv_goto (tgt := 2133) hx hb dL_law_1707 (by decide) ?_
  exact kk (uv v [(77, 4, u1.1 0), (77, 5, u1.1 1), (77, 6, u1.1 2), (77, 7, u1.1 3), (78, 1, u1.1 4)]) (uf f [(79, u1.2.1 0), (80, u1.2.1 1)]) g (uv v2 [(0, 0, u2.1 0), (0, 24, u2.1 1), (0, 25, u2.1 2), (0, 26, u2.1 3), (0, 27, u2.1 4)]) (uf f2 [(11, u2.2.1 0), (12, u2.2.1 1), (13, u2.2.1 2)]) g2 H locs ls hIx hIm hR hPx hPm hS hl
set_option maxHeartbeats 8000000 in
set_option maxRecDepth 100000 in
theorem law_c54 {p : Program} {e : Env} {s : State} {m : MethodId} {below : List Frame} {meth : Method} {c : Code} (l : Launch) {b L : Nat} {xs : Nat → Int32} (C0 : lw_At p s m meth c b L xs) (hL : L ≤ 3072) (k : Nat) (hk6 : k + 6 ≤ L) (G : va_G) (ct : Nat → ClassId) (a rr bm adK adV : Nat → Nat) (v : Nat → Nat → Int32) (f : Nat → Nat → Int32) (g : Nat → Nat → Int64) (v2 : Nat → Nat → Int32) (f2 : Nat → Nat → Int32) (g2 : Nat → Nat → Int64) (H : Heap) (locs : List Loc) (hK : KK G ct s) (hZ : SS adK adV (fun q : Nat => s.heap.size ≤ q) s s.heap) (hD0 : va_D (fun q : Nat => s.heap.size ≤ q) (xW a rr ct (fun _ _ => 0) (fun _ _ => 0) (fun _ _ => 0))) (hE0 : va_D (fun q : Nat => s.heap.size ≤ q) (mW bm ct (fun _ _ => 0) (fun _ _ => 0) (fun _ _ => 0))) (hap0 : wset a rr bm ct) (hIx : XI v f g) (hIm : MI v2 f2 g2) (hR : REL v f g v2 f2 g2) (hPx : va_P G vwCl (xW a rr ct v f g) H) (hPm : va_P G vwCl (mW bm ct v2 f2 g2) H) (hS : va_S (fun q : Nat => s.heap.size ≤ q) s.heap H locs) (ls : Array Slot) (hl : lv_has ls 4 [(3, .int (nI k)), (2, .ref (bm 0)), (1, .ref (a 0)), (0, .ref b)]) (kk : ∀ (v : Nat → Nat → Int32) (f : Nat → Nat → Int32) (g : Nat → Nat → Int64) (v2 : Nat → Nat → Int32) (f2 : Nat → Nat → Int32) (g2 : Nat → Nat → Int64) (H : Heap) (locs : List Loc) (ls : Array Slot), XI v f g → MI v2 f2 g2 → REL v f g v2 f2 g2 → va_P G vwCl (xW a rr ct v f g) H → va_P G vwCl (mW bm ct v2 f2 g2) H → va_S (fun q : Nat => s.heap.size ≤ q) s.heap H locs → lv_has ls 4 [(3, .int (nI k)), (2, .ref (bm 0)), (1, .ref (a 0)), (0, .ref b)] → W p l e room_1 s m #[Value.ref b] below meth c H locs 110 5410 (lw_Z below #[Value.ref b] s) (F0 m 2133 ls [])) : W p l e room_1 s m #[Value.ref b] below meth c H locs 110 5410 (lw_Z below #[Value.ref b] s) (F0 m 1710 ls []) := by
  obtain ⟨hx, hb, hr, hml, hown, hts, hX, hbl, hlocks, hgv⟩ := C0
  have hown : s.vm.findClass RL = some m.cls := hown
  have hts : ∀ z ∈ wsL_law, z.before #[Value.ref b] s = true := fun z h => hts z (wsL_law_in z h)
  have hbA : ¬ (fun q : Nat => s.heap.size ≤ q) b := Nat.not_le.mpr hbl
  have hDx : va_D (fun q : Nat => s.heap.size ≤ q) (xW a rr ct v f g) := hD0.ad (xW_ad ..)
  have hDm : va_D (fun q : Nat => s.heap.size ≤ q) (mW bm ct v2 f2 g2) := hE0.ad (mW_ad ..)
  have hap : ∀ q, aset (xW a rr ct v f g) q → ¬ aset (mW bm ct v2 f2 g2) q := fun q h1 h2 => hap0 q (aset_ad (xW_ad ..) h1) (aset_ad (mW_ad ..) h2)
  refine lv_aload_n hx hb dL_law_1710 rfl (lv_at hl 2 rfl) ?_
  refine lv_aload_n hx hb dL_law_1711 rfl (lv_at hl 3 rfl) ?_
  refine lv_iload_n hx hb dL_law_1712 rfl (lv_at hl 0 rfl) ?_
  refine lv_iconst (v := 1) hx hb dL_law_1713 (by decide) ?_
  refine lv_iadd hx hb dL_law_1714 ?_
  refine ix_i (y := nI (k + 1)) (nI_add k 1) ?_
  refine va_sld hx hb hX hbl hbA hS (vp_in_nI (n := k + 1) (by omega) (by omega)) dL_law_1715 ?_
  refine lv_aload_n hx hb dL_law_1716 rfl (lv_at hl 3 rfl) ?_
  refine lv_iload_n hx hb dL_law_1717 rfl (lv_at hl 0 rfl) ?_
  refine lv_iconst (v := 2) hx hb dL_law_1718 (by decide) ?_
  refine lv_iadd hx hb dL_law_1719 ?_
  refine ix_i (y := nI (k + 2)) (nI_add k 2) ?_
  refine va_sld hx hb hX hbl hbA hS (vp_in_nI (n := k + 2) (by omega) (by omega)) dL_law_1720 ?_
  refine lw_callx (w1 := (fun u : SU => [((a 0), .inr (10, [.ref (a 1), .ref (a 3), .ref (a 11), .ref (a 25), .ref (a 68), .ref (a 69), .ref (a 77), .ref (a 82), .ref (a 84), .ref (a 88), .ref (a 91)])), ((a 11), .inr (4, [.ref (a 12), .ref (a 19), .ref (a 24), .int (v 11 3)])), ((a 19), .inr (2, [.ref (a 12), .ref (a 20), .ref (a 22), .ref (a 23), .int (v 19 4), .int (v 19 5), .int (v 19 6), .int (v 19 7)])), ((a 20), .inr (0, [.ref (a 21), .int (v 20 1)])), ((a 84), .inr (7, [.ref (a 85), .ref (a 87), .long (u.2.2 0 0)])), ((a 85), .inr (0, [.ref (a 86), .int (u.1 0)])), ((a 86), .inl (ct 0, 8, .inl (u.2.1 0))), ((a 87), .inl (ct 0, 8, .inl (u.2.1 1)))])) (va_runV (As := [.int (xs (nI (k + 1)).toNatClampNeg), .int (xs (nI (k + 2)).toNatClampNeg)]) (rest := []) ⟨hx, hb, hml, hown, hts⟩ (a_X10_drawn l G ct (a 0) (a 1) (a 3) (a 11) (a 25) (a 68) (a 69) (a 77) (a 82) (a 84) (a 88) (a 91) (a 12) (a 19) (a 24) (v 11 3) (a 20) (a 22) (a 23) (v 19 4) (v 19 5) (v 19 6) (v 19 7) (a 21) (v 20 1) (a 85) (a 87) (g 84 2) (a 86) (v 85 1) (f 86) (f 87) (xs (nI (k + 1)).toNatClampNeg) (xs (nI (k + 2)).toNatClampNeg) hIx.2.2.2.1 hIx.2.2.2.2.2.2.2.2.2.2.2.2.2.1) (cwV 2 hts gL_law_X10_drawn rfl rfl rfl (by decide +kernel) ⟨Nat.le_of_ble_eq_true rfl, Nat.le_of_ble_eq_true rfl⟩) (wr_preV 10 0 hK (hPx.sub [0, 11, 19, 20, 84, 85, 86, 87] rfl) (hDx.sub [0, 11, 19, 20, 84, 85, 86, 87] (by decide) rfl) rfl rfl) rfl rfl hl.1 rfl (lv_room (Nat.le_of_ble_eq_true rfl)) dL_law_1721 ⟨Nat.le_of_ble_eq_true rfl, Nat.le_of_ble_eq_true rfl⟩) hS hPx hDx hPm hap [0, 11, 19, 20, 84, 85, 86, 87] rfl (fun r1 u1 H locs wr1 hPm hF hS => ?_)
  obtain ⟨r1p0, r1p1, r1p2, r1p3, r1p4, r1p5, r1p6, r1p7, r1p8, r1p9, -⟩ := wr1
  have hPx : va_P G vwCl (xW a rr ct (uv v [(85, 1, u1.1 0)]) (uf f [(86, u1.2.1 0), (87, u1.2.1 1)]) (uf g [(84, fun _ => u1.2.2 0 0)])) H := hF (xW a rr ct (uv v [(85, 1, u1.1 0)]) (uf f [(86, u1.2.1 0), (87, u1.2.1 1)]) (uf g [(84, fun _ => u1.2.2 0 0)])) rfl (fun k9 hk9 => xW_same a rr ct v (uv v [(85, 1, u1.1 0)]) f (uf f [(86, u1.2.1 0), (87, u1.2.1 1)]) g (uf g [(84, fun _ => u1.2.2 0 0)]) k9 (uv_st hk9 (by rfl)) (uf_st hk9 (by rfl)) (uf_st hk9 (by rfl)))
  have hIx : XI (uv v [(85, 1, u1.1 0)]) (uf f [(86, u1.2.1 0), (87, u1.2.1 1)]) (uf g [(84, fun _ => u1.2.2 0 0)]) := ⟨hIx.1, hIx.2.1, hIx.2.2.1, hIx.2.2.2.1, hIx.2.2.2.2.1, hIx.2.2.2.2.2.1, hIx.2.2.2.2.2.2.1, hIx.2.2.2.2.2.2.2.1, hIx.2.2.2.2.2.2.2.2.1, hIx.2.2.2.2.2.2.2.2.2.1, hIx.2.2.2.2.2.2.2.2.2.2.1, hIx.2.2.2.2.2.2.2.2.2.2.2.1, hIx.2.2.2.2.2.2.2.2.2.2.2.2.1, r1p9, hIx.2.2.2.2.2.2.2.2.2.2.2.2.2.2.1, hIx.2.2.2.2.2.2.2.2.2.2.2.2.2.2.2.1, trivial⟩
  have hap : ∀ q, aset (xW a rr ct (uv v [(85, 1, u1.1 0)]) (uf f [(86, u1.2.1 0), (87, u1.2.1 1)]) (uf g [(84, fun _ => u1.2.2 0 0)])) q → ¬ aset (mW bm ct v2 f2 g2) q := fun q h1 h2 => hap0 q (aset_ad (xW_ad ..) h1) (aset_ad (mW_ad ..) h2)
  refine lv_pop hx hb dL_law_1724 rfl ?_
  refine lv_aload_n hx hb dL_law_1725 rfl (lv_at hl 1 rfl) ?_
  refine lv_aload_n hx hb dL_law_1726 rfl (lv_at hl 3 rfl) ?_
  refine lv_iload_n hx hb dL_law_1727 rfl (lv_at hl 0 rfl) ?_
  refine lv_iconst (v := 1) hx hb dL_law_1728 (by decide) ?_
  refine lv_iadd hx hb dL_law_1729 ?_
  refine ix_i (y := nI (k + 1)) (nI_add k 1) ?_
  refine va_sld hx hb hX hbl hbA hS (vp_in_nI (n := k + 1) (by omega) (by omega)) dL_law_1730 ?_
  refine lv_aload_n hx hb dL_law_1731 rfl (lv_at hl 3 rfl) ?_
  refine lv_iload_n hx hb dL_law_1732 rfl (lv_at hl 0 rfl) ?_
  refine lv_iconst (v := 2) hx hb dL_law_1733 (by decide) ?_
  refine lv_iadd hx hb dL_law_1734 ?_
  refine ix_i (y := nI (k + 2)) (nI_add k 2) ?_
  refine va_sld hx hb hX hbl hbA hS (vp_in_nI (n := k + 2) (by omega) (by omega)) dL_law_1735 ?_
  refine lw_callx (w1 := (fun u : SU => [((bm 0), .inr (11, [.int (u.1 0), .ref (bm 1), .ref (bm 2), .ref (bm 3), .ref (bm 4), .ref (bm 5), .int (v2 0 6), .int (v2 0 7), .int (v2 0 8), .int (v2 0 9), .int (v2 0 10), .long (g2 0 11), .int (v2 0 12), .int (v2 0 13), .int (v2 0 14), .int (v2 0 15), .ref (bm 6), .ref (bm 7), .ref (bm 8), .ref (bm 9), .ref (bm 10), .ref (bm 11), .ref (bm 12), .ref (bm 13), .int (v2 0 24), .int (v2 0 25), .int (v2 0 26), .int (v2 0 27), .ref (bm 14), .int (v2 0 29), .int (v2 0 30)])), ((bm 7), .inl (ct 0, 15, .inl (f2 7))), ((bm 11), .inl (ct 0, 8, .inl (u.2.1 0))), ((bm 12), .inl (ct 0, 8, .inl (u.2.1 1)))])) (va_runV (As := [.int (xs (nI (k + 1)).toNatClampNeg), .int (xs (nI (k + 2)).toNatClampNeg)]) (rest := []) ⟨hx, hb, hml, hown, hts⟩ (a_X11_drawn l G ct (bm 0) (v2 0 0) (bm 1) (bm 2) (bm 3) (bm 4) (bm 5) (v2 0 6) (v2 0 7) (v2 0 8) (v2 0 9) (v2 0 10) (g2 0 11) (v2 0 12) (v2 0 13) (v2 0 14) (v2 0 15) (bm 6) (bm 7) (bm 8) (bm 9) (bm 10) (bm 11) (bm 12) (bm 13) (v2 0 24) (v2 0 25) (v2 0 26) (v2 0 27) (bm 14) (v2 0 29) (v2 0 30) (f2 7) (f2 11) (f2 12) (xs (nI (k + 1)).toNatClampNeg) (xs (nI (k + 2)).toNatClampNeg) hIm.2.1 hIm.2.2.1 hIm.2.2.2.2.2.1) (cwV 2 hts gL_law_X11_drawn rfl rfl rfl (by decide +kernel) ⟨Nat.le_of_ble_eq_true rfl, Nat.le_of_ble_eq_true rfl⟩) (wr_preV 11 0 hK (hPm.sub [0, 7, 11, 12] rfl) (hDm.sub [0, 7, 11, 12] (by decide) rfl) rfl rfl) rfl rfl hl.1 rfl (lv_room (Nat.le_of_ble_eq_true rfl)) dL_law_1736 ⟨Nat.le_of_ble_eq_true rfl, Nat.le_of_ble_eq_true rfl⟩) hS hPm hDm hPx (fun q h1 h2 => hap q h2 h1) [0, 7, 11, 12] rfl (fun r2 u2 H locs wr2 hPx hF hS => ?_)
  obtain ⟨r2p0, r2p1, r2p2, r2p3, r2p4, r2p5, r2p6, r2p7, r2p8, -⟩ := wr2
  have hPm : va_P G vwCl (mW bm ct (uv v2 [(0, 0, u2.1 0)]) (uf f2 [(11, u2.2.1 0), (12, u2.2.1 1)]) g2) H := hF (mW bm ct (uv v2 [(0, 0, u2.1 0)]) (uf f2 [(11, u2.2.1 0), (12, u2.2.1 1)]) g2) rfl (fun k9 hk9 => mW_same bm ct v2 (uv v2 [(0, 0, u2.1 0)]) f2 (uf f2 [(11, u2.2.1 0), (12, u2.2.1 1)]) g2 g2 k9 (uv_st hk9 (by rfl)) (uf_st hk9 (by rfl)) rfl)
  have hIm : MI (uv v2 [(0, 0, u2.1 0)]) (uf f2 [(11, u2.2.1 0), (12, u2.2.1 1)]) g2 := ⟨hIm.1, hIm.2.1, hIm.2.2.1, hIm.2.2.2.1, hIm.2.2.2.2.1, r2p7, hIm.2.2.2.2.2.2.1, trivial⟩
  refine lv_pop hx hb dL_law_1739 rfl ?_
  refine lv_goto (tgt := 2133) hx hb dL_law_1740 (by decide) ?_
  exact kk (uv v [(85, 1, u1.1 0)]) (uf f [(86, u1.2.1 0), (87, u1.2.1 1)]) (uf g [(84, fun _ => u1.2.2 0 0)]) (uv v2 [(0, 0, u2.1 0)]) (uf f2 [(11, u2.2.1 0), (12, u2.2.1 1)]) g2 H locs ls hIx hIm hR hPx hPm hS hl
set_option maxHeartbeats 8000000 in
set_option maxRecDepth 100000 in
theorem law_c55 {p : Program} {e : Env} {s : State} {m : MethodId} {below : List Frame} {meth : Method} {c : Code} (l : Launch) {b L : Nat} {xs : Nat → Int32} (C0 : lw_At p s m meth c b L xs) (hL : L ≤ 3072) (k : Nat) (hk6 : k + 6 ≤ L) (G : va_G) (ct : Nat → ClassId) (a rr bm adK adV : Nat → Nat) (v : Nat → Nat → Int32) (f : Nat → Nat → Int32) (g : Nat → Nat → Int64) (v2 : Nat → Nat → Int32) (f2 : Nat → Nat → Int32) (g2 : Nat → Nat → Int64) (H : Heap) (locs : List Loc) (hK : KK G ct s) (hZ : SS adK adV (fun q : Nat => s.heap.size ≤ q) s s.heap) (hD0 : va_D (fun q : Nat => s.heap.size ≤ q) (xW a rr ct (fun _ _ => 0) (fun _ _ => 0) (fun _ _ => 0))) (hE0 : va_D (fun q : Nat => s.heap.size ≤ q) (mW bm ct (fun _ _ => 0) (fun _ _ => 0) (fun _ _ => 0))) (hap0 : wset a rr bm ct) (hIx : XI v f g) (hIm : MI v2 f2 g2) (hR : REL v f g v2 f2 g2) (hPx : va_P G vwCl (xW a rr ct v f g) H) (hPm : va_P G vwCl (mW bm ct v2 f2 g2) H) (hS : va_S (fun q : Nat => s.heap.size ≤ q) s.heap H locs) (ls : Array Slot) (hl : lv_has ls 4 [(3, .int (nI k)), (2, .ref (bm 0)), (1, .ref (a 0)), (0, .ref b)]) (kk : ∀ (v : Nat → Nat → Int32) (f : Nat → Nat → Int32) (g : Nat → Nat → Int64) (v2 : Nat → Nat → Int32) (f2 : Nat → Nat → Int32) (g2 : Nat → Nat → Int64) (H : Heap) (locs : List Loc) (ls : Array Slot), XI v f g → MI v2 f2 g2 → REL v f g v2 f2 g2 → va_P G vwCl (xW a rr ct v f g) H → va_P G vwCl (mW bm ct v2 f2 g2) H → va_S (fun q : Nat => s.heap.size ≤ q) s.heap H locs → lv_has ls 4 [(3, .int (nI k)), (2, .ref (bm 0)), (1, .ref (a 0)), (0, .ref b)] → W p l e room_1 s m #[Value.ref b] below meth c H locs 110 5410 (lw_Z below #[Value.ref b] s) (F0 m 2133 ls [])) : W p l e room_1 s m #[Value.ref b] below meth c H locs 110 5410 (lw_Z below #[Value.ref b] s) (F0 m 1743 ls []) := by
  obtain ⟨hx, hb, hr, hml, hown, hts, hX, hbl, hlocks, hgv⟩ := C0
  have hown : s.vm.findClass RL = some m.cls := hown
  have hts : ∀ z ∈ wsL_law, z.before #[Value.ref b] s = true := fun z h => hts z (wsL_law_in z h)
  have hbA : ¬ (fun q : Nat => s.heap.size ≤ q) b := Nat.not_le.mpr hbl
  have hDx : va_D (fun q : Nat => s.heap.size ≤ q) (xW a rr ct v f g) := hD0.ad (xW_ad ..)
  have hDm : va_D (fun q : Nat => s.heap.size ≤ q) (mW bm ct v2 f2 g2) := hE0.ad (mW_ad ..)
  have hap : ∀ q, aset (xW a rr ct v f g) q → ¬ aset (mW bm ct v2 f2 g2) q := fun q h1 h2 => hap0 q (aset_ad (xW_ad ..) h1) (aset_ad (mW_ad ..) h2)
  refine lv_aload_n hx hb dL_law_1743 rfl (lv_at hl 2 rfl) ?_
  refine lv_aload_n hx hb dL_law_1744 rfl (lv_at hl 3 rfl) ?_
  refine lv_iload_n hx hb dL_law_1745 rfl (lv_at hl 0 rfl) ?_
  refine lv_iconst (v := 1) hx hb dL_law_1746 (by decide) ?_
  refine lv_iadd hx hb dL_law_1747 ?_
  refine ix_i (y := nI (k + 1)) (nI_add k 1) ?_
  refine va_sld hx hb hX hbl hbA hS (vp_in_nI (n := k + 1) (by omega) (by omega)) dL_law_1748 ?_
  refine lv_aload_n hx hb dL_law_1749 rfl (lv_at hl 3 rfl) ?_
  refine lv_iload_n hx hb dL_law_1750 rfl (lv_at hl 0 rfl) ?_
  refine lv_iconst (v := 2) hx hb dL_law_1751 (by decide) ?_
  refine lv_iadd hx hb dL_law_1752 ?_
  refine ix_i (y := nI (k + 2)) (nI_add k 2) ?_
  refine va_sld hx hb hX hbl hbA hS (vp_in_nI (n := k + 2) (by omega) (by omega)) dL_law_1753 ?_
  refine lv_aload_n hx hb dL_law_1754 rfl (lv_at hl 3 rfl) ?_
  refine lv_iload_n hx hb dL_law_1755 rfl (lv_at hl 0 rfl) ?_
  refine lv_iconst (v := 3) hx hb dL_law_1756 (by decide) ?_
  refine lv_iadd hx hb dL_law_1757 ?_
  refine ix_i (y := nI (k + 3)) (nI_add k 3) ?_
  refine va_sld hx hb hX hbl hbA hS (vp_in_nI (n := k + 3) (by omega) (by omega)) dL_law_1758 ?_
  refine lw_callx (w1 := (fun u : SU => [((a 0), .inr (10, [.ref (a 1), .ref (a 3), .ref (a 11), .ref (a 25), .ref (a 68), .ref (a 69), .ref (a 77), .ref (a 82), .ref (a 84), .ref (a 88), .ref (a 91)])), ((a 11), .inr (4, [.ref (a 12), .ref (a 19), .ref (a 24), .int (v 11 3)])), ((a 19), .inr (2, [.ref (a 12), .ref (a 20), .ref (a 22), .ref (a 23), .int (v 19 4), .int (v 19 5), .int (v 19 6), .int (v 19 7)])), ((a 20), .inr (0, [.ref (a 21), .int (v 20 1)])), ((a 84), .inr (7, [.ref (a 85), .ref (a 87), .long (u.2.2 0 0)])), ((a 85), .inr (0, [.ref (a 86), .int (u.1 0)])), ((a 86), .inl (ct 0, 8, .inl (u.2.1 0))), ((a 87), .inl (ct 0, 8, .inl (u.2.1 1)))])) (va_runV (As := [.int (xs (nI (k + 1)).toNatClampNeg), .int (xs (nI (k + 2)).toNatClampNeg), .int (xs (nI (k + 3)).toNatClampNeg)]) (rest := []) ⟨hx, hb, hml, hown, hts⟩ (a_X10_luck l G ct (a 0) (a 1) (a 3) (a 11) (a 25) (a 68) (a 69) (a 77) (a 82) (a 84) (a 88) (a 91) (a 12) (a 19) (a 24) (v 11 3) (a 20) (a 22) (a 23) (v 19 4) (v 19 5) (v 19 6) (v 19 7) (a 21) (v 20 1) (a 85) (a 87) (g 84 2) (a 86) (v 85 1) (f 86) (f 87) (xs (nI (k + 1)).toNatClampNeg) (xs (nI (k + 2)).toNatClampNeg) (xs (nI (k + 3)).toNatClampNeg) hIx.2.2.2.1 hIx.2.2.2.2.2.2.2.2.2.2.2.2.2.1) (cwV 3 hts gL_law_X10_luck rfl rfl rfl (by decide +kernel) ⟨Nat.le_of_ble_eq_true rfl, Nat.le_of_ble_eq_true rfl⟩) (wr_preV 10 0 hK (hPx.sub [0, 11, 19, 20, 84, 85, 86, 87] rfl) (hDx.sub [0, 11, 19, 20, 84, 85, 86, 87] (by decide) rfl) rfl rfl) rfl rfl hl.1 rfl (lv_room (Nat.le_of_ble_eq_true rfl)) dL_law_1759 ⟨Nat.le_of_ble_eq_true rfl, Nat.le_of_ble_eq_true rfl⟩) hS hPx hDx hPm hap [0, 11, 19, 20, 84, 85, 86, 87] rfl (fun r1 u1 H locs wr1 hPm hF hS => ?_)
  obtain ⟨r1p0, r1p1, r1p2, r1p3, r1p4, r1p5, r1p6, r1p7, r1p8, r1p9, r1p10, r1p11, r1p12, -⟩ := wr1
  have hPx : va_P G vwCl (xW a rr ct (uv v [(85, 1, u1.1 0)]) (uf f [(86, u1.2.1 0), (87, u1.2.1 1)]) (uf g [(84, fun _ => u1.2.2 0 0)])) H := hF (xW a rr ct (uv v [(85, 1, u1.1 0)]) (uf f [(86, u1.2.1 0), (87, u1.2.1 1)]) (uf g [(84, fun _ => u1.2.2 0 0)])) rfl (fun k9 hk9 => xW_same a rr ct v (uv v [(85, 1, u1.1 0)]) f (uf f [(86, u1.2.1 0), (87, u1.2.1 1)]) g (uf g [(84, fun _ => u1.2.2 0 0)]) k9 (uv_st hk9 (by rfl)) (uf_st hk9 (by rfl)) (uf_st hk9 (by rfl)))
  have hIx : XI (uv v [(85, 1, u1.1 0)]) (uf f [(86, u1.2.1 0), (87, u1.2.1 1)]) (uf g [(84, fun _ => u1.2.2 0 0)]) := ⟨hIx.1, hIx.2.1, hIx.2.2.1, hIx.2.2.2.1, hIx.2.2.2.2.1, hIx.2.2.2.2.2.1, hIx.2.2.2.2.2.2.1, hIx.2.2.2.2.2.2.2.1, hIx.2.2.2.2.2.2.2.2.1, hIx.2.2.2.2.2.2.2.2.2.1, hIx.2.2.2.2.2.2.2.2.2.2.1, hIx.2.2.2.2.2.2.2.2.2.2.2.1, hIx.2.2.2.2.2.2.2.2.2.2.2.2.1, r1p12, hIx.2.2.2.2.2.2.2.2.2.2.2.2.2.2.1, hIx.2.2.2.2.2.2.2.2.2.2.2.2.2.2.2.1, trivial⟩
  have hap : ∀ q, aset (xW a rr ct (uv v [(85, 1, u1.1 0)]) (uf f [(86, u1.2.1 0), (87, u1.2.1 1)]) (uf g [(84, fun _ => u1.2.2 0 0)])) q → ¬ aset (mW bm ct v2 f2 g2) q := fun q h1 h2 => hap0 q (aset_ad (xW_ad ..) h1) (aset_ad (mW_ad ..) h2)
  refine lv_pop hx hb dL_law_1762 rfl ?_
  refine lv_aload_n hx hb dL_law_1763 rfl (lv_at hl 1 rfl) ?_
  refine lv_aload_n hx hb dL_law_1764 rfl (lv_at hl 3 rfl) ?_
  refine lv_iload_n hx hb dL_law_1765 rfl (lv_at hl 0 rfl) ?_
  refine lv_iconst (v := 1) hx hb dL_law_1766 (by decide) ?_
  refine lv_iadd hx hb dL_law_1767 ?_
  refine ix_i (y := nI (k + 1)) (nI_add k 1) ?_
  refine va_sld hx hb hX hbl hbA hS (vp_in_nI (n := k + 1) (by omega) (by omega)) dL_law_1768 ?_
  refine lv_aload_n hx hb dL_law_1769 rfl (lv_at hl 3 rfl) ?_
  refine lv_iload_n hx hb dL_law_1770 rfl (lv_at hl 0 rfl) ?_
  refine lv_iconst (v := 2) hx hb dL_law_1771 (by decide) ?_
  refine lv_iadd hx hb dL_law_1772 ?_
  refine ix_i (y := nI (k + 2)) (nI_add k 2) ?_
  refine va_sld hx hb hX hbl hbA hS (vp_in_nI (n := k + 2) (by omega) (by omega)) dL_law_1773 ?_
  refine lv_aload_n hx hb dL_law_1774 rfl (lv_at hl 3 rfl) ?_
  refine lv_iload_n hx hb dL_law_1775 rfl (lv_at hl 0 rfl) ?_
  refine lv_iconst (v := 3) hx hb dL_law_1776 (by decide) ?_
  refine lv_iadd hx hb dL_law_1777 ?_
  refine ix_i (y := nI (k + 3)) (nI_add k 3) ?_
  refine va_sld hx hb hX hbl hbA hS (vp_in_nI (n := k + 3) (by omega) (by omega)) dL_law_1778 ?_
  refine lw_callx (w1 := (fun u : SU => [((bm 0), .inr (11, [.int (u.1 0), .ref (bm 1), .ref (bm 2), .ref (bm 3), .ref (bm 4), .ref (bm 5), .int (v2 0 6), .int (v2 0 7), .int (v2 0 8), .int (v2 0 9), .int (v2 0 10), .long (g2 0 11), .int (v2 0 12), .int (v2 0 13), .int (v2 0 14), .int (v2 0 15), .ref (bm 6), .ref (bm 7), .ref (bm 8), .ref (bm 9), .ref (bm 10), .ref (bm 11), .ref (bm 12), .ref (bm 13), .int (v2 0 24), .int (v2 0 25), .int (v2 0 26), .int (v2 0 27), .ref (bm 14), .int (v2 0 29), .int (v2 0 30)])), ((bm 7), .inl (ct 0, 15, .inl (f2 7))), ((bm 11), .inl (ct 0, 8, .inl (u.2.1 0))), ((bm 12), .inl (ct 0, 8, .inl (u.2.1 1)))])) (va_runV (As := [.int (xs (nI (k + 1)).toNatClampNeg), .int (xs (nI (k + 2)).toNatClampNeg), .int (xs (nI (k + 3)).toNatClampNeg)]) (rest := []) ⟨hx, hb, hml, hown, hts⟩ (a_X11_luck l G ct (bm 0) (v2 0 0) (bm 1) (bm 2) (bm 3) (bm 4) (bm 5) (v2 0 6) (v2 0 7) (v2 0 8) (v2 0 9) (v2 0 10) (g2 0 11) (v2 0 12) (v2 0 13) (v2 0 14) (v2 0 15) (bm 6) (bm 7) (bm 8) (bm 9) (bm 10) (bm 11) (bm 12) (bm 13) (v2 0 24) (v2 0 25) (v2 0 26) (v2 0 27) (bm 14) (v2 0 29) (v2 0 30) (f2 7) (f2 11) (f2 12) (xs (nI (k + 1)).toNatClampNeg) (xs (nI (k + 2)).toNatClampNeg) (xs (nI (k + 3)).toNatClampNeg) hIm.2.1 hIm.2.2.1 hIm.2.2.2.2.2.1) (cwV 3 hts gL_law_X11_luck rfl rfl rfl (by decide +kernel) ⟨Nat.le_of_ble_eq_true rfl, Nat.le_of_ble_eq_true rfl⟩) (wr_preV 11 0 hK (hPm.sub [0, 7, 11, 12] rfl) (hDm.sub [0, 7, 11, 12] (by decide) rfl) rfl rfl) rfl rfl hl.1 rfl (lv_room (Nat.le_of_ble_eq_true rfl)) dL_law_1779 ⟨Nat.le_of_ble_eq_true rfl, Nat.le_of_ble_eq_true rfl⟩) hS hPm hDm hPx (fun q h1 h2 => hap q h2 h1) [0, 7, 11, 12] rfl (fun r2 u2 H locs wr2 hPx hF hS => ?_)
  obtain ⟨r2p0, r2p1, r2p2, r2p3, r2p4, r2p5, r2p6, r2p7, r2p8, r2p9, r2p10, -⟩ := wr2
  have hPm : va_P G vwCl (mW bm ct (uv v2 [(0, 0, u2.1 0)]) (uf f2 [(11, u2.2.1 0), (12, u2.2.1 1)]) g2) H := hF (mW bm ct (uv v2 [(0, 0, u2.1 0)]) (uf f2 [(11, u2.2.1 0), (12, u2.2.1 1)]) g2) rfl (fun k9 hk9 => mW_same bm ct v2 (uv v2 [(0, 0, u2.1 0)]) f2 (uf f2 [(11, u2.2.1 0), (12, u2.2.1 1)]) g2 g2 k9 (uv_st hk9 (by rfl)) (uf_st hk9 (by rfl)) rfl)
  have hIm : MI (uv v2 [(0, 0, u2.1 0)]) (uf f2 [(11, u2.2.1 0), (12, u2.2.1 1)]) g2 := ⟨hIm.1, hIm.2.1, hIm.2.2.1, hIm.2.2.2.1, hIm.2.2.2.2.1, r2p9, hIm.2.2.2.2.2.2.1, trivial⟩
  refine lv_pop hx hb dL_law_1782 rfl ?_
  refine lv_goto (tgt := 2133) hx hb dL_law_1783 (by decide) ?_
  exact kk (uv v [(85, 1, u1.1 0)]) (uf f [(86, u1.2.1 0), (87, u1.2.1 1)]) (uf g [(84, fun _ => u1.2.2 0 0)]) (uv v2 [(0, 0, u2.1 0)]) (uf f2 [(11, u2.2.1 0), (12, u2.2.1 1)]) g2 H locs ls hIx hIm hR hPx hPm hS hl
