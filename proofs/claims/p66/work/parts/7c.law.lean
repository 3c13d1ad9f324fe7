theorem dL_law_1572 : decode cL_law 1572 = .ok (.aload_n 1, 1) := by decide +kernel
theorem dL_law_1573 : decode cL_law 1573 = .ok (.aload_n 0, 1) := by decide +kernel
theorem dL_law_1574 : decode cL_law 1574 = .ok (.iload_n 3, 1) := by decide +kernel
theorem dL_law_1575 : decode cL_law 1575 = .ok (.iconst 1, 1) := by decide +kernel
theorem dL_law_1576 : decode cL_law 1576 = .ok (.iadd, 1) := by decide +kernel
theorem dL_law_1577 : decode cL_law 1577 = .ok (.iaload, 1) := by decide +kernel
theorem dL_law_1578 : decode cL_law 1578 = .ok (.aload_n 0, 1) := by decide +kernel
theorem dL_law_1579 : decode cL_law 1579 = .ok (.iload_n 3, 1) := by decide +kernel
theorem dL_law_1580 : decode cL_law 1580 = .ok (.iconst 2, 1) := by decide +kernel
theorem dL_law_1581 : decode cL_law 1581 = .ok (.iadd, 1) := by decide +kernel
theorem dL_law_1582 : decode cL_law 1582 = .ok (.iaload, 1) := by decide +kernel
set_option maxRecDepth 20000 in
theorem ggL_law_X10_ransomed : GoodIn wsL_law wsX10_ransomed := goodIn_s _ [(58, 18), (1, 0), (22, 2), (22, 3), (22, 4), (0, 2), (22, 5), (22, 0), (22, 6), (22, 7), (13, 8), (13, 9), (1, 15), (13, 10), (13, 11), (58, 19), (58, 20), (58, 21), (0, 23), (58, 22), (3, 16), (15, 16), (3, 14), (28, 0), (27, 5), (27, 6), (27, 7), (23, 1), (13, 18), (13, 19), (13, 20), (3, 9), (13, 7), (28, 2), (58, 23), (22, 9), (22, 10), (2, 16), (22, 11), (3, 0), (3, 2), (16, 2), (70, 0), (70, 1), (70, 2), (70, 3), (70, 4), (70, 5), (70, 6), (70, 7), (70, 8), (70, 9), (70, 10), (74, 0), (74, 1), (74, 2), (74, 3), (76, 0), (76, 1), (76, 2), (76, 3), (76, 4), (76, 5), (76, 6), (76, 7), (77, 0), (77, 1), (81, 0), (81, 1), (81, 2), (81, 3), (81, 4), (81, 5), (81, 6)] (by rfl) (by decide +kernel)
set_option maxRecDepth 20000 in
theorem gL_law_X10_ransomed : GoodIn wsL_law (wsV RL 211 RX10 yX10_ransomed wsX10_ransomed) := goodIn_app (goodIn_s _ [(59, 8), (58, 16), (58, 17), (0, 2)] (by rfl) (by decide +kernel)) ggL_law_X10_ransomed
theorem dL_law_1583 : decode cL_law 1583 = .ok (.invokevirtual 211, 3) := by decide +kernel
theorem dL_law_1586 : decode cL_law 1586 = .ok (.pop, 1) := by decide +kernel
theorem dL_law_1587 : decode cL_law 1587 = .ok (.aload_n 2, 1) := by decide +kernel
theorem dL_law_1588 : decode cL_law 1588 = .ok (.aload_n 0, 1) := by decide +kernel
theorem dL_law_1589 : decode cL_law 1589 = .ok (.iload_n 3, 1) := by decide +kernel
theorem dL_law_1590 : decode cL_law 1590 = .ok (.iconst 1, 1) := by decide +kernel
theorem dL_law_1591 : decode cL_law 1591 = .ok (.iadd, 1) := by decide +kernel
theorem dL_law_1592 : decode cL_law 1592 = .ok (.iaload, 1) := by decide +kernel
theorem dL_law_1593 : decode cL_law 1593 = .ok (.aload_n 0, 1) := by decide +kernel
theorem dL_law_1594 : decode cL_law 1594 = .ok (.iload_n 3, 1) := by decide +kernel
theorem dL_law_1595 : decode cL_law 1595 = .ok (.iconst 2, 1) := by decide +kernel
theorem dL_law_1596 : decode cL_law 1596 = .ok (.iadd, 1) := by decide +kernel
theorem dL_law_1597 : decode cL_law 1597 = .ok (.iaload, 1) := by decide +kernel
set_option maxRecDepth 20000 in
theorem ggL_law_X11_ransomed : GoodIn wsL_law wsX11_ransomed := goodIn_s _ [(59, 12), (6, 20), (28, 7), (28, 8), (28, 9), (0, 5), (28, 10), (23, 21), (23, 22), (23, 23), (24, 0), (5, 17), (7, 14), (7, 15), (7, 16), (59, 4), (59, 5), (59, 6), (59, 7), (5, 21), (24, 1), (24, 2), (24, 3), (24, 4), (5, 19), (24, 5), (24, 6), (24, 7), (24, 8), (5, 22), (5, 23), (23, 20), (24, 9), (24, 10), (24, 11), (24, 12), (24, 13), (24, 14), (24, 15), (5, 18), (24, 16), (24, 17), (24, 18), (24, 19), (24, 20), (24, 21), (24, 22), (24, 23), (25, 0), (25, 1), (25, 2), (25, 3), (25, 4), (25, 5), (25, 6), (25, 7), (25, 8), (25, 9), (25, 10), (28, 11), (28, 12), (28, 13), (28, 14), (71, 0), (71, 1), (71, 2), (71, 3), (71, 4), (71, 5), (71, 6), (71, 7), (71, 8), (71, 9), (71, 10), (71, 11), (71, 12), (71, 13), (71, 14), (71, 15), (71, 16), (71, 17), (71, 18), (71, 19), (71, 20), (71, 21), (71, 22), (71, 23), (71, 24), (71, 25), (71, 26), (71, 27), (71, 28), (71, 29), (71, 30)] (by rfl) (by decide +kernel)
set_option maxRecDepth 20000 in
theorem gL_law_X11_ransomed : GoodIn wsL_law (wsV RL 214 RX11 yX11_ransomed wsX11_ransomed) := goodIn_app (goodIn_s _ [(59, 9), (59, 10), (59, 11), (0, 5)] (by rfl) (by decide +kernel)) ggL_law_X11_ransomed
theorem dL_law_1598 : decode cL_law 1598 = .ok (.invokevirtual 214, 3) := by decide +kernel
theorem dL_law_1601 : decode cL_law 1601 = .ok (.pop, 1) := by decide +kernel
theorem dL_law_1602 : decode cL_law 1602 = .ok (.goto 531, 3) := by decide +kernel
theorem dL_law_1605 : decode cL_law 1605 = .ok (.aload_n 1, 1) := by decide +kernel
theorem dL_law_1606 : decode cL_law 1606 = .ok (.aload_n 0, 1) := by decide +kernel
theorem dL_law_1607 : decode cL_law 1607 = .ok (.iload_n 3, 1) := by decide +kernel
theorem dL_law_1608 : decode cL_law 1608 = .ok (.iconst 1, 1) := by decide +kernel
theorem dL_law_1609 : decode cL_law 1609 = .ok (.iadd, 1) := by decide +kernel
theorem dL_law_1610 : decode cL_law 1610 = .ok (.iaload, 1) := by decide +kernel
set_option maxRecDepth 20000 in
theorem ggL_law_X10_power : GoodIn wsL_law wsX10_power := goodIn_s _ [(59, 16), (1, 0), (1, 11), (22, 2), (22, 3), (22, 4), (0, 2), (22, 5), (22, 0), (22, 6), (22, 7), (13, 8), (13, 9), (1, 15), (13, 10), (13, 11), (22, 16), (22, 17), (22, 18), (22, 19), (59, 17), (59, 18), (59, 19), (2, 16), (59, 20), (59, 21), (27, 1), (27, 2), (27, 3), (27, 4), (27, 5), (27, 6), (27, 7), (23, 1), (13, 18), (13, 19), (13, 20), (3, 9), (13, 7), (59, 22), (33, 4), (33, 5), (33, 6), (3, 0), (8, 11), (16, 19), (16, 20), (33, 7), (22, 13), (22, 14), (22, 15), (3, 3), (16, 2), (49, 23), (38, 11), (38, 12), (38, 13), (38, 14), (38, 15), (38, 16), (70, 0), (70, 1), (70, 2), (70, 3), (70, 4), (70, 5), (70, 6), (70, 7), (70, 8), (70, 9), (70, 10), (74, 0), (74, 1), (74, 2), (74, 3), (76, 0), (76, 1), (76, 2), (76, 3), (76, 4), (76, 5), (76, 6), (76, 7), (77, 0), (77, 1), (81, 0), (81, 1), (81, 2), (81, 3), (81, 4), (81, 5), (81, 6)] (by rfl) (by decide +kernel)
set_option maxRecDepth 20000 in
theorem gL_law_X10_power : GoodIn wsL_law (wsV RL 215 RX10 yX10_power wsX10_power) := goodIn_app (goodIn_s _ [(59, 13), (59, 14), (59, 15), (0, 2)] (by rfl) (by decide +kernel)) ggL_law_X10_power
theorem dL_law_1611 : decode cL_law 1611 = .ok (.invokevirtual 215, 3) := by decide +kernel
theorem dL_law_1614 : decode cL_law 1614 = .ok (.pop, 1) := by decide +kernel
theorem dL_law_1615 : decode cL_law 1615 = .ok (.aload_n 2, 1) := by decide +kernel
theorem dL_law_1616 : decode cL_law 1616 = .ok (.aload_n 0, 1) := by decide +kernel
theorem dL_law_1617 : decode cL_law 1617 = .ok (.iload_n 3, 1) := by decide +kernel
theorem dL_law_1618 : decode cL_law 1618 = .ok (.iconst 1, 1) := by decide +kernel
theorem dL_law_1619 : decode cL_law 1619 = .ok (.iadd, 1) := by decide +kernel
theorem dL_law_1620 : decode cL_law 1620 = .ok (.iaload, 1) := by decide +kernel
set_option maxRecDepth 20000 in
theorem ggL_law_X11_power : GoodIn wsL_law wsX11_power := goodIn_s _ [(60, 2), (6, 20), (23, 21), (23, 22), (23, 23), (0, 5), (24, 0), (5, 17), (7, 14), (7, 15), (7, 16), (24, 1), (24, 2), (24, 3), (24, 4), (5, 19), (24, 5), (24, 6), (24, 7), (24, 8), (5, 21), (5, 22), (5, 23), (23, 20), (24, 9), (24, 10), (24, 11), (24, 12), (24, 13), (24, 14), (24, 15), (5, 18), (24, 16), (24, 17), (24, 18), (24, 19), (24, 20), (24, 21), (24, 22), (24, 23), (25, 0), (25, 1), (25, 2), (25, 3), (25, 4), (25, 5), (25, 6), (25, 7), (25, 8), (25, 9), (25, 10), (60, 3), (60, 4), (60, 5), (60, 6), (27, 12), (27, 13), (27, 14), (27, 15), (43, 19), (43, 20), (43, 21), (43, 22), (39, 1), (39, 2), (39, 3), (71, 0), (71, 1), (71, 2), (71, 3), (71, 4), (71, 5), (71, 6), (71, 7), (71, 8), (71, 9), (71, 10), (71, 11), (71, 12), (71, 13), (71, 14), (71, 15), (71, 16), (71, 17), (71, 18), (71, 19), (71, 20), (71, 21), (71, 22), (71, 23), (71, 24), (71, 25), (71, 26), (71, 27), (71, 28), (71, 29), (71, 30)] (by rfl) (by decide +kernel)
set_option maxRecDepth 20000 in
theorem gL_law_X11_power : GoodIn wsL_law (wsV RL 218 RX11 yX11_power wsX11_power) := goodIn_app (goodIn_s _ [(59, 23), (60, 0), (60, 1), (0, 5)] (by rfl) (by decide +kernel)) ggL_law_X11_power
theorem dL_law_1621 : decode cL_law 1621 = .ok (.invokevirtual 218, 3) := by decide +kernel
theorem dL_law_1624 : decode cL_law 1624 = .ok (.pop, 1) := by decide +kernel
theorem dL_law_1625 : decode cL_law 1625 = .ok (.goto 508, 3) := by decide +kernel
theorem dL_law_1628 : decode cL_law 1628 = .ok (.aload_n 1, 1) := by decide +kernel
set_option maxRecDepth 20000 in
theorem ggL_law_X10_mighty : GoodIn wsL_law wsX10_mighty := goodIn_s _ [(60, 10), (38, 5), (1, 0), (1, 11), (25, 23), (26, 0), (26, 1), (0, 2), (26, 2), (7, 22), (22, 16), (22, 17), (22, 18), (22, 19), (22, 0), (22, 6), (59, 17), (59, 18), (59, 19), (2, 16), (59, 20), (59, 21), (27, 1), (27, 2), (1, 15), (27, 3), (13, 11), (27, 4), (27, 5), (27, 6), (27, 7), (23, 1), (13, 18), (13, 19), (13, 20), (3, 9), (13, 7), (13, 8), (13, 9), (13, 10), (59, 22), (33, 4), (33, 5), (33, 6), (3, 0), (8, 11), (16, 19), (16, 20), (33, 7), (22, 13), (22, 14), (22, 15), (3, 3), (16, 2), (49, 23), (38, 11), (38, 12), (38, 13), (38, 14), (38, 15), (38, 16), (77, 0), (77, 1), (70, 0), (70, 1), (70, 2), (70, 3), (70, 4), (70, 5), (70, 6), (70, 7), (70, 8), (70, 9), (70, 10), (74, 0), (74, 1), (74, 2), (74, 3), (81, 0), (81, 1), (81, 2), (81, 3), (81, 4), (81, 5), (81, 6), (76, 0), (76, 1), (76, 2), (76, 3), (76, 4), (76, 5), (76, 6), (76, 7)] (by rfl) (by decide +kernel)
set_option maxRecDepth 20000 in
theorem gL_law_X10_mighty : GoodIn wsL_law (wsV RL 219 RX10 yX10_mighty wsX10_mighty) := goodIn_app (goodIn_s _ [(60, 7), (60, 8), (60, 9), (0, 2)] (by rfl) (by decide +kernel)) ggL_law_X10_mighty
theorem dL_law_1629 : decode cL_law 1629 = .ok (.invokevirtual 219, 3) := by decide +kernel
theorem dL_law_1632 : decode cL_law 1632 = .ok (.pop, 1) := by decide +kernel
theorem dL_law_1633 : decode cL_law 1633 = .ok (.aload_n 2, 1) := by decide +kernel
set_option maxRecDepth 20000 in
theorem ggL_law_X11_mighty : GoodIn wsL_law wsX11_mighty := goodIn_s _ [(60, 14), (6, 20), (5, 17), (26, 12), (26, 13), (26, 14), (0, 5), (26, 15), (5, 16), (24, 1), (24, 2), (24, 3), (24, 4), (5, 19), (24, 5), (24, 6), (24, 7), (24, 8), (5, 21), (5, 22), (5, 23), (23, 20), (24, 9), (24, 10), (24, 11), (24, 12), (24, 13), (24, 14), (24, 15), (5, 18), (24, 16), (24, 17), (24, 18), (24, 19), (24, 20), (24, 21), (24, 22), (24, 23), (25, 0), (25, 1), (25, 2), (25, 3), (25, 4), (25, 5), (25, 6), (25, 7), (25, 8), (25, 9), (25, 10), (60, 3), (60, 4), (60, 5), (60, 6), (27, 12), (27, 13), (27, 14), (27, 15), (43, 19), (43, 20), (43, 21), (43, 22), (39, 1), (39, 2), (39, 3), (71, 0), (71, 1), (71, 2), (71, 3), (71, 4), (71, 5), (71, 6), (71, 7), (71, 8), (71, 9), (71, 10), (71, 11), (71, 12), (71, 13), (71, 14), (71, 15), (71, 16), (71, 17), (71, 18), (71, 19), (71, 20), (71, 21), (71, 22), (71, 23), (71, 24), (71, 25), (71, 26), (71, 27), (71, 28), (71, 29), (71, 30)] (by rfl) (by decide +kernel)
set_option maxRecDepth 20000 in
theorem gL_law_X11_mighty : GoodIn wsL_law (wsV RL 222 RX11 yX11_mighty wsX11_mighty) := goodIn_app (goodIn_s _ [(60, 11), (60, 12), (60, 13), (0, 5)] (by rfl) (by decide +kernel)) ggL_law_X11_mighty
theorem dL_law_1634 : decode cL_law 1634 = .ok (.invokevirtual 222, 3) := by decide +kernel
theorem dL_law_1637 : decode cL_law 1637 = .ok (.pop, 1) := by decide +kernel
theorem dL_law_1638 : decode cL_law 1638 = .ok (.goto 495, 3) := by decide +kernel
theorem dL_law_1641 : decode cL_law 1641 = .ok (.aload_n 1, 1) := by decide +kernel
theorem dL_law_1642 : decode cL_law 1642 = .ok (.aload_n 0, 1) := by decide +kernel
theorem dL_law_1643 : decode cL_law 1643 = .ok (.iload_n 3, 1) := by decide +kernel
theorem dL_law_1644 : decode cL_law 1644 = .ok (.iconst 1, 1) := by decide +kernel
theorem dL_law_1645 : decode cL_law 1645 = .ok (.iadd, 1) := by decide +kernel
theorem dL_law_1646 : decode cL_law 1646 = .ok (.iaload, 1) := by decide +kernel
set_option maxRecDepth 20000 in
theorem ggL_law_X10_covet : GoodIn wsL_law wsX10_covet := goodIn_s _ [(60, 18), (1, 0), (1, 11), (1, 16), (38, 5), (22, 2), (22, 3), (22, 4), (0, 2), (22, 5), (22, 0), (22, 6), (22, 7), (13, 8), (13, 9), (1, 15), (13, 10), (13, 11), (22, 16), (22, 17), (22, 18), (22, 19), (59, 17), (59, 18), (59, 19), (2, 16), (59, 20), (59, 21), (27, 1), (27, 2), (27, 3), (27, 4), (27, 5), (27, 6), (27, 7), (23, 1), (13, 18), (13, 19), (13, 20), (3, 9), (13, 7), (59, 22), (33, 4), (33, 5), (33, 6), (3, 0), (8, 11), (16, 19), (16, 20), (33, 7), (22, 13), (22, 14), (22, 15), (3, 3), (16, 2), (49, 23), (38, 11), (38, 12), (38, 13), (38, 14), (38, 15), (38, 16), (60, 19), (14, 16), (14, 17), (14, 18), (14, 19), (14, 12), (14, 13), (14, 14), (60, 20), (13, 4), (13, 5), (13, 6), (22, 20), (70, 0), (70, 1), (70, 2), (70, 3), (70, 4), (70, 5), (70, 6), (70, 7), (70, 8), (70, 9), (70, 10), (74, 0), (74, 1), (74, 2), (74, 3), (77, 0), (77, 1), (76, 0), (76, 1), (76, 2), (76, 3), (76, 4), (76, 5), (76, 6), (76, 7), (81, 0), (81, 1), (81, 2), (81, 3), (81, 4), (81, 5), (81, 6)] (by rfl) (by decide +kernel)
set_option maxRecDepth 20000 in
theorem gL_law_X10_covet : GoodIn wsL_law (wsV RL 223 RX10 yX10_covet wsX10_covet) := goodIn_app (goodIn_s _ [(60, 15), (60, 16), (60, 17), (0, 2)] (by rfl) (by decide +kernel)) ggL_law_X10_covet
theorem dL_law_1647 : decode cL_law 1647 = .ok (.invokevirtual 223, 3) := by decide +kernel
theorem dL_law_1650 : decode cL_law 1650 = .ok (.pop, 1) := by decide +kernel
theorem dL_law_1651 : decode cL_law 1651 = .ok (.aload_n 2, 1) := by decide +kernel
theorem dL_law_1652 : decode cL_law 1652 = .ok (.aload_n 0, 1) := by decide +kernel
theorem dL_law_1653 : decode cL_law 1653 = .ok (.iload_n 3, 1) := by decide +kernel
theorem dL_law_1654 : decode cL_law 1654 = .ok (.iconst 1, 1) := by decide +kernel
theorem dL_law_1655 : decode cL_law 1655 = .ok (.iadd, 1) := by decide +kernel
theorem dL_law_1656 : decode cL_law 1656 = .ok (.iaload, 1) := by decide +kernel
set_option maxRecDepth 20000 in
theorem ggL_law_X11_covet : GoodIn wsL_law wsX11_covet := goodIn_s _ [(61, 0), (6, 20), (5, 17), (5, 21), (23, 21), (23, 22), (23, 23), (0, 5), (24, 0), (7, 14), (7, 15), (7, 16), (24, 1), (24, 2), (24, 3), (24, 4), (5, 19), (24, 5), (24, 6), (24, 7), (24, 8), (5, 22), (5, 23), (23, 20), (24, 9), (24, 10), (24, 11), (24, 12), (24, 13), (24, 14), (24, 15), (5, 18), (24, 16), (24, 17), (24, 18), (24, 19), (24, 20), (24, 21), (24, 22), (24, 23), (25, 0), (25, 1), (25, 2), (25, 3), (25, 4), (25, 5), (25, 6), (25, 7), (25, 8), (25, 9), (25, 10), (60, 3), (60, 4), (60, 5), (60, 6), (27, 12), (27, 13), (27, 14), (27, 15), (43, 19), (43, 20), (43, 21), (43, 22), (39, 1), (39, 2), (39, 3), (71, 0), (71, 1), (71, 2), (71, 3), (71, 4), (71, 5), (71, 6), (71, 7), (71, 8), (71, 9), (71, 10), (71, 11), (71, 12), (71, 13), (71, 14), (71, 15), (71, 16), (71, 17), (71, 18), (71, 19), (71, 20), (71, 21), (71, 22), (71, 23), (71, 24), (71, 25), (71, 26), (71, 27), (71, 28), (71, 29), (71, 30)] (by rfl) (by decide +kernel)
set_option maxRecDepth 20000 in
theorem gL_law_X11_covet : GoodIn wsL_law (wsV RL 226 RX11 yX11_covet wsX11_covet) := goodIn_app (goodIn_s _ [(60, 21), (60, 22), (60, 23), (0, 5)] (by rfl) (by decide +kernel)) ggL_law_X11_covet
theorem dL_law_1657 : decode cL_law 1657 = .ok (.invokevirtual 226, 3) := by decide +kernel
theorem dL_law_1660 : decode cL_law 1660 = .ok (.pop, 1) := by decide +kernel
theorem dL_law_1661 : decode cL_law 1661 = .ok (.goto 472, 3) := by decide +kernel
set_option maxHeartbeats 8000000 in
set_option maxRecDepth 100000 in
theorem law_c48 {p : Program} {e : Env} {s : State} {m : MethodId} {below : List Frame} {meth : Method} {c : Code} (l : Launch) {b L : Nat} {xs : Nat → Int32} (C0 : lw_At p s m meth c b L xs) (hL : L ≤ 3072) (k : Nat) (hk6 : k + 6 ≤ L) (G : va_G) (ct : Nat → ClassId) (a rr bm adK adV : Nat → Nat) (v : Nat → Nat → Int32) (f : Nat → Nat → Int32) (g : Nat → Nat → Int64) (v2 : Nat → Nat → Int32) (f2 : Nat → Nat → Int32) (g2 : Nat → Nat → Int64) (H : Heap) (locs : List Loc) (hK : KK G ct s) (hZ : SS adK adV (fun q : Nat => s.heap.size ≤ q) s s.heap) (hD0 : va_D (fun q : Nat => s.heap.size ≤ q) (xW a rr ct (fun _ _ => 0) (fun _ _ => 0) (fun _ _ => 0))) (hE0 : va_D (fun q : Nat => s.heap.size ≤ q) (mW bm ct (fun _ _ => 0) (fun _ _ => 0) (fun _ _ => 0))) (hap0 : wset a rr bm ct) (hIx : XI v f g) (hIm : MI v2 f2 g2) (hR : REL v f g v2 f2 g2) (hPx : va_P G vwCl (xW a rr ct v f g) H) (hPm : va_P G vwCl (mW bm ct v2 f2 g2) H) (hS : va_S (fun q : Nat => s.heap.size ≤ q) s.heap H locs) (ls : Array Slot) (hl : lv_has ls 4 [(3, .int (nI k)), (2, .ref (bm 0)), (1, .ref (a 0)), (0, .ref b)]) (kk : ∀ (v : Nat → Nat → Int32) (f : Nat → Nat → Int32) (g : Nat → Nat → Int64) (v2 : Nat → Nat → Int32) (f2 : Nat → Nat → Int32) (g2 : Nat → Nat → Int64) (H : Heap) (locs : List Loc) (ls : Array Slot), XI v f g → MI v2 f2 g2 → REL v f g v2 f2 g2 → va_P G vwCl (xW a rr ct v f g) H → va_P G vwCl (mW bm ct v2 f2 g2) H → va_S (fun q : Nat => s.heap.size ≤ q) s.heap H locs → lv_has ls 4 [(3, .int (nI k)), (2, .ref (bm 0)), (1, .ref (a 0)), (0, .ref b)] → W p l e room_1 s m #[Value.ref b] below meth c H locs 110 5410 (lw_Z below #[Value.ref b] s) (F0 m 2133 ls [])) : W p l e room_1 s m #[Value.ref b] below meth c H locs 110 5410 (lw_Z below #[Value.ref b] s) (F0 m 1572 ls []) := by
  obtain ⟨hx, hb, hr, hml, hown, hts, hX, hbl, hlocks, hgv⟩ := C0
  have hown : s.vm.findClass RL = some m.cls := hown
  have hts : ∀ z ∈ wsL_law, z.before #[Value.ref b] s = true := fun z h => hts z (wsL_law_in z h)
  have hbA : ¬ (fun q : Nat => s.heap.size ≤ q) b := Nat.not_le.mpr hbl
  have hDx : va_D (fun q : Nat => s.heap.size ≤ q) (xW a rr ct v f g) := hD0.ad (xW_ad ..)
  have hDm : va_D (fun q : Nat => s.heap.size ≤ q) (mW bm ct v2 f2 g2) := hE0.ad (mW_ad ..)
  have hap : ∀ q, aset (xW a rr ct v f g) q → ¬ aset (mW bm ct v2 f2 g2) q := fun q h1 h2 => hap0 q (aset_ad (xW_ad ..) h1) (aset_ad (mW_ad ..) h2)
  refine lv_aload_n hx hb dL_law_1572 rfl (lv_at hl 2 rfl) ?_
  refine lv_aload_n hx hb dL_law_1573 rfl (lv_at hl 3 rfl) ?_
  refine lv_iload_n hx hb dL_law_1574 rfl (lv_at hl 0 rfl) ?_
  refine lv_iconst (v := 1) hx hb dL_law_1575 (by decide) ?_
  refine lv_iadd hx hb dL_law_1576 ?_
  refine ix_i (y := nI (k + 1)) (nI_add k 1) ?_
  refine va_sld hx hb hX hbl hbA hS (vp_in_nI (n := k + 1) (by omega) (by omega)) dL_law_1577 ?_
  refine lv_aload_n hx hb dL_law_1578 rfl (lv_at hl 3 rfl) ?_
  refine lv_iload_n hx hb dL_law_1579 rfl (lv_at hl 0 rfl) ?_
  refine lv_iconst (v := 2) hx hb dL_law_1580 (by decide) ?_
  refine lv_iadd hx hb dL_law_1581 ?_
  refine ix_i (y := nI (k + 2)) (nI_add k 2) ?_
  refine va_sld hx hb hX hbl hbA hS (vp_in_nI (n := k + 2) (by omega) (by omega)) dL_law_1582 ?_
  refine ro_calli (va_runV (As := [.int (xs (nI (k + 1)).toNatClampNeg), .int (xs (nI (k + 2)).toNatClampNeg)]) (rest := []) ⟨hx, hb, hml, hown, hts⟩ (a_X10_ransomed l G ct (a 0) (a 1) (a 3) (a 11) (a 25) (a 68) (a 69) (a 77) (a 82) (a 84) (a 88) (a 91) (a 12) (a 19) (a 24) (v 11 3) (a 13) (a 15) (a 16) (a 17) (a 18) (v 12 5) (v 12 6) (a 14) (v 13 1) (f 15) (a 20) (a 22) (a 23) (v 19 4) (v 19 5) (v 19 6) (v 19 7) (a 21) (v 20 1) (f 21) (xs (nI (k + 1)).toNatClampNeg) (xs (nI (k + 2)).toNatClampNeg) hIx.2.2.1 hIx.2.2.2.1) (cwV 2 hts gL_law_X10_ransomed rfl rfl rfl (by decide +kernel) ⟨Nat.le_of_ble_eq_true rfl, Nat.le_of_ble_eq_true rfl⟩) (ro_preV 10 0 hK (hPx.sub [0, 11, 12, 13, 15, 19, 20, 21] rfl) rfl rfl) rfl rfl hl.1 rfl (lv_room (Nat.le_of_ble_eq_true rfl)) dL_law_1583 ⟨Nat.le_of_ble_eq_true rfl, Nat.le_of_ble_eq_true rfl⟩) hS (hPx.app hPm) (fun r1 H locs wr1 hPP hS => ?_)
  have hPx := va_P.left hPP
  have hPm := va_P.right hPP
  obtain ⟨r1p0, r1p1, r1p2, r1p3, r1p4, r1p5, r1p6, r1p7, r1p8, -⟩ := wr1
  refine lv_pop hx hb dL_law_1586 rfl ?_
  refine lv_aload_n hx hb dL_law_1587 rfl (lv_at hl 1 rfl) ?_
  refine lv_aload_n hx hb dL_law_1588 rfl (lv_at hl 3 rfl) ?_
  refine lv_iload_n hx hb dL_law_1589 rfl (lv_at hl 0 rfl) ?_
  refine lv_iconst (v := 1) hx hb dL_law_1590 (by decide) ?_
  refine lv_iadd hx hb dL_law_1591 ?_
  refine ix_i (y := nI (k + 1)) (nI_add k 1) ?_
  refine va_sld hx hb hX hbl hbA hS (vp_in_nI (n := k + 1) (by omega) (by omega)) dL_law_1592 ?_
  refine lv_aload_n hx hb dL_law_1593 rfl (lv_at hl 3 rfl) ?_
  refine lv_iload_n hx hb dL_law_1594 rfl (lv_at hl 0 rfl) ?_
  refine lv_iconst (v := 2) hx hb dL_law_1595 (by decide) ?_
  refine lv_iadd hx hb dL_law_1596 ?_
  refine ix_i (y := nI (k + 2)) (nI_add k 2) ?_
  refine va_sld hx hb hX hbl hbA hS (vp_in_nI (n := k + 2) (by omega) (by omega)) dL_law_1597 ?_
  refine lw_callx (w1 := (fun u : SU => [((bm 0), .inr (11, [.int (u.1 0), .ref (bm 1), .ref (bm 2), .ref (bm 3), .ref (bm 4), .ref (bm 5), .int (v2 0 6), .int (v2 0 7), .int (v2 0 8), .int (v2 0 9), .int (v2 0 10), .long (g2 0 11), .int (v2 0 12), .int (v2 0 13), .int (v2 0 14), .int (v2 0 15), .ref (bm 6), .ref (bm 7), .ref (bm 8), .ref (bm 9), .ref (bm 10), .ref (bm 11), .ref (bm 12), .ref (bm 13), .int (u.1 1), .int (u.1 2), .int (u.1 3), .int (u.1 4), .ref (bm 14), .int (v2 0 29), .int (v2 0 30)])), ((bm 7), .inl (ct 0, 15, .inl (f2 7))), ((bm 8), .inl (ct 0, 200, .inl (f2 8))), ((bm 9), .inl (ct 0, 1000, .inl (f2 9))), ((bm 11), .inl (ct 0, 8, .inl (u.2.1 0))), ((bm 12), .inl (ct 0, 8, .inl (u.2.1 1))), ((bm 13), .inl (ct 0, 8, .inl (u.2.1 2)))])) (va_runV (As := [.int (xs (nI (k + 1)).toNatClampNeg), .int (xs (nI (k + 2)).toNatClampNeg)]) (rest := []) ⟨hx, hb, hml, hown, hts⟩ (a_X11_ransomed l G ct (bm 0) (v2 0 0) (bm 1) (bm 2) (bm 3) (bm 4) (bm 5) (v2 0 6) (v2 0 7) (v2 0 8) (v2 0 9) (v2 0 10) (g2 0 11) (v2 0 12) (v2 0 13) (v2 0 14) (v2 0 15) (bm 6) (bm 7) (bm 8) (bm 9) (bm 10) (bm 11) (bm 12) (bm 13) (v2 0 24) (v2 0 25) (v2 0 26) (v2 0 27) (bm 14) (v2 0 29) (v2 0 30) (f2 7) (f2 8) (f2 9) (f2 11) (f2 12) (f2 13) (xs (nI (k + 1)).toNatClampNeg) (xs (nI (k + 2)).toNatClampNeg) hIm.2.1 hIm.2.2.1 hIm.2.2.2.1 hIm.2.2.2.2.1 hIm.2.2.2.2.2.1 hIm.2.2.2.2.2.2.1) (cwV 2 hts gL_law_X11_ransomed rfl rfl rfl (by decide +kernel) ⟨Nat.le_of_ble_eq_true rfl, Nat.le_of_ble_eq_true rfl⟩) (wr_preV 11 0 hK (hPm.sub [0, 7, 8, 9, 11, 12, 13] rfl) (hDm.sub [0, 7, 8, 9, 11, 12, 13] (by decide) rfl) rfl rfl) rfl rfl hl.1 rfl (lv_room (Nat.le_of_ble_eq_true rfl)) dL_law_1598 ⟨Nat.le_of_ble_eq_true rfl, Nat.le_of_ble_eq_true rfl⟩) hS hPm hDm hPx (fun q h1 h2 => hap q h2 h1) [0, 7, 8, 9, 11, 12, 13] rfl (fun r2 u2 H locs wr2 hPx hF hS => ?_)
  obtain ⟨r2p0, r2p1, r2p2, r2p3, r2p4, r2p5, r2p6, r2p7, r2p8, r2p9, -⟩ := wr2
  have hPm : va_P G vwCl (mW bm ct (uv v2 [(0, 0, u2.1 0), (0, 24, u2.1 1), (0, 25, u2.1 2), (0, 26, u2.1 3), (0, 27, u2.1 4)]) (uf f2 [(11, u2.2.1 0), (12, u2.2.1 1), (13, u2.2.1 2)]) g2) H := hF (mW bm ct (uv v2 [(0, 0, u2.1 0), (0, 24, u2.1 1), (0, 25, u2.1 2), (0, 26, u2.1 3), (0, 27, u2.1 4)]) (uf f2 [(11, u2.2.1 0), (12, u2.2.1 1), (13, u2.2.1 2)]) g2) rfl (fun k9 hk9 => mW_same bm ct v2 (uv v2 [(0, 0, u2.1 0), (0, 24, u2.1 1), (0, 25, u2.1 2), (0, 26, u2.1 3), (0, 27, u2.1 4)]) f2 (uf f2 [(11, u2.2.1 0), (12, u2.2.1 1), (13, u2.2.1 2)]) g2 g2 k9 (uv_st hk9 (by rfl)) (uf_st hk9 (by rfl)) rfl)
  have hIm : MI (uv v2 [(0, 0, u2.1 0), (0, 24, u2.1 1), (0, 25, u2.1 2), (0, 26, u2.1 3), (0, 27, u2.1 4)]) (uf f2 [(11, u2.2.1 0), (12, u2.2.1 1), (13, u2.2.1 2)]) g2 := ⟨hIm.1, hIm.2.1, hIm.2.2.1, hIm.2.2.2.1, hIm.2.2.2.2.1, r2p7, r2p8, trivial⟩
  refine lv_pop hx hb dL_law_1601 rfl ?_
  refine lv_goto (tgt := 2133) hx hb dL_law_1602 (by decide) ?_
  exact kk v f g (uv v2 [(0, 0, u2.1 0), (0, 24, u2.1 1), (0, 25, u2.1 2), (0, 26, u2.1 3), (0, 27, u2.1 4)]) (uf f2 [(11, u2.2.1 0), (12, u2.2.1 1), (13, u2.2.1 2)]) g2 H locs ls hIx hIm hR hPx hPm hS hl
set_option maxHeartbeats 8000000 in
set_option maxRecDepth 100000 in
theorem law_c49 {p : Program} {e : Env} {s : State} {m : MethodId} {below : List Frame} {meth : Method} {c : Code} (l : Launch) {b L : Nat} {xs : Nat → Int32} (C0 : lw_At p s m meth c b L xs) (hL : L ≤ 3072) (k : Nat) (hk6 : k + 6 ≤ L) (G : va_G) (ct : Nat → ClassId) (a rr bm adK adV : Nat → Nat) (v : Nat → Nat → Int32) (f : Nat → Nat → Int32) (g : Nat → Nat → Int64) (v2 : Nat → Nat → Int32) (f2 : Nat → Nat → Int32) (g2 : Nat → Nat → Int64) (H : Heap) (locs : List Loc) (hK : KK G ct s) (hZ : SS adK adV (fun q : Nat => s.heap.size ≤ q) s s.heap) (hD0 : va_D (fun q : Nat => s.heap.size ≤ q) (xW a rr ct (fun _ _ => 0) (fun _ _ => 0) (fun _ _ => 0))) (hE0 : va_D (fun q : Nat => s.heap.size ≤ q) (mW bm ct (fun _ _ => 0) (fun _ _ => 0) (fun _ _ => 0))) (hap0 : wset a rr bm ct) (hIx : XI v f g) (hIm : MI v2 f2 g2) (hR : REL v f g v2 f2 g2) (hPx : va_P G vwCl (xW a rr ct v f g) H) (hPm : va_P G vwCl (mW bm ct v2 f2 g2) H) (hS : va_S (fun q : Nat => s.heap.size ≤ q) s.heap H locs) (ls : Array Slot) (hl : lv_has ls 4 [(3, .int (nI k)), (2, .ref (bm 0)), (1, .ref (a 0)), (0, .ref b)]) (kk : ∀ (v : Nat → Nat → Int32) (f : Nat → Nat → Int32) (g : Nat → Nat → Int64) (v2 : Nat → Nat → Int32) (f2 : Nat → Nat → Int32) (g2 : Nat → Nat → Int64) (H : Heap) (locs : List Loc) (ls : Array Slot), XI v f g → MI v2 f2 g2 → REL v f g v2 f2 g2 → va_P G vwCl (xW a rr ct v f g) H → va_P G vwCl (mW bm ct v2 f2 g2) H → va_S (fun q : Nat => s.heap.size ≤ q) s.heap H locs → lv_has ls 4 [(3, .int (nI k)), (2, .ref (bm 0)), (1, .ref (a 0)), (0, .ref b)] → W p l e room_1 s m #[Value.ref b] below meth c H locs 110 5410 (lw_Z below #[Value.ref b] s) (F0 m 2133 ls [])) : W p l e room_1 s m #[Value.ref b] below meth c H locs 110 5410 (lw_Z below #[Value.ref b] s) (F0 m 1605 ls []) := by
  obtain ⟨hx, hb, hr, hml, hown, hts, hX, hbl, hlocks, hgv⟩ := C0
  have hown : s.vm.findClass RL = some m.cls := hown
  have hts : ∀ z ∈ wsL_law, z.before #[Value.ref b] s = true := fun z h => hts z (wsL_law_in z h)
  have hbA : ¬ (fun q : Nat => s.heap.size ≤ q) b := Nat.not_le.mpr hbl
  have hDx : va_D (fun q : Nat => s.heap.size ≤ q) (xW a rr ct v f g) := hD0.ad (xW_ad ..)
  have hDm : va_D (fun q : Nat => s.heap.size ≤ q) (mW bm ct v2 f2 g2) := hE0.ad (mW_ad ..)
  have hap : ∀ q, aset (xW a rr ct v f g) q → ¬ aset (mW bm ct v2 f2 g2) q := fun q h1 h2 => hap0 q (aset_ad (xW_ad ..) h1) (aset_ad (mW_ad ..) h2)
  refine lv_aload_n hx hb dL_law_1605 rfl (lv_at hl 2 rfl) ?_
  refine lv_aload_n hx hb dL_law_1606 rfl (lv_at hl 3 rfl) ?_
  refine lv_iload_n hx hb dL_law_1607 rfl (lv_at hl 0 rfl) ?_
  refine lv_iconst (v := 1) hx hb dL_law_1608 (by decide) ?_
  refine lv_iadd hx hb dL_law_1609 ?_
  refine ix_i (y := nI (k + 1)) (nI_add k 1) ?_
  refine va_sld hx hb hX hbl hbA hS (vp_in_nI (n := k + 1) (by omega) (by omega)) dL_law_1610 ?_
  refine ro_calli (va_runV (As := [.int (xs (nI (k + 1)).toNatClampNeg)]) (rest := []) ⟨hx, hb, hml, hown, hts⟩ (a_X10_power l G ct (a 0) (a 1) (a 3) (a 11) (a 25) (a 68) (a 69) (a 77) (a 82) (a 84) (a 88) (a 91) (a 12) (a 19) (a 24) (v 11 3) (a 13) (a 15) (a 16) (a 17) (a 18) (v 12 5) (v 12 6) (a 14) (v 13 1) (f 16) (a 20) (a 22) (a 23) (v 19 4) (v 19 5) (v 19 6) (v 19 7) (a 21) (v 20 1) (f 21) (xs (nI (k + 1)).toNatClampNeg) hIx.2.2.1 hIx.2.2.2.1) (cwV 1 hts gL_law_X10_power rfl rfl rfl (by decide +kernel) ⟨Nat.le_of_ble_eq_true rfl, Nat.le_of_ble_eq_true rfl⟩) (ro_preV 10 0 hK (hPx.sub [0, 11, 12, 13, 16, 19, 20, 21] rfl) rfl rfl) rfl rfl hl.1 rfl (lv_room (Nat.le_of_ble_eq_true rfl)) dL_law_1611 ⟨Nat.le_of_ble_eq_true rfl, Nat.le_of_ble_eq_true rfl⟩) hS (hPx.app hPm) (fun r1 H locs wr1 hPP hS => ?_)
  have hPx := va_P.left hPP
  have hPm := va_P.right hPP
  obtain ⟨r1p0, r1p1, r1p2, r1p3, r1p4, -⟩ := wr1
  refine lv_pop hx hb dL_law_1614 rfl ?_
  refine lv_aload_n hx hb dL_law_1615 rfl (lv_at hl 1 rfl) ?_
  refine lv_aload_n hx hb dL_law_1616 rfl (lv_at hl 3 rfl) ?_
  refine lv_iload_n hx hb dL_law_1617 rfl (lv_at hl 0 rfl) ?_
  refine lv_iconst (v := 1) hx hb dL_law_1618 (by decide) ?_
  refine lv_iadd hx hb dL_law_1619 ?_
  refine ix_i (y := nI (k + 1)) (nI_add k 1) ?_
  refine va_sld hx hb hX hbl hbA hS (vp_in_nI (n := k + 1) (by omega) (by omega)) dL_law_1620 ?_
  refine lw_callx (w1 := (fun u : SU => [((bm 0), .inr (11, [.int (u.1 0), .ref (bm 1), .ref (bm 2), .ref (bm 3), .ref (bm 4), .ref (bm 5), .int (v2 0 6), .int (v2 0 7), .int (v2 0 8), .int (v2 0 9), .int (v2 0 10), .long (g2 0 11), .int (v2 0 12), .int (v2 0 13), .int (v2 0 14), .int (v2 0 15), .ref (bm 6), .ref (bm 7), .ref (bm 8), .ref (bm 9), .ref (bm 10), .ref (bm 11), .ref (bm 12), .ref (bm 13), .int (u.1 1), .int (u.1 2), .int (u.1 3), .int (u.1 4), .ref (bm 14), .int (v2 0 29), .int (v2 0 30)])), ((bm 7), .inl (ct 0, 15, .inl (f2 7))), ((bm 8), .inl (ct 0, 200, .inl (f2 8))), ((bm 9), .inl (ct 0, 1000, .inl (f2 9))), ((bm 11), .inl (ct 0, 8, .inl (u.2.1 0))), ((bm 12), .inl (ct 0, 8, .inl (u.2.1 1))), ((bm 13), .inl (ct 0, 8, .inl (u.2.1 2)))])) (va_runV (As := [.int (xs (nI (k + 1)).toNatClampNeg)]) (rest := []) ⟨hx, hb, hml, hown, hts⟩ (a_X11_power l G ct (bm 0) (v2 0 0) (bm 1) (bm 2) (bm 3) (bm 4) (bm 5) (v2 0 6) (v2 0 7) (v2 0 8) (v2 0 9) (v2 0 10) (g2 0 11) (v2 0 12) (v2 0 13) (v2 0 14) (v2 0 15) (bm 6) (bm 7) (bm 8) (bm 9) (bm 10) (bm 11) (bm 12) (bm 13) (v2 0 24) (v2 0 25) (v2 0 26) (v2 0 27) (bm 14) (v2 0 29) (v2 0 30) (f2 7) (f2 8) (f2 9) (f2 11) (f2 12) (f2 13) (xs (nI (k + 1)).toNatClampNeg) hIm.2.1 hIm.2.2.1 hIm.2.2.2.1 hIm.2.2.2.2.1 hIm.2.2.2.2.2.1 hIm.2.2.2.2.2.2.1) (cwV 1 hts gL_law_X11_power rfl rfl rfl (by decide +kernel) ⟨Nat.le_of_ble_eq_true rfl, Nat.le_of_ble_eq_true rfl⟩) (wr_preV 11 0 hK (hPm.sub [0, 7, 8, 9, 11, 12, 13] rfl) (hDm.sub [0, 7, 8, 9, 11, 12, 13] (by decide) rfl) rfl rfl) rfl rfl hl.1 rfl (lv_room (Nat.le_of_ble_eq_true rfl)) dL_law_1621 ⟨Nat.le_of_ble_eq_true rfl, Nat.le_of_ble_eq_true rfl⟩) hS hPm hDm hPx (fun q h1 h2 => hap q h2 h1) [0, 7, 8, 9, 11, 12, 13] rfl (fun r2 u2 H locs wr2 hPx hF hS => ?_)
  obtain ⟨r2p0, r2p1, r2p2, r2p3, r2p4, r2p5, -⟩ := wr2
  have hPm : va_P G vwCl (mW bm ct (uv v2 [(0, 0, u2.1 0), (0, 24, u2.1 1), (0, 25, u2.1 2), (0, 26, u2.1 3), (0, 27, u2.1 4)]) (uf f2 [(11, u2.2.1 0), (12, u2.2.1 1), (13, u2.2.1 2)]) g2) H := hF (mW bm ct (uv v2 [(0, 0, u2.1 0), (0, 24, u2.1 1), (0, 25, u2.1 2), (0, 26, u2.1 3), (0, 27, u2.1 4)]) (uf f2 [(11, u2.2.1 0), (12, u2.2.1 1), (13, u2.2.1 2)]) g2) rfl (fun k9 hk9 => mW_same bm ct v2 (uv v2 [(0, 0, u2.1 0), (0, 24, u2.1 1), (0, 25, u2.1 2), (0, 26, u2.1 3), (0, 27, u2.1 4)]) f2 (uf f2 [(11, u2.2.1 0), (12, u2.2.1 1), (13, u2.2.1 2)]) g2 g2 k9 (uv_st hk9 (by rfl)) (uf_st hk9 (by rfl)) rfl)
  have hIm : MI (uv v2 [(0, 0, u2.1 0), (0, 24, u2.1 1), (0, 25, u2.1 2), (0, 26, u2.1 3), (0, 27, u2.1 4)]) (uf f2 [(11, u2.2.1 0), (12, u2.2.1 1), (13, u2.2.1 2)]) g2 := ⟨hIm.1, hIm.2.1, hIm.2.2.1, hIm.2.2.2.1, hIm.2.2.2.2.1, r2p3, r2p4, trivial⟩
  refine lv_pop hx hb dL_law_1624 rfl ?_
  refine lv_goto (tgt := 2133) hx hb dL_law_1625 (by decide) ?_
  exact kk v f g (uv v2 [(0, 0, u2.1 0), (0, 24, u2.1 1), (0, 25, u2.1 2), (0, 26, u2.1 3), (0, 27, u2.1 4)]) (uf f2 [(11, u2.2.1 0), (12, u2.2.1 1), (13, u2.2.1 2)]) g2 H locs ls hIx hIm hR hPx hPm hS hl
set_option maxHeartbeats 8000000 in
set_option maxRecDepth 100000 in
theorem law_c50 {p : Program} {e : Env} {s : State} {m : MethodId} {below : List Frame} {meth : Method} {c : Code} (l : Launch) {b L : Nat} {xs : Nat → Int32} (C0 : lw_At p s m meth c b L xs) (hL : L ≤ 3072) (k : Nat) (hk6 : k + 6 ≤ L) (G : va_G) (ct : Nat → ClassId) (a rr bm adK adV : Nat → Nat) (v : Nat → Nat → Int32) (f : Nat → Nat → Int32) (g : Nat → Nat → Int64) (v2 : Nat → Nat → Int32) (f2 : Nat → Nat → Int32) (g2 : Nat → Nat → Int64) (H : Heap) (locs : List Loc) (hK : KK G ct s) (hZ : SS adK adV (fun q : Nat => s.heap.size ≤ q) s s.heap) (hD0 : va_D (fun q : Nat => s.heap.size ≤ q) (xW a rr ct (fun _ _ => 0) (fun _ _ => 0) (fun _ _ => 0))) (hE0 : va_D (fun q : Nat => s.heap.size ≤ q) (mW bm ct (fun _ _ => 0) (fun _ _ => 0) (fun _ _ => 0))) (hap0 : wset a rr bm ct) (hIx : XI v f g) (hIm : MI v2 f2 g2) (hR : REL v f g v2 f2 g2) (hPx : va_P G vwCl (xW a rr ct v f g) H) (hPm : va_P G vwCl (mW bm ct v2 f2 g2) H) (hS : va_S (fun q : Nat => s.heap.size ≤ q) s.heap H locs) (ls : Array Slot) (hl : lv_has ls 4 [(3, .int (nI k)), (2, .ref (bm 0)), (1, .ref (a 0)), (0, .ref b)]) (kk : ∀ (v : Nat → Nat → Int32) (f : Nat → Nat → Int32) (g : Nat → Nat → Int64) (v2 : Nat → Nat → Int32) (f2 : Nat → Nat → Int32) (g2 : Nat → Nat → Int64) (H : Heap) (locs : List Loc) (ls : Array Slot), XI v f g → MI v2 f2 g2 → REL v f g v2 f2 g2 → va_P G vwCl (xW a rr ct v f g) H → va_P G vwCl (mW bm ct v2 f2 g2) H → va_S (fun q : Nat => s.heap.size ≤ q) s.heap H locs → lv_has ls 4 [(3, .int (nI k)), (2, .ref (bm 0)), (1, .ref (a 0)), (0, .ref b)] → W p l e room_1 s m #[Value.ref b] below meth c H locs 110 5410 (lw_Z below #[Value.ref b] s) (F0 m 2133 ls [])) : W p l e room_1 s m #[Value.ref b] below meth c H locs 110 5410 (lw_Z below #[Value.ref b] s) (F0 m 1628 ls []) := by
  obtain ⟨hx, hb, hr, hml, hown, hts, hX, hbl, hlocks, hgv⟩ := C0
  have hown : s.vm.findClass RL = some m.cls := hown
  have hts : ∀ z ∈ wsL_law, z.before #[Value.ref b] s = true := fun z h => hts z (wsL_law_in z h)
  have hbA : ¬ (fun q : Nat => s.heap.size ≤ q) b := Nat.not_le.mpr hbl
  have hDx : va_D (fun q : Nat => s.heap.size ≤ q) (xW a rr ct v f g) := hD0.ad (xW_ad ..)
  have hDm : va_D (fun q : Nat => s.heap.size ≤ q) (mW bm ct v2 f2 g2) := hE0.ad (mW_ad ..)
  have hap : ∀ q, aset (xW a rr ct v f g) q → ¬ aset (mW bm ct v2 f2 g2) q := fun q h1 h2 => hap0 q (aset_ad (xW_ad ..) h1) (aset_ad (mW_ad ..) h2)
  refine lv_aload_n hx hb dL_law_1628 rfl (lv_at hl 2 rfl) ?_
  refine ro_calli (va_runV (As := []) (rest := []) ⟨hx, hb, hml, hown, hts⟩ (a_X10_mighty l G ct (a 0) (a 1) (a 3) (a 11) (a 25) (a 68) (a 69) (a 77) (a 82) (a 84) (a 88) (a 91) (a 12) (a 19) (a 24) (v 11 3) (a 13) (a 15) (a 16) (a 17) (a 18) (v 12 5) (v 12 6) (a 14) (v 13 1) (f 16) (a 20) (a 22) (a 23) (v 19 4) (v 19 5) (v 19 6) (v 19 7) (a 21) (v 20 1) (f 21) hIx.2.2.1 hIx.2.2.2.1) (cwV 0 hts gL_law_X10_mighty rfl rfl rfl (by decide +kernel) ⟨Nat.le_of_ble_eq_true rfl, Nat.le_of_ble_eq_true rfl⟩) (ro_preV 10 0 hK (hPx.sub [0, 11, 12, 13, 16, 19, 20, 21] rfl) rfl rfl) rfl rfl hl.1 rfl (lv_room (Nat.le_of_ble_eq_true rfl)) dL_law_1629 ⟨Nat.le_of_ble_eq_true rfl, Nat.le_of_ble_eq_true rfl⟩) hS (hPx.app hPm) (fun r1 H locs wr1 hPP hS => ?_)
  have hPx := va_P.left hPP
  have hPm := va_P.right hPP
  obtain ⟨r1p0, r1p1, r1p2, r1p3, -⟩ := wr1
  refine lv_pop hx hb dL_law_1632 rfl ?_
  refine lv_aload_n hx hb dL_law_1633 rfl (lv_at hl 1 rfl) ?_
  refine lw_callx (w1 := (fun u : SU => [((bm 0), .inr (11, [.int (u.1 0), .ref (bm 1), .ref (bm 2), .ref (bm 3), .ref (bm 4), .ref (bm 5), .int (v2 0 6), .int (v2 0 7), .int (v2 0 8), .int (v2 0 9), .int (v2 0 10), .long (g2 0 11), .int (v2 0 12), .int (v2 0 13), .int (v2 0 14), .int (v2 0 15), .ref (bm 6), .ref (bm 7), .ref (bm 8), .ref (bm 9), .ref (bm 10), .ref (bm 11), .ref (bm 12), .ref (bm 13), .int (u.1 1), .int (u.1 2), .int (u.1 3), .int (u.1 4), .ref (bm 14), .int (v2 0 29), .int (v2 0 30)])), ((bm 6), .inl (ct 0, 5, .inl (f2 6))), ((bm 7), .inl (ct 0, 15, .inl (f2 7))), ((bm 8), .inl (ct 0, 200, .inl (f2 8))), ((bm 9), .inl (ct 0, 1000, .inl (f2 9))), ((bm 11), .inl (ct 0, 8, .inl (u.2.1 0))), ((bm 12), .inl (ct 0, 8, .inl (u.2.1 1))), ((bm 13), .inl (ct 0, 8, .inl (u.2.1 2)))])) (va_runV (As := []) (rest := []) ⟨hx, hb, hml, hown, hts⟩ (a_X11_mighty l G ct (bm 0) (v2 0 0) (bm 1) (bm 2) (bm 3) (bm 4) (bm 5) (v2 0 6) (v2 0 7) (v2 0 8) (v2 0 9) (v2 0 10) (g2 0 11) (v2 0 12) (v2 0 13) (v2 0 14) (v2 0 15) (bm 6) (bm 7) (bm 8) (bm 9) (bm 10) (bm 11) (bm 12) (bm 13) (v2 0 24) (v2 0 25) (v2 0 26) (v2 0 27) (bm 14) (v2 0 29) (v2 0 30) (f2 6) (f2 7) (f2 8) (f2 9) (f2 11) (f2 12) (f2 13) hIm.2.1 hIm.2.2.1 hIm.2.2.2.1 hIm.2.2.2.2.1 hIm.2.2.2.2.2.1 hIm.2.2.2.2.2.2.1) (cwV 0 hts gL_law_X11_mighty rfl rfl rfl (by decide +kernel) ⟨Nat.le_of_ble_eq_true rfl, Nat.le_of_ble_eq_true rfl⟩) (wr_preV 11 0 hK (hPm.sub [0, 6, 7, 8, 9, 11, 12, 13] rfl) (hDm.sub [0, 6, 7, 8, 9, 11, 12, 13] (by decide) rfl) rfl rfl) rfl rfl hl.1 rfl (lv_room (Nat.le_of_ble_eq_true rfl)) dL_law_1634 ⟨Nat.le_of_ble_eq_true rfl, Nat.le_of_ble_eq_true rfl⟩) hS hPm hDm hPx (fun q h1 h2 => hap q h2 h1) [0, 6, 7, 8, 9, 11, 12, 13] rfl (fun r2 u2 H locs wr2 hPx hF hS => ?_)
  obtain ⟨r2p0, r2p1, r2p2, r2p3, -⟩ := wr2
  have hPm : va_P G vwCl (mW bm ct (uv v2 [(0, 0, u2.1 0), (0, 24, u2.1 1), (0, 25, u2.1 2), (0, 26, u2.1 3), (0, 27, u2.1 4)]) (uf f2 [(11, u2.2.1 0), (12, u2.2.1 1), (13, u2.2.1 2)]) g2) H := hF (mW bm ct (uv v2 [(0, 0, u2.1 0), (0, 24, u2.1 1), (0, 25, u2.1 2), (0, 26, u2.1 3), (0, 27, u2.1 4)]) (uf f2 [(11, u2.2.1 0), (12, u2.2.1 1), (13, u2.2.1 2)]) g2) rfl (fun k9 hk9 => mW_same bm ct v2 (uv v2 [(0, 0, u2.1 0), (0, 24, u2.1 1), (0, 25, u2.1 2), (0, 26, u2.1 3), (0, 27, u2.1 4)]) f2 (uf f2 [(11, u2.2.1 0), (12, u2.2.1 1), (13, u2.2.1 2)]) g2 g2 k9 (uv_st hk9 (by rfl)) (uf_st hk9 (by rfl)) rfl)
  have hIm : MI (uv v2 [(0, 0, u2.1 0), (0, 24, u2.1 1), (0, 25, u2.1 2), (0, 26, u2.1 3), (0, 27, u2.1 4)]) (uf f2 [(11, u2.2.1 0), (12, u2.2.1 1), (13, u2.2.1 2)]) g2 := ⟨hIm.1, hIm.2.1, hIm.2.2.1, hIm.2.2.2.1, hIm.2.2.2.2.1, r2p1, r2p2, trivial⟩
  refine lv_pop hx hb dL_law_1637 rfl ?_
  refine lv_goto (tgt := 2133) hx hb dL_law_1638 (by decide) ?_
  exact kk v f g (uv v2 [(0, 0, u2.1 0), (0, 24, u2.1 1), (0, 25, u2.1 2), (0, 26, u2.1 3), (0, 27, u2.1 4)]) (uf f2 [(11, u2.2.1 0), (12, u2.2.1 1), (13, u2.2.1 2)]) g2 H locs ls hIx hIm hR hPx hPm hS hl
set_option maxHeartbeats 8000000 in
set_option maxRecDepth 100000 in
theorem law_c51 {p : Program} {e : Env} {s : State} {m : MethodId} {below : List Frame} {meth : Method} {c : Code} (l : Launch) {b L : Nat} {xs : Nat → Int32} (C0 : lw_At p s m meth c b L xs) (hL : L ≤ 3072) (k : Nat) (hk6 : k + 6 ≤ L) (G : va_G) (ct : Nat → ClassId) (a rr bm adK adV : Nat → Nat) (v : Nat → Nat → Int32) (f : Nat → Nat → Int32) (g : Nat → Nat → Int64) (v2 : Nat → Nat → Int32) (f2 : Nat → Nat → Int32) (g2 : Nat → Nat → Int64) (H : Heap) (locs : List Loc) (hK : KK G ct s) (hZ : SS adK adV (fun q : Nat => s.heap.size ≤ q) s s.heap) (hD0 : va_D (fun q : Nat => s.heap.size ≤ q) (xW a rr ct (fun _ _ => 0) (fun _ _ => 0) (fun _ _ => 0))) (hE0 : va_D (fun q : Nat => s.heap.size ≤ q) (mW bm ct (fun _ _ => 0) (fun _ _ => 0) (fun _ _ => 0))) (hap0 : wset a rr bm ct) (hIx : XI v f g) (hIm : MI v2 f2 g2) (hR : REL v f g v2 f2 g2) (hPx : va_P G vwCl (xW a rr ct v f g) H) (hPm : va_P G vwCl (mW bm ct v2 f2 g2) H) (hS : va_S (fun q : Nat => s.heap.size ≤ q) s.heap H locs) (ls : Array Slot) (hl : lv_has ls 4 [(3, .int (nI k)), (2, .ref (bm 0)), (1, .ref (a 0)), (0, .ref b)]) (kk : ∀ (v : Nat → Nat → Int32) (f : Nat → Nat → Int32) (g : Nat → Nat → Int64) (v2 : Nat → Nat → Int32) (f2 : Nat → Nat → Int32) (g2 : Nat → Nat → Int64) (H : Heap) (locs : List Loc) (ls : Array Slot), XI v f g → MI v2 f2 g2 → REL v f g v2 f2 g2 → va_P G vwCl (xW a rr ct v f g) H → va_P G vwCl (mW bm ct v2 f2 g2) H → va_S (fun q : Nat => s.heap.size ≤ q) s.heap H locs → lv_has ls 4 [(3, .int (nI k)), (2, .ref (bm 0)), (1, .ref (a 0)), (0, .ref b)] → W p l e room_1 s m #[Value.ref b] below meth c H locs 110 5410 (lw_Z below #[Value.ref b] s) (F0 m 2133 ls [])) : W p l e room_1 s m #[Value.ref b] below meth c H locs 110 5410 (lw_Z below #[Value.ref b] s) (F0 m 1641 ls []) := by
  obtain ⟨hx, hb, hr, hml, hown, hts, hX, hbl, hlocks, hgv⟩ := C0
  have hown : s.vm.findClass RL = some m.cls := hown
  have hts : ∀ z ∈ wsL_law, z.before #[Value.ref b] s = true := fun z h => hts z (wsL_law_in z h)
  have hbA : ¬ (fun q : Nat => s.heap.size ≤ q) b := Nat.not_le.mpr hbl
  have hDx : va_D (fun q : Nat => s.heap.size ≤ q) (xW a rr ct v f g) := hD0.ad (xW_ad ..)
  have hDm : va_D (fun q : Nat => s.heap.size ≤ q) (mW bm ct v2 f2 g2) := hE0.ad (mW_ad ..)
  have hap : ∀ q, aset (xW a rr ct v f g) q → ¬ aset (mW bm ct v2 f2 g2) q := fun q h1 h2 => hap0 q (aset_ad (xW_ad ..) h1) (aset_ad (mW_ad ..) h2)
  refine lv_aload_n hx hb dL_law_1641 rfl (lv_at hl 2 rfl) ?_
  refine lv_aload_n hx hb dL_law_1642 rfl (lv_at hl 3 rfl) ?_
  refine lv_iload_n hx hb dL_law_1643 rfl (lv_at hl 0 rfl) ?_
  refine lv_iconst (v := 1) hx hb dL_law_1644 (by decide) ?_
  refine lv_iadd hx hb dL_law_1645 ?_
  refine ix_i (y := nI (k + 1)) (nI_add k 1) ?_
  refine va_sld hx hb hX hbl hbA hS (vp_in_nI (n := k + 1) (by omega) (by omega)) dL_law_1646 ?_
  refine lw_callx (w1 := (fun u : SU => [((a 0), .inr (10, [.ref (a 1), .ref (a 3), .ref (a 11), .ref (a 25), .ref (a 68), .ref (a 69), .ref (a 77), .ref (a 82), .ref (a 84), .ref (a 88), .ref (a 91)])), ((a 11), .inr (4, [.ref (a 12), .ref (a 19), .ref (a 24), .int (v 11 3)])), ((a 12), .inr (9, [.ref (a 13), .ref (a 15), .ref (a 16), .ref (a 17), .ref (a 18), .int (v 12 5), .int (v 12 6)])), ((a 13), .inr (0, [.ref (a 14), .int (v 13 1)])), ((a 16), .inl (ct 0, 8, .inl (f 16))), ((a 19), .inr (2, [.ref (a 12), .ref (a 20), .ref (a 22), .ref (a 23), .int (v 19 4), .int (v 19 5), .int (v 19 6), .int (v 19 7)])), ((a 20), .inr (0, [.ref (a 21), .int (v 20 1)])), ((a 21), .inl (ct 0, 8, .inl (f 21))), ((a 82), .inr (0, [.ref (a 83), .int (u.1 0)])), ((a 83), .inl (ct 0, 8, .inl (u.2.1 0)))])) (va_runV (As := [.int (xs (nI (k + 1)).toNatClampNeg)]) (rest := []) ⟨hx, hb, hml, hown, hts⟩ (a_X10_covet l G ct (a 0) (a 1) (a 3) (a 11) (a 25) (a 68) (a 69) (a 77) (a 82) (a 84) (a 88) (a 91) (a 12) (a 19) (a 24) (v 11 3) (a 13) (a 15) (a 16) (a 17) (a 18) (v 12 5) (v 12 6) (a 14) (v 13 1) (f 16) (a 20) (a 22) (a 23) (v 19 4) (v 19 5) (v 19 6) (v 19 7) (a 21) (v 20 1) (f 21) (a 83) (v 82 1) (f 83) (xs (nI (k + 1)).toNatClampNeg) hIx.2.2.1 hIx.2.2.2.1 hIx.2.2.2.2.2.2.2.2.2.2.2.2.1) (cwV 1 hts gL_law_X10_covet rfl rfl rfl (by decide +kernel) ⟨Nat.le_of_ble_eq_true rfl, Nat.le_of_ble_eq_true rfl⟩) (wr_preV 10 0 hK (hPx.sub [0, 11, 12, 13, 16, 19, 20, 21, 82, 83] rfl) (hDx.sub [0, 11, 12, 13, 16, 19, 20, 21, 82, 83] (by decide) rfl) rfl rfl) rfl rfl hl.1 rfl (lv_room (Nat.le_of_ble_eq_true rfl)) dL_law_1647 ⟨Nat.le_of_ble_eq_true rfl, Nat.le_of_ble_eq_true rfl⟩) hS hPx hDx hPm hap [0, 11, 12, 13, 16, 19, 20, 21, 82, 83] rfl (fun r1 u1 H locs wr1 hPm hF hS => ?_)
  obtain ⟨r1p0, r1p1, r1p2, r1p3, r1p4, r1p5, r1p6, r1p7, -⟩ := wr1
  have hPx : va_P G vwCl (xW a rr ct (uv v [(82, 1, u1.1 0)]) (uf f [(83, u1.2.1 0)]) g) H := hF (xW a rr ct (uv v [(82, 1, u1.1 0)]) (uf f [(83, u1.2.1 0)]) g) rfl (fun k9 hk9 => xW_same a rr ct v (uv v [(82, 1, u1.1 0)]) f (uf f [(83, u1.2.1 0)]) g g k9 (uv_st hk9 (by rfl)) (uf_st hk9 (by rfl)) rfl)
  have hIx : XI (uv v [(82, 1, u1.1 0)]) (uf f [(83, u1.2.1 0)]) g := ⟨hIx.1, hIx.2.1, hIx.2.2.1, hIx.2.2.2.1, hIx.2.2.2.2.1, hIx.2.2.2.2.2.1, hIx.2.2.2.2.2.2.1, hIx.2.2.2.2.2.2.2.1, hIx.2.2.2.2.2.2.2.2.1, hIx.2.2.2.2.2.2.2.2.2.1, hIx.2.2.2.2.2.2.2.2.2.2.1, hIx.2.2.2.2.2.2.2.2.2.2.2.1, r1p7, hIx.2.2.2.2.2.2.2.2.2.2.2.2.2.1, hIx.2.2.2.2.2.2.2.2.2.2.2.2.2.2.1, hIx.2.2.2.2.2.2.2.2.2.2.2.2.2.2.2.1, trivial⟩
  have hap : ∀ q, aset (xW a rr ct (uv v [(82, 1, u1.1 0)]) (uf f [(83, u1.2.1 0)]) g) q → ¬ aset (mW bm ct v2 f2 g2) q := fun q h1 h2 => hap0 q (aset_ad (xW_ad ..) h1) (aset_ad (mW_ad ..) h2)
  refine lv_pop hx hb dL_law_1650 rfl ?_
  refine lv_aload_n hx hb dL_law_1651 rfl (lv_at hl 1 rfl) ?_
  refine lv_aload_n hx hb dL_law_1652 rfl (lv_at hl 3 rfl) ?_
  refine lv_iload_n hx hb dL_law_1653 rfl (lv_at hl 0 rfl) ?_
  refine lv_iconst (v := 1) hx hb dL_law_1654 (by decide) ?_
  refine lv_iadd hx hb dL_law_1655 ?_
  refine ix_i (y := nI (k + 1)) (nI_add k 1) ?_
  refine va_sld hx hb hX hbl hbA hS (vp_in_nI (n := k + 1) (by omega) (by omega)) dL_law_1656 ?_
  refine lw_callx (w1 := (fun u : SU => [((bm 0), .inr (11, [.int (u.1 0), .ref (bm 1), .ref (bm 2), .ref (bm 3), .ref (bm 4), .ref (bm 5), .int (v2 0 6), .int (v2 0 7), .int (v2 0 8), .int (v2 0 9), .int (v2 0 10), .long (g2 0 11), .int (v2 0 12), .int (v2 0 13), .int (v2 0 14), .int (v2 0 15), .ref (bm 6), .ref (bm 7), .ref (bm 8), .ref (bm 9), .ref (bm 10), .ref (bm 11), .ref (bm 12), .ref (bm 13), .int (u.1 1), .int (u.1 2), .int (u.1 3), .int (u.1 4), .ref (bm 14), .int (v2 0 29), .int (v2 0 30)])), ((bm 7), .inl (ct 0, 15, .inl (f2 7))), ((bm 8), .inl (ct 0, 200, .inl (f2 8))), ((bm 9), .inl (ct 0, 1000, .inl (f2 9))), ((bm 11), .inl (ct 0, 8, .inl (u.2.1 0))), ((bm 12), .inl (ct 0, 8, .inl (u.2.1 1))), ((bm 13), .inl (ct 0, 8, .inl (u.2.1 2)))])) (va_runV (As := [.int (xs (nI (k + 1)).toNatClampNeg)]) (rest := []) ⟨hx, hb, hml, hown, hts⟩ (a_X11_covet l G ct (bm 0) (v2 0 0) (bm 1) (bm 2) (bm 3) (bm 4) (bm 5) (v2 0 6) (v2 0 7) (v2 0 8) (v2 0 9) (v2 0 10) (g2 0 11) (v2 0 12) (v2 0 13) (v2 0 14) (v2 0 15) (bm 6) (bm 7) (bm 8) (bm 9) (bm 10) (bm 11) (bm 12) (bm 13) (v2 0 24) (v2 0 25) (v2 0 26) (v2 0 27) (bm 14) (v2 0 29) (v2 0 30) (f2 7) (f2 8) (f2 9) (f2 11) (f2 12) (f2 13) (xs (nI (k + 1)).toNatClampNeg) hIm.2.1 hIm.2.2.1 hIm.2.2.2.1 hIm.2.2.2.2.1 hIm.2.2.2.2.2.1 hIm.2.2.2.2.2.2.1) (cwV 1 hts gL_law_X11_covet rfl rfl rfl (by decide +kernel) ⟨Nat.le_of_ble_eq_true rfl, Nat.le_of_ble_eq_true rfl⟩) (wr_preV 11 0 hK (hPm.sub [0, 7, 8, 9, 11, 12, 13] rfl) (hDm.sub [0, 7, 8, 9, 11, 12, 13] (by decide) rfl) rfl rfl) rfl rfl hl.1 rfl (lv_room (Nat.le_of_ble_eq_true rfl)) dL_law_1657 ⟨Nat.le_of_ble_eq_true rfl, Nat.le_of_ble_eq_true rfl⟩) hS hPm hDm hPx (fun q h1 h2 => hap q h2 h1) [0, 7, 8, 9, 11, 12, 13] rfl (fun r2 u2 H locs wr2 hPx hF hS => ?_)
  obtain ⟨r2p0, r2p1, r2p2, r2p3, r2p4, r2p5, r2p6, -⟩ := wr2
  have hPm : va_P G vwCl (mW bm ct (uv v2 [(0, 0, u2.1 0), (0, 24, u2.1 1), (0, 25, u2.1 2), (0, 26, u2.1 3), (0, 27, u2.1 4)]) (uf f2 [(11, u2.2.1 0), (12, u2.2.1 1), (13, u2.2.1 2)]) g2) H := hF (mW bm ct (uv v2 [(0, 0, u2.1 0), (0, 24, u2.1 1), (0, 25, u2.1 2), (0, 26, u2.1 3), (0, 27, u2.1 4)]) (uf f2 [(11, u2.2.1 0), (12, u2.2.1 1), (13, u2.2.1 2)]) g2) rfl (fun k9 hk9 => mW_same bm ct v2 (uv v2 [(0, 0, u2.1 0), (0, 24, u2.1 1), (0, 25, u2.1 2), (0, 26, u2.1 3), (0, 27, u2.1 4)]) f2 (uf f2 [(11, u2.2.1 0), (12, u2.2.1 1), (13, u2.2.1 2)]) g2 g2 k9 (uv_st hk9 (by rfl)) (uf_st hk9 (by rfl)) rfl)
  have hIm : MI (uv v2 [(0, 0, u2.1 0), (0, 24, u2.1 1), (0, 25, u2.1 2), (0, 26, u2.1 3), (0, 27, u2.1 4)]) (uf f2 [(11, u2.2.1 0), (12, u2.2.1 1), (13, u2.2.1 2)]) g2 := ⟨hIm.1, hIm.2.1, hIm.2.2.1, hIm.2.2.2.1, hIm.2.2.2.2.1, r2p4, r2p5, trivial⟩
  refine lv_pop hx hb dL_law_1660 rfl ?_
  refine lv_goto (tgt := 2133) hx hb dL_law_1661 (by decide) ?_
  exact kk (uv v [(82, 1, u1.1 0)]) (uf f [(83, u1.2.1 0)]) g (uv v2 [(0, 0, u2.1 0), (0, 24, u2.1 1), (0, 25, u2.1 2), (0, 26, u2.1 3), (0, 27, u2.1 4)]) (uf f2 [(11, u2.2.1 0), (12, u2.2.1 1), (13, u2.2.1 2)]) g2 H locs ls hIx hIm hR hPx hPm hS hl
