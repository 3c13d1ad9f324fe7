theorem dL_law_1470 : decode cL_law 1470 = .ok (.aload_n 1, 1) := by decide +kernel
set_option maxRecDepth 20000 in
theorem ggL_law_X10_firmest : GoodIn wsL_law wsX10_firmest := goodIn_r _ [1384, 52, 24, 623, 624, 625, 2, 626, 35, 190, 1331, 1332, 1333, 51, 1334, 1335, 1336, 1337, 1338, 215, 216, 217, 1339, 1340, 1341, 123, 124, 125, 1342, 330, 331, 39, 332, 81, 319, 320, 321, 322, 323, 1343, 537, 538, 64, 539, 72, 74, 386, 1344, 550, 551, 552, 553, 1345, 1346, 1347, 1348, 203, 403, 404, 1245, 544, 545, 546, 547, 528, 534, 1327, 1328, 1329, 1330, 1033, 923, 924, 925, 926, 927, 928, 1349, 1350, 1351, 1352, 1353, 1354, 1355, 1356, 1672, 1673, 1674, 1675, 1676, 1677, 1678, 1679, 1680, 1681, 1682, 1724, 1725, 1726, 1727, 1752, 1753, 1754, 1755, 1756, 1757, 1758, 1740, 1741, 1748, 1749, 1750, 1751, 1732, 1733, 1734, 1735, 1736, 1737, 1738, 1739] (by decide +kernel) (by decide +kernel)
set_option maxRecDepth 20000 in
theorem gL_law_X10_firmest : GoodIn wsL_law (wsV RL 195 RX10 yX10_firmest wsX10_firmest) := goodIn_app (goodIn_of _ (by decide +kernel)) ggL_law_X10_firmest
theorem dL_law_1471 : decode cL_law 1471 = .ok (.invokevirtual 195, 3) := by decide +kernel
theorem dL_law_1474 : decode cL_law 1474 = .ok (.aload_n 2, 1) := by decide +kernel
set_option maxRecDepth 20000 in
theorem ggL_law_X11_firmest : GoodIn wsL_law wsX11_firmest := goodIn_r _ [1388, 164, 137, 636, 637, 638, 5, 639, 136, 577, 578, 579, 580, 139, 581, 582, 583, 584, 141, 142, 143, 572, 585, 586, 587, 588, 589, 590, 591, 138, 592, 593, 594, 595, 596, 597, 598, 599, 600, 601, 602, 603, 604, 605, 606, 607, 608, 609, 610, 937, 938, 939, 1365, 1366, 1367, 1368, 1369, 1370, 1371, 1372, 611, 612, 613, 614, 1086, 1087, 1088, 1089, 1683, 1684, 1685, 1686, 1687, 1688, 1689, 1690, 1691, 1692, 1693, 1694, 1695, 1696, 1697, 1698, 1699, 1700, 1701, 1702, 1703, 1704, 1705, 1706, 1707, 1708, 1709, 1710, 1711, 1712, 1713] (by decide +kernel) (by decide +kernel)
set_option maxRecDepth 20000 in
theorem gL_law_X11_firmest : GoodIn wsL_law (wsV RL 198 RX11 yX11_firmest wsX11_firmest) := goodIn_app (goodIn_of _ (by decide +kernel)) ggL_law_X11_firmest
theorem dL_law_1475 : decode cL_law 1475 = .ok (.invokevirtual 198, 3) := by decide +kernel
theorem dL_law_1478 : decode cL_law 1478 = .ok (.if_icmp .eq 655, 3) := by decide +kernel
theorem dL_law_1483 : decode cL_law 1483 = .ok (.aload_n 1, 1) := by decide +kernel
theorem dL_law_1484 : decode cL_law 1484 = .ok (.aload_n 0, 1) := by decide +kernel
theorem dL_law_1485 : decode cL_law 1485 = .ok (.iload_n 3, 1) := by decide +kernel
theorem dL_law_1486 : decode cL_law 1486 = .ok (.iconst 1, 1) := by decide +kernel
theorem dL_law_1487 : decode cL_law 1487 = .ok (.iadd, 1) := by decide +kernel
theorem dL_law_1488 : decode cL_law 1488 = .ok (.iaload, 1) := by decide +kernel
theorem dL_law_1489 : decode cL_law 1489 = .ok (.aload_n 0, 1) := by decide +kernel
theorem dL_law_1490 : decode cL_law 1490 = .ok (.iload_n 3, 1) := by decide +kernel
theorem dL_law_1491 : decode cL_law 1491 = .ok (.iconst 2, 1) := by decide +kernel
theorem dL_law_1492 : decode cL_law 1492 = .ok (.iadd, 1) := by decide +kernel
theorem dL_law_1493 : decode cL_law 1493 = .ok (.iaload, 1) := by decide +kernel
set_option maxRecDepth 20000 in
theorem ggL_law_X10_wins : GoodIn wsL_law wsX10_wins := goodIn_r _ [1392, 52, 24, 623, 624, 625, 2, 626, 35, 190, 1323, 1324, 1325, 1326, 544, 545, 546, 547, 528, 534, 1327, 1328, 1329, 39, 1330, 323, 530, 531, 532, 533, 535, 320, 321, 322, 558, 403, 404, 1331, 1332, 1333, 51, 1334, 1335, 1336, 1337, 1338, 215, 216, 217, 1339, 1340, 1341, 123, 124, 125, 1342, 330, 331, 332, 81, 319, 1343, 537, 538, 64, 539, 72, 74, 386, 1344, 550, 551, 552, 553, 1345, 1346, 1347, 1348, 203, 1245, 1393, 1354, 1355, 1356, 1672, 1673, 1674, 1675, 1676, 1677, 1678, 1679, 1680, 1681, 1682, 1724, 1725, 1726, 1727, 1752, 1753, 1754, 1755, 1756, 1757, 1758, 1732, 1733, 1734, 1735, 1736, 1737, 1738, 1739, 1740, 1741, 1748, 1749, 1750, 1751] (by decide +kernel) (by decide +kernel)
set_option maxRecDepth 20000 in
theorem gL_law_X10_wins : GoodIn wsL_law (wsV RL 199 RX10 yX10_wins wsX10_wins) := goodIn_app (goodIn_of _ (by decide +kernel)) ggL_law_X10_wins
theorem dL_law_1494 : decode cL_law 1494 = .ok (.invokevirtual 199, 3) := by decide +kernel
theorem dL_law_1497 : decode cL_law 1497 = .ok (.aload_n 2, 1) := by decide +kernel
theorem dL_law_1498 : decode cL_law 1498 = .ok (.aload_n 0, 1) := by decide +kernel
theorem dL_law_1499 : decode cL_law 1499 = .ok (.iload_n 3, 1) := by decide +kernel
theorem dL_law_1500 : decode cL_law 1500 = .ok (.iconst 1, 1) := by decide +kernel
theorem dL_law_1501 : decode cL_law 1501 = .ok (.iadd, 1) := by decide +kernel
theorem dL_law_1502 : decode cL_law 1502 = .ok (.iaload, 1) := by decide +kernel
theorem dL_law_1503 : decode cL_law 1503 = .ok (.aload_n 0, 1) := by decide +kernel
theorem dL_law_1504 : decode cL_law 1504 = .ok (.iload_n 3, 1) := by decide +kernel
theorem dL_law_1505 : decode cL_law 1505 = .ok (.iconst 2, 1) := by decide +kernel
theorem dL_law_1506 : decode cL_law 1506 = .ok (.iadd, 1) := by decide +kernel
theorem dL_law_1507 : decode cL_law 1507 = .ok (.iaload, 1) := by decide +kernel
set_option maxRecDepth 20000 in
theorem ggL_law_X11_wins : GoodIn wsL_law wsX11_wins := goodIn_r _ [1397, 164, 1361, 1362, 1363, 5, 1364, 137, 636, 637, 638, 639, 136, 182, 183, 184, 573, 574, 575, 576, 608, 609, 610, 577, 578, 579, 580, 139, 581, 582, 583, 584, 141, 142, 143, 572, 585, 586, 587, 588, 589, 590, 591, 138, 592, 593, 594, 595, 596, 597, 598, 599, 600, 601, 602, 603, 604, 605, 606, 607, 1369, 1370, 1371, 1372, 611, 612, 613, 614, 1086, 1087, 1088, 1089, 1683, 1684, 1685, 1686, 1687, 1688, 1689, 1690, 1691, 1692, 1693, 1694, 1695, 1696, 1697, 1698, 1699, 1700, 1701, 1702, 1703, 1704, 1705, 1706, 1707, 1708, 1709, 1710, 1711, 1712, 1713] (by decide +kernel) (by decide +kernel)
set_option maxRecDepth 20000 in
theorem gL_law_X11_wins : GoodIn wsL_law (wsV RL 202 RX11 yX11_wins wsX11_wins) := goodIn_app (goodIn_of _ (by decide +kernel)) ggL_law_X11_wins
theorem dL_law_1508 : decode cL_law 1508 = .ok (.invokevirtual 202, 3) := by decide +kernel
theorem dL_law_1511 : decode cL_law 1511 = .ok (.if_icmp .eq 622, 3) := by decide +kernel
theorem dL_law_1516 : decode cL_law 1516 = .ok (.aload_n 1, 1) := by decide +kernel
theorem dL_law_1517 : decode cL_law 1517 = .ok (.aload_n 0, 1) := by decide +kernel
theorem dL_law_1518 : decode cL_law 1518 = .ok (.iload_n 3, 1) := by decide +kernel
theorem dL_law_1519 : decode cL_law 1519 = .ok (.iconst 1, 1) := by decide +kernel
theorem dL_law_1520 : decode cL_law 1520 = .ok (.iadd, 1) := by decide +kernel
theorem dL_law_1521 : decode cL_law 1521 = .ok (.iaload, 1) := by decide +kernel
set_option maxRecDepth 20000 in
theorem ggL_law_X10_leave : GoodIn wsL_law wsX10_leave := goodIn_r _ [1322, 52, 24, 623, 624, 625, 2, 626, 35, 190, 1323, 1324, 1325, 1326, 544, 545, 546, 547, 528, 534, 1327, 1328, 1329, 39, 1330, 323, 1331, 1332, 1333, 51, 1334, 1335, 1336, 1337, 1338, 215, 216, 217, 1339, 1340, 1341, 123, 124, 125, 1342, 330, 331, 332, 81, 319, 320, 321, 322, 1343, 537, 538, 64, 539, 72, 74, 386, 1344, 550, 551, 552, 553, 1345, 1346, 1347, 1348, 203, 403, 404, 1245, 1349, 1350, 1351, 1352, 1353, 1354, 1355, 1356, 1672, 1673, 1674, 1675, 1676, 1677, 1678, 1679, 1680, 1681, 1682, 1724, 1725, 1726, 1727, 1752, 1753, 1754, 1755, 1756, 1757, 1758, 1732, 1733, 1734, 1735, 1736, 1737, 1738, 1739, 1740, 1741, 1748, 1749, 1750, 1751] (by decide +kernel) (by decide +kernel)
set_option maxRecDepth 20000 in
theorem gL_law_X10_leave : GoodIn wsL_law (wsV RL 203 RX10 yX10_leave wsX10_leave) := goodIn_app (goodIn_of _ (by decide +kernel)) ggL_law_X10_leave
theorem dL_law_1522 : decode cL_law 1522 = .ok (.invokevirtual 203, 3) := by decide +kernel
theorem dL_law_1525 : decode cL_law 1525 = .ok (.aload_n 2, 1) := by decide +kernel
theorem dL_law_1526 : decode cL_law 1526 = .ok (.aload_n 0, 1) := by decide +kernel
theorem dL_law_1527 : decode cL_law 1527 = .ok (.iload_n 3, 1) := by decide +kernel
theorem dL_law_1528 : decode cL_law 1528 = .ok (.iconst 1, 1) := by decide +kernel
theorem dL_law_1529 : decode cL_law 1529 = .ok (.iadd, 1) := by decide +kernel
theorem dL_law_1530 : decode cL_law 1530 = .ok (.iaload, 1) := by decide +kernel
set_option maxRecDepth 20000 in
theorem ggL_law_X11_leave : GoodIn wsL_law wsX11_leave := goodIn_r _ [1402, 164, 1361, 1362, 1363, 5, 1364, 137, 636, 637, 638, 639, 136, 182, 183, 184, 577, 578, 579, 580, 139, 581, 582, 583, 584, 141, 142, 143, 572, 585, 586, 587, 588, 589, 590, 591, 138, 592, 593, 594, 595, 596, 597, 598, 599, 600, 601, 602, 603, 604, 605, 606, 607, 608, 609, 610, 1365, 1366, 1367, 1368, 1369, 1370, 1371, 1372, 611, 612, 613, 614, 1086, 1087, 1088, 1089, 1683, 1684, 1685, 1686, 1687, 1688, 1689, 1690, 1691, 1692, 1693, 1694, 1695, 1696, 1697, 1698, 1699, 1700, 1701, 1702, 1703, 1704, 1705, 1706, 1707, 1708, 1709, 1710, 1711, 1712, 1713] (by decide +kernel) (by decide +kernel)
set_option maxRecDepth 20000 in
theorem gL_law_X11_leave : GoodIn wsL_law (wsV RL 206 RX11 yX11_leave wsX11_leave) := goodIn_app (goodIn_of _ (by decide +kernel)) ggL_law_X11_leave
theorem dL_law_1531 : decode cL_law 1531 = .ok (.invokevirtual 206, 3) := by decide +kernel
theorem dL_law_1534 : decode cL_law 1534 = .ok (.if_icmp .eq 599, 3) := by decide +kernel
theorem dL_law_1539 : decode cL_law 1539 = .ok (.aload_n 1, 1) := by decide +kernel
theorem dL_law_1540 : decode cL_law 1540 = .ok (.aload_n 0, 1) := by decide +kernel
theorem dL_law_1541 : decode cL_law 1541 = .ok (.iload_n 3, 1) := by decide +kernel
theorem dL_law_1542 : decode cL_law 1542 = .ok (.iconst 1, 1) := by decide +kernel
theorem dL_law_1543 : decode cL_law 1543 = .ok (.iadd, 1) := by decide +kernel
theorem dL_law_1544 : decode cL_law 1544 = .ok (.iaload, 1) := by decide +kernel
theorem dL_law_1545 : decode cL_law 1545 = .ok (.aload_n 0, 1) := by decide +kernel
theorem dL_law_1546 : decode cL_law 1546 = .ok (.iload_n 3, 1) := by decide +kernel
theorem dL_law_1547 : decode cL_law 1547 = .ok (.iconst 2, 1) := by decide +kernel
theorem dL_law_1548 : decode cL_law 1548 = .ok (.iadd, 1) := by decide +kernel
theorem dL_law_1549 : decode cL_law 1549 = .ok (.iaload, 1) := by decide +kernel
set_option maxRecDepth 20000 in
theorem ggL_law_X10_ransom : GoodIn wsL_law wsX10_ransom := goodIn_r _ [1406, 24, 35, 1407, 1408, 1409, 2, 1410, 530, 531, 532, 533, 528, 534, 535, 320, 321, 39, 322, 323, 1411, 1412, 1413, 23, 1414, 88, 376, 86, 672, 653, 654, 655, 553, 330, 331, 332, 81, 319, 674, 1415, 537, 538, 64, 539, 72, 74, 386, 536, 1672, 1673, 1674, 1675, 1676, 1677, 1678, 1679, 1680, 1681, 1682, 1724, 1725, 1726, 1727, 1732, 1733, 1734, 1735, 1736, 1737, 1738, 1739, 1740, 1741, 1752, 1753, 1754, 1755, 1756, 1757, 1758] (by decide +kernel) (by decide +kernel)
set_option maxRecDepth 20000 in
theorem gL_law_X10_ransom : GoodIn wsL_law (wsV RL 207 RX10 yX10_ransom wsX10_ransom) := goodIn_app (goodIn_of _ (by decide +kernel)) ggL_law_X10_ransom
theorem dL_law_1550 : decode cL_law 1550 = .ok (.invokevirtual 207, 3) := by decide +kernel
theorem dL_law_1553 : decode cL_law 1553 = .ok (.aload_n 2, 1) := by decide +kernel
theorem dL_law_1554 : decode cL_law 1554 = .ok (.aload_n 0, 1) := by decide +kernel
theorem dL_law_1555 : decode cL_law 1555 = .ok (.iload_n 3, 1) := by decide +kernel
theorem dL_law_1556 : decode cL_law 1556 = .ok (.iconst 1, 1) := by decide +kernel
theorem dL_law_1557 : decode cL_law 1557 = .ok (.iadd, 1) := by decide +kernel
theorem dL_law_1558 : decode cL_law 1558 = .ok (.iaload, 1) := by decide +kernel
theorem dL_law_1559 : decode cL_law 1559 = .ok (.aload_n 0, 1) := by decide +kernel
theorem dL_law_1560 : decode cL_law 1560 = .ok (.iload_n 3, 1) := by decide +kernel
theorem dL_law_1561 : decode cL_law 1561 = .ok (.iconst 2, 1) := by decide +kernel
theorem dL_law_1562 : decode cL_law 1562 = .ok (.iadd, 1) := by decide +kernel
theorem dL_law_1563 : decode cL_law 1563 = .ok (.iaload, 1) := by decide +kernel
set_option maxRecDepth 20000 in
theorem ggL_law_X11_ransom : GoodIn wsL_law wsX11_ransom := goodIn_r _ [1419, 164, 679, 680, 681, 5, 682, 573, 574, 575, 576, 137, 182, 183, 184, 1420, 1421, 1422, 1423, 141, 577, 578, 579, 580, 139, 581, 582, 583, 584, 142, 143, 572, 585, 586, 587, 588, 589, 590, 591, 138, 592, 593, 594, 595, 596, 597, 598, 599, 600, 601, 602, 603, 604, 605, 606, 607, 608, 609, 610, 683, 684, 685, 686, 1683, 1684, 1685, 1686, 1687, 1688, 1689, 1690, 1691, 1692, 1693, 1694, 1695, 1696, 1697, 1698, 1699, 1700, 1701, 1702, 1703, 1704, 1705, 1706, 1707, 1708, 1709, 1710, 1711, 1712, 1713] (by decide +kernel) (by decide +kernel)
set_option maxRecDepth 20000 in
theorem gL_law_X11_ransom : GoodIn wsL_law (wsV RL 210 RX11 yX11_ransom wsX11_ransom) := goodIn_app (goodIn_of _ (by decide +kernel)) ggL_law_X11_ransom
theorem dL_law_1564 : decode cL_law 1564 = .ok (.invokevirtual 210, 3) := by decide +kernel
theorem dL_law_1567 : decode cL_law 1567 = .ok (.if_icmp .eq 566, 3) := by decide +kernel
theorem dL_law_1572 : decode cL_law 1572 = .ok (.aload_n 1, 1) := by decide +kernel
theorem dL_law_1573 : decode cL_law 1573 = .ok (.aload_n 0, 1) := by decide +kernel
theorem dL_law_1574 : decode cL_law 1574 = .ok (.iload_n 3, 1) := by decide +kernel
theorem dL_law_1575 : decode cL_law 1575 = .ok (.iconst 1, 1) := by decide +kernel
theorem dL_law_1576 : decode cL_law 1576 = .ok (.iadd, 1) := by decide +kernel
theorem dL_law_1577 : decode cL_law 1577 = .ok (.iaload, 1) := by decide +kernel
theorem dL_law_1578 : decode cL_law 1578 = .ok (.aload_n 0, 1) := by decide +kernel
theorem dL_law_1579 : decode cL_law 1579 = .ok (.iload_n 3, 1) := by decide +kernel
theorem dL_law_1580 : decode cL_law 1580 = .ok (.iconst 2, 1) := by decide +kernel
theorem dL_law_1581 : decode cL_law 1581 = .ok (.iadd, 1) := by decide +kernel
theorem dL_law_1582 : decode cL_law 1582 = .ok (.iaload, 1) := by decide +kernel
set_option maxRecDepth 20000 in
theorem ggL_law_X10_ransomed : GoodIn wsL_law wsX10_ransomed := goodIn_r _ [1410, 24, 530, 531, 532, 2, 533, 528, 534, 535, 320, 321, 39, 322, 323, 1411, 1412, 1413, 23, 1414, 88, 376, 86, 672, 653, 654, 655, 553, 330, 331, 332, 81, 319, 674, 1415, 537, 538, 64, 539, 72, 74, 386, 1672, 1673, 1674, 1675, 1676, 1677, 1678, 1679, 1680, 1681, 1682, 1724, 1725, 1726, 1727, 1732, 1733, 1734, 1735, 1736, 1737, 1738, 1739, 1740, 1741, 1752, 1753, 1754, 1755, 1756, 1757, 1758] (by decide +kernel) (by decide +kernel)
set_option maxRecDepth 20000 in
theorem gL_law_X10_ransomed : GoodIn wsL_law (wsV RL 211 RX10 yX10_ransomed wsX10_ransomed) := goodIn_app (goodIn_of _ (by decide +kernel)) ggL_law_X10_ransomed
theorem dL_law_1583 : decode cL_law 1583 = .ok (.invokevirtual 211, 3) := by decide +kernel
theorem dL_law_1586 : decode cL_law 1586 = .ok (.aload_n 2, 1) := by decide +kernel
theorem dL_law_1587 : decode cL_law 1587 = .ok (.aload_n 0, 1) := by decide +kernel
theorem dL_law_1588 : decode cL_law 1588 = .ok (.iload_n 3, 1) := by decide +kernel
theorem dL_law_1589 : decode cL_law 1589 = .ok (.iconst 1, 1) := by decide +kernel
theorem dL_law_1590 : decode cL_law 1590 = .ok (.iadd, 1) := by decide +kernel
theorem dL_law_1591 : decode cL_law 1591 = .ok (.iaload, 1) := by decide +kernel
theorem dL_law_1592 : decode cL_law 1592 = .ok (.aload_n 0, 1) := by decide +kernel
theorem dL_law_1593 : decode cL_law 1593 = .ok (.iload_n 3, 1) := by decide +kernel
theorem dL_law_1594 : decode cL_law 1594 = .ok (.iconst 2, 1) := by decide +kernel
theorem dL_law_1595 : decode cL_law 1595 = .ok (.iadd, 1) := by decide +kernel
theorem dL_law_1596 : decode cL_law 1596 = .ok (.iaload, 1) := by decide +kernel
set_option maxRecDepth 20000 in
theorem ggL_law_X11_ransomed : GoodIn wsL_law wsX11_ransomed := goodIn_r _ [1428, 164, 679, 680, 681, 5, 682, 573, 574, 575, 576, 137, 182, 183, 184, 1420, 1421, 1422, 1423, 141, 577, 578, 579, 580, 139, 581, 582, 583, 584, 142, 143, 572, 585, 586, 587, 588, 589, 590, 591, 138, 592, 593, 594, 595, 596, 597, 598, 599, 600, 601, 602, 603, 604, 605, 606, 607, 608, 609, 610, 683, 684, 685, 686, 1683, 1684, 1685, 1686, 1687, 1688, 1689, 1690, 1691, 1692, 1693, 1694, 1695, 1696, 1697, 1698, 1699, 1700, 1701, 1702, 1703, 1704, 1705, 1706, 1707, 1708, 1709, 1710, 1711, 1712, 1713] (by decide +kernel) (by decide +kernel)
set_option maxRecDepth 20000 in
theorem gL_law_X11_ransomed : GoodIn wsL_law (wsV RL 214 RX11 yX11_ransomed wsX11_ransomed) := goodIn_app (goodIn_of _ (by decide +kernel)) ggL_law_X11_ransomed
theorem dL_law_1597 : decode cL_law 1597 = .ok (.invokevirtual 214, 3) := by decide +kernel
theorem dL_law_1600 : decode cL_law 1600 = .ok (.if_icmp .eq 533, 3) := by decide +kernel
theorem dL_law_1605 : decode cL_law 1605 = .ok (.aload_n 1, 1) := by decide +kernel
theorem dL_law_1606 : decode cL_law 1606 = .ok (.aload_n 0, 1) := by decide +kernel
theorem dL_law_1607 : decode cL_law 1607 = .ok (.iload_n 3, 1) := by decide +kernel
theorem dL_law_1608 : decode cL_law 1608 = .ok (.iconst 1, 1) := by decide +kernel
theorem dL_law_1609 : decode cL_law 1609 = .ok (.iadd, 1) := by decide +kernel
theorem dL_law_1610 : decode cL_law 1610 = .ok (.iaload, 1) := by decide +kernel
set_option maxRecDepth 20000 in
theorem ggL_law_X10_power : GoodIn wsL_law wsX10_power := goodIn_r _ [1432, 24, 35, 530, 531, 532, 2, 533, 528, 534, 535, 320, 321, 39, 322, 323, 544, 545, 546, 547, 1433, 1434, 1435, 64, 1436, 1437, 649, 650, 651, 652, 653, 654, 655, 553, 330, 331, 332, 81, 319, 1438, 796, 797, 798, 72, 203, 403, 404, 799, 541, 542, 543, 75, 386, 1199, 923, 924, 925, 926, 927, 928, 1672, 1673, 1674, 1675, 1676, 1677, 1678, 1679, 1680, 1681, 1682, 1724, 1725, 1726, 1727, 1732, 1733, 1734, 1735, 1736, 1737, 1738, 1739, 1740, 1741, 1752, 1753, 1754, 1755, 1756, 1757, 1758] (by decide +kernel) (by decide +kernel)
set_option maxRecDepth 20000 in
theorem gL_law_X10_power : GoodIn wsL_law (wsV RL 215 RX10 yX10_power wsX10_power) := goodIn_app (goodIn_of _ (by decide +kernel)) ggL_law_X10_power
theorem dL_law_1611 : decode cL_law 1611 = .ok (.invokevirtual 215, 3) := by decide +kernel
theorem dL_law_1614 : decode cL_law 1614 = .ok (.aload_n 2, 1) := by decide +kernel
theorem dL_law_1615 : decode cL_law 1615 = .ok (.aload_n 0, 1) := by decide +kernel
theorem dL_law_1616 : decode cL_law 1616 = .ok (.iload_n 3, 1) := by decide +kernel
theorem dL_law_1617 : decode cL_law 1617 = .ok (.iconst 1, 1) := by decide +kernel
theorem dL_law_1618 : decode cL_law 1618 = .ok (.iadd, 1) := by decide +kernel
theorem dL_law_1619 : decode cL_law 1619 = .ok (.iaload, 1) := by decide +kernel
set_option maxRecDepth 20000 in
theorem ggL_law_X11_power : GoodIn wsL_law wsX11_power := goodIn_r _ [1442, 164, 573, 574, 575, 5, 576, 137, 182, 183, 184, 577, 578, 579, 580, 139, 581, 582, 583, 584, 141, 142, 143, 572, 585, 586, 587, 588, 589, 590, 591, 138, 592, 593, 594, 595, 596, 597, 598, 599, 600, 601, 602, 603, 604, 605, 606, 607, 608, 609, 610, 1443, 1444, 1445, 1446, 660, 661, 662, 663, 1051, 1052, 1053, 1054, 937, 938, 939, 1683, 1684, 1685, 1686, 1687, 1688, 1689, 1690, 1691, 1692, 1693, 1694, 1695, 1696, 1697, 1698, 1699, 1700, 1701, 1702, 1703, 1704, 1705, 1706, 1707, 1708, 1709, 1710, 1711, 1712, 1713] (by decide +kernel) (by decide +kernel)
set_option maxRecDepth 20000 in
theorem gL_law_X11_power : GoodIn wsL_law (wsV RL 218 RX11 yX11_power wsX11_power) := goodIn_app (goodIn_of _ (by decide +kernel)) ggL_law_X11_power
theorem dL_law_1620 : decode cL_law 1620 = .ok (.invokevirtual 218, 3) := by decide +kernel
theorem dL_law_1623 : decode cL_law 1623 = .ok (.if_icmp .eq 510, 3) := by decide +kernel
theorem dL_law_1628 : decode cL_law 1628 = .ok (.aload_n 1, 1) := by decide +kernel
set_option maxRecDepth 20000 in
theorem ggL_law_X10_mighty : GoodIn wsL_law wsX10_mighty := goodIn_r _ [1450, 917, 24, 35, 623, 624, 625, 2, 626, 190, 544, 545, 546, 547, 528, 534, 1433, 1434, 1435, 64, 1436, 1437, 649, 650, 39, 651, 323, 652, 653, 654, 655, 553, 330, 331, 332, 81, 319, 320, 321, 322, 1438, 796, 797, 798, 72, 203, 403, 404, 799, 541, 542, 543, 75, 386, 1199, 923, 924, 925, 926, 927, 928, 1740, 1741, 1672, 1673, 1674, 1675, 1676, 1677, 1678, 1679, 1680, 1681, 1682, 1724, 1725, 1726, 1727, 1752, 1753, 1754, 1755, 1756, 1757, 1758, 1732, 1733, 1734, 1735, 1736, 1737, 1738, 1739] (by decide +kernel) (by decide +kernel)
set_option maxRecDepth 20000 in
theorem gL_law_X10_mighty : GoodIn wsL_law (wsV RL 219 RX10 yX10_mighty wsX10_mighty) := goodIn_app (goodIn_of _ (by decide +kernel)) ggL_law_X10_mighty
theorem dL_law_1629 : decode cL_law 1629 = .ok (.invokevirtual 219, 3) := by decide +kernel
theorem dL_law_1632 : decode cL_law 1632 = .ok (.aload_n 2, 1) := by decide +kernel
set_option maxRecDepth 20000 in
theorem ggL_law_X11_mighty : GoodIn wsL_law wsX11_mighty := goodIn_r _ [1454, 164, 137, 636, 637, 638, 5, 639, 136, 577, 578, 579, 580, 139, 581, 582, 583, 584, 141, 142, 143, 572, 585, 586, 587, 588, 589, 590, 591, 138, 592, 593, 594, 595, 596, 597, 598, 599, 600, 601, 602, 603, 604, 605, 606, 607, 608, 609, 610, 1443, 1444, 1445, 1446, 660, 661, 662, 663, 1051, 1052, 1053, 1054, 937, 938, 939, 1683, 1684, 1685, 1686, 1687, 1688, 1689, 1690, 1691, 1692, 1693, 1694, 1695, 1696, 1697, 1698, 1699, 1700, 1701, 1702, 1703, 1704, 1705, 1706, 1707, 1708, 1709, 1710, 1711, 1712, 1713] (by decide +kernel) (by decide +kernel)
set_option maxRecDepth 20000 in
theorem gL_law_X11_mighty : GoodIn wsL_law (wsV RL 222 RX11 yX11_mighty wsX11_mighty) := goodIn_app (goodIn_of _ (by decide +kernel)) ggL_law_X11_mighty
theorem dL_law_1633 : decode cL_law 1633 = .ok (.invokevirtual 222, 3) := by decide +kernel
theorem dL_law_1636 : decode cL_law 1636 = .ok (.if_icmp .eq 497, 3) := by decide +kernel
theorem dL_law_1641 : decode cL_law 1641 = .ok (.aload_n 1, 1) := by decide +kernel
theorem dL_law_1642 : decode cL_law 1642 = .ok (.aload_n 0, 1) := by decide +kernel
theorem dL_law_1643 : decode cL_law 1643 = .ok (.iload_n 3, 1) := by decide +kernel
theorem dL_law_1644 : decode cL_law 1644 = .ok (.iconst 1, 1) := by decide +kernel
theorem dL_law_1645 : decode cL_law 1645 = .ok (.iadd, 1) := by decide +kernel
theorem dL_law_1646 : decode cL_law 1646 = .ok (.iaload, 1) := by decide +kernel
set_option maxRecDepth 20000 in
theorem ggL_law_X10_covet : GoodIn wsL_law wsX10_covet := goodIn_r _ [1458, 24, 35, 40, 917, 530, 531, 532, 2, 533, 528, 534, 535, 320, 321, 39, 322, 323, 544, 545, 546, 547, 1433, 1434, 1435, 64, 1436, 1437, 649, 650, 651, 652, 653, 654, 655, 553, 330, 331, 332, 81, 319, 1438, 796, 797, 798, 72, 203, 403, 404, 799, 541, 542, 543, 75, 386, 1199, 923, 924, 925, 926, 927, 928, 1459, 352, 353, 354, 355, 348, 349, 350, 1460, 316, 317, 318, 548, 1672, 1673, 1674, 1675, 1676, 1677, 1678, 1679, 1680, 1681, 1682, 1724, 1725, 1726, 1727, 1740, 1741, 1732, 1733, 1734, 1735, 1736, 1737, 1738, 1739, 1752, 1753, 1754, 1755, 1756, 1757, 1758] (by decide +kernel) (by decide +kernel)
set_option maxRecDepth 20000 in
theorem gL_law_X10_covet : GoodIn wsL_law (wsV RL 223 RX10 yX10_covet wsX10_covet) := goodIn_app (goodIn_of _ (by decide +kernel)) ggL_law_X10_covet
theorem dL_law_1647 : decode cL_law 1647 = .ok (.invokevirtual 223, 3) := by decide +kernel
theorem dL_law_1650 : decode cL_law 1650 = .ok (.aload_n 2, 1) := by decide +kernel
theorem dL_law_1651 : decode cL_law 1651 = .ok (.aload_n 0, 1) := by decide +kernel
theorem dL_law_1652 : decode cL_law 1652 = .ok (.iload_n 3, 1) := by decide +kernel
theorem dL_law_1653 : decode cL_law 1653 = .ok (.iconst 1, 1) := by decide +kernel
theorem dL_law_1654 : decode cL_law 1654 = .ok (.iadd, 1) := by decide +kernel
theorem dL_law_1655 : decode cL_law 1655 = .ok (.iaload, 1) := by decide +kernel
set_option maxRecDepth 20000 in
theorem ggL_law_X11_covet : GoodIn wsL_law wsX11_covet := goodIn_r _ [1464, 164, 137, 141, 573, 574, 575, 5, 576, 182, 183, 184, 577, 578, 579, 580, 139, 581, 582, 583, 584, 142, 143, 572, 585, 586, 587, 588, 589, 590, 591, 138, 592, 593, 594, 595, 596, 597, 598, 599, 600, 601, 602, 603, 604, 605, 606, 607, 608, 609, 610, 1443, 1444, 1445, 1446, 660, 661, 662, 663, 1051, 1052, 1053, 1054, 937, 938, 939, 1683, 1684, 1685, 1686, 1687, 1688, 1689, 1690, 1691, 1692, 1693, 1694, 1695, 1696, 1697, 1698, 1699, 1700, 1701, 1702, 1703, 1704, 1705, 1706, 1707, 1708, 1709, 1710, 1711, 1712, 1713] (by decide +kernel) (by decide +kernel)
set_option maxRecDepth 20000 in
theorem gL_law_X11_covet : GoodIn wsL_law (wsV RL 226 RX11 yX11_covet wsX11_covet) := goodIn_app (goodIn_of _ (by decide +kernel)) ggL_law_X11_covet
theorem dL_law_1656 : decode cL_law 1656 = .ok (.invokevirtual 226, 3) := by decide +kernel
theorem dL_law_1659 : decode cL_law 1659 = .ok (.if_icmp .eq 474, 3) := by decide +kernel
theorem dL_law_1664 : decode cL_law 1664 = .ok (.aload_n 1, 1) := by decide +kernel
theorem dL_law_1665 : decode cL_law 1665 = .ok (.aload_n 0, 1) := by decide +kernel
theorem dL_law_1666 : decode cL_law 1666 = .ok (.iload_n 3, 1) := by decide +kernel
theorem dL_law_1667 : decode cL_law 1667 = .ok (.iconst 1, 1) := by decide +kernel
theorem dL_law_1668 : decode cL_law 1668 = .ok (.iadd, 1) := by decide +kernel
theorem dL_law_1669 : decode cL_law 1669 = .ok (.iaload, 1) := by decide +kernel
set_option maxRecDepth 20000 in
theorem ggL_law_X10_judge : GoodIn wsL_law wsX10_judge := goodIn_r _ [1468, 1469, 1470, 1471, 2, 1472, 31, 1135, 1136, 1137, 1138, 1139, 1140, 1141, 30, 1142, 623, 624, 625, 626, 24, 35, 190, 1143, 1144, 1145, 1146, 1147, 1148, 403, 404, 1149, 1150, 1151, 1152, 106, 1473, 1474, 1475, 1476, 1477, 1166, 1154, 1155, 1156, 104, 1157, 1158, 1159, 1160, 1161, 1478, 1479, 1480, 1481, 917, 1134, 544, 545, 546, 547, 528, 534, 1153, 1482, 1483, 1484, 1485, 36, 1486, 362, 363, 34, 364, 95, 98, 365, 96, 366, 367, 368, 369, 370, 352, 353, 39, 354, 323, 81, 355, 348, 349, 350, 1487, 399, 400, 401, 402, 97, 393, 330, 331, 332, 319, 320, 321, 322, 387, 316, 317, 318, 808, 809, 810, 811, 812, 813, 814, 815, 816, 541, 542, 64, 543, 72, 75, 386, 1488, 378, 379, 380, 381, 382, 383, 384, 385, 77, 205, 1672, 1673, 1674, 1675, 1676, 1677, 1678, 1679, 1680, 1681, 1682, 1724, 1725, 1726, 1727, 1752, 1753, 1754, 1755, 1756, 1757, 1758, 1728, 1729, 1730, 1731, 1740, 1741, 1732, 1733, 1734, 1735, 1736, 1737, 1738, 1739] (by decide +kernel) (by decide +kernel)
set_option maxRecDepth 20000 in
theorem gL_law_X10_judge : GoodIn wsL_law (wsV RL 227 RX10 yX10_judge wsX10_judge) := goodIn_app (goodIn_of _ (by decide +kernel)) ggL_law_X10_judge
theorem dL_law_1670 : decode cL_law 1670 = .ok (.invokevirtual 227, 3) := by decide +kernel
theorem dL_law_1673 : decode cL_law 1673 = .ok (.aload_n 2, 1) := by decide +kernel
theorem dL_law_1674 : decode cL_law 1674 = .ok (.aload_n 0, 1) := by decide +kernel
theorem dL_law_1675 : decode cL_law 1675 = .ok (.iload_n 3, 1) := by decide +kernel
theorem dL_law_1676 : decode cL_law 1676 = .ok (.iconst 1, 1) := by decide +kernel
theorem dL_law_1677 : decode cL_law 1677 = .ok (.iadd, 1) := by decide +kernel
theorem dL_law_1678 : decode cL_law 1678 = .ok (.iaload, 1) := by decide +kernel
set_option maxRecDepth 20000 in
theorem ggL_law_X11_judge : GoodIn wsL_law wsX11_judge := goodIn_r _ [1492, 164, 1493, 1494, 1495, 5, 1496, 130, 131, 132, 434, 1180, 1181, 1182, 912, 182, 183, 184, 636, 637, 638, 639, 136, 573, 574, 575, 576, 137, 765, 766, 767, 768, 1497, 1498, 1499, 1500, 581, 582, 583, 584, 141, 142, 143, 572, 585, 586, 587, 588, 589, 590, 591, 138, 604, 605, 606, 607, 608, 609, 610, 821, 822, 823, 824, 596, 597, 598, 599, 600, 601, 602, 603, 1683, 1684, 1685, 1686, 1687, 1688, 1689, 1690, 1691, 1692, 1693, 1694, 1695, 1696, 1697, 1698, 1699, 1700, 1701, 1702, 1703, 1704, 1705, 1706, 1707, 1708, 1709, 1710, 1711, 1712, 1713] (by decide +kernel) (by decide +kernel)
set_option maxRecDepth 20000 in
theorem gL_law_X11_judge : GoodIn wsL_law (wsV RL 230 RX11 yX11_judge wsX11_judge) := goodIn_app (goodIn_of _ (by decide +kernel)) ggL_law_X11_judge
theorem dL_law_1679 : decode cL_law 1679 = .ok (.invokevirtual 230, 3) := by decide +kernel
theorem dL_law_1682 : decode cL_law 1682 = .ok (.if_icmp .eq 451, 3) := by decide +kernel
theorem dL_law_1687 : decode cL_law 1687 = .ok (.aload_n 1, 1) := by decide +kernel
theorem dL_law_1688 : decode cL_law 1688 = .ok (.aload_n 0, 1) := by decide +kernel
theorem dL_law_1689 : decode cL_law 1689 = .ok (.iload_n 3, 1) := by decide +kernel
theorem dL_law_1690 : decode cL_law 1690 = .ok (.iconst 1, 1) := by decide +kernel
theorem dL_law_1691 : decode cL_law 1691 = .ok (.iadd, 1) := by decide +kernel
theorem dL_law_1692 : decode cL_law 1692 = .ok (.iaload, 1) := by decide +kernel
set_option maxRecDepth 20000 in
theorem ggL_law_X10_freed : GoodIn wsL_law wsX10_freed := goodIn_r _ [1504, 36, 534, 1469, 1470, 1471, 2, 1472, 31, 1135, 1136, 1137, 1138, 1139, 1140, 1141, 30, 1142, 623, 624, 625, 626, 24, 35, 190, 1143, 1144, 1145, 1146, 1147, 1148, 403, 404, 1149, 1150, 1151, 1152, 106, 1473, 1474, 1475, 1476, 1477, 1166, 1154, 1155, 1156, 104, 1157, 1158, 1159, 1160, 1161, 1478, 1479, 1480, 1481, 917, 1134, 544, 545, 546, 547, 528, 1153, 1482, 1483, 1484, 1485, 1486, 362, 363, 34, 364, 95, 98, 365, 96, 366, 367, 368, 369, 370, 352, 353, 39, 354, 323, 81, 355, 348, 349, 350, 1487, 399, 400, 401, 402, 97, 393, 330, 331, 332, 319, 320, 321, 322, 387, 316, 317, 318, 808, 809, 810, 811, 812, 813, 814, 815, 816, 541, 542, 64, 543, 72, 75, 386, 1488, 378, 379, 380, 381, 382, 383, 384, 385, 77, 205, 627, 628, 629, 630, 631, 550, 551, 552, 553, 1672, 1673, 1674, 1675, 1676, 1677, 1678, 1679, 1680, 1681, 1682, 1732, 1733, 1734, 1735, 1736, 1737, 1738, 1739, 1724, 1725, 1726, 1727, 1752, 1753, 1754, 1755, 1756, 1757, 1758, 1728, 1729, 1730, 1731, 1740, 1741] (by decide +kernel) (by decide +kernel)
set_option maxRecDepth 20000 in
theorem gL_law_X10_freed : GoodIn wsL_law (wsV RL 231 RX10 yX10_freed wsX10_freed) := goodIn_app (goodIn_of _ (by decide +kernel)) ggL_law_X10_freed
theorem dL_law_1693 : decode cL_law 1693 = .ok (.invokevirtual 231, 3) := by decide +kernel
theorem dL_law_1696 : decode cL_law 1696 = .ok (.aload_n 2, 1) := by decide +kernel
theorem dL_law_1697 : decode cL_law 1697 = .ok (.aload_n 0, 1) := by decide +kernel
theorem dL_law_1698 : decode cL_law 1698 = .ok (.iload_n 3, 1) := by decide +kernel
theorem dL_law_1699 : decode cL_law 1699 = .ok (.iconst 1, 1) := by decide +kernel
theorem dL_law_1700 : decode cL_law 1700 = .ok (.iadd, 1) := by decide +kernel
theorem dL_law_1701 : decode cL_law 1701 = .ok (.iaload, 1) := by decide +kernel
set_option maxRecDepth 20000 in
theorem ggL_law_X11_freed : GoodIn wsL_law wsX11_freed := goodIn_r _ [1508, 164, 1493, 1494, 1495, 5, 1496, 130, 131, 132, 434, 1180, 1181, 1182, 912, 182, 183, 184, 636, 637, 638, 639, 136, 573, 574, 575, 576, 137, 765, 766, 767, 768, 1497, 1498, 1499, 1500, 581, 582, 583, 584, 141, 142, 143, 572, 585, 586, 587, 588, 589, 590, 591, 138, 604, 605, 606, 607, 608, 609, 610, 821, 822, 823, 824, 596, 597, 598, 599, 600, 601, 602, 603, 640, 641, 642, 643, 1683, 1684, 1685, 1686, 1687, 1688, 1689, 1690, 1691, 1692, 1693, 1694, 1695, 1696, 1697, 1698, 1699, 1700, 1701, 1702, 1703, 1704, 1705, 1706, 1707, 1708, 1709, 1710, 1711, 1712, 1713] (by decide +kernel) (by decide +kernel)
set_option maxRecDepth 20000 in
theorem gL_law_X11_freed : GoodIn wsL_law (wsV RL 234 RX11 yX11_freed wsX11_freed) := goodIn_app (goodIn_of _ (by decide +kernel)) ggL_law_X11_freed
theorem dL_law_1702 : decode cL_law 1702 = .ok (.invokevirtual 234, 3) := by decide +kernel
theorem dL_law_1705 : decode cL_law 1705 = .ok (.if_icmp .eq 428, 3) := by decide +kernel
theorem dL_law_1710 : decode cL_law 1710 = .ok (.aload_n 1, 1) := by decide +kernel
theorem dL_law_1711 : decode cL_law 1711 = .ok (.aload_n 0, 1) := by decide +kernel
theorem dL_law_1712 : decode cL_law 1712 = .ok (.iload_n 3, 1) := by decide +kernel
theorem dL_law_1713 : decode cL_law 1713 = .ok (.iconst 1, 1) := by decide +kernel
theorem dL_law_1714 : decode cL_law 1714 = .ok (.iadd, 1) := by decide +kernel
theorem dL_law_1715 : decode cL_law 1715 = .ok (.iaload, 1) := by decide +kernel
theorem dL_law_1716 : decode cL_law 1716 = .ok (.aload_n 0, 1) := by decide +kernel
theorem dL_law_1717 : decode cL_law 1717 = .ok (.iload_n 3, 1) := by decide +kernel
theorem dL_law_1718 : decode cL_law 1718 = .ok (.iconst 2, 1) := by decide +kernel
theorem dL_law_1719 : decode cL_law 1719 = .ok (.iadd, 1) := by decide +kernel
theorem dL_law_1720 : decode cL_law 1720 = .ok (.iaload, 1) := by decide +kernel
set_option maxRecDepth 20000 in
theorem ggL_law_X10_drawn : GoodIn wsL_law wsX10_drawn := goodIn_r _ [1512, 44, 917, 1513, 1514, 1515, 2, 1516, 1517, 530, 531, 532, 533, 24, 528, 534, 535, 320, 321, 39, 322, 323, 544, 545, 546, 547, 1518, 1519, 1520, 43, 1521, 1522, 112, 1523, 215, 216, 217, 1524, 113, 1525, 1526, 1527, 1528, 1529, 1530, 1531, 1532, 1533, 316, 317, 318, 81, 319, 548, 330, 331, 332, 1672, 1673, 1674, 1675, 1676, 1677, 1678, 1679, 1680, 1681, 1682, 1740, 1741, 1742, 1743, 1744, 1724, 1725, 1726, 1727, 1732, 1733, 1734, 1735, 1736, 1737, 1738, 1739] (by decide +kernel) (by decide +kernel)
set_option maxRecDepth 20000 in
theorem gL_law_X10_drawn : GoodIn wsL_law (wsV RL 235 RX10 yX10_drawn wsX10_drawn) := goodIn_app (goodIn_of _ (by decide +kernel)) ggL_law_X10_drawn
theorem dL_law_1721 : decode cL_law 1721 = .ok (.invokevirtual 235, 3) := by decide +kernel
theorem dL_law_1724 : decode cL_law 1724 = .ok (.aload_n 2, 1) := by decide +kernel
theorem dL_law_1725 : decode cL_law 1725 = .ok (.aload_n 0, 1) := by decide +kernel
theorem dL_law_1726 : decode cL_law 1726 = .ok (.iload_n 3, 1) := by decide +kernel
theorem dL_law_1727 : decode cL_law 1727 = .ok (.iconst 1, 1) := by decide +kernel
theorem dL_law_1728 : decode cL_law 1728 = .ok (.iadd, 1) := by decide +kernel
theorem dL_law_1729 : decode cL_law 1729 = .ok (.iaload, 1) := by decide +kernel
theorem dL_law_1730 : decode cL_law 1730 = .ok (.aload_n 0, 1) := by decide +kernel
theorem dL_law_1731 : decode cL_law 1731 = .ok (.iload_n 3, 1) := by decide +kernel
theorem dL_law_1732 : decode cL_law 1732 = .ok (.iconst 2, 1) := by decide +kernel
theorem dL_law_1733 : decode cL_law 1733 = .ok (.iadd, 1) := by decide +kernel
theorem dL_law_1734 : decode cL_law 1734 = .ok (.iaload, 1) := by decide +kernel
set_option maxRecDepth 20000 in
theorem ggL_law_X11_drawn : GoodIn wsL_law wsX11_drawn := goodIn_r _ [1537, 164, 141, 1538, 1539, 5, 1540, 1541, 182, 183, 184, 573, 574, 575, 576, 137, 1542, 1543, 1544, 1545, 142, 1546, 1547, 1548, 1549, 1683, 1684, 1685, 1686, 1687, 1688, 1689, 1690, 1691, 1692, 1693, 1694, 1695, 1696, 1697, 1698, 1699, 1700, 1701, 1702, 1703, 1704, 1705, 1706, 1707, 1708, 1709, 1710, 1711, 1712, 1713] (by decide +kernel) (by decide +kernel)
set_option maxRecDepth 20000 in
theorem gL_law_X11_drawn : GoodIn wsL_law (wsV RL 238 RX11 yX11_drawn wsX11_drawn) := goodIn_app (goodIn_of _ (by decide +kernel)) ggL_law_X11_drawn
theorem dL_law_1735 : decode cL_law 1735 = .ok (.invokevirtual 238, 3) := by decide +kernel
theorem dL_law_1738 : decode cL_law 1738 = .ok (.if_icmp .eq 395, 3) := by decide +kernel
set_option maxHeartbeats 4000000 in
set_option maxRecDepth 100000 in
theorem law_c44 {p : Program} {e : Env} {s : State} {m : MethodId} {below : List Frame} {meth : Method} {c : Code} (l : Launch) {b L : Nat} {xs : Nat → Int32} (C0 : lw_At p s m meth c b L xs) (h6 : L = 6) (G : va_G) (ct : Nat → ClassId) (a rr bm : Nat → Nat) (H : Heap) (locs : List Loc) (hK : KK G ct s) (hPx : va_P G vwCl (xF a rr ct) H) (hPm : va_P G vwCl (mF bm ct) H) (hDx : va_D (fun q : Nat => s.heap.size ≤ q) (xF a rr ct)) (hDm : va_D (fun q : Nat => s.heap.size ≤ q) (mF bm ct)) (hap : ∀ q, aset (xF a rr ct) q → ¬ aset (mF bm ct) q) (hS : va_S (fun q : Nat => s.heap.size ≤ q) s.heap H locs) (ls : Array Slot) (hl : lv_has ls 4 [(3, .int 0), (2, .ref (bm 0)), (1, .ref (a 0)), (0, .ref b)]) : W p l e room_1 s m #[Value.ref b] below meth c H locs 110 5410 (lw_Z below #[Value.ref b] s) (F0 m 1470 ls []) := by
  have C1 := C0
  obtain ⟨hx, hb, hr, hml, hown, hts, hX, hbl, hlocks, hgv⟩ := C0
  subst h6
  have hown : s.vm.findClass RL = some m.cls := hown
  have hts : ∀ z ∈ wsL_law, z.before #[Value.ref b] s = true := fun z h => hts z (wsL_law_in z h)
  have hbA : ¬ (fun q : Nat => s.heap.size ≤ q) b := Nat.not_le.mpr hbl
  refine lv_aload_n hx hb dL_law_1470 rfl (lv_at hl 2 rfl) ?_
  refine ro_calli (va_runV (As := []) (rest := []) ⟨hx, hb, hml, hown, hts⟩ (c_X10_firmest l G ct a rr ) (cwV 0 hts gL_law_X10_firmest rfl rfl rfl (by decide +kernel) ⟨Nat.le_of_ble_eq_true rfl, Nat.le_of_ble_eq_true rfl⟩) (ro_preV 10 0 hK hPx rfl rfl) rfl rfl hl.1 rfl (lv_room (Nat.le_of_ble_eq_true rfl)) dL_law_1471 ⟨Nat.le_of_ble_eq_true rfl, Nat.le_of_ble_eq_true rfl⟩) hS hPm (fun r1 H locs wr1 hPm hS => ?_)
  refine lv_aload_n hx hb dL_law_1474 rfl (lv_at hl 1 rfl) ?_
  refine wq_calli (va_runV (As := []) (rest := [.int r1]) ⟨hx, hb, hml, hown, hts⟩ (c_X11_firmest l G ct bm ) (cwV 0 hts gL_law_X11_firmest rfl rfl rfl (by decide +kernel) ⟨Nat.le_of_ble_eq_true rfl, Nat.le_of_ble_eq_true rfl⟩) (wr_preV 11 0 hK hPm hDm rfl rfl) rfl rfl hl.1 rfl (lv_room (Nat.le_of_ble_eq_true rfl)) dL_law_1475 ⟨Nat.le_of_ble_eq_true rfl, Nat.le_of_ble_eq_true rfl⟩) hS (aset_D hDm) (fun r2 H locs wr2 hk hS => ?_)
  refine lv_icmp_eq (tgt := 2133) hx hb dL_law_1478 (by decide) (fun c_1 => ?_) (fun c_1 => ?_)
  · exact law_next l C1 rfl H locs hS ls (lv_sub hl [0, 3] rfl)
  · exact absurd (wr1.trans wr2.symm) c_1
set_option maxHeartbeats 4000000 in
set_option maxRecDepth 100000 in
theorem law_c45 {p : Program} {e : Env} {s : State} {m : MethodId} {below : List Frame} {meth : Method} {c : Code} (l : Launch) {b L : Nat} {xs : Nat → Int32} (C0 : lw_At p s m meth c b L xs) (h6 : L = 6) (G : va_G) (ct : Nat → ClassId) (a rr bm : Nat → Nat) (H : Heap) (locs : List Loc) (hK : KK G ct s) (hPx : va_P G vwCl (xF a rr ct) H) (hPm : va_P G vwCl (mF bm ct) H) (hDx : va_D (fun q : Nat => s.heap.size ≤ q) (xF a rr ct)) (hDm : va_D (fun q : Nat => s.heap.size ≤ q) (mF bm ct)) (hap : ∀ q, aset (xF a rr ct) q → ¬ aset (mF bm ct) q) (hS : va_S (fun q : Nat => s.heap.size ≤ q) s.heap H locs) (ls : Array Slot) (hl : lv_has ls 4 [(3, .int 0), (2, .ref (bm 0)), (1, .ref (a 0)), (0, .ref b)]) : W p l e room_1 s m #[Value.ref b] below meth c H locs 110 5410 (lw_Z below #[Value.ref b] s) (F0 m 1483 ls []) := by
  have C1 := C0
  obtain ⟨hx, hb, hr, hml, hown, hts, hX, hbl, hlocks, hgv⟩ := C0
  subst h6
  have hown : s.vm.findClass RL = some m.cls := hown
  have hts : ∀ z ∈ wsL_law, z.before #[Value.ref b] s = true := fun z h => hts z (wsL_law_in z h)
  have hbA : ¬ (fun q : Nat => s.heap.size ≤ q) b := Nat.not_le.mpr hbl
  refine lv_aload_n hx hb dL_law_1483 rfl (lv_at hl 2 rfl) ?_
  refine lv_aload_n hx hb dL_law_1484 rfl (lv_at hl 3 rfl) ?_
  refine lv_iload_n hx hb dL_law_1485 rfl (lv_at hl 0 rfl) ?_
  refine lv_iconst (v := 1) hx hb dL_law_1486 (by decide) ?_
  refine lv_iadd hx hb dL_law_1487 ?_
  refine ix_i (y := 1) (by decide) ?_
  refine va_sld hx hb hX hbl hbA hS (in_lit (by decide)) dL_law_1488 ?_
  refine lv_aload_n hx hb dL_law_1489 rfl (lv_at hl 3 rfl) ?_
  refine lv_iload_n hx hb dL_law_1490 rfl (lv_at hl 0 rfl) ?_
  refine lv_iconst (v := 2) hx hb dL_law_1491 (by decide) ?_
  refine lv_iadd hx hb dL_law_1492 ?_
  refine ix_i (y := 2) (by decide) ?_
  refine va_sld hx hb hX hbl hbA hS (in_lit (by decide)) dL_law_1493 ?_
  refine ro_calli (va_runV (As := [.int (xs (1 : Int32).toNatClampNeg), .int (xs (2 : Int32).toNatClampNeg)]) (rest := []) ⟨hx, hb, hml, hown, hts⟩ (c_X10_wins l G ct a rr (xs (1 : Int32).toNatClampNeg) (xs (2 : Int32).toNatClampNeg)) (cwV 2 hts gL_law_X10_wins rfl rfl rfl (by decide +kernel) ⟨Nat.le_of_ble_eq_true rfl, Nat.le_of_ble_eq_true rfl⟩) (ro_preV 10 0 hK hPx rfl rfl) rfl rfl hl.1 rfl (lv_room (Nat.le_of_ble_eq_true rfl)) dL_law_1494 ⟨Nat.le_of_ble_eq_true rfl, Nat.le_of_ble_eq_true rfl⟩) hS hPm (fun r1 H locs wr1 hPm hS => ?_)
  refine lv_aload_n hx hb dL_law_1497 rfl (lv_at hl 1 rfl) ?_
  refine lv_aload_n hx hb dL_law_1498 rfl (lv_at hl 3 rfl) ?_
  refine lv_iload_n hx hb dL_law_1499 rfl (lv_at hl 0 rfl) ?_
  refine lv_iconst (v := 1) hx hb dL_law_1500 (by decide) ?_
  refine lv_iadd hx hb dL_law_1501 ?_
  refine ix_i (y := 1) (by decide) ?_
  refine va_sld hx hb hX hbl hbA hS (in_lit (by decide)) dL_law_1502 ?_
  refine lv_aload_n hx hb dL_law_1503 rfl (lv_at hl 3 rfl) ?_
  refine lv_iload_n hx hb dL_law_1504 rfl (lv_at hl 0 rfl) ?_
  refine lv_iconst (v := 2) hx hb dL_law_1505 (by decide) ?_
  refine lv_iadd hx hb dL_law_1506 ?_
  refine ix_i (y := 2) (by decide) ?_
  refine va_sld hx hb hX hbl hbA hS (in_lit (by decide)) dL_law_1507 ?_
  refine wq_calli (va_runV (As := [.int (xs (1 : Int32).toNatClampNeg), .int (xs (2 : Int32).toNatClampNeg)]) (rest := [.int r1]) ⟨hx, hb, hml, hown, hts⟩ (c_X11_wins l G ct bm (xs (1 : Int32).toNatClampNeg) (xs (2 : Int32).toNatClampNeg)) (cwV 2 hts gL_law_X11_wins rfl rfl rfl (by decide +kernel) ⟨Nat.le_of_ble_eq_true rfl, Nat.le_of_ble_eq_true rfl⟩) (wr_preV 11 0 hK hPm hDm rfl rfl) rfl rfl hl.1 rfl (lv_room (Nat.le_of_ble_eq_true rfl)) dL_law_1508 ⟨Nat.le_of_ble_eq_true rfl, Nat.le_of_ble_eq_true rfl⟩) hS (aset_D hDm) (fun r2 H locs wr2 hk hS => ?_)
  refine lv_icmp_eq (tgt := 2133) hx hb dL_law_1511 (by decide) (fun c_1 => ?_) (fun c_1 => ?_)
  · exact law_next l C1 rfl H locs hS ls (lv_sub hl [0, 3] rfl)
  · exact absurd (wr1.trans wr2.symm) c_1
set_option maxHeartbeats 4000000 in
set_option maxRecDepth 100000 in
theorem law_c46 {p : Program} {e : Env} {s : State} {m : MethodId} {below : List Frame} {meth : Method} {c : Code} (l : Launch) {b L : Nat} {xs : Nat → Int32} (C0 : lw_At p s m meth c b L xs) (h6 : L = 6) (G : va_G) (ct : Nat → ClassId) (a rr bm : Nat → Nat) (H : Heap) (locs : List Loc) (hK : KK G ct s) (hPx : va_P G vwCl (xF a rr ct) H) (hPm : va_P G vwCl (mF bm ct) H) (hDx : va_D (fun q : Nat => s.heap.size ≤ q) (xF a rr ct)) (hDm : va_D (fun q : Nat => s.heap.size ≤ q) (mF bm ct)) (hap : ∀ q, aset (xF a rr ct) q → ¬ aset (mF bm ct) q) (hS : va_S (fun q : Nat => s.heap.size ≤ q) s.heap H locs) (ls : Array Slot) (hl : lv_has ls 4 [(3, .int 0), (2, .ref (bm 0)), (1, .ref (a 0)), (0, .ref b)]) : W p l e room_1 s m #[Value.ref b] below meth c H locs 110 5410 (lw_Z below #[Value.ref b] s) (F0 m 1516 ls []) := by
  have C1 := C0
  obtain ⟨hx, hb, hr, hml, hown, hts, hX, hbl, hlocks, hgv⟩ := C0
  subst h6
  have hown : s.vm.findClass RL = some m.cls := hown
  have hts : ∀ z ∈ wsL_law, z.before #[Value.ref b] s = true := fun z h => hts z (wsL_law_in z h)
  have hbA : ¬ (fun q : Nat => s.heap.size ≤ q) b := Nat.not_le.mpr hbl
  refine lv_aload_n hx hb dL_law_1516 rfl (lv_at hl 2 rfl) ?_
  refine lv_aload_n hx hb dL_law_1517 rfl (lv_at hl 3 rfl) ?_
  refine lv_iload_n hx hb dL_law_1518 rfl (lv_at hl 0 rfl) ?_
  refine lv_iconst (v := 1) hx hb dL_law_1519 (by decide) ?_
  refine lv_iadd hx hb dL_law_1520 ?_
  refine ix_i (y := 1) (by decide) ?_
  refine va_sld hx hb hX hbl hbA hS (in_lit (by decide)) dL_law_1521 ?_
  refine ro_calli (va_runV (As := [.int (xs (1 : Int32).toNatClampNeg)]) (rest := []) ⟨hx, hb, hml, hown, hts⟩ (c_X10_leave l G ct a rr (xs (1 : Int32).toNatClampNeg)) (cwV 1 hts gL_law_X10_leave rfl rfl rfl (by decide +kernel) ⟨Nat.le_of_ble_eq_true rfl, Nat.le_of_ble_eq_true rfl⟩) (ro_preV 10 0 hK hPx rfl rfl) rfl rfl hl.1 rfl (lv_room (Nat.le_of_ble_eq_true rfl)) dL_law_1522 ⟨Nat.le_of_ble_eq_true rfl, Nat.le_of_ble_eq_true rfl⟩) hS hPm (fun r1 H locs wr1 hPm hS => ?_)
  refine lv_aload_n hx hb dL_law_1525 rfl (lv_at hl 1 rfl) ?_
  refine lv_aload_n hx hb dL_law_1526 rfl (lv_at hl 3 rfl) ?_
  refine lv_iload_n hx hb dL_law_1527 rfl (lv_at hl 0 rfl) ?_
  refine lv_iconst (v := 1) hx hb dL_law_1528 (by decide) ?_
  refine lv_iadd hx hb dL_law_1529 ?_
  refine ix_i (y := 1) (by decide) ?_
  refine va_sld hx hb hX hbl hbA hS (in_lit (by decide)) dL_law_1530 ?_
  refine wq_calli (va_runV (As := [.int (xs (1 : Int32).toNatClampNeg)]) (rest := [.int r1]) ⟨hx, hb, hml, hown, hts⟩ (c_X11_leave l G ct bm (xs (1 : Int32).toNatClampNeg)) (cwV 1 hts gL_law_X11_leave rfl rfl rfl (by decide +kernel) ⟨Nat.le_of_ble_eq_true rfl, Nat.le_of_ble_eq_true rfl⟩) (wr_preV 11 0 hK hPm hDm rfl rfl) rfl rfl hl.1 rfl (lv_room (Nat.le_of_ble_eq_true rfl)) dL_law_1531 ⟨Nat.le_of_ble_eq_true rfl, Nat.le_of_ble_eq_true rfl⟩) hS (aset_D hDm) (fun r2 H locs wr2 hk hS => ?_)
  refine lv_icmp_eq (tgt := 2133) hx hb dL_law_1534 (by decide) (fun c_1 => ?_) (fun c_1 => ?_)
  · exact law_next l C1 rfl H locs hS ls (lv_sub hl [0, 3] rfl)
  · exact absurd (wr1.trans wr2.symm) c_1
set_option maxHeartbeats 4000000 in
set_option maxRecDepth 100000 in
theorem law_c47 {p : Program} {e : Env} {s : State} {m : MethodId} {below : List Frame} {meth : Method} {c : Code} (l : Launch) {b L : Nat} {xs : Nat → Int32} (C0 : lw_At p s m meth c b L xs) (h6 : L = 6) (G : va_G) (ct : Nat → ClassId) (a rr bm : Nat → Nat) (H : Heap) (locs : List Loc) (hK : KK G ct s) (hPx : va_P G vwCl (xF a rr ct) H) (hPm : va_P G vwCl (mF bm ct) H) (hDx : va_D (fun q : Nat => s.heap.size ≤ q) (xF a rr ct)) (hDm : va_D (fun q : Nat => s.heap.size ≤ q) (mF bm ct)) (hap : ∀ q, aset (xF a rr ct) q → ¬ aset (mF bm ct) q) (hS : va_S (fun q : Nat => s.heap.size ≤ q) s.heap H locs) (ls : Array Slot) (hl : lv_has ls 4 [(3, .int 0), (2, .ref (bm 0)), (1, .ref (a 0)), (0, .ref b)]) : W p l e room_1 s m #[Value.ref b] below meth c H locs 110 5410 (lw_Z below #[Value.ref b] s) (F0 m 1539 ls []) := by
  have C1 := C0
  obtain ⟨hx, hb, hr, hml, hown, hts, hX, hbl, hlocks, hgv⟩ := C0
  subst h6
  have hown : s.vm.findClass RL = some m.cls := hown
  have hts : ∀ z ∈ wsL_law, z.before #[Value.ref b] s = true := fun z h => hts z (wsL_law_in z h)
  have hbA : ¬ (fun q : Nat => s.heap.size ≤ q) b := Nat.not_le.mpr hbl
  refine lv_aload_n hx hb dL_law_1539 rfl (lv_at hl 2 rfl) ?_
  refine lv_aload_n hx hb dL_law_1540 rfl (lv_at hl 3 rfl) ?_
  refine lv_iload_n hx hb dL_law_1541 rfl (lv_at hl 0 rfl) ?_
  refine lv_iconst (v := 1) hx hb dL_law_1542 (by decide) ?_
  refine lv_iadd hx hb dL_law_1543 ?_
  refine ix_i (y := 1) (by decide) ?_
  refine va_sld hx hb hX hbl hbA hS (in_lit (by decide)) dL_law_1544 ?_
  refine lv_aload_n hx hb dL_law_1545 rfl (lv_at hl 3 rfl) ?_
  refine lv_iload_n hx hb dL_law_1546 rfl (lv_at hl 0 rfl) ?_
  refine lv_iconst (v := 2) hx hb dL_law_1547 (by decide) ?_
  refine lv_iadd hx hb dL_law_1548 ?_
  refine ix_i (y := 2) (by decide) ?_
  refine va_sld hx hb hX hbl hbA hS (in_lit (by decide)) dL_law_1549 ?_
  refine ro_calli (va_runV (As := [.int (xs (1 : Int32).toNatClampNeg), .int (xs (2 : Int32).toNatClampNeg)]) (rest := []) ⟨hx, hb, hml, hown, hts⟩ (c_X10_ransom l G ct a rr (xs (1 : Int32).toNatClampNeg) (xs (2 : Int32).toNatClampNeg)) (cwV 2 hts gL_law_X10_ransom rfl rfl rfl (by decide +kernel) ⟨Nat.le_of_ble_eq_true rfl, Nat.le_of_ble_eq_true rfl⟩) (ro_preV 10 0 hK hPx rfl rfl) rfl rfl hl.1 rfl (lv_room (Nat.le_of_ble_eq_true rfl)) dL_law_1550 ⟨Nat.le_of_ble_eq_true rfl, Nat.le_of_ble_eq_true rfl⟩) hS hPm (fun r1 H locs wr1 hPm hS => ?_)
  refine lv_aload_n hx hb dL_law_1553 rfl (lv_at hl 1 rfl) ?_
  refine lv_aload_n hx hb dL_law_1554 rfl (lv_at hl 3 rfl) ?_
  refine lv_iload_n hx hb dL_law_1555 rfl (lv_at hl 0 rfl) ?_
  refine lv_iconst (v := 1) hx hb dL_law_1556 (by decide) ?_
  refine lv_iadd hx hb dL_law_1557 ?_
  refine ix_i (y := 1) (by decide) ?_
  refine va_sld hx hb hX hbl hbA hS (in_lit (by decide)) dL_law_1558 ?_
  refine lv_aload_n hx hb dL_law_1559 rfl (lv_at hl 3 rfl) ?_
  refine lv_iload_n hx hb dL_law_1560 rfl (lv_at hl 0 rfl) ?_
  refine lv_iconst (v := 2) hx hb dL_law_1561 (by decide) ?_
  refine lv_iadd hx hb dL_law_1562 ?_
  refine ix_i (y := 2) (by decide) ?_
  refine va_sld hx hb hX hbl hbA hS (in_lit (by decide)) dL_law_1563 ?_
  refine wq_calli (va_runV (As := [.int (xs (1 : Int32).toNatClampNeg), .int (xs (2 : Int32).toNatClampNeg)]) (rest := [.int r1]) ⟨hx, hb, hml, hown, hts⟩ (c_X11_ransom l G ct bm (xs (1 : Int32).toNatClampNeg) (xs (2 : Int32).toNatClampNeg)) (cwV 2 hts gL_law_X11_ransom rfl rfl rfl (by decide +kernel) ⟨Nat.le_of_ble_eq_true rfl, Nat.le_of_ble_eq_true rfl⟩) (wr_preV 11 0 hK hPm hDm rfl rfl) rfl rfl hl.1 rfl (lv_room (Nat.le_of_ble_eq_true rfl)) dL_law_1564 ⟨Nat.le_of_ble_eq_true rfl, Nat.le_of_ble_eq_true rfl⟩) hS (aset_D hDm) (fun r2 H locs wr2 hk hS => ?_)
  refine lv_icmp_eq (tgt := 2133) hx hb dL_law_1567 (by decide) (fun c_1 => ?_) (fun c_1 => ?_)
  · exact law_next l C1 rfl H locs hS ls (lv_sub hl [0, 3] rfl)
  · exact absurd (wr1.trans wr2.symm) c_1
set_option maxHeartbeats 4000000 in
set_option maxRecDepth 100000 in
theorem law_c48 {p : Program} {e : Env} {s : State} {m : MethodId} {below : List Frame} {meth : Method} {c : Code} (l : Launch) {b L : Nat} {xs : Nat → Int32} (C0 : lw_At p s m meth c b L xs) (h6 : L = 6) (G : va_G) (ct : Nat → ClassId) (a rr bm : Nat → Nat) (H : Heap) (locs : List Loc) (hK : KK G ct s) (hPx : va_P G vwCl (xF a rr ct) H) (hPm : va_P G vwCl (mF bm ct) H) (hDx : va_D (fun q : Nat => s.heap.size ≤ q) (xF a rr ct)) (hDm : va_D (fun q : Nat => s.heap.size ≤ q) (mF bm ct)) (hap : ∀ q, aset (xF a rr ct) q → ¬ aset (mF bm ct) q) (hS : va_S (fun q : Nat => s.heap.size ≤ q) s.heap H locs) (ls : Array Slot) (hl : lv_has ls 4 [(3, .int 0), (2, .ref (bm 0)), (1, .ref (a 0)), (0, .ref b)]) : W p l e room_1 s m #[Value.ref b] below meth c H locs 110 5410 (lw_Z below #[Value.ref b] s) (F0 m 1572 ls []) := by
  have C1 := C0
  obtain ⟨hx, hb, hr, hml, hown, hts, hX, hbl, hlocks, hgv⟩ := C0
  subst h6
  have hown : s.vm.findClass RL = some m.cls := hown
  have hts : ∀ z ∈ wsL_law, z.before #[Value.ref b] s = true := fun z h => hts z (wsL_law_in z h)
  have hbA : ¬ (fun q : Nat => s.heap.size ≤ q) b := Nat.not_le.mpr hbl
  refine lv_aload_n hx hb dL_law_1572 rfl (lv_at hl 2 rfl) ?_
  refine lv_aload_n hx hb dL_law_1573 rfl (lv_at hl 3 rfl) ?_
  refine lv_iload_n hx hb dL_law_1574 rfl (lv_at hl 0 rfl) ?_
  refine lv_iconst (v := 1) hx hb dL_law_1575 (by decide) ?_
  refine lv_iadd hx hb dL_law_1576 ?_
  refine ix_i (y := 1) (by decide) ?_
  refine va_sld hx hb hX hbl hbA hS (in_lit (by decide)) dL_law_1577 ?_
  refine lv_aload_n hx hb dL_law_1578 rfl (lv_at hl 3 rfl) ?_
  refine lv_iload_n hx hb dL_law_1579 rfl (lv_at hl 0 rfl) ?_
  refine lv_iconst (v := 2) hx hb dL_law_1580 (by decide) ?_
  refine lv_iadd hx hb dL_law_1581 ?_
  refine ix_i (y := 2) (by decide) ?_
  refine va_sld hx hb hX hbl hbA hS (in_lit (by decide)) dL_law_1582 ?_
  refine ro_calli (va_runV (As := [.int (xs (1 : Int32).toNatClampNeg), .int (xs (2 : Int32).toNatClampNeg)]) (rest := []) ⟨hx, hb, hml, hown, hts⟩ (c_X10_ransomed l G ct a rr (xs (1 : Int32).toNatClampNeg) (xs (2 : Int32).toNatClampNeg)) (cwV 2 hts gL_law_X10_ransomed rfl rfl rfl (by decide +kernel) ⟨Nat.le_of_ble_eq_true rfl, Nat.le_of_ble_eq_true rfl⟩) (ro_preV 10 0 hK hPx rfl rfl) rfl rfl hl.1 rfl (lv_room (Nat.le_of_ble_eq_true rfl)) dL_law_1583 ⟨Nat.le_of_ble_eq_true rfl, Nat.le_of_ble_eq_true rfl⟩) hS hPm (fun r1 H locs wr1 hPm hS => ?_)
  refine lv_aload_n hx hb dL_law_1586 rfl (lv_at hl 1 rfl) ?_
  refine lv_aload_n hx hb dL_law_1587 rfl (lv_at hl 3 rfl) ?_
  refine lv_iload_n hx hb dL_law_1588 rfl (lv_at hl 0 rfl) ?_
  refine lv_iconst (v := 1) hx hb dL_law_1589 (by decide) ?_
  refine lv_iadd hx hb dL_law_1590 ?_
  refine ix_i (y := 1) (by decide) ?_
  refine va_sld hx hb hX hbl hbA hS (in_lit (by decide)) dL_law_1591 ?_
  refine lv_aload_n hx hb dL_law_1592 rfl (lv_at hl 3 rfl) ?_
  refine lv_iload_n hx hb dL_law_1593 rfl (lv_at hl 0 rfl) ?_
  refine lv_iconst (v := 2) hx hb dL_law_1594 (by decide) ?_
  refine lv_iadd hx hb dL_law_1595 ?_
  refine ix_i (y := 2) (by decide) ?_
  refine va_sld hx hb hX hbl hbA hS (in_lit (by decide)) dL_law_1596 ?_
  refine wq_calli (va_runV (As := [.int (xs (1 : Int32).toNatClampNeg), .int (xs (2 : Int32).toNatClampNeg)]) (rest := [.int r1]) ⟨hx, hb, hml, hown, hts⟩ (c_X11_ransomed l G ct bm (xs (1 : Int32).toNatClampNeg) (xs (2 : Int32).toNatClampNeg)) (cwV 2 hts gL_law_X11_ransomed rfl rfl rfl (by decide +kernel) ⟨Nat.le_of_ble_eq_true rfl, Nat.le_of_ble_eq_true rfl⟩) (wr_preV 11 0 hK hPm hDm rfl rfl) rfl rfl hl.1 rfl (lv_room (Nat.le_of_ble_eq_true rfl)) dL_law_1597 ⟨Nat.le_of_ble_eq_true rfl, Nat.le_of_ble_eq_true rfl⟩) hS (aset_D hDm) (fun r2 H locs wr2 hk hS => ?_)
  refine lv_icmp_eq (tgt := 2133) hx hb dL_law_1600 (by decide) (fun c_1 => ?_) (fun c_1 => ?_)
  · exact law_next l C1 rfl H locs hS ls (lv_sub hl [0, 3] rfl)
  · exact absurd (wr1.trans wr2.symm) c_1
set_option maxHeartbeats 4000000 in
set_option maxRecDepth 100000 in
theorem law_c49 {p : Program} {e : Env} {s : State} {m : MethodId} {below : List Frame} {meth : Method} {c : Code} (l : Launch) {b L : Nat} {xs : Nat → Int32} (C0 : lw_At p s m meth c b L xs) (h6 : L = 6) (G : va_G) (ct : Nat → ClassId) (a rr bm : Nat → Nat) (H : Heap) (locs : List Loc) (hK : KK G ct s) (hPx : va_P G vwCl (xF a rr ct) H) (hPm : va_P G vwCl (mF bm ct) H) (hDx : va_D (fun q : Nat => s.heap.size ≤ q) (xF a rr ct)) (hDm : va_D (fun q : Nat => s.heap.size ≤ q) (mF bm ct)) (hap : ∀ q, aset (xF a rr ct) q → ¬ aset (mF bm ct) q) (hS : va_S (fun q : Nat => s.heap.size ≤ q) s.heap H locs) (ls : Array Slot) (hl : lv_has ls 4 [(3, .int 0), (2, .ref (bm 0)), (1, .ref (a 0)), (0, .ref b)]) : W p l e room_1 s m #[Value.ref b] below meth c H locs 110 5410 (lw_Z below #[Value.ref b] s) (F0 m 1605 ls []) := by
  have C1 := C0
  obtain ⟨hx, hb, hr, hml, hown, hts, hX, hbl, hlocks, hgv⟩ := C0
  subst h6
  have hown : s.vm.findClass RL = some m.cls := hown
  have hts : ∀ z ∈ wsL_law, z.before #[Value.ref b] s = true := fun z h => hts z (wsL_law_in z h)
  have hbA : ¬ (fun q : Nat => s.heap.size ≤ q) b := Nat.not_le.mpr hbl
  refine lv_aload_n hx hb dL_law_1605 rfl (lv_at hl 2 rfl) ?_
  refine lv_aload_n hx hb dL_law_1606 rfl (lv_at hl 3 rfl) ?_
  refine lv_iload_n hx hb dL_law_1607 rfl (lv_at hl 0 rfl) ?_
  refine lv_iconst (v := 1) hx hb dL_law_1608 (by decide) ?_
  refine lv_iadd hx hb dL_law_1609 ?_
  refine ix_i (y := 1) (by decide) ?_
  refine va_sld hx hb hX hbl hbA hS (in_lit (by decide)) dL_law_1610 ?_
  refine ro_calli (va_runV (As := [.int (xs (1 : Int32).toNatClampNeg)]) (rest := []) ⟨hx, hb, hml, hown, hts⟩ (c_X10_power l G ct a rr (xs (1 : Int32).toNatClampNeg)) (cwV 1 hts gL_law_X10_power rfl rfl rfl (by decide +kernel) ⟨Nat.le_of_ble_eq_true rfl, Nat.le_of_ble_eq_true rfl⟩) (ro_preV 10 0 hK hPx rfl rfl) rfl rfl hl.1 rfl (lv_room (Nat.le_of_ble_eq_true rfl)) dL_law_1611 ⟨Nat.le_of_ble_eq_true rfl, Nat.le_of_ble_eq_true rfl⟩) hS hPm (fun r1 H locs wr1 hPm hS => ?_)
  refine lv_aload_n hx hb dL_law_1614 rfl (lv_at hl 1 rfl) ?_
  refine lv_aload_n hx hb dL_law_1615 rfl (lv_at hl 3 rfl) ?_
  refine lv_iload_n hx hb dL_law_1616 rfl (lv_at hl 0 rfl) ?_
  refine lv_iconst (v := 1) hx hb dL_law_1617 (by decide) ?_
  refine lv_iadd hx hb dL_law_1618 ?_
  refine ix_i (y := 1) (by decide) ?_
  refine va_sld hx hb hX hbl hbA hS (in_lit (by decide)) dL_law_1619 ?_
  refine wq_calli (va_runV (As := [.int (xs (1 : Int32).toNatClampNeg)]) (rest := [.int r1]) ⟨hx, hb, hml, hown, hts⟩ (c_X11_power l G ct bm (xs (1 : Int32).toNatClampNeg)) (cwV 1 hts gL_law_X11_power rfl rfl rfl (by decide +kernel) ⟨Nat.le_of_ble_eq_true rfl, Nat.le_of_ble_eq_true rfl⟩) (wr_preV 11 0 hK hPm hDm rfl rfl) rfl rfl hl.1 rfl (lv_room (Nat.le_of_ble_eq_true rfl)) dL_law_1620 ⟨Nat.le_of_ble_eq_true rfl, Nat.le_of_ble_eq_true rfl⟩) hS (aset_D hDm) (fun r2 H locs wr2 hk hS => ?_)
  refine lv_icmp_eq (tgt := 2133) hx hb dL_law_1623 (by decide) (fun c_1 => ?_) (fun c_1 => ?_)
  · exact law_next l C1 rfl H locs hS ls (lv_sub hl [0, 3] rfl)
  · exact absurd (wr1.trans wr2.symm) c_1
set_option maxHeartbeats 4000000 in
set_option maxRecDepth 100000 in
theorem law_c50 {p : Program} {e : Env} {s : State} {m : MethodId} {below : List Frame} {meth : Method} {c : Code} (l : Launch) {b L : Nat} {xs : Nat → Int32} (C0 : lw_At p s m meth c b L xs) (h6 : L = 6) (G : va_G) (ct : Nat → ClassId) (a rr bm : Nat → Nat) (H : Heap) (locs : List Loc) (hK : KK G ct s) (hPx : va_P G vwCl (xF a rr ct) H) (hPm : va_P G vwCl (mF bm ct) H) (hDx : va_D (fun q : Nat => s.heap.size ≤ q) (xF a rr ct)) (hDm : va_D (fun q : Nat => s.heap.size ≤ q) (mF bm ct)) (hap : ∀ q, aset (xF a rr ct) q → ¬ aset (mF bm ct) q) (hS : va_S (fun q : Nat => s.heap.size ≤ q) s.heap H locs) (ls : Array Slot) (hl : lv_has ls 4 [(3, .int 0), (2, .ref (bm 0)), (1, .ref (a 0)), (0, .ref b)]) : W p l e room_1 s m #[Value.ref b] below meth c H locs 110 5410 (lw_Z below #[Value.ref b] s) (F0 m 1628 ls []) := by
  have C1 := C0
  obtain ⟨hx, hb, hr, hml, hown, hts, hX, hbl, hlocks, hgv⟩ := C0
  subst h6
  have hown : s.vm.findClass RL = some m.cls := hown
  have hts : ∀ z ∈ wsL_law, z.before #[Value.ref b] s = true := fun z h => hts z (wsL_law_in z h)
  have hbA : ¬ (fun q : Nat => s.heap.size ≤ q) b := Nat.not_le.mpr hbl
  refine lv_aload_n hx hb dL_law_1628 rfl (lv_at hl 2 rfl) ?_
  refine ro_calli (va_runV (As := []) (rest := []) ⟨hx, hb, hml, hown, hts⟩ (c_X10_mighty l G ct a rr ) (cwV 0 hts gL_law_X10_mighty rfl rfl rfl (by decide +kernel) ⟨Nat.le_of_ble_eq_true rfl, Nat.le_of_ble_eq_true rfl⟩) (ro_preV 10 0 hK hPx rfl rfl) rfl rfl hl.1 rfl (lv_room (Nat.le_of_ble_eq_true rfl)) dL_law_1629 ⟨Nat.le_of_ble_eq_true rfl, Nat.le_of_ble_eq_true rfl⟩) hS hPm (fun r1 H locs wr1 hPm hS => ?_)
  refine lv_aload_n hx hb dL_law_1632 rfl (lv_at hl 1 rfl) ?_
  refine wq_calli (va_runV (As := []) (rest := [.int r1]) ⟨hx, hb, hml, hown, hts⟩ (c_X11_mighty l G ct bm ) (cwV 0 hts gL_law_X11_mighty rfl rfl rfl (by decide +kernel) ⟨Nat.le_of_ble_eq_true rfl, Nat.le_of_ble_eq_true rfl⟩) (wr_preV 11 0 hK hPm hDm rfl rfl) rfl rfl hl.1 rfl (lv_room (Nat.le_of_ble_eq_true rfl)) dL_law_1633 ⟨Nat.le_of_ble_eq_true rfl, Nat.le_of_ble_eq_true rfl⟩) hS (aset_D hDm) (fun r2 H locs wr2 hk hS => ?_)
  refine lv_icmp_eq (tgt := 2133) hx hb dL_law_1636 (by decide) (fun c_1 => ?_) (fun c_1 => ?_)
  · exact law_next l C1 rfl H locs hS ls (lv_sub hl [0, 3] rfl)
  · exact absurd (wr1.trans wr2.symm) c_1
set_option maxHeartbeats 4000000 in
set_option maxRecDepth 100000 in
theorem law_c51 {p : Program} {e : Env} {s : State} {m : MethodId} {below : List Frame} {meth : Method} {c : Code} (l : Launch) {b L : Nat} {xs : Nat → Int32} (C0 : lw_At p s m meth c b L xs) (h6 : L = 6) (G : va_G) (ct : Nat → ClassId) (a rr bm : Nat → Nat) (H : Heap) (locs : List Loc) (hK : KK G ct s) (hPx : va_P G vwCl (xF a rr ct) H) (hPm : va_P G vwCl (mF bm ct) H) (hDx : va_D (fun q : Nat => s.heap.size ≤ q) (xF a rr ct)) (hDm : va_D (fun q : Nat => s.heap.size ≤ q) (mF bm ct)) (hap : ∀ q, aset (xF a rr ct) q → ¬ aset (mF bm ct) q) (hS : va_S (fun q : Nat => s.heap.size ≤ q) s.heap H locs) (ls : Array Slot) (hl : lv_has ls 4 [(3, .int 0), (2, .ref (bm 0)), (1, .ref (a 0)), (0, .ref b)]) : W p l e room_1 s m #[Value.ref b] below meth c H locs 110 5410 (lw_Z below #[Value.ref b] s) (F0 m 1641 ls []) := by
  have C1 := C0
  obtain ⟨hx, hb, hr, hml, hown, hts, hX, hbl, hlocks, hgv⟩ := C0
  subst h6
  have hown : s.vm.findClass RL = some m.cls := hown
  have hts : ∀ z ∈ wsL_law, z.before #[Value.ref b] s = true := fun z h => hts z (wsL_law_in z h)
  have hbA : ¬ (fun q : Nat => s.heap.size ≤ q) b := Nat.not_le.mpr hbl
  refine lv_aload_n hx hb dL_law_1641 rfl (lv_at hl 2 rfl) ?_
  refine lv_aload_n hx hb dL_law_1642 rfl (lv_at hl 3 rfl) ?_
  refine lv_iload_n hx hb dL_law_1643 rfl (lv_at hl 0 rfl) ?_
  refine lv_iconst (v := 1) hx hb dL_law_1644 (by decide) ?_
  refine lv_iadd hx hb dL_law_1645 ?_
  refine ix_i (y := 1) (by decide) ?_
  refine va_sld hx hb hX hbl hbA hS (in_lit (by decide)) dL_law_1646 ?_
  refine ro_calli (va_runV (As := [.int (xs (1 : Int32).toNatClampNeg)]) (rest := []) ⟨hx, hb, hml, hown, hts⟩ (c_X10_covet l G ct a rr (xs (1 : Int32).toNatClampNeg)) (cwV 1 hts gL_law_X10_covet rfl rfl rfl (by decide +kernel) ⟨Nat.le_of_ble_eq_true rfl, Nat.le_of_ble_eq_true rfl⟩) (ro_preV 10 0 hK hPx rfl rfl) rfl rfl hl.1 rfl (lv_room (Nat.le_of_ble_eq_true rfl)) dL_law_1647 ⟨Nat.le_of_ble_eq_true rfl, Nat.le_of_ble_eq_true rfl⟩) hS hPm (fun r1 H locs wr1 hPm hS => ?_)
  refine lv_aload_n hx hb dL_law_1650 rfl (lv_at hl 1 rfl) ?_
  refine lv_aload_n hx hb dL_law_1651 rfl (lv_at hl 3 rfl) ?_
  refine lv_iload_n hx hb dL_law_1652 rfl (lv_at hl 0 rfl) ?_
  refine lv_iconst (v := 1) hx hb dL_law_1653 (by decide) ?_
  refine lv_iadd hx hb dL_law_1654 ?_
  refine ix_i (y := 1) (by decide) ?_
  refine va_sld hx hb hX hbl hbA hS (in_lit (by decide)) dL_law_1655 ?_
  refine wq_calli (va_runV (As := [.int (xs (1 : Int32).toNatClampNeg)]) (rest := [.int r1]) ⟨hx, hb, hml, hown, hts⟩ (c_X11_covet l G ct bm (xs (1 : Int32).toNatClampNeg)) (cwV 1 hts gL_law_X11_covet rfl rfl rfl (by decide +kernel) ⟨Nat.le_of_ble_eq_true rfl, Nat.le_of_ble_eq_true rfl⟩) (wr_preV 11 0 hK hPm hDm rfl rfl) rfl rfl hl.1 rfl (lv_room (Nat.le_of_ble_eq_true rfl)) dL_law_1656 ⟨Nat.le_of_ble_eq_true rfl, Nat.le_of_ble_eq_true rfl⟩) hS (aset_D hDm) (fun r2 H locs wr2 hk hS => ?_)
  refine lv_icmp_eq (tgt := 2133) hx hb dL_law_1659 (by decide) (fun c_1 => ?_) (fun c_1 => ?_)
  · exact law_next l C1 rfl H locs hS ls (lv_sub hl [0, 3] rfl)
  · exact absurd (wr1.trans wr2.symm) c_1
set_option maxHeartbeats 4000000 in
set_option maxRecDepth 100000 in
theorem law_c52 {p : Program} {e : Env} {s : State} {m : MethodId} {below : List Frame} {meth : Method} {c : Code} (l : Launch) {b L : Nat} {xs : Nat → Int32} (C0 : lw_At p s m meth c b L xs) (h6 : L = 6) (G : va_G) (ct : Nat → ClassId) (a rr bm : Nat → Nat) (H : Heap) (locs : List Loc) (hK : KK G ct s) (hPx : va_P G vwCl (xF a rr ct) H) (hPm : va_P G vwCl (mF bm ct) H) (hDx : va_D (fun q : Nat => s.heap.size ≤ q) (xF a rr ct)) (hDm : va_D (fun q : Nat => s.heap.size ≤ q) (mF bm ct)) (hap : ∀ q, aset (xF a rr ct) q → ¬ aset (mF bm ct) q) (hS : va_S (fun q : Nat => s.heap.size ≤ q) s.heap H locs) (ls : Array Slot) (hl : lv_has ls 4 [(3, .int 0), (2, .ref (bm 0)), (1, .ref (a 0)), (0, .ref b)]) : W p l e room_1 s m #[Value.ref b] below meth c H locs 110 5410 (lw_Z below #[Value.ref b] s) (F0 m 1664 ls []) := by
  have C1 := C0
  obtain ⟨hx, hb, hr, hml, hown, hts, hX, hbl, hlocks, hgv⟩ := C0
  subst h6
  have hown : s.vm.findClass RL = some m.cls := hown
  have hts : ∀ z ∈ wsL_law, z.before #[Value.ref b] s = true := fun z h => hts z (wsL_law_in z h)
  have hbA : ¬ (fun q : Nat => s.heap.size ≤ q) b := Nat.not_le.mpr hbl
  refine lv_aload_n hx hb dL_law_1664 rfl (lv_at hl 2 rfl) ?_
  refine lv_aload_n hx hb dL_law_1665 rfl (lv_at hl 3 rfl) ?_
  refine lv_iload_n hx hb dL_law_1666 rfl (lv_at hl 0 rfl) ?_
  refine lv_iconst (v := 1) hx hb dL_law_1667 (by decide) ?_
  refine lv_iadd hx hb dL_law_1668 ?_
  refine ix_i (y := 1) (by decide) ?_
  refine va_sld hx hb hX hbl hbA hS (in_lit (by decide)) dL_law_1669 ?_
  refine ro_calli (va_runV (As := [.int (xs (1 : Int32).toNatClampNeg)]) (rest := []) ⟨hx, hb, hml, hown, hts⟩ (c_X10_judge l G ct a rr (xs (1 : Int32).toNatClampNeg)) (cwV 1 hts gL_law_X10_judge rfl rfl rfl (by decide +kernel) ⟨Nat.le_of_ble_eq_true rfl, Nat.le_of_ble_eq_true rfl⟩) (ro_preV 10 0 hK hPx rfl rfl) rfl rfl hl.1 rfl (lv_room (Nat.le_of_ble_eq_true rfl)) dL_law_1670 ⟨Nat.le_of_ble_eq_true rfl, Nat.le_of_ble_eq_true rfl⟩) hS hPm (fun r1 H locs wr1 hPm hS => ?_)
  refine lv_aload_n hx hb dL_law_1673 rfl (lv_at hl 1 rfl) ?_
  refine lv_aload_n hx hb dL_law_1674 rfl (lv_at hl 3 rfl) ?_
  refine lv_iload_n hx hb dL_law_1675 rfl (lv_at hl 0 rfl) ?_
  refine lv_iconst (v := 1) hx hb dL_law_1676 (by decide) ?_
  refine lv_iadd hx hb dL_law_1677 ?_
  refine ix_i (y := 1) (by decide) ?_
  refine va_sld hx hb hX hbl hbA hS (in_lit (by decide)) dL_law_1678 ?_
  refine wq_calli (va_runV (As := [.int (xs (1 : Int32).toNatClampNeg)]) (rest := [.int r1]) ⟨hx, hb, hml, hown, hts⟩ (c_X11_judge l G ct bm (xs (1 : Int32).toNatClampNeg)) (cwV 1 hts gL_law_X11_judge rfl rfl rfl (by decide +kernel) ⟨Nat.le_of_ble_eq_true rfl, Nat.le_of_ble_eq_true rfl⟩) (wr_preV 11 0 hK hPm hDm rfl rfl) rfl rfl hl.1 rfl (lv_room (Nat.le_of_ble_eq_true rfl)) dL_law_1679 ⟨Nat.le_of_ble_eq_true rfl, Nat.le_of_ble_eq_true rfl⟩) hS (aset_D hDm) (fun r2 H locs wr2 hk hS => ?_)
  refine lv_icmp_eq (tgt := 2133) hx hb dL_law_1682 (by decide) (fun c_1 => ?_) (fun c_1 => ?_)
  · exact law_next l C1 rfl H locs hS ls (lv_sub hl [0, 3] rfl)
  · exact absurd (wr1.trans wr2.symm) c_1
set_option maxHeartbeats 4000000 in
set_option maxRecDepth 100000 in
theorem law_c53 {p : Program} {e : Env} {s : State} {m : MethodId} {below : List Frame} {meth : Method} {c : Code} (l : Launch) {b L : Nat} {xs : Nat → Int32} (C0 : lw_At p s m meth c b L xs) (h6 : L = 6) (G : va_G) (ct : Nat → ClassId) (a rr bm : Nat → Nat) (H : Heap) (locs : List Loc) (hK : KK G ct s) (hPx : va_P G vwCl (xF a rr ct) H) (hPm : va_P G vwCl (mF bm ct) H) (hDx : va_D (fun q : Nat => s.heap.size ≤ q) (xF a rr ct)) (hDm : va_D (fun q : Nat => s.heap.size ≤ q) (mF bm ct)) (hap : ∀ q, aset (xF a rr ct) q → ¬ aset (mF bm ct) q) (hS : va_S (fun q : Nat => s.heap.size ≤ q) s.heap H locs) (ls : Array Slot) (hl : lv_has ls 4 [(3, .int 0), (2, .ref (bm 0)), (1, .ref (a 0)), (0, .ref b)]) : W p l e room_1 s m #[Value.ref b] below meth c H locs 110 5410 (lw_Z below #[Value.ref b] s) (F0 m 1687 ls []) := by
  have C1 := C0
  obtain ⟨hx, hb, hr, hml, hown, hts, hX, hbl, hlocks, hgv⟩ := C0
  subst h6
  have hown : s.vm.findClass RL = some m.cls := hown
  have hts : ∀ z ∈ wsL_law, z.before #[Value.ref b] s = true := fun z h => hts z (wsL_law_in z h)
  have hbA : ¬ (fun q : Nat => s.heap.size ≤ q) b := Nat.not_le.mpr hbl
  refine lv_aload_n hx hb dL_law_1687 rfl (lv_at hl 2 rfl) ?_
  refine lv_aload_n hx hb dL_law_1688 rfl (lv_at hl 3 rfl) ?_
  refine lv_iload_n hx hb dL_law_1689 rfl (lv_at hl 0 rfl) ?_
  refine lv_iconst (v := 1) hx hb dL_law_1690 (by decide) ?_
  refine lv_iadd hx hb dL_law_1691 ?_
  refine ix_i (y := 1) (by decide) ?_
  refine va_sld hx hb hX hbl hbA hS (in_lit (by decide)) dL_law_1692 ?_
  refine ro_calli (va_runV (As := [.int (xs (1 : Int32).toNatClampNeg)]) (rest := []) ⟨hx, hb, hml, hown, hts⟩ (c_X10_freed l G ct a rr (xs (1 : Int32).toNatClampNeg)) (cwV 1 hts gL_law_X10_freed rfl rfl rfl (by decide +kernel) ⟨Nat.le_of_ble_eq_true rfl, Nat.le_of_ble_eq_true rfl⟩) (ro_preV 10 0 hK hPx rfl rfl) rfl rfl hl.1 rfl (lv_room (Nat.le_of_ble_eq_true rfl)) dL_law_1693 ⟨Nat.le_of_ble_eq_true rfl, Nat.le_of_ble_eq_true rfl⟩) hS hPm (fun r1 H locs wr1 hPm hS => ?_)
  refine lv_aload_n hx hb dL_law_1696 rfl (lv_at hl 1 rfl) ?_
  refine lv_aload_n hx hb dL_law_1697 rfl (lv_at hl 3 rfl) ?_
  refine lv_iload_n hx hb dL_law_1698 rfl (lv_at hl 0 rfl) ?_
  refine lv_iconst (v := 1) hx hb dL_law_1699 (by decide) ?_
  refine lv_iadd hx hb dL_law_1700 ?_
  refine ix_i (y := 1) (by decide) ?_
  refine va_sld hx hb hX hbl hbA hS (in_lit (by decide)) dL_law_1701 ?_
  refine wq_calli (va_runV (As := [.int (xs (1 : Int32).toNatClampNeg)]) (rest := [.int r1]) ⟨hx, hb, hml, hown, hts⟩ (c_X11_freed l G ct bm (xs (1 : Int32).toNatClampNeg)) (cwV 1 hts gL_law_X11_freed rfl rfl rfl (by decide +kernel) ⟨Nat.le_of_ble_eq_true rfl, Nat.le_of_ble_eq_true rfl⟩) (wr_preV 11 0 hK hPm hDm rfl rfl) rfl rfl hl.1 rfl (lv_room (Nat.le_of_ble_eq_true rfl)) dL_law_1702 ⟨Nat.le_of_ble_eq_true rfl, Nat.le_of_ble_eq_true rfl⟩) hS (aset_D hDm) (fun r2 H locs wr2 hk hS => ?_)
  refine lv_icmp_eq (tgt := 2133) hx hb dL_law_1705 (by decide) (fun c_1 => ?_) (fun c_1 => ?_)
  · exact law_next l C1 rfl H locs hS ls (lv_sub hl [0, 3] rfl)
  · exact absurd (wr1.trans wr2.symm) c_1
set_option maxHeartbeats 4000000 in
set_option maxRecDepth 100000 in
theorem law_c54 {p : Program} {e : Env} {s : State} {m : MethodId} {below : List Frame} {meth : Method} {c : Code} (l : Launch) {b L : Nat} {xs : Nat → Int32} (C0 : lw_At p s m meth c b L xs) (h6 : L = 6) (G : va_G) (ct : Nat → ClassId) (a rr bm : Nat → Nat) (H : Heap) (locs : List Loc) (hK : KK G ct s) (hPx : va_P G vwCl (xF a rr ct) H) (hPm : va_P G vwCl (mF bm ct) H) (hDx : va_D (fun q : Nat => s.heap.size ≤ q) (xF a rr ct)) (hDm : va_D (fun q : Nat => s.heap.size ≤ q) (mF bm ct)) (hap : ∀ q, aset (xF a rr ct) q → ¬ aset (mF bm ct) q) (hS : va_S (fun q : Nat => s.heap.size ≤ q) s.heap H locs) (ls : Array Slot) (hl : lv_has ls 4 [(3, .int 0), (2, .ref (bm 0)), (1, .ref (a 0)), (0, .ref b)]) : W p l e room_1 s m #[Value.ref b] below meth c H locs 110 5410 (lw_Z below #[Value.ref b] s) (F0 m 1710 ls []) := by
  have C1 := C0
  obtain ⟨hx, hb, hr, hml, hown, hts, hX, hbl, hlocks, hgv⟩ := C0
  subst h6
  have hown : s.vm.findClass RL = some m.cls := hown
  have hts : ∀ z ∈ wsL_law, z.before #[Value.ref b] s = true := fun z h => hts z (wsL_law_in z h)
  have hbA : ¬ (fun q : Nat => s.heap.size ≤ q) b := Nat.not_le.mpr hbl
  refine lv_aload_n hx hb dL_law_1710 rfl (lv_at hl 2 rfl) ?_
  refine lv_aload_n hx hb dL_law_1711 rfl (lv_at hl 3 rfl) ?_
  refine lv_iload_n hx hb dL_law_1712 rfl (lv_at hl 0 rfl) ?_
  refine lv_iconst (v := 1) hx hb dL_law_1713 (by decide) ?_
  refine lv_iadd hx hb dL_law_1714 ?_
  refine ix_i (y := 1) (by decide) ?_
  refine va_sld hx hb hX hbl hbA hS (in_lit (by decide)) dL_law_1715 ?_
  refine lv_aload_n hx hb dL_law_1716 rfl (lv_at hl 3 rfl) ?_
  refine lv_iload_n hx hb dL_law_1717 rfl (lv_at hl 0 rfl) ?_
  refine lv_iconst (v := 2) hx hb dL_law_1718 (by decide) ?_
  refine lv_iadd hx hb dL_law_1719 ?_
  refine ix_i (y := 2) (by decide) ?_
  refine va_sld hx hb hX hbl hbA hS (in_lit (by decide)) dL_law_1720 ?_
  refine ro_calli (va_runV (As := [.int (xs (1 : Int32).toNatClampNeg), .int (xs (2 : Int32).toNatClampNeg)]) (rest := []) ⟨hx, hb, hml, hown, hts⟩ (c_X10_drawn l G ct a rr (xs (1 : Int32).toNatClampNeg) (xs (2 : Int32).toNatClampNeg)) (cwV 2 hts gL_law_X10_drawn rfl rfl rfl (by decide +kernel) ⟨Nat.le_of_ble_eq_true rfl, Nat.le_of_ble_eq_true rfl⟩) (ro_preV 10 0 hK hPx rfl rfl) rfl rfl hl.1 rfl (lv_room (Nat.le_of_ble_eq_true rfl)) dL_law_1721 ⟨Nat.le_of_ble_eq_true rfl, Nat.le_of_ble_eq_true rfl⟩) hS hPm (fun r1 H locs wr1 hPm hS => ?_)
  refine lv_aload_n hx hb dL_law_1724 rfl (lv_at hl 1 rfl) ?_
  refine lv_aload_n hx hb dL_law_1725 rfl (lv_at hl 3 rfl) ?_
  refine lv_iload_n hx hb dL_law_1726 rfl (lv_at hl 0 rfl) ?_
  refine lv_iconst (v := 1) hx hb dL_law_1727 (by decide) ?_
  refine lv_iadd hx hb dL_law_1728 ?_
  refine ix_i (y := 1) (by decide) ?_
  refine va_sld hx hb hX hbl hbA hS (in_lit (by decide)) dL_law_1729 ?_
  refine lv_aload_n hx hb dL_law_1730 rfl (lv_at hl 3 rfl) ?_
  refine lv_iload_n hx hb dL_law_1731 rfl (lv_at hl 0 rfl) ?_
  refine lv_iconst (v := 2) hx hb dL_law_1732 (by decide) ?_
  refine lv_iadd hx hb dL_law_1733 ?_
  refine ix_i (y := 2) (by decide) ?_
  refine va_sld hx hb hX hbl hbA hS (in_lit (by decide)) dL_law_1734 ?_
  refine wq_calli (va_runV (As := [.int (xs (1 : Int32).toNatClampNeg), .int (xs (2 : Int32).toNatClampNeg)]) (rest := [.int r1]) ⟨hx, hb, hml, hown, hts⟩ (c_X11_drawn l G ct bm (xs (1 : Int32).toNatClampNeg) (xs (2 : Int32).toNatClampNeg)) (cwV 2 hts gL_law_X11_drawn rfl rfl rfl (by decide +kernel) ⟨Nat.le_of_ble_eq_true rfl, Nat.le_of_ble_eq_true rfl⟩) (wr_preV 11 0 hK hPm hDm rfl rfl) rfl rfl hl.1 rfl (lv_room (Nat.le_of_ble_eq_true rfl)) dL_law_1735 ⟨Nat.le_of_ble_eq_true rfl, Nat.le_of_ble_eq_true rfl⟩) hS (aset_D hDm) (fun r2 H locs wr2 hk hS => ?_)
  refine lv_icmp_eq (tgt := 2133) hx hb dL_law_1738 (by decide) (fun c_1 => ?_) (fun c_1 => ?_)
  · exact law_next l C1 rfl H locs hS ls (lv_sub hl [0, 3] rfl)
  · exact absurd (wr1.trans wr2.symm) c_1