theorem dL_law_1368 : decode cL_law 1368 = .ok (.aload_n 1, 1) := by decide +kernel
theorem dL_law_1369 : decode cL_law 1369 = .ok (.aload_n 0, 1) := by decide +kernel
theorem dL_law_1370 : decode cL_law 1370 = .ok (.iload_n 3, 1) := by decide +kernel
theorem dL_law_1371 : decode cL_law 1371 = .ok (.iconst 1, 1) := by decide +kernel
theorem dL_law_1372 : decode cL_law 1372 = .ok (.iadd, 1) := by decide +kernel
theorem dL_law_1373 : decode cL_law 1373 = .ok (.iaload, 1) := by decide +kernel
theorem dL_law_1374 : decode cL_law 1374 = .ok (.aload_n 0, 1) := by decide +kernel
theorem dL_law_1375 : decode cL_law 1375 = .ok (.iload_n 3, 1) := by decide +kernel
theorem dL_law_1376 : decode cL_law 1376 = .ok (.iconst 2, 1) := by decide +kernel
theorem dL_law_1377 : decode cL_law 1377 = .ok (.iadd, 1) := by decide +kernel
theorem dL_law_1378 : decode cL_law 1378 = .ok (.iaload, 1) := by decide +kernel
set_option maxRecDepth 20000 in
theorem ggL_law_X10_lays : GoodIn wsL_law wsX10_lays := goodIn_s _ [(52, 19), (1, 0), (1, 11), (51, 13), (51, 14), (51, 15), (0, 2), (51, 16), (22, 2), (22, 3), (22, 4), (22, 5), (22, 0), (22, 6), (22, 7), (13, 8), (13, 9), (1, 15), (13, 10), (13, 11), (22, 16), (22, 17), (22, 18), (22, 19), (22, 21), (22, 22), (22, 23), (23, 0), (23, 1), (13, 18), (13, 19), (13, 20), (3, 9), (13, 7), (52, 20), (52, 21), (52, 22), (2, 16), (52, 23), (3, 0), (8, 11), (16, 19), (16, 20), (53, 0), (53, 1), (53, 2), (53, 3), (53, 4), (8, 23), (9, 0), (9, 1), (53, 5), (53, 6), (53, 7), (53, 8), (51, 21), (22, 9), (22, 10), (22, 11), (3, 2), (16, 2), (70, 0), (70, 1), (70, 2), (70, 3), (70, 4), (70, 5), (70, 6), (70, 7), (70, 8), (70, 9), (70, 10), (74, 0), (74, 1), (74, 2), (74, 3), (76, 0), (76, 1), (76, 2), (76, 3), (76, 4), (76, 5), (76, 6), (76, 7), (77, 0), (77, 1), (81, 0), (81, 1), (81, 2), (81, 3), (81, 4), (81, 5), (81, 6)] (by rfl) (by decide +kernel)
set_option maxRecDepth 20000 in
theorem gL_law_X10_lays : GoodIn wsL_law (wsV RL 179 RX10 yX10_lays wsX10_lays) := goodIn_app (goodIn_s _ [(54, 2), (52, 17), (52, 18), (0, 2)] (by rfl) (by decide +kernel)) ggL_law_X10_lays
theorem dL_law_1379 : decode cL_law 1379 = .ok (.invokevirtual 179, 3) := by decide +kernel
theorem dL_law_1382 : decode cL_law 1382 = .ok (.pop, 1) := by decide +kernel
theorem dL_law_1383 : decode cL_law 1383 = .ok (.aload_n 2, 1) := by decide +kernel
theorem dL_law_1384 : decode cL_law 1384 = .ok (.aload_n 0, 1) := by decide +kernel
theorem dL_law_1385 : decode cL_law 1385 = .ok (.iload_n 3, 1) := by decide +kernel
theorem dL_law_1386 : decode cL_law 1386 = .ok (.iconst 1, 1) := by decide +kernel
theorem dL_law_1387 : decode cL_law 1387 = .ok (.iadd, 1) := by decide +kernel
theorem dL_law_1388 : decode cL_law 1388 = .ok (.iaload, 1) := by decide +kernel
theorem dL_law_1389 : decode cL_law 1389 = .ok (.aload_n 0, 1) := by decide +kernel
theorem dL_law_1390 : decode cL_law 1390 = .ok (.iload_n 3, 1) := by decide +kernel
theorem dL_law_1391 : decode cL_law 1391 = .ok (.iconst 2, 1) := by decide +kernel
theorem dL_law_1392 : decode cL_law 1392 = .ok (.iadd, 1) := by decide +kernel
theorem dL_law_1393 : decode cL_law 1393 = .ok (.iaload, 1) := by decide +kernel
set_option maxRecDepth 20000 in
theorem ggL_law_X11_lays : GoodIn wsL_law wsX11_lays := goodIn_s _ [(54, 6), (6, 20), (52, 5), (52, 6), (52, 7), (0, 5), (52, 8), (28, 7), (28, 8), (28, 9), (28, 10), (23, 21), (23, 22), (23, 23), (24, 0), (5, 17), (7, 14), (7, 15), (7, 16), (24, 1), (24, 2), (24, 3), (24, 4), (5, 19), (24, 5), (24, 6), (24, 7), (24, 8), (5, 21), (5, 22), (5, 23), (23, 20), (24, 9), (24, 10), (24, 11), (24, 12), (24, 13), (24, 14), (24, 15), (5, 18), (24, 16), (24, 17), (24, 18), (24, 19), (24, 20), (24, 21), (24, 22), (24, 23), (25, 0), (25, 1), (25, 2), (25, 3), (25, 4), (25, 5), (25, 6), (25, 7), (25, 8), (25, 9), (25, 10), (25, 11), (25, 12), (25, 13), (25, 14), (53, 14), (53, 15), (53, 16), (53, 17), (53, 18), (53, 19), (53, 20), (53, 21), (53, 22), (53, 23), (54, 0), (54, 1), (71, 0), (71, 1), (71, 2), (71, 3), (71, 4), (71, 5), (71, 6), (71, 7), (71, 8), (71, 9), (71, 10), (71, 11), (71, 12), (71, 13), (71, 14), (71, 15), (71, 16), (71, 17), (71, 18), (71, 19), (71, 20), (71, 21), (71, 22), (71, 23), (71, 24), (71, 25), (71, 26), (71, 27), (71, 28), (71, 29), (71, 30)] (by rfl) (by decide +kernel)
set_option maxRecDepth 20000 in
theorem gL_law_X11_lays : GoodIn wsL_law (wsV RL 182 RX11 yX11_lays wsX11_lays) := goodIn_app (goodIn_s _ [(54, 3), (54, 4), (54, 5), (0, 5)] (by rfl) (by decide +kernel)) ggL_law_X11_lays
theorem dL_law_1394 : decode cL_law 1394 = .ok (.invokevirtual 182, 3) := by decide +kernel
theorem dL_law_1397 : decode cL_law 1397 = .ok (.pop, 1) := by decide +kernel
theorem dL_law_1398 : decode cL_law 1398 = .ok (.goto 735, 3) := by decide +kernel
theorem dL_law_1401 : decode cL_law 1401 = .ok (.aload_n 1, 1) := by decide +kernel
theorem dL_law_1402 : decode cL_law 1402 = .ok (.aload_n 0, 1) := by decide +kernel
theorem dL_law_1403 : decode cL_law 1403 = .ok (.iload_n 3, 1) := by decide +kernel
theorem dL_law_1404 : decode cL_law 1404 = .ok (.iconst 1, 1) := by decide +kernel
theorem dL_law_1405 : decode cL_law 1405 = .ok (.iadd, 1) := by decide +kernel
theorem dL_law_1406 : decode cL_law 1406 = .ok (.iaload, 1) := by decide +kernel
theorem dL_law_1407 : decode cL_law 1407 = .ok (.aload_n 0, 1) := by decide +kernel
theorem dL_law_1408 : decode cL_law 1408 = .ok (.iload_n 3, 1) := by decide +kernel
theorem dL_law_1409 : decode cL_law 1409 = .ok (.iconst 2, 1) := by decide +kernel
theorem dL_law_1410 : decode cL_law 1410 = .ok (.iadd, 1) := by decide +kernel
theorem dL_law_1411 : decode cL_law 1411 = .ok (.iaload, 1) := by decide +kernel
set_option maxRecDepth 20000 in
theorem ggL_law_X10_reply : GoodIn wsL_law wsX10_reply := goodIn_s _ [(54, 10), (1, 0), (1, 11), (52, 16), (52, 17), (52, 18), (0, 2), (52, 19), (51, 13), (51, 14), (51, 15), (51, 16), (22, 2), (22, 3), (22, 4), (22, 5), (22, 0), (22, 6), (22, 7), (13, 8), (13, 9), (1, 15), (13, 10), (13, 11), (22, 16), (22, 17), (22, 18), (22, 19), (22, 21), (22, 22), (22, 23), (23, 0), (23, 1), (13, 18), (13, 19), (13, 20), (3, 9), (13, 7), (52, 20), (52, 21), (52, 22), (2, 16), (52, 23), (3, 0), (8, 11), (16, 19), (16, 20), (53, 0), (53, 1), (53, 2), (53, 3), (53, 4), (8, 23), (9, 0), (9, 1), (53, 5), (53, 6), (53, 7), (53, 8), (51, 21), (22, 9), (22, 10), (22, 11), (3, 2), (16, 2), (54, 11), (54, 12), (54, 13), (54, 14), (70, 0), (70, 1), (70, 2), (70, 3), (70, 4), (70, 5), (70, 6), (70, 7), (70, 8), (70, 9), (70, 10), (74, 0), (74, 1), (74, 2), (74, 3), (76, 0), (76, 1), (76, 2), (76, 3), (76, 4), (76, 5), (76, 6), (76, 7), (77, 0), (77, 1), (81, 0), (81, 1), (81, 2), (81, 3), (81, 4), (81, 5), (81, 6)] (by rfl) (by decide +kernel)
set_option maxRecDepth 20000 in
theorem gL_law_X10_reply : GoodIn wsL_law (wsV RL 183 RX10 yX10_reply wsX10_reply) := goodIn_app (goodIn_s _ [(54, 7), (54, 8), (54, 9), (0, 2)] (by rfl) (by decide +kernel)) ggL_law_X10_reply
theorem dL_law_1412 : decode cL_law 1412 = .ok (.invokevirtual 183, 3) := by decide +kernel
theorem dL_law_1415 : decode cL_law 1415 = .ok (.pop, 1) := by decide +kernel
theorem dL_law_1416 : decode cL_law 1416 = .ok (.aload_n 2, 1) := by decide +kernel
theorem dL_law_1417 : decode cL_law 1417 = .ok (.aload_n 0, 1) := by decide +kernel
theorem dL_law_1418 : decode cL_law 1418 = .ok (.iload_n 3, 1) := by decide +kernel
theorem dL_law_1419 : decode cL_law 1419 = .ok (.iconst 1, 1) := by decide +kernel
theorem dL_law_1420 : decode cL_law 1420 = .ok (.iadd, 1) := by decide +kernel
theorem dL_law_1421 : decode cL_law 1421 = .ok (.iaload, 1) := by decide +kernel
theorem dL_law_1422 : decode cL_law 1422 = .ok (.aload_n 0, 1) := by decide +kernel
theorem dL_law_1423 : decode cL_law 1423 = .ok (.iload_n 3, 1) := by decide +kernel
theorem dL_law_1424 : decode cL_law 1424 = .ok (.iconst 2, 1) := by decide +kernel
theorem dL_law_1425 : decode cL_law 1425 = .ok (.iadd, 1) := by decide +kernel
theorem dL_law_1426 : decode cL_law 1426 = .ok (.iaload, 1) := by decide +kernel
set_option maxRecDepth 20000 in
theorem ggL_law_X11_reply : GoodIn wsL_law wsX11_reply := goodIn_s _ [(54, 18), (6, 20), (52, 5), (52, 6), (52, 7), (0, 5), (52, 8), (28, 7), (28, 8), (28, 9), (28, 10), (23, 21), (23, 22), (23, 23), (24, 0), (5, 17), (7, 14), (7, 15), (7, 16), (24, 1), (24, 2), (24, 3), (24, 4), (5, 19), (24, 5), (24, 6), (24, 7), (24, 8), (5, 21), (5, 22), (5, 23), (23, 20), (24, 9), (24, 10), (24, 11), (24, 12), (24, 13), (24, 14), (24, 15), (5, 18), (24, 16), (24, 17), (24, 18), (24, 19), (24, 20), (24, 21), (24, 22), (24, 23), (25, 0), (25, 1), (25, 2), (25, 3), (25, 4), (25, 5), (25, 6), (25, 7), (25, 8), (25, 9), (25, 10), (25, 11), (25, 12), (25, 13), (25, 14), (53, 14), (53, 15), (53, 16), (53, 17), (53, 18), (53, 19), (53, 20), (53, 21), (53, 22), (53, 23), (54, 0), (54, 1), (71, 0), (71, 1), (71, 2), (71, 3), (71, 4), (71, 5), (71, 6), (71, 7), (71, 8), (71, 9), (71, 10), (71, 11), (71, 12), (71, 13), (71, 14), (71, 15), (71, 16), (71, 17), (71, 18), (71, 19), (71, 20), (71, 21), (71, 22), (71, 23), (71, 24), (71, 25), (71, 26), (71, 27), (71, 28), (71, 29), (71, 30)] (by rfl) (by decide +kernel)
set_option maxRecDepth 20000 in
theorem gL_law_X11_reply : GoodIn wsL_law (wsV RL 186 RX11 yX11_reply wsX11_reply) := goodIn_app (goodIn_s _ [(54, 15), (54, 16), (54, 17), (0, 5)] (by rfl) (by decide +kernel)) ggL_law_X11_reply
theorem dL_law_1427 : decode cL_law 1427 = .ok (.invokevirtual 186, 3) := by decide +kernel
theorem dL_law_1430 : decode cL_law 1430 = .ok (.pop, 1) := by decide +kernel
theorem dL_law_1431 : decode cL_law 1431 = .ok (.goto 702, 3) := by decide +kernel
theorem dL_law_1434 : decode cL_law 1434 = .ok (.aload_n 1, 1) := by decide +kernel
theorem dL_law_1435 : decode cL_law 1435 = .ok (.aload_n 0, 1) := by decide +kernel
theorem dL_law_1436 : decode cL_law 1436 = .ok (.iload_n 3, 1) := by decide +kernel
theorem dL_law_1437 : decode cL_law 1437 = .ok (.iconst 1, 1) := by decide +kernel
theorem dL_law_1438 : decode cL_law 1438 = .ok (.iadd, 1) := by decide +kernel
theorem dL_law_1439 : decode cL_law 1439 = .ok (.iaload, 1) := by decide +kernel
set_option maxRecDepth 20000 in
theorem ggL_law_X10_firm : GoodIn wsL_law wsX10_firm := goodIn_s _ [(54, 22), (54, 23), (55, 0), (55, 1), (0, 2), (55, 2), (2, 4), (1, 0), (25, 23), (26, 0), (26, 1), (26, 2), (1, 11), (7, 22), (55, 3), (55, 4), (55, 5), (55, 6), (22, 16), (22, 17), (22, 18), (22, 19), (22, 0), (22, 6), (55, 7), (55, 8), (55, 9), (1, 15), (55, 10), (13, 11), (55, 11), (55, 12), (55, 13), (2, 3), (55, 14), (55, 15), (55, 16), (55, 17), (55, 18), (8, 23), (9, 0), (9, 1), (55, 19), (55, 20), (55, 21), (5, 3), (5, 4), (5, 5), (55, 22), (13, 18), (13, 19), (13, 20), (3, 9), (13, 7), (13, 8), (13, 9), (13, 10), (55, 23), (22, 9), (22, 10), (2, 16), (22, 11), (3, 0), (3, 2), (16, 2), (56, 0), (22, 22), (22, 23), (23, 0), (23, 1), (56, 1), (56, 2), (56, 3), (56, 4), (8, 11), (16, 19), (16, 20), (51, 21), (56, 5), (56, 6), (56, 7), (56, 8), (56, 9), (56, 10), (56, 11), (56, 12), (70, 0), (70, 1), (70, 2), (70, 3), (70, 4), (70, 5), (70, 6), (70, 7), (70, 8), (70, 9), (70, 10), (74, 0), (74, 1), (74, 2), (74, 3), (81, 0), (81, 1), (81, 2), (81, 3), (81, 4), (81, 5), (81, 6), (76, 0), (76, 1), (76, 2), (76, 3), (76, 4), (76, 5), (76, 6), (76, 7), (77, 0), (77, 1), (80, 0), (80, 1), (80, 2), (80, 3)] (by rfl) (by decide +kernel)
set_option maxRecDepth 20000 in
theorem gL_law_X10_firm : GoodIn wsL_law (wsV RL 187 RX10 yX10_firm wsX10_firm) := goodIn_app (goodIn_s _ [(54, 19), (54, 20), (54, 21), (0, 2)] (by rfl) (by decide +kernel)) ggL_law_X10_firm
theorem dL_law_1440 : decode cL_law 1440 = .ok (.invokevirtual 187, 3) := by decide +kernel
theorem dL_law_1443 : decode cL_law 1443 = .ok (.pop, 1) := by decide +kernel
theorem dL_law_1444 : decode cL_law 1444 = .ok (.aload_n 2, 1) := by decide +kernel
theorem dL_law_1445 : decode cL_law 1445 = .ok (.aload_n 0, 1) := by decide +kernel
theorem dL_law_1446 : decode cL_law 1446 = .ok (.iload_n 3, 1) := by decide +kernel
theorem dL_law_1447 : decode cL_law 1447 = .ok (.iconst 1, 1) := by decide +kernel
theorem dL_law_1448 : decode cL_law 1448 = .ok (.iadd, 1) := by decide +kernel
theorem dL_law_1449 : decode cL_law 1449 = .ok (.iaload, 1) := by decide +kernel
set_option maxRecDepth 20000 in
theorem ggL_law_X11_firm : GoodIn wsL_law wsX11_firm := goodIn_s _ [(56, 16), (6, 20), (56, 17), (56, 18), (56, 19), (0, 5), (56, 20), (5, 17), (26, 12), (26, 13), (26, 14), (26, 15), (5, 16), (7, 14), (7, 15), (7, 16), (24, 1), (24, 2), (24, 3), (24, 4), (5, 19), (24, 5), (24, 6), (24, 7), (24, 8), (5, 21), (5, 22), (5, 23), (23, 20), (24, 9), (24, 10), (24, 11), (24, 12), (24, 13), (24, 14), (24, 15), (5, 18), (24, 16), (24, 17), (24, 18), (24, 19), (24, 20), (24, 21), (24, 22), (24, 23), (25, 0), (25, 1), (25, 2), (25, 3), (25, 4), (25, 5), (25, 6), (25, 7), (25, 8), (25, 9), (25, 10), (56, 21), (56, 22), (56, 23), (57, 0), (57, 1), (57, 2), (57, 3), (57, 4), (25, 11), (25, 12), (25, 13), (25, 14), (45, 6), (45, 7), (45, 8), (45, 9), (71, 0), (71, 1), (71, 2), (71, 3), (71, 4), (71, 5), (71, 6), (71, 7), (71, 8), (71, 9), (71, 10), (71, 11), (71, 12), (71, 13), (71, 14), (71, 15), (71, 16), (71, 17), (71, 18), (71, 19), (71, 20), (71, 21), (71, 22), (71, 23), (71, 24), (71, 25), (71, 26), (71, 27), (71, 28), (71, 29), (71, 30)] (by rfl) (by decide +kernel)
set_option maxRecDepth 20000 in
theorem gL_law_X11_firm : GoodIn wsL_law (wsV RL 190 RX11 yX11_firm wsX11_firm) := goodIn_app (goodIn_s _ [(56, 13), (56, 14), (56, 15), (0, 5)] (by rfl) (by decide +kernel)) ggL_law_X11_firm
theorem dL_law_1450 : decode cL_law 1450 = .ok (.invokevirtual 190, 3) := by decide +kernel
theorem dL_law_1453 : decode cL_law 1453 = .ok (.pop, 1) := by decide +kernel
theorem dL_law_1454 : decode cL_law 1454 = .ok (.goto 679, 3) := by decide +kernel
theorem dL_law_1457 : decode cL_law 1457 = .ok (.aload_n 1, 1) := by decide +kernel
set_option maxRecDepth 20000 in
theorem ggL_law_X10_firms : GoodIn wsL_law wsX10_firms := goodIn_s _ [(57, 8), (2, 4), (1, 0), (25, 23), (26, 0), (26, 1), (0, 2), (26, 2), (1, 11), (7, 22), (55, 11), (55, 12), (55, 13), (2, 3), (55, 14), (55, 15), (55, 16), (55, 17), (55, 18), (8, 23), (9, 0), (9, 1), (55, 19), (55, 20), (55, 21), (5, 3), (5, 4), (5, 5), (55, 22), (13, 18), (13, 19), (1, 15), (13, 20), (3, 9), (13, 7), (13, 8), (13, 9), (13, 10), (13, 11), (55, 23), (22, 9), (22, 10), (2, 16), (22, 11), (3, 0), (3, 2), (16, 2), (56, 0), (22, 22), (22, 23), (23, 0), (23, 1), (56, 1), (56, 2), (56, 3), (56, 4), (8, 11), (16, 19), (16, 20), (51, 21), (22, 16), (22, 17), (22, 18), (22, 19), (22, 0), (22, 6), (55, 7), (55, 8), (55, 9), (55, 10), (56, 5), (56, 6), (56, 7), (56, 8), (56, 9), (56, 10), (56, 11), (56, 12), (70, 0), (70, 1), (70, 2), (70, 3), (70, 4), (70, 5), (70, 6), (70, 7), (70, 8), (70, 9), (70, 10), (74, 0), (74, 1), (74, 2), (74, 3), (81, 0), (81, 1), (81, 2), (81, 3), (81, 4), (81, 5), (81, 6), (77, 0), (77, 1), (80, 0), (80, 1), (80, 2), (80, 3), (76, 0), (76, 1), (76, 2), (76, 3), (76, 4), (76, 5), (76, 6), (76, 7)] (by rfl) (by decide +kernel)
set_option maxRecDepth 20000 in
theorem gL_law_X10_firms : GoodIn wsL_law (wsV RL 191 RX10 yX10_firms wsX10_firms) := goodIn_app (goodIn_s _ [(57, 5), (57, 6), (57, 7), (0, 2)] (by rfl) (by decide +kernel)) ggL_law_X10_firms
theorem dL_law_1458 : decode cL_law 1458 = .ok (.invokevirtual 191, 3) := by decide +kernel
theorem dL_law_1461 : decode cL_law 1461 = .ok (.pop, 1) := by decide +kernel
theorem dL_law_1462 : decode cL_law 1462 = .ok (.aload_n 2, 1) := by decide +kernel
set_option maxRecDepth 20000 in
theorem ggL_law_X11_firms : GoodIn wsL_law wsX11_firms := goodIn_s _ [(57, 12), (6, 20), (5, 17), (26, 12), (26, 13), (26, 14), (0, 5), (26, 15), (5, 16), (24, 1), (24, 2), (24, 3), (24, 4), (5, 19), (24, 5), (24, 6), (24, 7), (24, 8), (5, 21), (5, 22), (5, 23), (23, 20), (24, 9), (24, 10), (24, 11), (24, 12), (24, 13), (24, 14), (24, 15), (5, 18), (24, 16), (24, 17), (24, 18), (24, 19), (24, 20), (24, 21), (24, 22), (24, 23), (25, 0), (25, 1), (25, 2), (25, 3), (25, 4), (25, 5), (25, 6), (25, 7), (25, 8), (25, 9), (25, 10), (56, 21), (56, 22), (56, 23), (57, 0), (57, 1), (57, 2), (57, 3), (57, 4), (25, 11), (25, 12), (25, 13), (25, 14), (45, 6), (45, 7), (45, 8), (45, 9), (71, 0), (71, 1), (71, 2), (71, 3), (71, 4), (71, 5), (71, 6), (71, 7), (71, 8), (71, 9), (71, 10), (71, 11), (71, 12), (71, 13), (71, 14), (71, 15), (71, 16), (71, 17), (71, 18), (71, 19), (71, 20), (71, 21), (71, 22), (71, 23), (71, 24), (71, 25), (71, 26), (71, 27), (71, 28), (71, 29), (71, 30)] (by rfl) (by decide +kernel)
set_option maxRecDepth 20000 in
theorem gL_law_X11_firms : GoodIn wsL_law (wsV RL 194 RX11 yX11_firms wsX11_firms) := goodIn_app (goodIn_s _ [(57, 9), (57, 10), (57, 11), (0, 5)] (by rfl) (by decide +kernel)) ggL_law_X11_firms
theorem dL_law_1463 : decode cL_law 1463 = .ok (.invokevirtual 194, 3) := by decide +kernel
theorem dL_law_1466 : decode cL_law 1466 = .ok (.pop, 1) := by decide +kernel
theorem dL_law_1467 : decode cL_law 1467 = .ok (.goto 666, 3) := by decide +kernel
set_option maxHeartbeats 8000000 in
set_option maxRecDepth 100000 in
theorem law_c40 {p : Program} {e : Env} {s : State} {m : MethodId} {below : List Frame} {meth : Method} {c : Code} (l : Launch) {b L : Nat} {xs : Nat → Int32} (C0 : lw_At p s m meth c b L xs) (hL : L ≤ 3072) (k : Nat) (hk6 : k + 6 ≤ L) (G : va_G) (ct : Nat → ClassId) (a rr bm adK adV : Nat → Nat) (v : Nat → Nat → Int32) (f : Nat → Nat → Int32) (g : Nat → Nat → Int64) (v2 : Nat → Nat → Int32) (f2 : Nat → Nat → Int32) (g2 : Nat → Nat → Int64) (H : Heap) (locs : List Loc) (hK : KK G ct s) (hZ : SS adK adV (fun q : Nat => s.heap.size ≤ q) s s.heap) (hD0 : va_D (fun q : Nat => s.heap.size ≤ q) (xW a rr ct (fun _ _ => 0) (fun _ _ => 0) (fun _ _ => 0))) (hE0 : va_D (fun q : Nat => s.heap.size ≤ q) (mW bm ct (fun _ _ => 0) (fun _ _ => 0) (fun _ _ => 0))) (hap0 : wset a rr bm ct) (hIx : XI v f g) (hIm : MI v2 f2 g2) (hR : REL v f g v2 f2 g2) (hPx : va_P G vwCl (xW a rr ct v f g) H) (hPm : va_P G vwCl (mW bm ct v2 f2 g2) H) (hS : va_S (fun q : Nat => s.heap.size ≤ q) s.heap H locs) (ls : Array Slot) (hl : lv_has ls 4 [(3, .int (nI k)), (2, .ref (bm 0)), (1, .ref (a 0)), (0, .ref b)]) (kk : ∀ (v : Nat → Nat → Int32) (f : Nat → Nat → Int32) (g : Nat → Nat → Int64) (v2 : Nat → Nat → Int32) (f2 : Nat → Nat → Int32) (g2 : Nat → Nat → Int64) (H : Heap) (locs : List Loc) (ls : Array Slot), XI v f g → MI v2 f2 g2 → REL v f g v2 f2 g2 → va_P G vwCl (xW a rr ct v f g) H → va_P G vwCl (mW bm ct v2 f2 g2) H → va_S (fun q : Nat => s.heap.size ≤ q) s.heap H locs → lv_has ls 4 [(3, .int (nI k)), (2, .ref (bm 0)), (1, .ref (a 0)), (0, .ref b)] → W p l e room_1 s m #[Value.ref b] below meth c H locs 110 5410 (lw_Z below #[Value.ref b] s) (F0 m 2133 ls [])) : W p l e room_1 s m #[Value.ref b] below meth c H locs 110 5410 (lw_Z below #[Value.ref b] s) (F0 m 1368 ls []) := by
  obtain ⟨hx, hb, hr, hml, hown, hts, hX, hbl, hlocks, hgv⟩ := C0
  have hown : s.vm.findClass RL = some m.cls := hown
  have hts : ∀ z ∈ wsL_law, z.before #[Value.ref b] s = true := fun z h => hts z (wsL_law_in z h)
  have hbA : ¬ (fun q : Nat => s.heap.size ≤ q) b := Nat.not_le.mpr hbl
  have hDx : va_D (fun q : Nat => s.heap.size ≤ q) (xW a rr ct v f g) := hD0.ad (xW_ad ..)
  have hDm : va_D (fun q : Nat => s.heap.size ≤ q) (mW bm ct v2 f2 g2) := hE0.ad (mW_ad ..)
  have hap : ∀ q, aset (xW a rr ct v f g) q → ¬ aset (mW bm ct v2 f2 g2) q := fun q h1 h2 => hap0 q (aset_ad (xW_ad ..) h1) (aset_ad (mW_ad ..) h2)
  refine lv_aload_n hx hb dL_law_1368 rfl (lv_at hl 2 rfl) ?_
  refine lv_aload_n hx hb dL_law_1369 rfl (lv_at hl 3 rfl) ?_
  refine lv_iload_n hx hb dL_law_1370 rfl (lv_at hl 0 rfl) ?_
  refine lv_iconst (v := 1) hx hb dL_law_1371 (by decide) ?_
  refine lv_iadd hx hb dL_law_1372 ?_
  refine ix_i (y := nI (k + 1)) (nI_add k 1) ?_
  refine va_sld hx hb hX hbl hbA hS (vp_in_nI (n := k + 1) (by omega) (by omega)) dL_law_1373 ?_
  refine lv_aload_n hx hb dL_law_1374 rfl (lv_at hl 3 rfl) ?_
  refine lv_iload_n hx hb dL_law_1375 rfl (lv_at hl 0 rfl) ?_
  refine lv_iconst (v := 2) hx hb dL_law_1376 (by decide) ?_
  refine lv_iadd hx hb dL_law_1377 ?_
  refine ix_i (y := nI (k + 2)) (nI_add k 2) ?_
  refine va_sld hx hb hX hbl hbA hS (vp_in_nI (n := k + 2) (by omega) (by omega)) dL_law_1378 ?_
  refine ro_calli (va_runV (As := [.int (xs (nI (k + 1)).toNatClampNeg), .int (xs (nI (k + 2)).toNatClampNeg)]) (rest := []) ⟨hx, hb, hml, hown, hts⟩ (a_X10_lays l G ct (a 0) (a 1) (a 3) (a 11) (a 25) (a 68) (a 69) (a 77) (a 82) (a 84) (a 88) (a 91) (a 12) (a 19) (a 24) (v 11 3) (a 13) (a 15) (a 16) (a 17) (a 18) (v 12 5) (v 12 6) (a 14) (v 13 1) (f 15) (a 20) (a 22) (a 23) (v 19 4) (v 19 5) (v 19 6) (v 19 7) (a 21) (v 20 1) (f 21) (xs (nI (k + 1)).toNatClampNeg) (xs (nI (k + 2)).toNatClampNeg) hIx.2.2.1 hIx.2.2.2.1) (cwV 2 hts gL_law_X10_lays rfl rfl rfl (by decide +kernel) ⟨Nat.le_of_ble_eq_true rfl, Nat.le_of_ble_eq_true rfl⟩) (ro_preV 10 0 hK (hPx.sub [0, 11, 12, 13, 15, 19, 20, 21] rfl) rfl rfl) rfl rfl hl.1 rfl (lv_room (Nat.le_of_ble_eq_true rfl)) dL_law_1379 ⟨Nat.le_of_ble_eq_true rfl, Nat.le_of_ble_eq_true rfl⟩) hS (hPx.app hPm) (fun r1 H locs wr1 hPP hS => ?_)
  have hPx := va_P.left hPP
  have hPm := va_P.right hPP
  obtain ⟨r1p0, r1p1, r1p2, r1p3, r1p4, r1p5, r1p6, r1p7, r1p8, r1p9, -⟩ := wr1
  refine lv_pop hx hb dL_law_1382 rfl ?_
  refine lv_aload_n hx hb dL_law_1383 rfl (lv_at hl 1 rfl) ?_
  refine lv_aload_n hx hb dL_law_1384 rfl (lv_at hl 3 rfl) ?_
  refine lv_iload_n hx hb dL_law_1385 rfl (lv_at hl 0 rfl) ?_
  refine lv_iconst (v := 1) hx hb dL_law_1386 (by decide) ?_
  refine lv_iadd hx hb dL_law_1387 ?_
  refine ix_i (y := nI (k + 1)) (nI_add k 1) ?_
  refine va_sld hx hb hX hbl hbA hS (vp_in_nI (n := k + 1) (by omega) (by omega)) dL_law_1388 ?_
  refine lv_aload_n hx hb dL_law_1389 rfl (lv_at hl 3 rfl) ?_
  refine lv_iload_n hx hb dL_law_1390 rfl (lv_at hl 0 rfl) ?_
  refine lv_iconst (v := 2) hx hb dL_law_1391 (by decide) ?_
  refine lv_iadd hx hb dL_law_1392 ?_
  refine ix_i (y := nI (k + 2)) (nI_add k 2) ?_
  refine va_sld hx hb hX hbl hbA hS (vp_in_nI (n := k + 2) (by omega) (by omega)) dL_law_1393 ?_
  refine lw_callx (w1 := (fun u : SU => [((bm 0), .inr (11, [.int (u.1 0), .ref (bm 1), .ref (bm 2), .ref (bm 3), .ref (bm 4), .ref (bm 5), .int (v2 0 6), .int (v2 0 7), .int (v2 0 8), .int (v2 0 9), .int (v2 0 10), .long (g2 0 11), .int (v2 0 12), .int (v2 0 13), .int (v2 0 14), .int (v2 0 15), .ref (bm 6), .ref (bm 7), .ref (bm 8), .ref (bm 9), .ref (bm 10), .ref (bm 11), .ref (bm 12), .ref (bm 13), .int (u.1 1), .int (u.1 2), .int (u.1 3), .int (u.1 4), .ref (bm 14), .int (v2 0 29), .int (v2 0 30)])), ((bm 7), .inl (ct 0, 15, .inl (f2 7))), ((bm 8), .inl (ct 0, 200, .inl (f2 8))), ((bm 9), .inl (ct 0, 1000, .inl (f2 9))), ((bm 11), .inl (ct 0, 8, .inl (u.2.1 0))), ((bm 12), .inl (ct 0, 8, .inl (u.2.1 1))), ((bm 13), .inl (ct 0, 8, .inl (u.2.1 2)))])) (va_runV (As := [.int (xs (nI (k + 1)).toNatClampNeg), .int (xs (nI (k + 2)).toNatClampNeg)]) (rest := []) ⟨hx, hb, hml, hown, hts⟩ (a_X11_lays l G ct (bm 0) (v2 0 0) (bm 1) (bm 2) (bm 3) (bm 4) (bm 5) (v2 0 6) (v2 0 7) (v2 0 8) (v2 0 9) (v2 0 10) (g2 0 11) (v2 0 12) (v2 0 13) (v2 0 14) (v2 0 15) (bm 6) (bm 7) (bm 8) (bm 9) (bm 10) (bm 11) (bm 12) (bm 13) (v2 0 24) (v2 0 25) (v2 0 26) (v2 0 27) (bm 14) (v2 0 29) (v2 0 30) (f2 7) (f2 8) (f2 9) (f2 11) (f2 12) (f2 13) (xs (nI (k + 1)).toNatClampNeg) (xs (nI (k + 2)).toNatClampNeg) hIm.2.1 hIm.2.2.1 hIm.2.2.2.1 hIm.2.2.2.2.1 hIm.2.2.2.2.2.1 hIm.2.2.2.2.2.2.1) (cwV 2 hts gL_law_X11_lays rfl rfl rfl (by decide +kernel) ⟨Nat.le_of_ble_eq_true rfl, Nat.le_of_ble_eq_true rfl⟩) (wr_preV 11 0 hK (hPm.sub [0, 7, 8, 9, 11, 12, 13] rfl) (hDm.sub [0, 7, 8, 9, 11, 12, 13] (by decide) rfl) rfl rfl) rfl rfl hl.1 rfl (lv_room (Nat.le_of_ble_eq_true rfl)) dL_law_1394 ⟨Nat.le_of_ble_eq_true rfl, Nat.le_of_ble_eq_true rfl⟩) hS hPm hDm hPx (fun q h1 h2 => hap q h2 h1) [0, 7, 8, 9, 11, 12, 13] rfl (fun r2 u2 H locs wr2 hPx hF hS => ?_)
  obtain ⟨r2p0, r2p1, r2p2, r2p3, r2p4, r2p5, r2p6, r2p7, -⟩ := wr2
  have hPm : va_P G vwCl (mW bm ct (uv v2 [(0, 0, u2.1 0), (0, 24, u2.1 1), (0, 25, u2.1 2), (0, 26, u2.1 3), (0, 27, u2.1 4)]) (uf f2 [(11, u2.2.1 0), (12, u2.2.1 1), (13, u2.2.1 2)]) g2) H := hF (mW bm ct (uv v2 [(0, 0, u2.1 0), (0, 24, u2.1 1), (0, 25, u2.1 2), (0, 26, u2.1 3), (0, 27, u2.1 4)]) (uf f2 [(11, u2.2.1 0), (12, u2.2.1 1), (13, u2.2.1 2)]) g2) rfl (fun k9 hk9 => mW_same bm ct v2 (uv v2 [(0, 0, u2.1 0), (0, 24, u2.1 1), (0, 25, u2.1 2), (0, 26, u2.1 3), (0, 27, u2.1 4)]) f2 (uf f2 [(11, u2.2.1 0), (12, u2.2.1 1), (13, u2.2.1 2)]) g2 g2 k9 (uv_st hk9 (by rfl)) (uf_st hk9 (by rfl)) rfl)
  have hIm : MI (uv v2 [(0, 0, u2.1 0), (0, 24, u2.1 1), (0, 25, u2.1 2), (0, 26, u2.1 3), (0, 27, u2.1 4)]) (uf f2 [(11, u2.2.1 0), (12, u2.2.1 1), (13, u2.2.1 2)]) g2 := ⟨hIm.1, hIm.2.1, hIm.2.2.1, hIm.2.2.2.1, hIm.2.2.2.2.1, r2p5, r2p6, trivial⟩
  refine lv_pop hx hb dL_law_1397 rfl ?_
  refine lv_goto (tgt := 2133) hx hb dL_law_1398 (by decide) ?_
  exact kk v f g (uv v2 [(0, 0, u2.1 0), (0, 24, u2.1 1), (0, 25, u2.1 2), (0, 26, u2.1 3), (0, 27, u2.1 4)]) (uf f2 [(11, u2.2.1 0), (12, u2.2.1 1), (13, u2.2.1 2)]) g2 H locs ls hIx hIm hR hPx hPm hS hl
set_option maxHeartbeats 8000000 in
set_option maxRecDepth 100000 in
theorem law_c41 {p : Program} {e : Env} {s : State} {m : MethodId} {below : List Frame} {meth : Method} {c : Code} (l : Launch) {b L : Nat} {xs : Nat → Int32} (C0 : lw_At p s m meth c b L xs) (hL : L ≤ 3072) (k : Nat) (hk6 : k + 6 ≤ L) (G : va_G) (ct : Nat → ClassId) (a rr bm adK adV : Nat → Nat) (v : Nat → Nat → Int32) (f : Nat → Nat → Int32) (g : Nat → Nat → Int64) (v2 : Nat → Nat → Int32) (f2 : Nat → Nat → Int32) (g2 : Nat → Nat → Int64) (H : Heap) (locs : List Loc) (hK : KK G ct s) (hZ : SS adK adV (fun q : Nat => s.heap.size ≤ q) s s.heap) (hD0 : va_D (fun q : Nat => s.heap.size ≤ q) (xW a rr ct (fun _ _ => 0) (fun _ _ => 0) (fun _ _ => 0))) (hE0 : va_D (fun q : Nat => s.heap.size ≤ q) (mW bm ct (fun _ _ => 0) (fun _ _ => 0) (fun _ _ => 0))) (hap0 : wset a rr bm ct) (hIx : XI v f g) (hIm : MI v2 f2 g2) (hR : REL v f g v2 f2 g2) (hPx : va_P G vwCl (xW a rr ct v f g) H) (hPm : va_P G vwCl (mW bm ct v2 f2 g2) H) (hS : va_S (fun q : Nat => s.heap.size ≤ q) s.heap H locs) (ls : Array Slot) (hl : lv_has ls 4 [(3, .int (nI k)), (2, .ref (bm 0)), (1, .ref (a 0)), (0, .ref b)]) (kk : ∀ (v : Nat → Nat → Int32) (f : Nat → Nat → Int32) (g : Nat → Nat → Int64) (v2 : Nat → Nat → Int32) (f2 : Nat → Nat → Int32) (g2 : Nat → Nat → Int64) (H : Heap) (locs : List Loc) (ls : Array Slot), XI v f g → MI v2 f2 g2 → REL v f g v2 f2 g2 → va_P G vwCl (xW a rr ct v f g) H → va_P G vwCl (mW bm ct v2 f2 g2) H → va_S (fun q : Nat => s.heap.size ≤ q) s.heap H locs → lv_has ls 4 [(3, .int (nI k)), (2, .ref (bm 0)), (1, .ref (a 0)), (0, .ref b)] → W p l e room_1 s m #[Value.ref b] below meth c H locs 110 5410 (lw_Z below #[Value.ref b] s) (F0 m 2133 ls [])) : W p l e room_1 s m #[Value.ref b] below meth c H locs 110 5410 (lw_Z below #[Value.ref b] s) (F0 m 1401 ls []) := by
  obtain ⟨hx, hb, hr, hml, hown, hts, hX, hbl, hlocks, hgv⟩ := C0
  have hown : s.vm.findClass RL = some m.cls := hown
  have hts : ∀ z ∈ wsL_law, z.before #[Value.ref b] s = true := fun z h => hts z (wsL_law_in z h)
  have hbA : ¬ (fun q : Nat => s.heap.size ≤ q) b := Nat.not_le.mpr hbl
  have hDx : va_D (fun q : Nat => s.heap.size ≤ q) (xW a rr ct v f g) := hD0.ad (xW_ad ..)
  have hDm : va_D (fun q : Nat => s.heap.size ≤ q) (mW bm ct v2 f2 g2) := hE0.ad (mW_ad ..)
  have hap : ∀ q, aset (xW a rr ct v f g) q → ¬ aset (mW bm ct v2 f2 g2) q := fun q h1 h2 => hap0 q (aset_ad (xW_ad ..) h1) (aset_ad (mW_ad ..) h2)
  refine lv_aload_n hx hb dL_law_1401 rfl (lv_at hl 2 rfl) ?_
  refine lv_aload_n hx hb dL_law_1402 rfl (lv_at hl 3 rfl) ?_
  refine lv_iload_n hx hb dL_law_1403 rfl (lv_at hl 0 rfl) ?_
  refine lv_iconst (v := 1) hx hb dL_law_1404 (by decide) ?_
  refine lv_iadd hx hb dL_law_1405 ?_
  refine ix_i (y := nI (k + 1)) (nI_add k 1) ?_
  refine va_sld hx hb hX hbl hbA hS (vp_in_nI (n := k + 1) (by omega) (by omega)) dL_law_1406 ?_
  refine lv_aload_n hx hb dL_law_1407 rfl (lv_at hl 3 rfl) ?_
  refine lv_iload_n hx hb dL_law_1408 rfl (lv_at hl 0 rfl) ?_
  refine lv_iconst (v := 2) hx hb dL_law_1409 (by decide) ?_
  refine lv_iadd hx hb dL_law_1410 ?_
  refine ix_i (y := nI (k + 2)) (nI_add k 2) ?_
  refine va_sld hx hb hX hbl hbA hS (vp_in_nI (n := k + 2) (by omega) (by omega)) dL_law_1411 ?_
  refine ro_calli (va_runV (As := [.int (xs (nI (k + 1)).toNatClampNeg), .int (xs (nI (k + 2)).toNatClampNeg)]) (rest := []) ⟨hx, hb, hml, hown, hts⟩ (a_X10_reply l G ct (a 0) (a 1) (a 3) (a 11) (a 25) (a 68) (a 69) (a 77) (a 82) (a 84) (a 88) (a 91) (a 12) (a 19) (a 24) (v 11 3) (a 13) (a 15) (a 16) (a 17) (a 18) (v 12 5) (v 12 6) (a 14) (v 13 1) (f 15) (a 20) (a 22) (a 23) (v 19 4) (v 19 5) (v 19 6) (v 19 7) (a 21) (v 20 1) (f 21) (xs (nI (k + 1)).toNatClampNeg) (xs (nI (k + 2)).toNatClampNeg) hIx.2.2.1 hIx.2.2.2.1) (cwV 2 hts gL_law_X10_reply rfl rfl rfl (by decide +kernel) ⟨Nat.le_of_ble_eq_true rfl, Nat.le_of_ble_eq_true rfl⟩) (ro_preV 10 0 hK (hPx.sub [0, 11, 12, 13, 15, 19, 20, 21] rfl) rfl rfl) rfl rfl hl.1 rfl (lv_room (Nat.le_of_ble_eq_true rfl)) dL_law_1412 ⟨Nat.le_of_ble_eq_true rfl, Nat.le_of_ble_eq_true rfl⟩) hS (hPx.app hPm) (fun r1 H locs wr1 hPP hS => ?_)
  have hPx := va_P.left hPP
  have hPm := va_P.right hPP
  obtain ⟨r1p0, r1p1, r1p2, r1p3, r1p4, r1p5, r1p6, r1p7, r1p8, r1p9, r1p10, -⟩ := wr1
  refine lv_pop hx hb dL_law_1415 rfl ?_
  refine lv_aload_n hx hb dL_law_1416 rfl (lv_at hl 1 rfl) ?_
  refine lv_aload_n hx hb dL_law_1417 rfl (lv_at hl 3 rfl) ?_
  refine lv_iload_n hx hb dL_law_1418 rfl (lv_at hl 0 rfl) ?_
  refine lv_iconst (v := 1) hx hb dL_law_1419 (by decide) ?_
  refine lv_iadd hx hb dL_law_1420 ?_
  refine ix_i (y := nI (k + 1)) (nI_add k 1) ?_
  refine va_sld hx hb hX hbl hbA hS (vp_in_nI (n := k + 1) (by omega) (by omega)) dL_law_1421 ?_
  refine lv_aload_n hx hb dL_law_1422 rfl (lv_at hl 3 rfl) ?_
  refine lv_iload_n hx hb dL_law_1423 rfl (lv_at hl 0 rfl) ?_
  refine lv_iconst (v := 2) hx hb dL_law_1424 (by decide) ?_
  refine lv_iadd hx hb dL_law_1425 ?_
  refine ix_i (y := nI (k + 2)) (nI_add k 2) ?_
  refine va_sld hx hb hX hbl hbA hS (vp_in_nI (n := k + 2) (by omega) (by omega)) dL_law_1426 ?_
  refine lw_callx (w1 := (fun u : SU => [((bm 0), .inr (11, [.int (u.1 0), .ref (bm 1), .ref (bm 2), .ref (bm 3), .ref (bm 4), .ref (bm 5), .int (v2 0 6), .int (v2 0 7), .int (v2 0 8), .int (v2 0 9), .int (v2 0 10), .long (g2 0 11), .int (v2 0 12), .int (v2 0 13), .int (v2 0 14), .int (v2 0 15), .ref (bm 6), .ref (bm 7), .ref (bm 8), .ref (bm 9), .ref (bm 10), .ref (bm 11), .ref (bm 12), .ref (bm 13), .int (u.1 1), .int (u.1 2), .int (u.1 3), .int (u.1 4), .ref (bm 14), .int (v2 0 29), .int (v2 0 30)])), ((bm 7), .inl (ct 0, 15, .inl (f2 7))), ((bm 8), .inl (ct 0, 200, .inl (f2 8))), ((bm 9), .inl (ct 0, 1000, .inl (f2 9))), ((bm 11), .inl (ct 0, 8, .inl (u.2.1 0))), ((bm 12), .inl (ct 0, 8, .inl (u.2.1 1))), ((bm 13), .inl (ct 0, 8, .inl (u.2.1 2)))])) (va_runV (As := [.int (xs (nI (k + 1)).toNatClampNeg), .int (xs (nI (k + 2)).toNatClampNeg)]) (rest := []) ⟨hx, hb, hml, hown, hts⟩ (a_X11_reply l G ct (bm 0) (v2 0 0) (bm 1) (bm 2) (bm 3) (bm 4) (bm 5) (v2 0 6) (v2 0 7) (v2 0 8) (v2 0 9) (v2 0 10) (g2 0 11) (v2 0 12) (v2 0 13) (v2 0 14) (v2 0 15) (bm 6) (bm 7) (bm 8) (bm 9) (bm 10) (bm 11) (bm 12) (bm 13) (v2 0 24) (v2 0 25) (v2 0 26) (v2 0 27) (bm 14) (v2 0 29) (v2 0 30) (f2 7) (f2 8) (f2 9) (f2 11) (f2 12) (f2 13) (xs (nI (k + 1)).toNatClampNeg) (xs (nI (k + 2)).toNatClampNeg) hIm.2.1 hIm.2.2.1 hIm.2.2.2.1 hIm.2.2.2.2.1 hIm.2.2.2.2.2.1 hIm.2.2.2.2.2.2.1) (cwV 2 hts gL_law_X11_reply rfl rfl rfl (by decide +kernel) ⟨Nat.le_of_ble_eq_true rfl, Nat.le_of_ble_eq_true rfl⟩) (wr_preV 11 0 hK (hPm.sub [0, 7, 8, 9, 11, 12, 13] rfl) (hDm.sub [0, 7, 8, 9, 11, 12, 13] (by decide) rfl) rfl rfl) rfl rfl hl.1 rfl (lv_room (Nat.le_of_ble_eq_true rfl)) dL_law_1427 ⟨Nat.le_of_ble_eq_true rfl, Nat.le_of_ble_eq_true rfl⟩) hS hPm hDm hPx (fun q h1 h2 => hap q h2 h1) [0, 7, 8, 9, 11, 12, 13] rfl (fun r2 u2 H locs wr2 hPx hF hS => ?_)
  obtain ⟨r2p0, r2p1, r2p2, r2p3, r2p4, r2p5, r2p6, r2p7, -⟩ := wr2
  have hPm : va_P G vwCl (mW bm ct (uv v2 [(0, 0, u2.1 0), (0, 24, u2.1 1), (0, 25, u2.1 2), (0, 26, u2.1 3), (0, 27, u2.1 4)]) (uf f2 [(11, u2.2.1 0), (12, u2.2.1 1), (13, u2.2.1 2)]) g2) H := hF (mW bm ct (uv v2 [(0, 0, u2.1 0), (0, 24, u2.1 1), (0, 25, u2.1 2), (0, 26, u2.1 3), (0, 27, u2.1 4)]) (uf f2 [(11, u2.2.1 0), (12, u2.2.1 1), (13, u2.2.1 2)]) g2) rfl (fun k9 hk9 => mW_same bm ct v2 (uv v2 [(0, 0, u2.1 0), (0, 24, u2.1 1), (0, 25, u2.1 2), (0, 26, u2.1 3), (0, 27, u2.1 4)]) f2 (uf f2 [(11, u2.2.1 0), (12, u2.2.1 1), (13, u2.2.1 2)]) g2 g2 k9 (uv_st hk9 (by rfl)) (uf_st hk9 (by rfl)) rfl)
  have hIm : MI (uv v2 [(0, 0, u2.1 0), (0, 24, u2.1 1), (0, 25, u2.1 2), (0, 26, u2.1 3), (0, 27, u2.1 4)]) (uf f2 [(11, u2.2.1 0), (12, u2.2.1 1), (13, u2.2.1 2)]) g2 := ⟨hIm.1, hIm.2.1, hIm.2.2.1, hIm.2.2.2.1, hIm.2.2.2.2.1, r2p5, r2p6, trivial⟩
  refine lv_pop hx hb dL_law_1430 rfl ?_
  refine lv_goto (tgt := 2133) hx hb dL_law_1431 (by decide) ?_
  exact kk v f g (uv v2 [(0, 0, u2.1 0), (0, 24, u2.1 1), (0, 25, u2.1 2), (0, 26, u2.1 3), (0, 27, u2.1 4)]) (uf f2 [(11, u2.2.1 0), (12, u2.2.1 1), (13, u2.2.1 2)]) g2 H locs ls hIx hIm hR hPx hPm hS hl
set_option maxHeartbeats 8000000 in
set_option maxRecDepth 100000 in
theorem law_c42 {p : Program} {e : Env} {s : State} {m : MethodId} {below : List Frame} {meth : Method} {c : Code} (l : Launch) {b L : Nat} {xs : Nat → Int32} (C0 : lw_At p s m meth c b L xs) (hL : L ≤ 3072) (k : Nat) (hk6 : k + 6 ≤ L) (G : va_G) (ct : Nat → ClassId) (a rr bm adK adV : Nat → Nat) (v : Nat → Nat → Int32) (f : Nat → Nat → Int32) (g : Nat → Nat → Int64) (v2 : Nat → Nat → Int32) (f2 : Nat → Nat → Int32) (g2 : Nat → Nat → Int64) (H : Heap) (locs : List Loc) (hK : KK G ct s) (hZ : SS adK adV (fun q : Nat => s.heap.size ≤ q) s s.heap) (hD0 : va_D (fun q : Nat => s.heap.size ≤ q) (xW a rr ct (fun _ _ => 0) (fun _ _ => 0) (fun _ _ => 0))) (hE0 : va_D (fun q : Nat => s.heap.size ≤ q) (mW bm ct (fun _ _ => 0) (fun _ _ => 0) (fun _ _ => 0))) (hap0 : wset a rr bm ct) (hIx : XI v f g) (hIm : MI v2 f2 g2) (hR : REL v f g v2 f2 g2) (hPx : va_P G vwCl (xW a rr ct v f g) H) (hPm : va_P G vwCl (mW bm ct v2 f2 g2) H) (hS : va_S (fun q : Nat => s.heap.size ≤ q) s.heap H locs) (ls : Array Slot) (hl : lv_has ls 4 [(3, .int (nI k)), (2, .ref (bm 0)), (1, .ref (a 0)), (0, .ref b)]) (kk : ∀ (v : Nat → Nat → Int32) (f : Nat → Nat → Int32) (g : Nat → Nat → Int64) (v2 : Nat → Nat → Int32) (f2 : Nat → Nat → Int32) (g2 : Nat → Nat → Int64) (H : Heap) (locs : List Loc) (ls : Array Slot), XI v f g → MI v2 f2 g2 → REL v f g v2 f2 g2 → va_P G vwCl (xW a rr ct v f g) H → va_P G vwCl (mW bm ct v2 f2 g2) H → va_S (fun q : Nat => s.heap.size ≤ q) s.heap H locs → lv_has ls 4 [(3, .int (nI k)), (2, .ref (bm 0)), (1, .ref (a 0)), (0, .ref b)] → W p l e room_1 s m #[Value.ref b] below meth c H locs 110 5410 (lw_Z below #[Value.ref b] s) (F0 m 2133 ls [])) : W p l e room_1 s m #[Value.ref b] below meth c H locs 110 5410 (lw_Z below #[Value.ref b] s) (F0 m 1434 ls []) := by
  obtain ⟨hx, hb, hr, hml, hown, hts, hX, hbl, hlocks, hgv⟩ := C0
  have hown : s.vm.findClass RL = some m.cls := hown
  have hts : ∀ z ∈ wsL_law, z.before #[Value.ref b] s = true := fun z h => hts z (wsL_law_in z h)
  have hbA : ¬ (fun q : Nat => s.heap.size ≤ q) b := Nat.not_le.mpr hbl
  have hDx : va_D (fun q : Nat => s.heap.size ≤ q) (xW a rr ct v f g) := hD0.ad (xW_ad ..)
  have hDm : va_D (fun q : Nat => s.heap.size ≤ q) (mW bm ct v2 f2 g2) := hE0.ad (mW_ad ..)
  have hap : ∀ q, aset (xW a rr ct v f g) q → ¬ aset (mW bm ct v2 f2 g2) q := fun q h1 h2 => hap0 q (aset_ad (xW_ad ..) h1) (aset_ad (mW_ad ..) h2)
  refine lv_aload_n hx hb dL_law_1434 rfl (lv_at hl 2 rfl) ?_
  refine lv_aload_n hx hb dL_law_1435 rfl (lv_at hl 3 rfl) ?_
  refine lv_iload_n hx hb dL_law_1436 rfl (lv_at hl 0 rfl) ?_
  refine lv_iconst (v := 1) hx hb dL_law_1437 (by decide) ?_
  refine lv_iadd hx hb dL_law_1438 ?_
  refine ix_i (y := nI (k + 1)) (nI_add k 1) ?_
  refine va_sld hx hb hX hbl hbA hS (vp_in_nI (n := k + 1) (by omega) (by omega)) dL_law_1439 ?_
  refine lw_callx (w1 := (fun u : SU => [((a 0), .inr (10, [.ref (a 1), .ref (a 3), .ref (a 11), .ref (a 25), .ref (a 68), .ref (a 69), .ref (a 77), .ref (a 82), .ref (a 84), .ref (a 88), .ref (a 91)])), ((a 11), .inr (4, [.ref (a 12), .ref (a 19), .ref (a 24), .int (v 11 3)])), ((a 12), .inr (9, [.ref (a 13), .ref (a 15), .ref (a 16), .ref (a 17), .ref (a 18), .int (v 12 5), .int (v 12 6)])), ((a 13), .inr (0, [.ref (a 14), .int (v 13 1)])), ((a 15), .inl (ct 0, 8, .inl (f 15))), ((a 19), .inr (2, [.ref (a 12), .ref (a 20), .ref (a 22), .ref (a 23), .int (v 19 4), .int (v 19 5), .int (v 19 6), .int (v 19 7)])), ((a 20), .inr (0, [.ref (a 21), .int (v 20 1)])), ((a 21), .inl (ct 0, 8, .inl (f 21))), ((a 91), .inr (3, [.ref (a 92), .ref (a 93), .ref (a 94), .int (u.1 0)])), ((a 92), .inl (ct 0, 8, .inl (u.2.1 0))), ((a 93), .inl (ct 0, 8, .inl (u.2.1 1))), ((a 94), .inl (ct 0, 8, .inl (u.2.1 2)))])) (va_runV (As := [.int (xs (nI (k + 1)).toNatClampNeg)]) (rest := []) ⟨hx, hb, hml, hown, hts⟩ (a_X10_firm l G ct (a 0) (a 1) (a 3) (a 11) (a 25) (a 68) (a 69) (a 77) (a 82) (a 84) (a 88) (a 91) (a 12) (a 19) (a 24) (v 11 3) (a 13) (a 15) (a 16) (a 17) (a 18) (v 12 5) (v 12 6) (a 14) (v 13 1) (f 15) (a 20) (a 22) (a 23) (v 19 4) (v 19 5) (v 19 6) (v 19 7) (a 21) (v 20 1) (f 21) (a 92) (a 93) (a 94) (v 91 3) (f 92) (f 93) (f 94) (xs (nI (k + 1)).toNatClampNeg) hIx.2.2.1 hIx.2.2.2.1 hIx.2.2.2.2.2.2.2.2.2.2.2.2.2.2.2.1) (cwV 1 hts gL_law_X10_firm rfl rfl rfl (by decide +kernel) ⟨Nat.le_of_ble_eq_true rfl, Nat.le_of_ble_eq_true rfl⟩) (wr_preV 10 0 hK (hPx.sub [0, 11, 12, 13, 15, 19, 20, 21, 91, 92, 93, 94] rfl) (hDx.sub [0, 11, 12, 13, 15, 19, 20, 21, 91, 92, 93, 94] (by decide) rfl) rfl rfl) rfl rfl hl.1 rfl (lv_room (Nat.le_of_ble_eq_true rfl)) dL_law_1440 ⟨Nat.le_of_ble_eq_true rfl, Nat.le_of_ble_eq_true rfl⟩) hS hPx hDx hPm hap [0, 11, 12, 13, 15, 19, 20, 21, 91, 92, 93, 94] rfl (fun r1 u1 H locs wr1 hPm hF hS => ?_)
  obtain ⟨r1p0, r1p1, r1p2, r1p3, r1p4, r1p5, -⟩ := wr1
  have hPx : va_P G vwCl (xW a rr ct (uv v [(91, 3, u1.1 0)]) (uf f [(92, u1.2.1 0), (93, u1.2.1 1), (94, u1.2.1 2)]) g) H := hF (xW a rr ct (uv v [(91, 3, u1.1 0)]) (uf f [(92, u1.2.1 0), (93, u1.2.1 1), (94, u1.2.1 2)]) g) rfl (fun k9 hk9 => xW_same a rr ct v (uv v [(91, 3, u1.1 0)]) f (uf f [(92, u1.2.1 0), (93, u1.2.1 1), (94, u1.2.1 2)]) g g k9 (uv_st hk9 (by rfl)) (uf_st hk9 (by rfl)) rfl)
  have hIx : XI (uv v [(91, 3, u1.1 0)]) (uf f [(92, u1.2.1 0), (93, u1.2.1 1), (94, u1.2.1 2)]) g := ⟨hIx.1, hIx.2.1, hIx.2.2.1, hIx.2.2.2.1, hIx.2.2.2.2.1, hIx.2.2.2.2.2.1, hIx.2.2.2.2.2.2.1, hIx.2.2.2.2.2.2.2.1, hIx.2.2.2.2.2.2.2.2.1, hIx.2.2.2.2.2.2.2.2.2.1, hIx.2.2.2.2.2.2.2.2.2.2.1, hIx.2.2.2.2.2.2.2.2.2.2.2.1, hIx.2.2.2.2.2.2.2.2.2.2.2.2.1, hIx.2.2.2.2.2.2.2.2.2.2.2.2.2.1, hIx.2.2.2.2.2.2.2.2.2.2.2.2.2.2.1, r1p5, trivial⟩
  have hap : ∀ q, aset (xW a rr ct (uv v [(91, 3, u1.1 0)]) (uf f [(92, u1.2.1 0), (93, u1.2.1 1), (94, u1.2.1 2)]) g) q → ¬ aset (mW bm ct v2 f2 g2) q := fun q h1 h2 => hap0 q (aset_ad (xW_ad ..) h1) (aset_ad (mW_ad ..) h2)
  refine lv_pop hx hb dL_law_1443 rfl ?_
  refine lv_aload_n hx hb dL_law_1444 rfl (lv_at hl 1 rfl) ?_
  refine lv_aload_n hx hb dL_law_1445 rfl (lv_at hl 3 rfl) ?_
  refine lv_iload_n hx hb dL_law_1446 rfl (lv_at hl 0 rfl) ?_
  refine lv_iconst (v := 1) hx hb dL_law_1447 (by decide) ?_
  refine lv_iadd hx hb dL_law_1448 ?_
  refine ix_i (y := nI (k + 1)) (nI_add k 1) ?_
  refine va_sld hx hb hX hbl hbA hS (vp_in_nI (n := k + 1) (by omega) (by omega)) dL_law_1449 ?_
  refine lw_callx (w1 := (fun u : SU => [((bm 0), .inr (11, [.int (u.1 0), .ref (bm 1), .ref (bm 2), .ref (bm 3), .ref (bm 4), .ref (bm 5), .int (v2 0 6), .int (v2 0 7), .int (v2 0 8), .int (v2 0 9), .int (v2 0 10), .long (g2 0 11), .int (v2 0 12), .int (v2 0 13), .int (v2 0 14), .int (v2 0 15), .ref (bm 6), .ref (bm 7), .ref (bm 8), .ref (bm 9), .ref (bm 10), .ref (bm 11), .ref (bm 12), .ref (bm 13), .int (u.1 1), .int (u.1 2), .int (u.1 3), .int (u.1 4), .ref (bm 14), .int (v2 0 29), .int (v2 0 30)])), ((bm 6), .inl (ct 0, 5, .inl (f2 6))), ((bm 7), .inl (ct 0, 15, .inl (f2 7))), ((bm 8), .inl (ct 0, 200, .inl (f2 8))), ((bm 9), .inl (ct 0, 1000, .inl (f2 9))), ((bm 11), .inl (ct 0, 8, .inl (u.2.1 0))), ((bm 12), .inl (ct 0, 8, .inl (u.2.1 1))), ((bm 13), .inl (ct 0, 8, .inl (u.2.1 2)))])) (va_runV (As := [.int (xs (nI (k + 1)).toNatClampNeg)]) (rest := []) ⟨hx, hb, hml, hown, hts⟩ (a_X11_firm l G ct (bm 0) (v2 0 0) (bm 1) (bm 2) (bm 3) (bm 4) (bm 5) (v2 0 6) (v2 0 7) (v2 0 8) (v2 0 9) (v2 0 10) (g2 0 11) (v2 0 12) (v2 0 13) (v2 0 14) (v2 0 15) (bm 6) (bm 7) (bm 8) (bm 9) (bm 10) (bm 11) (bm 12) (bm 13) (v2 0 24) (v2 0 25) (v2 0 26) (v2 0 27) (bm 14) (v2 0 29) (v2 0 30) (f2 6) (f2 7) (f2 8) (f2 9) (f2 11) (f2 12) (f2 13) (xs (nI (k + 1)).toNatClampNeg) hIm.2.1 hIm.2.2.1 hIm.2.2.2.1 hIm.2.2.2.2.1 hIm.2.2.2.2.2.1 hIm.2.2.2.2.2.2.1) (cwV 1 hts gL_law_X11_firm rfl rfl rfl (by decide +kernel) ⟨Nat.le_of_ble_eq_true rfl, Nat.le_of_ble_eq_true rfl⟩) (wr_preV 11 0 hK (hPm.sub [0, 6, 7, 8, 9, 11, 12, 13] rfl) (hDm.sub [0, 6, 7, 8, 9, 11, 12, 13] (by decide) rfl) rfl rfl) rfl rfl hl.1 rfl (lv_room (Nat.le_of_ble_eq_true rfl)) dL_law_1450 ⟨Nat.le_of_ble_eq_true rfl, Nat.le_of_ble_eq_true rfl⟩) hS hPm hDm hPx (fun q h1 h2 => hap q h2 h1) [0, 6, 7, 8, 9, 11, 12, 13] rfl (fun r2 u2 H locs wr2 hPx hF hS => ?_)
  obtain ⟨r2p0, r2p1, r2p2, r2p3, r2p4, r2p5, -⟩ := wr2
  have hPm : va_P G vwCl (mW bm ct (uv v2 [(0, 0, u2.1 0), (0, 24, u2.1 1), (0, 25, u2.1 2), (0, 26, u2.1 3), (0, 27, u2.1 4)]) (uf f2 [(11, u2.2.1 0), (12, u2.2.1 1), (13, u2.2.1 2)]) g2) H := hF (mW bm ct (uv v2 [(0, 0, u2.1 0), (0, 24, u2.1 1), (0, 25, u2.1 2), (0, 26, u2.1 3), (0, 27, u2.1 4)]) (uf f2 [(11, u2.2.1 0), (12, u2.2.1 1), (13, u2.2.1 2)]) g2) rfl (fun k9 hk9 => mW_same bm ct v2 (uv v2 [(0, 0, u2.1 0), (0, 24, u2.1 1), (0, 25, u2.1 2), (0, 26, u2.1 3), (0, 27, u2.1 4)]) f2 (uf f2 [(11, u2.2.1 0), (12, u2.2.1 1), (13, u2.2.1 2)]) g2 g2 k9 (uv_st hk9 (by rfl)) (uf_st hk9 (by rfl)) rfl)
  have hIm : MI (uv v2 [(0, 0, u2.1 0), (0, 24, u2.1 1), (0, 25, u2.1 2), (0, 26, u2.1 3), (0, 27, u2.1 4)]) (uf f2 [(11, u2.2.1 0), (12, u2.2.1 1), (13, u2.2.1 2)]) g2 := ⟨hIm.1, hIm.2.1, hIm.2.2.1, hIm.2.2.2.1, hIm.2.2.2.2.1, r2p3, r2p4, trivial⟩
  refine lv_pop hx hb dL_law_1453 rfl ?_
  refine lv_goto (tgt := 2133) hx hb dL_law_1454 (by decide) ?_
  exact kk (uv v [(91, 3, u1.1 0)]) (uf f [(92, u1.2.1 0), (93, u1.2.1 1), (94, u1.2.1 2)]) g (uv v2 [(0, 0, u2.1 0), (0, 24, u2.1 1), (0, 25, u2.1 2), (0, 26, u2.1 3), (0, 27, u2.1 4)]) (uf f2 [(11, u2.2.1 0), (12, u2.2.1 1), (13, u2.2.1 2)]) g2 H locs ls hIx hIm hR hPx hPm hS hl
set_option maxHeartbeats 8000000 in
set_option maxRecDepth 100000 in
theorem law_c43 {p : Program} {e : Env} {s : State} {m : MethodId} {below : List Frame} {meth : Method} {c : Code} (l : Launch) {b L : Nat} {xs : Nat → Int32} (C0 : lw_At p s m meth c b L xs) (hL : L ≤ 3072) (k : Nat) (hk6 : k + 6 ≤ L) (G : va_G) (ct : Nat → ClassId) (a rr bm adK adV : Nat → Nat) (v : Nat → Nat → Int32) (f : Nat → Nat → Int32) (g : Nat → Nat → Int64) (v2 : Nat → Nat → Int32) (f2 : Nat → Nat → Int32) (g2 : Nat → Nat → Int64) (H : Heap) (locs : List Loc) (hK : KK G ct s) (hZ : SS adK adV (fun q : Nat => s.heap.size ≤ q) s s.heap) (hD0 : va_D (fun q : Nat => s.heap.size ≤ q) (xW a rr ct (fun _ _ => 0) (fun _ _ => 0) (fun _ _ => 0))) (hE0 : va_D (fun q : Nat => s.heap.size ≤ q) (mW bm ct (fun _ _ => 0) (fun _ _ => 0) (fun _ _ => 0))) (hap0 : wset a rr bm ct) (hIx : XI v f g) (hIm : MI v2 f2 g2) (hR : REL v f g v2 f2 g2) (hPx : va_P G vwCl (xW a rr ct v f g) H) (hPm : va_P G vwCl (mW bm ct v2 f2 g2) H) (hS : va_S (fun q : Nat => s.heap.size ≤ q) s.heap H locs) (ls : Array Slot) (hl : lv_has ls 4 [(3, .int (nI k)), (2, .ref (bm 0)), (1, .ref (a 0)), (0, .ref b)]) (kk : ∀ (v : Nat → Nat → Int32) (f : Nat → Nat → Int32) (g : Nat → Nat → Int64) (v2 : Nat → Nat → Int32) (f2 : Nat → Nat → Int32) (g2 : Nat → Nat → Int64) (H : Heap) (locs : List Loc) (ls : Array Slot), XI v f g → MI v2 f2 g2 → REL v f g v2 f2 g2 → va_P G vwCl (xW a rr ct v f g) H → va_P G vwCl (mW bm ct v2 f2 g2) H → va_S (fun q : Nat => s.heap.size ≤ q) s.heap H locs → lv_has ls 4 [(3, .int (nI k)), (2, .ref (bm 0)), (1, .ref (a 0)), (0, .ref b)] → W p l e room_1 s m #[Value.ref b] below meth c H locs 110 5410 (lw_Z below #[Value.ref b] s) (F0 m 2133 ls [])) : W p l e room_1 s m #[Value.ref b] below meth c H locs 110 5410 (lw_Z below #[Value.ref b] s) (F0 m 1457 ls []) := by
  obtain ⟨hx, hb, hr, hml, hown, hts, hX, hbl, hlocks, hgv⟩ := C0
  have hown : s.vm.findClass RL = some m.cls := hown
  have hts : ∀ z ∈ wsL_law, z.before #[Value.ref b] s = true := fun z h => hts z (wsL_law_in z h)
  have hbA : ¬ (fun q : Nat => s.heap.size ≤ q) b := Nat.not_le.mpr hbl
  have hDx : va_D (fun q : Nat => s.heap.size ≤ q) (xW a rr ct v f g) := hD0.ad (xW_ad ..)
  have hDm : va_D (fun q : Nat => s.heap.size ≤ q) (mW bm ct v2 f2 g2) := hE0.ad (mW_ad ..)
  have hap : ∀ q, aset (xW a rr ct v f g) q → ¬ aset (mW bm ct v2 f2 g2) q := fun q h1 h2 => hap0 q (aset_ad (xW_ad ..) h1) (aset_ad (mW_ad ..) h2)
  refine lv_aload_n hx hb dL_law_1457 rfl (lv_at hl 2 rfl) ?_
  refine lw_callx (w1 := (fun u : SU => [((a 0), .inr (10, [.ref (a 1), .ref (a 3), .ref (a 11), .ref (a 25), .ref (a 68), .ref (a 69), .ref (a 77), .ref (a 82), .ref (a 84), .ref (a 88), .ref (a 91)])), ((a 11), .inr (4, [.ref (a 12), .ref (a 19), .ref (a 24), .int (v 11 3)])), ((a 12), .inr (9, [.ref (a 13), .ref (a 15), .ref (a 16), .ref (a 17), .ref (a 18), .int (v 12 5), .int (v 12 6)])), ((a 13), .inr (0, [.ref (a 14), .int (v 13 1)])), ((a 15), .inl (ct 0, 8, .inl (f 15))), ((a 19), .inr (2, [.ref (a 12), .ref (a 20), .ref (a 22), .ref (a 23), .int (v 19 4), .int (v 19 5), .int (v 19 6), .int (v 19 7)])), ((a 20), .inr (0, [.ref (a 21), .int (v 20 1)])), ((a 21), .inl (ct 0, 8, .inl (f 21))), ((a 91), .inr (3, [.ref (a 92), .ref (a 93), .ref (a 94), .int (u.1 0)])), ((a 92), .inl (ct 0, 8, .inl (u.2.1 0))), ((a 93), .inl (ct 0, 8, .inl (u.2.1 1))), ((a 94), .inl (ct 0, 8, .inl (u.2.1 2)))])) (va_runV (As := []) (rest := []) ⟨hx, hb, hml, hown, hts⟩ (a_X10_firms l G ct (a 0) (a 1) (a 3) (a 11) (a 25) (a 68) (a 69) (a 77) (a 82) (a 84) (a 88) (a 91) (a 12) (a 19) (a 24) (v 11 3) (a 13) (a 15) (a 16) (a 17) (a 18) (v 12 5) (v 12 6) (a 14) (v 13 1) (f 15) (a 20) (a 22) (a 23) (v 19 4) (v 19 5) (v 19 6) (v 19 7) (a 21) (v 20 1) (f 21) (a 92) (a 93) (a 94) (v 91 3) (f 92) (f 93) (f 94) hIx.2.2.1 hIx.2.2.2.1 hIx.2.2.2.2.2.2.2.2.2.2.2.2.2.2.2.1) (cwV 0 hts gL_law_X10_firms rfl rfl rfl (by decide +kernel) ⟨Nat.le_of_ble_eq_true rfl, Nat.le_of_ble_eq_true rfl⟩) (wr_preV 10 0 hK (hPx.sub [0, 11, 12, 13, 15, 19, 20, 21, 91, 92, 93, 94] rfl) (hDx.sub [0, 11, 12, 13, 15, 19, 20, 21, 91, 92, 93, 94] (by decide) rfl) rfl rfl) rfl rfl hl.1 rfl (lv_room (Nat.le_of_ble_eq_true rfl)) dL_law_1458 ⟨Nat.le_of_ble_eq_true rfl, Nat.le_of_ble_eq_true rfl⟩) hS hPx hDx hPm hap [0, 11, 12, 13, 15, 19, 20, 21, 91, 92, 93, 94] rfl (fun r1 u1 H locs wr1 hPm hF hS => ?_)
  obtain ⟨r1p0, r1p1, r1p2, r1p3, -⟩ := wr1
  have hPx : va_P G vwCl (xW a rr ct (uv v [(91, 3, u1.1 0)]) (uf f [(92, u1.2.1 0), (93, u1.2.1 1), (94, u1.2.1 2)]) g) H := hF (xW a rr ct (uv v [(91, 3, u1.1 0)]) (uf f [(92, u1.2.1 0), (93, u1.2.1 1), (94, u1.2.1 2)]) g) rfl (fun k9 hk9 => xW_same a rr ct v (uv v [(91, 3, u1.1 0)]) f (uf f [(92, u1.2.1 0), (93, u1.2.1 1), (94, u1.2.1 2)]) g g k9 (uv_st hk9 (by rfl)) (uf_st hk9 (by rfl)) rfl)
  have hIx : XI (uv v [(91, 3, u1.1 0)]) (uf f [(92, u1.2.1 0), (93, u1.2.1 1), (94, u1.2.1 2)]) g := ⟨hIx.1, hIx.2.1, hIx.2.2.1, hIx.2.2.2.1, hIx.2.2.2.2.1, hIx.2.2.2.2.2.1, hIx.2.2.2.2.2.2.1, hIx.2.2.2.2.2.2.2.1, hIx.2.2.2.2.2.2.2.2.1, hIx.2.2.2.2.2.2.2.2.2.1, hIx.2.2.2.2.2.2.2.2.2.2.1, hIx.2.2.2.2.2.2.2.2.2.2.2.1, hIx.2.2.2.2.2.2.2.2.2.2.2.2.1, hIx.2.2.2.2.2.2.2.2.2.2.2.2.2.1, hIx.2.2.2.2.2.2.2.2.2.2.2.2.2.2.1, r1p3, trivial⟩
  have hap : ∀ q, aset (xW a rr ct (uv v [(91, 3, u1.1 0)]) (uf f [(92, u1.2.1 0), (93, u1.2.1 1), (94, u1.2.1 2)]) g) q → ¬ aset (mW bm ct v2 f2 g2) q := fun q h1 h2 => hap0 q (aset_ad (xW_ad ..) h1) (aset_ad (mW_ad ..) h2)
  refine lv_pop hx hb dL_law_1461 rfl ?_
  refine lv_aload_n hx hb dL_law_1462 rfl (lv_at hl 1 rfl) ?_
  refine lw_callx (w1 := (fun u : SU => [((bm 0), .inr (11, [.int (u.1 0), .ref (bm 1), .ref (bm 2), .ref (bm 3), .ref (bm 4), .ref (bm 5), .int (v2 0 6), .int (v2 0 7), .int (v2 0 8), .int (v2 0 9), .int (v2 0 10), .long (g2 0 11), .int (v2 0 12), .int (v2 0 13), .int (v2 0 14), .int (v2 0 15), .ref (bm 6), .ref (bm 7), .ref (bm 8), .ref (bm 9), .ref (bm 10), .ref (bm 11), .ref (bm 12), .ref (bm 13), .int (u.1 1), .int (u.1 2), .int (u.1 3), .int (u.1 4), .ref (bm 14), .int (v2 0 29), .int (v2 0 30)])), ((bm 6), .inl (ct 0, 5, .inl (f2 6))), ((bm 7), .inl (ct 0, 15, .inl (f2 7))), ((bm 8), .inl (ct 0, 200, .inl (f2 8))), ((bm 9), .inl (ct 0, 1000, .inl (f2 9))), ((bm 11), .inl (ct 0, 8, .inl (u.2.1 0))), ((bm 12), .inl (ct 0, 8, .inl (u.2.1 1))), ((bm 13), .inl (ct 0, 8, .inl (u.2.1 2)))])) (va_runV (As := []) (rest := []) ⟨hx, hb, hml, hown, hts⟩ (a_X11_firms l G ct (bm 0) (v2 0 0) (bm 1) (bm 2) (bm 3) (bm 4) (bm 5) (v2 0 6) (v2 0 7) (v2 0 8) (v2 0 9) (v2 0 10) (g2 0 11) (v2 0 12) (v2 0 13) (v2 0 14) (v2 0 15) (bm 6) (bm 7) (bm 8) (bm 9) (bm 10) (bm 11) (bm 12) (bm 13) (v2 0 24) (v2 0 25) (v2 0 26) (v2 0 27) (bm 14) (v2 0 29) (v2 0 30) (f2 6) (f2 7) (f2 8) (f2 9) (f2 11) (f2 12) (f2 13) hIm.2.1 hIm.2.2.1 hIm.2.2.2.1 hIm.2.2.2.2.1 hIm.2.2.2.2.2.1 hIm.2.2.2.2.2.2.1) (cwV 0 hts gL_law_X11_firms rfl rfl rfl (by decide +kernel) ⟨Nat.le_of_ble_eq_true rfl, Nat.le_of_ble_eq_true rfl⟩) (wr_preV 11 0 hK (hPm.sub [0, 6, 7, 8, 9, 11, 12, 13] rfl) (hDm.sub [0, 6, 7, 8, 9, 11, 12, 13] (by decide) rfl) rfl rfl) rfl rfl hl.1 rfl (lv_room (Nat.le_of_ble_eq_true rfl)) dL_law_1463 ⟨Nat.le_of_ble_eq_true rfl, Nat.le_of_ble_eq_true rfl⟩) hS hPm hDm hPx (fun q h1 h2 => hap q h2 h1) [0, 6, 7, 8, 9, 11, 12, 13] rfl (fun r2 u2 H locs wr2 hPx hF hS => ?_)
  obtain ⟨r2p0, r2p1, r2p2, -⟩ := wr2
  have hPm : va_P G vwCl (mW bm ct (uv v2 [(0, 0, u2.1 0), (0, 24, u2.1 1), (0, 25, u2.1 2), (0, 26, u2.1 3), (0, 27, u2.1 4)]) (uf f2 [(11, u2.2.1 0), (12, u2.2.1 1), (13, u2.2.1 2)]) g2) H := hF (mW bm ct (uv v2 [(0, 0, u2.1 0), (0, 24, u2.1 1), (0, 25, u2.1 2), (0, 26, u2.1 3), (0, 27, u2.1 4)]) (uf f2 [(11, u2.2.1 0), (12, u2.2.1 1), (13, u2.2.1 2)]) g2) rfl (fun k9 hk9 => mW_same bm ct v2 (uv v2 [(0, 0, u2.1 0), (0, 24, u2.1 1), (0, 25, u2.1 2), (0, 26, u2.1 3), (0, 27, u2.1 4)]) f2 (uf f2 [(11, u2.2.1 0), (12, u2.2.1 1), (13, u2.2.1 2)]) g2 g2 k9 (uv_st hk9 (by rfl)) (uf_st hk9 (by rfl)) rfl)
  have hIm : MI (uv v2 [(0, 0, u2.1 0), (0, 24, u2.1 1), (0, 25, u2.1 2), (0, 26, u2.1 3), (0, 27, u2.1 4)]) (uf f2 [(11, u2.2.1 0), (12, u2.2.1 1), (13, u2.2.1 2)]) g2 := ⟨hIm.1, hIm.2.1, hIm.2.2.1, hIm.2.2.2.1, hIm.2.2.2.2.1, r2p0, r2p1, trivial⟩
  refine lv_pop hx hb dL_law_1466 rfl ?_
  refine lv_goto (tgt := 2133) hx hb dL_law_1467 (by decide) ?_
  exact kk (uv v [(91, 3, u1.1 0)]) (uf f [(92, u1.2.1 0), (93, u1.2.1 1), (94, u1.2.1 2)]) g (uv v2 [(0, 0, u2.1 0), (0, 24, u2.1 1), (0, 25, u2.1 2), (0, 26, u2.1 3), (0, 27, u2.1 4)]) (uf f2 [(11, u2.2.1 0), (12, u2.2.1 1), (13, u2.2.1 2)]) g2 H locs ls hIx hIm hR hPx hPm hS hl
