theorem dL_law_1177 : decode cL_law 1177 = .ok (.aload_n 1, 1) := by decide +kernel
theorem dL_law_1178 : decode cL_law 1178 = .ok (.aload_n 0, 1) := by decide +kernel
theorem dL_law_1179 : decode cL_law 1179 = .ok (.iload_n 3, 1) := by decide +kernel
theorem dL_law_1180 : decode cL_law 1180 = .ok (.iconst 1, 1) := by decide +kernel
theorem dL_law_1181 : decode cL_law 1181 = .ok (.iadd, 1) := by decide +kernel
theorem dL_law_1182 : decode cL_law 1182 = .ok (.iaload, 1) := by decide +kernel
set_option maxRecDepth 20000 in
theorem ggL_law_X10_hired : GoodIn wsL_law wsX10_hired := goodIn_r _ [1102, 48, 24, 623, 624, 625, 2, 626, 35, 190, 1068, 1069, 1070, 47, 1071, 119, 1018, 1019, 1020, 1072, 537, 538, 64, 539, 72, 74, 386, 320, 321, 39, 322, 323, 1073, 541, 542, 543, 75, 1025, 1026, 1027, 1028, 117, 118, 1103, 1104, 1105, 1106, 1107, 923, 924, 925, 926, 927, 928, 1672, 1673, 1674, 1675, 1676, 1677, 1678, 1679, 1680, 1681, 1682, 1724, 1725, 1726, 1727, 1752, 1753, 1754, 1755, 1756, 1757, 1758, 1745, 1746, 1747, 1740, 1741] (by decide +kernel) (by decide +kernel)
set_option maxRecDepth 20000 in
theorem gL_law_X10_hired : GoodIn wsL_law (wsV RL 151 RX10 yX10_hired wsX10_hired) := goodIn_app (goodIn_of _ (by decide +kernel)) ggL_law_X10_hired
theorem dL_law_1183 : decode cL_law 1183 = .ok (.invokevirtual 151, 3) := by decide +kernel
theorem dL_law_1186 : decode cL_law 1186 = .ok (.aload_n 2, 1) := by decide +kernel
theorem dL_law_1187 : decode cL_law 1187 = .ok (.aload_n 0, 1) := by decide +kernel
theorem dL_law_1188 : decode cL_law 1188 = .ok (.iload_n 3, 1) := by decide +kernel
theorem dL_law_1189 : decode cL_law 1189 = .ok (.iconst 1, 1) := by decide +kernel
theorem dL_law_1190 : decode cL_law 1190 = .ok (.iadd, 1) := by decide +kernel
theorem dL_law_1191 : decode cL_law 1191 = .ok (.iaload, 1) := by decide +kernel
set_option maxRecDepth 20000 in
theorem ggL_law_X11_hired : GoodIn wsL_law wsX11_hired := goodIn_r _ [1125, 164, 1116, 636, 637, 638, 5, 639, 136, 182, 183, 184, 1117, 1118, 1119, 1120, 137, 1086, 1087, 1088, 1089, 608, 609, 610, 588, 589, 590, 591, 138, 1051, 1052, 1053, 1054, 937, 938, 939, 1683, 1684, 1685, 1686, 1687, 1688, 1689, 1690, 1691, 1692, 1693, 1694, 1695, 1696, 1697, 1698, 1699, 1700, 1701, 1702, 1703, 1704, 1705, 1706, 1707, 1708, 1709, 1710, 1711, 1712, 1713] (by decide +kernel) (by decide +kernel)
set_option maxRecDepth 20000 in
theorem gL_law_X11_hired : GoodIn wsL_law (wsV RL 154 RX11 yX11_hired wsX11_hired) := goodIn_app (goodIn_of _ (by decide +kernel)) ggL_law_X11_hired
theorem dL_law_1192 : decode cL_law 1192 = .ok (.invokevirtual 154, 3) := by decide +kernel
theorem dL_law_1195 : decode cL_law 1195 = .ok (.if_icmp .eq 938, 3) := by decide +kernel
theorem dL_law_1200 : decode cL_law 1200 = .ok (.aload_n 1, 1) := by decide +kernel
theorem dL_law_1201 : decode cL_law 1201 = .ok (.aload_n 0, 1) := by decide +kernel
theorem dL_law_1202 : decode cL_law 1202 = .ok (.iload_n 3, 1) := by decide +kernel
theorem dL_law_1203 : decode cL_law 1203 = .ok (.iconst 1, 1) := by decide +kernel
theorem dL_law_1204 : decode cL_law 1204 = .ok (.iadd, 1) := by decide +kernel
theorem dL_law_1205 : decode cL_law 1205 = .ok (.iaload, 1) := by decide +kernel
set_option maxRecDepth 20000 in
theorem ggL_law_X10_suspects : GoodIn wsL_law wsX10_suspects := goodIn_r _ [1129, 24, 35, 31, 1130, 1131, 1132, 2, 1133, 1134, 1135, 1136, 1137, 1138, 1139, 1140, 1141, 30, 1142, 623, 624, 625, 626, 190, 1143, 1144, 1145, 1146, 1147, 1148, 403, 404, 1149, 1150, 1151, 1152, 106, 1153, 1154, 1155, 1156, 104, 1157, 1158, 1159, 1160, 1161, 1162, 1163, 1164, 1165, 1166, 1167, 1168, 1169, 64, 1170, 72, 203, 1171, 555, 556, 557, 76, 386, 320, 321, 39, 322, 323, 1672, 1673, 1674, 1675, 1676, 1677, 1678, 1679, 1680, 1681, 1682, 1724, 1725, 1726, 1727, 1752, 1753, 1754, 1755, 1756, 1757, 1758, 1728, 1729, 1730, 1731, 1740, 1741] (by decide +kernel) (by decide +kernel)
set_option maxRecDepth 20000 in
theorem gL_law_X10_suspects : GoodIn wsL_law (wsV RL 155 RX10 yX10_suspects wsX10_suspects) := goodIn_app (goodIn_of _ (by decide +kernel)) ggL_law_X10_suspects
theorem dL_law_1206 : decode cL_law 1206 = .ok (.invokevirtual 155, 3) := by decide +kernel
theorem dL_law_1209 : decode cL_law 1209 = .ok (.aload_n 2, 1) := by decide +kernel
theorem dL_law_1210 : decode cL_law 1210 = .ok (.aload_n 0, 1) := by decide +kernel
theorem dL_law_1211 : decode cL_law 1211 = .ok (.iload_n 3, 1) := by decide +kernel
theorem dL_law_1212 : decode cL_law 1212 = .ok (.iconst 1, 1) := by decide +kernel
theorem dL_law_1213 : decode cL_law 1213 = .ok (.iadd, 1) := by decide +kernel
theorem dL_law_1214 : decode cL_law 1214 = .ok (.iaload, 1) := by decide +kernel
set_option maxRecDepth 20000 in
theorem ggL_law_X11_suspects : GoodIn wsL_law wsX11_suspects := goodIn_r _ [1175, 164, 1176, 1177, 1178, 5, 1179, 130, 131, 132, 1180, 1181, 1182, 912, 182, 183, 184, 636, 637, 638, 639, 136, 765, 766, 767, 768, 1183, 1184, 1185, 1186, 1187, 1188, 1189, 1190, 137, 588, 589, 590, 591, 138, 1683, 1684, 1685, 1686, 1687, 1688, 1689, 1690, 1691, 1692, 1693, 1694, 1695, 1696, 1697, 1698, 1699, 1700, 1701, 1702, 1703, 1704, 1705, 1706, 1707, 1708, 1709, 1710, 1711, 1712, 1713] (by decide +kernel) (by decide +kernel)
set_option maxRecDepth 20000 in
theorem gL_law_X11_suspects : GoodIn wsL_law (wsV RL 158 RX11 yX11_suspects wsX11_suspects) := goodIn_app (goodIn_of _ (by decide +kernel)) ggL_law_X11_suspects
theorem dL_law_1215 : decode cL_law 1215 = .ok (.invokevirtual 158, 3) := by decide +kernel
theorem dL_law_1218 : decode cL_law 1218 = .ok (.if_icmp .eq 915, 3) := by decide +kernel
theorem dL_law_1223 : decode cL_law 1223 = .ok (.aload_n 1, 1) := by decide +kernel
theorem dL_law_1224 : decode cL_law 1224 = .ok (.aload_n 0, 1) := by decide +kernel
theorem dL_law_1225 : decode cL_law 1225 = .ok (.iload_n 3, 1) := by decide +kernel
theorem dL_law_1226 : decode cL_law 1226 = .ok (.iconst 1, 1) := by decide +kernel
theorem dL_law_1227 : decode cL_law 1227 = .ok (.iadd, 1) := by decide +kernel
theorem dL_law_1228 : decode cL_law 1228 = .ok (.iaload, 1) := by decide +kernel
set_option maxRecDepth 20000 in
theorem ggL_law_X10_watch : GoodIn wsL_law wsX10_watch := goodIn_r _ [1194, 24, 35, 31, 1130, 1131, 1132, 2, 1133, 1134, 1135, 1136, 1137, 1138, 1139, 1140, 1141, 30, 1142, 623, 624, 625, 626, 190, 1143, 1144, 1145, 1146, 1147, 1148, 403, 404, 1149, 1150, 1151, 1152, 106, 1153, 1154, 1155, 1156, 104, 1157, 1158, 1159, 1160, 1161, 1162, 1163, 1164, 1165, 1166, 1167, 1168, 1169, 64, 1170, 72, 203, 1171, 555, 556, 557, 76, 386, 320, 321, 39, 322, 323, 1195, 1196, 1197, 1198, 1199, 923, 924, 925, 926, 927, 928, 1200, 1201, 1202, 1203, 1204, 708, 216, 709, 1205, 1672, 1673, 1674, 1675, 1676, 1677, 1678, 1679, 1680, 1681, 1682, 1724, 1725, 1726, 1727, 1752, 1753, 1754, 1755, 1756, 1757, 1758, 1728, 1729, 1730, 1731, 1740, 1741] (by decide +kernel) (by decide +kernel)
set_option maxRecDepth 20000 in
theorem gL_law_X10_watch : GoodIn wsL_law (wsV RL 159 RX10 yX10_watch wsX10_watch) := goodIn_app (goodIn_of _ (by decide +kernel)) ggL_law_X10_watch
theorem dL_law_1229 : decode cL_law 1229 = .ok (.invokevirtual 159, 3) := by decide +kernel
theorem dL_law_1232 : decode cL_law 1232 = .ok (.aload_n 2, 1) := by decide +kernel
theorem dL_law_1233 : decode cL_law 1233 = .ok (.aload_n 0, 1) := by decide +kernel
theorem dL_law_1234 : decode cL_law 1234 = .ok (.iload_n 3, 1) := by decide +kernel
theorem dL_law_1235 : decode cL_law 1235 = .ok (.iconst 1, 1) := by decide +kernel
theorem dL_law_1236 : decode cL_law 1236 = .ok (.iadd, 1) := by decide +kernel
theorem dL_law_1237 : decode cL_law 1237 = .ok (.iaload, 1) := by decide +kernel
set_option maxRecDepth 20000 in
theorem ggL_law_X11_watch : GoodIn wsL_law wsX11_watch := goodIn_r _ [1209, 164, 1210, 1176, 1177, 1178, 5, 1179, 130, 131, 132, 1180, 1181, 1182, 912, 182, 183, 184, 636, 637, 638, 639, 136, 765, 766, 767, 768, 1211, 1212, 1213, 1214, 1215, 1183, 1184, 1185, 1186, 1187, 1188, 1189, 1190, 137, 588, 589, 590, 591, 138, 937, 938, 939, 1683, 1684, 1685, 1686, 1687, 1688, 1689, 1690, 1691, 1692, 1693, 1694, 1695, 1696, 1697, 1698, 1699, 1700, 1701, 1702, 1703, 1704, 1705, 1706, 1707, 1708, 1709, 1710, 1711, 1712, 1713] (by decide +kernel) (by decide +kernel)
set_option maxRecDepth 20000 in
theorem gL_law_X11_watch : GoodIn wsL_law (wsV RL 162 RX11 yX11_watch wsX11_watch) := goodIn_app (goodIn_of _ (by decide +kernel)) ggL_law_X11_watch
theorem dL_law_1238 : decode cL_law 1238 = .ok (.invokevirtual 162, 3) := by decide +kernel
theorem dL_law_1241 : decode cL_law 1241 = .ok (.if_icmp .eq 892, 3) := by decide +kernel
theorem dL_law_1246 : decode cL_law 1246 = .ok (.aload_n 1, 1) := by decide +kernel
theorem dL_law_1247 : decode cL_law 1247 = .ok (.aload_n 0, 1) := by decide +kernel
theorem dL_law_1248 : decode cL_law 1248 = .ok (.iload_n 3, 1) := by decide +kernel
theorem dL_law_1249 : decode cL_law 1249 = .ok (.iconst 1, 1) := by decide +kernel
theorem dL_law_1250 : decode cL_law 1250 = .ok (.iadd, 1) := by decide +kernel
theorem dL_law_1251 : decode cL_law 1251 = .ok (.iaload, 1) := by decide +kernel
set_option maxRecDepth 20000 in
theorem ggL_law_X10_leaves : GoodIn wsL_law wsX10_leaves := goodIn_r _ [1219, 24, 35, 31, 1130, 1131, 1132, 2, 1133, 1134, 1135, 1136, 1137, 1138, 1139, 1140, 1141, 30, 1142, 623, 624, 625, 626, 190, 1143, 1144, 1145, 1146, 1147, 1148, 403, 404, 1149, 1150, 1151, 1152, 106, 1153, 1154, 1155, 1156, 104, 1157, 1158, 1159, 1160, 1161, 1162, 1163, 1164, 1165, 1166, 1167, 1168, 1169, 64, 1170, 72, 203, 1171, 555, 556, 557, 76, 386, 320, 321, 39, 322, 323, 1195, 1196, 1197, 1198, 1199, 923, 924, 925, 926, 927, 928, 1200, 1201, 1202, 1203, 1204, 708, 216, 709, 1205, 1033, 1220, 1672, 1673, 1674, 1675, 1676, 1677, 1678, 1679, 1680, 1681, 1682, 1724, 1725, 1726, 1727, 1752, 1753, 1754, 1755, 1756, 1757, 1758, 1728, 1729, 1730, 1731, 1740, 1741] (by decide +kernel) (by decide +kernel)
set_option maxRecDepth 20000 in
theorem gL_law_X10_leaves : GoodIn wsL_law (wsV RL 163 RX10 yX10_leaves wsX10_leaves) := goodIn_app (goodIn_of _ (by decide +kernel)) ggL_law_X10_leaves
theorem dL_law_1252 : decode cL_law 1252 = .ok (.invokevirtual 163, 3) := by decide +kernel
theorem dL_law_1255 : decode cL_law 1255 = .ok (.aload_n 2, 1) := by decide +kernel
theorem dL_law_1256 : decode cL_law 1256 = .ok (.aload_n 0, 1) := by decide +kernel
theorem dL_law_1257 : decode cL_law 1257 = .ok (.iload_n 3, 1) := by decide +kernel
theorem dL_law_1258 : decode cL_law 1258 = .ok (.iconst 1, 1) := by decide +kernel
theorem dL_law_1259 : decode cL_law 1259 = .ok (.iadd, 1) := by decide +kernel
theorem dL_law_1260 : decode cL_law 1260 = .ok (.iaload, 1) := by decide +kernel
set_option maxRecDepth 20000 in
theorem ggL_law_X11_leaves : GoodIn wsL_law wsX11_leaves := goodIn_r _ [1224, 164, 1215, 1176, 1177, 1178, 5, 1179, 130, 131, 132, 1180, 1181, 1182, 912, 182, 183, 184, 636, 637, 638, 639, 136, 765, 766, 767, 768, 1211, 1212, 1213, 1214, 1210, 1183, 1184, 1185, 1186, 1187, 1188, 1189, 1190, 137, 588, 589, 590, 591, 138, 937, 938, 939, 1683, 1684, 1685, 1686, 1687, 1688, 1689, 1690, 1691, 1692, 1693, 1694, 1695, 1696, 1697, 1698, 1699, 1700, 1701, 1702, 1703, 1704, 1705, 1706, 1707, 1708, 1709, 1710, 1711, 1712, 1713] (by decide +kernel) (by decide +kernel)
set_option maxRecDepth 20000 in
theorem gL_law_X11_leaves : GoodIn wsL_law (wsV RL 166 RX11 yX11_leaves wsX11_leaves) := goodIn_app (goodIn_of _ (by decide +kernel)) ggL_law_X11_leaves
theorem dL_law_1261 : decode cL_law 1261 = .ok (.invokevirtual 166, 3) := by decide +kernel
theorem dL_law_1264 : decode cL_law 1264 = .ok (.if_icmp .eq 869, 3) := by decide +kernel
theorem dL_law_1269 : decode cL_law 1269 = .ok (.aload_n 1, 1) := by decide +kernel
theorem dL_law_1270 : decode cL_law 1270 = .ok (.aload_n 0, 1) := by decide +kernel
theorem dL_law_1271 : decode cL_law 1271 = .ok (.iload_n 3, 1) := by decide +kernel
theorem dL_law_1272 : decode cL_law 1272 = .ok (.iconst 1, 1) := by decide +kernel
theorem dL_law_1273 : decode cL_law 1273 = .ok (.iadd, 1) := by decide +kernel
theorem dL_law_1274 : decode cL_law 1274 = .ok (.iaload, 1) := by decide +kernel
set_option maxRecDepth 20000 in
theorem ggL_law_X10_proof : GoodIn wsL_law wsX10_proof := goodIn_r _ [1228, 31, 24, 35, 1130, 1131, 1132, 2, 1133, 1134, 1135, 1136, 1137, 1138, 1139, 1140, 1141, 30, 1142, 623, 624, 625, 626, 190, 1143, 1144, 1145, 1146, 1147, 1148, 403, 404, 1149, 1150, 1151, 1152, 106, 1153, 1154, 1155, 1156, 104, 1157, 1158, 1159, 1160, 1161, 1162, 1163, 1164, 1165, 1166, 1167, 1168, 1169, 64, 1170, 72, 203, 1171, 555, 556, 557, 76, 386, 320, 321, 39, 322, 323, 1033, 923, 924, 925, 926, 927, 928, 1672, 1673, 1674, 1675, 1676, 1677, 1678, 1679, 1680, 1681, 1682, 1724, 1725, 1726, 1727, 1752, 1753, 1754, 1755, 1756, 1757, 1758, 1728, 1729, 1730, 1731, 1740, 1741] (by decide +kernel) (by decide +kernel)
set_option maxRecDepth 20000 in
theorem gL_law_X10_proof : GoodIn wsL_law (wsV RL 167 RX10 yX10_proof wsX10_proof) := goodIn_app (goodIn_of _ (by decide +kernel)) ggL_law_X10_proof
theorem dL_law_1275 : decode cL_law 1275 = .ok (.invokevirtual 167, 3) := by decide +kernel
theorem dL_law_1278 : decode cL_law 1278 = .ok (.aload_n 2, 1) := by decide +kernel
theorem dL_law_1279 : decode cL_law 1279 = .ok (.aload_n 0, 1) := by decide +kernel
theorem dL_law_1280 : decode cL_law 1280 = .ok (.iload_n 3, 1) := by decide +kernel
theorem dL_law_1281 : decode cL_law 1281 = .ok (.iconst 1, 1) := by decide +kernel
theorem dL_law_1282 : decode cL_law 1282 = .ok (.iadd, 1) := by decide +kernel
theorem dL_law_1283 : decode cL_law 1283 = .ok (.iaload, 1) := by decide +kernel
set_option maxRecDepth 20000 in
theorem ggL_law_X11_proof : GoodIn wsL_law wsX11_proof := goodIn_r _ [1232, 164, 1176, 1177, 1178, 5, 1179, 130, 131, 132, 1180, 1181, 1182, 912, 182, 183, 184, 636, 637, 638, 639, 136, 765, 766, 767, 768, 1183, 1184, 1185, 1186, 937, 938, 939, 1187, 1188, 1189, 1190, 137, 588, 589, 590, 591, 138, 1683, 1684, 1685, 1686, 1687, 1688, 1689, 1690, 1691, 1692, 1693, 1694, 1695, 1696, 1697, 1698, 1699, 1700, 1701, 1702, 1703, 1704, 1705, 1706, 1707, 1708, 1709, 1710, 1711, 1712, 1713] (by decide +kernel) (by decide +kernel)
set_option maxRecDepth 20000 in
theorem gL_law_X11_proof : GoodIn wsL_law (wsV RL 170 RX11 yX11_proof wsX11_proof) := goodIn_app (goodIn_of _ (by decide +kernel)) ggL_law_X11_proof
theorem dL_law_1284 : decode cL_law 1284 = .ok (.invokevirtual 170, 3) := by decide +kernel
theorem dL_law_1287 : decode cL_law 1287 = .ok (.if_icmp .eq 846, 3) := by decide +kernel
theorem dL_law_1292 : decode cL_law 1292 = .ok (.aload_n 1, 1) := by decide +kernel
theorem dL_law_1293 : decode cL_law 1293 = .ok (.aload_n 0, 1) := by decide +kernel
theorem dL_law_1294 : decode cL_law 1294 = .ok (.iload_n 3, 1) := by decide +kernel
theorem dL_law_1295 : decode cL_law 1295 = .ok (.iconst 1, 1) := by decide +kernel
theorem dL_law_1296 : decode cL_law 1296 = .ok (.iadd, 1) := by decide +kernel
theorem dL_law_1297 : decode cL_law 1297 = .ok (.iaload, 1) := by decide +kernel
theorem dL_law_1298 : decode cL_law 1298 = .ok (.aload_n 0, 1) := by decide +kernel
theorem dL_law_1299 : decode cL_law 1299 = .ok (.iload_n 3, 1) := by decide +kernel
theorem dL_law_1300 : decode cL_law 1300 = .ok (.iconst 2, 1) := by decide +kernel
theorem dL_law_1301 : decode cL_law 1301 = .ok (.iadd, 1) := by decide +kernel
theorem dL_law_1302 : decode cL_law 1302 = .ok (.iaload, 1) := by decide +kernel
theorem dL_law_1303 : decode cL_law 1303 = .ok (.aload_n 0, 1) := by decide +kernel
theorem dL_law_1304 : decode cL_law 1304 = .ok (.iload_n 3, 1) := by decide +kernel
theorem dL_law_1305 : decode cL_law 1305 = .ok (.iconst 3, 1) := by decide +kernel
theorem dL_law_1306 : decode cL_law 1306 = .ok (.iadd, 1) := by decide +kernel
theorem dL_law_1307 : decode cL_law 1307 = .ok (.iaload, 1) := by decide +kernel
set_option maxRecDepth 20000 in
theorem ggL_law_X10_duel : GoodIn wsL_law wsX10_duel := goodIn_r _ [1236, 24, 35, 1237, 1238, 1239, 2, 1240, 530, 531, 532, 533, 528, 534, 535, 320, 321, 39, 322, 323, 544, 545, 546, 547, 549, 550, 551, 552, 553, 330, 331, 332, 81, 319, 1033, 923, 924, 925, 926, 927, 928, 1241, 1242, 1243, 64, 1244, 72, 203, 403, 404, 1245, 537, 538, 539, 74, 386, 1246, 1247, 1248, 1672, 1673, 1674, 1675, 1676, 1677, 1678, 1679, 1680, 1681, 1682, 1724, 1725, 1726, 1727, 1732, 1733, 1734, 1735, 1736, 1737, 1738, 1739, 1740, 1741, 1752, 1753, 1754, 1755, 1756, 1757, 1758] (by decide +kernel) (by decide +kernel)
set_option maxRecDepth 20000 in
theorem gL_law_X10_duel : GoodIn wsL_law (wsV RL 171 RX10 yX10_duel wsX10_duel) := goodIn_app (goodIn_of _ (by decide +kernel)) ggL_law_X10_duel
theorem dL_law_1308 : decode cL_law 1308 = .ok (.invokevirtual 171, 3) := by decide +kernel
theorem dL_law_1311 : decode cL_law 1311 = .ok (.aload_n 2, 1) := by decide +kernel
theorem dL_law_1312 : decode cL_law 1312 = .ok (.aload_n 0, 1) := by decide +kernel
theorem dL_law_1313 : decode cL_law 1313 = .ok (.iload_n 3, 1) := by decide +kernel
theorem dL_law_1314 : decode cL_law 1314 = .ok (.iconst 1, 1) := by decide +kernel
theorem dL_law_1315 : decode cL_law 1315 = .ok (.iadd, 1) := by decide +kernel
theorem dL_law_1316 : decode cL_law 1316 = .ok (.iaload, 1) := by decide +kernel
theorem dL_law_1317 : decode cL_law 1317 = .ok (.aload_n 0, 1) := by decide +kernel
theorem dL_law_1318 : decode cL_law 1318 = .ok (.iload_n 3, 1) := by decide +kernel
theorem dL_law_1319 : decode cL_law 1319 = .ok (.iconst 2, 1) := by decide +kernel
theorem dL_law_1320 : decode cL_law 1320 = .ok (.iadd, 1) := by decide +kernel
theorem dL_law_1321 : decode cL_law 1321 = .ok (.iaload, 1) := by decide +kernel
theorem dL_law_1322 : decode cL_law 1322 = .ok (.aload_n 0, 1) := by decide +kernel
theorem dL_law_1323 : decode cL_law 1323 = .ok (.iload_n 3, 1) := by decide +kernel
theorem dL_law_1324 : decode cL_law 1324 = .ok (.iconst 3, 1) := by decide +kernel
theorem dL_law_1325 : decode cL_law 1325 = .ok (.iadd, 1) := by decide +kernel
theorem dL_law_1326 : decode cL_law 1326 = .ok (.iaload, 1) := by decide +kernel
set_option maxRecDepth 20000 in
theorem ggL_law_X11_duel : GoodIn wsL_law wsX11_duel := goodIn_r _ [1252, 164, 137, 141, 1253, 1254, 1255, 5, 1256, 679, 680, 681, 682, 573, 574, 575, 576, 182, 183, 184, 577, 578, 579, 580, 139, 581, 582, 583, 584, 142, 143, 572, 585, 586, 587, 588, 589, 590, 591, 138, 592, 593, 594, 595, 596, 597, 598, 599, 600, 601, 602, 603, 604, 605, 606, 607, 608, 609, 610, 611, 612, 613, 614, 937, 938, 939, 1257, 1258, 1259, 1683, 1684, 1685, 1686, 1687, 1688, 1689, 1690, 1691, 1692, 1693, 1694, 1695, 1696, 1697, 1698, 1699, 1700, 1701, 1702, 1703, 1704, 1705, 1706, 1707, 1708, 1709, 1710, 1711, 1712, 1713] (by decide +kernel) (by decide +kernel)
set_option maxRecDepth 20000 in
theorem gL_law_X11_duel : GoodIn wsL_law (wsV RL 174 RX11 yX11_duel wsX11_duel) := goodIn_app (goodIn_of _ (by decide +kernel)) ggL_law_X11_duel
theorem dL_law_1327 : decode cL_law 1327 = .ok (.invokevirtual 174, 3) := by decide +kernel
theorem dL_law_1330 : decode cL_law 1330 = .ok (.if_icmp .eq 803, 3) := by decide +kernel
theorem dL_law_1335 : decode cL_law 1335 = .ok (.aload_n 1, 1) := by decide +kernel
theorem dL_law_1336 : decode cL_law 1336 = .ok (.aload_n 0, 1) := by decide +kernel
theorem dL_law_1337 : decode cL_law 1337 = .ok (.iload_n 3, 1) := by decide +kernel
theorem dL_law_1338 : decode cL_law 1338 = .ok (.iconst 1, 1) := by decide +kernel
theorem dL_law_1339 : decode cL_law 1339 = .ok (.iadd, 1) := by decide +kernel
theorem dL_law_1340 : decode cL_law 1340 = .ok (.iaload, 1) := by decide +kernel
theorem dL_law_1341 : decode cL_law 1341 = .ok (.aload_n 0, 1) := by decide +kernel
theorem dL_law_1342 : decode cL_law 1342 = .ok (.iload_n 3, 1) := by decide +kernel
theorem dL_law_1343 : decode cL_law 1343 = .ok (.iconst 2, 1) := by decide +kernel
theorem dL_law_1344 : decode cL_law 1344 = .ok (.iadd, 1) := by decide +kernel
theorem dL_law_1345 : decode cL_law 1345 = .ok (.iaload, 1) := by decide +kernel
set_option maxRecDepth 20000 in
theorem ggL_law_X10_lay : GoodIn wsL_law wsX10_lay := goodIn_r _ [1263, 24, 35, 1264, 1265, 1266, 2, 1267, 1237, 1238, 1239, 1240, 530, 531, 532, 533, 528, 534, 535, 320, 321, 39, 322, 323, 544, 545, 546, 547, 549, 550, 551, 552, 553, 330, 331, 332, 81, 319, 1268, 1269, 1270, 64, 1271, 72, 203, 403, 404, 1272, 1273, 1274, 1275, 1276, 215, 216, 217, 1277, 1278, 1279, 1280, 1245, 537, 538, 539, 74, 386, 1281, 1672, 1673, 1674, 1675, 1676, 1677, 1678, 1679, 1680, 1681, 1682, 1724, 1725, 1726, 1727, 1732, 1733, 1734, 1735, 1736, 1737, 1738, 1739, 1740, 1741, 1752, 1753, 1754, 1755, 1756, 1757, 1758] (by decide +kernel) (by decide +kernel)
set_option maxRecDepth 20000 in
theorem gL_law_X10_lay : GoodIn wsL_law (wsV RL 175 RX10 yX10_lay wsX10_lay) := goodIn_app (goodIn_of _ (by decide +kernel)) ggL_law_X10_lay
theorem dL_law_1346 : decode cL_law 1346 = .ok (.invokevirtual 175, 3) := by decide +kernel
theorem dL_law_1349 : decode cL_law 1349 = .ok (.aload_n 2, 1) := by decide +kernel
theorem dL_law_1350 : decode cL_law 1350 = .ok (.aload_n 0, 1) := by decide +kernel
theorem dL_law_1351 : decode cL_law 1351 = .ok (.iload_n 3, 1) := by decide +kernel
theorem dL_law_1352 : decode cL_law 1352 = .ok (.iconst 1, 1) := by decide +kernel
theorem dL_law_1353 : decode cL_law 1353 = .ok (.iadd, 1) := by decide +kernel
theorem dL_law_1354 : decode cL_law 1354 = .ok (.iaload, 1) := by decide +kernel
theorem dL_law_1355 : decode cL_law 1355 = .ok (.aload_n 0, 1) := by decide +kernel
theorem dL_law_1356 : decode cL_law 1356 = .ok (.iload_n 3, 1) := by decide +kernel
theorem dL_law_1357 : decode cL_law 1357 = .ok (.iconst 2, 1) := by decide +kernel
theorem dL_law_1358 : decode cL_law 1358 = .ok (.iadd, 1) := by decide +kernel
theorem dL_law_1359 : decode cL_law 1359 = .ok (.iaload, 1) := by decide +kernel
set_option maxRecDepth 20000 in
theorem ggL_law_X11_lay : GoodIn wsL_law wsX11_lay := goodIn_r _ [1285, 164, 1253, 1254, 1255, 5, 1256, 679, 680, 681, 682, 573, 574, 575, 576, 137, 182, 183, 184, 577, 578, 579, 580, 139, 581, 582, 583, 584, 141, 142, 143, 572, 585, 586, 587, 588, 589, 590, 591, 138, 592, 593, 594, 595, 596, 597, 598, 599, 600, 601, 602, 603, 604, 605, 606, 607, 608, 609, 610, 611, 612, 613, 614, 1286, 1287, 1288, 1289, 1290, 1291, 1292, 1293, 1294, 1295, 1296, 1297, 1683, 1684, 1685, 1686, 1687, 1688, 1689, 1690, 1691, 1692, 1693, 1694, 1695, 1696, 1697, 1698, 1699, 1700, 1701, 1702, 1703, 1704, 1705, 1706, 1707, 1708, 1709, 1710, 1711, 1712, 1713] (by decide +kernel) (by decide +kernel)
set_option maxRecDepth 20000 in
theorem gL_law_X11_lay : GoodIn wsL_law (wsV RL 178 RX11 yX11_lay wsX11_lay) := goodIn_app (goodIn_of _ (by decide +kernel)) ggL_law_X11_lay
theorem dL_law_1360 : decode cL_law 1360 = .ok (.invokevirtual 178, 3) := by decide +kernel
theorem dL_law_1363 : decode cL_law 1363 = .ok (.if_icmp .eq 770, 3) := by decide +kernel
theorem dL_law_1368 : decode cL_law 1368 = .ok (.aload_n 1, 1) := by decide +kernel
theorem dL_law_1369 : decode cL_law 1369 = .ok (.aload_n 0, 1) := by decide +kernel
theorem dL_law_1370 : decode cL_law 1370 = .ok (.iload_n 3, 1) := by decide +kernel
theorem dL_law_1371 : decode cL_law 1371 = .ok (.iconst 1, 1) := by decide +kernel
theorem dL_law_1372 : decode cL_law 1372 = .ok (.iadd, 1) := by decide +kernel
theorem dL_law_1373 : decode cL_law 1373 = .ok (.iaload, 1) := by decide +kernel
theorem dL_law_1374 : decode cL_law 1374 = .ok (.aload_n 0, 1) := by decide +kernel
theorem dL_law_1375 : decode cL_law 1375 = .ok (.iload_n 3, 1) := by decide +kernel
theorem dL_law_1376 : decode cL_law 1376 = .ok (.iconst 2, 1) := by decide +kernel
theorem dL_law_1377 : decode cL_law 1377 = .ok (.iadd, 1) := by decide +kernel
theorem dL_law_1378 : decode cL_law 1378 = .ok (.iaload, 1) := by decide +kernel
set_option maxRecDepth 20000 in
theorem ggL_law_X10_lays : GoodIn wsL_law wsX10_lays := goodIn_r _ [1267, 24, 35, 1237, 1238, 1239, 2, 1240, 530, 531, 532, 533, 528, 534, 535, 320, 321, 39, 322, 323, 544, 545, 546, 547, 549, 550, 551, 552, 553, 330, 331, 332, 81, 319, 1268, 1269, 1270, 64, 1271, 72, 203, 403, 404, 1272, 1273, 1274, 1275, 1276, 215, 216, 217, 1277, 1278, 1279, 1280, 1245, 537, 538, 539, 74, 386, 1672, 1673, 1674, 1675, 1676, 1677, 1678, 1679, 1680, 1681, 1682, 1724, 1725, 1726, 1727, 1732, 1733, 1734, 1735, 1736, 1737, 1738, 1739, 1740, 1741, 1752, 1753, 1754, 1755, 1756, 1757, 1758] (by decide +kernel) (by decide +kernel)
set_option maxRecDepth 20000 in
theorem gL_law_X10_lays : GoodIn wsL_law (wsV RL 179 RX10 yX10_lays wsX10_lays) := goodIn_app (goodIn_of _ (by decide +kernel)) ggL_law_X10_lays
theorem dL_law_1379 : decode cL_law 1379 = .ok (.invokevirtual 179, 3) := by decide +kernel
theorem dL_law_1382 : decode cL_law 1382 = .ok (.aload_n 2, 1) := by decide +kernel
theorem dL_law_1383 : decode cL_law 1383 = .ok (.aload_n 0, 1) := by decide +kernel
theorem dL_law_1384 : decode cL_law 1384 = .ok (.iload_n 3, 1) := by decide +kernel
theorem dL_law_1385 : decode cL_law 1385 = .ok (.iconst 1, 1) := by decide +kernel
theorem dL_law_1386 : decode cL_law 1386 = .ok (.iadd, 1) := by decide +kernel
theorem dL_law_1387 : decode cL_law 1387 = .ok (.iaload, 1) := by decide +kernel
theorem dL_law_1388 : decode cL_law 1388 = .ok (.aload_n 0, 1) := by decide +kernel
theorem dL_law_1389 : decode cL_law 1389 = .ok (.iload_n 3, 1) := by decide +kernel
theorem dL_law_1390 : decode cL_law 1390 = .ok (.iconst 2, 1) := by decide +kernel
theorem dL_law_1391 : decode cL_law 1391 = .ok (.iadd, 1) := by decide +kernel
theorem dL_law_1392 : decode cL_law 1392 = .ok (.iaload, 1) := by decide +kernel
set_option maxRecDepth 20000 in
theorem ggL_law_X11_lays : GoodIn wsL_law wsX11_lays := goodIn_r _ [1302, 164, 1253, 1254, 1255, 5, 1256, 679, 680, 681, 682, 573, 574, 575, 576, 137, 182, 183, 184, 577, 578, 579, 580, 139, 581, 582, 583, 584, 141, 142, 143, 572, 585, 586, 587, 588, 589, 590, 591, 138, 592, 593, 594, 595, 596, 597, 598, 599, 600, 601, 602, 603, 604, 605, 606, 607, 608, 609, 610, 611, 612, 613, 614, 1286, 1287, 1288, 1289, 1290, 1291, 1292, 1293, 1294, 1295, 1296, 1297, 1683, 1684, 1685, 1686, 1687, 1688, 1689, 1690, 1691, 1692, 1693, 1694, 1695, 1696, 1697, 1698, 1699, 1700, 1701, 1702, 1703, 1704, 1705, 1706, 1707, 1708, 1709, 1710, 1711, 1712, 1713] (by decide +kernel) (by decide +kernel)
set_option maxRecDepth 20000 in
theorem gL_law_X11_lays : GoodIn wsL_law (wsV RL 182 RX11 yX11_lays wsX11_lays) := goodIn_app (goodIn_of _ (by decide +kernel)) ggL_law_X11_lays
theorem dL_law_1393 : decode cL_law 1393 = .ok (.invokevirtual 182, 3) := by decide +kernel
theorem dL_law_1396 : decode cL_law 1396 = .ok (.if_icmp .eq 737, 3) := by decide +kernel
theorem dL_law_1401 : decode cL_law 1401 = .ok (.aload_n 1, 1) := by decide +kernel
theorem dL_law_1402 : decode cL_law 1402 = .ok (.aload_n 0, 1) := by decide +kernel
theorem dL_law_1403 : decode cL_law 1403 = .ok (.iload_n 3, 1) := by decide +kernel
theorem dL_law_1404 : decode cL_law 1404 = .ok (.iconst 1, 1) := by decide +kernel
theorem dL_law_1405 : decode cL_law 1405 = .ok (.iadd, 1) := by decide +kernel
theorem dL_law_1406 : decode cL_law 1406 = .ok (.iaload, 1) := by decide +kernel
theorem dL_law_1407 : decode cL_law 1407 = .ok (.aload_n 0, 1) := by decide +kernel
theorem dL_law_1408 : decode cL_law 1408 = .ok (.iload_n 3, 1) := by decide +kernel
theorem dL_law_1409 : decode cL_law 1409 = .ok (.iconst 2, 1) := by decide +kernel
theorem dL_law_1410 : decode cL_law 1410 = .ok (.iadd, 1) := by decide +kernel
theorem dL_law_1411 : decode cL_law 1411 = .ok (.iaload, 1) := by decide +kernel
set_option maxRecDepth 20000 in
theorem ggL_law_X10_reply : GoodIn wsL_law wsX10_reply := goodIn_r _ [1306, 24, 35, 1264, 1265, 1266, 2, 1267, 1237, 1238, 1239, 1240, 530, 531, 532, 533, 528, 534, 535, 320, 321, 39, 322, 323, 544, 545, 546, 547, 549, 550, 551, 552, 553, 330, 331, 332, 81, 319, 1268, 1269, 1270, 64, 1271, 72, 203, 403, 404, 1272, 1273, 1274, 1275, 1276, 215, 216, 217, 1277, 1278, 1279, 1280, 1245, 537, 538, 539, 74, 386, 1307, 1308, 1309, 1310, 1672, 1673, 1674, 1675, 1676, 1677, 1678, 1679, 1680, 1681, 1682, 1724, 1725, 1726, 1727, 1732, 1733, 1734, 1735, 1736, 1737, 1738, 1739, 1740, 1741, 1752, 1753, 1754, 1755, 1756, 1757, 1758] (by decide +kernel) (by decide +kernel)
set_option maxRecDepth 20000 in
theorem gL_law_X10_reply : GoodIn wsL_law (wsV RL 183 RX10 yX10_reply wsX10_reply) := goodIn_app (goodIn_of _ (by decide +kernel)) ggL_law_X10_reply
theorem dL_law_1412 : decode cL_law 1412 = .ok (.invokevirtual 183, 3) := by decide +kernel
theorem dL_law_1415 : decode cL_law 1415 = .ok (.aload_n 2, 1) := by decide +kernel
theorem dL_law_1416 : decode cL_law 1416 = .ok (.aload_n 0, 1) := by decide +kernel
theorem dL_law_1417 : decode cL_law 1417 = .ok (.iload_n 3, 1) := by decide +kernel
theorem dL_law_1418 : decode cL_law 1418 = .ok (.iconst 1, 1) := by decide +kernel
theorem dL_law_1419 : decode cL_law 1419 = .ok (.iadd, 1) := by decide +kernel
theorem dL_law_1420 : decode cL_law 1420 = .ok (.iaload, 1) := by decide +kernel
theorem dL_law_1421 : decode cL_law 1421 = .ok (.aload_n 0, 1) := by decide +kernel
theorem dL_law_1422 : decode cL_law 1422 = .ok (.iload_n 3, 1) := by decide +kernel
theorem dL_law_1423 : decode cL_law 1423 = .ok (.iconst 2, 1) := by decide +kernel
theorem dL_law_1424 : decode cL_law 1424 = .ok (.iadd, 1) := by decide +kernel
theorem dL_law_1425 : decode cL_law 1425 = .ok (.iaload, 1) := by decide +kernel
set_option maxRecDepth 20000 in
theorem ggL_law_X11_reply : GoodIn wsL_law wsX11_reply := goodIn_r _ [1314, 164, 1253, 1254, 1255, 5, 1256, 679, 680, 681, 682, 573, 574, 575, 576, 137, 182, 183, 184, 577, 578, 579, 580, 139, 581, 582, 583, 584, 141, 142, 143, 572, 585, 586, 587, 588, 589, 590, 591, 138, 592, 593, 594, 595, 596, 597, 598, 599, 600, 601, 602, 603, 604, 605, 606, 607, 608, 609, 610, 611, 612, 613, 614, 1286, 1287, 1288, 1289, 1290, 1291, 1292, 1293, 1294, 1295, 1296, 1297, 1683, 1684, 1685, 1686, 1687, 1688, 1689, 1690, 1691, 1692, 1693, 1694, 1695, 1696, 1697, 1698, 1699, 1700, 1701, 1702, 1703, 1704, 1705, 1706, 1707, 1708, 1709, 1710, 1711, 1712, 1713] (by decide +kernel) (by decide +kernel)
set_option maxRecDepth 20000 in
theorem gL_law_X11_reply : GoodIn wsL_law (wsV RL 186 RX11 yX11_reply wsX11_reply) := goodIn_app (goodIn_of _ (by decide +kernel)) ggL_law_X11_reply
theorem dL_law_1426 : decode cL_law 1426 = .ok (.invokevirtual 186, 3) := by decide +kernel
theorem dL_law_1429 : decode cL_law 1429 = .ok (.if_icmp .eq 704, 3) := by decide +kernel
theorem dL_law_1434 : decode cL_law 1434 = .ok (.aload_n 1, 1) := by decide +kernel
theorem dL_law_1435 : decode cL_law 1435 = .ok (.aload_n 0, 1) := by decide +kernel
theorem dL_law_1436 : decode cL_law 1436 = .ok (.iload_n 3, 1) := by decide +kernel
theorem dL_law_1437 : decode cL_law 1437 = .ok (.iconst 1, 1) := by decide +kernel
theorem dL_law_1438 : decode cL_law 1438 = .ok (.iadd, 1) := by decide +kernel
theorem dL_law_1439 : decode cL_law 1439 = .ok (.iaload, 1) := by decide +kernel
set_option maxRecDepth 20000 in
theorem ggL_law_X10_firm : GoodIn wsL_law wsX10_firm := goodIn_r _ [1318, 1319, 1320, 1321, 2, 1322, 52, 24, 623, 624, 625, 626, 35, 190, 1323, 1324, 1325, 1326, 544, 545, 546, 547, 528, 534, 1327, 1328, 1329, 39, 1330, 323, 1331, 1332, 1333, 51, 1334, 1335, 1336, 1337, 1338, 215, 216, 217, 1339, 1340, 1341, 123, 124, 125, 1342, 330, 331, 332, 81, 319, 320, 321, 322, 1343, 537, 538, 64, 539, 72, 74, 386, 1344, 550, 551, 552, 553, 1345, 1346, 1347, 1348, 203, 403, 404, 1245, 1349, 1350, 1351, 1352, 1353, 1354, 1355, 1356, 1672, 1673, 1674, 1675, 1676, 1677, 1678, 1679, 1680, 1681, 1682, 1724, 1725, 1726, 1727, 1752, 1753, 1754, 1755, 1756, 1757, 1758, 1732, 1733, 1734, 1735, 1736, 1737, 1738, 1739, 1740, 1741, 1748, 1749, 1750, 1751] (by decide +kernel) (by decide +kernel)
set_option maxRecDepth 20000 in
theorem gL_law_X10_firm : GoodIn wsL_law (wsV RL 187 RX10 yX10_firm wsX10_firm) := goodIn_app (goodIn_of _ (by decide +kernel)) ggL_law_X10_firm
theorem dL_law_1440 : decode cL_law 1440 = .ok (.invokevirtual 187, 3) := by decide +kernel
theorem dL_law_1443 : decode cL_law 1443 = .ok (.aload_n 2, 1) := by decide +kernel
theorem dL_law_1444 : decode cL_law 1444 = .ok (.aload_n 0, 1) := by decide +kernel
theorem dL_law_1445 : decode cL_law 1445 = .ok (.iload_n 3, 1) := by decide +kernel
theorem dL_law_1446 : decode cL_law 1446 = .ok (.iconst 1, 1) := by decide +kernel
theorem dL_law_1447 : decode cL_law 1447 = .ok (.iadd, 1) := by decide +kernel
theorem dL_law_1448 : decode cL_law 1448 = .ok (.iaload, 1) := by decide +kernel
set_option maxRecDepth 20000 in
theorem ggL_law_X11_firm : GoodIn wsL_law wsX11_firm := goodIn_r _ [1360, 164, 1361, 1362, 1363, 5, 1364, 137, 636, 637, 638, 639, 136, 182, 183, 184, 577, 578, 579, 580, 139, 581, 582, 583, 584, 141, 142, 143, 572, 585, 586, 587, 588, 589, 590, 591, 138, 592, 593, 594, 595, 596, 597, 598, 599, 600, 601, 602, 603, 604, 605, 606, 607, 608, 609, 610, 1365, 1366, 1367, 1368, 1369, 1370, 1371, 1372, 611, 612, 613, 614, 1086, 1087, 1088, 1089, 1683, 1684, 1685, 1686, 1687, 1688, 1689, 1690, 1691, 1692, 1693, 1694, 1695, 1696, 1697, 1698, 1699, 1700, 1701, 1702, 1703, 1704, 1705, 1706, 1707, 1708, 1709, 1710, 1711, 1712, 1713] (by decide +kernel) (by decide +kernel)
set_option maxRecDepth 20000 in
theorem gL_law_X11_firm : GoodIn wsL_law (wsV RL 190 RX11 yX11_firm wsX11_firm) := goodIn_app (goodIn_of _ (by decide +kernel)) ggL_law_X11_firm
theorem dL_law_1449 : decode cL_law 1449 = .ok (.invokevirtual 190, 3) := by decide +kernel
theorem dL_law_1452 : decode cL_law 1452 = .ok (.if_icmp .eq 681, 3) := by decide +kernel
theorem dL_law_1457 : decode cL_law 1457 = .ok (.aload_n 1, 1) := by decide +kernel
set_option maxRecDepth 20000 in
theorem ggL_law_X10_firms : GoodIn wsL_law wsX10_firms := goodIn_r _ [1376, 52, 24, 623, 624, 625, 2, 626, 35, 190, 1331, 1332, 1333, 51, 1334, 1335, 1336, 1337, 1338, 215, 216, 217, 1339, 1340, 1341, 123, 124, 125, 1342, 330, 331, 39, 332, 81, 319, 320, 321, 322, 323, 1343, 537, 538, 64, 539, 72, 74, 386, 1344, 550, 551, 552, 553, 1345, 1346, 1347, 1348, 203, 403, 404, 1245, 544, 545, 546, 547, 528, 534, 1327, 1328, 1329, 1330, 1349, 1350, 1351, 1352, 1353, 1354, 1355, 1356, 1672, 1673, 1674, 1675, 1676, 1677, 1678, 1679, 1680, 1681, 1682, 1724, 1725, 1726, 1727, 1752, 1753, 1754, 1755, 1756, 1757, 1758, 1740, 1741, 1748, 1749, 1750, 1751, 1732, 1733, 1734, 1735, 1736, 1737, 1738, 1739] (by decide +kernel) (by decide +kernel)
set_option maxRecDepth 20000 in
theorem gL_law_X10_firms : GoodIn wsL_law (wsV RL 191 RX10 yX10_firms wsX10_firms) := goodIn_app (goodIn_of _ (by decide +kernel)) ggL_law_X10_firms
theorem dL_law_1458 : decode cL_law 1458 = .ok (.invokevirtual 191, 3) := by decide +kernel
theorem dL_law_1461 : decode cL_law 1461 = .ok (.aload_n 2, 1) := by decide +kernel
set_option maxRecDepth 20000 in
theorem ggL_law_X11_firms : GoodIn wsL_law wsX11_firms := goodIn_r _ [1380, 164, 137, 636, 637, 638, 5, 639, 136, 577, 578, 579, 580, 139, 581, 582, 583, 584, 141, 142, 143, 572, 585, 586, 587, 588, 589, 590, 591, 138, 592, 593, 594, 595, 596, 597, 598, 599, 600, 601, 602, 603, 604, 605, 606, 607, 608, 609, 610, 1365, 1366, 1367, 1368, 1369, 1370, 1371, 1372, 611, 612, 613, 614, 1086, 1087, 1088, 1089, 1683, 1684, 1685, 1686, 1687, 1688, 1689, 1690, 1691, 1692, 1693, 1694, 1695, 1696, 1697, 1698, 1699, 1700, 1701, 1702, 1703, 1704, 1705, 1706, 1707, 1708, 1709, 1710, 1711, 1712, 1713] (by decide +kernel) (by decide +kernel)
set_option maxRecDepth 20000 in
theorem gL_law_X11_firms : GoodIn wsL_law (wsV RL 194 RX11 yX11_firms wsX11_firms) := goodIn_app (goodIn_of _ (by decide +kernel)) ggL_law_X11_firms
theorem dL_law_1462 : decode cL_law 1462 = .ok (.invokevirtual 194, 3) := by decide +kernel
theorem dL_law_1465 : decode cL_law 1465 = .ok (.if_icmp .eq 668, 3) := by decide +kernel
set_option maxHeartbeats 4000000 in
set_option maxRecDepth 100000 in
theorem law_c33 {p : Program} {e : Env} {s : State} {m : MethodId} {below : List Frame} {meth : Method} {c : Code} (l : Launch) {b L : Nat} {xs : Nat → Int32} (C0 : lw_At p s m meth c b L xs) (h6 : L = 6) (G : va_G) (ct : Nat → ClassId) (a rr bm : Nat → Nat) (H : Heap) (locs : List Loc) (hK : KK G ct s) (hPx : va_P G vwCl (xF a rr ct) H) (hPm : va_P G vwCl (mF bm ct) H) (hDx : va_D (fun q : Nat => s.heap.size ≤ q) (xF a rr ct)) (hDm : va_D (fun q : Nat => s.heap.size ≤ q) (mF bm ct)) (hap : ∀ q, aset (xF a rr ct) q → ¬ aset (mF bm ct) q) (hS : va_S (fun q : Nat => s.heap.size ≤ q) s.heap H locs) (ls : Array Slot) (hl : lv_has ls 4 [(3, .int 0), (2, .ref (bm 0)), (1, .ref (a 0)), (0, .ref b)]) : W p l e room_1 s m #[Value.ref b] below meth c H locs 110 5410 (lw_Z below #[Value.ref b] s) (F0 m 1177 ls []) := by
  have C1 := C0
  obtain ⟨hx, hb, hr, hml, hown, hts, hX, hbl, hlocks, hgv⟩ := C0
  subst h6
  have hown : s.vm.findClass RL = some m.cls := hown
  have hts : ∀ z ∈ wsL_law, z.before #[Value.ref b] s = true := fun z h => hts z (wsL_law_in z h)
  have hbA : ¬ (fun q : Nat => s.heap.size ≤ q) b := Nat.not_le.mpr hbl
  refine lv_aload_n hx hb dL_law_1177 rfl (lv_at hl 2 rfl) ?_
  refine lv_aload_n hx hb dL_law_1178 rfl (lv_at hl 3 rfl) ?_
  refine lv_iload_n hx hb dL_law_1179 rfl (lv_at hl 0 rfl) ?_
  refine lv_iconst (v := 1) hx hb dL_law_1180 (by decide) ?_
  refine lv_iadd hx hb dL_law_1181 ?_
  refine ix_i (y := 1) (by decide) ?_
  refine va_sld hx hb hX hbl hbA hS (in_lit (by decide)) dL_law_1182 ?_
  refine ro_calli (va_runV (As := [.int (xs (1 : Int32).toNatClampNeg)]) (rest := []) ⟨hx, hb, hml, hown, hts⟩ (c_X10_hired l G ct a rr (xs (1 : Int32).toNatClampNeg)) (cwV 1 hts gL_law_X10_hired rfl rfl rfl (by decide +kernel) ⟨Nat.le_of_ble_eq_true rfl, Nat.le_of_ble_eq_true rfl⟩) (ro_preV 10 0 hK hPx rfl rfl) rfl rfl hl.1 rfl (lv_room (Nat.le_of_ble_eq_true rfl)) dL_law_1183 ⟨Nat.le_of_ble_eq_true rfl, Nat.le_of_ble_eq_true rfl⟩) hS hPm (fun r1 H locs wr1 hPm hS => ?_)
  refine lv_aload_n hx hb dL_law_1186 rfl (lv_at hl 1 rfl) ?_
  refine lv_aload_n hx hb dL_law_1187 rfl (lv_at hl 3 rfl) ?_
  refine lv_iload_n hx hb dL_law_1188 rfl (lv_at hl 0 rfl) ?_
  refine lv_iconst (v := 1) hx hb dL_law_1189 (by decide) ?_
  refine lv_iadd hx hb dL_law_1190 ?_
  refine ix_i (y := 1) (by decide) ?_
  refine va_sld hx hb hX hbl hbA hS (in_lit (by decide)) dL_law_1191 ?_
  refine wq_calli (va_runV (As := [.int (xs (1 : Int32).toNatClampNeg)]) (rest := [.int r1]) ⟨hx, hb, hml, hown, hts⟩ (c_X11_hired l G ct bm (xs (1 : Int32).toNatClampNeg)) (cwV 1 hts gL_law_X11_hired rfl rfl rfl (by decide +kernel) ⟨Nat.le_of_ble_eq_true rfl, Nat.le_of_ble_eq_true rfl⟩) (wr_preV 11 0 hK hPm hDm rfl rfl) rfl rfl hl.1 rfl (lv_room (Nat.le_of_ble_eq_true rfl)) dL_law_1192 ⟨Nat.le_of_ble_eq_true rfl, Nat.le_of_ble_eq_true rfl⟩) hS (aset_D hDm) (fun r2 H locs wr2 hk hS => ?_)
  refine lv_icmp_eq (tgt := 2133) hx hb dL_law_1195 (by decide) (fun c_1 => ?_) (fun c_1 => ?_)
  · exact law_next l C1 rfl H locs hS ls (lv_sub hl [0, 3] rfl)
  · exact absurd (wr1.trans wr2.symm) c_1
set_option maxHeartbeats 4000000 in
set_option maxRecDepth 100000 in
theorem law_c34 {p : Program} {e : Env} {s : State} {m : MethodId} {below : List Frame} {meth : Method} {c : Code} (l : Launch) {b L : Nat} {xs : Nat → Int32} (C0 : lw_At p s m meth c b L xs) (h6 : L = 6) (G : va_G) (ct : Nat → ClassId) (a rr bm : Nat → Nat) (H : Heap) (locs : List Loc) (hK : KK G ct s) (hPx : va_P G vwCl (xF a rr ct) H) (hPm : va_P G vwCl (mF bm ct) H) (hDx : va_D (fun q : Nat => s.heap.size ≤ q) (xF a rr ct)) (hDm : va_D (fun q : Nat => s.heap.size ≤ q) (mF bm ct)) (hap : ∀ q, aset (xF a rr ct) q → ¬ aset (mF bm ct) q) (hS : va_S (fun q : Nat => s.heap.size ≤ q) s.heap H locs) (ls : Array Slot) (hl : lv_has ls 4 [(3, .int 0), (2, .ref (bm 0)), (1, .ref (a 0)), (0, .ref b)]) : W p l e room_1 s m #[Value.ref b] below meth c H locs 110 5410 (lw_Z below #[Value.ref b] s) (F0 m 1200 ls []) := by
  have C1 := C0
  obtain ⟨hx, hb, hr, hml, hown, hts, hX, hbl, hlocks, hgv⟩ := C0
  subst h6
  have hown : s.vm.findClass RL = some m.cls := hown
  have hts : ∀ z ∈ wsL_law, z.before #[Value.ref b] s = true := fun z h => hts z (wsL_law_in z h)
  have hbA : ¬ (fun q : Nat => s.heap.size ≤ q) b := Nat.not_le.mpr hbl
  refine lv_aload_n hx hb dL_law_1200 rfl (lv_at hl 2 rfl) ?_
  refine lv_aload_n hx hb dL_law_1201 rfl (lv_at hl 3 rfl) ?_
  refine lv_iload_n hx hb dL_law_1202 rfl (lv_at hl 0 rfl) ?_
  refine lv_iconst (v := 1) hx hb dL_law_1203 (by decide) ?_
  refine lv_iadd hx hb dL_law_1204 ?_
  refine ix_i (y := 1) (by decide) ?_
  refine va_sld hx hb hX hbl hbA hS (in_lit (by decide)) dL_law_1205 ?_
  refine ro_calli (va_runV (As := [.int (xs (1 : Int32).toNatClampNeg)]) (rest := []) ⟨hx, hb, hml, hown, hts⟩ (c_X10_suspects l G ct a rr (xs (1 : Int32).toNatClampNeg)) (cwV 1 hts gL_law_X10_suspects rfl rfl rfl (by decide +kernel) ⟨Nat.le_of_ble_eq_true rfl, Nat.le_of_ble_eq_true rfl⟩) (ro_preV 10 0 hK hPx rfl rfl) rfl rfl hl.1 rfl (lv_room (Nat.le_of_ble_eq_true rfl)) dL_law_1206 ⟨Nat.le_of_ble_eq_true rfl, Nat.le_of_ble_eq_true rfl⟩) hS hPm (fun r1 H locs wr1 hPm hS => ?_)
  refine lv_aload_n hx hb dL_law_1209 rfl (lv_at hl 1 rfl) ?_
  refine lv_aload_n hx hb dL_law_1210 rfl (lv_at hl 3 rfl) ?_
  refine lv_iload_n hx hb dL_law_1211 rfl (lv_at hl 0 rfl) ?_
  refine lv_iconst (v := 1) hx hb dL_law_1212 (by decide) ?_
  refine lv_iadd hx hb dL_law_1213 ?_
  refine ix_i (y := 1) (by decide) ?_
  refine va_sld hx hb hX hbl hbA hS (in_lit (by decide)) dL_law_1214 ?_
  refine wq_calli (va_runV (As := [.int (xs (1 : Int32).toNatClampNeg)]) (rest := [.int r1]) ⟨hx, hb, hml, hown, hts⟩ (c_X11_suspects l G ct bm (xs (1 : Int32).toNatClampNeg)) (cwV 1 hts gL_law_X11_suspects rfl rfl rfl (by decide +kernel) ⟨Nat.le_of_ble_eq_true rfl, Nat.le_of_ble_eq_true rfl⟩) (wr_preV 11 0 hK hPm hDm rfl rfl) rfl rfl hl.1 rfl (lv_room (Nat.le_of_ble_eq_true rfl)) dL_law_1215 ⟨Nat.le_of_ble_eq_true rfl, Nat.le_of_ble_eq_true rfl⟩) hS (aset_D hDm) (fun r2 H locs wr2 hk hS => ?_)
  refine lv_icmp_eq (tgt := 2133) hx hb dL_law_1218 (by decide) (fun c_1 => ?_) (fun c_1 => ?_)
  · exact law_next l C1 rfl H locs hS ls (lv_sub hl [0, 3] rfl)
  · exact absurd (wr1.trans wr2.symm) c_1
set_option maxHeartbeats 4000000 in
set_option maxRecDepth 100000 in
theorem law_c35 {p : Program} {e : Env} {s : State} {m : MethodId} {below : List Frame} {meth : Method} {c : Code} (l : Launch) {b L : Nat} {xs : Nat → Int32} (C0 : lw_At p s m meth c b L xs) (h6 : L = 6) (G : va_G) (ct : Nat → ClassId) (a rr bm : Nat → Nat) (H : Heap) (locs : List Loc) (hK : KK G ct s) (hPx : va_P G vwCl (xF a rr ct) H) (hPm : va_P G vwCl (mF bm ct) H) (hDx : va_D (fun q : Nat => s.heap.size ≤ q) (xF a rr ct)) (hDm : va_D (fun q : Nat => s.heap.size ≤ q) (mF bm ct)) (hap : ∀ q, aset (xF a rr ct) q → ¬ aset (mF bm ct) q) (hS : va_S (fun q : Nat => s.heap.size ≤ q) s.heap H locs) (ls : Array Slot) (hl : lv_has ls 4 [(3, .int 0), (2, .ref (bm 0)), (1, .ref (a 0)), (0, .ref b)]) : W p l e room_1 s m #[Value.ref b] below meth c H locs 110 5410 (lw_Z below #[Value.ref b] s) (F0 m 1223 ls []) := by
  have C1 := C0
  obtain ⟨hx, hb, hr, hml, hown, hts, hX, hbl, hlocks, hgv⟩ := C0
  subst h6
  have hown : s.vm.findClass RL = some m.cls := hown
  have hts : ∀ z ∈ wsL_law, z.before #[Value.ref b] s = true := fun z h => hts z (wsL_law_in z h)
  have hbA : ¬ (fun q : Nat => s.heap.size ≤ q) b := Nat.not_le.mpr hbl
  refine lv_aload_n hx hb dL_law_1223 rfl (lv_at hl 2 rfl) ?_
  refine lv_aload_n hx hb dL_law_1224 rfl (lv_at hl 3 rfl) ?_
  refine lv_iload_n hx hb dL_law_1225 rfl (lv_at hl 0 rfl) ?_
  refine lv_iconst (v := 1) hx hb dL_law_1226 (by decide) ?_
  refine lv_iadd hx hb dL_law_1227 ?_
  refine ix_i (y := 1) (by decide) ?_
  refine va_sld hx hb hX hbl hbA hS (in_lit (by decide)) dL_law_1228 ?_
  refine ro_calli (va_runV (As := [.int (xs (1 : Int32).toNatClampNeg)]) (rest := []) ⟨hx, hb, hml, hown, hts⟩ (c_X10_watch l G ct a rr (xs (1 : Int32).toNatClampNeg)) (cwV 1 hts gL_law_X10_watch rfl rfl rfl (by decide +kernel) ⟨Nat.le_of_ble_eq_true rfl, Nat.le_of_ble_eq_true rfl⟩) (ro_preV 10 0 hK hPx rfl rfl) rfl rfl hl.1 rfl (lv_room (Nat.le_of_ble_eq_true rfl)) dL_law_1229 ⟨Nat.le_of_ble_eq_true rfl, Nat.le_of_ble_eq_true rfl⟩) hS hPm (fun r1 H locs wr1 hPm hS => ?_)
  refine lv_aload_n hx hb dL_law_1232 rfl (lv_at hl 1 rfl) ?_
  refine lv_aload_n hx hb dL_law_1233 rfl (lv_at hl 3 rfl) ?_
  refine lv_iload_n hx hb dL_law_1234 rfl (lv_at hl 0 rfl) ?_
  refine lv_iconst (v := 1) hx hb dL_law_1235 (by decide) ?_
  refine lv_iadd hx hb dL_law_1236 ?_
  refine ix_i (y := 1) (by decide) ?_
  refine va_sld hx hb hX hbl hbA hS (in_lit (by decide)) dL_law_1237 ?_
  refine wq_calli (va_runV (As := [.int (xs (1 : Int32).toNatClampNeg)]) (rest := [.int r1]) ⟨hx, hb, hml, hown, hts⟩ (c_X11_watch l G ct bm (xs (1 : Int32).toNatClampNeg)) (cwV 1 hts gL_law_X11_watch rfl rfl rfl (by decide +kernel) ⟨Nat.le_of_ble_eq_true rfl, Nat.le_of_ble_eq_true rfl⟩) (wr_preV 11 0 hK hPm hDm rfl rfl) rfl rfl hl.1 rfl (lv_room (Nat.le_of_ble_eq_true rfl)) dL_law_1238 ⟨Nat.le_of_ble_eq_true rfl, Nat.le_of_ble_eq_true rfl⟩) hS (aset_D hDm) (fun r2 H locs wr2 hk hS => ?_)
  refine lv_icmp_eq (tgt := 2133) hx hb dL_law_1241 (by decide) (fun c_1 => ?_) (fun c_1 => ?_)
  · exact law_next l C1 rfl H locs hS ls (lv_sub hl [0, 3] rfl)
  · exact absurd (wr1.trans wr2.symm) c_1
set_option maxHeartbeats 4000000 in
set_option maxRecDepth 100000 in
theorem law_c36 {p : Program} {e : Env} {s : State} {m : MethodId} {below : List Frame} {meth : Method} {c : Code} (l : Launch) {b L : Nat} {xs : Nat → Int32} (C0 : lw_At p s m meth c b L xs) (h6 : L = 6) (G : va_G) (ct : Nat → ClassId) (a rr bm : Nat → Nat) (H : Heap) (locs : List Loc) (hK : KK G ct s) (hPx : va_P G vwCl (xF a rr ct) H) (hPm : va_P G vwCl (mF bm ct) H) (hDx : va_D (fun q : Nat => s.heap.size ≤ q) (xF a rr ct)) (hDm : va_D (fun q : Nat => s.heap.size ≤ q) (mF bm ct)) (hap : ∀ q, aset (xF a rr ct) q → ¬ aset (mF bm ct) q) (hS : va_S (fun q : Nat => s.heap.size ≤ q) s.heap H locs) (ls : Array Slot) (hl : lv_has ls 4 [(3, .int 0), (2, .ref (bm 0)), (1, .ref (a 0)), (0, .ref b)]) : W p l e room_1 s m #[Value.ref b] below meth c H locs 110 5410 (lw_Z below #[Value.ref b] s) (F0 m 1246 ls []) := by
  have C1 := C0
  obtain ⟨hx, hb, hr, hml, hown, hts, hX, hbl, hlocks, hgv⟩ := C0
  subst h6
  have hown : s.vm.findClass RL = some m.cls := hown
  have hts : ∀ z ∈ wsL_law, z.before #[Value.ref b] s = true := fun z h => hts z (wsL_law_in z h)
  have hbA : ¬ (fun q : Nat => s.heap.size ≤ q) b := Nat.not_le.mpr hbl
  refine lv_aload_n hx hb dL_law_1246 rfl (lv_at hl 2 rfl) ?_
  refine lv_aload_n hx hb dL_law_1247 rfl (lv_at hl 3 rfl) ?_
  refine lv_iload_n hx hb dL_law_1248 rfl (lv_at hl 0 rfl) ?_
  refine lv_iconst (v := 1) hx hb dL_law_1249 (by decide) ?_
  refine lv_iadd hx hb dL_law_1250 ?_
  refine ix_i (y := 1) (by decide) ?_
  refine va_sld hx hb hX hbl hbA hS (in_lit (by decide)) dL_law_1251 ?_
  refine ro_calli (va_runV (As := [.int (xs (1 : Int32).toNatClampNeg)]) (rest := []) ⟨hx, hb, hml, hown, hts⟩ (c_X10_leaves l G ct a rr (xs (1 : Int32).toNatClampNeg)) (cwV 1 hts gL_law_X10_leaves rfl rfl rfl (by decide +kernel) ⟨Nat.le_of_ble_eq_true rfl, Nat.le_of_ble_eq_true rfl⟩) (ro_preV 10 0 hK hPx rfl rfl) rfl rfl hl.1 rfl (lv_room (Nat.le_of_ble_eq_true rfl)) dL_law_1252 ⟨Nat.le_of_ble_eq_true rfl, Nat.le_of_ble_eq_true rfl⟩) hS hPm (fun r1 H locs wr1 hPm hS => ?_)
  refine lv_aload_n hx hb dL_law_1255 rfl (lv_at hl 1 rfl) ?_
  refine lv_aload_n hx hb dL_law_1256 rfl (lv_at hl 3 rfl) ?_
  refine lv_iload_n hx hb dL_law_1257 rfl (lv_at hl 0 rfl) ?_
  refine lv_iconst (v := 1) hx hb dL_law_1258 (by decide) ?_
  refine lv_iadd hx hb dL_law_1259 ?_
  refine ix_i (y := 1) (by decide) ?_
  refine va_sld hx hb hX hbl hbA hS (in_lit (by decide)) dL_law_1260 ?_
  refine wq_calli (va_runV (As := [.int (xs (1 : Int32).toNatClampNeg)]) (rest := [.int r1]) ⟨hx, hb, hml, hown, hts⟩ (c_X11_leaves l G ct bm (xs (1 : Int32).toNatClampNeg)) (cwV 1 hts gL_law_X11_leaves rfl rfl rfl (by decide +kernel) ⟨Nat.le_of_ble_eq_true rfl, Nat.le_of_ble_eq_true rfl⟩) (wr_preV 11 0 hK hPm hDm rfl rfl) rfl rfl hl.1 rfl (lv_room (Nat.le_of_ble_eq_true rfl)) dL_law_1261 ⟨Nat.le_of_ble_eq_true rfl, Nat.le_of_ble_eq_true rfl⟩) hS (aset_D hDm) (fun r2 H locs wr2 hk hS => ?_)
  refine lv_icmp_eq (tgt := 2133) hx hb dL_law_1264 (by decide) (fun c_1 => ?_) (fun c_1 => ?_)
  · exact law_next l C1 rfl H locs hS ls (lv_sub hl [0, 3] rfl)
  · exact absurd (wr1.trans wr2.symm) c_1
set_option maxHeartbeats 4000000 in
set_option maxRecDepth 100000 in
theorem law_c37 {p : Program} {e : Env} {s : State} {m : MethodId} {below : List Frame} {meth : Method} {c : Code} (l : Launch) {b L : Nat} {xs : Nat → Int32} (C0 : lw_At p s m meth c b L xs) (h6 : L = 6) (G : va_G) (ct : Nat → ClassId) (a rr bm : Nat → Nat) (H : Heap) (locs : List Loc) (hK : KK G ct s) (hPx : va_P G vwCl (xF a rr ct) H) (hPm : va_P G vwCl (mF bm ct) H) (hDx : va_D (fun q : Nat => s.heap.size ≤ q) (xF a rr ct)) (hDm : va_D (fun q : Nat => s.heap.size ≤ q) (mF bm ct)) (hap : ∀ q, aset (xF a rr ct) q → ¬ aset (mF bm ct) q) (hS : va_S (fun q : Nat => s.heap.size ≤ q) s.heap H locs) (ls : Array Slot) (hl : lv_has ls 4 [(3, .int 0), (2, .ref (bm 0)), (1, .ref (a 0)), (0, .ref b)]) : W p l e room_1 s m #[Value.ref b] below meth c H locs 110 5410 (lw_Z below #[Value.ref b] s) (F0 m 1269 ls []) := by
  have C1 := C0
  obtain ⟨hx, hb, hr, hml, hown, hts, hX, hbl, hlocks, hgv⟩ := C0
  subst h6
  have hown : s.vm.findClass RL = some m.cls := hown
  have hts : ∀ z ∈ wsL_law, z.before #[Value.ref b] s = true := fun z h => hts z (wsL_law_in z h)
  have hbA : ¬ (fun q : Nat => s.heap.size ≤ q) b := Nat.not_le.mpr hbl
  refine lv_aload_n hx hb dL_law_1269 rfl (lv_at hl 2 rfl) ?_
  refine lv_aload_n hx hb dL_law_1270 rfl (lv_at hl 3 rfl) ?_
  refine lv_iload_n hx hb dL_law_1271 rfl (lv_at hl 0 rfl) ?_
  refine lv_iconst (v := 1) hx hb dL_law_1272 (by decide) ?_
  refine lv_iadd hx hb dL_law_1273 ?_
  refine ix_i (y := 1) (by decide) ?_
  refine va_sld hx hb hX hbl hbA hS (in_lit (by decide)) dL_law_1274 ?_
  refine ro_calli (va_runV (As := [.int (xs (1 : Int32).toNatClampNeg)]) (rest := []) ⟨hx, hb, hml, hown, hts⟩ (c_X10_proof l G ct a rr (xs (1 : Int32).toNatClampNeg)) (cwV 1 hts gL_law_X10_proof rfl rfl rfl (by decide +kernel) ⟨Nat.le_of_ble_eq_true rfl, Nat.le_of_ble_eq_true rfl⟩) (ro_preV 10 0 hK hPx rfl rfl) rfl rfl hl.1 rfl (lv_room (Nat.le_of_ble_eq_true rfl)) dL_law_1275 ⟨Nat.le_of_ble_eq_true rfl, Nat.le_of_ble_eq_true rfl⟩) hS hPm (fun r1 H locs wr1 hPm hS => ?_)
  refine lv_aload_n hx hb dL_law_1278 rfl (lv_at hl 1 rfl) ?_
  refine lv_aload_n hx hb dL_law_1279 rfl (lv_at hl 3 rfl) ?_
  refine lv_iload_n hx hb dL_law_1280 rfl (lv_at hl 0 rfl) ?_
  refine lv_iconst (v := 1) hx hb dL_law_1281 (by decide) ?_
  refine lv_iadd hx hb dL_law_1282 ?_
  refine ix_i (y := 1) (by decide) ?_
  refine va_sld hx hb hX hbl hbA hS (in_lit (by decide)) dL_law_1283 ?_
  refine wq_calli (va_runV (As := [.int (xs (1 : Int32).toNatClampNeg)]) (rest := [.int r1]) ⟨hx, hb, hml, hown, hts⟩ (c_X11_proof l G ct bm (xs (1 : Int32).toNatClampNeg)) (cwV 1 hts gL_law_X11_proof rfl rfl rfl (by decide +kernel) ⟨Nat.le_of_ble_eq_true rfl, Nat.le_of_ble_eq_true rfl⟩) (wr_preV 11 0 hK hPm hDm rfl rfl) rfl rfl hl.1 rfl (lv_room (Nat.le_of_ble_eq_true rfl)) dL_law_1284 ⟨Nat.le_of_ble_eq_true rfl, Nat.le_of_ble_eq_true rfl⟩) hS (aset_D hDm) (fun r2 H locs wr2 hk hS => ?_)
  refine lv_icmp_eq (tgt := 2133) hx hb dL_law_1287 (by decide) (fun c_1 => ?_) (fun c_1 => ?_)
  · exact law_next l C1 rfl H locs hS ls (lv_sub hl [0, 3] rfl)
  · exact absurd (wr1.trans wr2.symm) c_1
set_option maxHeartbeats 4000000 in
set_option maxRecDepth 100000 in
theorem law_c38 {p : Program} {e : Env} {s : State} {m : MethodId} {below : List Frame} {meth : Method} {c : Code} (l : Launch) {b L : Nat} {xs : Nat → Int32} (C0 : lw_At p s m meth c b L xs) (h6 : L = 6) (G : va_G) (ct : Nat → ClassId) (a rr bm : Nat → Nat) (H : Heap) (locs : List Loc) (hK : KK G ct s) (hPx : va_P G vwCl (xF a rr ct) H) (hPm : va_P G vwCl (mF bm ct) H) (hDx : va_D (fun q : Nat => s.heap.size ≤ q) (xF a rr ct)) (hDm : va_D (fun q : Nat => s.heap.size ≤ q) (mF bm ct)) (hap : ∀ q, aset (xF a rr ct) q → ¬ aset (mF bm ct) q) (hS : va_S (fun q : Nat => s.heap.size ≤ q) s.heap H locs) (ls : Array Slot) (hl : lv_has ls 4 [(3, .int 0), (2, .ref (bm 0)), (1, .ref (a 0)), (0, .ref b)]) : W p l e room_1 s m #[Value.ref b] below meth c H locs 110 5410 (lw_Z below #[Value.ref b] s) (F0 m 1292 ls []) := by
  have C1 := C0
  obtain ⟨hx, hb, hr, hml, hown, hts, hX, hbl, hlocks, hgv⟩ := C0
  subst h6
  have hown : s.vm.findClass RL = some m.cls := hown
  have hts : ∀ z ∈ wsL_law, z.before #[Value.ref b] s = true := fun z h => hts z (wsL_law_in z h)
  have hbA : ¬ (fun q : Nat => s.heap.size ≤ q) b := Nat.not_le.mpr hbl
  refine lv_aload_n hx hb dL_law_1292 rfl (lv_at hl 2 rfl) ?_
  refine lv_aload_n hx hb dL_law_1293 rfl (lv_at hl 3 rfl) ?_
  refine lv_iload_n hx hb dL_law_1294 rfl (lv_at hl 0 rfl) ?_
  refine lv_iconst (v := 1) hx hb dL_law_1295 (by decide) ?_
  refine lv_iadd hx hb dL_law_1296 ?_
  refine ix_i (y := 1) (by decide) ?_
  refine va_sld hx hb hX hbl hbA hS (in_lit (by decide)) dL_law_1297 ?_
  refine lv_aload_n hx hb dL_law_1298 rfl (lv_at hl 3 rfl) ?_
  refine lv_iload_n hx hb dL_law_1299 rfl (lv_at hl 0 rfl) ?_
  refine lv_iconst (v := 2) hx hb dL_law_1300 (by decide) ?_
  refine lv_iadd hx hb dL_law_1301 ?_
  refine ix_i (y := 2) (by decide) ?_
  refine va_sld hx hb hX hbl hbA hS (in_lit (by decide)) dL_law_1302 ?_
  refine lv_aload_n hx hb dL_law_1303 rfl (lv_at hl 3 rfl) ?_
  refine lv_iload_n hx hb dL_law_1304 rfl (lv_at hl 0 rfl) ?_
  refine lv_iconst (v := 3) hx hb dL_law_1305 (by decide) ?_
  refine lv_iadd hx hb dL_law_1306 ?_
  refine ix_i (y := 3) (by decide) ?_
  refine va_sld hx hb hX hbl hbA hS (in_lit (by decide)) dL_law_1307 ?_
  refine ro_calli (va_runV (As := [.int (xs (1 : Int32).toNatClampNeg), .int (xs (2 : Int32).toNatClampNeg), .int (xs (3 : Int32).toNatClampNeg)]) (rest := []) ⟨hx, hb, hml, hown, hts⟩ (c_X10_duel l G ct a rr (xs (1 : Int32).toNatClampNeg) (xs (2 : Int32).toNatClampNeg) (xs (3 : Int32).toNatClampNeg)) (cwV 3 hts gL_law_X10_duel rfl rfl rfl (by decide +kernel) ⟨Nat.le_of_ble_eq_true rfl, Nat.le_of_ble_eq_true rfl⟩) (ro_preV 10 0 hK hPx rfl rfl) rfl rfl hl.1 rfl (lv_room (Nat.le_of_ble_eq_true rfl)) dL_law_1308 ⟨Nat.le_of_ble_eq_true rfl, Nat.le_of_ble_eq_true rfl⟩) hS hPm (fun r1 H locs wr1 hPm hS => ?_)
  refine lv_aload_n hx hb dL_law_1311 rfl (lv_at hl 1 rfl) ?_
  refine lv_aload_n hx hb dL_law_1312 rfl (lv_at hl 3 rfl) ?_
  refine lv_iload_n hx hb dL_law_1313 rfl (lv_at hl 0 rfl) ?_
  refine lv_iconst (v := 1) hx hb dL_law_1314 (by decide) ?_
  refine lv_iadd hx hb dL_law_1315 ?_
  refine ix_i (y := 1) (by decide) ?_
  refine va_sld hx hb hX hbl hbA hS (in_lit (by decide)) dL_law_1316 ?_
  refine lv_aload_n hx hb dL_law_1317 rfl (lv_at hl 3 rfl) ?_
  refine lv_iload_n hx hb dL_law_1318 rfl (lv_at hl 0 rfl) ?_
  refine lv_iconst (v := 2) hx hb dL_law_1319 (by decide) ?_
  refine lv_iadd hx hb dL_law_1320 ?_
  refine ix_i (y := 2) (by decide) ?_
  refine va_sld hx hb hX hbl hbA hS (in_lit (by decide)) dL_law_1321 ?_
  refine lv_aload_n hx hb dL_law_1322 rfl (lv_at hl 3 rfl) ?_
  refine lv_iload_n hx hb dL_law_1323 rfl (lv_at hl 0 rfl) ?_
  refine lv_iconst (v := 3) hx hb dL_law_1324 (by decide) ?_
  refine lv_iadd hx hb dL_law_1325 ?_
  refine ix_i (y := 3) (by decide) ?_
  refine va_sld hx hb hX hbl hbA hS (in_lit (by decide)) dL_law_1326 ?_
  refine wq_calli (va_runV (As := [.int (xs (1 : Int32).toNatClampNeg), .int (xs (2 : Int32).toNatClampNeg), .int (xs (3 : Int32).toNatClampNeg)]) (rest := [.int r1]) ⟨hx, hb, hml, hown, hts⟩ (c_X11_duel l G ct bm (xs (1 : Int32).toNatClampNeg) (xs (2 : Int32).toNatClampNeg) (xs (3 : Int32).toNatClampNeg)) (cwV 3 hts gL_law_X11_duel rfl rfl rfl (by decide +kernel) ⟨Nat.le_of_ble_eq_true rfl, Nat.le_of_ble_eq_true rfl⟩) (wr_preV 11 0 hK hPm hDm rfl rfl) rfl rfl hl.1 rfl (lv_room (Nat.le_of_ble_eq_true rfl)) dL_law_1327 ⟨Nat.le_of_ble_eq_true rfl, Nat.le_of_ble_eq_true rfl⟩) hS (aset_D hDm) (fun r2 H locs wr2 hk hS => ?_)
  refine lv_icmp_eq (tgt := 2133) hx hb dL_law_1330 (by decide) (fun c_1 => ?_) (fun c_1 => ?_)
  · exact law_next l C1 rfl H locs hS ls (lv_sub hl [0, 3] rfl)
  · exact absurd (wr1.trans wr2.symm) c_1
set_option maxHeartbeats 4000000 in
set_option maxRecDepth 100000 in
theorem law_c39 {p : Program} {e : Env} {s : State} {m : MethodId} {below : List Frame} {meth : Method} {c : Code} (l : Launch) {b L : Nat} {xs : Nat → Int32} (C0 : lw_At p s m meth c b L xs) (h6 : L = 6) (G : va_G) (ct : Nat → ClassId) (a rr bm : Nat → Nat) (H : Heap) (locs : List Loc) (hK : KK G ct s) (hPx : va_P G vwCl (xF a rr ct) H) (hPm : va_P G vwCl (mF bm ct) H) (hDx : va_D (fun q : Nat => s.heap.size ≤ q) (xF a rr ct)) (hDm : va_D (fun q : Nat => s.heap.size ≤ q) (mF bm ct)) (hap : ∀ q, aset (xF a rr ct) q → ¬ aset (mF bm ct) q) (hS : va_S (fun q : Nat => s.heap.size ≤ q) s.heap H locs) (ls : Array Slot) (hl : lv_has ls 4 [(3, .int 0), (2, .ref (bm 0)), (1, .ref (a 0)), (0, .ref b)]) : W p l e room_1 s m #[Value.ref b] below meth c H locs 110 5410 (lw_Z below #[Value.ref b] s) (F0 m 1335 ls []) := by
  have C1 := C0
  obtain ⟨hx, hb, hr, hml, hown, hts, hX, hbl, hlocks, hgv⟩ := C0
  subst h6
  have hown : s.vm.findClass RL = some m.cls := hown
  have hts : ∀ z ∈ wsL_law, z.before #[Value.ref b] s = true := fun z h => hts z (wsL_law_in z h)
  have hbA : ¬ (fun q : Nat => s.heap.size ≤ q) b := Nat.not_le.mpr hbl
  refine lv_aload_n hx hb dL_law_1335 rfl (lv_at hl 2 rfl) ?_
  refine lv_aload_n hx hb dL_law_1336 rfl (lv_at hl 3 rfl) ?_
  refine lv_iload_n hx hb dL_law_1337 rfl (lv_at hl 0 rfl) ?_
  refine lv_iconst (v := 1) hx hb dL_law_1338 (by decide) ?_
  refine lv_iadd hx hb dL_law_1339 ?_
  refine ix_i (y := 1) (by decide) ?_
  refine va_sld hx hb hX hbl hbA hS (in_lit (by decide)) dL_law_1340 ?_
  refine lv_aload_n hx hb dL_law_1341 rfl (lv_at hl 3 rfl) ?_
  refine lv_iload_n hx hb dL_law_1342 rfl (lv_at hl 0 rfl) ?_
  refine lv_iconst (v := 2) hx hb dL_law_1343 (by decide) ?_
  refine lv_iadd hx hb dL_law_1344 ?_
  refine ix_i (y := 2) (by decide) ?_
  refine va_sld hx hb hX hbl hbA hS (in_lit (by decide)) dL_law_1345 ?_
  refine ro_calli (va_runV (As := [.int (xs (1 : Int32).toNatClampNeg), .int (xs (2 : Int32).toNatClampNeg)]) (rest := []) ⟨hx, hb, hml, hown, hts⟩ (c_X10_lay l G ct a rr (xs (1 : Int32).toNatClampNeg) (xs (2 : Int32).toNatClampNeg)) (cwV 2 hts gL_law_X10_lay rfl rfl rfl (by decide +kernel) ⟨Nat.le_of_ble_eq_true rfl, Nat.le_of_ble_eq_true rfl⟩) (ro_preV 10 0 hK hPx rfl rfl) rfl rfl hl.1 rfl (lv_room (Nat.le_of_ble_eq_true rfl)) dL_law_1346 ⟨Nat.le_of_ble_eq_true rfl, Nat.le_of_ble_eq_true rfl⟩) hS hPm (fun r1 H locs wr1 hPm hS => ?_)
  refine lv_aload_n hx hb dL_law_1349 rfl (lv_at hl 1 rfl) ?_
  refine lv_aload_n hx hb dL_law_1350 rfl (lv_at hl 3 rfl) ?_
  refine lv_iload_n hx hb dL_law_1351 rfl (lv_at hl 0 rfl) ?_
  refine lv_iconst (v := 1) hx hb dL_law_1352 (by decide) ?_
  refine lv_iadd hx hb dL_law_1353 ?_
  refine ix_i (y := 1) (by decide) ?_
  refine va_sld hx hb hX hbl hbA hS (in_lit (by decide)) dL_law_1354 ?_
  refine lv_aload_n hx hb dL_law_1355 rfl (lv_at hl 3 rfl) ?_
  refine lv_iload_n hx hb dL_law_1356 rfl (lv_at hl 0 rfl) ?_
  refine lv_iconst (v := 2) hx hb dL_law_1357 (by decide) ?_
  refine lv_iadd hx hb dL_law_1358 ?_
  refine ix_i (y := 2) (by decide) ?_
  refine va_sld hx hb hX hbl hbA hS (in_lit (by decide)) dL_law_1359 ?_
  refine wq_calli (va_runV (As := [.int (xs (1 : Int32).toNatClampNeg), .int (xs (2 : Int32).toNatClampNeg)]) (rest := [.int r1]) ⟨hx, hb, hml, hown, hts⟩ (c_X11_lay l G ct bm (xs (1 : Int32).toNatClampNeg) (xs (2 : Int32).toNatClampNeg)) (cwV 2 hts gL_law_X11_lay rfl rfl rfl (by decide +kernel) ⟨Nat.le_of_ble_eq_true rfl, Nat.le_of_ble_eq_true rfl⟩) (wr_preV 11 0 hK hPm hDm rfl rfl) rfl rfl hl.1 rfl (lv_room (Nat.le_of_ble_eq_true rfl)) dL_law_1360 ⟨Nat.le_of_ble_eq_true rfl, Nat.le_of_ble_eq_true rfl⟩) hS (aset_D hDm) (fun r2 H locs wr2 hk hS => ?_)
  refine lv_icmp_eq (tgt := 2133) hx hb dL_law_1363 (by decide) (fun c_1 => ?_) (fun c_1 => ?_)
  · exact law_next l C1 rfl H locs hS ls (lv_sub hl [0, 3] rfl)
  · exact absurd (wr1.trans wr2.symm) c_1
set_option maxHeartbeats 4000000 in
set_option maxRecDepth 100000 in
theorem law_c40 {p : Program} {e : Env} {s : State} {m : MethodId} {below : List Frame} {meth : Method} {c : Code} (l : Launch) {b L : Nat} {xs : Nat → Int32} (C0 : lw_At p s m meth c b L xs) (h6 : L = 6) (G : va_G) (ct : Nat → ClassId) (a rr bm : Nat → Nat) (H : Heap) (locs : List Loc) (hK : KK G ct s) (hPx : va_P G vwCl (xF a rr ct) H) (hPm : va_P G vwCl (mF bm ct) H) (hDx : va_D (fun q : Nat => s.heap.size ≤ q) (xF a rr ct)) (hDm : va_D (fun q : Nat => s.heap.size ≤ q) (mF bm ct)) (hap : ∀ q, aset (xF a rr ct) q → ¬ aset (mF bm ct) q) (hS : va_S (fun q : Nat => s.heap.size ≤ q) s.heap H locs) (ls : Array Slot) (hl : lv_has ls 4 [(3, .int 0), (2, .ref (bm 0)), (1, .ref (a 0)), (0, .ref b)]) : W p l e room_1 s m #[Value.ref b] below meth c H locs 110 5410 (lw_Z below #[Value.ref b] s) (F0 m 1368 ls []) := by
  have C1 := C0
  obtain ⟨hx, hb, hr, hml, hown, hts, hX, hbl, hlocks, hgv⟩ := C0
  subst h6
  have hown : s.vm.findClass RL = some m.cls := hown
  have hts : ∀ z ∈ wsL_law, z.before #[Value.ref b] s = true := fun z h => hts z (wsL_law_in z h)
  have hbA : ¬ (fun q : Nat => s.heap.size ≤ q) b := Nat.not_le.mpr hbl
  refine lv_aload_n hx hb dL_law_1368 rfl (lv_at hl 2 rfl) ?_
  refine lv_aload_n hx hb dL_law_1369 rfl (lv_at hl 3 rfl) ?_
  refine lv_iload_n hx hb dL_law_1370 rfl (lv_at hl 0 rfl) ?_
  refine lv_iconst (v := 1) hx hb dL_law_1371 (by decide) ?_
  refine lv_iadd hx hb dL_law_1372 ?_
  refine ix_i (y := 1) (by decide) ?_
  refine va_sld hx hb hX hbl hbA hS (in_lit (by decide)) dL_law_1373 ?_
  refine lv_aload_n hx hb dL_law_1374 rfl (lv_at hl 3 rfl) ?_
  refine lv_iload_n hx hb dL_law_1375 rfl (lv_at hl 0 rfl) ?_
  refine lv_iconst (v := 2) hx hb dL_law_1376 (by decide) ?_
  refine lv_iadd hx hb dL_law_1377 ?_
  refine ix_i (y := 2) (by decide) ?_
  refine va_sld hx hb hX hbl hbA hS (in_lit (by decide)) dL_law_1378 ?_
  refine ro_calli (va_runV (As := [.int (xs (1 : Int32).toNatClampNeg), .int (xs (2 : Int32).toNatClampNeg)]) (rest := []) ⟨hx, hb, hml, hown, hts⟩ (c_X10_lays l G ct a rr (xs (1 : Int32).toNatClampNeg) (xs (2 : Int32).toNatClampNeg)) (cwV 2 hts gL_law_X10_lays rfl rfl rfl (by decide +kernel) ⟨Nat.le_of_ble_eq_true rfl, Nat.le_of_ble_eq_true rfl⟩) (ro_preV 10 0 hK hPx rfl rfl) rfl rfl hl.1 rfl (lv_room (Nat.le_of_ble_eq_true rfl)) dL_law_1379 ⟨Nat.le_of_ble_eq_true rfl, Nat.le_of_ble_eq_true rfl⟩) hS hPm (fun r1 H locs wr1 hPm hS => ?_)
  refine lv_aload_n hx hb dL_law_1382 rfl (lv_at hl 1 rfl) ?_
  refine lv_aload_n hx hb dL_law_1383 rfl (lv_at hl 3 rfl) ?_
  refine lv_iload_n hx hb dL_law_1384 rfl (lv_at hl 0 rfl) ?_
  refine lv_iconst (v := 1) hx hb dL_law_1385 (by decide) ?_
  refine lv_iadd hx hb dL_law_1386 ?_
  refine ix_i (y := 1) (by decide) ?_
  refine va_sld hx hb hX hbl hbA hS (in_lit (by decide)) dL_law_1387 ?_
  refine lv_aload_n hx hb dL_law_1388 rfl (lv_at hl 3 rfl) ?_
  refine lv_iload_n hx hb dL_law_1389 rfl (lv_at hl 0 rfl) ?_
  refine lv_iconst (v := 2) hx hb dL_law_1390 (by decide) ?_
  refine lv_iadd hx hb dL_law_1391 ?_
  refine ix_i (y := 2) (by decide) ?_
  refine va_sld hx hb hX hbl hbA hS (in_lit (by decide)) dL_law_1392 ?_
  refine wq_calli (va_runV (As := [.int (xs (1 : Int32).toNatClampNeg), .int (xs (2 : Int32).toNatClampNeg)]) (rest := [.int r1]) ⟨hx, hb, hml, hown, hts⟩ (c_X11_lays l G ct bm (xs (1 : Int32).toNatClampNeg) (xs (2 : Int32).toNatClampNeg)) (cwV 2 hts gL_law_X11_lays rfl rfl rfl (by decide +kernel) ⟨Nat.le_of_ble_eq_true rfl, Nat.le_of_ble_eq_true rfl⟩) (wr_preV 11 0 hK hPm hDm rfl rfl) rfl rfl hl.1 rfl (lv_room (Nat.le_of_ble_eq_true rfl)) dL_law_1393 ⟨Nat.le_of_ble_eq_true rfl, Nat.le_of_ble_eq_true rfl⟩) hS (aset_D hDm) (fun r2 H locs wr2 hk hS => ?_)
  refine lv_icmp_eq (tgt := 2133) hx hb dL_law_1396 (by decide) (fun c_1 => ?_) (fun c_1 => ?_)
  · exact law_next l C1 rfl H locs hS ls (lv_sub hl [0, 3] rfl)
  · exact absurd (wr1.trans wr2.symm) c_1
set_option maxHeartbeats 4000000 in
set_option maxRecDepth 100000 in
theorem law_c41 {p : Program} {e : Env} {s : State} {m : MethodId} {below : List Frame} {meth : Method} {c : Code} (l : Launch) {b L : Nat} {xs : Nat → Int32} (C0 : lw_At p s m meth c b L xs) (h6 : L = 6) (G : va_G) (ct : Nat → ClassId) (a rr bm : Nat → Nat) (H : Heap) (locs : List Loc) (hK : KK G ct s) (hPx : va_P G vwCl (xF a rr ct) H) (hPm : va_P G vwCl (mF bm ct) H) (hDx : va_D (fun q : Nat => s.heap.size ≤ q) (xF a rr ct)) (hDm : va_D (fun q : Nat => s.heap.size ≤ q) (mF bm ct)) (hap : ∀ q, aset (xF a rr ct) q → ¬ aset (mF bm ct) q) (hS : va_S (fun q : Nat => s.heap.size ≤ q) s.heap H locs) (ls : Array Slot) (hl : lv_has ls 4 [(3, .int 0), (2, .ref (bm 0)), (1, .ref (a 0)), (0, .ref b)]) : W p l e room_1 s m #[Value.ref b] below meth c H locs 110 5410 (lw_Z below #[Value.ref b] s) (F0 m 1401 ls []) := by
  have C1 := C0
  obtain ⟨hx, hb, hr, hml, hown, hts, hX, hbl, hlocks, hgv⟩ := C0
  subst h6
  have hown : s.vm.findClass RL = some m.cls := hown
  have hts : ∀ z ∈ wsL_law, z.before #[Value.ref b] s = true := fun z h => hts z (wsL_law_in z h)
  have hbA : ¬ (fun q : Nat => s.heap.size ≤ q) b := Nat.not_le.mpr hbl
  refine lv_aload_n hx hb dL_law_1401 rfl (lv_at hl 2 rfl) ?_
  refine lv_aload_n hx hb dL_law_1402 rfl (lv_at hl 3 rfl) ?_
  refine lv_iload_n hx hb dL_law_1403 rfl (lv_at hl 0 rfl) ?_
  refine lv_iconst (v := 1) hx hb dL_law_1404 (by decide) ?_
  refine lv_iadd hx hb dL_law_1405 ?_
  refine ix_i (y := 1) (by decide) ?_
  refine va_sld hx hb hX hbl hbA hS (in_lit (by decide)) dL_law_1406 ?_
  refine lv_aload_n hx hb dL_law_1407 rfl (lv_at hl 3 rfl) ?_
  refine lv_iload_n hx hb dL_law_1408 rfl (lv_at hl 0 rfl) ?_
  refine lv_iconst (v := 2) hx hb dL_law_1409 (by decide) ?_
  refine lv_iadd hx hb dL_law_1410 ?_
  refine ix_i (y := 2) (by decide) ?_
  refine va_sld hx hb hX hbl hbA hS (in_lit (by decide)) dL_law_1411 ?_
  refine ro_calli (va_runV (As := [.int (xs (1 : Int32).toNatClampNeg), .int (xs (2 : Int32).toNatClampNeg)]) (rest := []) ⟨hx, hb, hml, hown, hts⟩ (c_X10_reply l G ct a rr (xs (1 : Int32).toNatClampNeg) (xs (2 : Int32).toNatClampNeg)) (cwV 2 hts gL_law_X10_reply rfl rfl rfl (by decide +kernel) ⟨Nat.le_of_ble_eq_true rfl, Nat.le_of_ble_eq_true rfl⟩) (ro_preV 10 0 hK hPx rfl rfl) rfl rfl hl.1 rfl (lv_room (Nat.le_of_ble_eq_true rfl)) dL_law_1412 ⟨Nat.le_of_ble_eq_true rfl, Nat.le_of_ble_eq_true rfl⟩) hS hPm (fun r1 H locs wr1 hPm hS => ?_)
  refine lv_aload_n hx hb dL_law_1415 rfl (lv_at hl 1 rfl) ?_
  refine lv_aload_n hx hb dL_law_1416 rfl (lv_at hl 3 rfl) ?_
  refine lv_iload_n hx hb dL_law_1417 rfl (lv_at hl 0 rfl) ?_
  refine lv_iconst (v := 1) hx hb dL_law_1418 (by decide) ?_
  refine lv_iadd hx hb dL_law_1419 ?_
  refine ix_i (y := 1) (by decide) ?_
  refine va_sld hx hb hX hbl hbA hS (in_lit (by decide)) dL_law_1420 ?_
  refine lv_aload_n hx hb dL_law_1421 rfl (lv_at hl 3 rfl) ?_
  refine lv_iload_n hx hb dL_law_1422 rfl (lv_at hl 0 rfl) ?_
  refine lv_iconst (v := 2) hx hb dL_law_1423 (by decide) ?_
  refine lv_iadd hx hb dL_law_1424 ?_
  refine ix_i (y := 2) (by decide) ?_
  refine va_sld hx hb hX hbl hbA hS (in_lit (by decide)) dL_law_1425 ?_
  refine wq_calli (va_runV (As := [.int (xs (1 : Int32).toNatClampNeg), .int (xs (2 : Int32).toNatClampNeg)]) (rest := [.int r1]) ⟨hx, hb, hml, hown, hts⟩ (c_X11_reply l G ct bm (xs (1 : Int32).toNatClampNeg) (xs (2 : Int32).toNatClampNeg)) (cwV 2 hts gL_law_X11_reply rfl rfl rfl (by decide +kernel) ⟨Nat.le_of_ble_eq_true rfl, Nat.le_of_ble_eq_true rfl⟩) (wr_preV 11 0 hK hPm hDm rfl rfl) rfl rfl hl.1 rfl (lv_room (Nat.le_of_ble_eq_true rfl)) dL_law_1426 ⟨Nat.le_of_ble_eq_true rfl, Nat.le_of_ble_eq_true rfl⟩) hS (aset_D hDm) (fun r2 H locs wr2 hk hS => ?_)
  refine lv_icmp_eq (tgt := 2133) hx hb dL_law_1429 (by decide) (fun c_1 => ?_) (fun c_1 => ?_)
  · exact law_next l C1 rfl H locs hS ls (lv_sub hl [0, 3] rfl)
  · exact absurd (wr1.trans wr2.symm) c_1
set_option maxHeartbeats 4000000 in
set_option maxRecDepth 100000 in
theorem law_c42 {p : Program} {e : Env} {s : State} {m : MethodId} {below : List Frame} {meth : Method} {c : Code} (l : Launch) {b L : Nat} {xs : Nat → Int32} (C0 : lw_At p s m meth c b L xs) (h6 : L = 6) (G : va_G) (ct : Nat → ClassId) (a rr bm : Nat → Nat) (H : Heap) (locs : List Loc) (hK : KK G ct s) (hPx : va_P G vwCl (xF a rr ct) H) (hPm : va_P G vwCl (mF bm ct) H) (hDx : va_D (fun q : Nat => s.heap.size ≤ q) (xF a rr ct)) (hDm : va_D (fun q : Nat => s.heap.size ≤ q) (mF bm ct)) (hap : ∀ q, aset (xF a rr ct) q → ¬ aset (mF bm ct) q) (hS : va_S (fun q : Nat => s.heap.size ≤ q) s.heap H locs) (ls : Array Slot) (hl : lv_has ls 4 [(3, .int 0), (2, .ref (bm 0)), (1, .ref (a 0)), (0, .ref b)]) : W p l e room_1 s m #[Value.ref b] below meth c H locs 110 5410 (lw_Z below #[Value.ref b] s) (F0 m 1434 ls []) := by
  have C1 := C0
  obtain ⟨hx, hb, hr, hml, hown, hts, hX, hbl, hlocks, hgv⟩ := C0
  subst h6
  have hown : s.vm.findClass RL = some m.cls := hown
  have hts : ∀ z ∈ wsL_law, z.before #[Value.ref b] s = true := fun z h => hts z (wsL_law_in z h)
  have hbA : ¬ (fun q : Nat => s.heap.size ≤ q) b := Nat.not_le.mpr hbl
  refine lv_aload_n hx hb dL_law_1434 rfl (lv_at hl 2 rfl) ?_
  refine lv_aload_n hx hb dL_law_1435 rfl (lv_at hl 3 rfl) ?_
  refine lv_iload_n hx hb dL_law_1436 rfl (lv_at hl 0 rfl) ?_
  refine lv_iconst (v := 1) hx hb dL_law_1437 (by decide) ?_
  refine lv_iadd hx hb dL_law_1438 ?_
  refine ix_i (y := 1) (by decide) ?_
  refine va_sld hx hb hX hbl hbA hS (in_lit (by decide)) dL_law_1439 ?_
  refine ro_calli (va_runV (As := [.int (xs (1 : Int32).toNatClampNeg)]) (rest := []) ⟨hx, hb, hml, hown, hts⟩ (c_X10_firm l G ct a rr (xs (1 : Int32).toNatClampNeg)) (cwV 1 hts gL_law_X10_firm rfl rfl rfl (by decide +kernel) ⟨Nat.le_of_ble_eq_true rfl, Nat.le_of_ble_eq_true rfl⟩) (ro_preV 10 0 hK hPx rfl rfl) rfl rfl hl.1 rfl (lv_room (Nat.le_of_ble_eq_true rfl)) dL_law_1440 ⟨Nat.le_of_ble_eq_true rfl, Nat.le_of_ble_eq_true rfl⟩) hS hPm (fun r1 H locs wr1 hPm hS => ?_)
  refine lv_aload_n hx hb dL_law_1443 rfl (lv_at hl 1 rfl) ?_
  refine lv_aload_n hx hb dL_law_1444 rfl (lv_at hl 3 rfl) ?_
  refine lv_iload_n hx hb dL_law_1445 rfl (lv_at hl 0 rfl) ?_
  refine lv_iconst (v := 1) hx hb dL_law_1446 (by decide) ?_
  refine lv_iadd hx hb dL_law_1447 ?_
  refine ix_i (y := 1) (by decide) ?_
  refine va_sld hx hb hX hbl hbA hS (in_lit (by decide)) dL_law_1448 ?_
  refine wq_calli (va_runV (As := [.int (xs (1 : Int32).toNatClampNeg)]) (rest := [.int r1]) ⟨hx, hb, hml, hown, hts⟩ (c_X11_firm l G ct bm (xs (1 : Int32).toNatClampNeg)) (cwV 1 hts gL_law_X11_firm rfl rfl rfl (by decide +kernel) ⟨Nat.le_of_ble_eq_true rfl, Nat.le_of_ble_eq_true rfl⟩) (wr_preV 11 0 hK hPm hDm rfl rfl) rfl rfl hl.1 rfl (lv_room (Nat.le_of_ble_eq_true rfl)) dL_law_1449 ⟨Nat.le_of_ble_eq_true rfl, Nat.le_of_ble_eq_true rfl⟩) hS (aset_D hDm) (fun r2 H locs wr2 hk hS => ?_)
  refine lv_icmp_eq (tgt := 2133) hx hb dL_law_1452 (by decide) (fun c_1 => ?_) (fun c_1 => ?_)
  · exact law_next l C1 rfl H locs hS ls (lv_sub hl [0, 3] rfl)
  · exact absurd (wr1.trans wr2.symm) c_1
set_option maxHeartbeats 4000000 in
set_option maxRecDepth 100000 in
theorem law_c43 {p : Program} {e : Env} {s : State} {m : MethodId} {below : List Frame} {meth : Method} {c : Code} (l : Launch) {b L : Nat} {xs : Nat → Int32} (C0 : lw_At p s m meth c b L xs) (h6 : L = 6) (G : va_G) (ct : Nat → ClassId) (a rr bm : Nat → Nat) (H : Heap) (locs : List Loc) (hK : KK G ct s) (hPx : va_P G vwCl (xF a rr ct) H) (hPm : va_P G vwCl (mF bm ct) H) (hDx : va_D (fun q : Nat => s.heap.size ≤ q) (xF a rr ct)) (hDm : va_D (fun q : Nat => s.heap.size ≤ q) (mF bm ct)) (hap : ∀ q, aset (xF a rr ct) q → ¬ aset (mF bm ct) q) (hS : va_S (fun q : Nat => s.heap.size ≤ q) s.heap H locs) (ls : Array Slot) (hl : lv_has ls 4 [(3, .int 0), (2, .ref (bm 0)), (1, .ref (a 0)), (0, .ref b)]) : W p l e room_1 s m #[Value.ref b] below meth c H locs 110 5410 (lw_Z below #[Value.ref b] s) (F0 m 1457 ls []) := by
  have C1 := C0
  obtain ⟨hx, hb, hr, hml, hown, hts, hX, hbl, hlocks, hgv⟩ := C0
  subst h6
  have hown : s.vm.findClass RL = some m.cls := hown
  have hts : ∀ z ∈ wsL_law, z.before #[Value.ref b] s = true := fun z h => hts z (wsL_law_in z h)
  have hbA : ¬ (fun q : Nat => s.heap.size ≤ q) b := Nat.not_le.mpr hbl
  refine lv_aload_n hx hb dL_law_1457 rfl (lv_at hl 2 rfl) ?_
  refine ro_calli (va_runV (As := []) (rest := []) ⟨hx, hb, hml, hown, hts⟩ (c_X10_firms l G ct a rr ) (cwV 0 hts gL_law_X10_firms rfl rfl rfl (by decide +kernel) ⟨Nat.le_of_ble_eq_true rfl, Nat.le_of_ble_eq_true rfl⟩) (ro_preV 10 0 hK hPx rfl rfl) rfl rfl hl.1 rfl (lv_room (Nat.le_of_ble_eq_true rfl)) dL_law_1458 ⟨Nat.le_of_ble_eq_true rfl, Nat.le_of_ble_eq_true rfl⟩) hS hPm (fun r1 H locs wr1 hPm hS => ?_)
  refine lv_aload_n hx hb dL_law_1461 rfl (lv_at hl 1 rfl) ?_
  refine wq_calli (va_runV (As := []) (rest := [.int r1]) ⟨hx, hb, hml, hown, hts⟩ (c_X11_firms l G ct bm ) (cwV 0 hts gL_law_X11_firms rfl rfl rfl (by decide +kernel) ⟨Nat.le_of_ble_eq_true rfl, Nat.le_of_ble_eq_true rfl⟩) (wr_preV 11 0 hK hPm hDm rfl rfl) rfl rfl hl.1 rfl (lv_room (Nat.le_of_ble_eq_true rfl)) dL_law_1462 ⟨Nat.le_of_ble_eq_true rfl, Nat.le_of_ble_eq_true rfl⟩) hS (aset_D hDm) (fun r2 H locs wr2 hk hS => ?_)
  refine lv_icmp_eq (tgt := 2133) hx hb dL_law_1465 (by decide) (fun c_1 => ?_) (fun c_1 => ?_)
  · exact law_next l C1 rfl H locs hS ls (lv_sub hl [0, 3] rfl)
  · exact absurd (wr1.trans wr2.symm) c_1