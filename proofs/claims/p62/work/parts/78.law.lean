theorem dL_law_1154 : decode cL_law 1154 = .ok (.aload_n 1, 1) := by decide +kernel
theorem dL_law_1155 : decode cL_law 1155 = .ok (.aload_n 0, 1) := by decide +kernel
theorem dL_law_1156 : decode cL_law 1156 = .ok (.iload_n 3, 1) := by decide +kernel
theorem dL_law_1157 : decode cL_law 1157 = .ok (.iconst 1, 1) := by decide +kernel
theorem dL_law_1158 : decode cL_law 1158 = .ok (.iadd, 1) := by decide +kernel
theorem dL_law_1159 : decode cL_law 1159 = .ok (.iaload, 1) := by decide +kernel
set_option maxRecDepth 20000 in
theorem ggL_law_X10_deeds : GoodIn wsL_law wsX10_deeds := goodIn_r _ [1098, 48, 1099, 1100, 1101, 2, 1102, 24, 623, 624, 625, 626, 35, 190, 1068, 1069, 1070, 47, 1071, 119, 1018, 1019, 1020, 1072, 537, 538, 64, 539, 72, 74, 386, 320, 321, 39, 322, 323, 1073, 541, 542, 543, 75, 1025, 1026, 1027, 1028, 117, 118, 1103, 1104, 1105, 1106, 1107, 923, 924, 925, 926, 927, 928, 1108, 1109, 1110, 1111, 1033, 1672, 1673, 1674, 1675, 1676, 1677, 1678, 1679, 1680, 1681, 1682, 1724, 1725, 1726, 1727, 1752, 1753, 1754, 1755, 1756, 1757, 1758, 1745, 1746, 1747, 1740, 1741] (by decide +kernel) (by decide +kernel)
set_option maxRecDepth 20000 in
theorem gL_law_X10_deeds : GoodIn wsL_law (wsV RL 147 RX10 yX10_deeds wsX10_deeds) := goodIn_app (goodIn_of _ (by decide +kernel)) ggL_law_X10_deeds
theorem dL_law_1160 : decode cL_law 1160 = .ok (.invokevirtual 147, 3) := by decide +kernel
theorem dL_law_1163 : decode cL_law 1163 = .ok (.pop, 1) := by decide +kernel
theorem dL_law_1164 : decode cL_law 1164 = .ok (.aload_n 2, 1) := by decide +kernel
theorem dL_law_1165 : decode cL_law 1165 = .ok (.aload_n 0, 1) := by decide +kernel
theorem dL_law_1166 : decode cL_law 1166 = .ok (.iload_n 3, 1) := by decide +kernel
theorem dL_law_1167 : decode cL_law 1167 = .ok (.iconst 1, 1) := by decide +kernel
theorem dL_law_1168 : decode cL_law 1168 = .ok (.iadd, 1) := by decide +kernel
theorem dL_law_1169 : decode cL_law 1169 = .ok (.iaload, 1) := by decide +kernel
set_option maxRecDepth 20000 in
theorem ggL_law_X11_deeds : GoodIn wsL_law wsX11_deeds := goodIn_r _ [1115, 164, 1116, 636, 637, 638, 5, 639, 136, 182, 183, 184, 1117, 1118, 1119, 1120, 137, 1086, 1087, 1088, 1089, 608, 609, 610, 588, 589, 590, 591, 138, 1051, 1052, 1053, 1054, 937, 938, 939, 1683, 1684, 1685, 1686, 1687, 1688, 1689, 1690, 1691, 1692, 1693, 1694, 1695, 1696, 1697, 1698, 1699, 1700, 1701, 1702, 1703, 1704, 1705, 1706, 1707, 1708, 1709, 1710, 1711, 1712, 1713] (by decide +kernel) (by decide +kernel)
set_option maxRecDepth 20000 in
theorem gL_law_X11_deeds : GoodIn wsL_law (wsV RL 150 RX11 yX11_deeds wsX11_deeds) := goodIn_app (goodIn_of _ (by decide +kernel)) ggL_law_X11_deeds
theorem dL_law_1170 : decode cL_law 1170 = .ok (.invokevirtual 150, 3) := by decide +kernel
theorem dL_law_1173 : decode cL_law 1173 = .ok (.pop, 1) := by decide +kernel
theorem dL_law_1174 : decode cL_law 1174 = .ok (.goto 959, 3) := by decide +kernel
theorem dL_law_1177 : decode cL_law 1177 = .ok (.aload_n 1, 1) := by decide +kernel
theorem dL_law_1178 : decode cL_law 1178 = .ok (.aload_n 0, 1) := by decide +kernel
theorem dL_law_1179 : decode cL_law 1179 = .ok (.iload_n 3, 1) := by decide +kernel
theorem dL_law_1180 : decode cL_law 1180 = .ok (.iconst 1, 1) := by decide +kernel
theorem dL_law_1181 : decode cL_law 1181 = .ok (.iadd, 1) := by decide +kernel
theorem dL_law_1182 : decode cL_law 1182 = .ok (.iaload, 1) := by decide +kernel
set_option maxRecDepth 20000 in
theorem ggL_law_X10_hired : GoodIn wsL_law wsX10_hired := goodIn_r _ [1102, 48, 24, 623, 624, 625, 2, 626, 35, 190, 1068, 1069, 1070, 47, 1071, 119, 1018, 1019, 1020, 1072, 537, 538, 64, 539, 72, 74, 386, 320, 321, 39, 322, 323, 1073, 541, 542, 543, 75, 1025, 1026, 1027, 1028, 117, 118, 1103, 1104, 1105, 1106, 1107, 923, 924, 925, 926, 927, 928, 1672, 1673, 1674, 1675, 1676, 1677, 1678, 1679, 1680, 1681, 1682, 1724, 1725, 1726, 1727, 1752, 1753, 1754, 1755, 1756, 1757, 1758, 1745, 1746, 1747, 1740, 1741] (by decide +kernel) (by decide +kernel)
set_option maxRecDepth 20000 in
theorem gL_law_X10_hired : GoodIn wsL_law (wsV RL 151 RX10 yX10_hired wsX10_hired) := goodIn_app (goodIn_of _ (by decide +kernel)) ggL_law_X10_hired
theorem dL_law_1183 : decode cL_law 1183 = .ok (.invokevirtual 151, 3) := by decide +kernel
theorem dL_law_1186 : decode cL_law 1186 = .ok (.pop, 1) := by decide +kernel
theorem dL_law_1187 : decode cL_law 1187 = .ok (.aload_n 2, 1) := by decide +kernel
theorem dL_law_1188 : decode cL_law 1188 = .ok (.aload_n 0, 1) := by decide +kernel
theorem dL_law_1189 : decode cL_law 1189 = .ok (.iload_n 3, 1) := by decide +kernel
theorem dL_law_1190 : decode cL_law 1190 = .ok (.iconst 1, 1) := by decide +kernel
theorem dL_law_1191 : decode cL_law 1191 = .ok (.iadd, 1) := by decide +kernel
theorem dL_law_1192 : decode cL_law 1192 = .ok (.iaload, 1) := by decide +kernel
set_option maxRecDepth 20000 in
theorem ggL_law_X11_hired : GoodIn wsL_law wsX11_hired := goodIn_r _ [1125, 164, 1116, 636, 637, 638, 5, 639, 136, 182, 183, 184, 1117, 1118, 1119, 1120, 137, 1086, 1087, 1088, 1089, 608, 609, 610, 588, 589, 590, 591, 138, 1051, 1052, 1053, 1054, 937, 938, 939, 1683, 1684, 1685, 1686, 1687, 1688, 1689, 1690, 1691, 1692, 1693, 1694, 1695, 1696, 1697, 1698, 1699, 1700, 1701, 1702, 1703, 1704, 1705, 1706, 1707, 1708, 1709, 1710, 1711, 1712, 1713] (by decide +kernel) (by decide +kernel)
set_option maxRecDepth 20000 in
theorem gL_law_X11_hired : GoodIn wsL_law (wsV RL 154 RX11 yX11_hired wsX11_hired) := goodIn_app (goodIn_of _ (by decide +kernel)) ggL_law_X11_hired
theorem dL_law_1193 : decode cL_law 1193 = .ok (.invokevirtual 154, 3) := by decide +kernel
theorem dL_law_1196 : decode cL_law 1196 = .ok (.pop, 1) := by decide +kernel
theorem dL_law_1197 : decode cL_law 1197 = .ok (.goto 936, 3) := by decide +kernel
theorem dL_law_1200 : decode cL_law 1200 = .ok (.aload_n 1, 1) := by decide +kernel
theorem dL_law_1201 : decode cL_law 1201 = .ok (.aload_n 0, 1) := by decide +kernel
theorem dL_law_1202 : decode cL_law 1202 = .ok (.iload_n 3, 1) := by decide +kernel
theorem dL_law_1203 : decode cL_law 1203 = .ok (.iconst 1, 1) := by decide +kernel
theorem dL_law_1204 : decode cL_law 1204 = .ok (.iadd, 1) := by decide +kernel
theorem dL_law_1205 : decode cL_law 1205 = .ok (.iaload, 1) := by decide +kernel
set_option maxRecDepth 20000 in
theorem ggL_law_X10_suspects : GoodIn wsL_law wsX10_suspects := goodIn_r _ [1129, 24, 35, 31, 1130, 1131, 1132, 2, 1133, 1134, 1135, 1136, 1137, 1138, 1139, 1140, 1141, 30, 1142, 623, 624, 625, 626, 190, 1143, 1144, 1145, 1146, 1147, 1148, 403, 404, 1149, 1150, 1151, 1152, 106, 1153, 1154, 1155, 1156, 104, 1157, 1158, 1159, 1160, 1161, 1162, 1163, 1164, 1165, 1166, 1167, 1168, 1169, 64, 1170, 72, 203, 1171, 555, 556, 557, 76, 386, 320, 321, 39, 322, 323, 1672, 1673, 1674, 1675, 1676, 1677, 1678, 1679, 1680, 1681, 1682, 1724, 1725, 1726, 1727, 1752, 1753, 1754, 1755, 1756, 1757, 1758, 1728, 1729, 1730, 1731, 1740, 1741] (by decide +kernel) (by decide +kernel)
set_option maxRecDepth 20000 in
theorem gL_law_X10_suspects : GoodIn wsL_law (wsV RL 155 RX10 yX10_suspects wsX10_suspects) := goodIn_app (goodIn_of _ (by decide +kernel)) ggL_law_X10_suspects
theorem dL_law_1206 : decode cL_law 1206 = .ok (.invokevirtual 155, 3) := by decide +kernel
theorem dL_law_1209 : decode cL_law 1209 = .ok (.pop, 1) := by decide +kernel
theorem dL_law_1210 : decode cL_law 1210 = .ok (.aload_n 2, 1) := by decide +kernel
theorem dL_law_1211 : decode cL_law 1211 = .ok (.aload_n 0, 1) := by decide +kernel
theorem dL_law_1212 : decode cL_law 1212 = .ok (.iload_n 3, 1) := by decide +kernel
theorem dL_law_1213 : decode cL_law 1213 = .ok (.iconst 1, 1) := by decide +kernel
theorem dL_law_1214 : decode cL_law 1214 = .ok (.iadd, 1) := by decide +kernel
theorem dL_law_1215 : decode cL_law 1215 = .ok (.iaload, 1) := by decide +kernel
set_option maxRecDepth 20000 in
theorem ggL_law_X11_suspects : GoodIn wsL_law wsX11_suspects := goodIn_r _ [1175, 164, 1176, 1177, 1178, 5, 1179, 130, 131, 132, 1180, 1181, 1182, 912, 182, 183, 184, 636, 637, 638, 639, 136, 765, 766, 767, 768, 1183, 1184, 1185, 1186, 1187, 1188, 1189, 1190, 137, 588, 589, 590, 591, 138, 1683, 1684, 1685, 1686, 1687, 1688, 1689, 1690, 1691, 1692, 1693, 1694, 1695, 1696, 1697, 1698, 1699, 1700, 1701, 1702, 1703, 1704, 1705, 1706, 1707, 1708, 1709, 1710, 1711, 1712, 1713] (by decide +kernel) (by decide +kernel)
set_option maxRecDepth 20000 in
theorem gL_law_X11_suspects : GoodIn wsL_law (wsV RL 158 RX11 yX11_suspects wsX11_suspects) := goodIn_app (goodIn_of _ (by decide +kernel)) ggL_law_X11_suspects
theorem dL_law_1216 : decode cL_law 1216 = .ok (.invokevirtual 158, 3) := by decide +kernel
theorem dL_law_1219 : decode cL_law 1219 = .ok (.pop, 1) := by decide +kernel
theorem dL_law_1220 : decode cL_law 1220 = .ok (.goto 913, 3) := by decide +kernel
theorem dL_law_1223 : decode cL_law 1223 = .ok (.aload_n 1, 1) := by decide +kernel
theorem dL_law_1224 : decode cL_law 1224 = .ok (.aload_n 0, 1) := by decide +kernel
theorem dL_law_1225 : decode cL_law 1225 = .ok (.iload_n 3, 1) := by decide +kernel
theorem dL_law_1226 : decode cL_law 1226 = .ok (.iconst 1, 1) := by decide +kernel
theorem dL_law_1227 : decode cL_law 1227 = .ok (.iadd, 1) := by decide +kernel
theorem dL_law_1228 : decode cL_law 1228 = .ok (.iaload, 1) := by decide +kernel
set_option maxRecDepth 20000 in
theorem ggL_law_X10_watch : GoodIn wsL_law wsX10_watch := goodIn_r _ [1194, 24, 35, 31, 1130, 1131, 1132, 2, 1133, 1134, 1135, 1136, 1137, 1138, 1139, 1140, 1141, 30, 1142, 623, 624, 625, 626, 190, 1143, 1144, 1145, 1146, 1147, 1148, 403, 404, 1149, 1150, 1151, 1152, 106, 1153, 1154, 1155, 1156, 104, 1157, 1158, 1159, 1160, 1161, 1162, 1163, 1164, 1165, 1166, 1167, 1168, 1169, 64, 1170, 72, 203, 1171, 555, 556, 557, 76, 386, 320, 321, 39, 322, 323, 1195, 1196, 1197, 1198, 1199, 923, 924, 925, 926, 927, 928, 1200, 1201, 1202, 1203, 1204, 708, 216, 709, 1205, 1672, 1673, 1674, 1675, 1676, 1677, 1678, 1679, 1680, 1681, 1682, 1724, 1725, 1726, 1727, 1752, 1753, 1754, 1755, 1756, 1757, 1758, 1728, 1729, 1730, 1731, 1740, 1741] (by decide +kernel) (by decide +kernel)
set_option maxRecDepth 20000 in
theorem gL_law_X10_watch : GoodIn wsL_law (wsV RL 159 RX10 yX10_watch wsX10_watch) := goodIn_app (goodIn_of _ (by decide +kernel)) ggL_law_X10_watch
theorem dL_law_1229 : decode cL_law 1229 = .ok (.invokevirtual 159, 3) := by decide +kernel
theorem dL_law_1232 : decode cL_law 1232 = .ok (.pop, 1) := by decide +kernel
theorem dL_law_1233 : decode cL_law 1233 = .ok (.aload_n 2, 1) := by decide +kernel
theorem dL_law_1234 : decode cL_law 1234 = .ok (.aload_n 0, 1) := by decide +kernel
theorem dL_law_1235 : decode cL_law 1235 = .ok (.iload_n 3, 1) := by decide +kernel
theorem dL_law_1236 : decode cL_law 1236 = .ok (.iconst 1, 1) := by decide +kernel
theorem dL_law_1237 : decode cL_law 1237 = .ok (.iadd, 1) := by decide +kernel
theorem dL_law_1238 : decode cL_law 1238 = .ok (.iaload, 1) := by decide +kernel
set_option maxRecDepth 20000 in
theorem ggL_law_X11_watch : GoodIn wsL_law wsX11_watch := goodIn_r _ [1209, 164, 1210, 1176, 1177, 1178, 5, 1179, 130, 131, 132, 1180, 1181, 1182, 912, 182, 183, 184, 636, 637, 638, 639, 136, 765, 766, 767, 768, 1211, 1212, 1213, 1214, 1215, 1183, 1184, 1185, 1186, 1187, 1188, 1189, 1190, 137, 588, 589, 590, 591, 138, 937, 938, 939, 1683, 1684, 1685, 1686, 1687, 1688, 1689, 1690, 1691, 1692, 1693, 1694, 1695, 1696, 1697, 1698, 1699, 1700, 1701, 1702, 1703, 1704, 1705, 1706, 1707, 1708, 1709, 1710, 1711, 1712, 1713] (by decide +kernel) (by decide +kernel)
set_option maxRecDepth 20000 in
theorem gL_law_X11_watch : GoodIn wsL_law (wsV RL 162 RX11 yX11_watch wsX11_watch) := goodIn_app (goodIn_of _ (by decide +kernel)) ggL_law_X11_watch
theorem dL_law_1239 : decode cL_law 1239 = .ok (.invokevirtual 162, 3) := by decide +kernel
theorem dL_law_1242 : decode cL_law 1242 = .ok (.pop, 1) := by decide +kernel
theorem dL_law_1243 : decode cL_law 1243 = .ok (.goto 890, 3) := by decide +kernel
set_option maxHeartbeats 8000000 in
set_option maxRecDepth 100000 in
theorem law_c32 {p : Program} {e : Env} {s : State} {m : MethodId} {below : List Frame} {meth : Method} {c : Code} (l : Launch) {b L : Nat} {xs : Nat → Int32} (C0 : lw_At p s m meth c b L xs) (hL : L ≤ 3072) (k : Nat) (hk6 : k + 6 ≤ L) (G : va_G) (ct : Nat → ClassId) (a rr bm adK adV : Nat → Nat) (v : Nat → Nat → Int32) (f : Nat → Nat → Int32) (g : Nat → Nat → Int64) (v2 : Nat → Nat → Int32) (f2 : Nat → Nat → Int32) (g2 : Nat → Nat → Int64) (H : Heap) (locs : List Loc) (hK : KK G ct s) (hZ : SS adK adV (fun q : Nat => s.heap.size ≤ q) s s.heap) (hD0 : va_D (fun q : Nat => s.heap.size ≤ q) (xW a rr ct (fun _ _ => 0) (fun _ _ => 0) (fun _ _ => 0))) (hE0 : va_D (fun q : Nat => s.heap.size ≤ q) (mW bm ct (fun _ _ => 0) (fun _ _ => 0) (fun _ _ => 0))) (hap0 : wset a rr bm ct) (hIx : XI v f g) (hIm : MI v2 f2 g2) (hPx : va_P G vwCl (xW a rr ct v f g) H) (hPm : va_P G vwCl (mW bm ct v2 f2 g2) H) (hS : va_S (fun q : Nat => s.heap.size ≤ q) s.heap H locs) (ls : Array Slot) (hl : lv_has ls 4 [(3, .int (nI k)), (2, .ref (bm 0)), (1, .ref (a 0)), (0, .ref b)]) (kk : ∀ (v : Nat → Nat → Int32) (f : Nat → Nat → Int32) (g : Nat → Nat → Int64) (v2 : Nat → Nat → Int32) (f2 : Nat → Nat → Int32) (g2 : Nat → Nat → Int64) (H : Heap) (locs : List Loc) (ls : Array Slot), XI v f g → MI v2 f2 g2 → va_P G vwCl (xW a rr ct v f g) H → va_P G vwCl (mW bm ct v2 f2 g2) H → va_S (fun q : Nat => s.heap.size ≤ q) s.heap H locs → lv_has ls 4 [(3, .int (nI k)), (2, .ref (bm 0)), (1, .ref (a 0)), (0, .ref b)] → W p l e room_1 s m #[Value.ref b] below meth c H locs 110 5410 (lw_Z below #[Value.ref b] s) (F0 m 2133 ls [])) : W p l e room_1 s m #[Value.ref b] below meth c H locs 110 5410 (lw_Z below #[Value.ref b] s) (F0 m 1154 ls []) := by
  obtain ⟨hx, hb, hr, hml, hown, hts, hX, hbl, hlocks, hgv⟩ := C0
  have hown : s.vm.findClass RL = some m.cls := hown
  have hts : ∀ z ∈ wsL_law, z.before #[Value.ref b] s = true := fun z h => hts z (wsL_law_in z h)
  have hbA : ¬ (fun q : Nat => s.heap.size ≤ q) b := Nat.not_le.mpr hbl
  have hDx : va_D (fun q : Nat => s.heap.size ≤ q) (xW a rr ct v f g) := hD0.ad (xW_ad ..)
  have hDm : va_D (fun q : Nat => s.heap.size ≤ q) (mW bm ct v2 f2 g2) := hE0.ad (mW_ad ..)
  have hap : ∀ q, aset (xW a rr ct v f g) q → ¬ aset (mW bm ct v2 f2 g2) q := fun q h1 h2 => hap0 q (aset_ad (xW_ad ..) h1) (aset_ad (mW_ad ..) h2)
  refine lv_aload_n hx hb dL_law_1154 rfl (lv_at hl 2 rfl) ?_
  refine lv_aload_n hx hb dL_law_1155 rfl (lv_at hl 3 rfl) ?_
  refine lv_iload_n hx hb dL_law_1156 rfl (lv_at hl 0 rfl) ?_
  refine lv_iconst (v := 1) hx hb dL_law_1157 (by decide) ?_
  refine lv_iadd hx hb dL_law_1158 ?_
  refine ix_i (y := nI (k + 1)) (nI_add k 1) ?_
  refine va_sld hx hb hX hbl hbA hS (vp_in_nI (n := k + 1) (by omega) (by omega)) dL_law_1159 ?_
  refine lw_callx (w1 := (fun u : SU => [((a 0), .inr (10, [.ref (a 1), .ref (a 3), .ref (a 11), .ref (a 25), .ref (a 68), .ref (a 69), .ref (a 77), .ref (a 82), .ref (a 84), .ref (a 88), .ref (a 91)])), ((a 11), .inr (4, [.ref (a 12), .ref (a 19), .ref (a 24), .int (v 11 3)])), ((a 12), .inr (9, [.ref (a 13), .ref (a 15), .ref (a 16), .ref (a 17), .ref (a 18), .int (v 12 5), .int (v 12 6)])), ((a 13), .inr (0, [.ref (a 14), .int (v 13 1)])), ((a 15), .inl (ct 0, 8, .inl (f 15))), ((a 16), .inl (ct 0, 8, .inl (f 16))), ((a 88), .inr (1, [.ref (a 89), .ref (a 90), .int (u.1 0)])), ((a 89), .inl (ct 0, 256, .inl (u.2.1 0))), ((a 90), .inl (ct 0, 256, .inl (u.2.1 1)))])) (va_runV (As := [.int (xs (nI (k + 1)).toNatClampNeg)]) (rest := []) ⟨hx, hb, hml, hown, hts⟩ (a_X10_deeds l G ct (a 0) (a 1) (a 3) (a 11) (a 25) (a 68) (a 69) (a 77) (a 82) (a 84) (a 88) (a 91) (a 12) (a 19) (a 24) (v 11 3) (a 13) (a 15) (a 16) (a 17) (a 18) (v 12 5) (v 12 6) (a 14) (v 13 1) (f 15) (f 16) (a 89) (a 90) (v 88 2) (f 89) (f 90) (xs (nI (k + 1)).toNatClampNeg) hIx.2.2.1 hIx.2.2.2.2.2.2.2.2.2.2.2.2.2.2.1) (cwV 1 hts gL_law_X10_deeds rfl rfl rfl (by decide +kernel) ⟨Nat.le_of_ble_eq_true rfl, Nat.le_of_ble_eq_true rfl⟩) (wr_preV 10 0 hK (hPx.sub [0, 11, 12, 13, 15, 16, 88, 89, 90] rfl) (hDx.sub [0, 11, 12, 13, 15, 16, 88, 89, 90] (by decide) rfl) rfl rfl) rfl rfl hl.1 rfl (lv_room (Nat.le_of_ble_eq_true rfl)) dL_law_1160 ⟨Nat.le_of_ble_eq_true rfl, Nat.le_of_ble_eq_true rfl⟩) hS hPx hDx hPm hap [0, 11, 12, 13, 15, 16, 88, 89, 90] rfl (fun r1 u1 H locs wr1 hPm hF hS => ?_)
  obtain ⟨r1p0, r1p1, r1p2, r1p3, r1p4, r1p5, -⟩ := wr1
  have hPx : va_P G vwCl (xW a rr ct (uv v [(88, 2, u1.1 0)]) (uf f [(89, u1.2.1 0), (90, u1.2.1 1)]) g) H := hF (xW a rr ct (uv v [(88, 2, u1.1 0)]) (uf f [(89, u1.2.1 0), (90, u1.2.1 1)]) g) rfl (fun k9 hk9 => xW_same a rr ct v (uv v [(88, 2, u1.1 0)]) f (uf f [(89, u1.2.1 0), (90, u1.2.1 1)]) g g k9 (uv_st hk9 (by rfl)) (uf_st hk9 (by rfl)) rfl)
  have hIx : XI (uv v [(88, 2, u1.1 0)]) (uf f [(89, u1.2.1 0), (90, u1.2.1 1)]) g := ⟨hIx.1, hIx.2.1, hIx.2.2.1, hIx.2.2.2.1, hIx.2.2.2.2.1, hIx.2.2.2.2.2.1, hIx.2.2.2.2.2.2.1, hIx.2.2.2.2.2.2.2.1, hIx.2.2.2.2.2.2.2.2.1, hIx.2.2.2.2.2.2.2.2.2.1, hIx.2.2.2.2.2.2.2.2.2.2.1, hIx.2.2.2.2.2.2.2.2.2.2.2.1, hIx.2.2.2.2.2.2.2.2.2.2.2.2.1, hIx.2.2.2.2.2.2.2.2.2.2.2.2.2.1, r1p5, hIx.2.2.2.2.2.2.2.2.2.2.2.2.2.2.2.1, trivial⟩
  have hap : ∀ q, aset (xW a rr ct (uv v [(88, 2, u1.1 0)]) (uf f [(89, u1.2.1 0), (90, u1.2.1 1)]) g) q → ¬ aset (mW bm ct v2 f2 g2) q := fun q h1 h2 => hap0 q (aset_ad (xW_ad ..) h1) (aset_ad (mW_ad ..) h2)
  refine lv_pop hx hb dL_law_1163 rfl ?_
  refine lv_aload_n hx hb dL_law_1164 rfl (lv_at hl 1 rfl) ?_
  refine lv_aload_n hx hb dL_law_1165 rfl (lv_at hl 3 rfl) ?_
  refine lv_iload_n hx hb dL_law_1166 rfl (lv_at hl 0 rfl) ?_
  refine lv_iconst (v := 1) hx hb dL_law_1167 (by decide) ?_
  refine lv_iadd hx hb dL_law_1168 ?_
  refine ix_i (y := nI (k + 1)) (nI_add k 1) ?_
  refine va_sld hx hb hX hbl hbA hS (vp_in_nI (n := k + 1) (by omega) (by omega)) dL_law_1169 ?_
  refine lw_callx (w1 := (fun u : SU => [((bm 0), .inr (11, [.int (u.1 0), .ref (bm 1), .ref (bm 2), .ref (bm 3), .ref (bm 4), .ref (bm 5), .int (v2 0 6), .int (v2 0 7), .int (v2 0 8), .int (v2 0 9), .int (v2 0 10), .long (g2 0 11), .int (v2 0 12), .int (v2 0 13), .int (v2 0 14), .int (v2 0 15), .ref (bm 6), .ref (bm 7), .ref (bm 8), .ref (bm 9), .ref (bm 10), .ref (bm 11), .ref (bm 12), .ref (bm 13), .int (v2 0 24), .int (v2 0 25), .int (v2 0 26), .int (v2 0 27), .ref (bm 14), .int (v2 0 29), .int (v2 0 30)])), ((bm 6), .inl (ct 0, 5, .inl (f2 6))), ((bm 7), .inl (ct 0, 15, .inl (f2 7))), ((bm 8), .inl (ct 0, 200, .inl (f2 8)))])) (va_runV (As := [.int (xs (nI (k + 1)).toNatClampNeg)]) (rest := []) ⟨hx, hb, hml, hown, hts⟩ (a_X11_deeds l G ct (bm 0) (v2 0 0) (bm 1) (bm 2) (bm 3) (bm 4) (bm 5) (v2 0 6) (v2 0 7) (v2 0 8) (v2 0 9) (v2 0 10) (g2 0 11) (v2 0 12) (v2 0 13) (v2 0 14) (v2 0 15) (bm 6) (bm 7) (bm 8) (bm 9) (bm 10) (bm 11) (bm 12) (bm 13) (v2 0 24) (v2 0 25) (v2 0 26) (v2 0 27) (bm 14) (v2 0 29) (v2 0 30) (f2 6) (f2 7) (f2 8) (xs (nI (k + 1)).toNatClampNeg) hIm.2.1 hIm.2.2.1 hIm.2.2.2.1) (cwV 1 hts gL_law_X11_deeds rfl rfl rfl (by decide +kernel) ⟨Nat.le_of_ble_eq_true rfl, Nat.le_of_ble_eq_true rfl⟩) (wr_preV 11 0 hK (hPm.sub [0, 6, 7, 8] rfl) (hDm.sub [0, 6, 7, 8] (by decide) rfl) rfl rfl) rfl rfl hl.1 rfl (lv_room (Nat.le_of_ble_eq_true rfl)) dL_law_1170 ⟨Nat.le_of_ble_eq_true rfl, Nat.le_of_ble_eq_true rfl⟩) hS hPm hDm hPx (fun q h1 h2 => hap q h2 h1) [0, 6, 7, 8] rfl (fun r2 u2 H locs wr2 hPx hF hS => ?_)
  obtain ⟨r2p0, r2p1, r2p2, r2p3, -⟩ := wr2
  have hPm : va_P G vwCl (mW bm ct (uv v2 [(0, 0, u2.1 0)]) f2 g2) H := hF (mW bm ct (uv v2 [(0, 0, u2.1 0)]) f2 g2) rfl (fun k9 hk9 => mW_same bm ct v2 (uv v2 [(0, 0, u2.1 0)]) f2 f2 g2 g2 k9 (uv_st hk9 (by rfl)) rfl rfl)
  have hIm : MI (uv v2 [(0, 0, u2.1 0)]) f2 g2 := ⟨hIm.1, hIm.2.1, hIm.2.2.1, hIm.2.2.2.1, hIm.2.2.2.2.1, hIm.2.2.2.2.2.1, hIm.2.2.2.2.2.2.1, trivial⟩
  refine lv_pop hx hb dL_law_1173 rfl ?_
  refine lv_goto (tgt := 2133) hx hb dL_law_1174 (by decide) ?_
  exact kk (uv v [(88, 2, u1.1 0)]) (uf f [(89, u1.2.1 0), (90, u1.2.1 1)]) g (uv v2 [(0, 0, u2.1 0)]) f2 g2 H locs ls hIx hIm hPx hPm hS hl
set_option maxHeartbeats 8000000 in
set_option maxRecDepth 100000 in
theorem law_c33 {p : Program} {e : Env} {s : State} {m : MethodId} {below : List Frame} {meth : Method} {c : Code} (l : Launch) {b L : Nat} {xs : Nat → Int32} (C0 : lw_At p s m meth c b L xs) (hL : L ≤ 3072) (k : Nat) (hk6 : k + 6 ≤ L) (G : va_G) (ct : Nat → ClassId) (a rr bm adK adV : Nat → Nat) (v : Nat → Nat → Int32) (f : Nat → Nat → Int32) (g : Nat → Nat → Int64) (v2 : Nat → Nat → Int32) (f2 : Nat → Nat → Int32) (g2 : Nat → Nat → Int64) (H : Heap) (locs : List Loc) (hK : KK G ct s) (hZ : SS adK adV (fun q : Nat => s.heap.size ≤ q) s s.heap) (hD0 : va_D (fun q : Nat => s.heap.size ≤ q) (xW a rr ct (fun _ _ => 0) (fun _ _ => 0) (fun _ _ => 0))) (hE0 : va_D (fun q : Nat => s.heap.size ≤ q) (mW bm ct (fun _ _ => 0) (fun _ _ => 0) (fun _ _ => 0))) (hap0 : wset a rr bm ct) (hIx : XI v f g) (hIm : MI v2 f2 g2) (hPx : va_P G vwCl (xW a rr ct v f g) H) (hPm : va_P G vwCl (mW bm ct v2 f2 g2) H) (hS : va_S (fun q : Nat => s.heap.size ≤ q) s.heap H locs) (ls : Array Slot) (hl : lv_has ls 4 [(3, .int (nI k)), (2, .ref (bm 0)), (1, .ref (a 0)), (0, .ref b)]) (kk : ∀ (v : Nat → Nat → Int32) (f : Nat → Nat → Int32) (g : Nat → Nat → Int64) (v2 : Nat → Nat → Int32) (f2 : Nat → Nat → Int32) (g2 : Nat → Nat → Int64) (H : Heap) (locs : List Loc) (ls : Array Slot), XI v f g → MI v2 f2 g2 → va_P G vwCl (xW a rr ct v f g) H → va_P G vwCl (mW bm ct v2 f2 g2) H → va_S (fun q : Nat => s.heap.size ≤ q) s.heap H locs → lv_has ls 4 [(3, .int (nI k)), (2, .ref (bm 0)), (1, .ref (a 0)), (0, .ref b)] → W p l e room_1 s m #[Value.ref b] below meth c H locs 110 5410 (lw_Z below #[Value.ref b] s) (F0 m 2133 ls [])) : W p l e room_1 s m #[Value.ref b] below meth c H locs 110 5410 (lw_Z below #[Value.ref b] s) (F0 m 1177 ls []) := by
  obtain ⟨hx, hb, hr, hml, hown, hts, hX, hbl, hlocks, hgv⟩ := C0
  have hown : s.vm.findClass RL = some m.cls := hown
  have hts : ∀ z ∈ wsL_law, z.before #[Value.ref b] s = true := fun z h => hts z (wsL_law_in z h)
  have hbA : ¬ (fun q : Nat => s.heap.size ≤ q) b := Nat.not_le.mpr hbl
  have hDx : va_D (fun q : Nat => s.heap.size ≤ q) (xW a rr ct v f g) := hD0.ad (xW_ad ..)
  have hDm : va_D (fun q : Nat => s.heap.size ≤ q) (mW bm ct v2 f2 g2) := hE0.ad (mW_ad ..)
  have hap : ∀ q, aset (xW a rr ct v f g) q → ¬ aset (mW bm ct v2 f2 g2) q := fun q h1 h2 => hap0 q (aset_ad (xW_ad ..) h1) (aset_ad (mW_ad ..) h2)
  refine lv_aload_n hx hb dL_law_1177 rfl (lv_at hl 2 rfl) ?_
  refine lv_aload_n hx hb dL_law_1178 rfl (lv_at hl 3 rfl) ?_
  refine lv_iload_n hx hb dL_law_1179 rfl (lv_at hl 0 rfl) ?_
  refine lv_iconst (v := 1) hx hb dL_law_1180 (by decide) ?_
  refine lv_iadd hx hb dL_law_1181 ?_
  refine ix_i (y := nI (k + 1)) (nI_add k 1) ?_
  refine va_sld hx hb hX hbl hbA hS (vp_in_nI (n := k + 1) (by omega) (by omega)) dL_law_1182 ?_
  refine lw_callx (w1 := (fun u : SU => [((a 0), .inr (10, [.ref (a 1), .ref (a 3), .ref (a 11), .ref (a 25), .ref (a 68), .ref (a 69), .ref (a 77), .ref (a 82), .ref (a 84), .ref (a 88), .ref (a 91)])), ((a 11), .inr (4, [.ref (a 12), .ref (a 19), .ref (a 24), .int (v 11 3)])), ((a 12), .inr (9, [.ref (a 13), .ref (a 15), .ref (a 16), .ref (a 17), .ref (a 18), .int (v 12 5), .int (v 12 6)])), ((a 13), .inr (0, [.ref (a 14), .int (v 13 1)])), ((a 15), .inl (ct 0, 8, .inl (f 15))), ((a 16), .inl (ct 0, 8, .inl (f 16))), ((a 88), .inr (1, [.ref (a 89), .ref (a 90), .int (u.1 0)])), ((a 89), .inl (ct 0, 256, .inl (u.2.1 0))), ((a 90), .inl (ct 0, 256, .inl (u.2.1 1)))])) (va_runV (As := [.int (xs (nI (k + 1)).toNatClampNeg)]) (rest := []) ⟨hx, hb, hml, hown, hts⟩ (a_X10_hired l G ct (a 0) (a 1) (a 3) (a 11) (a 25) (a 68) (a 69) (a 77) (a 82) (a 84) (a 88) (a 91) (a 12) (a 19) (a 24) (v 11 3) (a 13) (a 15) (a 16) (a 17) (a 18) (v 12 5) (v 12 6) (a 14) (v 13 1) (f 15) (f 16) (a 89) (a 90) (v 88 2) (f 89) (f 90) (xs (nI (k + 1)).toNatClampNeg) hIx.2.2.1 hIx.2.2.2.2.2.2.2.2.2.2.2.2.2.2.1) (cwV 1 hts gL_law_X10_hired rfl rfl rfl (by decide +kernel) ⟨Nat.le_of_ble_eq_true rfl, Nat.le_of_ble_eq_true rfl⟩) (wr_preV 10 0 hK (hPx.sub [0, 11, 12, 13, 15, 16, 88, 89, 90] rfl) (hDx.sub [0, 11, 12, 13, 15, 16, 88, 89, 90] (by decide) rfl) rfl rfl) rfl rfl hl.1 rfl (lv_room (Nat.le_of_ble_eq_true rfl)) dL_law_1183 ⟨Nat.le_of_ble_eq_true rfl, Nat.le_of_ble_eq_true rfl⟩) hS hPx hDx hPm hap [0, 11, 12, 13, 15, 16, 88, 89, 90] rfl (fun r1 u1 H locs wr1 hPm hF hS => ?_)
  obtain ⟨r1p0, r1p1, r1p2, r1p3, r1p4, r1p5, -⟩ := wr1
  have hPx : va_P G vwCl (xW a rr ct (uv v [(88, 2, u1.1 0)]) (uf f [(89, u1.2.1 0), (90, u1.2.1 1)]) g) H := hF (xW a rr ct (uv v [(88, 2, u1.1 0)]) (uf f [(89, u1.2.1 0), (90, u1.2.1 1)]) g) rfl (fun k9 hk9 => xW_same a rr ct v (uv v [(88, 2, u1.1 0)]) f (uf f [(89, u1.2.1 0), (90, u1.2.1 1)]) g g k9 (uv_st hk9 (by rfl)) (uf_st hk9 (by rfl)) rfl)
  have hIx : XI (uv v [(88, 2, u1.1 0)]) (uf f [(89, u1.2.1 0), (90, u1.2.1 1)]) g := ⟨hIx.1, hIx.2.1, hIx.2.2.1, hIx.2.2.2.1, hIx.2.2.2.2.1, hIx.2.2.2.2.2.1, hIx.2.2.2.2.2.2.1, hIx.2.2.2.2.2.2.2.1, hIx.2.2.2.2.2.2.2.2.1, hIx.2.2.2.2.2.2.2.2.2.1, hIx.2.2.2.2.2.2.2.2.2.2.1, hIx.2.2.2.2.2.2.2.2.2.2.2.1, hIx.2.2.2.2.2.2.2.2.2.2.2.2.1, hIx.2.2.2.2.2.2.2.2.2.2.2.2.2.1, r1p5, hIx.2.2.2.2.2.2.2.2.2.2.2.2.2.2.2.1, trivial⟩
  have hap : ∀ q, aset (xW a rr ct (uv v [(88, 2, u1.1 0)]) (uf f [(89, u1.2.1 0), (90, u1.2.1 1)]) g) q → ¬ aset (mW bm ct v2 f2 g2) q := fun q h1 h2 => hap0 q (aset_ad (xW_ad ..) h1) (aset_ad (mW_ad ..) h2)
  refine lv_pop hx hb dL_law_1186 rfl ?_
  refine lv_aload_n hx hb dL_law_1187 rfl (lv_at hl 1 rfl) ?_
  refine lv_aload_n hx hb dL_law_1188 rfl (lv_at hl 3 rfl) ?_
  refine lv_iload_n hx hb dL_law_1189 rfl (lv_at hl 0 rfl) ?_
  refine lv_iconst (v := 1) hx hb dL_law_1190 (by decide) ?_
  refine lv_iadd hx hb dL_law_1191 ?_
  refine ix_i (y := nI (k + 1)) (nI_add k 1) ?_
  refine va_sld hx hb hX hbl hbA hS (vp_in_nI (n := k + 1) (by omega) (by omega)) dL_law_1192 ?_
  refine lw_callx (w1 := (fun u : SU => [((bm 0), .inr (11, [.int (u.1 0), .ref (bm 1), .ref (bm 2), .ref (bm 3), .ref (bm 4), .ref (bm 5), .int (v2 0 6), .int (v2 0 7), .int (v2 0 8), .int (v2 0 9), .int (v2 0 10), .long (g2 0 11), .int (v2 0 12), .int (v2 0 13), .int (v2 0 14), .int (v2 0 15), .ref (bm 6), .ref (bm 7), .ref (bm 8), .ref (bm 9), .ref (bm 10), .ref (bm 11), .ref (bm 12), .ref (bm 13), .int (v2 0 24), .int (v2 0 25), .int (v2 0 26), .int (v2 0 27), .ref (bm 14), .int (v2 0 29), .int (v2 0 30)])), ((bm 6), .inl (ct 0, 5, .inl (f2 6))), ((bm 7), .inl (ct 0, 15, .inl (f2 7))), ((bm 8), .inl (ct 0, 200, .inl (f2 8)))])) (va_runV (As := [.int (xs (nI (k + 1)).toNatClampNeg)]) (rest := []) ⟨hx, hb, hml, hown, hts⟩ (a_X11_hired l G ct (bm 0) (v2 0 0) (bm 1) (bm 2) (bm 3) (bm 4) (bm 5) (v2 0 6) (v2 0 7) (v2 0 8) (v2 0 9) (v2 0 10) (g2 0 11) (v2 0 12) (v2 0 13) (v2 0 14) (v2 0 15) (bm 6) (bm 7) (bm 8) (bm 9) (bm 10) (bm 11) (bm 12) (bm 13) (v2 0 24) (v2 0 25) (v2 0 26) (v2 0 27) (bm 14) (v2 0 29) (v2 0 30) (f2 6) (f2 7) (f2 8) (xs (nI (k + 1)).toNatClampNeg) hIm.2.1 hIm.2.2.1 hIm.2.2.2.1) (cwV 1 hts gL_law_X11_hired rfl rfl rfl (by decide +kernel) ⟨Nat.le_of_ble_eq_true rfl, Nat.le_of_ble_eq_true rfl⟩) (wr_preV 11 0 hK (hPm.sub [0, 6, 7, 8] rfl) (hDm.sub [0, 6, 7, 8] (by decide) rfl) rfl rfl) rfl rfl hl.1 rfl (lv_room (Nat.le_of_ble_eq_true rfl)) dL_law_1193 ⟨Nat.le_of_ble_eq_true rfl, Nat.le_of_ble_eq_true rfl⟩) hS hPm hDm hPx (fun q h1 h2 => hap q h2 h1) [0, 6, 7, 8] rfl (fun r2 u2 H locs wr2 hPx hF hS => ?_)
  obtain ⟨r2p0, r2p1, r2p2, r2p3, -⟩ := wr2
  have hPm : va_P G vwCl (mW bm ct (uv v2 [(0, 0, u2.1 0)]) f2 g2) H := hF (mW bm ct (uv v2 [(0, 0, u2.1 0)]) f2 g2) rfl (fun k9 hk9 => mW_same bm ct v2 (uv v2 [(0, 0, u2.1 0)]) f2 f2 g2 g2 k9 (uv_st hk9 (by rfl)) rfl rfl)
  have hIm : MI (uv v2 [(0, 0, u2.1 0)]) f2 g2 := ⟨hIm.1, hIm.2.1, hIm.2.2.1, hIm.2.2.2.1, hIm.2.2.2.2.1, hIm.2.2.2.2.2.1, hIm.2.2.2.2.2.2.1, trivial⟩
  refine lv_pop hx hb dL_law_1196 rfl ?_
  refine lv_goto (tgt := 2133) hx hb dL_law_1197 (by decide) ?_
  exact kk (uv v [(88, 2, u1.1 0)]) (uf f [(89, u1.2.1 0), (90, u1.2.1 1)]) g (uv v2 [(0, 0, u2.1 0)]) f2 g2 H locs ls hIx hIm hPx hPm hS hl
set_option maxHeartbeats 8000000 in
set_option maxRecDepth 100000 in
theorem law_c34 {p : Program} {e : Env} {s : State} {m : MethodId} {below : List Frame} {meth : Method} {c : Code} (l : Launch) {b L : Nat} {xs : Nat → Int32} (C0 : lw_At p s m meth c b L xs) (hL : L ≤ 3072) (k : Nat) (hk6 : k + 6 ≤ L) (G : va_G) (ct : Nat → ClassId) (a rr bm adK adV : Nat → Nat) (v : Nat → Nat → Int32) (f : Nat → Nat → Int32) (g : Nat → Nat → Int64) (v2 : Nat → Nat → Int32) (f2 : Nat → Nat → Int32) (g2 : Nat → Nat → Int64) (H : Heap) (locs : List Loc) (hK : KK G ct s) (hZ : SS adK adV (fun q : Nat => s.heap.size ≤ q) s s.heap) (hD0 : va_D (fun q : Nat => s.heap.size ≤ q) (xW a rr ct (fun _ _ => 0) (fun _ _ => 0) (fun _ _ => 0))) (hE0 : va_D (fun q : Nat => s.heap.size ≤ q) (mW bm ct (fun _ _ => 0) (fun _ _ => 0) (fun _ _ => 0))) (hap0 : wset a rr bm ct) (hIx : XI v f g) (hIm : MI v2 f2 g2) (hPx : va_P G vwCl (xW a rr ct v f g) H) (hPm : va_P G vwCl (mW bm ct v2 f2 g2) H) (hS : va_S (fun q : Nat => s.heap.size ≤ q) s.heap H locs) (ls : Array Slot) (hl : lv_has ls 4 [(3, .int (nI k)), (2, .ref (bm 0)), (1, .ref (a 0)), (0, .ref b)]) (kk : ∀ (v : Nat → Nat → Int32) (f : Nat → Nat → Int32) (g : Nat → Nat → Int64) (v2 : Nat → Nat → Int32) (f2 : Nat → Nat → Int32) (g2 : Nat → Nat → Int64) (H : Heap) (locs : List Loc) (ls : Array Slot), XI v f g → MI v2 f2 g2 → va_P G vwCl (xW a rr ct v f g) H → va_P G vwCl (mW bm ct v2 f2 g2) H → va_S (fun q : Nat => s.heap.size ≤ q) s.heap H locs → lv_has ls 4 [(3, .int (nI k)), (2, .ref (bm 0)), (1, .ref (a 0)), (0, .ref b)] → W p l e room_1 s m #[Value.ref b] below meth c H locs 110 5410 (lw_Z below #[Value.ref b] s) (F0 m 2133 ls [])) : W p l e room_1 s m #[Value.ref b] below meth c H locs 110 5410 (lw_Z below #[Value.ref b] s) (F0 m 1200 ls []) := by
  obtain ⟨hx, hb, hr, hml, hown, hts, hX, hbl, hlocks, hgv⟩ := C0
  have hown : s.vm.findClass RL = some m.cls := hown
  have hts : ∀ z ∈ wsL_law, z.before #[Value.ref b] s = true := fun z h => hts z (wsL_law_in z h)
  have hbA : ¬ (fun q : Nat => s.heap.size ≤ q) b := Nat.not_le.mpr hbl
  have hDx : va_D (fun q : Nat => s.heap.size ≤ q) (xW a rr ct v f g) := hD0.ad (xW_ad ..)
  have hDm : va_D (fun q : Nat => s.heap.size ≤ q) (mW bm ct v2 f2 g2) := hE0.ad (mW_ad ..)
  have hap : ∀ q, aset (xW a rr ct v f g) q → ¬ aset (mW bm ct v2 f2 g2) q := fun q h1 h2 => hap0 q (aset_ad (xW_ad ..) h1) (aset_ad (mW_ad ..) h2)
  refine lv_aload_n hx hb dL_law_1200 rfl (lv_at hl 2 rfl) ?_
  refine lv_aload_n hx hb dL_law_1201 rfl (lv_at hl 3 rfl) ?_
  refine lv_iload_n hx hb dL_law_1202 rfl (lv_at hl 0 rfl) ?_
  refine lv_iconst (v := 1) hx hb dL_law_1203 (by decide) ?_
  refine lv_iadd hx hb dL_law_1204 ?_
  refine ix_i (y := nI (k + 1)) (nI_add k 1) ?_
  refine va_sld hx hb hX hbl hbA hS (vp_in_nI (n := k + 1) (by omega) (by omega)) dL_law_1205 ?_
  refine ro_calli (va_runV (As := [.int (xs (nI (k + 1)).toNatClampNeg)]) (rest := []) ⟨hx, hb, hml, hown, hts⟩ (a_X10_suspects l G ct (a 0) (a 1) (a 3) (a 11) (a 25) (a 68) (a 69) (a 77) (a 82) (a 84) (a 88) (a 91) (a 12) (a 19) (a 24) (v 11 3) (a 13) (a 15) (a 16) (a 17) (a 18) (v 12 5) (v 12 6) (a 14) (v 13 1) (f 17) (a 70) (a 75) (a 76) (v 69 3) rr (g 71) (g 72) (g 73) (g 74) (f 76) (xs (nI (k + 1)).toNatClampNeg) hIx.2.2.1 hIx.2.2.2.2.2.2.2.2.2.2.1) (cwV 1 hts gL_law_X10_suspects rfl rfl rfl (by decide +kernel) ⟨Nat.le_of_ble_eq_true rfl, Nat.le_of_ble_eq_true rfl⟩) (ro_preV 10 0 hK (hPx.sub [0, 11, 12, 13, 17, 69, 70, 71, 72, 73, 74, 76] rfl) rfl rfl) rfl rfl hl.1 rfl (lv_room (Nat.le_of_ble_eq_true rfl)) dL_law_1206 ⟨Nat.le_of_ble_eq_true rfl, Nat.le_of_ble_eq_true rfl⟩) hS (hPx.app hPm) (fun r1 H locs wr1 hPP hS => ?_)
  have hPx := va_P.left hPP
  have hPm := va_P.right hPP
  obtain ⟨r1p0, r1p1, r1p2, r1p3, r1p4, -⟩ := wr1
  refine lv_pop hx hb dL_law_1209 rfl ?_
  refine lv_aload_n hx hb dL_law_1210 rfl (lv_at hl 1 rfl) ?_
  refine lv_aload_n hx hb dL_law_1211 rfl (lv_at hl 3 rfl) ?_
  refine lv_iload_n hx hb dL_law_1212 rfl (lv_at hl 0 rfl) ?_
  refine lv_iconst (v := 1) hx hb dL_law_1213 (by decide) ?_
  refine lv_iadd hx hb dL_law_1214 ?_
  refine ix_i (y := nI (k + 1)) (nI_add k 1) ?_
  refine va_sld hx hb hX hbl hbA hS (vp_in_nI (n := k + 1) (by omega) (by omega)) dL_law_1215 ?_
  refine lw_callx (w1 := (fun u : SU => [((bm 0), .inr (11, [.int (u.1 0), .ref (bm 1), .ref (bm 2), .ref (bm 3), .ref (bm 4), .ref (bm 5), .int (v2 0 6), .int (v2 0 7), .int (v2 0 8), .int (v2 0 9), .int (v2 0 10), .long (g2 0 11), .int (v2 0 12), .int (v2 0 13), .int (v2 0 14), .int (v2 0 15), .ref (bm 6), .ref (bm 7), .ref (bm 8), .ref (bm 9), .ref (bm 10), .ref (bm 11), .ref (bm 12), .ref (bm 13), .int (v2 0 24), .int (v2 0 25), .int (v2 0 26), .int (v2 0 27), .ref (bm 14), .int (v2 0 29), .int (v2 0 30)])), ((bm 1), .inl (ct 0, 4, .inl (f2 1))), ((bm 2), .inl (ct 0, 4, .inl (f2 2))), ((bm 3), .inl (ct 3, 240, .inr (.inl (g2 3)))), ((bm 6), .inl (ct 0, 5, .inl (f2 6))), ((bm 7), .inl (ct 0, 15, .inl (f2 7))), ((bm 8), .inl (ct 0, 200, .inl (f2 8)))])) (va_runV (As := [.int (xs (nI (k + 1)).toNatClampNeg)]) (rest := []) ⟨hx, hb, hml, hown, hts⟩ (a_X11_suspects l G ct (bm 0) (v2 0 0) (bm 1) (bm 2) (bm 3) (bm 4) (bm 5) (v2 0 6) (v2 0 7) (v2 0 8) (v2 0 9) (v2 0 10) (g2 0 11) (v2 0 12) (v2 0 13) (v2 0 14) (v2 0 15) (bm 6) (bm 7) (bm 8) (bm 9) (bm 10) (bm 11) (bm 12) (bm 13) (v2 0 24) (v2 0 25) (v2 0 26) (v2 0 27) (bm 14) (v2 0 29) (v2 0 30) (f2 1) (f2 2) (g2 3) (f2 6) (f2 7) (f2 8) (xs (nI (k + 1)).toNatClampNeg) hIm.1 hIm.2.1 hIm.2.2.1 hIm.2.2.2.1) (cwV 1 hts gL_law_X11_suspects rfl rfl rfl (by decide +kernel) ⟨Nat.le_of_ble_eq_true rfl, Nat.le_of_ble_eq_true rfl⟩) (wr_preV 11 0 hK (hPm.sub [0, 1, 2, 3, 6, 7, 8] rfl) (hDm.sub [0, 1, 2, 3, 6, 7, 8] (by decide) rfl) rfl rfl) rfl rfl hl.1 rfl (lv_room (Nat.le_of_ble_eq_true rfl)) dL_law_1216 ⟨Nat.le_of_ble_eq_true rfl, Nat.le_of_ble_eq_true rfl⟩) hS hPm hDm hPx (fun q h1 h2 => hap q h2 h1) [0, 1, 2, 3, 6, 7, 8] rfl (fun r2 u2 H locs wr2 hPx hF hS => ?_)
  obtain ⟨r2p0, r2p1, r2p2, r2p3, -⟩ := wr2
  have hPm : va_P G vwCl (mW bm ct (uv v2 [(0, 0, u2.1 0)]) f2 g2) H := hF (mW bm ct (uv v2 [(0, 0, u2.1 0)]) f2 g2) rfl (fun k9 hk9 => mW_same bm ct v2 (uv v2 [(0, 0, u2.1 0)]) f2 f2 g2 g2 k9 (uv_st hk9 (by rfl)) rfl rfl)
  have hIm : MI (uv v2 [(0, 0, u2.1 0)]) f2 g2 := ⟨hIm.1, hIm.2.1, hIm.2.2.1, hIm.2.2.2.1, hIm.2.2.2.2.1, hIm.2.2.2.2.2.1, hIm.2.2.2.2.2.2.1, trivial⟩
  refine lv_pop hx hb dL_law_1219 rfl ?_
  refine lv_goto (tgt := 2133) hx hb dL_law_1220 (by decide) ?_
  exact kk v f g (uv v2 [(0, 0, u2.1 0)]) f2 g2 H locs ls hIx hIm hPx hPm hS hl
set_option maxHeartbeats 8000000 in
set_option maxRecDepth 100000 in
theorem law_c35 {p : Program} {e : Env} {s : State} {m : MethodId} {below : List Frame} {meth : Method} {c : Code} (l : Launch) {b L : Nat} {xs : Nat → Int32} (C0 : lw_At p s m meth c b L xs) (hL : L ≤ 3072) (k : Nat) (hk6 : k + 6 ≤ L) (G : va_G) (ct : Nat → ClassId) (a rr bm adK adV : Nat → Nat) (v : Nat → Nat → Int32) (f : Nat → Nat → Int32) (g : Nat → Nat → Int64) (v2 : Nat → Nat → Int32) (f2 : Nat → Nat → Int32) (g2 : Nat → Nat → Int64) (H : Heap) (locs : List Loc) (hK : KK G ct s) (hZ : SS adK adV (fun q : Nat => s.heap.size ≤ q) s s.heap) (hD0 : va_D (fun q : Nat => s.heap.size ≤ q) (xW a rr ct (fun _ _ => 0) (fun _ _ => 0) (fun _ _ => 0))) (hE0 : va_D (fun q : Nat => s.heap.size ≤ q) (mW bm ct (fun _ _ => 0) (fun _ _ => 0) (fun _ _ => 0))) (hap0 : wset a rr bm ct) (hIx : XI v f g) (hIm : MI v2 f2 g2) (hPx : va_P G vwCl (xW a rr ct v f g) H) (hPm : va_P G vwCl (mW bm ct v2 f2 g2) H) (hS : va_S (fun q : Nat => s.heap.size ≤ q) s.heap H locs) (ls : Array Slot) (hl : lv_has ls 4 [(3, .int (nI k)), (2, .ref (bm 0)), (1, .ref (a 0)), (0, .ref b)]) (kk : ∀ (v : Nat → Nat → Int32) (f : Nat → Nat → Int32) (g : Nat → Nat → Int64) (v2 : Nat → Nat → Int32) (f2 : Nat → Nat → Int32) (g2 : Nat → Nat → Int64) (H : Heap) (locs : List Loc) (ls : Array Slot), XI v f g → MI v2 f2 g2 → va_P G vwCl (xW a rr ct v f g) H → va_P G vwCl (mW bm ct v2 f2 g2) H → va_S (fun q : Nat => s.heap.size ≤ q) s.heap H locs → lv_has ls 4 [(3, .int (nI k)), (2, .ref (bm 0)), (1, .ref (a 0)), (0, .ref b)] → W p l e room_1 s m #[Value.ref b] below meth c H locs 110 5410 (lw_Z below #[Value.ref b] s) (F0 m 2133 ls [])) : W p l e room_1 s m #[Value.ref b] below meth c H locs 110 5410 (lw_Z below #[Value.ref b] s) (F0 m 1223 ls []) := by
  obtain ⟨hx, hb, hr, hml, hown, hts, hX, hbl, hlocks, hgv⟩ := C0
  have hown : s.vm.findClass RL = some m.cls := hown
  have hts : ∀ z ∈ wsL_law, z.before #[Value.ref b] s = true := fun z h => hts z (wsL_law_in z h)
  have hbA : ¬ (fun q : Nat => s.heap.size ≤ q) b := Nat.not_le.mpr hbl
  have hDx : va_D (fun q : Nat => s.heap.size ≤ q) (xW a rr ct v f g) := hD0.ad (xW_ad ..)
  have hDm : va_D (fun q : Nat => s.heap.size ≤ q) (mW bm ct v2 f2 g2) := hE0.ad (mW_ad ..)
  have hap : ∀ q, aset (xW a rr ct v f g) q → ¬ aset (mW bm ct v2 f2 g2) q := fun q h1 h2 => hap0 q (aset_ad (xW_ad ..) h1) (aset_ad (mW_ad ..) h2)
  refine lv_aload_n hx hb dL_law_1223 rfl (lv_at hl 2 rfl) ?_
  refine lv_aload_n hx hb dL_law_1224 rfl (lv_at hl 3 rfl) ?_
  refine lv_iload_n hx hb dL_law_1225 rfl (lv_at hl 0 rfl) ?_
  refine lv_iconst (v := 1) hx hb dL_law_1226 (by decide) ?_
  refine lv_iadd hx hb dL_law_1227 ?_
  refine ix_i (y := nI (k + 1)) (nI_add k 1) ?_
  refine va_sld hx hb hX hbl hbA hS (vp_in_nI (n := k + 1) (by omega) (by omega)) dL_law_1228 ?_
  refine ro_calli (va_runV (As := [.int (xs (nI (k + 1)).toNatClampNeg)]) (rest := []) ⟨hx, hb, hml, hown, hts⟩ (a_X10_watch l G ct (a 0) (a 1) (a 3) (a 11) (a 25) (a 68) (a 69) (a 77) (a 82) (a 84) (a 88) (a 91) (a 12) (a 19) (a 24) (v 11 3) (a 13) (a 15) (a 16) (a 17) (a 18) (v 12 5) (v 12 6) (a 14) (v 13 1) (f 17) (a 70) (a 75) (a 76) (v 69 3) rr (g 71) (g 72) (g 73) (g 74) (f 76) (xs (nI (k + 1)).toNatClampNeg) hIx.2.2.1 hIx.2.2.2.2.2.2.2.2.2.2.1) (cwV 1 hts gL_law_X10_watch rfl rfl rfl (by decide +kernel) ⟨Nat.le_of_ble_eq_true rfl, Nat.le_of_ble_eq_true rfl⟩) (ro_preV 10 0 hK (hPx.sub [0, 11, 12, 13, 17, 69, 70, 71, 72, 73, 74, 76] rfl) rfl rfl) rfl rfl hl.1 rfl (lv_room (Nat.le_of_ble_eq_true rfl)) dL_law_1229 ⟨Nat.le_of_ble_eq_true rfl, Nat.le_of_ble_eq_true rfl⟩) hS (hPx.app hPm) (fun r1 H locs wr1 hPP hS => ?_)
  have hPx := va_P.left hPP
  have hPm := va_P.right hPP
  obtain ⟨r1p0, r1p1, r1p2, r1p3, r1p4, -⟩ := wr1
  refine lv_pop hx hb dL_law_1232 rfl ?_
  refine lv_aload_n hx hb dL_law_1233 rfl (lv_at hl 1 rfl) ?_
  refine lv_aload_n hx hb dL_law_1234 rfl (lv_at hl 3 rfl) ?_
  refine lv_iload_n hx hb dL_law_1235 rfl (lv_at hl 0 rfl) ?_
  refine lv_iconst (v := 1) hx hb dL_law_1236 (by decide) ?_
  refine lv_iadd hx hb dL_law_1237 ?_
  refine ix_i (y := nI (k + 1)) (nI_add k 1) ?_
  refine va_sld hx hb hX hbl hbA hS (vp_in_nI (n := k + 1) (by omega) (by omega)) dL_law_1238 ?_
  refine lw_callx (w1 := (fun u : SU => [((bm 0), .inr (11, [.int (u.1 0), .ref (bm 1), .ref (bm 2), .ref (bm 3), .ref (bm 4), .ref (bm 5), .int (v2 0 6), .int (v2 0 7), .int (v2 0 8), .int (v2 0 9), .int (v2 0 10), .long (g2 0 11), .int (v2 0 12), .int (v2 0 13), .int (v2 0 14), .int (v2 0 15), .ref (bm 6), .ref (bm 7), .ref (bm 8), .ref (bm 9), .ref (bm 10), .ref (bm 11), .ref (bm 12), .ref (bm 13), .int (v2 0 24), .int (v2 0 25), .int (v2 0 26), .int (v2 0 27), .ref (bm 14), .int (u.1 1), .int (u.1 2)])), ((bm 1), .inl (ct 0, 4, .inl (f2 1))), ((bm 2), .inl (ct 0, 4, .inl (f2 2))), ((bm 3), .inl (ct 3, 240, .inr (.inl (g2 3)))), ((bm 6), .inl (ct 0, 5, .inl (f2 6))), ((bm 7), .inl (ct 0, 15, .inl (f2 7))), ((bm 8), .inl (ct 0, 200, .inl (f2 8)))])) (va_runV (As := [.int (xs (nI (k + 1)).toNatClampNeg)]) (rest := []) ⟨hx, hb, hml, hown, hts⟩ (a_X11_watch l G ct (bm 0) (v2 0 0) (bm 1) (bm 2) (bm 3) (bm 4) (bm 5) (v2 0 6) (v2 0 7) (v2 0 8) (v2 0 9) (v2 0 10) (g2 0 11) (v2 0 12) (v2 0 13) (v2 0 14) (v2 0 15) (bm 6) (bm 7) (bm 8) (bm 9) (bm 10) (bm 11) (bm 12) (bm 13) (v2 0 24) (v2 0 25) (v2 0 26) (v2 0 27) (bm 14) (v2 0 29) (v2 0 30) (f2 1) (f2 2) (g2 3) (f2 6) (f2 7) (f2 8) (xs (nI (k + 1)).toNatClampNeg) hIm.1 hIm.2.1 hIm.2.2.1 hIm.2.2.2.1) (cwV 1 hts gL_law_X11_watch rfl rfl rfl (by decide +kernel) ⟨Nat.le_of_ble_eq_true rfl, Nat.le_of_ble_eq_true rfl⟩) (wr_preV 11 0 hK (hPm.sub [0, 1, 2, 3, 6, 7, 8] rfl) (hDm.sub [0, 1, 2, 3, 6, 7, 8] (by decide) rfl) rfl rfl) rfl rfl hl.1 rfl (lv_room (Nat.le_of_ble_eq_true rfl)) dL_law_1239 ⟨Nat.le_of_ble_eq_true rfl, Nat.le_of_ble_eq_true rfl⟩) hS hPm hDm hPx (fun q h1 h2 => hap q h2 h1) [0, 1, 2, 3, 6, 7, 8] rfl (fun r2 u2 H locs wr2 hPx hF hS => ?_)
  obtain ⟨r2p0, r2p1, r2p2, r2p3, -⟩ := wr2
  have hPm : va_P G vwCl (mW bm ct (uv v2 [(0, 0, u2.1 0), (0, 29, u2.1 1), (0, 30, u2.1 2)]) f2 g2) H := hF (mW bm ct (uv v2 [(0, 0, u2.1 0), (0, 29, u2.1 1), (0, 30, u2.1 2)]) f2 g2) rfl (fun k9 hk9 => mW_same bm ct v2 (uv v2 [(0, 0, u2.1 0), (0, 29, u2.1 1), (0, 30, u2.1 2)]) f2 f2 g2 g2 k9 (uv_st hk9 (by rfl)) rfl rfl)
  have hIm : MI (uv v2 [(0, 0, u2.1 0), (0, 29, u2.1 1), (0, 30, u2.1 2)]) f2 g2 := ⟨hIm.1, hIm.2.1, hIm.2.2.1, hIm.2.2.2.1, hIm.2.2.2.2.1, hIm.2.2.2.2.2.1, hIm.2.2.2.2.2.2.1, trivial⟩
  refine lv_pop hx hb dL_law_1242 rfl ?_
  refine lv_goto (tgt := 2133) hx hb dL_law_1243 (by decide) ?_
  exact kk v f g (uv v2 [(0, 0, u2.1 0), (0, 29, u2.1 1), (0, 30, u2.1 2)]) f2 g2 H locs ls hIx hIm hPx hPm hS hl
