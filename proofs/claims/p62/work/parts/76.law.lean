theorem dL_law_990 : decode cL_law 990 = .ok (.aload_n 1, 1) := by decide +kernel
set_option maxRecDepth 20000 in
theorem ggL_law_X10_own : GoodIn wsL_law wsX10_own := goodIn_r _ [916, 917, 623, 624, 625, 2, 626, 24, 35, 190, 544, 545, 546, 547, 528, 534, 918, 919, 920, 39, 921, 323, 631, 550, 551, 552, 553, 330, 331, 332, 81, 319, 320, 321, 322, 922, 923, 924, 925, 926, 927, 928, 722, 723, 724, 725, 726, 727, 728, 729, 730, 704, 705, 706, 707, 708, 216, 709, 652, 653, 654, 655, 1740, 1741, 1672, 1673, 1674, 1675, 1676, 1677, 1678, 1679, 1680, 1681, 1682, 1724, 1725, 1726, 1727, 1752, 1753, 1754, 1755, 1756, 1757, 1758, 1732, 1733, 1734, 1735, 1736, 1737, 1738, 1739] (by decide +kernel) (by decide +kernel)
set_option maxRecDepth 20000 in
theorem gL_law_X10_own : GoodIn wsL_law (wsV RL 115 RX10 yX10_own wsX10_own) := goodIn_app (goodIn_of _ (by decide +kernel)) ggL_law_X10_own
theorem dL_law_991 : decode cL_law 991 = .ok (.invokevirtual 115, 3) := by decide +kernel
theorem dL_law_994 : decode cL_law 994 = .ok (.pop, 1) := by decide +kernel
theorem dL_law_995 : decode cL_law 995 = .ok (.aload_n 2, 1) := by decide +kernel
set_option maxRecDepth 20000 in
theorem ggL_law_X11_own : GoodIn wsL_law wsX11_own := goodIn_r _ [932, 164, 137, 636, 637, 638, 5, 639, 136, 577, 578, 579, 580, 139, 581, 582, 583, 584, 141, 142, 143, 572, 585, 586, 587, 588, 589, 590, 591, 138, 592, 593, 594, 595, 596, 597, 598, 599, 600, 601, 602, 603, 604, 605, 606, 607, 608, 609, 610, 933, 934, 935, 936, 611, 612, 613, 614, 937, 938, 939, 735, 736, 737, 738, 714, 715, 716, 717, 1683, 1684, 1685, 1686, 1687, 1688, 1689, 1690, 1691, 1692, 1693, 1694, 1695, 1696, 1697, 1698, 1699, 1700, 1701, 1702, 1703, 1704, 1705, 1706, 1707, 1708, 1709, 1710, 1711, 1712, 1713] (by decide +kernel) (by decide +kernel)
set_option maxRecDepth 20000 in
theorem gL_law_X11_own : GoodIn wsL_law (wsV RL 118 RX11 yX11_own wsX11_own) := goodIn_app (goodIn_of _ (by decide +kernel)) ggL_law_X11_own
theorem dL_law_996 : decode cL_law 996 = .ok (.invokevirtual 118, 3) := by decide +kernel
theorem dL_law_999 : decode cL_law 999 = .ok (.pop, 1) := by decide +kernel
theorem dL_law_1000 : decode cL_law 1000 = .ok (.goto 1133, 3) := by decide +kernel
theorem dL_law_1003 : decode cL_law 1003 = .ok (.aload_n 1, 1) := by decide +kernel
theorem dL_law_1004 : decode cL_law 1004 = .ok (.aload_n 0, 1) := by decide +kernel
theorem dL_law_1005 : decode cL_law 1005 = .ok (.iload_n 3, 1) := by decide +kernel
theorem dL_law_1006 : decode cL_law 1006 = .ok (.iconst 1, 1) := by decide +kernel
theorem dL_law_1007 : decode cL_law 1007 = .ok (.iadd, 1) := by decide +kernel
theorem dL_law_1008 : decode cL_law 1008 = .ok (.iaload, 1) := by decide +kernel
set_option maxRecDepth 20000 in
theorem ggL_law_X10_first : GoodIn wsL_law wsX10_first := goodIn_r _ [943, 917, 623, 624, 625, 2, 626, 24, 35, 190, 544, 545, 546, 547, 528, 534, 918, 919, 920, 39, 921, 323, 631, 550, 551, 552, 553, 330, 331, 332, 81, 319, 320, 321, 322, 922, 923, 924, 925, 926, 927, 928, 703, 704, 705, 706, 707, 708, 216, 709, 652, 653, 654, 655, 944, 945, 946, 947, 1740, 1741, 1672, 1673, 1674, 1675, 1676, 1677, 1678, 1679, 1680, 1681, 1682, 1724, 1725, 1726, 1727, 1752, 1753, 1754, 1755, 1756, 1757, 1758, 1732, 1733, 1734, 1735, 1736, 1737, 1738, 1739] (by decide +kernel) (by decide +kernel)
set_option maxRecDepth 20000 in
theorem gL_law_X10_first : GoodIn wsL_law (wsV RL 119 RX10 yX10_first wsX10_first) := goodIn_app (goodIn_of _ (by decide +kernel)) ggL_law_X10_first
theorem dL_law_1009 : decode cL_law 1009 = .ok (.invokevirtual 119, 3) := by decide +kernel
theorem dL_law_1012 : decode cL_law 1012 = .ok (.pop, 1) := by decide +kernel
theorem dL_law_1013 : decode cL_law 1013 = .ok (.aload_n 2, 1) := by decide +kernel
theorem dL_law_1014 : decode cL_law 1014 = .ok (.aload_n 0, 1) := by decide +kernel
theorem dL_law_1015 : decode cL_law 1015 = .ok (.iload_n 3, 1) := by decide +kernel
theorem dL_law_1016 : decode cL_law 1016 = .ok (.iconst 1, 1) := by decide +kernel
theorem dL_law_1017 : decode cL_law 1017 = .ok (.iadd, 1) := by decide +kernel
theorem dL_law_1018 : decode cL_law 1018 = .ok (.iaload, 1) := by decide +kernel
set_option maxRecDepth 20000 in
theorem ggL_law_X11_first : GoodIn wsL_law wsX11_first := goodIn_r _ [951, 164, 137, 636, 637, 638, 5, 639, 136, 182, 183, 184, 577, 578, 579, 580, 139, 581, 582, 583, 584, 141, 142, 143, 572, 585, 586, 587, 588, 589, 590, 591, 138, 592, 593, 594, 595, 596, 597, 598, 599, 600, 601, 602, 603, 604, 605, 606, 607, 608, 609, 610, 933, 934, 935, 936, 611, 612, 613, 614, 937, 938, 939, 683, 684, 685, 686, 1683, 1684, 1685, 1686, 1687, 1688, 1689, 1690, 1691, 1692, 1693, 1694, 1695, 1696, 1697, 1698, 1699, 1700, 1701, 1702, 1703, 1704, 1705, 1706, 1707, 1708, 1709, 1710, 1711, 1712, 1713] (by decide +kernel) (by decide +kernel)
set_option maxRecDepth 20000 in
theorem gL_law_X11_first : GoodIn wsL_law (wsV RL 122 RX11 yX11_first wsX11_first) := goodIn_app (goodIn_of _ (by decide +kernel)) ggL_law_X11_first
theorem dL_law_1019 : decode cL_law 1019 = .ok (.invokevirtual 122, 3) := by decide +kernel
theorem dL_law_1022 : decode cL_law 1022 = .ok (.pop, 1) := by decide +kernel
theorem dL_law_1023 : decode cL_law 1023 = .ok (.goto 1110, 3) := by decide +kernel
theorem dL_law_1026 : decode cL_law 1026 = .ok (.aload_n 1, 1) := by decide +kernel
set_option maxRecDepth 20000 in
theorem ggL_law_X10_work : GoodIn wsL_law wsX10_work := goodIn_r _ [955, 917, 24, 35, 623, 624, 625, 2, 626, 190, 544, 545, 546, 547, 528, 534, 956, 957, 958, 23, 959, 88, 376, 960, 961, 550, 551, 39, 552, 323, 553, 330, 331, 332, 81, 319, 320, 321, 322, 554, 555, 556, 64, 557, 72, 76, 386, 962, 963, 964, 965, 966, 215, 216, 217, 967, 923, 924, 925, 926, 927, 928, 968, 969, 970, 971, 754, 86, 403, 404, 756, 541, 542, 543, 75, 1740, 1741, 1672, 1673, 1674, 1675, 1676, 1677, 1678, 1679, 1680, 1681, 1682, 1724, 1725, 1726, 1727, 1752, 1753, 1754, 1755, 1756, 1757, 1758, 1732, 1733, 1734, 1735, 1736, 1737, 1738, 1739] (by decide +kernel) (by decide +kernel)
set_option maxRecDepth 20000 in
theorem gL_law_X10_work : GoodIn wsL_law (wsV RL 123 RX10 yX10_work wsX10_work) := goodIn_app (goodIn_of _ (by decide +kernel)) ggL_law_X10_work
theorem dL_law_1027 : decode cL_law 1027 = .ok (.invokevirtual 123, 3) := by decide +kernel
theorem dL_law_1030 : decode cL_law 1030 = .ok (.pop, 1) := by decide +kernel
theorem dL_law_1031 : decode cL_law 1031 = .ok (.aload_n 2, 1) := by decide +kernel
set_option maxRecDepth 20000 in
theorem ggL_law_X11_work : GoodIn wsL_law wsX11_work := goodIn_r _ [975, 164, 137, 144, 636, 637, 638, 5, 639, 136, 577, 578, 579, 580, 139, 581, 582, 583, 584, 141, 142, 143, 572, 585, 586, 587, 588, 589, 590, 591, 138, 592, 593, 594, 595, 596, 597, 598, 599, 600, 601, 602, 603, 604, 605, 606, 607, 608, 609, 610, 976, 977, 978, 979, 980, 981, 982, 983, 1683, 1684, 1685, 1686, 1687, 1688, 1689, 1690, 1691, 1692, 1693, 1694, 1695, 1696, 1697, 1698, 1699, 1700, 1701, 1702, 1703, 1704, 1705, 1706, 1707, 1708, 1709, 1710, 1711, 1712, 1713] (by decide +kernel) (by decide +kernel)
set_option maxRecDepth 20000 in
theorem gL_law_X11_work : GoodIn wsL_law (wsV RL 126 RX11 yX11_work wsX11_work) := goodIn_app (goodIn_of _ (by decide +kernel)) ggL_law_X11_work
theorem dL_law_1032 : decode cL_law 1032 = .ok (.invokevirtual 126, 3) := by decide +kernel
theorem dL_law_1035 : decode cL_law 1035 = .ok (.pop, 1) := by decide +kernel
theorem dL_law_1036 : decode cL_law 1036 = .ok (.goto 1097, 3) := by decide +kernel
theorem dL_law_1039 : decode cL_law 1039 = .ok (.aload_n 1, 1) := by decide +kernel
theorem dL_law_1040 : decode cL_law 1040 = .ok (.aload_n 0, 1) := by decide +kernel
theorem dL_law_1041 : decode cL_law 1041 = .ok (.iload_n 3, 1) := by decide +kernel
theorem dL_law_1042 : decode cL_law 1042 = .ok (.iconst 1, 1) := by decide +kernel
theorem dL_law_1043 : decode cL_law 1043 = .ok (.iadd, 1) := by decide +kernel
theorem dL_law_1044 : decode cL_law 1044 = .ok (.iaload, 1) := by decide +kernel
set_option maxRecDepth 20000 in
theorem ggL_law_X10_works : GoodIn wsL_law wsX10_works := goodIn_r _ [987, 24, 530, 531, 532, 2, 533, 528, 534, 535, 320, 321, 39, 322, 323, 988, 989, 990, 23, 991, 88, 376, 86, 674, 330, 331, 332, 81, 319, 992, 957, 958, 959, 960, 961, 550, 551, 552, 553, 993, 555, 556, 64, 557, 72, 76, 386, 403, 404, 994, 995, 996, 997, 998, 963, 964, 965, 966, 215, 216, 217, 967, 923, 924, 925, 926, 927, 928, 968, 969, 970, 971, 754, 756, 541, 542, 543, 75, 1672, 1673, 1674, 1675, 1676, 1677, 1678, 1679, 1680, 1681, 1682, 1724, 1725, 1726, 1727, 1732, 1733, 1734, 1735, 1736, 1737, 1738, 1739, 1740, 1741, 1752, 1753, 1754, 1755, 1756, 1757, 1758] (by decide +kernel) (by decide +kernel)
set_option maxRecDepth 20000 in
theorem gL_law_X10_works : GoodIn wsL_law (wsV RL 127 RX10 yX10_works wsX10_works) := goodIn_app (goodIn_of _ (by decide +kernel)) ggL_law_X10_works
theorem dL_law_1045 : decode cL_law 1045 = .ok (.invokevirtual 127, 3) := by decide +kernel
theorem dL_law_1048 : decode cL_law 1048 = .ok (.pop, 1) := by decide +kernel
theorem dL_law_1049 : decode cL_law 1049 = .ok (.aload_n 2, 1) := by decide +kernel
theorem dL_law_1050 : decode cL_law 1050 = .ok (.aload_n 0, 1) := by decide +kernel
theorem dL_law_1051 : decode cL_law 1051 = .ok (.iload_n 3, 1) := by decide +kernel
theorem dL_law_1052 : decode cL_law 1052 = .ok (.iconst 1, 1) := by decide +kernel
theorem dL_law_1053 : decode cL_law 1053 = .ok (.iadd, 1) := by decide +kernel
theorem dL_law_1054 : decode cL_law 1054 = .ok (.iaload, 1) := by decide +kernel
set_option maxRecDepth 20000 in
theorem ggL_law_X11_works : GoodIn wsL_law wsX11_works := goodIn_r _ [1002, 164, 141, 144, 573, 574, 575, 5, 576, 137, 182, 183, 184, 577, 578, 579, 580, 139, 581, 582, 583, 584, 142, 143, 572, 585, 586, 587, 588, 589, 590, 591, 138, 592, 593, 594, 595, 596, 597, 598, 599, 600, 601, 602, 603, 604, 605, 606, 607, 608, 609, 610, 976, 977, 978, 979, 980, 981, 982, 983, 1683, 1684, 1685, 1686, 1687, 1688, 1689, 1690, 1691, 1692, 1693, 1694, 1695, 1696, 1697, 1698, 1699, 1700, 1701, 1702, 1703, 1704, 1705, 1706, 1707, 1708, 1709, 1710, 1711, 1712, 1713] (by decide +kernel) (by decide +kernel)
set_option maxRecDepth 20000 in
theorem gL_law_X11_works : GoodIn wsL_law (wsV RL 130 RX11 yX11_works wsX11_works) := goodIn_app (goodIn_of _ (by decide +kernel)) ggL_law_X11_works
theorem dL_law_1055 : decode cL_law 1055 = .ok (.invokevirtual 130, 3) := by decide +kernel
theorem dL_law_1058 : decode cL_law 1058 = .ok (.pop, 1) := by decide +kernel
theorem dL_law_1059 : decode cL_law 1059 = .ok (.goto 1074, 3) := by decide +kernel
set_option maxHeartbeats 8000000 in
set_option maxRecDepth 100000 in
theorem law_c24 {p : Program} {e : Env} {s : State} {m : MethodId} {below : List Frame} {meth : Method} {c : Code} (l : Launch) {b L : Nat} {xs : Nat → Int32} (C0 : lw_At p s m meth c b L xs) (hL : L ≤ 3072) (k : Nat) (hk6 : k + 6 ≤ L) (G : va_G) (ct : Nat → ClassId) (a rr bm adK adV : Nat → Nat) (v : Nat → Nat → Int32) (f : Nat → Nat → Int32) (g : Nat → Nat → Int64) (v2 : Nat → Nat → Int32) (f2 : Nat → Nat → Int32) (g2 : Nat → Nat → Int64) (H : Heap) (locs : List Loc) (hK : KK G ct s) (hZ : SS adK adV (fun q : Nat => s.heap.size ≤ q) s s.heap) (hD0 : va_D (fun q : Nat => s.heap.size ≤ q) (xW a rr ct (fun _ _ => 0) (fun _ _ => 0) (fun _ _ => 0))) (hE0 : va_D (fun q : Nat => s.heap.size ≤ q) (mW bm ct (fun _ _ => 0) (fun _ _ => 0) (fun _ _ => 0))) (hap0 : wset a rr bm ct) (hIx : XI v f g) (hIm : MI v2 f2 g2) (hPx : va_P G vwCl (xW a rr ct v f g) H) (hPm : va_P G vwCl (mW bm ct v2 f2 g2) H) (hS : va_S (fun q : Nat => s.heap.size ≤ q) s.heap H locs) (ls : Array Slot) (hl : lv_has ls 4 [(3, .int (nI k)), (2, .ref (bm 0)), (1, .ref (a 0)), (0, .ref b)]) (kk : ∀ (v : Nat → Nat → Int32) (f : Nat → Nat → Int32) (g : Nat → Nat → Int64) (v2 : Nat → Nat → Int32) (f2 : Nat → Nat → Int32) (g2 : Nat → Nat → Int64) (H : Heap) (locs : List Loc) (ls : Array Slot), XI v f g → MI v2 f2 g2 → va_P G vwCl (xW a rr ct v f g) H → va_P G vwCl (mW bm ct v2 f2 g2) H → va_S (fun q : Nat => s.heap.size ≤ q) s.heap H locs → lv_has ls 4 [(3, .int (nI k)), (2, .ref (bm 0)), (1, .ref (a 0)), (0, .ref b)] → W p l e room_1 s m #[Value.ref b] below meth c H locs 110 5410 (lw_Z below #[Value.ref b] s) (F0 m 2133 ls [])) : W p l e room_1 s m #[Value.ref b] below meth c H locs 110 5410 (lw_Z below #[Value.ref b] s) (F0 m 990 ls []) := by
  obtain ⟨hx, hb, hr, hml, hown, hts, hX, hbl, hlocks, hgv⟩ := C0
  have hown : s.vm.findClass RL = some m.cls := hown
  have hts : ∀ z ∈ wsL_law, z.before #[Value.ref b] s = true := fun z h => hts z (wsL_law_in z h)
  have hbA : ¬ (fun q : Nat => s.heap.size ≤ q) b := Nat.not_le.mpr hbl
  have hDx : va_D (fun q : Nat => s.heap.size ≤ q) (xW a rr ct v f g) := hD0.ad (xW_ad ..)
  have hDm : va_D (fun q : Nat => s.heap.size ≤ q) (mW bm ct v2 f2 g2) := hE0.ad (mW_ad ..)
  have hap : ∀ q, aset (xW a rr ct v f g) q → ¬ aset (mW bm ct v2 f2 g2) q := fun q h1 h2 => hap0 q (aset_ad (xW_ad ..) h1) (aset_ad (mW_ad ..) h2)
  refine lv_aload_n hx hb dL_law_990 rfl (lv_at hl 2 rfl) ?_
  refine ro_calli (va_runV (As := []) (rest := []) ⟨hx, hb, hml, hown, hts⟩ (a_X10_own l G ct (a 0) (a 1) (a 3) (a 11) (a 25) (a 68) (a 69) (a 77) (a 82) (a 84) (a 88) (a 91) (a 12) (a 19) (a 24) (v 11 3) (a 13) (a 15) (a 16) (a 17) (a 18) (v 12 5) (v 12 6) (a 20) (a 22) (a 23) (v 19 4) (v 19 5) (v 19 6) (v 19 7) (a 21) (v 20 1) (f 21) hIx.2.2.2.1) (cwV 0 hts gL_law_X10_own rfl rfl rfl (by decide +kernel) ⟨Nat.le_of_ble_eq_true rfl, Nat.le_of_ble_eq_true rfl⟩) (ro_preV 10 0 hK (hPx.sub [0, 11, 12, 19, 20, 21] rfl) rfl rfl) rfl rfl hl.1 rfl (lv_room (Nat.le_of_ble_eq_true rfl)) dL_law_991 ⟨Nat.le_of_ble_eq_true rfl, Nat.le_of_ble_eq_true rfl⟩) hS (hPx.app hPm) (fun r1 H locs wr1 hPP hS => ?_)
  have hPx := va_P.left hPP
  have hPm := va_P.right hPP
  obtain ⟨r1p0, r1p1, r1p2, -⟩ := wr1
  refine lv_pop hx hb dL_law_994 rfl ?_
  refine lv_aload_n hx hb dL_law_995 rfl (lv_at hl 1 rfl) ?_
  refine lw_callx (w1 := (fun u : SU => [((bm 0), .inr (11, [.int (u.1 0), .ref (bm 1), .ref (bm 2), .ref (bm 3), .ref (bm 4), .ref (bm 5), .int (v2 0 6), .int (v2 0 7), .int (v2 0 8), .int (v2 0 9), .int (v2 0 10), .long (g2 0 11), .int (v2 0 12), .int (v2 0 13), .int (v2 0 14), .int (v2 0 15), .ref (bm 6), .ref (bm 7), .ref (bm 8), .ref (bm 9), .ref (bm 10), .ref (bm 11), .ref (bm 12), .ref (bm 13), .int (u.1 1), .int (u.1 2), .int (u.1 3), .int (u.1 4), .ref (bm 14), .int (v2 0 29), .int (v2 0 30)])), ((bm 6), .inl (ct 0, 5, .inl (f2 6))), ((bm 7), .inl (ct 0, 15, .inl (f2 7))), ((bm 8), .inl (ct 0, 200, .inl (f2 8))), ((bm 9), .inl (ct 0, 1000, .inl (f2 9))), ((bm 11), .inl (ct 0, 8, .inl (u.2.1 0))), ((bm 12), .inl (ct 0, 8, .inl (u.2.1 1))), ((bm 13), .inl (ct 0, 8, .inl (u.2.1 2)))])) (va_runV (As := []) (rest := []) ⟨hx, hb, hml, hown, hts⟩ (a_X11_own l G ct (bm 0) (v2 0 0) (bm 1) (bm 2) (bm 3) (bm 4) (bm 5) (v2 0 6) (v2 0 7) (v2 0 8) (v2 0 9) (v2 0 10) (g2 0 11) (v2 0 12) (v2 0 13) (v2 0 14) (v2 0 15) (bm 6) (bm 7) (bm 8) (bm 9) (bm 10) (bm 11) (bm 12) (bm 13) (v2 0 24) (v2 0 25) (v2 0 26) (v2 0 27) (bm 14) (v2 0 29) (v2 0 30) (f2 6) (f2 7) (f2 8) (f2 9) (f2 11) (f2 12) (f2 13) hIm.2.1 hIm.2.2.1 hIm.2.2.2.1 hIm.2.2.2.2.1 hIm.2.2.2.2.2.1 hIm.2.2.2.2.2.2.1) (cwV 0 hts gL_law_X11_own rfl rfl rfl (by decide +kernel) ⟨Nat.le_of_ble_eq_true rfl, Nat.le_of_ble_eq_true rfl⟩) (wr_preV 11 0 hK (hPm.sub [0, 6, 7, 8, 9, 11, 12, 13] rfl) (hDm.sub [0, 6, 7, 8, 9, 11, 12, 13] (by decide) rfl) rfl rfl) rfl rfl hl.1 rfl (lv_room (Nat.le_of_ble_eq_true rfl)) dL_law_996 ⟨Nat.le_of_ble_eq_true rfl, Nat.le_of_ble_eq_true rfl⟩) hS hPm hDm hPx (fun q h1 h2 => hap q h2 h1) [0, 6, 7, 8, 9, 11, 12, 13] rfl (fun r2 u2 H locs wr2 hPx hF hS => ?_)
  obtain ⟨r2p0, r2p1, r2p2, -⟩ := wr2
  have hPm : va_P G vwCl (mW bm ct (uv v2 [(0, 0, u2.1 0), (0, 24, u2.1 1), (0, 25, u2.1 2), (0, 26, u2.1 3), (0, 27, u2.1 4)]) (uf f2 [(11, u2.2.1 0), (12, u2.2.1 1), (13, u2.2.1 2)]) g2) H := hF (mW bm ct (uv v2 [(0, 0, u2.1 0), (0, 24, u2.1 1), (0, 25, u2.1 2), (0, 26, u2.1 3), (0, 27, u2.1 4)]) (uf f2 [(11, u2.2.1 0), (12, u2.2.1 1), (13, u2.2.1 2)]) g2) rfl (fun k9 hk9 => mW_same bm ct v2 (uv v2 [(0, 0, u2.1 0), (0, 24, u2.1 1), (0, 25, u2.1 2), (0, 26, u2.1 3), (0, 27, u2.1 4)]) f2 (uf f2 [(11, u2.2.1 0), (12, u2.2.1 1), (13, u2.2.1 2)]) g2 g2 k9 (uv_st hk9 (by rfl)) (uf_st hk9 (by rfl)) rfl)
  have hIm : MI (uv v2 [(0, 0, u2.1 0), (0, 24, u2.1 1), (0, 25, u2.1 2), (0, 26, u2.1 3), (0, 27, u2.1 4)]) (uf f2 [(11, u2.2.1 0), (12, u2.2.1 1), (13, u2.2.1 2)]) g2 := ⟨hIm.1, hIm.2.1, hIm.2.2.1, hIm.2.2.2.1, hIm.2.2.2.2.1, r2p0, r2p1, trivial⟩
  refine lv_pop hx hb dL_law_999 rfl ?_
  refine lv_goto (tgt := 2133) hx hb dL_law_1000 (by decide) ?_
  exact kk v f g (uv v2 [(0, 0, u2.1 0), (0, 24, u2.1 1), (0, 25, u2.1 2), (0, 26, u2.1 3), (0, 27, u2.1 4)]) (uf f2 [(11, u2.2.1 0), (12, u2.2.1 1), (13, u2.2.1 2)]) g2 H locs ls hIx hIm hPx hPm hS hl
set_option maxHeartbeats 8000000 in
set_option maxRecDepth 100000 in
theorem law_c25 {p : Program} {e : Env} {s : State} {m : MethodId} {below : List Frame} {meth : Method} {c : Code} (l : Launch) {b L : Nat} {xs : Nat → Int32} (C0 : lw_At p s m meth c b L xs) (hL : L ≤ 3072) (k : Nat) (hk6 : k + 6 ≤ L) (G : va_G) (ct : Nat → ClassId) (a rr bm adK adV : Nat → Nat) (v : Nat → Nat → Int32) (f : Nat → Nat → Int32) (g : Nat → Nat → Int64) (v2 : Nat → Nat → Int32) (f2 : Nat → Nat → Int32) (g2 : Nat → Nat → Int64) (H : Heap) (locs : List Loc) (hK : KK G ct s) (hZ : SS adK adV (fun q : Nat => s.heap.size ≤ q) s s.heap) (hD0 : va_D (fun q : Nat => s.heap.size ≤ q) (xW a rr ct (fun _ _ => 0) (fun _ _ => 0) (fun _ _ => 0))) (hE0 : va_D (fun q : Nat => s.heap.size ≤ q) (mW bm ct (fun _ _ => 0) (fun _ _ => 0) (fun _ _ => 0))) (hap0 : wset a rr bm ct) (hIx : XI v f g) (hIm : MI v2 f2 g2) (hPx : va_P G vwCl (xW a rr ct v f g) H) (hPm : va_P G vwCl (mW bm ct v2 f2 g2) H) (hS : va_S (fun q : Nat => s.heap.size ≤ q) s.heap H locs) (ls : Array Slot) (hl : lv_has ls 4 [(3, .int (nI k)), (2, .ref (bm 0)), (1, .ref (a 0)), (0, .ref b)]) (kk : ∀ (v : Nat → Nat → Int32) (f : Nat → Nat → Int32) (g : Nat → Nat → Int64) (v2 : Nat → Nat → Int32) (f2 : Nat → Nat → Int32) (g2 : Nat → Nat → Int64) (H : Heap) (locs : List Loc) (ls : Array Slot), XI v f g → MI v2 f2 g2 → va_P G vwCl (xW a rr ct v f g) H → va_P G vwCl (mW bm ct v2 f2 g2) H → va_S (fun q : Nat => s.heap.size ≤ q) s.heap H locs → lv_has ls 4 [(3, .int (nI k)), (2, .ref (bm 0)), (1, .ref (a 0)), (0, .ref b)] → W p l e room_1 s m #[Value.ref b] below meth c H locs 110 5410 (lw_Z below #[Value.ref b] s) (F0 m 2133 ls [])) : W p l e room_1 s m #[Value.ref b] below meth c H locs 110 5410 (lw_Z below #[Value.ref b] s) (F0 m 1003 ls []) := by
  obtain ⟨hx, hb, hr, hml, hown, hts, hX, hbl, hlocks, hgv⟩ := C0
  have hown : s.vm.findClass RL = some m.cls := hown
  have hts : ∀ z ∈ wsL_law, z.before #[Value.ref b] s = true := fun z h => hts z (wsL_law_in z h)
  have hbA : ¬ (fun q : Nat => s.heap.size ≤ q) b := Nat.not_le.mpr hbl
  have hDx : va_D (fun q : Nat => s.heap.size ≤ q) (xW a rr ct v f g) := hD0.ad (xW_ad ..)
  have hDm : va_D (fun q : Nat => s.heap.size ≤ q) (mW bm ct v2 f2 g2) := hE0.ad (mW_ad ..)
  have hap : ∀ q, aset (xW a rr ct v f g) q → ¬ aset (mW bm ct v2 f2 g2) q := fun q h1 h2 => hap0 q (aset_ad (xW_ad ..) h1) (aset_ad (mW_ad ..) h2)
  refine lv_aload_n hx hb dL_law_1003 rfl (lv_at hl 2 rfl) ?_
  refine lv_aload_n hx hb dL_law_1004 rfl (lv_at hl 3 rfl) ?_
  refine lv_iload_n hx hb dL_law_1005 rfl (lv_at hl 0 rfl) ?_
  refine lv_iconst (v := 1) hx hb dL_law_1006 (by decide) ?_
  refine lv_iadd hx hb dL_law_1007 ?_
  refine ix_i (y := nI (k + 1)) (nI_add k 1) ?_
  refine va_sld hx hb hX hbl hbA hS (vp_in_nI (n := k + 1) (by omega) (by omega)) dL_law_1008 ?_
  refine ro_calli (va_runV (As := [.int (xs (nI (k + 1)).toNatClampNeg)]) (rest := []) ⟨hx, hb, hml, hown, hts⟩ (a_X10_first l G ct (a 0) (a 1) (a 3) (a 11) (a 25) (a 68) (a 69) (a 77) (a 82) (a 84) (a 88) (a 91) (a 12) (a 19) (a 24) (v 11 3) (a 13) (a 15) (a 16) (a 17) (a 18) (v 12 5) (v 12 6) (a 20) (a 22) (a 23) (v 19 4) (v 19 5) (v 19 6) (v 19 7) (a 21) (v 20 1) (f 21) (xs (nI (k + 1)).toNatClampNeg) hIx.2.2.2.1) (cwV 1 hts gL_law_X10_first rfl rfl rfl (by decide +kernel) ⟨Nat.le_of_ble_eq_true rfl, Nat.le_of_ble_eq_true rfl⟩) (ro_preV 10 0 hK (hPx.sub [0, 11, 12, 19, 20, 21] rfl) rfl rfl) rfl rfl hl.1 rfl (lv_room (Nat.le_of_ble_eq_true rfl)) dL_law_1009 ⟨Nat.le_of_ble_eq_true rfl, Nat.le_of_ble_eq_true rfl⟩) hS (hPx.app hPm) (fun r1 H locs wr1 hPP hS => ?_)
  have hPx := va_P.left hPP
  have hPm := va_P.right hPP
  obtain ⟨r1p0, r1p1, r1p2, r1p3, r1p4, r1p5, r1p6, r1p7, -⟩ := wr1
  refine lv_pop hx hb dL_law_1012 rfl ?_
  refine lv_aload_n hx hb dL_law_1013 rfl (lv_at hl 1 rfl) ?_
  refine lv_aload_n hx hb dL_law_1014 rfl (lv_at hl 3 rfl) ?_
  refine lv_iload_n hx hb dL_law_1015 rfl (lv_at hl 0 rfl) ?_
  refine lv_iconst (v := 1) hx hb dL_law_1016 (by decide) ?_
  refine lv_iadd hx hb dL_law_1017 ?_
  refine ix_i (y := nI (k + 1)) (nI_add k 1) ?_
  refine va_sld hx hb hX hbl hbA hS (vp_in_nI (n := k + 1) (by omega) (by omega)) dL_law_1018 ?_
  refine lw_callx (w1 := (fun u : SU => [((bm 0), .inr (11, [.int (u.1 0), .ref (bm 1), .ref (bm 2), .ref (bm 3), .ref (bm 4), .ref (bm 5), .int (v2 0 6), .int (v2 0 7), .int (v2 0 8), .int (v2 0 9), .int (v2 0 10), .long (g2 0 11), .int (v2 0 12), .int (v2 0 13), .int (v2 0 14), .int (v2 0 15), .ref (bm 6), .ref (bm 7), .ref (bm 8), .ref (bm 9), .ref (bm 10), .ref (bm 11), .ref (bm 12), .ref (bm 13), .int (u.1 1), .int (u.1 2), .int (u.1 3), .int (u.1 4), .ref (bm 14), .int (v2 0 29), .int (v2 0 30)])), ((bm 6), .inl (ct 0, 5, .inl (f2 6))), ((bm 7), .inl (ct 0, 15, .inl (f2 7))), ((bm 8), .inl (ct 0, 200, .inl (f2 8))), ((bm 9), .inl (ct 0, 1000, .inl (f2 9))), ((bm 11), .inl (ct 0, 8, .inl (u.2.1 0))), ((bm 12), .inl (ct 0, 8, .inl (u.2.1 1))), ((bm 13), .inl (ct 0, 8, .inl (u.2.1 2)))])) (va_runV (As := [.int (xs (nI (k + 1)).toNatClampNeg)]) (rest := []) ⟨hx, hb, hml, hown, hts⟩ (a_X11_first l G ct (bm 0) (v2 0 0) (bm 1) (bm 2) (bm 3) (bm 4) (bm 5) (v2 0 6) (v2 0 7) (v2 0 8) (v2 0 9) (v2 0 10) (g2 0 11) (v2 0 12) (v2 0 13) (v2 0 14) (v2 0 15) (bm 6) (bm 7) (bm 8) (bm 9) (bm 10) (bm 11) (bm 12) (bm 13) (v2 0 24) (v2 0 25) (v2 0 26) (v2 0 27) (bm 14) (v2 0 29) (v2 0 30) (f2 6) (f2 7) (f2 8) (f2 9) (f2 11) (f2 12) (f2 13) (xs (nI (k + 1)).toNatClampNeg) hIm.2.1 hIm.2.2.1 hIm.2.2.2.1 hIm.2.2.2.2.1 hIm.2.2.2.2.2.1 hIm.2.2.2.2.2.2.1) (cwV 1 hts gL_law_X11_first rfl rfl rfl (by decide +kernel) ⟨Nat.le_of_ble_eq_true rfl, Nat.le_of_ble_eq_true rfl⟩) (wr_preV 11 0 hK (hPm.sub [0, 6, 7, 8, 9, 11, 12, 13] rfl) (hDm.sub [0, 6, 7, 8, 9, 11, 12, 13] (by decide) rfl) rfl rfl) rfl rfl hl.1 rfl (lv_room (Nat.le_of_ble_eq_true rfl)) dL_law_1019 ⟨Nat.le_of_ble_eq_true rfl, Nat.le_of_ble_eq_true rfl⟩) hS hPm hDm hPx (fun q h1 h2 => hap q h2 h1) [0, 6, 7, 8, 9, 11, 12, 13] rfl (fun r2 u2 H locs wr2 hPx hF hS => ?_)
  obtain ⟨r2p0, r2p1, r2p2, r2p3, r2p4, r2p5, r2p6, -⟩ := wr2
  have hPm : va_P G vwCl (mW bm ct (uv v2 [(0, 0, u2.1 0), (0, 24, u2.1 1), (0, 25, u2.1 2), (0, 26, u2.1 3), (0, 27, u2.1 4)]) (uf f2 [(11, u2.2.1 0), (12, u2.2.1 1), (13, u2.2.1 2)]) g2) H := hF (mW bm ct (uv v2 [(0, 0, u2.1 0), (0, 24, u2.1 1), (0, 25, u2.1 2), (0, 26, u2.1 3), (0, 27, u2.1 4)]) (uf f2 [(11, u2.2.1 0), (12, u2.2.1 1), (13, u2.2.1 2)]) g2) rfl (fun k9 hk9 => mW_same bm ct v2 (uv v2 [(0, 0, u2.1 0), (0, 24, u2.1 1), (0, 25, u2.1 2), (0, 26, u2.1 3), (0, 27, u2.1 4)]) f2 (uf f2 [(11, u2.2.1 0), (12, u2.2.1 1), (13, u2.2.1 2)]) g2 g2 k9 (uv_st hk9 (by rfl)) (uf_st hk9 (by rfl)) rfl)
  have hIm : MI (uv v2 [(0, 0, u2.1 0), (0, 24, u2.1 1), (0, 25, u2.1 2), (0, 26, u2.1 3), (0, 27, u2.1 4)]) (uf f2 [(11, u2.2.1 0), (12, u2.2.1 1), (13, u2.2.1 2)]) g2 := ⟨hIm.1, hIm.2.1, hIm.2.2.1, hIm.2.2.2.1, hIm.2.2.2.2.1, r2p4, r2p5, trivial⟩
  refine lv_pop hx hb dL_law_1022 rfl ?_
  refine lv_goto (tgt := 2133) hx hb dL_law_1023 (by decide) ?_
  exact kk v f g (uv v2 [(0, 0, u2.1 0), (0, 24, u2.1 1), (0, 25, u2.1 2), (0, 26, u2.1 3), (0, 27, u2.1 4)]) (uf f2 [(11, u2.2.1 0), (12, u2.2.1 1), (13, u2.2.1 2)]) g2 H locs ls hIx hIm hPx hPm hS hl
set_option maxHeartbeats 8000000 in
set_option maxRecDepth 100000 in
theorem law_c26 {p : Program} {e : Env} {s : State} {m : MethodId} {below : List Frame} {meth : Method} {c : Code} (l : Launch) {b L : Nat} {xs : Nat → Int32} (C0 : lw_At p s m meth c b L xs) (hL : L ≤ 3072) (k : Nat) (hk6 : k + 6 ≤ L) (G : va_G) (ct : Nat → ClassId) (a rr bm adK adV : Nat → Nat) (v : Nat → Nat → Int32) (f : Nat → Nat → Int32) (g : Nat → Nat → Int64) (v2 : Nat → Nat → Int32) (f2 : Nat → Nat → Int32) (g2 : Nat → Nat → Int64) (H : Heap) (locs : List Loc) (hK : KK G ct s) (hZ : SS adK adV (fun q : Nat => s.heap.size ≤ q) s s.heap) (hD0 : va_D (fun q : Nat => s.heap.size ≤ q) (xW a rr ct (fun _ _ => 0) (fun _ _ => 0) (fun _ _ => 0))) (hE0 : va_D (fun q : Nat => s.heap.size ≤ q) (mW bm ct (fun _ _ => 0) (fun _ _ => 0) (fun _ _ => 0))) (hap0 : wset a rr bm ct) (hIx : XI v f g) (hIm : MI v2 f2 g2) (hPx : va_P G vwCl (xW a rr ct v f g) H) (hPm : va_P G vwCl (mW bm ct v2 f2 g2) H) (hS : va_S (fun q : Nat => s.heap.size ≤ q) s.heap H locs) (ls : Array Slot) (hl : lv_has ls 4 [(3, .int (nI k)), (2, .ref (bm 0)), (1, .ref (a 0)), (0, .ref b)]) (kk : ∀ (v : Nat → Nat → Int32) (f : Nat → Nat → Int32) (g : Nat → Nat → Int64) (v2 : Nat → Nat → Int32) (f2 : Nat → Nat → Int32) (g2 : Nat → Nat → Int64) (H : Heap) (locs : List Loc) (ls : Array Slot), XI v f g → MI v2 f2 g2 → va_P G vwCl (xW a rr ct v f g) H → va_P G vwCl (mW bm ct v2 f2 g2) H → va_S (fun q : Nat => s.heap.size ≤ q) s.heap H locs → lv_has ls 4 [(3, .int (nI k)), (2, .ref (bm 0)), (1, .ref (a 0)), (0, .ref b)] → W p l e room_1 s m #[Value.ref b] below meth c H locs 110 5410 (lw_Z below #[Value.ref b] s) (F0 m 2133 ls [])) : W p l e room_1 s m #[Value.ref b] below meth c H locs 110 5410 (lw_Z below #[Value.ref b] s) (F0 m 1026 ls []) := by
  obtain ⟨hx, hb, hr, hml, hown, hts, hX, hbl, hlocks, hgv⟩ := C0
  have hown : s.vm.findClass RL = some m.cls := hown
  have hts : ∀ z ∈ wsL_law, z.before #[Value.ref b] s = true := fun z h => hts z (wsL_law_in z h)
  have hbA : ¬ (fun q : Nat => s.heap.size ≤ q) b := Nat.not_le.mpr hbl
  have hDx : va_D (fun q : Nat => s.heap.size ≤ q) (xW a rr ct v f g) := hD0.ad (xW_ad ..)
  have hDm : va_D (fun q : Nat => s.heap.size ≤ q) (mW bm ct v2 f2 g2) := hE0.ad (mW_ad ..)
  have hap : ∀ q, aset (xW a rr ct v f g) q → ¬ aset (mW bm ct v2 f2 g2) q := fun q h1 h2 => hap0 q (aset_ad (xW_ad ..) h1) (aset_ad (mW_ad ..) h2)
  refine lv_aload_n hx hb dL_law_1026 rfl (lv_at hl 2 rfl) ?_
  refine ro_calli (va_runV (As := []) (rest := []) ⟨hx, hb, hml, hown, hts⟩ (a_X10_work l G ct (a 0) (a 1) (a 3) (a 11) (a 25) (a 68) (a 69) (a 77) (a 82) (a 84) (a 88) (a 91) (a 12) (a 19) (a 24) (v 11 3) (a 13) (a 15) (a 16) (a 17) (a 18) (v 12 5) (v 12 6) (a 14) (v 13 1) (f 16) (f 17) (a 20) (a 22) (a 23) (v 19 4) (v 19 5) (v 19 6) (v 19 7) (a 21) (v 20 1) (f 21) hIx.2.2.1 hIx.2.2.2.1) (cwV 0 hts gL_law_X10_work rfl rfl rfl (by decide +kernel) ⟨Nat.le_of_ble_eq_true rfl, Nat.le_of_ble_eq_true rfl⟩) (ro_preV 10 0 hK (hPx.sub [0, 11, 12, 13, 16, 17, 19, 20, 21] rfl) rfl rfl) rfl rfl hl.1 rfl (lv_room (Nat.le_of_ble_eq_true rfl)) dL_law_1027 ⟨Nat.le_of_ble_eq_true rfl, Nat.le_of_ble_eq_true rfl⟩) hS (hPx.app hPm) (fun r1 H locs wr1 hPP hS => ?_)
  have hPx := va_P.left hPP
  have hPm := va_P.right hPP
  obtain ⟨r1p0, r1p1, r1p2, -⟩ := wr1
  refine lv_pop hx hb dL_law_1030 rfl ?_
  refine lv_aload_n hx hb dL_law_1031 rfl (lv_at hl 1 rfl) ?_
  refine lw_callx (w1 := (fun u : SU => [((bm 0), .inr (11, [.int (u.1 0), .ref (bm 1), .ref (bm 2), .ref (bm 3), .ref (bm 4), .ref (bm 5), .int (v2 0 6), .int (v2 0 7), .int (v2 0 8), .int (v2 0 9), .int (v2 0 10), .long (g2 0 11), .int (v2 0 12), .int (v2 0 13), .int (v2 0 14), .int (v2 0 15), .ref (bm 6), .ref (bm 7), .ref (bm 8), .ref (bm 9), .ref (bm 10), .ref (bm 11), .ref (bm 12), .ref (bm 13), .int (u.1 1), .int (u.1 2), .int (u.1 3), .int (u.1 4), .ref (bm 14), .int (v2 0 29), .int (v2 0 30)])), ((bm 6), .inl (ct 0, 5, .inl (f2 6))), ((bm 7), .inl (ct 0, 15, .inl (f2 7))), ((bm 8), .inl (ct 0, 200, .inl (f2 8))), ((bm 9), .inl (ct 0, 1000, .inl (f2 9))), ((bm 11), .inl (ct 0, 8, .inl (u.2.1 0))), ((bm 12), .inl (ct 0, 8, .inl (u.2.1 1))), ((bm 13), .inl (ct 0, 8, .inl (u.2.1 2))), ((bm 14), .inl (ct 0, 576, .inl (u.2.1 3)))])) (va_runV (As := []) (rest := []) ⟨hx, hb, hml, hown, hts⟩ (a_X11_work l G ct (bm 0) (v2 0 0) (bm 1) (bm 2) (bm 3) (bm 4) (bm 5) (v2 0 6) (v2 0 7) (v2 0 8) (v2 0 9) (v2 0 10) (g2 0 11) (v2 0 12) (v2 0 13) (v2 0 14) (v2 0 15) (bm 6) (bm 7) (bm 8) (bm 9) (bm 10) (bm 11) (bm 12) (bm 13) (v2 0 24) (v2 0 25) (v2 0 26) (v2 0 27) (bm 14) (v2 0 29) (v2 0 30) (f2 6) (f2 7) (f2 8) (f2 9) (f2 11) (f2 12) (f2 13) (f2 14) hIm.2.1 hIm.2.2.1 hIm.2.2.2.1 hIm.2.2.2.2.1 hIm.2.2.2.2.2.1 hIm.2.2.2.2.2.2.1) (cwV 0 hts gL_law_X11_work rfl rfl rfl (by decide +kernel) ⟨Nat.le_of_ble_eq_true rfl, Nat.le_of_ble_eq_true rfl⟩) (wr_preV 11 0 hK (hPm.sub [0, 6, 7, 8, 9, 11, 12, 13, 14] rfl) (hDm.sub [0, 6, 7, 8, 9, 11, 12, 13, 14] (by decide) rfl) rfl rfl) rfl rfl hl.1 rfl (lv_room (Nat.le_of_ble_eq_true rfl)) dL_law_1032 ⟨Nat.le_of_ble_eq_true rfl, Nat.le_of_ble_eq_true rfl⟩) hS hPm hDm hPx (fun q h1 h2 => hap q h2 h1) [0, 6, 7, 8, 9, 11, 12, 13, 14] rfl (fun r2 u2 H locs wr2 hPx hF hS => ?_)
  obtain ⟨r2p0, r2p1, r2p2, -⟩ := wr2
  have hPm : va_P G vwCl (mW bm ct (uv v2 [(0, 0, u2.1 0), (0, 24, u2.1 1), (0, 25, u2.1 2), (0, 26, u2.1 3), (0, 27, u2.1 4)]) (uf f2 [(11, u2.2.1 0), (12, u2.2.1 1), (13, u2.2.1 2), (14, u2.2.1 3)]) g2) H := hF (mW bm ct (uv v2 [(0, 0, u2.1 0), (0, 24, u2.1 1), (0, 25, u2.1 2), (0, 26, u2.1 3), (0, 27, u2.1 4)]) (uf f2 [(11, u2.2.1 0), (12, u2.2.1 1), (13, u2.2.1 2), (14, u2.2.1 3)]) g2) rfl (fun k9 hk9 => mW_same bm ct v2 (uv v2 [(0, 0, u2.1 0), (0, 24, u2.1 1), (0, 25, u2.1 2), (0, 26, u2.1 3), (0, 27, u2.1 4)]) f2 (uf f2 [(11, u2.2.1 0), (12, u2.2.1 1), (13, u2.2.1 2), (14, u2.2.1 3)]) g2 g2 k9 (uv_st hk9 (by rfl)) (uf_st hk9 (by rfl)) rfl)
  have hIm : MI (uv v2 [(0, 0, u2.1 0), (0, 24, u2.1 1), (0, 25, u2.1 2), (0, 26, u2.1 3), (0, 27, u2.1 4)]) (uf f2 [(11, u2.2.1 0), (12, u2.2.1 1), (13, u2.2.1 2), (14, u2.2.1 3)]) g2 := ⟨hIm.1, hIm.2.1, hIm.2.2.1, hIm.2.2.2.1, hIm.2.2.2.2.1, r2p0, r2p1, trivial⟩
  refine lv_pop hx hb dL_law_1035 rfl ?_
  refine lv_goto (tgt := 2133) hx hb dL_law_1036 (by decide) ?_
  exact kk v f g (uv v2 [(0, 0, u2.1 0), (0, 24, u2.1 1), (0, 25, u2.1 2), (0, 26, u2.1 3), (0, 27, u2.1 4)]) (uf f2 [(11, u2.2.1 0), (12, u2.2.1 1), (13, u2.2.1 2), (14, u2.2.1 3)]) g2 H locs ls hIx hIm hPx hPm hS hl
set_option maxHeartbeats 8000000 in
set_option maxRecDepth 100000 in
theorem law_c27 {p : Program} {e : Env} {s : State} {m : MethodId} {below : List Frame} {meth : Method} {c : Code} (l : Launch) {b L : Nat} {xs : Nat → Int32} (C0 : lw_At p s m meth c b L xs) (hL : L ≤ 3072) (k : Nat) (hk6 : k + 6 ≤ L) (G : va_G) (ct : Nat → ClassId) (a rr bm adK adV : Nat → Nat) (v : Nat → Nat → Int32) (f : Nat → Nat → Int32) (g : Nat → Nat → Int64) (v2 : Nat → Nat → Int32) (f2 : Nat → Nat → Int32) (g2 : Nat → Nat → Int64) (H : Heap) (locs : List Loc) (hK : KK G ct s) (hZ : SS adK adV (fun q : Nat => s.heap.size ≤ q) s s.heap) (hD0 : va_D (fun q : Nat => s.heap.size ≤ q) (xW a rr ct (fun _ _ => 0) (fun _ _ => 0) (fun _ _ => 0))) (hE0 : va_D (fun q : Nat => s.heap.size ≤ q) (mW bm ct (fun _ _ => 0) (fun _ _ => 0) (fun _ _ => 0))) (hap0 : wset a rr bm ct) (hIx : XI v f g) (hIm : MI v2 f2 g2) (hPx : va_P G vwCl (xW a rr ct v f g) H) (hPm : va_P G vwCl (mW bm ct v2 f2 g2) H) (hS : va_S (fun q : Nat => s.heap.size ≤ q) s.heap H locs) (ls : Array Slot) (hl : lv_has ls 4 [(3, .int (nI k)), (2, .ref (bm 0)), (1, .ref (a 0)), (0, .ref b)]) (kk : ∀ (v : Nat → Nat → Int32) (f : Nat → Nat → Int32) (g : Nat → Nat → Int64) (v2 : Nat → Nat → Int32) (f2 : Nat → Nat → Int32) (g2 : Nat → Nat → Int64) (H : Heap) (locs : List Loc) (ls : Array Slot), XI v f g → MI v2 f2 g2 → va_P G vwCl (xW a rr ct v f g) H → va_P G vwCl (mW bm ct v2 f2 g2) H → va_S (fun q : Nat => s.heap.size ≤ q) s.heap H locs → lv_has ls 4 [(3, .int (nI k)), (2, .ref (bm 0)), (1, .ref (a 0)), (0, .ref b)] → W p l e room_1 s m #[Value.ref b] below meth c H locs 110 5410 (lw_Z below #[Value.ref b] s) (F0 m 2133 ls [])) : W p l e room_1 s m #[Value.ref b] below meth c H locs 110 5410 (lw_Z below #[Value.ref b] s) (F0 m 1039 ls []) := by
  obtain ⟨hx, hb, hr, hml, hown, hts, hX, hbl, hlocks, hgv⟩ := C0
  have hown : s.vm.findClass RL = some m.cls := hown
  have hts : ∀ z ∈ wsL_law, z.before #[Value.ref b] s = true := fun z h => hts z (wsL_law_in z h)
  have hbA : ¬ (fun q : Nat => s.heap.size ≤ q) b := Nat.not_le.mpr hbl
  have hDx : va_D (fun q : Nat => s.heap.size ≤ q) (xW a rr ct v f g) := hD0.ad (xW_ad ..)
  have hDm : va_D (fun q : Nat => s.heap.size ≤ q) (mW bm ct v2 f2 g2) := hE0.ad (mW_ad ..)
  have hap : ∀ q, aset (xW a rr ct v f g) q → ¬ aset (mW bm ct v2 f2 g2) q := fun q h1 h2 => hap0 q (aset_ad (xW_ad ..) h1) (aset_ad (mW_ad ..) h2)
  refine lv_aload_n hx hb dL_law_1039 rfl (lv_at hl 2 rfl) ?_
  refine lv_aload_n hx hb dL_law_1040 rfl (lv_at hl 3 rfl) ?_
  refine lv_iload_n hx hb dL_law_1041 rfl (lv_at hl 0 rfl) ?_
  refine lv_iconst (v := 1) hx hb dL_law_1042 (by decide) ?_
  refine lv_iadd hx hb dL_law_1043 ?_
  refine ix_i (y := nI (k + 1)) (nI_add k 1) ?_
  refine va_sld hx hb hX hbl hbA hS (vp_in_nI (n := k + 1) (by omega) (by omega)) dL_law_1044 ?_
  refine ro_calli (va_runV (As := [.int (xs (nI (k + 1)).toNatClampNeg)]) (rest := []) ⟨hx, hb, hml, hown, hts⟩ (a_X10_works l G ct (a 0) (a 1) (a 3) (a 11) (a 25) (a 68) (a 69) (a 77) (a 82) (a 84) (a 88) (a 91) (a 12) (a 19) (a 24) (v 11 3) (a 13) (a 15) (a 16) (a 17) (a 18) (v 12 5) (v 12 6) (a 14) (v 13 1) (f 16) (f 17) (a 20) (a 22) (a 23) (v 19 4) (v 19 5) (v 19 6) (v 19 7) (a 21) (v 20 1) (f 21) (xs (nI (k + 1)).toNatClampNeg) hIx.2.2.1 hIx.2.2.2.1) (cwV 1 hts gL_law_X10_works rfl rfl rfl (by decide +kernel) ⟨Nat.le_of_ble_eq_true rfl, Nat.le_of_ble_eq_true rfl⟩) (ro_preV 10 0 hK (hPx.sub [0, 11, 12, 13, 16, 17, 19, 20, 21] rfl) rfl rfl) rfl rfl hl.1 rfl (lv_room (Nat.le_of_ble_eq_true rfl)) dL_law_1045 ⟨Nat.le_of_ble_eq_true rfl, Nat.le_of_ble_eq_true rfl⟩) hS (hPx.app hPm) (fun r1 H locs wr1 hPP hS => ?_)
  have hPx := va_P.left hPP
  have hPm := va_P.right hPP
  obtain ⟨r1p0, r1p1, r1p2, r1p3, r1p4, r1p5, r1p6, -⟩ := wr1
  refine lv_pop hx hb dL_law_1048 rfl ?_
  refine lv_aload_n hx hb dL_law_1049 rfl (lv_at hl 1 rfl) ?_
  refine lv_aload_n hx hb dL_law_1050 rfl (lv_at hl 3 rfl) ?_
  refine lv_iload_n hx hb dL_law_1051 rfl (lv_at hl 0 rfl) ?_
  refine lv_iconst (v := 1) hx hb dL_law_1052 (by decide) ?_
  refine lv_iadd hx hb dL_law_1053 ?_
  refine ix_i (y := nI (k + 1)) (nI_add k 1) ?_
  refine va_sld hx hb hX hbl hbA hS (vp_in_nI (n := k + 1) (by omega) (by omega)) dL_law_1054 ?_
  refine lw_callx (w1 := (fun u : SU => [((bm 0), .inr (11, [.int (u.1 0), .ref (bm 1), .ref (bm 2), .ref (bm 3), .ref (bm 4), .ref (bm 5), .int (v2 0 6), .int (v2 0 7), .int (v2 0 8), .int (v2 0 9), .int (v2 0 10), .long (g2 0 11), .int (v2 0 12), .int (v2 0 13), .int (v2 0 14), .int (v2 0 15), .ref (bm 6), .ref (bm 7), .ref (bm 8), .ref (bm 9), .ref (bm 10), .ref (bm 11), .ref (bm 12), .ref (bm 13), .int (u.1 1), .int (u.1 2), .int (u.1 3), .int (u.1 4), .ref (bm 14), .int (v2 0 29), .int (v2 0 30)])), ((bm 7), .inl (ct 0, 15, .inl (f2 7))), ((bm 8), .inl (ct 0, 200, .inl (f2 8))), ((bm 9), .inl (ct 0, 1000, .inl (f2 9))), ((bm 11), .inl (ct 0, 8, .inl (u.2.1 0))), ((bm 12), .inl (ct 0, 8, .inl (u.2.1 1))), ((bm 13), .inl (ct 0, 8, .inl (u.2.1 2))), ((bm 14), .inl (ct 0, 576, .inl (u.2.1 3)))])) (va_runV (As := [.int (xs (nI (k + 1)).toNatClampNeg)]) (rest := []) ⟨hx, hb, hml, hown, hts⟩ (a_X11_works l G ct (bm 0) (v2 0 0) (bm 1) (bm 2) (bm 3) (bm 4) (bm 5) (v2 0 6) (v2 0 7) (v2 0 8) (v2 0 9) (v2 0 10) (g2 0 11) (v2 0 12) (v2 0 13) (v2 0 14) (v2 0 15) (bm 6) (bm 7) (bm 8) (bm 9) (bm 10) (bm 11) (bm 12) (bm 13) (v2 0 24) (v2 0 25) (v2 0 26) (v2 0 27) (bm 14) (v2 0 29) (v2 0 30) (f2 7) (f2 8) (f2 9) (f2 11) (f2 12) (f2 13) (f2 14) (xs (nI (k + 1)).toNatClampNeg) hIm.2.1 hIm.2.2.1 hIm.2.2.2.1 hIm.2.2.2.2.1 hIm.2.2.2.2.2.1 hIm.2.2.2.2.2.2.1) (cwV 1 hts gL_law_X11_works rfl rfl rfl (by decide +kernel) ⟨Nat.le_of_ble_eq_true rfl, Nat.le_of_ble_eq_true rfl⟩) (wr_preV 11 0 hK (hPm.sub [0, 7, 8, 9, 11, 12, 13, 14] rfl) (hDm.sub [0, 7, 8, 9, 11, 12, 13, 14] (by decide) rfl) rfl rfl) rfl rfl hl.1 rfl (lv_room (Nat.le_of_ble_eq_true rfl)) dL_law_1055 ⟨Nat.le_of_ble_eq_true rfl, Nat.le_of_ble_eq_true rfl⟩) hS hPm hDm hPx (fun q h1 h2 => hap q h2 h1) [0, 7, 8, 9, 11, 12, 13, 14] rfl (fun r2 u2 H locs wr2 hPx hF hS => ?_)
  obtain ⟨r2p0, r2p1, r2p2, r2p3, r2p4, r2p5, r2p6, -⟩ := wr2
  have hPm : va_P G vwCl (mW bm ct (uv v2 [(0, 0, u2.1 0), (0, 24, u2.1 1), (0, 25, u2.1 2), (0, 26, u2.1 3), (0, 27, u2.1 4)]) (uf f2 [(11, u2.2.1 0), (12, u2.2.1 1), (13, u2.2.1 2), (14, u2.2.1 3)]) g2) H := hF (mW bm ct (uv v2 [(0, 0, u2.1 0), (0, 24, u2.1 1), (0, 25, u2.1 2), (0, 26, u2.1 3), (0, 27, u2.1 4)]) (uf f2 [(11, u2.2.1 0), (12, u2.2.1 1), (13, u2.2.1 2), (14, u2.2.1 3)]) g2) rfl (fun k9 hk9 => mW_same bm ct v2 (uv v2 [(0, 0, u2.1 0), (0, 24, u2.1 1), (0, 25, u2.1 2), (0, 26, u2.1 3), (0, 27, u2.1 4)]) f2 (uf f2 [(11, u2.2.1 0), (12, u2.2.1 1), (13, u2.2.1 2), (14, u2.2.1 3)]) g2 g2 k9 (uv_st hk9 (by rfl)) (uf_st hk9 (by rfl)) rfl)
  have hIm : MI (uv v2 [(0, 0, u2.1 0), (0, 24, u2.1 1), (0, 25, u2.1 2), (0, 26, u2.1 3), (0, 27, u2.1 4)]) (uf f2 [(11, u2.2.1 0), (12, u2.2.1 1), (13, u2.2.1 2), (14, u2.2.1 3)]) g2 := ⟨hIm.1, hIm.2.1, hIm.2.2.1, hIm.2.2.2.1, hIm.2.2.2.2.1, r2p4, r2p5, trivial⟩
  refine lv_pop hx hb dL_law_1058 rfl ?_
  refine lv_goto (tgt := 2133) hx hb dL_law_1059 (by decide) ?_
  exact kk v f g (uv v2 [(0, 0, u2.1 0), (0, 24, u2.1 1), (0, 25, u2.1 2), (0, 26, u2.1 3), (0, 27, u2.1 4)]) (uf f2 [(11, u2.2.1 0), (12, u2.2.1 1), (13, u2.2.1 2), (14, u2.2.1 3)]) g2 H locs ls hIx hIm hPx hPm hS hl
