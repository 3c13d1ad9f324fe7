theorem dL_law_0 : decode cL_law 0 = .ok (.new 7, 3) := by decide +kernel
theorem dL_law_3 : decode cL_law 3 = .ok (.dup, 1) := by decide +kernel
set_option maxRecDepth 20000 in
theorem ggL_law_X10_init : GoodIn wsL_law wsX10_init := goodIn_r _ [9, 10, 11, 12, 13, 14, 15, 16, 17, 18, 19, 20, 21, 22, 23, 24, 25, 26, 27, 28, 29, 30, 31, 32, 33, 34, 35, 36, 37, 38, 39, 40, 41, 42, 43, 44, 45, 46, 47, 48, 49, 50, 51, 52, 53, 54, 55, 56, 57, 58, 59, 60, 61, 62, 63, 64, 65, 66, 67, 68, 69, 70, 71, 72, 73, 74, 75, 76, 77, 78, 79, 80, 81, 82, 83, 84, 85, 86, 87, 88, 89, 90, 91, 92, 93, 94, 95, 96, 97, 98, 99, 100, 101, 102, 103, 104, 105, 106, 107, 108, 109, 110, 111, 112, 113, 114, 115, 116, 117, 118, 119, 120, 121, 122, 123, 124, 125, 1714, 1715, 1672, 1673, 1674, 1675, 1676, 1677, 1678, 1679, 1680, 1681, 1682, 1716, 1717, 1718, 1719, 1720, 1721, 1722, 1723, 1724, 1725, 1726, 1727, 1728, 1729, 1730, 1731, 1732, 1733, 1734, 1735, 1736, 1737, 1738, 1739, 1740, 1741, 1742, 1743, 1744, 1745, 1746, 1747, 1748, 1749, 1750, 1751, 1752, 1753, 1754, 1755, 1756, 1757, 1758] (by decide +kernel) (by decide +kernel)
set_option maxRecDepth 20000 in
theorem gL_law_X10_init : GoodIn wsL_law (wsX10_init) := ggL_law_X10_init
theorem dL_law_4 : decode cL_law 4 = .ok (.invokespecial 9, 3) := by decide +kernel
theorem dL_law_7 : decode cL_law 7 = .ok (.astore_n 1, 1) := by decide +kernel
theorem dL_law_8 : decode cL_law 8 = .ok (.new 10, 3) := by decide +kernel
theorem dL_law_11 : decode cL_law 11 = .ok (.dup, 1) := by decide +kernel
set_option maxRecDepth 20000 in
theorem ggL_law_X11_init : GoodIn wsL_law wsX11_init := goodIn_r _ [128, 129, 11, 12, 73, 130, 131, 103, 132, 133, 56, 134, 135, 136, 137, 138, 139, 26, 140, 141, 142, 143, 144, 1683, 1684, 1685, 1686, 1687, 1688, 1689, 1690, 1691, 1692, 1693, 1694, 1695, 1696, 1697, 1698, 1699, 1700, 1701, 1702, 1703, 1704, 1705, 1706, 1707, 1708, 1709, 1710, 1711, 1712, 1713] (by decide +kernel) (by decide +kernel)
set_option maxRecDepth 20000 in
theorem gL_law_X11_init : GoodIn wsL_law (wsX11_init) := ggL_law_X11_init
theorem dL_law_12 : decode cL_law 12 = .ok (.invokespecial 12, 3) := by decide +kernel
theorem dL_law_15 : decode cL_law 15 = .ok (.astore_n 2, 1) := by decide +kernel
theorem dL_law_16 : decode cL_law 16 = .ok (.iconst 0, 1) := by decide +kernel
theorem dL_law_17 : decode cL_law 17 = .ok (.istore_n 3, 1) := by decide +kernel
theorem dL_law_27 : decode cL_law 27 = .ok (.aload_n 0, 1) := by decide +kernel
theorem dL_law_28 : decode cL_law 28 = .ok (.iload_n 3, 1) := by decide +kernel
theorem dL_law_29 : decode cL_law 29 = .ok (.iaload, 1) := by decide +kernel
theorem dL_law_30 : decode cL_law 30 = .ok (.bipush 127, 2) := by decide +kernel
theorem dL_law_32 : decode cL_law 32 = .ok (.iand, 1) := by decide +kernel
theorem dL_law_33 : decode cL_law 33 = .ok (.tableswitch 2100 0 64 #[275, 338, 361, 374, 397, 430, 443, 466, 499, 522, 545, 558, 591, 624, 667, 690, 733, 776, 829, 862, 895, 908, 921, 934, 957, 970, 993, 1006, 1029, 1052, 1075, 1098, 1121, 1144, 1167, 1190, 1213, 1236, 1259, 1302, 1335, 1368, 1401, 1424, 1437, 1450, 1483, 1506, 1539, 1572, 1595, 1608, 1631, 1654, 1677, 1710, 1753, 1786, 1819, 1852, 1875, 1898, 1921, 1964, 2037], 275) := by decide +kernel
set_option maxHeartbeats 8000000 in
set_option maxRecDepth 100000 in
theorem whole_start {p : Program} {e : Env} {s : State} {m : MethodId} {below : List Frame} {meth : Method} {c : Code} (l : Launch) {b L : Nat} {xs : Nat → Int32} (hL : L ≤ 6) (C0 : lw_At p s m meth c b L xs) : W p l e room_1 s m #[Value.ref b] below meth c s.heap [] 0 0 (lw_Z below #[Value.ref b] s) (entryFrame m ([Value.ref b] : List Value).toArray 4) := by
  obtain ⟨hx, hb, hr, hml, hown, hts1, hX, hbl, hlocks, hgv⟩ := id C0
  have hown : s.vm.findClass RL = some m.cls := hown
  have hts : ∀ z ∈ wsL_law, z.before #[Value.ref b] s = true := fun z h => hts1 z (wsL_law_in z h)
  have hA : ∀ q : Nat, s.heap.size ≤ q → (fun q : Nat => s.heap.size ≤ q) q := fun _ h => h
  have hbA : ¬ (fun q : Nat => s.heap.size ≤ q) b := Nat.not_le.mpr hbl
  obtain ⟨G, ct, hK⟩ := law_known hts1
  have hS : va_S (fun q : Nat => s.heap.size ≤ q) s.heap s.heap [] := va_S.rf
  have hP : va_P G vwCl [] s.heap := fun k q h => by simp at h
  have hD : va_D (fun q : Nat => s.heap.size ≤ q) [] := ⟨fun i j p q h => by simp at h, fun k q h => by simp at h⟩
  have hl := lv_entry ([.ref b]) (n := 4) (Nat.le_of_ble_eq_true rfl)
  rw [lg_entry_eq]
  generalize (lg_sl ([.ref b]) ++ List.replicate (4 - (lg_sl ([.ref b])).length) Slot.unset).toArray = ls at hl ⊢
  have hl : lv_has ls 4 [(0, .ref b)] := hl
  refine va_new (D := G) (ci := 10) (fs := [.null, .null, .null, .null, .null, .null, .null, .null, .null, .null, .null]) (C := RX10) (T := TX10) (N := 11) hx hb hts inlX10 tyX10 tyX10_ok hown (hts (.classLink RL 7 RX10) (by decide +kernel)) (hts (.instantiable RX10 11) (by decide +kernel)) (hts (.initialized RX10) (by decide +kernel)) hK.1 hP hD hS hA rfl (fun j hj => by rcases (show j = 0 ∨ j = 1 ∨ j = 2 ∨ j = 3 ∨ j = 4 ∨ j = 5 ∨ j = 6 ∨ j = 7 ∨ j = 8 ∨ j = 9 ∨ j = 10 by omega) with rfl | rfl | rfl | rfl | rfl | rfl | rfl | rfl | rfl | rfl | rfl <;> rfl) (Nat.le_of_ble_eq_true rfl) (Nat.le_of_ble_eq_true rfl) dL_law_0 (fun q_1 H hP hD hS => ?_)
  refine W.widen (k := 1) (n := 11) (Nat.le_of_ble_eq_true rfl) (Nat.le_of_ble_eq_true rfl) ?_
  refine lv_dup hx hb dL_law_3 rfl ?_
  refine nl_callv (w1 := fun u : (Nat → Nat) × (Nat → Nat) => xF u.1 u.2 ct) (va_runI (As := []) (rest := [.ref q_1]) ⟨hx, hb, hml, hown, hts⟩ (c_X10_init l G ct q_1 H.size) (cwI 0 hts gL_law_X10_init rfl rfl rfl (hts (.initialized RX10) (by decide +kernel)) (hts (.methodLink RL 9 yX10_init) (by decide +kernel)) (hts (.instanceMethod yX10_init) (by decide +kernel)) rfl (by decide +kernel) ⟨Nat.le_of_ble_eq_true rfl, Nat.le_of_ble_eq_true rfl⟩) (nw_pre hK hP.last hD.last) rfl rfl hl.1 rfl (lv_room (Nat.le_of_ble_eq_true rfl)) dL_law_4 ⟨Nat.le_of_ble_eq_true rfl, Nat.le_of_ble_eq_true rfl⟩) hS hA hP hD (fun u H locs hu hP2 hD2 hS2 => ?_)
  refine W.widen (k := 95) (n := 2348) (Nat.le_of_ble_eq_true rfl) (Nat.le_of_ble_eq_true rfl) ?_
  obtain ⟨a, rr⟩ := u
  obtain rfl : a 0 = q_1 := hu
  have hP : va_P G vwCl (xF a rr ct) H := hP2
  have hD : va_D (fun q : Nat => s.heap.size ≤ q) (xF a rr ct) := hD2
  have hS := hS2
  refine lv_astore_n (lv' := [(1, .ref (a 0)), (0, .ref b)]) hx hb dL_law_7 rfl hl (by decide) rfl (fun ls hl => ?_)
  refine va_new (D := G) (ci := 11) (fs := [.int 0, .null, .null, .null, .null, .null, .int 0, .int 0, .int 0, .int 0, .int 0, .long 0, .int 0, .int 0, .int 0, .int 0, .null, .null, .null, .null, .null, .null, .null, .null, .int 0, .int 0, .int 0, .int 0, .null, .int 0, .int 0]) (C := RX11) (T := TX11) (N := 31) hx hb hts inlX11 tyX11 tyX11_ok hown (hts (.classLink RL 10 RX11) (by decide +kernel)) (hts (.instantiable RX11 31) (by decide +kernel)) (hts (.initialized RX11) (by decide +kernel)) hK.1 hP hD hS hA rfl (fun j hj => by rcases (show j = 0 ∨ j = 1 ∨ j = 2 ∨ j = 3 ∨ j = 4 ∨ j = 5 ∨ j = 6 ∨ j = 7 ∨ j = 8 ∨ j = 9 ∨ j = 10 ∨ j = 11 ∨ j = 12 ∨ j = 13 ∨ j = 14 ∨ j = 15 ∨ j = 16 ∨ j = 17 ∨ j = 18 ∨ j = 19 ∨ j = 20 ∨ j = 21 ∨ j = 22 ∨ j = 23 ∨ j = 24 ∨ j = 25 ∨ j = 26 ∨ j = 27 ∨ j = 28 ∨ j = 29 ∨ j = 30 by omega) with rfl | rfl | rfl | rfl | rfl | rfl | rfl | rfl | rfl | rfl | rfl | rfl | rfl | rfl | rfl | rfl | rfl | rfl | rfl | rfl | rfl | rfl | rfl | rfl | rfl | rfl | rfl | rfl | rfl | rfl | rfl <;> rfl) (Nat.le_of_ble_eq_true rfl) (Nat.le_of_ble_eq_true rfl) dL_law_8 (fun q_2 H hP hD hS => ?_)
  refine W.widen (k := 96) (n := 2379) (Nat.le_of_ble_eq_true rfl) (Nat.le_of_ble_eq_true rfl) ?_
  refine lv_dup hx hb dL_law_11 rfl ?_
  refine nl_callv (w1 := fun u : Nat → Nat => mF u ct) (va_runI (As := []) (rest := [.ref q_2]) ⟨hx, hb, hml, hown, hts⟩ (c_X11_init l G ct q_2 H.size) (cwI 0 hts gL_law_X11_init rfl rfl rfl (hts (.initialized RX11) (by decide +kernel)) (hts (.methodLink RL 12 yX11_init) (by decide +kernel)) (hts (.instanceMethod yX11_init) (by decide +kernel)) rfl (by decide +kernel) ⟨Nat.le_of_ble_eq_true rfl, Nat.le_of_ble_eq_true rfl⟩) (nw_pre hK hP.last hD.last) rfl rfl hl.1 rfl (lv_room (Nat.le_of_ble_eq_true rfl)) dL_law_12 ⟨Nat.le_of_ble_eq_true rfl, Nat.le_of_ble_eq_true rfl⟩) hS hA hP hD (fun u H locs hu hP2 hD2 hS2 => ?_)
  refine W.widen (k := 110) (n := 5410) (Nat.le_of_ble_eq_true rfl) (Nat.le_of_ble_eq_true rfl) ?_
  obtain ⟨bm, rfl⟩ : ∃ z, z = u := ⟨_, rfl⟩
  obtain rfl : bm 0 = q_2 := hu
  have hP : va_P G vwCl (xF a rr ct ++ mF bm ct) H := hP2
  have hD : va_D (fun q : Nat => s.heap.size ≤ q) (xF a rr ct ++ mF bm ct) := hD2
  have hS := hS2
  refine lv_astore_n (lv' := [(2, .ref (bm 0)), (1, .ref (a 0)), (0, .ref b)]) hx hb dL_law_15 rfl hl (by decide) rfl (fun ls hl => ?_)
  have hPx := hP.left
  have hPm := hP.right
  have hDx := hD.left
  have hDm := hD.right
  have hap := hD.apart
  refine lv_iconst (v := 0) hx hb dL_law_16 (by decide) ?_
  refine lv_istore_n (lv' := [(3, .int 0), (2, .ref (bm 0)), (1, .ref (a 0)), (0, .ref b)]) hx hb dL_law_17 rfl hl (by decide) rfl (fun ls hl => ?_)
  refine lv_iload_n hx hb dL_law_18 rfl (lv_at hl 0 rfl) ?_
  refine lv_aload_n hx hb dL_law_19 rfl (lv_at hl 3 rfl) ?_
  refine va_slen hx hb hX hbl hbA hS dL_law_20 ?_
  refine lv_bipush (v := 6) hx hb dL_law_21 (by decide) ?_
  refine lv_isub hx hb dL_law_23 ?_
  by_cases h6 : L = 6
  · subst h6
    refine ix_i (y := 0) (by decide) ?_
    refine lv_icmp_gt (tgt := 2139) hx hb dL_law_24 (by decide) (fun c_1 => ?_) (fun c_1 => ?_)
    · exact absurd c_1 (by decide)
    · refine lv_aload_n hx hb dL_law_27 rfl (lv_at hl 3 rfl) ?_
      refine lv_iload_n hx hb dL_law_28 rfl (lv_at hl 0 rfl) ?_
      refine va_sld hx hb hX hbl hbA hS (in_lit (by decide)) dL_law_29 ?_
      refine lv_bipush (v := 127) hx hb dL_law_30 (by decide) ?_
      refine lv_iand hx hb dL_law_32 ?_
      obtain ⟨j, hj, ej⟩ := pk_andE (xs (0 : Int32).toNatClampNeg) (m := 127) 7 (by decide)
      refine ix_i (y := nI j) ej ?_
      rcases (show j = 0 ∨ j = 1 ∨ j = 2 ∨ j = 3 ∨ j = 4 ∨ j = 5 ∨ j = 6 ∨ j = 7 ∨ j = 8 ∨ j = 9 ∨ j = 10 ∨ j = 11 ∨ j = 12 ∨ j = 13 ∨ j = 14 ∨ j = 15 ∨ j = 16 ∨ j = 17 ∨ j = 18 ∨ j = 19 ∨ j = 20 ∨ j = 21 ∨ j = 22 ∨ j = 23 ∨ j = 24 ∨ j = 25 ∨ j = 26 ∨ j = 27 ∨ j = 28 ∨ j = 29 ∨ j = 30 ∨ j = 31 ∨ j = 32 ∨ j = 33 ∨ j = 34 ∨ j = 35 ∨ j = 36 ∨ j = 37 ∨ j = 38 ∨ j = 39 ∨ j = 40 ∨ j = 41 ∨ j = 42 ∨ j = 43 ∨ j = 44 ∨ j = 45 ∨ j = 46 ∨ j = 47 ∨ j = 48 ∨ j = 49 ∨ j = 50 ∨ j = 51 ∨ j = 52 ∨ j = 53 ∨ j = 54 ∨ j = 55 ∨ j = 56 ∨ j = 57 ∨ j = 58 ∨ j = 59 ∨ j = 60 ∨ j = 61 ∨ j = 62 ∨ j = 63 ∨ j = 64 ∨ 65 ≤ j by omega) with rfl | rfl | rfl | rfl | rfl | rfl | rfl | rfl | rfl | rfl | rfl | rfl | rfl | rfl | rfl | rfl | rfl | rfl | rfl | rfl | rfl | rfl | rfl | rfl | rfl | rfl | rfl | rfl | rfl | rfl | rfl | rfl | rfl | rfl | rfl | rfl | rfl | rfl | rfl | rfl | rfl | rfl | rfl | rfl | rfl | rfl | rfl | rfl | rfl | rfl | rfl | rfl | rfl | rfl | rfl | rfl | rfl | rfl | rfl | rfl | rfl | rfl | rfl | rfl | rfl | hj9
      · refine lv_tableIn (tgt := 308) hx hb dL_law_33 (by decide) (by decide) (by rfl) (by decide) ?_
        exact law_c0 l C0 rfl G ct a rr bm H locs hK hPx hPm hDx hDm hap hS ls (lv_sub hl [0, 1, 2, 3] rfl)
      · refine lv_tableIn (tgt := 371) hx hb dL_law_33 (by decide) (by decide) (by rfl) (by decide) ?_
        exact law_c1 l C0 rfl G ct a rr bm H locs hK hPx hPm hDx hDm hap hS ls (lv_sub hl [0, 1, 2, 3] rfl)
      · refine lv_tableIn (tgt := 394) hx hb dL_law_33 (by decide) (by decide) (by rfl) (by decide) ?_
        exact law_c2 l C0 rfl G ct a rr bm H locs hK hPx hPm hDx hDm hap hS ls (lv_sub hl [0, 1, 2, 3] rfl)
      · refine lv_tableIn (tgt := 407) hx hb dL_law_33 (by decide) (by decide) (by rfl) (by decide) ?_
        exact law_c3 l C0 rfl G ct a rr bm H locs hK hPx hPm hDx hDm hap hS ls (lv_sub hl [0, 1, 2, 3] rfl)
      · refine lv_tableIn (tgt := 430) hx hb dL_law_33 (by decide) (by decide) (by rfl) (by decide) ?_
        exact law_c4 l C0 rfl G ct a rr bm H locs hK hPx hPm hDx hDm hap hS ls (lv_sub hl [0, 1, 2, 3] rfl)
      · refine lv_tableIn (tgt := 463) hx hb dL_law_33 (by decide) (by decide) (by rfl) (by decide) ?_
        exact law_c5 l C0 rfl G ct a rr bm H locs hK hPx hPm hDx hDm hap hS ls (lv_sub hl [0, 1, 2, 3] rfl)
      · refine lv_tableIn (tgt := 476) hx hb dL_law_33 (by decide) (by decide) (by rfl) (by decide) ?_
        exact law_c6 l C0 rfl G ct a rr bm H locs hK hPx hPm hDx hDm hap hS ls (lv_sub hl [0, 1, 2, 3] rfl)
      · refine lv_tableIn (tgt := 499) hx hb dL_law_33 (by decide) (by decide) (by rfl) (by decide) ?_
        exact law_c7 l C0 rfl G ct a rr bm H locs hK hPx hPm hDx hDm hap hS ls (lv_sub hl [0, 1, 2, 3] rfl)
      · refine lv_tableIn (tgt := 532) hx hb dL_law_33 (by decide) (by decide) (by rfl) (by decide) ?_
        exact law_c8 l C0 rfl G ct a rr bm H locs hK hPx hPm hDx hDm hap hS ls (lv_sub hl [0, 1, 2, 3] rfl)
      · refine lv_tableIn (tgt := 555) hx hb dL_law_33 (by decide) (by decide) (by rfl) (by decide) ?_
        exact law_c9 l C0 rfl G ct a rr bm H locs hK hPx hPm hDx hDm hap hS ls (lv_sub hl [0, 1, 2, 3] rfl)
      · refine lv_tableIn (tgt := 578) hx hb dL_law_33 (by decide) (by decide) (by rfl) (by decide) ?_
        exact law_c10 l C0 rfl G ct a rr bm H locs hK hPx hPm hDx hDm hap hS ls (lv_sub hl [0, 1, 2, 3] rfl)
      · refine lv_tableIn (tgt := 591) hx hb dL_law_33 (by decide) (by decide) (by rfl) (by decide) ?_
        exact law_c11 l C0 rfl G ct a rr bm H locs hK hPx hPm hDx hDm hap hS ls (lv_sub hl [0, 1, 2, 3] rfl)
      · refine lv_tableIn (tgt := 624) hx hb dL_law_33 (by decide) (by decide) (by rfl) (by decide) ?_
        exact law_c12 l C0 rfl G ct a rr bm H locs hK hPx hPm hDx hDm hap hS ls (lv_sub hl [0, 1, 2, 3] rfl)
      · refine lv_tableIn (tgt := 657) hx hb dL_law_33 (by decide) (by decide) (by rfl) (by decide) ?_
        exact law_c13 l C0 rfl G ct a rr bm H locs hK hPx hPm hDx hDm hap hS ls (lv_sub hl [0, 1, 2, 3] rfl)
      · refine lv_tableIn (tgt := 700) hx hb dL_law_33 (by decide) (by decide) (by rfl) (by decide) ?_
        exact law_c14 l C0 rfl G ct a rr bm H locs hK hPx hPm hDx hDm hap hS ls (lv_sub hl [0, 1, 2, 3] rfl)
      · refine lv_tableIn (tgt := 723) hx hb dL_law_33 (by decide) (by decide) (by rfl) (by decide) ?_
        exact law_c15 l C0 rfl G ct a rr bm H locs hK hPx hPm hDx hDm hap hS ls (lv_sub hl [0, 1, 2, 3] rfl)
      · refine lv_tableIn (tgt := 766) hx hb dL_law_33 (by decide) (by decide) (by rfl) (by decide) ?_
        exact law_c16 l C0 rfl G ct a rr bm H locs hK hPx hPm hDx hDm hap hS ls (lv_sub hl [0, 1, 2, 3] rfl)
      · refine lv_tableIn (tgt := 809) hx hb dL_law_33 (by decide) (by decide) (by rfl) (by decide) ?_
        exact law_c17 l C0 rfl G ct a rr bm H locs hK hPx hPm hDx hDm hap hS ls (lv_sub hl [0, 1, 2, 3] rfl)
      · refine lv_tableIn (tgt := 862) hx hb dL_law_33 (by decide) (by decide) (by rfl) (by decide) ?_
        exact law_c18 l C0 rfl G ct a rr bm H locs hK hPx hPm hDx hDm hap hS ls (lv_sub hl [0, 1, 2, 3] rfl)
      · refine lv_tableIn (tgt := 895) hx hb dL_law_33 (by decide) (by decide) (by rfl) (by decide) ?_
        exact law_c19 l C0 rfl G ct a rr bm H locs hK hPx hPm hDx hDm hap hS ls (lv_sub hl [0, 1, 2, 3] rfl)
      · refine lv_tableIn (tgt := 928) hx hb dL_law_33 (by decide) (by decide) (by rfl) (by decide) ?_
        exact law_c20 l C0 rfl G ct a rr bm H locs hK hPx hPm hDx hDm hap hS ls (lv_sub hl [0, 1, 2, 3] rfl)
      · refine lv_tableIn (tgt := 941) hx hb dL_law_33 (by decide) (by decide) (by rfl) (by decide) ?_
        exact law_c21 l C0 rfl G ct a rr bm H locs hK hPx hPm hDx hDm hap hS ls (lv_sub hl [0, 1, 2, 3] rfl)
      · refine lv_tableIn (tgt := 954) hx hb dL_law_33 (by decide) (by decide) (by rfl) (by decide) ?_
        exact law_c22 l C0 rfl G ct a rr bm H locs hK hPx hPm hDx hDm hap hS ls (lv_sub hl [0, 1, 2, 3] rfl)
      · refine lv_tableIn (tgt := 967) hx hb dL_law_33 (by decide) (by decide) (by rfl) (by decide) ?_
        exact law_c23 l C0 rfl G ct a rr bm H locs hK hPx hPm hDx hDm hap hS ls (lv_sub hl [0, 1, 2, 3] rfl)
      · refine lv_tableIn (tgt := 990) hx hb dL_law_33 (by decide) (by decide) (by rfl) (by decide) ?_
        exact law_c24 l C0 rfl G ct a rr bm H locs hK hPx hPm hDx hDm hap hS ls (lv_sub hl [0, 1, 2, 3] rfl)
      · refine lv_tableIn (tgt := 1003) hx hb dL_law_33 (by decide) (by decide) (by rfl) (by decide) ?_
        exact law_c25 l C0 rfl G ct a rr bm H locs hK hPx hPm hDx hDm hap hS ls (lv_sub hl [0, 1, 2, 3] rfl)
      · refine lv_tableIn (tgt := 1026) hx hb dL_law_33 (by decide) (by decide) (by rfl) (by decide) ?_
        exact law_c26 l C0 rfl G ct a rr bm H locs hK hPx hPm hDx hDm hap hS ls (lv_sub hl [0, 1, 2, 3] rfl)
      · refine lv_tableIn (tgt := 1039) hx hb dL_law_33 (by decide) (by decide) (by rfl) (by decide) ?_
        exact law_c27 l C0 rfl G ct a rr bm H locs hK hPx hPm hDx hDm hap hS ls (lv_sub hl [0, 1, 2, 3] rfl)
      · refine lv_tableIn (tgt := 1062) hx hb dL_law_33 (by decide) (by decide) (by rfl) (by decide) ?_
        exact law_c28 l C0 rfl G ct a rr bm H locs hK hPx hPm hDx hDm hap hS ls (lv_sub hl [0, 1, 2, 3] rfl)
      · refine lv_tableIn (tgt := 1085) hx hb dL_law_33 (by decide) (by decide) (by rfl) (by decide) ?_
        exact law_c29 l C0 rfl G ct a rr bm H locs hK hPx hPm hDx hDm hap hS ls (lv_sub hl [0, 1, 2, 3] rfl)
      · refine lv_tableIn (tgt := 1108) hx hb dL_law_33 (by decide) (by decide) (by rfl) (by decide) ?_
        exact law_c30 l C0 rfl G ct a rr bm H locs hK hPx hPm hDx hDm hap hS ls (lv_sub hl [0, 1, 2, 3] rfl)
      · refine lv_tableIn (tgt := 1131) hx hb dL_law_33 (by decide) (by decide) (by rfl) (by decide) ?_
        exact law_c31 l C0 rfl G ct a rr bm H locs hK hPx hPm hDx hDm hap hS ls (lv_sub hl [0, 1, 2, 3] rfl)
      · refine lv_tableIn (tgt := 1154) hx hb dL_law_33 (by decide) (by decide) (by rfl) (by decide) ?_
        exact law_c32 l C0 rfl G ct a rr bm H locs hK hPx hPm hDx hDm hap hS ls (lv_sub hl [0, 1, 2, 3] rfl)
      · refine lv_tableIn (tgt := 1177) hx hb dL_law_33 (by decide) (by decide) (by rfl) (by decide) ?_
        exact law_c33 l C0 rfl G ct a rr bm H locs hK hPx hPm hDx hDm hap hS ls (lv_sub hl [0, 1, 2, 3] rfl)
      · refine lv_tableIn (tgt := 1200) hx hb dL_law_33 (by decide) (by decide) (by rfl) (by decide) ?_
        exact law_c34 l C0 rfl G ct a rr bm H locs hK hPx hPm hDx hDm hap hS ls (lv_sub hl [0, 1, 2, 3] rfl)
      · refine lv_tableIn (tgt := 1223) hx hb dL_law_33 (by decide) (by decide) (by rfl) (by decide) ?_
        exact law_c35 l C0 rfl G ct a rr bm H locs hK hPx hPm hDx hDm hap hS ls (lv_sub hl [0, 1, 2, 3] rfl)
      · refine lv_tableIn (tgt := 1246) hx hb dL_law_33 (by decide) (by decide) (by rfl) (by decide) ?_
        exact law_c36 l C0 rfl G ct a rr bm H locs hK hPx hPm hDx hDm hap hS ls (lv_sub hl [0, 1, 2, 3] rfl)
      · refine lv_tableIn (tgt := 1269) hx hb dL_law_33 (by decide) (by decide) (by rfl) (by decide) ?_
        exact law_c37 l C0 rfl G ct a rr bm H locs hK hPx hPm hDx hDm hap hS ls (lv_sub hl [0, 1, 2, 3] rfl)
      · refine lv_tableIn (tgt := 1292) hx hb dL_law_33 (by decide) (by decide) (by rfl) (by decide) ?_
        exact law_c38 l C0 rfl G ct a rr bm H locs hK hPx hPm hDx hDm hap hS ls (lv_sub hl [0, 1, 2, 3] rfl)
      · refine lv_tableIn (tgt := 1335) hx hb dL_law_33 (by decide) (by decide) (by rfl) (by decide) ?_
        exact law_c39 l C0 rfl G ct a rr bm H locs hK hPx hPm hDx hDm hap hS ls (lv_sub hl [0, 1, 2, 3] rfl)
      · refine lv_tableIn (tgt := 1368) hx hb dL_law_33 (by decide) (by decide) (by rfl) (by decide) ?_
        exact law_c40 l C0 rfl G ct a rr bm H locs hK hPx hPm hDx hDm hap hS ls (lv_sub hl [0, 1, 2, 3] rfl)
      · refine lv_tableIn (tgt := 1401) hx hb dL_law_33 (by decide) (by decide) (by rfl) (by decide) ?_
        exact law_c41 l C0 rfl G ct a rr bm H locs hK hPx hPm hDx hDm hap hS ls (lv_sub hl [0, 1, 2, 3] rfl)
      · refine lv_tableIn (tgt := 1434) hx hb dL_law_33 (by decide) (by decide) (by rfl) (by decide) ?_
        exact law_c42 l C0 rfl G ct a rr bm H locs hK hPx hPm hDx hDm hap hS ls (lv_sub hl [0, 1, 2, 3] rfl)
      · refine lv_tableIn (tgt := 1457) hx hb dL_law_33 (by decide) (by decide) (by rfl) (by decide) ?_
        exact law_c43 l C0 rfl G ct a rr bm H locs hK hPx hPm hDx hDm hap hS ls (lv_sub hl [0, 1, 2, 3] rfl)
      · refine lv_tableIn (tgt := 1470) hx hb dL_law_33 (by decide) (by decide) (by rfl) (by decide) ?_
        exact law_c44 l C0 rfl G ct a rr bm H locs hK hPx hPm hDx hDm hap hS ls (lv_sub hl [0, 1, 2, 3] rfl)
      · refine lv_tableIn (tgt := 1483) hx hb dL_law_33 (by decide) (by decide) (by rfl) (by decide) ?_
        exact law_c45 l C0 rfl G ct a rr bm H locs hK hPx hPm hDx hDm hap hS ls (lv_sub hl [0, 1, 2, 3] rfl)
      · refine lv_tableIn (tgt := 1516) hx hb dL_law_33 (by decide) (by decide) (by rfl) (by decide) ?_
        exact law_c46 l C0 rfl G ct a rr bm H locs hK hPx hPm hDx hDm hap hS ls (lv_sub hl [0, 1, 2, 3] rfl)
      · refine lv_tableIn (tgt := 1539) hx hb dL_law_33 (by decide) (by decide) (by rfl) (by decide) ?_
        exact law_c47 l C0 rfl G ct a rr bm H locs hK hPx hPm hDx hDm hap hS ls (lv_sub hl [0, 1, 2, 3] rfl)
      · refine lv_tableIn (tgt := 1572) hx hb dL_law_33 (by decide) (by decide) (by rfl) (by decide) ?_
        exact law_c48 l C0 rfl G ct a rr bm H locs hK hPx hPm hDx hDm hap hS ls (lv_sub hl [0, 1, 2, 3] rfl)
      · refine lv_tableIn (tgt := 1605) hx hb dL_law_33 (by decide) (by decide) (by rfl) (by decide) ?_
        exact law_c49 l C0 rfl G ct a rr bm H locs hK hPx hPm hDx hDm hap hS ls (lv_sub hl [0, 1, 2, 3] rfl)
      · refine lv_tableIn (tgt := 1628) hx hb dL_law_33 (by decide) (by decide) (by rfl) (by decide) ?_
        exact law_c50 l C0 rfl G ct a rr bm H locs hK hPx hPm hDx hDm hap hS ls (lv_sub hl [0, 1, 2, 3] rfl)
      · refine lv_tableIn (tgt := 1641) hx hb dL_law_33 (by decide) (by decide) (by rfl) (by decide) ?_
        exact law_c51 l C0 rfl G ct a rr bm H locs hK hPx hPm hDx hDm hap hS ls (lv_sub hl [0, 1, 2, 3] rfl)
      · refine lv_tableIn (tgt := 1664) hx hb dL_law_33 (by decide) (by decide) (by rfl) (by decide) ?_
        exact law_c52 l C0 rfl G ct a rr bm H locs hK hPx hPm hDx hDm hap hS ls (lv_sub hl [0, 1, 2, 3] rfl)
      · refine lv_tableIn (tgt := 1687) hx hb dL_law_33 (by decide) (by decide) (by rfl) (by decide) ?_
        exact law_c53 l C0 rfl G ct a rr bm H locs hK hPx hPm hDx hDm hap hS ls (lv_sub hl [0, 1, 2, 3] rfl)
      · refine lv_tableIn (tgt := 1710) hx hb dL_law_33 (by decide) (by decide) (by rfl) (by decide) ?_
        exact law_c54 l C0 rfl G ct a rr bm H locs hK hPx hPm hDx hDm hap hS ls (lv_sub hl [0, 1, 2, 3] rfl)
      · refine lv_tableIn (tgt := 1743) hx hb dL_law_33 (by decide) (by decide) (by rfl) (by decide) ?_
        exact law_c55 l C0 rfl G ct a rr bm H locs hK hPx hPm hDx hDm hap hS ls (lv_sub hl [0, 1, 2, 3] rfl)
      · refine lv_tableIn (tgt := 1786) hx hb dL_law_33 (by decide) (by decide) (by rfl) (by decide) ?_
        exact law_c56 l C0 rfl G ct a rr bm H locs hK hPx hPm hDx hDm hap hS ls (lv_sub hl [0, 1, 2, 3] rfl)
      · refine lv_tableIn (tgt := 1819) hx hb dL_law_33 (by decide) (by decide) (by rfl) (by decide) ?_
        exact law_c57 l C0 rfl G ct a rr bm H locs hK hPx hPm hDx hDm hap hS ls (lv_sub hl [0, 1, 2, 3] rfl)
      · refine lv_tableIn (tgt := 1852) hx hb dL_law_33 (by decide) (by decide) (by rfl) (by decide) ?_
        exact law_c58 l C0 rfl G ct a rr bm H locs hK hPx hPm hDx hDm hap hS ls (lv_sub hl [0, 1, 2, 3] rfl)
      · refine lv_tableIn (tgt := 1885) hx hb dL_law_33 (by decide) (by decide) (by rfl) (by decide) ?_
        exact law_c59 l C0 rfl G ct a rr bm H locs hK hPx hPm hDx hDm hap hS ls (lv_sub hl [0, 1, 2, 3] rfl)
      · refine lv_tableIn (tgt := 1908) hx hb dL_law_33 (by decide) (by decide) (by rfl) (by decide) ?_
        exact law_c60 l C0 rfl G ct a rr bm H locs hK hPx hPm hDx hDm hap hS ls (lv_sub hl [0, 1, 2, 3] rfl)
      · refine lv_tableIn (tgt := 1931) hx hb dL_law_33 (by decide) (by decide) (by rfl) (by decide) ?_
        exact law_c61 l C0 rfl G ct a rr bm H locs hK hPx hPm hDx hDm hap hS ls (lv_sub hl [0, 1, 2, 3] rfl)
      · refine lv_tableIn (tgt := 1954) hx hb dL_law_33 (by decide) (by decide) (by rfl) (by decide) ?_
        exact law_c62 l C0 rfl G ct a rr bm H locs hK hPx hPm hDx hDm hap hS ls (lv_sub hl [0, 1, 2, 3] rfl)
      · refine lv_tableIn (tgt := 1997) hx hb dL_law_33 (by decide) (by decide) (by rfl) (by decide) ?_
        exact law_c63 l C0 rfl G ct a rr bm H locs hK hPx hPm hDx hDm hap hS ls (lv_sub hl [0, 1, 2, 3] rfl)
      · refine lv_tableIn (tgt := 2070) hx hb dL_law_33 (by decide) (by decide) (by rfl) (by decide) ?_
        exact law_c64 l C0 rfl G ct a rr bm H locs hK hPx hPm hDx hDm hap hS ls (lv_sub hl [0, 1, 2, 3] rfl)
      · refine lv_tableOut (tgt := 2133) hx hb dL_law_33 (Or.inr (by rw [nI_toInt (by omega)]; omega)) (by decide) ?_
        exact law_next l C0 rfl H locs hS ls (lv_sub hl [0, 3] rfl)
  · refine lv_icmp_gt (tgt := 2139) hx hb dL_law_24 (by decide) (fun c_1 => ?_) (fun c_1 => ?_)
    · refine lv_iconst (v := 1) hx hb dL_law_2139 (by decide) ?_
      refine va_forget (fun q hq => hS.2.2 q hq) ?_
      refine W.widen (k := 600000) (n := 7302249) (Nat.le_of_ble_eq_true rfl) (Nat.le_of_ble_eq_true rfl) ?_
      exact lw_ret hx hb hr hlocks dL_law_2140
    · exact absurd (pk_sneg (a := L) (b := 6) (by decide) (by omega)) c_1