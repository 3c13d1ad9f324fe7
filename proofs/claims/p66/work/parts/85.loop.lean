theorem dL_law_18 : decode cL_law 18 = .ok (.iload_n 3, 1) := by decide +kernel
theorem dL_law_19 : decode cL_law 19 = .ok (.aload_n 0, 1) := by decide +kernel
theorem dL_law_20 : decode cL_law 20 = .ok (.arraylength, 1) := by decide +kernel
theorem dL_law_21 : decode cL_law 21 = .ok (.bipush 6, 2) := by decide +kernel
theorem dL_law_23 : decode cL_law 23 = .ok (.isub, 1) := by decide +kernel
theorem dL_law_24 : decode cL_law 24 = .ok (.if_icmp .gt 2115, 3) := by decide +kernel
theorem dL_law_2139 : decode cL_law 2139 = .ok (.iconst 1, 1) := by decide +kernel
theorem dL_law_2140 : decode cL_law 2140 = .ok (.ireturn, 1) := by decide +kernel
theorem dL_law_27 : decode cL_law 27 = .ok (.aload_n 0, 1) := by decide +kernel
theorem dL_law_28 : decode cL_law 28 = .ok (.iload_n 3, 1) := by decide +kernel
theorem dL_law_29 : decode cL_law 29 = .ok (.iaload, 1) := by decide +kernel
theorem dL_law_30 : decode cL_law 30 = .ok (.bipush 127, 2) := by decide +kernel
theorem dL_law_32 : decode cL_law 32 = .ok (.iand, 1) := by decide +kernel
theorem dL_law_33 : decode cL_law 33 = .ok (.tableswitch 2100 0 64 #[275, 338, 361, 374, 397, 430, 443, 466, 499, 522, 545, 558, 591, 624, 667, 690, 733, 776, 829, 862, 895, 908, 921, 934, 957, 970, 993, 1006, 1029, 1052, 1075, 1098, 1121, 1144, 1167, 1190, 1213, 1236, 1259, 1302, 1335, 1368, 1401, 1424, 1437, 1450, 1483, 1506, 1539, 1572, 1595, 1608, 1631, 1654, 1677, 1710, 1753, 1786, 1819, 1852, 1875, 1898, 1921, 1964, 2037], 275) := by decide +kernel
theorem dL_law_2133 : decode cL_law 2133 = .ok (.iinc 3 6, 3) := by decide +kernel
theorem dL_law_2136 : decode cL_law 2136 = .ok (.goto (-2118), 3) := by decide +kernel
theorem nI_rg {n : Nat} (h : n ≤ 3072) : rg 0 3072 (nI n) := by have := nI_toInt (n := n) (by omega); omega
set_option maxHeartbeats 8000000 in
set_option maxRecDepth 100000 in
theorem law_iter {p : Program} {e : Env} {s : State} {m : MethodId} {below : List Frame} {meth : Method} {c : Code} (l : Launch) {b L : Nat} {xs : Nat → Int32} (C0 : lw_At p s m meth c b L xs) (hL : L ≤ 3072) (k : Nat) (hk : k ≤ 3078) (G : va_G) (ct : Nat → ClassId) (a rr bm adK adV : Nat → Nat) (hK : KK G ct s) (hZ : SS adK adV (fun q : Nat => s.heap.size ≤ q) s s.heap) (hD0 : va_D (fun q : Nat => s.heap.size ≤ q) (xW a rr ct (fun _ _ => 0) (fun _ _ => 0) (fun _ _ => 0))) (hE0 : va_D (fun q : Nat => s.heap.size ≤ q) (mW bm ct (fun _ _ => 0) (fun _ _ => 0) (fun _ _ => 0))) (hap0 : wset a rr bm ct) (v : Nat → Nat → Int32) (f : Nat → Nat → Int32) (g : Nat → Nat → Int64) (v2 : Nat → Nat → Int32) (f2 : Nat → Nat → Int32) (g2 : Nat → Nat → Int64) (H : Heap) (locs : List Loc) (hIx : XI v f g) (hIm : MI v2 f2 g2) (hR : REL v f g v2 f2 g2) (hPx : va_P G vwCl (xW a rr ct v f g) H) (hPm : va_P G vwCl (mW bm ct v2 f2 g2) H) (hS : va_S (fun q : Nat => s.heap.size ≤ q) s.heap H locs) (ls : Array Slot) (hl : lv_has ls 4 [(3, .int (nI k)), (2, .ref (bm 0)), (1, .ref (a 0)), (0, .ref b)]) (kk : k + 6 ≤ L → ∀ (v : Nat → Nat → Int32) (f : Nat → Nat → Int32) (g : Nat → Nat → Int64) (v2 : Nat → Nat → Int32) (f2 : Nat → Nat → Int32) (g2 : Nat → Nat → Int64) (H : Heap) (locs : List Loc) (ls : Array Slot), XI v f g → MI v2 f2 g2 → REL v f g v2 f2 g2 → va_P G vwCl (xW a rr ct v f g) H → va_P G vwCl (mW bm ct v2 f2 g2) H → va_S (fun q : Nat => s.heap.size ≤ q) s.heap H locs → lv_has ls 4 [(3, .int (nI k)), (2, .ref (bm 0)), (1, .ref (a 0)), (0, .ref b)] → W p l e room_1 s m #[Value.ref b] below meth c H locs 110 5410 (lw_Z below #[Value.ref b] s) (F0 m 2133 ls [])) : W p l e room_1 s m #[Value.ref b] below meth c H locs 110 5410 (lw_Z below #[Value.ref b] s) (F0 m 18 ls []) := by
  obtain ⟨hx, hb, hr, hml, hown, hts1, hX, hbl, hlocks, hgv⟩ := id C0
  have hown : s.vm.findClass RL = some m.cls := hown
  have hbA : ¬ (fun q : Nat => s.heap.size ≤ q) b := Nat.not_le.mpr hbl
  refine lv_iload_n hx hb dL_law_18 rfl (lv_at hl 0 rfl) ?_
  refine lv_aload_n hx hb dL_law_19 rfl (lv_at hl 3 rfl) ?_
  refine va_slen hx hb hX hbl hbA hS dL_law_20 ?_
  refine lv_bipush (v := 6) hx hb dL_law_21 (by decide) ?_
  refine lv_isub hx hb dL_law_23 ?_
  refine nm_sub (e1 := -6) (f := 3066) (nI_rg hL) (rgn 6 (x := 6) (by decide)) (by decide) (fun z hz ez => ?_)
  have e6 : (6 : Int32).toInt = 6 := (by decide)
  have ek := nI_toInt (n := k) (by omega)
  have eL := nI_toInt (n := L) (by omega)
  have eL2 : (Int32.ofNat L).toInt = (L : Int) := eL
  refine lv_icmp_gt (tgt := 2139) hx hb dL_law_24 (by decide) (fun c24 => ?_) (fun c24 => ?_)
  · refine lv_iconst (v := 1) hx hb dL_law_2139 (by decide) ?_
    refine va_forget (fun q hq => hS.2.2 q hq) ?_
    refine W.widen (k := 600000) (n := 7302249) (Nat.le_of_ble_eq_true rfl) (Nat.le_of_ble_eq_true rfl) ?_
    exact lw_ret hx hb hr hlocks dL_law_2140
  · have h6 : k + 6 ≤ L := by have := i_nlt c24; omega
    refine lv_aload_n hx hb dL_law_27 rfl (lv_at hl 3 rfl) ?_
    refine lv_iload_n hx hb dL_law_28 rfl (lv_at hl 0 rfl) ?_
    refine va_sld hx hb hX hbl hbA hS (vp_in_nI (n := k) (by omega) (by omega)) dL_law_29 ?_
    refine lv_bipush (v := 127) hx hb dL_law_30 (by decide) ?_
    refine lv_iand hx hb dL_law_32 ?_
    obtain ⟨j, hj, ej⟩ := pk_andE (xs (nI k).toNatClampNeg) (m := 127) 7 (by decide)
    refine ix_i (y := nI j) ej ?_
    rcases (show j = 0 ∨ j = 1 ∨ j = 2 ∨ j = 3 ∨ j = 4 ∨ j = 5 ∨ j = 6 ∨ j = 7 ∨ j = 8 ∨ j = 9 ∨ j = 10 ∨ j = 11 ∨ j = 12 ∨ j = 13 ∨ j = 14 ∨ j = 15 ∨ j = 16 ∨ j = 17 ∨ j = 18 ∨ j = 19 ∨ j = 20 ∨ j = 21 ∨ j = 22 ∨ j = 23 ∨ j = 24 ∨ j = 25 ∨ j = 26 ∨ j = 27 ∨ j = 28 ∨ j = 29 ∨ j = 30 ∨ j = 31 ∨ j = 32 ∨ j = 33 ∨ j = 34 ∨ j = 35 ∨ j = 36 ∨ j = 37 ∨ j = 38 ∨ j = 39 ∨ j = 40 ∨ j = 41 ∨ j = 42 ∨ j = 43 ∨ j = 44 ∨ j = 45 ∨ j = 46 ∨ j = 47 ∨ j = 48 ∨ j = 49 ∨ j = 50 ∨ j = 51 ∨ j = 52 ∨ j = 53 ∨ j = 54 ∨ j = 55 ∨ j = 56 ∨ j = 57 ∨ j = 58 ∨ j = 59 ∨ j = 60 ∨ j = 61 ∨ j = 62 ∨ j = 63 ∨ j = 64 ∨ 65 ≤ j by omega) with rfl | rfl | rfl | rfl | rfl | rfl | rfl | rfl | rfl | rfl | rfl | rfl | rfl | rfl | rfl | rfl | rfl | rfl | rfl | rfl | rfl | rfl | rfl | rfl | rfl | rfl | rfl | rfl | rfl | rfl | rfl | rfl | rfl | rfl | rfl | rfl | rfl | rfl | rfl | rfl | rfl | rfl | rfl | rfl | rfl | rfl | rfl | rfl | rfl | rfl | rfl | rfl | rfl | rfl | rfl | rfl | rfl | rfl | rfl | rfl | rfl | rfl | rfl | rfl | rfl | hj9
    · refine lv_tableIn (tgt := 308) hx hb dL_law_33 (by decide) (by decide) (by rfl) (by decide) ?_
      exact law_c0 l C0 hL k h6 G ct a rr bm adK adV v f g v2 f2 g2 H locs hK hZ hD0 hE0 hap0 hIx hIm hR hPx hPm hS ls hl (kk h6)
    · refine lv_tableIn (tgt := 371) hx hb dL_law_33 (by decide) (by decide) (by rfl) (by decide) ?_
      exact law_c1 l C0 hL k h6 G ct a rr bm adK adV v f g v2 f2 g2 H locs hK hZ hD0 hE0 hap0 hIx hIm hR hPx hPm hS ls hl (kk h6)
    · refine lv_tableIn (tgt := 394) hx hb dL_law_33 (by decide) (by decide) (by rfl) (by decide) ?_
      exact law_c2 l C0 hL k h6 G ct a rr bm adK adV v f g v2 f2 g2 H locs hK hZ hD0 hE0 hap0 hIx hIm hR hPx hPm hS ls hl (kk h6)
    · refine lv_tableIn (tgt := 407) hx hb dL_law_33 (by decide) (by decide) (by rfl) (by decide) ?_
      exact law_c3 l C0 hL k h6 G ct a rr bm adK adV v f g v2 f2 g2 H locs hK hZ hD0 hE0 hap0 hIx hIm hR hPx hPm hS ls hl (kk h6)
    · refine lv_tableIn (tgt := 430) hx hb dL_law_33 (by decide) (by decide) (by rfl) (by decide) ?_
      exact law_c4 l C0 hL k h6 G ct a rr bm adK adV v f g v2 f2 g2 H locs hK hZ hD0 hE0 hap0 hIx hIm hR hPx hPm hS ls hl (kk h6)
    · refine lv_tableIn (tgt := 463) hx hb dL_law_33 (by decide) (by decide) (by rfl) (by decide) ?_
      exact law_c5 l C0 hL k h6 G ct a rr bm adK adV v f g v2 f2 g2 H locs hK hZ hD0 hE0 hap0 hIx hIm hR hPx hPm hS ls hl (kk h6)
    · refine lv_tableIn (tgt := 476) hx hb dL_law_33 (by decide) (by decide) (by rfl) (by decide) ?_
      exact law_c6 l C0 hL k h6 G ct a rr bm adK adV v f g v2 f2 g2 H locs hK hZ hD0 hE0 hap0 hIx hIm hR hPx hPm hS ls hl (kk h6)
    · refine lv_tableIn (tgt := 499) hx hb dL_law_33 (by decide) (by decide) (by rfl) (by decide) ?_
      exact law_c7 l C0 hL k h6 G ct a rr bm adK adV v f g v2 f2 g2 H locs hK hZ hD0 hE0 hap0 hIx hIm hR hPx hPm hS ls hl (kk h6)
    · refine lv_tableIn (tgt := 532) hx hb dL_law_33 (by decide) (by decide) (by rfl) (by decide) ?_
      exact law_c8 l C0 hL k h6 G ct a rr bm adK adV v f g v2 f2 g2 H locs hK hZ hD0 hE0 hap0 hIx hIm hR hPx hPm hS ls hl (kk h6)
    · refine lv_tableIn (tgt := 555) hx hb dL_law_33 (by decide) (by decide) (by rfl) (by decide) ?_
      exact law_c9 l C0 hL k h6 G ct a rr bm adK adV v f g v2 f2 g2 H locs hK hZ hD0 hE0 hap0 hIx hIm hR hPx hPm hS ls hl (kk h6)
    · refine lv_tableIn (tgt := 578) hx hb dL_law_33 (by decide) (by decide) (by rfl) (by decide) ?_
      exact law_c10 l C0 hL k h6 G ct a rr bm adK adV v f g v2 f2 g2 H locs hK hZ hD0 hE0 hap0 hIx hIm hR hPx hPm hS ls hl (kk h6)
    · refine lv_tableIn (tgt := 591) hx hb dL_law_33 (by decide) (by decide) (by rfl) (by decide) ?_
      exact law_c11 l C0 hL k h6 G ct a rr bm adK adV v f g v2 f2 g2 H locs hK hZ hD0 hE0 hap0 hIx hIm hR hPx hPm hS ls hl (kk h6)
    · refine lv_tableIn (tgt := 624) hx hb dL_law_33 (by decide) (by decide) (by rfl) (by decide) ?_
      exact law_c12 l C0 hL k h6 G ct a rr bm adK adV v f g v2 f2 g2 H locs hK hZ hD0 hE0 hap0 hIx hIm hR hPx hPm hS ls hl (kk h6)
    · refine lv_tableIn (tgt := 657) hx hb dL_law_33 (by decide) (by decide) (by rfl) (by decide) ?_
      exact law_c13 l C0 hL k h6 G ct a rr bm adK adV v f g v2 f2 g2 H locs hK hZ hD0 hE0 hap0 hIx hIm hR hPx hPm hS ls hl (kk h6)
    · refine lv_tableIn (tgt := 700) hx hb dL_law_33 (by decide) (by decide) (by rfl) (by decide) ?_
      exact law_c14 l C0 hL k h6 G ct a rr bm adK adV v f g v2 f2 g2 H locs hK hZ hD0 hE0 hap0 hIx hIm hR hPx hPm hS ls hl (kk h6)
    · refine lv_tableIn (tgt := 723) hx hb dL_law_33 (by decide) (by decide) (by rfl) (by decide) ?_
      exact law_c15 l C0 hL k h6 G ct a rr bm adK adV v f g v2 f2 g2 H locs hK hZ hD0 hE0 hap0 hIx hIm hR hPx hPm hS ls hl (kk h6)
    · refine lv_tableIn (tgt := 766) hx hb dL_law_33 (by decide) (by decide) (by rfl) (by decide) ?_
      exact law_c16 l C0 hL k h6 G ct a rr bm adK adV v f g v2 f2 g2 H locs hK hZ hD0 hE0 hap0 hIx hIm hR hPx hPm hS ls hl (kk h6)
    · refine lv_tableIn (tgt := 809) hx hb dL_law_33 (by decide) (by decide) (by rfl) (by decide) ?_
      exact law_c17 l C0 hL k h6 G ct a rr bm adK adV v f g v2 f2 g2 H locs hK hZ hD0 hE0 hap0 hIx hIm hR hPx hPm hS ls hl (kk h6)
    · refine lv_tableIn (tgt := 862) hx hb dL_law_33 (by decide) (by decide) (by rfl) (by decide) ?_
      exact law_c18 l C0 hL k h6 G ct a rr bm adK adV v f g v2 f2 g2 H locs hK hZ hD0 hE0 hap0 hIx hIm hR hPx hPm hS ls hl (kk h6)
    · refine lv_tableIn (tgt := 895) hx hb dL_law_33 (by decide) (by decide) (by rfl) (by decide) ?_
      exact law_c19 l C0 hL k h6 G ct a rr bm adK adV v f g v2 f2 g2 H locs hK hZ hD0 hE0 hap0 hIx hIm hR hPx hPm hS ls hl (kk h6)
    · refine lv_tableIn (tgt := 928) hx hb dL_law_33 (by decide) (by decide) (by rfl) (by decide) ?_
      exact law_c20 l C0 hL k h6 G ct a rr bm adK adV v f g v2 f2 g2 H locs hK hZ hD0 hE0 hap0 hIx hIm hR hPx hPm hS ls hl (kk h6)
    · refine lv_tableIn (tgt := 941) hx hb dL_law_33 (by decide) (by decide) (by rfl) (by decide) ?_
      exact law_c21 l C0 hL k h6 G ct a rr bm adK adV v f g v2 f2 g2 H locs hK hZ hD0 hE0 hap0 hIx hIm hR hPx hPm hS ls hl (kk h6)
    · refine lv_tableIn (tgt := 954) hx hb dL_law_33 (by decide) (by decide) (by rfl) (by decide) ?_
      exact law_c22 l C0 hL k h6 G ct a rr bm adK adV v f g v2 f2 g2 H locs hK hZ hD0 hE0 hap0 hIx hIm hR hPx hPm hS ls hl (kk h6)
    · refine lv_tableIn (tgt := 967) hx hb dL_law_33 (by decide) (by decide) (by rfl) (by decide) ?_
      exact law_c23 l C0 hL k h6 G ct a rr bm adK adV v f g v2 f2 g2 H locs hK hZ hD0 hE0 hap0 hIx hIm hR hPx hPm hS ls hl (kk h6)
    · refine lv_tableIn (tgt := 990) hx hb dL_law_33 (by decide) (by decide) (by rfl) (by decide) ?_
      exact law_c24 l C0 hL k h6 G ct a rr bm adK adV v f g v2 f2 g2 H locs hK hZ hD0 hE0 hap0 hIx hIm hR hPx hPm hS ls hl (kk h6)
    · refine lv_tableIn (tgt := 1003) hx hb dL_law_33 (by decide) (by decide) (by rfl) (by decide) ?_
      exact law_c25 l C0 hL k h6 G ct a rr bm adK adV v f g v2 f2 g2 H locs hK hZ hD0 hE0 hap0 hIx hIm hR hPx hPm hS ls hl (kk h6)
    · refine lv_tableIn (tgt := 1026) hx hb dL_law_33 (by decide) (by decide) (by rfl) (by decide) ?_
      exact law_c26 l C0 hL k h6 G ct a rr bm adK adV v f g v2 f2 g2 H locs hK hZ hD0 hE0 hap0 hIx hIm hR hPx hPm hS ls hl (kk h6)
    · refine lv_tableIn (tgt := 1039) hx hb dL_law_33 (by decide) (by decide) (by rfl) (by decide) ?_
      exact law_c27 l C0 hL k h6 G ct a rr bm adK adV v f g v2 f2 g2 H locs hK hZ hD0 hE0 hap0 hIx hIm hR hPx hPm hS ls hl (kk h6)
    · refine lv_tableIn (tgt := 1062) hx hb dL_law_33 (by decide) (by decide) (by rfl) (by decide) ?_
      exact law_c28 l C0 hL k h6 G ct a rr bm adK adV v f g v2 f2 g2 H locs hK hZ hD0 hE0 hap0 hIx hIm hR hPx hPm hS ls hl (kk h6)
    · refine lv_tableIn (tgt := 1085) hx hb dL_law_33 (by decide) (by decide) (by rfl) (by decide) ?_
      exact law_c29 l C0 hL k h6 G ct a rr bm adK adV v f g v2 f2 g2 H locs hK hZ hD0 hE0 hap0 hIx hIm hR hPx hPm hS ls hl (kk h6)
    · refine lv_tableIn (tgt := 1108) hx hb dL_law_33 (by decide) (by decide) (by rfl) (by decide) ?_
      exact law_c30 l C0 hL k h6 G ct a rr bm adK adV v f g v2 f2 g2 H locs hK hZ hD0 hE0 hap0 hIx hIm hR hPx hPm hS ls hl (kk h6)
    · refine lv_tableIn (tgt := 1131) hx hb dL_law_33 (by decide) (by decide) (by rfl) (by decide) ?_
      exact law_c31 l C0 hL k h6 G ct a rr bm adK adV v f g v2 f2 g2 H locs hK hZ hD0 hE0 hap0 hIx hIm hR hPx hPm hS ls hl (kk h6)
    · refine lv_tableIn (tgt := 1154) hx hb dL_law_33 (by decide) (by decide) (by rfl) (by decide) ?_
      exact law_c32 l C0 hL k h6 G ct a rr bm adK adV v f g v2 f2 g2 H locs hK hZ hD0 hE0 hap0 hIx hIm hR hPx hPm hS ls hl (kk h6)
    · refine lv_tableIn (tgt := 1177) hx hb dL_law_33 (by decide) (by decide) (by rfl) (by decide) ?_
      exact law_c33 l C0 hL k h6 G ct a rr bm adK adV v f g v2 f2 g2 H locs hK hZ hD0 hE0 hap0 hIx hIm hR hPx hPm hS ls hl (kk h6)
    · refine lv_tableIn (tgt := 1200) hx hb dL_law_33 (by decide) (by decide) (by rfl) (by decide) ?_
      exact law_c34 l C0 hL k h6 G ct a rr bm adK adV v f g v2 f2 g2 H locs hK hZ hD0 hE0 hap0 hIx hIm hR hPx hPm hS ls hl (kk h6)
    · refine lv_tableIn (tgt := 1223) hx hb dL_law_33 (by decide) (by decide) (by rfl) (by decide) ?_
      exact law_c35 l C0 hL k h6 G ct a rr bm adK adV v f g v2 f2 g2 H locs hK hZ hD0 hE0 hap0 hIx hIm hR hPx hPm hS ls hl (kk h6)
    · refine lv_tableIn (tgt := 1246) hx hb dL_law_33 (by decide) (by decide) (by rfl) (by decide) ?_
      exact law_c36 l C0 hL k h6 G ct a rr bm adK adV v f g v2 f2 g2 H locs hK hZ hD0 hE0 hap0 hIx hIm hR hPx hPm hS ls hl (kk h6)
    · refine lv_tableIn (tgt := 1269) hx hb dL_law_33 (by decide) (by decide) (by rfl) (by decide) ?_
      exact law_c37 l C0 hL k h6 G ct a rr bm adK adV v f g v2 f2 g2 H locs hK hZ hD0 hE0 hap0 hIx hIm hR hPx hPm hS ls hl (kk h6)
    · refine lv_tableIn (tgt := 1292) hx hb dL_law_33 (by decide) (by decide) (by rfl) (by decide) ?_
      exact law_c38 l C0 hL k h6 G ct a rr bm adK adV v f g v2 f2 g2 H locs hK hZ hD0 hE0 hap0 hIx hIm hR hPx hPm hS ls hl (kk h6)
    · refine lv_tableIn (tgt := 1335) hx hb dL_law_33 (by decide) (by decide) (by rfl) (by decide) ?_
      exact law_c39 l C0 hL k h6 G ct a rr bm adK adV v f g v2 f2 g2 H locs hK hZ hD0 hE0 hap0 hIx hIm hR hPx hPm hS ls hl (kk h6)
    · refine lv_tableIn (tgt := 1368) hx hb dL_law_33 (by decide) (by decide) (by rfl) (by decide) ?_
      exact law_c40 l C0 hL k h6 G ct a rr bm adK adV v f g v2 f2 g2 H locs hK hZ hD0 hE0 hap0 hIx hIm hR hPx hPm hS ls hl (kk h6)
    · refine lv_tableIn (tgt := 1401) hx hb dL_law_33 (by decide) (by decide) (by rfl) (by decide) ?_
      exact law_c41 l C0 hL k h6 G ct a rr bm adK adV v f g v2 f2 g2 H locs hK hZ hD0 hE0 hap0 hIx hIm hR hPx hPm hS ls hl (kk h6)
    · refine lv_tableIn (tgt := 1434) hx hb dL_law_33 (by decide) (by decide) (by rfl) (by decide) ?_
      exact law_c42 l C0 hL k h6 G ct a rr bm adK adV v f g v2 f2 g2 H locs hK hZ hD0 hE0 hap0 hIx hIm hR hPx hPm hS ls hl (kk h6)
    · refine lv_tableIn (tgt := 1457) hx hb dL_law_33 (by decide) (by decide) (by rfl) (by decide) ?_
      exact law_c43 l C0 hL k h6 G ct a rr bm adK adV v f g v2 f2 g2 H locs hK hZ hD0 hE0 hap0 hIx hIm hR hPx hPm hS ls hl (kk h6)
    · refine lv_tableIn (tgt := 1470) hx hb dL_law_33 (by decide) (by decide) (by rfl) (by decide) ?_
      exact law_c44 l C0 hL k h6 G ct a rr bm adK adV v f g v2 f2 g2 H locs hK hZ hD0 hE0 hap0 hIx hIm hR hPx hPm hS ls hl (kk h6)
    · refine lv_tableIn (tgt := 1483) hx hb dL_law_33 (by decide) (by decide) (by rfl) (by decide) ?_
      exact law_c45 l C0 hL k h6 G ct a rr bm adK adV v f g v2 f2 g2 H locs hK hZ hD0 hE0 hap0 hIx hIm hR hPx hPm hS ls hl (kk h6)
    · refine lv_tableIn (tgt := 1516) hx hb dL_law_33 (by decide) (by decide) (by rfl) (by decide) ?_
      exact law_c46 l C0 hL k h6 G ct a rr bm adK adV v f g v2 f2 g2 H locs hK hZ hD0 hE0 hap0 hIx hIm hR hPx hPm hS ls hl (kk h6)
    · refine lv_tableIn (tgt := 1539) hx hb dL_law_33 (by decide) (by decide) (by rfl) (by decide) ?_
      exact law_c47 l C0 hL k h6 G ct a rr bm adK adV v f g v2 f2 g2 H locs hK hZ hD0 hE0 hap0 hIx hIm hR hPx hPm hS ls hl (kk h6)
    · refine lv_tableIn (tgt := 1572) hx hb dL_law_33 (by decide) (by decide) (by rfl) (by decide) ?_
      exact law_c48 l C0 hL k h6 G ct a rr bm adK adV v f g v2 f2 g2 H locs hK hZ hD0 hE0 hap0 hIx hIm hR hPx hPm hS ls hl (kk h6)
    · refine lv_tableIn (tgt := 1605) hx hb dL_law_33 (by decide) (by decide) (by rfl) (by decide) ?_
      exact law_c49 l C0 hL k h6 G ct a rr bm adK adV v f g v2 f2 g2 H locs hK hZ hD0 hE0 hap0 hIx hIm hR hPx hPm hS ls hl (kk h6)
    · refine lv_tableIn (tgt := 1628) hx hb dL_law_33 (by decide) (by decide) (by rfl) (by decide) ?_
      exact law_c50 l C0 hL k h6 G ct a rr bm adK adV v f g v2 f2 g2 H locs hK hZ hD0 hE0 hap0 hIx hIm hR hPx hPm hS ls hl (kk h6)
    · refine lv_tableIn (tgt := 1641) hx hb dL_law_33 (by decide) (by decide) (by rfl) (by decide) ?_
      exact law_c51 l C0 hL k h6 G ct a rr bm adK adV v f g v2 f2 g2 H locs hK hZ hD0 hE0 hap0 hIx hIm hR hPx hPm hS ls hl (kk h6)
    · refine lv_tableIn (tgt := 1664) hx hb dL_law_33 (by decide) (by decide) (by rfl) (by decide) ?_
      exact law_c52 l C0 hL k h6 G ct a rr bm adK adV v f g v2 f2 g2 H locs hK hZ hD0 hE0 hap0 hIx hIm hR hPx hPm hS ls hl (kk h6)
    · refine lv_tableIn (tgt := 1687) hx hb dL_law_33 (by decide) (by decide) (by rfl) (by decide) ?_
      exact law_c53 l C0 hL k h6 G ct a rr bm adK adV v f g v2 f2 g2 H locs hK hZ hD0 hE0 hap0 hIx hIm hR hPx hPm hS ls hl (kk h6)
    · refine lv_tableIn (tgt := 1710) hx hb dL_law_33 (by decide) (by decide) (by rfl) (by decide) ?_
      exact law_c54 l C0 hL k h6 G ct a rr bm adK adV v f g v2 f2 g2 H locs hK hZ hD0 hE0 hap0 hIx hIm hR hPx hPm hS ls hl (kk h6)
    · refine lv_tableIn (tgt := 1743) hx hb dL_law_33 (by decide) (by decide) (by rfl) (by decide) ?_
      exact law_c55 l C0 hL k h6 G ct a rr bm adK adV v f g v2 f2 g2 H locs hK hZ hD0 hE0 hap0 hIx hIm hR hPx hPm hS ls hl (kk h6)
    · refine lv_tableIn (tgt := 1786) hx hb dL_law_33 (by decide) (by decide) (by rfl) (by decide) ?_
      exact law_c56 l C0 hL k h6 G ct a rr bm adK adV v f g v2 f2 g2 H locs hK hZ hD0 hE0 hap0 hIx hIm hR hPx hPm hS ls hl (kk h6)
    · refine lv_tableIn (tgt := 1819) hx hb dL_law_33 (by decide) (by decide) (by rfl) (by decide) ?_
      exact law_c57 l C0 hL k h6 G ct a rr bm adK adV v f g v2 f2 g2 H locs hK hZ hD0 hE0 hap0 hIx hIm hR hPx hPm hS ls hl (kk h6)
    · refine lv_tableIn (tgt := 1852) hx hb dL_law_33 (by decide) (by decide) (by rfl) (by decide) ?_
      exact law_c58 l C0 hL k h6 G ct a rr bm adK adV v f g v2 f2 g2 H locs hK hZ hD0 hE0 hap0 hIx hIm hR hPx hPm hS ls hl (kk h6)
    · refine lv_tableIn (tgt := 1885) hx hb dL_law_33 (by decide) (by decide) (by rfl) (by decide) ?_
      exact law_c59 l C0 hL k h6 G ct a rr bm adK adV v f g v2 f2 g2 H locs hK hZ hD0 hE0 hap0 hIx hIm hR hPx hPm hS ls hl (kk h6)
    · refine lv_tableIn (tgt := 1908) hx hb dL_law_33 (by decide) (by decide) (by rfl) (by decide) ?_
      exact law_c60 l C0 hL k h6 G ct a rr bm adK adV v f g v2 f2 g2 H locs hK hZ hD0 hE0 hap0 hIx hIm hR hPx hPm hS ls hl (kk h6)
    · refine lv_tableIn (tgt := 1931) hx hb dL_law_33 (by decide) (by decide) (by rfl) (by decide) ?_
      exact law_c61 l C0 hL k h6 G ct a rr bm adK adV v f g v2 f2 g2 H locs hK hZ hD0 hE0 hap0 hIx hIm hR hPx hPm hS ls hl (kk h6)
    · refine lv_tableIn (tgt := 1954) hx hb dL_law_33 (by decide) (by decide) (by rfl) (by decide) ?_
      exact law_c62 l C0 hL k h6 G ct a rr bm adK adV v f g v2 f2 g2 H locs hK hZ hD0 hE0 hap0 hIx hIm hR hPx hPm hS ls hl (kk h6)
    · refine lv_tableIn (tgt := 1997) hx hb dL_law_33 (by decide) (by decide) (by rfl) (by decide) ?_
      exact law_c63 l C0 hL k h6 G ct a rr bm adK adV v f g v2 f2 g2 H locs hK hZ hD0 hE0 hap0 hIx hIm hR hPx hPm hS ls hl (kk h6)
    · refine lv_tableIn (tgt := 2070) hx hb dL_law_33 (by decide) (by decide) (by rfl) (by decide) ?_
      exact law_c64 l C0 hL k h6 G ct a rr bm adK adV v f g v2 f2 g2 H locs hK hZ hD0 hE0 hap0 hIx hIm hR hPx hPm hS ls hl (kk h6)
    · refine lv_tableOut (tgt := 2133) hx hb dL_law_33 (Or.inr (by rw [nI_toInt (by omega)]; omega)) (by decide) ?_
      exact kk h6 v f g v2 f2 g2 H locs ls hIx hIm hR hPx hPm hS hl
set_option maxHeartbeats 8000000 in
set_option maxRecDepth 100000 in
theorem law_loop {p : Program} {e : Env} {s : State} {m : MethodId} {below : List Frame} {meth : Method} {c : Code} (l : Launch) {b L : Nat} {xs : Nat → Int32} (C0 : lw_At p s m meth c b L xs) (hL : L ≤ 3072) (G : va_G) (ct : Nat → ClassId) (a rr bm adK adV : Nat → Nat) (hK : KK G ct s) (hZ : SS adK adV (fun q : Nat => s.heap.size ≤ q) s s.heap) (hD0 : va_D (fun q : Nat => s.heap.size ≤ q) (xW a rr ct (fun _ _ => 0) (fun _ _ => 0) (fun _ _ => 0))) (hE0 : va_D (fun q : Nat => s.heap.size ≤ q) (mW bm ct (fun _ _ => 0) (fun _ _ => 0) (fun _ _ => 0))) (hap0 : wset a rr bm ct) : ∀ (n k : Nat) (hn : L ≤ k + n + 5) (hk : k ≤ 3078) (v : Nat → Nat → Int32) (f : Nat → Nat → Int32) (g : Nat → Nat → Int64) (v2 : Nat → Nat → Int32) (f2 : Nat → Nat → Int32) (g2 : Nat → Nat → Int64) (H : Heap) (locs : List Loc) (ls : Array Slot), XI v f g → MI v2 f2 g2 → REL v f g v2 f2 g2 → va_P G vwCl (xW a rr ct v f g) H → va_P G vwCl (mW bm ct v2 f2 g2) H → va_S (fun q : Nat => s.heap.size ≤ q) s.heap H locs → lv_has ls 4 [(3, .int (nI k)), (2, .ref (bm 0)), (1, .ref (a 0)), (0, .ref b)] → W p l e room_1 s m #[Value.ref b] below meth c H locs 110 5410 (lw_Z below #[Value.ref b] s) (F0 m 18 ls []) := by
  obtain ⟨hx, hb, hr, hml, hown, hts1, hX, hbl, hlocks, hgv⟩ := id C0
  intro n
  induction n with
  | zero => intro k hn hk v f g v2 f2 g2 H locs ls hIx hIm hR hPx hPm hS hl; exact law_iter l C0 hL k hk G ct a rr bm adK adV hK hZ hD0 hE0 hap0 v f g v2 f2 g2 H locs hIx hIm hR hPx hPm hS ls hl (fun h => absurd h (by omega))
  | succ n ih =>
    intro k hn hk v f g v2 f2 g2 H locs ls hIx hIm hR hPx hPm hS hl
    refine law_iter l C0 hL k hk G ct a rr bm adK adV hK hZ hD0 hE0 hap0 v f g v2 f2 g2 H locs hIx hIm hR hPx hPm hS ls hl (fun h6 v f g v2 f2 g2 H locs ls hIx hIm hR hPx hPm hS hl => ?_)
    refine lv_iinc (v := nI (k + 6)) (lv' := [(3, .int (nI (k + 6))), (2, .ref (bm 0)), (1, .ref (a 0)), (0, .ref b)]) hx hb dL_law_2133 hl (k := 0) rfl (inc6 k) (by decide) rfl (fun ls hl => ?_)
    refine lv_goto (tgt := 18) hx hb dL_law_2136 (by decide) ?_
    exact ih (k + 6) (by omega) (by omega) v f g v2 f2 g2 H locs ls hIx hIm hR hPx hPm hS hl
