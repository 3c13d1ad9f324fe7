theorem dL_law_0 : decode cL_law 0 = .ok (.new 7, 3) := by decide +kernel
theorem dL_law_3 : decode cL_law 3 = .ok (.dup, 1) := by decide +kernel
set_option maxRecDepth 20000 in
theorem ggL_law_X10_init : GoodIn wsL_law wsX10_init := goodIn_s _ [(0, 9), (0, 10), (0, 11), (0, 12), (0, 13), (0, 14), (0, 15), (0, 16), (0, 17), (0, 18), (0, 19), (0, 20), (0, 21), (0, 22), (0, 23), (1, 0), (1, 1), (1, 2), (1, 3), (1, 4), (1, 5), (1, 6), (1, 7), (1, 8), (1, 9), (1, 10), (1, 11), (1, 12), (1, 13), (1, 14), (1, 15), (1, 16), (1, 17), (1, 18), (1, 19), (1, 20), (1, 21), (1, 22), (1, 23), (2, 0), (2, 1), (2, 2), (2, 3), (2, 4), (2, 5), (2, 6), (2, 7), (2, 8), (2, 9), (2, 10), (2, 11), (2, 12), (2, 13), (2, 14), (2, 15), (2, 16), (2, 17), (2, 18), (2, 19), (2, 20), (2, 21), (2, 22), (2, 23), (3, 0), (3, 1), (3, 2), (3, 3), (3, 4), (3, 5), (3, 6), (3, 7), (3, 8), (3, 9), (3, 10), (3, 11), (3, 12), (3, 13), (3, 14), (3, 15), (3, 16), (3, 17), (3, 18), (3, 19), (3, 20), (3, 21), (3, 22), (3, 23), (4, 0), (4, 1), (4, 2), (4, 3), (4, 4), (4, 5), (4, 6), (4, 7), (4, 8), (4, 9), (4, 10), (4, 11), (4, 12), (4, 13), (4, 14), (4, 15), (4, 16), (4, 17), (4, 18), (4, 19), (4, 20), (4, 21), (4, 22), (4, 23), (5, 0), (5, 1), (5, 2), (5, 3), (5, 4), (5, 5), (72, 0), (72, 1), (70, 0), (70, 1), (70, 2), (70, 3), (70, 4), (70, 5), (70, 6), (70, 7), (70, 8), (70, 9), (70, 10), (73, 0), (73, 1), (73, 2), (73, 3), (73, 4), (73, 5), (73, 6), (73, 7), (74, 0), (74, 1), (74, 2), (74, 3), (75, 0), (75, 1), (75, 2), (75, 3), (76, 0), (76, 1), (76, 2), (76, 3), (76, 4), (76, 5), (76, 6), (76, 7), (77, 0), (77, 1), (78, 0), (78, 1), (78, 2), (79, 0), (79, 1), (79, 2), (80, 0), (80, 1), (80, 2), (80, 3), (81, 0), (81, 1), (81, 2), (81, 3), (81, 4), (81, 5), (81, 6)] (by rfl) (by decide +kernel)
set_option maxRecDepth 20000 in
theorem gL_law_X10_init : GoodIn wsL_law (wsX10_init) := ggL_law_X10_init
theorem dL_law_4 : decode cL_law 4 = .ok (.invokespecial 9, 3) := by decide +kernel
theorem dL_law_7 : decode cL_law 7 = .ok (.astore_n 1, 1) := by decide +kernel
theorem dL_law_8 : decode cL_law 8 = .ok (.new 10, 3) := by decide +kernel
theorem dL_law_11 : decode cL_law 11 = .ok (.dup, 1) := by decide +kernel
set_option maxRecDepth 20000 in
theorem ggL_law_X11_init : GoodIn wsL_law wsX11_init := goodIn_s _ [(5, 8), (5, 9), (0, 11), (0, 12), (3, 1), (5, 10), (5, 11), (4, 7), (5, 12), (5, 13), (2, 8), (5, 14), (5, 15), (5, 16), (5, 17), (5, 18), (5, 19), (1, 2), (5, 20), (5, 21), (5, 22), (5, 23), (6, 0), (71, 0), (71, 1), (71, 2), (71, 3), (71, 4), (71, 5), (71, 6), (71, 7), (71, 8), (71, 9), (71, 10), (71, 11), (71, 12), (71, 13), (71, 14), (71, 15), (71, 16), (71, 17), (71, 18), (71, 19), (71, 20), (71, 21), (71, 22), (71, 23), (71, 24), (71, 25), (71, 26), (71, 27), (71, 28), (71, 29), (71, 30)] (by rfl) (by decide +kernel)
set_option maxRecDepth 20000 in
theorem gL_law_X11_init : GoodIn wsL_law (wsX11_init) := ggL_law_X11_init
theorem dL_law_12 : decode cL_law 12 = .ok (.invokespecial 12, 3) := by decide +kernel
theorem dL_law_15 : decode cL_law 15 = .ok (.astore_n 2, 1) := by decide +kernel
theorem dL_law_16 : decode cL_law 16 = .ok (.iconst 0, 1) := by decide +kernel
theorem dL_law_17 : decode cL_law 17 = .ok (.istore_n 3, 1) := by decide +kernel
def xv0 : Nat → Nat → Int32 := fun p j => if p = 3 then (if j = 3 then -1 else 0) else if p = 88 then (if j = 2 then 1 else 0) else 0
def xf0 : Nat → Nat → Int32 := fun _ _ => 0
def xg0 : Nat → Nat → Int64 := fun _ _ => 0
def mv0 : Nat → Nat → Int32 := fun _ j => if j = 15 then -1 else 0
def mf0 : Nat → Nat → Int32 := fun p => if p = 1 then WD else fun _ => 0
theorem XI_0 : XI xv0 xf0 xg0 := ⟨(by decide), (by decide), (by decide), (by decide), (by decide), (by decide), (by decide), (by decide), (by decide), (by decide), (fun _ => (show rg 0 60 (0 : Int32) by decide)), (by decide), (by decide), (by decide), (by decide), (by decide), trivial⟩
theorem MI_0 : MI mv0 mf0 xg0 := ⟨(fun _ => (show rg 0 60 (0 : Int32) by decide)), (by decide), ⟨fun _ => (show rg 0 8 (0 : Int32) by decide), fun _ => (show rg 0 40 (0 : Int32) by decide)⟩, ⟨fun _ => (show rg 0 63 (0 : Int32) by decide), fun _ => (show rg (-1) 7 (0 : Int32) by decide)⟩, (fun _ => (show rg 0 7 (0 : Int32) by decide)), (fun _ => (show rg (-1) 7 (0 : Int32) by decide)), (fun _ => (show rg (-1) 7 (0 : Int32) by decide)), trivial⟩
theorem REL_0 : REL xv0 xf0 xg0 mv0 mf0 xg0 := by
  show RK 0 (fun _ => 0) (fun _ => 0) WD (fun _ => 0)
  intro s h0 h3
  obtain ⟨n, hn, es, ed⟩ := nI_04 h0 h3
  have hw : WD n = -1 := (by decide +kernel : ∀ n : Nat, n < 4 → WD n = -1) n hn
  rw [ed, es, btA_bt (by omega), b_0]
  exact ⟨⟨fun h => absurd h (by decide), fun h => absurd hw h⟩, rfl, fun h => absurd hw h⟩
set_option maxHeartbeats 8000000 in
set_option maxRecDepth 100000 in
theorem whole_start {p : Program} {e : Env} {s : State} {m : MethodId} {below : List Frame} {meth : Method} {c : Code} (l : Launch) {b L : Nat} {xs : Nat → Int32} (hL : L ≤ 3072) (C0 : lw_At p s m meth c b L xs) : W p l e room_1 s m #[Value.ref b] below meth c s.heap [] 0 0 (lw_Z below #[Value.ref b] s) (entryFrame m ([Value.ref b] : List Value).toArray 4) := by
  obtain ⟨hx, hb, hr, hml, hown, hts1, hX, hbl, hlocks, hgv⟩ := id C0
  have hown : s.vm.findClass RL = some m.cls := hown
  have hts : ∀ z ∈ wsL_law, z.before #[Value.ref b] s = true := fun z h => hts1 z (wsL_law_in z h)
  have hA : ∀ q : Nat, s.heap.size ≤ q → (fun q : Nat => s.heap.size ≤ q) q := fun _ h => h
  have hbA : ¬ (fun q : Nat => s.heap.size ≤ q) b := Nat.not_le.mpr hbl
  obtain ⟨G, ct, hK⟩ := law_known hts1
  have hS : va_S (fun q : Nat => s.heap.size ≤ q) s.heap s.heap [] := va_S.rf
  have hP : va_P G vwCl [] s.heap := fun k q h => by simp at h
  have hD : va_D (fun q : Nat => s.heap.size ≤ q) [] := ⟨fun i j p q h => by simp at h, fun k q h => by simp at h⟩
  have hl := lv_entry ([.ref b]) (n := 4) (Nat.le_of_ble_eq_true rfl)
  rw [lg_entry_eq]
  generalize (lg_sl ([.ref b]) ++ List.replicate (4 - (lg_sl ([.ref b])).length) Slot.unset).toArray = ls at hl ⊢
  have hl : lv_has ls 4 [(0, .ref b)] := hl
  refine va_new (D := G) (ci := 10) (fs := [.null, .null, .null, .null, .null, .null, .null, .null, .null, .null, .null]) (C := RX10) (T := TX10) (N := 11) hx hb hts inlX10 tyX10 tyX10_ok hown (hts (.classLink RL 7 RX10) (by decide +kernel)) (hts (.instantiable RX10 11) (by decide +kernel)) (hts (.initialized RX10) (by decide +kernel)) hK.1 hP hD hS hA rfl (fun j hj => by rcases (show j = 0 ∨ j = 1 ∨ j = 2 ∨ j = 3 ∨ j = 4 ∨ j = 5 ∨ j = 6 ∨ j = 7 ∨ j = 8 ∨ j = 9 ∨ j = 10 by omega) with rfl | rfl | rfl | rfl | rfl | rfl | rfl | rfl | rfl | rfl | rfl <;> rfl) (Nat.le_of_ble_eq_true rfl) (Nat.le_of_ble_eq_true rfl) dL_law_0 (fun q_1 H hP hD hS => ?_)
  refine W.widen (k := 1) (n := 11) (Nat.le_of_ble_eq_true rfl) (Nat.le_of_ble_eq_true rfl) ?_
  refine lv_dup hx hb dL_law_3 rfl ?_
  refine nl_callv (w1 := fun u : (Nat → Nat) × (Nat → Nat) => xW u.1 u.2 ct xv0 xf0 xg0) (va_runI (As := []) (rest := [.ref q_1]) ⟨hx, hb, hml, hown, hts⟩ (c_X10_init l G ct q_1 H.size) (cwI 0 hts gL_law_X10_init rfl rfl rfl (hts (.initialized RX10) (by decide +kernel)) (hts (.methodLink RL 9 yX10_init) (by decide +kernel)) (hts (.instanceMethod yX10_init) (by decide +kernel)) rfl (by decide +kernel) ⟨Nat.le_of_ble_eq_true rfl, Nat.le_of_ble_eq_true rfl⟩) (nw_pre hK hP.last hD.last) rfl rfl hl.1 rfl (lv_room (Nat.le_of_ble_eq_true rfl)) dL_law_4 ⟨Nat.le_of_ble_eq_true rfl, Nat.le_of_ble_eq_true rfl⟩) hS hA hP hD (fun u H locs hu hP2 hD2 hS2 => ?_)
  refine W.widen (k := 95) (n := 2348) (Nat.le_of_ble_eq_true rfl) (Nat.le_of_ble_eq_true rfl) ?_
  obtain ⟨a, rr⟩ := u
  obtain rfl : a 0 = q_1 := hu
  have hP : va_P G vwCl (xW a rr ct xv0 xf0 xg0) H := hP2
  have hD : va_D (fun q : Nat => s.heap.size ≤ q) (xW a rr ct xv0 xf0 xg0) := hD2
  have hS := hS2
  refine lv_astore_n (lv' := [(1, .ref (a 0)), (0, .ref b)]) hx hb dL_law_7 rfl hl (by decide) rfl (fun ls hl => ?_)
  refine va_new (D := G) (ci := 11) (fs := [.int 0, .null, .null, .null, .null, .null, .int 0, .int 0, .int 0, .int 0, .int 0, .long 0, .int 0, .int 0, .int 0, .int 0, .null, .null, .null, .null, .null, .null, .null, .null, .int 0, .int 0, .int 0, .int 0, .null, .int 0, .int 0]) (C := RX11) (T := TX11) (N := 31) hx hb hts inlX11 tyX11 tyX11_ok hown (hts (.classLink RL 10 RX11) (by decide +kernel)) (hts (.instantiable RX11 31) (by decide +kernel)) (hts (.initialized RX11) (by decide +kernel)) hK.1 hP hD hS hA rfl (fun j hj => by rcases (show j = 0 ∨ j = 1 ∨ j = 2 ∨ j = 3 ∨ j = 4 ∨ j = 5 ∨ j = 6 ∨ j = 7 ∨ j = 8 ∨ j = 9 ∨ j = 10 ∨ j = 11 ∨ j = 12 ∨ j = 13 ∨ j = 14 ∨ j = 15 ∨ j = 16 ∨ j = 17 ∨ j = 18 ∨ j = 19 ∨ j = 20 ∨ j = 21 ∨ j = 22 ∨ j = 23 ∨ j = 24 ∨ j = 25 ∨ j = 26 ∨ j = 27 ∨ j = 28 ∨ j = 29 ∨ j = 30 by omega) with rfl | rfl | rfl | rfl | rfl | rfl | rfl | rfl | rfl | rfl | rfl | rfl | rfl | rfl | rfl | rfl | rfl | rfl | rfl | rfl | rfl | rfl | rfl | rfl | rfl | rfl | rfl | rfl | rfl | rfl | rfl <;> rfl) (Nat.le_of_ble_eq_true rfl) (Nat.le_of_ble_eq_true rfl) dL_law_8 (fun q_2 H hP hD hS => ?_)
  refine W.widen (k := 96) (n := 2379) (Nat.le_of_ble_eq_true rfl) (Nat.le_of_ble_eq_true rfl) ?_
  refine lv_dup hx hb dL_law_11 rfl ?_
  refine nl_callv (w1 := fun u : Nat → Nat => mW u ct mv0 mf0 xg0) (va_runI (As := []) (rest := [.ref q_2]) ⟨hx, hb, hml, hown, hts⟩ (c_X11_init l G ct q_2 H.size) (cwI 0 hts gL_law_X11_init rfl rfl rfl (hts (.initialized RX11) (by decide +kernel)) (hts (.methodLink RL 12 yX11_init) (by decide +kernel)) (hts (.instanceMethod yX11_init) (by decide +kernel)) rfl (by decide +kernel) ⟨Nat.le_of_ble_eq_true rfl, Nat.le_of_ble_eq_true rfl⟩) (nw_pre hK hP.last hD.last) rfl rfl hl.1 rfl (lv_room (Nat.le_of_ble_eq_true rfl)) dL_law_12 ⟨Nat.le_of_ble_eq_true rfl, Nat.le_of_ble_eq_true rfl⟩) hS hA hP hD (fun u H locs hu hP2 hD2 hS2 => ?_)
  refine W.widen (k := 110) (n := 5410) (Nat.le_of_ble_eq_true rfl) (Nat.le_of_ble_eq_true rfl) ?_
  obtain ⟨bm, rfl⟩ : ∃ z, z = u := ⟨_, rfl⟩
  obtain rfl : bm 0 = q_2 := hu
  have hP : va_P G vwCl (xW a rr ct xv0 xf0 xg0 ++ mW bm ct mv0 mf0 xg0) H := hP2
  have hD : va_D (fun q : Nat => s.heap.size ≤ q) (xW a rr ct xv0 xf0 xg0 ++ mW bm ct mv0 mf0 xg0) := hD2
  have hS := hS2
  obtain ⟨adK, adV, hZ⟩ := law_strs hts1 hgv
  refine lv_astore_n (lv' := [(2, .ref (bm 0)), (1, .ref (a 0)), (0, .ref b)]) hx hb dL_law_15 rfl hl (by decide) rfl (fun ls hl => ?_)
  refine lv_iconst (v := 0) hx hb dL_law_16 (by decide) ?_
  refine lv_istore_n (lv' := [(3, .int 0), (2, .ref (bm 0)), (1, .ref (a 0)), (0, .ref b)]) hx hb dL_law_17 rfl hl (by decide) rfl (fun ls hl => ?_)
  have hDx := va_D.left hD
  have hDm := va_D.right hD
  have hap := va_D.apart hD
  exact law_loop l C0 hL G ct a rr bm adK adV hK hZ (hDx.ad (xW_ad ..)) (hDm.ad (mW_ad ..)) (fun q h1 h2 => hap q (aset_ad (xW_ad ..) h1) (aset_ad (mW_ad ..) h2)) L 0 (by omega) (by omega) xv0 xf0 xg0 mv0 mf0 xg0 H locs ls XI_0 MI_0 REL_0 (va_P.left hP) (va_P.right hP) hS hl
