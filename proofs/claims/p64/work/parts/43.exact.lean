
set_option maxHeartbeats 4000000 in
set_option maxRecDepth 100000 in
theorem e_X11_in (l : Launch) (G : va_G) (ct : Nat → ClassId) (p0 : Int64) (p1 : Int64) (p2 : Int64)  : Met l yX11_in wsX11_in ({ frames := 0, cells := 0, slots := 0, locals := 0 }) (va_Pc [.long p0, .long p1, .long p2] (roP G ct [])) (roQ (fun r => rg 0 1 r ∧ (¬ r = 0 → p1.toInt ≤ p0.toInt ∧ p0.toInt ≤ p2.toInt) ∧ (r = 0 → p0.toInt < p1.toInt ∨ p2.toInt < p0.toInt) ∧ True)) 0 0 no := by
  refine Met.ofW (cc := cX11_in) (maxL := 6) (ret := (some .boolean)) (by decide) rfl ?_
  intro p e s m args below meth c s₁ B hml hv
  obtain ⟨rfl, hP, hK⟩ := hv
  have hx := B.exec
  have hb := B.bytes
  have hr := B.returns
  have hts := atoms_spec (ws := wsX11_in) B.pre
  have hown : s.vm.findClass RX11 = some m.cls := findClass_of_methodNamed B.named
  have hlocks := B.notSynchronized
  have hS : va_S no s.heap s.heap [] := va_S.rf
  have hl := lv_entry ([.long p0, .long p1, .long p2]) (n := 6) (Nat.le_of_ble_eq_true rfl)
  rw [lg_entry_eq]
  generalize (lg_sl ([.long p0, .long p1, .long p2]) ++ List.replicate (6 - (lg_sl ([.long p0, .long p1, .long p2])).length) Slot.unset).toArray = ls at hl ⊢
  have hl : lv_has ls 6 [(0, .long p0), (2, .long p1), (4, .long p2)] := hl
  refine lv_lload_n hx hb dX11_in_0 rfl (lv_at hl 0 rfl) ?_
  refine lv_lload_n hx hb dX11_in_1 rfl (lv_at hl 1 rfl) ?_
  refine W.lcmp hx hb dX11_in_2 ?_
  refine lb_lt (tgt := 17) hx hb dX11_in_3 (by decide) (fun c3 => ?_) (fun c3 => ?_)
  · have h_1 : rl (-9223372036854775808) 9223372036854775806 p0 := r_lt_l_l c3 (rl_t p0) (rl_t p1) (by decide)
    have h_2 : rl (-9223372036854775807) 9223372036854775807 p1 := r_lt_r_l c3 (rl_t p0) (rl_t p1) (by decide)
    refine lv_iconst (v := 0) hx hb dX11_in_17 (by decide) ?_
    exact W.zret (v := 0) (ty := .boolean) hx hb hr (rfl) (fun t ht hW => ⟨⟨0, (), rfl, ⟨(rg_w (c := 0) (d := 1) (rgn 0 (x := 0) (by decide)) (by decide)), (fun hq => absurd rfl hq), (fun _ => Or.inl (l_lt c3)), trivial⟩, trivial⟩, hS.F ht⟩) hS.2.2 dX11_in_18
  · refine lv_lload_n hx hb dX11_in_6 rfl (lv_at hl 0 rfl) ?_
    refine lv_lload hx hb dX11_in_7 (lv_at hl 2 rfl) ?_
    refine W.lcmp hx hb dX11_in_9 ?_
    refine lb_gt (tgt := 17) hx hb dX11_in_10 (by decide) (fun c10 => ?_) (fun c10 => ?_)
    · have h_3 : rl (-9223372036854775808) 9223372036854775806 p2 := r_lt_l_l c10 (rl_t p2) (rl_t p0) (by decide)
      have h_4 : rl (-9223372036854775807) 9223372036854775807 p0 := r_lt_r_l c10 (rl_t p2) (rl_t p0) (by decide)
      refine lv_iconst (v := 0) hx hb dX11_in_17 (by decide) ?_
      exact W.zret (v := 0) (ty := .boolean) hx hb hr (rfl) (fun t ht hW => ⟨⟨0, (), rfl, ⟨(rg_w (c := 0) (d := 1) (rgn 0 (x := 0) (by decide)) (by decide)), (fun hq => absurd rfl hq), (fun _ => Or.inr (l_lt c10)), trivial⟩, trivial⟩, hS.F ht⟩) hS.2.2 dX11_in_18
    · refine lv_iconst (v := 1) hx hb dX11_in_13 (by decide) ?_
      refine lv_goto (tgt := 18) hx hb dX11_in_14 (by decide) ?_
      exact W.zret (v := 1) (ty := .boolean) hx hb hr (rfl) (fun t ht hW => ⟨⟨1, (), rfl, ⟨(rg_w (c := 0) (d := 1) (rgn 1 (x := 1) (by decide)) (by decide)), (fun _ => ⟨l_nlt c3, l_nlt c10⟩), (fun hq => absurd hq (rne (rgn 1 (x := 1) (by decide)) (y := 0) (c := 0) (by decide) (by decide))), trivial⟩, trivial⟩, hS.F ht⟩) hS.2.2 dX11_in_18

def rwA (p q n : Int32) : Int32 := if 0 ≤ p.toInt ∧ p.toInt ≤ 3 ∧ 0 ≤ q.toInt ∧ q.toInt ≤ 3 ∧ n.toInt ≤ 60 then (if n.toInt < 0 then -3 else 0) else -2
set_option maxHeartbeats 4000000 in
set_option maxRecDepth 100000 in
theorem e_X6_isSlot (l : Launch) (G : va_G) (ct : Nat → ClassId) (a0 : Nat) (a1 : Nat) (a6 : Nat) (a7 : Nat) (n0_3 : Int32) (p0 : Int32)  : Met l yX6_isSlot wsX6_isSlot ({ frames := 0, cells := 0, slots := 0, locals := 0 }) (va_Pc [.ref a0, .int p0] (roP G ct [(a0, .inr (6, [.ref a1, .ref a6, .ref a7, .int n0_3]))])) (roQ (fun r => rg 0 1 r ∧ (¬ r = 0 → rg 0 3 p0) ∧ (r = 0 → p0.toInt < 0 ∨ 3 < p0.toInt) ∧ True)) 0 0 no := by
  refine Met.ofW (cc := cX6_isSlot) (maxL := 2) (ret := (some .boolean)) (by decide) rfl ?_
  intro p e s m args below meth c s₁ B hml hv
  obtain ⟨rfl, hP, hK⟩ := hv
  have hx := B.exec
  have hb := B.bytes
  have hr := B.returns
  have hts := atoms_spec (ws := wsX6_isSlot) B.pre
  have hown : s.vm.findClass RX6 = some m.cls := findClass_of_methodNamed B.named
  have hlocks := B.notSynchronized
  have hS : va_S no s.heap s.heap [] := va_S.rf
  have hl := lv_entry ([.ref a0, .int p0]) (n := 2) (Nat.le_of_ble_eq_true rfl)
  rw [lg_entry_eq]
  generalize (lg_sl ([.ref a0, .int p0]) ++ List.replicate (2 - (lg_sl ([.ref a0, .int p0])).length) Slot.unset).toArray = ls at hl ⊢
  have hl : lv_has ls 2 [(0, .ref a0), (1, .int p0)] := hl
  refine lv_iload_n hx hb dX6_isSlot_0 rfl (lv_at hl 1 rfl) ?_
  refine lv_if_lt (tgt := 13) hx hb dX6_isSlot_1 (by decide) (fun c1 => ?_) (fun c1 => ?_)
  · have h_1 : rg (-2147483648) (-1) p0 := r_lt_l_i c1 (rg_t p0) (rgn 0 (x := 0) (by decide)) (by decide)
    refine lv_iconst (v := 0) hx hb dX6_isSlot_13 (by decide) ?_
    exact W.zret (v := 0) (ty := .boolean) hx hb hr (rfl) (fun t ht hW => ⟨⟨0, (), rfl, ⟨(rg_w (c := 0) (d := 1) (rgn 0 (x := 0) (by decide)) (by decide)), (fun hq => absurd (req (rgn 0 (x := 0) (by decide)) (y := 0) (by decide)) hq), (fun _ => by have := h_1; omega), trivial⟩, trivial⟩, hS.F ht⟩) hS.2.2 dX6_isSlot_14
  · have h_2 : rg 0 2147483647 p0 := r_le_r_i (nlt_i c1) (rgn 0 (x := 0) (by decide)) (rg_t p0)
    refine lv_iload_n hx hb dX6_isSlot_4 rfl (lv_at hl 1 rfl) ?_
    refine lv_iconst (v := 4) hx hb dX6_isSlot_5 (by decide) ?_
    refine lv_icmp_ge (tgt := 13) hx hb dX6_isSlot_6 (by decide) (fun c6 => ?_) (fun c6 => ?_)
    · have h_3 : rg 4 2147483647 p0 := r_le_r_i c6 (rgn 4 (x := 4) (by decide)) h_2
      refine lv_iconst (v := 0) hx hb dX6_isSlot_13 (by decide) ?_
      exact W.zret (v := 0) (ty := .boolean) hx hb hr (rfl) (fun t ht hW => ⟨⟨0, (), rfl, ⟨(rg_w (c := 0) (d := 1) (rgn 0 (x := 0) (by decide)) (by decide)), (fun hq => absurd (req (rgn 0 (x := 0) (by decide)) (y := 0) (by decide)) hq), (fun _ => by have := h_3; omega), trivial⟩, trivial⟩, hS.F ht⟩) hS.2.2 dX6_isSlot_14
    · have h_4 : rg 0 3 p0 := r_lt_l_i (nle_i c6) h_2 (rgn 4 (x := 4) (by decide)) (by decide)
      refine lv_iconst (v := 1) hx hb dX6_isSlot_9 (by decide) ?_
      refine lv_goto (tgt := 14) hx hb dX6_isSlot_10 (by decide) ?_
      exact W.zret (v := 1) (ty := .boolean) hx hb hr (rfl) (fun t ht hW => ⟨⟨1, (), rfl, ⟨(rg_w (c := 0) (d := 1) (rgn 1 (x := 1) (by decide)) (by decide)), (fun _ => h_4), (fun hq => absurd hq (rne (rgn 1 (x := 1) (by decide)) (y := 0) (c := 0) (by decide) (by decide))), trivial⟩, trivial⟩, hS.F ht⟩) hS.2.2 dX6_isSlot_14

set_option maxHeartbeats 4000000 in
set_option maxRecDepth 100000 in
theorem e_X11_isSlot (l : Launch) (G : va_G) (ct : Nat → ClassId) (p0 : Int32)  : Met l yX11_isSlot wsX11_isSlot ({ frames := 1, cells := 0, slots := 0, locals := 25 }) (va_Pc [.int p0] (roP G ct [])) (roQ (fun r => rg 0 1 r ∧ (¬ r = 0 → rg 0 3 p0) ∧ (r = 0 → p0.toInt < 0 ∨ 3 < p0.toInt) ∧ True)) 0 0 no := by
  refine Met.ofW (cc := cX11_isSlot) (maxL := 1) (ret := (some .boolean)) (by decide) rfl ?_
  intro p e s m args below meth c s₁ B hml hv
  obtain ⟨rfl, hP, hK⟩ := hv
  have hx := B.exec
  have hb := B.bytes
  have hr := B.returns
  have hts := atoms_spec (ws := wsX11_isSlot) B.pre
  have hown : s.vm.findClass RX11 = some m.cls := findClass_of_methodNamed B.named
  have hlocks := B.notSynchronized
  have hS : va_S no s.heap s.heap [] := va_S.rf
  have hl := lv_entry ([.int p0]) (n := 1) (Nat.le_of_ble_eq_true rfl)
  rw [lg_entry_eq]
  generalize (lg_sl ([.int p0]) ++ List.replicate (1 - (lg_sl ([.int p0])).length) Slot.unset).toArray = ls at hl ⊢
  have hl : lv_has ls 1 [(0, .int p0)] := hl
  refine lv_iload_n hx hb dX11_isSlot_0 rfl (lv_at hl 0 rfl) ?_
  refine lv_i2l hx hb dX11_isSlot_1 rfl ?_
  refine nl_i2l (rg_t p0) (fun z1 hz1 ez1 => ?_)
  refine lv_lconst (v := 0) hx hb dX11_isSlot_2 (by decide) ?_
  refine lv_ldc2 (own := RX11) (v := 3) hx hb hown (hts (.constantLong RX11 62 (3)) (by decide +kernel)) dX11_isSlot_3 ?_
  refine ro_calli (va_runS (As := [.long z1, .long 0, .long 3]) (rest := []) ⟨hx, hb, hml, hown, hts⟩ (e_X11_in l G ct z1 (0 : Int64) (3 : Int64)) (va_cwS 3 hts gX11_isSlot_X11_in rfl rfl rfl (by decide +kernel) ⟨Nat.le_of_ble_eq_true rfl, Nat.le_of_ble_eq_true rfl⟩) (ro_pre hK (hP.sub [] rfl)) rfl rfl hl.1 rfl (lv_room (Nat.le_of_ble_eq_true rfl)) dX11_isSlot_6 ⟨Nat.zero_le _, Nat.zero_le _⟩) hS hP (fun r6 H locs wr6 hP hS => ?_)
  obtain ⟨p_1, p_2, p_3, -⟩ := wr6
  exact W.zret (v := r6) (ty := .boolean) hx hb hr (nar_rg p_1) (fun t ht hW => ⟨⟨r6, (), rfl, ⟨p_1, (fun hq => rg_w ((fun hq => bk_li (a := 0) (b := 3) ez1 ((fun hq => in_im (p_2 hq) (rln 0 (x := 0) (by decide)) (rln 3 (x := 3) (by decide))) hq) (rg_t p0) (by decide)) hq) (by decide)), (fun hq => by have h9 := p_3 hq; have := ez1; have : (0 : Int64).toInt = 0 := (by decide); have : (3 : Int64).toInt = 3 := (by decide); omega), trivial⟩, trivial⟩, hS.F ht⟩) hS.2.2 dX11_isSlot_9

set_option maxHeartbeats 4000000 in
set_option maxRecDepth 100000 in
theorem e_X10_row (l : Launch) (G : va_G) (ct : Nat → ClassId) (a0 : Nat) (a1 : Nat) (a3 : Nat) (a11 : Nat) (a25 : Nat) (a68 : Nat) (a69 : Nat) (a77 : Nat) (a82 : Nat) (a84 : Nat) (a88 : Nat) (a91 : Nat) (a70 : Nat) (a75 : Nat) (a76 : Nat) (n69_3 : Int32) (rr : Nat → Nat) (f71 : Nat → Int64) (f72 : Nat → Int64) (f73 : Nat → Int64) (f74 : Nat → Int64) (f75 : Nat → Int32) (f76 : Nat → Int32) (p0 : Int32) (p1 : Int32) (p2 : Int32) (hp_f76 : ar 0 60 f76) : Met l yX10_row wsX10_row ({ frames := 2, cells := 0, slots := 0, locals := 45 }) (va_Pc [.ref a0, .int p0, .int p1, .int p2] (wrP G ct [(a0, .inr (10, [.ref a1, .ref a3, .ref a11, .ref a25, .ref a68, .ref a69, .ref a77, .ref a82, .ref a84, .ref a88, .ref a91])), (a69, .inr (6, [.ref a70, .ref a75, .ref a76, .int n69_3])), (a70, .inl (ct 5, 4, .inr (.inr (.inr (.inr (fun i => if i < 4 then some (rr i) else none)))))), ((rr 0), .inl (ct 3, 60, .inr (.inl f71))), ((rr 1), .inl (ct 3, 60, .inr (.inl f72))), ((rr 2), .inl (ct 3, 60, .inr (.inl f73))), ((rr 3), .inl (ct 3, 60, .inr (.inl f74))), (a75, .inl (ct 0, 4, .inl f75)), (a76, .inl (ct 0, 4, .inl f76))])) (va_Qi (fun (r : Int32) (u : SU) => rg (-3) 0 r ∧ (r = 0 → rg 0 3 p0) ∧ (¬ r = (-2) → rg 0 3 p0) ∧ (r = 0 → rg 0 3 p1) ∧ (¬ r = (-2) → rg 0 3 p1) ∧ (r = 0 → rg 0 60 p2) ∧ (¬ r = (-2) → rg (-2147483648) 60 p2) ∧ ar 0 60 (u.2.1 1) ∧ r = rwA p0 p1 p2 ∧ True) (fun u t => va_P G vwCl ((fun u : SU => [(a0, .inr (10, [.ref a1, .ref a3, .ref a11, .ref a25, .ref a68, .ref a69, .ref a77, .ref a82, .ref a84, .ref a88, .ref a91])), (a69, .inr (6, [.ref a70, .ref a75, .ref a76, .int (u.1 0)])), (a70, .inl (ct 5, 4, .inr (.inr (.inr (.inr (fun i => if i < 4 then some (rr i) else none)))))), ((rr 0), .inl (ct 3, 60, .inr (.inl (u.2.2 0)))), ((rr 1), .inl (ct 3, 60, .inr (.inl (u.2.2 1)))), ((rr 2), .inl (ct 3, 60, .inr (.inl (u.2.2 2)))), ((rr 3), .inl (ct 3, 60, .inr (.inl (u.2.2 3)))), (a75, .inl (ct 0, 4, .inl (u.2.1 0))), (a76, .inl (ct 0, 4, .inl (u.2.1 1)))]) u) t.heap) (aset [(a0, .inr (10, [.ref a1, .ref a3, .ref a11, .ref a25, .ref a68, .ref a69, .ref a77, .ref a82, .ref a84, .ref a88, .ref a91])), (a69, .inr (6, [.ref a70, .ref a75, .ref a76, .int n69_3])), (a70, .inl (ct 5, 4, .inr (.inr (.inr (.inr (fun i => if i < 4 then some (rr i) else none)))))), ((rr 0), .inl (ct 3, 60, .inr (.inl f71))), ((rr 1), .inl (ct 3, 60, .inr (.inl f72))), ((rr 2), .inl (ct 3, 60, .inr (.inl f73))), ((rr 3), .inl (ct 3, 60, .inr (.inl f74))), (a75, .inl (ct 0, 4, .inl f75)), (a76, .inl (ct 0, 4, .inl f76))])) 0 0 (aset [(a0, .inr (10, [.ref a1, .ref a3, .ref a11, .ref a25, .ref a68, .ref a69, .ref a77, .ref a82, .ref a84, .ref a88, .ref a91])), (a69, .inr (6, [.ref a70, .ref a75, .ref a76, .int n69_3])), (a70, .inl (ct 5, 4, .inr (.inr (.inr (.inr (fun i => if i < 4 then some (rr i) else none)))))), ((rr 0), .inl (ct 3, 60, .inr (.inl f71))), ((rr 1), .inl (ct 3, 60, .inr (.inl f72))), ((rr 2), .inl (ct 3, 60, .inr (.inl f73))), ((rr 3), .inl (ct 3, 60, .inr (.inl f74))), (a75, .inl (ct 0, 4, .inl f75)), (a76, .inl (ct 0, 4, .inl f76))]) := by
  refine Met.ofW (cc := cX10_row) (maxL := 4) (ret := (some .int)) (by decide) rfl ?_
  intro p e s m args below meth c s₁ B hml hv
  obtain ⟨rfl, hP, hK, hD0⟩ := hv
  have hx := B.exec
  have hb := B.bytes
  have hr := B.returns
  have hts := atoms_spec (ws := wsX10_row) B.pre
  have hown : s.vm.findClass RX10 = some m.cls := findClass_of_methodNamed B.named
  have hlocks := B.notSynchronized
  have hD := hD0.aself
  generalize hAe : aset [(a0, .inr (10, [.ref a1, .ref a3, .ref a11, .ref a25, .ref a68, .ref a69, .ref a77, .ref a82, .ref a84, .ref a88, .ref a91])), (a69, .inr (6, [.ref a70, .ref a75, .ref a76, .int n69_3])), (a70, .inl (ct 5, 4, .inr (.inr (.inr (.inr (fun i => if i < 4 then some (rr i) else none)))))), ((rr 0), .inl (ct 3, 60, .inr (.inl f71))), ((rr 1), .inl (ct 3, 60, .inr (.inl f72))), ((rr 2), .inl (ct 3, 60, .inr (.inl f73))), ((rr 3), .inl (ct 3, 60, .inr (.inl f74))), (a75, .inl (ct 0, 4, .inl f75)), (a76, .inl (ct 0, 4, .inl f76))] = A at hD ⊢
  have hS : va_S A s.heap s.heap [] := va_S.rf
  have hl := lv_entry ([.ref a0, .int p0, .int p1, .int p2]) (n := 4) (Nat.le_of_ble_eq_true rfl)
  rw [lg_entry_eq]
  generalize (lg_sl ([.ref a0, .int p0, .int p1, .int p2]) ++ List.replicate (4 - (lg_sl ([.ref a0, .int p0, .int p1, .int p2])).length) Slot.unset).toArray = ls at hl ⊢
  have hl : lv_has ls 4 [(0, .ref a0), (1, .int p0), (2, .int p1), (3, .int p2)] := hl
  refine lv_aload_n hx hb dX10_row_0 rfl (lv_at hl 0 rfl) ?_
  refine va_get (D := G) (ci := 10) (v := .ref a69) (C := RX10) (T := TX10) (N := 11) hx hb hts (by decide +kernel) hown hK.1 hP 0 rfl rfl 5 (by decide) (hts (.fieldLink RX10 43 "CardHolder" "rows" "LCardHolder$Rows;") (by decide +kernel)) (fun _ h9 => h9) rfl dX10_row_1 ?_
  refine lv_iload_n hx hb dX10_row_4 rfl (lv_at hl 1 rfl) ?_
  refine ro_calli (va_runV (As := [.int p0]) (rest := []) ⟨hx, hb, hml, hown, hts⟩ (e_X6_isSlot l G ct a69 a70 a75 a76 n69_3 p0) (cwV 1 hts gX10_row_X6_isSlot rfl rfl rfl (by decide +kernel) ⟨Nat.le_of_ble_eq_true rfl, Nat.le_of_ble_eq_true rfl⟩) (ro_preV 6 0 hK (hP.sub [1] rfl) rfl rfl) rfl rfl hl.1 rfl (lv_room (Nat.le_of_ble_eq_true rfl)) dX10_row_5 ⟨Nat.zero_le _, Nat.zero_le _⟩) hS hP (fun r5 H locs wr5 hP hS => ?_)
  obtain ⟨p_1, p_2, p_3, -⟩ := wr5
  refine lv_if_eq (tgt := 26) hx hb dX10_row_8 (by decide) (fun c8 => ?_) (fun c8 => ?_)
  · have h_4 : rg 0 0 r5 := r_eq_l_i (e := 0) (f := 0) c8 p_1 (rgn 0 (x := 0) (by decide)) (by decide)
    refine lv_bipush (v := (-2)) hx hb dX10_row_26 (by decide) ?_
    exact W.iret (v := (-2)) hx hb hr (fun t ht hW => ⟨⟨(-2), (fun k => ([n69_3] : List Int32).getD k 0, fun k => ([f75, f76] : List (Nat → Int32)).getD k (fun _ => 0), fun k => ([f71, f72, f73, f74] : List (Nat → Int64)).getD k (fun _ => 0)), rfl, ⟨(rg_w (c := (-3)) (d := 0) (rgn (-2) (x := (-2)) (by decide)) (by decide)), (fun hq => absurd hq (rne (rgn (-2) (x := (-2)) (by decide)) (y := 0) (c := 0) (by decide) (by decide))), (fun hq => absurd (req (rgn (-2) (x := (-2)) (by decide)) (y := (-2)) (by decide)) hq), (fun hq => absurd hq (rne (rgn (-2) (x := (-2)) (by decide)) (y := 0) (c := 0) (by decide) (by decide))), (fun hq => absurd (req (rgn (-2) (x := (-2)) (by decide)) (y := (-2)) (by decide)) hq), (fun hq => absurd hq (rne (rgn (-2) (x := (-2)) (by decide)) (y := 0) (c := 0) (by decide) (by decide))), (fun hq => absurd (req (rgn (-2) (x := (-2)) (by decide)) (y := (-2)) (by decide)) hq), hp_f76, (by show (-2) = rwA p0 p1 p2; unfold rwA; have h8 := p_3 (req h_4 (y := 0) (by decide)); (repeat' split) <;> first | rfl | (exfalso; omega)), trivial⟩, hp_at ht hP⟩, hS.F ht⟩) hS.2.2 dX10_row_28
  · have h_5 : rg 1 1 r5 := r_ne_lo_i c8 p_1 (by decide) (by decide)
    have h_6 : rg 0 3 p0 := (p_2 (rne h_5 (y := 0) (c := 0) (by decide) (by decide)))
    refine lv_iload_n hx hb dX10_row_11 rfl (lv_at hl 2 rfl) ?_
    refine lv_if_lt (tgt := 26) hx hb dX10_row_12 (by decide) (fun c12 => ?_) (fun c12 => ?_)
    · have h_7 : rg (-2147483648) (-1) p1 := r_lt_l_i c12 (rg_t p1) (rgn 0 (x := 0) (by decide)) (by decide)
      refine lv_bipush (v := (-2)) hx hb dX10_row_26 (by decide) ?_
      exact W.iret (v := (-2)) hx hb hr (fun t ht hW => ⟨⟨(-2), (fun k => ([n69_3] : List Int32).getD k 0, fun k => ([f75, f76] : List (Nat → Int32)).getD k (fun _ => 0), fun k => ([f71, f72, f73, f74] : List (Nat → Int64)).getD k (fun _ => 0)), rfl, ⟨(rg_w (c := (-3)) (d := 0) (rgn (-2) (x := (-2)) (by decide)) (by decide)), (fun _ => h_6), (fun _ => h_6), (fun hq => absurd hq (rne (rgn (-2) (x := (-2)) (by decide)) (y := 0) (c := 0) (by decide) (by decide))), (fun hq => absurd (req (rgn (-2) (x := (-2)) (by decide)) (y := (-2)) (by decide)) hq), (fun hq => absurd hq (rne (rgn (-2) (x := (-2)) (by decide)) (y := 0) (c := 0) (by decide) (by decide))), (fun hq => absurd (req (rgn (-2) (x := (-2)) (by decide)) (y := (-2)) (by decide)) hq), hp_f76, (by show (-2) = rwA p0 p1 p2; unfold rwA; have := h_6; have := h_7; (repeat' split) <;> first | rfl | (exfalso; omega)), trivial⟩, hp_at ht hP⟩, hS.F ht⟩) hS.2.2 dX10_row_28
    · have h_8 : rg 0 2147483647 p1 := r_le_r_i (nlt_i c12) (rgn 0 (x := 0) (by decide)) (rg_t p1)
      refine lv_iload_n hx hb dX10_row_15 rfl (lv_at hl 2 rfl) ?_
      refine lv_iconst (v := 3) hx hb dX10_row_16 (by decide) ?_
      refine lv_icmp_gt (tgt := 26) hx hb dX10_row_17 (by decide) (fun c17 => ?_) (fun c17 => ?_)
      · have h_9 : rg 4 2147483647 p1 := r_lt_r_i c17 (rgn 3 (x := 3) (by decide)) h_8 (by decide)
        refine lv_bipush (v := (-2)) hx hb dX10_row_26 (by decide) ?_
        exact W.iret (v := (-2)) hx hb hr (fun t ht hW => ⟨⟨(-2), (fun k => ([n69_3] : List Int32).getD k 0, fun k => ([f75, f76] : List (Nat → Int32)).getD k (fun _ => 0), fun k => ([f71, f72, f73, f74] : List (Nat → Int64)).getD k (fun _ => 0)), rfl, ⟨(rg_w (c := (-3)) (d := 0) (rgn (-2) (x := (-2)) (by decide)) (by decide)), (fun _ => h_6), (fun _ => h_6), (fun hq => absurd hq (rne (rgn (-2) (x := (-2)) (by decide)) (y := 0) (c := 0) (by decide) (by decide))), (fun hq => absurd (req (rgn (-2) (x := (-2)) (by decide)) (y := (-2)) (by decide)) hq), (fun hq => absurd hq (rne (rgn (-2) (x := (-2)) (by decide)) (y := 0) (c := 0) (by decide) (by decide))), (fun hq => absurd (req (rgn (-2) (x := (-2)) (by decide)) (y := (-2)) (by decide)) hq), hp_f76, (by show (-2) = rwA p0 p1 p2; unfold rwA; have := h_6; have := h_9; (repeat' split) <;> first | rfl | (exfalso; omega)), trivial⟩, hp_at ht hP⟩, hS.F ht⟩) hS.2.2 dX10_row_28
      · have h_10 : rg 0 3 p1 := r_le_l_i (nlt_i c17) h_8 (rgn 3 (x := 3) (by decide))
        refine lv_iload_n hx hb dX10_row_20 rfl (lv_at hl 3 rfl) ?_
        refine lv_bipush (v := 60) hx hb dX10_row_21 (by decide) ?_
        refine lv_icmp_le (tgt := 29) hx hb dX10_row_23 (by decide) (fun c23 => ?_) (fun c23 => ?_)
        · have h_11 : rg (-2147483648) 60 p2 := r_le_l_i c23 (rg_t p2) (rgn 60 (x := 60) (by decide))
          refine lv_iload_n hx hb dX10_row_29 rfl (lv_at hl 3 rfl) ?_
          refine lv_if_ge (tgt := 36) hx hb dX10_row_30 (by decide) (fun c30 => ?_) (fun c30 => ?_)
          · have h_12 : rg 0 60 p2 := r_le_r_i c30 (rgn 0 (x := 0) (by decide)) h_11
            refine lv_aload_n hx hb dX10_row_36 rfl (lv_at hl 0 rfl) ?_
            refine va_get (D := G) (ci := 10) (v := .ref a69) (C := RX10) (T := TX10) (N := 11) hx hb hts (by decide +kernel) hown hK.1 hP 0 rfl rfl 5 (by decide) (hts (.fieldLink RX10 43 "CardHolder" "rows" "LCardHolder$Rows;") (by decide +kernel)) (fun _ h9 => h9) rfl dX10_row_37 ?_
            refine lv_iload_n hx hb dX10_row_40 rfl (lv_at hl 1 rfl) ?_
            refine lv_iload_n hx hb dX10_row_41 rfl (lv_at hl 2 rfl) ?_
            refine lv_iload_n hx hb dX10_row_42 rfl (lv_at hl 3 rfl) ?_
            refine wj_callv (wr := [(a0, .inr (10, [.ref a1, .ref a3, .ref a11, .ref a25, .ref a68, .ref a69, .ref a77, .ref a82, .ref a84, .ref a88, .ref a91]))]) (w1 := (fun u : SU => [(a69, .inr (6, [.ref a70, .ref a75, .ref a76, .int (u.1 0)])), (a70, .inl (ct 5, 4, .inr (.inr (.inr (.inr (fun i => if i < 4 then some (rr i) else none)))))), ((rr 0), .inl (ct 3, 60, .inr (.inl (u.2.2 0)))), ((rr 1), .inl (ct 3, 60, .inr (.inl (u.2.2 1)))), ((rr 2), .inl (ct 3, 60, .inr (.inl (u.2.2 2)))), ((rr 3), .inl (ct 3, 60, .inr (.inl (u.2.2 3)))), (a75, .inl (ct 0, 4, .inl (u.2.1 0))), (a76, .inl (ct 0, 4, .inl (u.2.1 1)))])) (va_runV (As := [.int p0, .int p1, .int p2]) (rest := []) ⟨hx, hb, hml, hown, hts⟩ (a_X6_make l G ct a69 a70 a75 a76 n69_3 rr f71 f72 f73 f74 f75 f76 p0 p1 p2 hp_f76 h_12) (cwV 3 hts gX10_row_X6_make rfl rfl rfl (by decide +kernel) ⟨Nat.le_of_ble_eq_true rfl, Nat.le_of_ble_eq_true rfl⟩) (wr_preV 6 0 hK (hP.sub [1, 2, 3, 4, 5, 6, 7, 8] rfl) (hD.sub [1, 2, 3, 4, 5, 6, 7, 8] (by decide) rfl) rfl rfl) rfl rfl hl.1 rfl (lv_room (Nat.le_of_ble_eq_true rfl)) dX10_row_43 ⟨Nat.zero_le _, Nat.zero_le _⟩) hS hP hD [1, 2, 3, 4, 5, 6, 7, 8] [0] rfl rfl (by decide) (fun _ => rfl) (fun ur43 H locs wr43 hP hD hS => ?_)
            have hP : va_P G vwCl [(a0, .inr (10, [.ref a1, .ref a3, .ref a11, .ref a25, .ref a68, .ref a69, .ref a77, .ref a82, .ref a84, .ref a88, .ref a91])), (a69, .inr (6, [.ref a70, .ref a75, .ref a76, .int (ur43.1 0)])), (a70, .inl (ct 5, 4, .inr (.inr (.inr (.inr (fun i => if i < 4 then some (rr i) else none)))))), ((rr 0), .inl (ct 3, 60, .inr (.inl (ur43.2.2 0)))), ((rr 1), .inl (ct 3, 60, .inr (.inl (ur43.2.2 1)))), ((rr 2), .inl (ct 3, 60, .inr (.inl (ur43.2.2 2)))), ((rr 3), .inl (ct 3, 60, .inr (.inl (ur43.2.2 3)))), (a75, .inl (ct 0, 4, .inl (ur43.2.1 0))), (a76, .inl (ct 0, 4, .inl (ur43.2.1 1)))] H := hP.sub [0, 1, 2, 3, 4, 5, 6, 7, 8] rfl
            have hD : va_D A [(a0, .inr (10, [.ref a1, .ref a3, .ref a11, .ref a25, .ref a68, .ref a69, .ref a77, .ref a82, .ref a84, .ref a88, .ref a91])), (a69, .inr (6, [.ref a70, .ref a75, .ref a76, .int (ur43.1 0)])), (a70, .inl (ct 5, 4, .inr (.inr (.inr (.inr (fun i => if i < 4 then some (rr i) else none)))))), ((rr 0), .inl (ct 3, 60, .inr (.inl (ur43.2.2 0)))), ((rr 1), .inl (ct 3, 60, .inr (.inl (ur43.2.2 1)))), ((rr 2), .inl (ct 3, 60, .inr (.inl (ur43.2.2 2)))), ((rr 3), .inl (ct 3, 60, .inr (.inl (ur43.2.2 3)))), (a75, .inl (ct 0, 4, .inl (ur43.2.1 0))), (a76, .inl (ct 0, 4, .inl (ur43.2.1 1)))] := hD.sub [0, 1, 2, 3, 4, 5, 6, 7, 8] (by decide) rfl
            obtain ⟨p_13, -⟩ := wr43
            refine lv_iconst (v := 0) hx hb dX10_row_46 (by decide) ?_
            exact W.iret (v := 0) hx hb hr (fun t ht hW => ⟨⟨0, (fun k => ([ur43.1 0] : List Int32).getD k 0, fun k => ([ur43.2.1 0, ur43.2.1 1] : List (Nat → Int32)).getD k (fun _ => 0), fun k => ([ur43.2.2 0, ur43.2.2 1, ur43.2.2 2, ur43.2.2 3] : List (Nat → Int64)).getD k (fun _ => 0)), rfl, ⟨(rg_w (c := (-3)) (d := 0) (rgn 0 (x := 0) (by decide)) (by decide)), (fun _ => h_6), (fun _ => h_6), (fun _ => h_10), (fun _ => h_10), (fun _ => h_12), (fun _ => (rg_w (c := (-2147483648)) (d := 60) h_12 (by decide))), p_13, (by show 0 = rwA p0 p1 p2; unfold rwA; have := h_6; have := h_10; have := h_12; (repeat' split) <;> first | rfl | (exfalso; omega)), trivial⟩, hp_at ht hP⟩, hS.F ht⟩) hS.2.2 dX10_row_47
          · have h_14 : rg (-2147483648) (-1) p2 := r_lt_l_i (nle_i c30) h_11 (rgn 0 (x := 0) (by decide)) (by decide)
            refine lv_bipush (v := (-3)) hx hb dX10_row_33 (by decide) ?_
            exact W.iret (v := (-3)) hx hb hr (fun t ht hW => ⟨⟨(-3), (fun k => ([n69_3] : List Int32).getD k 0, fun k => ([f75, f76] : List (Nat → Int32)).getD k (fun _ => 0), fun k => ([f71, f72, f73, f74] : List (Nat → Int64)).getD k (fun _ => 0)), rfl, ⟨(rg_w (c := (-3)) (d := 0) (rgn (-3) (x := (-3)) (by decide)) (by decide)), (fun _ => h_6), (fun _ => h_6), (fun _ => h_10), (fun _ => h_10), (fun hq => absurd hq (rne (rgn (-3) (x := (-3)) (by decide)) (y := 0) (c := 0) (by decide) (by decide))), (fun _ => (rg_w (c := (-2147483648)) (d := 60) h_14 (by decide))), hp_f76, (by show (-3) = rwA p0 p1 p2; unfold rwA; have := h_6; have := h_10; have := h_14; (repeat' split) <;> first | rfl | (exfalso; omega)), trivial⟩, hp_at ht hP⟩, hS.F ht⟩) hS.2.2 dX10_row_35
        · have h_15 : rg 61 2147483647 p2 := r_lt_r_i (nle_i c23) (rgn 60 (x := 60) (by decide)) (rg_t p2) (by decide)
          refine lv_bipush (v := (-2)) hx hb dX10_row_26 (by decide) ?_
          exact W.iret (v := (-2)) hx hb hr (fun t ht hW => ⟨⟨(-2), (fun k => ([n69_3] : List Int32).getD k 0, fun k => ([f75, f76] : List (Nat → Int32)).getD k (fun _ => 0), fun k => ([f71, f72, f73, f74] : List (Nat → Int64)).getD k (fun _ => 0)), rfl, ⟨(rg_w (c := (-3)) (d := 0) (rgn (-2) (x := (-2)) (by decide)) (by decide)), (fun _ => h_6), (fun _ => h_6), (fun _ => h_10), (fun _ => h_10), (fun hq => absurd hq (rne (rgn (-2) (x := (-2)) (by decide)) (y := 0) (c := 0) (by decide) (by decide))), (fun hq => absurd (req (rgn (-2) (x := (-2)) (by decide)) (y := (-2)) (by decide)) hq), hp_f76, (by show (-2) = rwA p0 p1 p2; unfold rwA; have := h_6; have := h_10; have := h_15; (repeat' split) <;> first | rfl | (exfalso; omega)), trivial⟩, hp_at ht hP⟩, hS.F ht⟩) hS.2.2 dX10_row_28

set_option maxHeartbeats 4000000 in
set_option maxRecDepth 100000 in
theorem e_X11_row (l : Launch) (G : va_G) (ct : Nat → ClassId) (a0 : Nat) (n0_0 : Int32) (a1 : Nat) (a2 : Nat) (a3 : Nat) (a4 : Nat) (a5 : Nat) (n0_6 : Int32) (n0_7 : Int32) (n0_8 : Int32) (n0_9 : Int32) (n0_10 : Int32) (l0_11 : Int64) (n0_12 : Int32) (n0_13 : Int32) (n0_14 : Int32) (n0_15 : Int32) (a6 : Nat) (a7 : Nat) (a8 : Nat) (a9 : Nat) (a10 : Nat) (a11 : Nat) (a12 : Nat) (a13 : Nat) (n0_24 : Int32) (n0_25 : Int32) (n0_26 : Int32) (n0_27 : Int32) (a14 : Nat) (n0_29 : Int32) (n0_30 : Int32) (f1 : Nat → Int32) (f2 : Nat → Int32) (f3 : Nat → Int64) (p0 : Int32) (p1 : Int32) (p2 : Int32) (hp_f2 : ar 0 60 f2) (hp_n0_6 : rg 0 900 n0_6) : Met l yX11_row wsX11_row ({ frames := 2, cells := 0, slots := 0, locals := 45 }) (va_Pc [.ref a0, .int p0, .int p1, .int p2] (wrP G ct [(a0, .inr (11, [.int n0_0, .ref a1, .ref a2, .ref a3, .ref a4, .ref a5, .int n0_6, .int n0_7, .int n0_8, .int n0_9, .int n0_10, .long l0_11, .int n0_12, .int n0_13, .int n0_14, .int n0_15, .ref a6, .ref a7, .ref a8, .ref a9, .ref a10, .ref a11, .ref a12, .ref a13, .int n0_24, .int n0_25, .int n0_26, .int n0_27, .ref a14, .int n0_29, .int n0_30])), (a1, .inl (ct 0, 4, .inl f1)), (a2, .inl (ct 0, 4, .inl f2)), (a3, .inl (ct 3, 240, .inr (.inl f3)))])) (va_Qi (fun (r : Int32) (u : SU) => rg (-3) 0 r ∧ (r = 0 → rg 0 3 p0) ∧ (¬ r = (-2) → rg 0 3 p0) ∧ (r = 0 → rg 0 3 p1) ∧ (¬ r = (-2) → rg 0 3 p1) ∧ (r = 0 → rg 0 60 p2) ∧ (¬ r = (-2) → rg (-2147483648) 60 p2) ∧ ar 0 60 (u.2.1 1) ∧ rg 0 0 (u.1 0) ∧ r = rwA p0 p1 p2 ∧ True) (fun u t => va_P G vwCl ((fun u : SU => [(a0, .inr (11, [.int (u.1 0), .ref a1, .ref a2, .ref a3, .ref a4, .ref a5, .int n0_6, .int n0_7, .int n0_8, .int n0_9, .int n0_10, .long l0_11, .int n0_12, .int n0_13, .int n0_14, .int n0_15, .ref a6, .ref a7, .ref a8, .ref a9, .ref a10, .ref a11, .ref a12, .ref a13, .int n0_24, .int n0_25, .int n0_26, .int n0_27, .ref a14, .int n0_29, .int n0_30])), (a1, .inl (ct 0, 4, .inl (u.2.1 0))), (a2, .inl (ct 0, 4, .inl (u.2.1 1))), (a3, .inl (ct 3, 240, .inr (.inl (u.2.2 0))))]) u) t.heap) (aset [(a0, .inr (11, [.int n0_0, .ref a1, .ref a2, .ref a3, .ref a4, .ref a5, .int n0_6, .int n0_7, .int n0_8, .int n0_9, .int n0_10, .long l0_11, .int n0_12, .int n0_13, .int n0_14, .int n0_15, .ref a6, .ref a7, .ref a8, .ref a9, .ref a10, .ref a11, .ref a12, .ref a13, .int n0_24, .int n0_25, .int n0_26, .int n0_27, .ref a14, .int n0_29, .int n0_30])), (a1, .inl (ct 0, 4, .inl f1)), (a2, .inl (ct 0, 4, .inl f2)), (a3, .inl (ct 3, 240, .inr (.inl f3)))])) 0 0 (aset [(a0, .inr (11, [.int n0_0, .ref a1, .ref a2, .ref a3, .ref a4, .ref a5, .int n0_6, .int n0_7, .int n0_8, .int n0_9, .int n0_10, .long l0_11, .int n0_12, .int n0_13, .int n0_14, .int n0_15, .ref a6, .ref a7, .ref a8, .ref a9, .ref a10, .ref a11, .ref a12, .ref a13, .int n0_24, .int n0_25, .int n0_26, .int n0_27, .ref a14, .int n0_29, .int n0_30])), (a1, .inl (ct 0, 4, .inl f1)), (a2, .inl (ct 0, 4, .inl f2)), (a3, .inl (ct 3, 240, .inr (.inl f3)))]) := by
  refine Met.ofW (cc := cX11_row) (maxL := 5) (ret := (some .int)) (by decide) rfl ?_
  intro p e s m args below meth c s₁ B hml hv
  obtain ⟨rfl, hP, hK, hD0⟩ := hv
  have hx := B.exec
  have hb := B.bytes
  have hr := B.returns
  have hts := atoms_spec (ws := wsX11_row) B.pre
  have hown : s.vm.findClass RX11 = some m.cls := findClass_of_methodNamed B.named
  have hlocks := B.notSynchronized
  have hD := hD0.aself
  generalize hAe : aset [(a0, .inr (11, [.int n0_0, .ref a1, .ref a2, .ref a3, .ref a4, .ref a5, .int n0_6, .int n0_7, .int n0_8, .int n0_9, .int n0_10, .long l0_11, .int n0_12, .int n0_13, .int n0_14, .int n0_15, .ref a6, .ref a7, .ref a8, .ref a9, .ref a10, .ref a11, .ref a12, .ref a13, .int n0_24, .int n0_25, .int n0_26, .int n0_27, .ref a14, .int n0_29, .int n0_30])), (a1, .inl (ct 0, 4, .inl f1)), (a2, .inl (ct 0, 4, .inl f2)), (a3, .inl (ct 3, 240, .inr (.inl f3)))] = A at hD ⊢
  have hS : va_S A s.heap s.heap [] := va_S.rf
  have hl := lv_entry ([.ref a0, .int p0, .int p1, .int p2]) (n := 5) (Nat.le_of_ble_eq_true rfl)
  rw [lg_entry_eq]
  generalize (lg_sl ([.ref a0, .int p0, .int p1, .int p2]) ++ List.replicate (5 - (lg_sl ([.ref a0, .int p0, .int p1, .int p2])).length) Slot.unset).toArray = ls at hl ⊢
  have hl : lv_has ls 5 [(0, .ref a0), (1, .int p0), (2, .int p1), (3, .int p2)] := hl
  refine lv_aload_n hx hb dX11_row_0 rfl (lv_at hl 0 rfl) ?_
  refine lv_iconst (v := 0) hx hb dX11_row_1 (by decide) ?_
  refine va_put (D := G) (ci := 11) (v := .int 0) (ty := .int) (C := RX11) (T := TX11) (N := 31) hx hb hts (by decide +kernel) tyX11 tyX11_ok nmX11 hown hK.1 hP hD hS 0 rfl rfl 0 (by decide) (hts (.fieldLink RX11 59 "CardHolderModel" "thrown" "I") (by decide +kernel)) (fun _ h9 => h9) rfl (by decide +kernel) rfl rfl (Nat.le_of_ble_eq_true rfl) dX11_row_2 (fun H locs hP hD hS => ?_)
  refine lv_iload_n hx hb dX11_row_5 rfl (lv_at hl 1 rfl) ?_
  refine ro_calli (va_runS (As := [.int p0]) (rest := []) ⟨hx, hb, hml, hown, hts⟩ (e_X11_isSlot l G ct p0) (va_cwS 1 hts gX11_row_X11_isSlot rfl rfl rfl (by decide +kernel) ⟨Nat.le_of_ble_eq_true rfl, Nat.le_of_ble_eq_true rfl⟩) (ro_pre hK (hP.sub [] rfl)) rfl rfl hl.1 rfl (lv_room (Nat.le_of_ble_eq_true rfl)) dX11_row_6 ⟨Nat.zero_le _, Nat.zero_le _⟩) hS hP (fun r6 H locs wr6 hP hS => ?_)
  obtain ⟨p_1, p_2, p_3, -⟩ := wr6
  refine lv_if_eq (tgt := 30) hx hb dX11_row_9 (by decide) (fun c9 => ?_) (fun c9 => ?_)
  · have h_4 : rg 0 0 r6 := r_eq_l_i (e := 0) (f := 0) c9 p_1 (rgn 0 (x := 0) (by decide)) (by decide)
    refine lv_bipush (v := (-2)) hx hb dX11_row_30 (by decide) ?_
    exact W.iret (v := (-2)) hx hb hr (fun t ht hW => ⟨⟨(-2), (fun k => ([0] : List Int32).getD k 0, fun k => ([f1, f2] : List (Nat → Int32)).getD k (fun _ => 0), fun k => ([f3] : List (Nat → Int64)).getD k (fun _ => 0)), rfl, ⟨(rg_w (c := (-3)) (d := 0) (rgn (-2) (x := (-2)) (by decide)) (by decide)), (fun hq => absurd hq (rne (rgn (-2) (x := (-2)) (by decide)) (y := 0) (c := 0) (by decide) (by decide))), (fun hq => absurd (req (rgn (-2) (x := (-2)) (by decide)) (y := (-2)) (by decide)) hq), (fun hq => absurd hq (rne (rgn (-2) (x := (-2)) (by decide)) (y := 0) (c := 0) (by decide) (by decide))), (fun hq => absurd (req (rgn (-2) (x := (-2)) (by decide)) (y := (-2)) (by decide)) hq), (fun hq => absurd hq (rne (rgn (-2) (x := (-2)) (by decide)) (y := 0) (c := 0) (by decide) (by decide))), (fun hq => absurd (req (rgn (-2) (x := (-2)) (by decide)) (y := (-2)) (by decide)) hq), hp_f2, (rgn 0 (x := 0) (by decide)), (by show (-2) = rwA p0 p1 p2; unfold rwA; have h8 := p_3 (req h_4 (y := 0) (by decide)); (repeat' split) <;> first | rfl | (exfalso; omega)), trivial⟩, hp_at ht hP⟩, hS.F ht⟩) hS.2.2 dX11_row_32
  · have h_5 : rg 1 1 r6 := r_ne_lo_i c9 p_1 (by decide) (by decide)
    have h_6 : rg 0 3 p0 := (p_2 (rne h_5 (y := 0) (c := 0) (by decide) (by decide)))
    refine lv_iload_n hx hb dX11_row_12 rfl (lv_at hl 2 rfl) ?_
    refine lv_i2l hx hb dX11_row_13 rfl ?_
    refine nl_i2l (rg_t p1) (fun z13 hz13 ez13 => ?_)
    refine lv_lconst (v := 0) hx hb dX11_row_14 (by decide) ?_
    refine lv_ldc2 (own := RX11) (v := 3) hx hb hown (hts (.constantLong RX11 62 (3)) (by decide +kernel)) dX11_row_15 ?_
    refine ro_calli (va_runS (As := [.long z13, .long 0, .long 3]) (rest := []) ⟨hx, hb, hml, hown, hts⟩ (e_X11_in l G ct z13 (0 : Int64) (3 : Int64)) (va_cwS 3 hts gX11_row_X11_in rfl rfl rfl (by decide +kernel) ⟨Nat.le_of_ble_eq_true rfl, Nat.le_of_ble_eq_true rfl⟩) (ro_pre hK (hP.sub [] rfl)) rfl rfl hl.1 rfl (lv_room (Nat.le_of_ble_eq_true rfl)) dX11_row_18 ⟨Nat.zero_le _, Nat.zero_le _⟩) hS hP (fun r18 H locs wr18 hP hS => ?_)
    obtain ⟨p_7, p_8, p_9, -⟩ := wr18
    refine lv_if_eq (tgt := 30) hx hb dX11_row_21 (by decide) (fun c21 => ?_) (fun c21 => ?_)
    · have h_10 : rg 0 0 r18 := r_eq_l_i (e := 0) (f := 0) c21 p_7 (rgn 0 (x := 0) (by decide)) (by decide)
      refine lv_bipush (v := (-2)) hx hb dX11_row_30 (by decide) ?_
      exact W.iret (v := (-2)) hx hb hr (fun t ht hW => ⟨⟨(-2), (fun k => ([0] : List Int32).getD k 0, fun k => ([f1, f2] : List (Nat → Int32)).getD k (fun _ => 0), fun k => ([f3] : List (Nat → Int64)).getD k (fun _ => 0)), rfl, ⟨(rg_w (c := (-3)) (d := 0) (rgn (-2) (x := (-2)) (by decide)) (by decide)), (fun _ => h_6), (fun _ => h_6), (fun hq => absurd hq (rne (rgn (-2) (x := (-2)) (by decide)) (y := 0) (c := 0) (by decide) (by decide))), (fun hq => absurd (req (rgn (-2) (x := (-2)) (by decide)) (y := (-2)) (by decide)) hq), (fun hq => absurd hq (rne (rgn (-2) (x := (-2)) (by decide)) (y := 0) (c := 0) (by decide) (by decide))), (fun hq => absurd (req (rgn (-2) (x := (-2)) (by decide)) (y := (-2)) (by decide)) hq), hp_f2, (rgn 0 (x := 0) (by decide)), (by show (-2) = rwA p0 p1 p2; unfold rwA; have h9 := p_9 (req h_10 (y := 0) (by decide)); have := ez13; have : (0 : Int64).toInt = 0 := (by decide); have : (3 : Int64).toInt = 3 := (by decide); have := h_6; (repeat' split) <;> first | rfl | (exfalso; omega)), trivial⟩, hp_at ht hP⟩, hS.F ht⟩) hS.2.2 dX11_row_32
    · have h_11 : rg 1 1 r18 := r_ne_lo_i c21 p_7 (by decide) (by decide)
      have h_12 : rl 0 3 z13 := ((fun hq => in_im (p_8 hq) (rln 0 (x := 0) (by decide)) (rln 3 (x := 3) (by decide))) (rne h_11 (y := 0) (c := 0) (by decide) (by decide)))
      have h_13 : rg 0 3 p1 := bk_li (a := 0) (b := 3) ez13 h_12 (rg_t p1) (by decide)
      refine lv_iload_n hx hb dX11_row_24 rfl (lv_at hl 3 rfl) ?_
      refine lv_bipush (v := 60) hx hb dX11_row_25 (by decide) ?_
      refine lv_icmp_le (tgt := 33) hx hb dX11_row_27 (by decide) (fun c27 => ?_) (fun c27 => ?_)
      · have h_14 : rg (-2147483648) 60 p2 := r_le_l_i c27 (rg_t p2) (rgn 60 (x := 60) (by decide))
        refine lv_iload_n hx hb dX11_row_33 rfl (lv_at hl 3 rfl) ?_
        refine lv_if_ge (tgt := 40) hx hb dX11_row_34 (by decide) (fun c34 => ?_) (fun c34 => ?_)
        · have h_15 : rg 0 60 p2 := r_le_r_i c34 (rgn 0 (x := 0) (by decide)) h_14
          refine lv_aload_n hx hb dX11_row_40 rfl (lv_at hl 0 rfl) ?_
          refine va_get (D := G) (ci := 11) (v := .ref a1) (C := RX11) (T := TX11) (N := 31) hx hb hts (by decide +kernel) hown hK.1 hP 0 rfl rfl 1 (by decide) (hts (.fieldLink RX11 7 "CardHolderModel" "width" "[I") (by decide +kernel)) (fun _ h9 => h9) rfl dX11_row_41 ?_
          refine lv_iload_n hx hb dX11_row_44 rfl (lv_at hl 1 rfl) ?_
          refine lv_iload_n hx hb dX11_row_45 rfl (lv_at hl 2 rfl) ?_
          refine va_iast hx hb hK.1 hP hD hS 1 0 rfl rfl (in_rg h_6 (by decide)) dX11_row_46 (fun H locs hP hD hS => ?_)
          refine lv_aload_n hx hb dX11_row_47 rfl (lv_at hl 0 rfl) ?_
          refine va_get (D := G) (ci := 11) (v := .ref a2) (C := RX11) (T := TX11) (N := 31) hx hb hts (by decide +kernel) hown hK.1 hP 0 rfl rfl 2 (by decide) (hts (.fieldLink RX11 13 "CardHolderModel" "many" "[I") (by decide +kernel)) (fun _ h9 => h9) rfl dX11_row_48 ?_
          refine lv_iload_n hx hb dX11_row_51 rfl (lv_at hl 1 rfl) ?_
          refine lv_iload_n hx hb dX11_row_52 rfl (lv_at hl 3 rfl) ?_
          refine va_iast hx hb hK.1 hP hD hS 2 0 rfl rfl (in_rg h_6 (by decide)) dX11_row_53 (fun H locs hP hD hS => ?_)
          have h_16 : ar 0 60 (upd f2 p0.toNatClampNeg p2) := ar_u hp_f2 h_15
          refine lv_iconst (v := 0) hx hb dX11_row_54 (by decide) ?_
          refine lv_istore (lv' := [(4, .int 0), (0, .ref a0), (1, .int p0), (2, .int p1), (3, .int p2)]) hx hb dX11_row_55 hl (by decide) rfl (fun ls hl => ?_)
          have j57 : ∀ (n : Nat) (x57_4 : Int32) (f57_3 : Nat → Int64) (H : Heap) (locs : List Loc) (ls : Array Slot), 2147483648 ≤ x57_4.toInt + (n : Int) → rg 0 60 x57_4 → va_P G vwCl [(a0, .inr (11, [.int 0, .ref a1, .ref a2, .ref a3, .ref a4, .ref a5, .int n0_6, .int n0_7, .int n0_8, .int n0_9, .int n0_10, .long l0_11, .int n0_12, .int n0_13, .int n0_14, .int n0_15, .ref a6, .ref a7, .ref a8, .ref a9, .ref a10, .ref a11, .ref a12, .ref a13, .int n0_24, .int n0_25, .int n0_26, .int n0_27, .ref a14, .int n0_29, .int n0_30])), (a1, .inl (ct 0, 4, .inl (upd f1 p0.toNatClampNeg p1))), (a2, .inl (ct 0, 4, .inl (upd f2 p0.toNatClampNeg p2))), (a3, .inl (ct 3, 240, .inr (.inl f57_3)))] H → va_D A [(a0, .inr (11, [.int 0, .ref a1, .ref a2, .ref a3, .ref a4, .ref a5, .int n0_6, .int n0_7, .int n0_8, .int n0_9, .int n0_10, .long l0_11, .int n0_12, .int n0_13, .int n0_14, .int n0_15, .ref a6, .ref a7, .ref a8, .ref a9, .ref a10, .ref a11, .ref a12, .ref a13, .int n0_24, .int n0_25, .int n0_26, .int n0_27, .ref a14, .int n0_29, .int n0_30])), (a1, .inl (ct 0, 4, .inl (upd f1 p0.toNatClampNeg p1))), (a2, .inl (ct 0, 4, .inl (upd f2 p0.toNatClampNeg p2))), (a3, .inl (ct 3, 240, .inr (.inl f57_3)))] → va_S A s.heap H locs → lv_has ls 5 [(0, .ref a0), (1, .int p0), (2, .int p1), (3, .int p2), (4, .int x57_4)] → W p l e (headSpec wsX11_row ({ frames := 2, cells := 0, slots := 0, locals := 45 })).room s m ([.ref a0, .int p0, .int p1, .int p2] : List Value).toArray below meth c H locs 0 0 (MQ below (va_Qi (fun (r : Int32) (u : SU) => rg (-3) 0 r ∧ (r = 0 → rg 0 3 p0) ∧ (¬ r = (-2) → rg 0 3 p0) ∧ (r = 0 → rg 0 3 p1) ∧ (¬ r = (-2) → rg 0 3 p1) ∧ (r = 0 → rg 0 60 p2) ∧ (¬ r = (-2) → rg (-2147483648) 60 p2) ∧ ar 0 60 (u.2.1 1) ∧ rg 0 0 (u.1 0) ∧ r = rwA p0 p1 p2 ∧ True) (fun u t => va_P G vwCl ((fun u : SU => [(a0, .inr (11, [.int (u.1 0), .ref a1, .ref a2, .ref a3, .ref a4, .ref a5, .int n0_6, .int n0_7, .int n0_8, .int n0_9, .int n0_10, .long l0_11, .int n0_12, .int n0_13, .int n0_14, .int n0_15, .ref a6, .ref a7, .ref a8, .ref a9, .ref a10, .ref a11, .ref a12, .ref a13, .int n0_24, .int n0_25, .int n0_26, .int n0_27, .ref a14, .int n0_29, .int n0_30])), (a1, .inl (ct 0, 4, .inl (u.2.1 0))), (a2, .inl (ct 0, 4, .inl (u.2.1 1))), (a3, .inl (ct 3, 240, .inr (.inl (u.2.2 0))))]) u) t.heap) A) ([.ref a0, .int p0, .int p1, .int p2] : List Value).toArray s 0 0 A) (F0 m 57 ls []) := by
            intro n
            induction n with
            | zero => intro x57_4 f57_3 H locs ls hn57 hx57_4 hP hD hS hl; exact absurd hn57 (by have := Int32.toInt_lt x57_4; have := Int32.le_toInt x57_4; omega)
            | succ n ih57 =>
              intro x57_4 f57_3 H locs ls hn57 hx57_4 hP hD hS hl
              refine lv_iload hx hb dX11_row_57 (lv_at hl 4 rfl) ?_
              refine lv_iload_n hx hb dX11_row_59 rfl (lv_at hl 3 rfl) ?_
              refine lv_icmp_ge (tgt := 82) hx hb dX11_row_60 (by decide) (fun c60 => ?_) (fun c60 => ?_)
              · refine lv_iconst (v := 0) hx hb dX11_row_82 (by decide) ?_
                exact W.iret (v := 0) hx hb hr (fun t ht hW => ⟨⟨0, (fun k => ([0] : List Int32).getD k 0, fun k => ([upd f1 p0.toNatClampNeg p1, upd f2 p0.toNatClampNeg p2] : List (Nat → Int32)).getD k (fun _ => 0), fun k => ([f57_3] : List (Nat → Int64)).getD k (fun _ => 0)), rfl, ⟨(rg_w (c := (-3)) (d := 0) (rgn 0 (x := 0) (by decide)) (by decide)), (fun _ => h_6), (fun _ => h_6), (fun _ => h_13), (fun _ => h_13), (fun _ => h_15), (fun _ => (rg_w (c := (-2147483648)) (d := 60) h_15 (by decide))), h_16, (rgn 0 (x := 0) (by decide)), (by show 0 = rwA p0 p1 p2; unfold rwA; have := h_6; have := h_13; have := h_15; (repeat' split) <;> first | rfl | (exfalso; omega)), trivial⟩, hp_at ht hP⟩, hS.F ht⟩) hS.2.2 dX11_row_83
              · have h_17 : rg 0 59 x57_4 := r_lt_l_i (nle_i c60) hx57_4 h_15 (by decide)
                have h_18 : rg 1 60 p2 := r_lt_r_i (nle_i c60) hx57_4 h_15 (by decide)
                refine lv_aload_n hx hb dX11_row_63 rfl (lv_at hl 0 rfl) ?_
                refine va_get (D := G) (ci := 11) (v := .ref a3) (C := RX11) (T := TX11) (N := 31) hx hb hts (by decide +kernel) hown hK.1 hP 0 rfl rfl 3 (by decide) (hts (.fieldLink RX11 16 "CardHolderModel" "cells" "[J") (by decide +kernel)) (fun _ h9 => h9) rfl dX11_row_64 ?_
                refine lv_bipush (v := 60) hx hb dX11_row_67 (by decide) ?_
                refine lv_iload_n hx hb dX11_row_69 rfl (lv_at hl 1 rfl) ?_
                refine lv_imul hx hb dX11_row_70 ?_
                refine nm_mul (e1 := 0) (f := 180) (rgn 60 (x := 60) (by decide)) h_6 (by decide) (fun z70 hz70 ez70 => ?_)
                refine lv_iload hx hb dX11_row_71 (lv_at hl 4 rfl) ?_
                refine lv_iadd hx hb dX11_row_73 ?_
                refine nm_add (e1 := 0) (f := 239) hz70 h_17 (by decide) (fun z73 hz73 ez73 => ?_)
                refine lv_lconst (v := 0) hx hb dX11_row_74 (by decide) ?_
                refine va_last hx hb hK.1 hP hD hS 3 3 rfl rfl (in_rg hz73 (by decide)) dX11_row_75 (fun H locs hP hD hS => ?_)
                obtain ⟨z76, qz76⟩ : ∃ y : Int32, y = x57_4 + Int32.ofInt 1 := ⟨_, rfl⟩
                obtain ⟨hz76, ez76⟩ := inc_z (e := 1) (f := 60) h_17 qz76 (by decide)
                refine lv_iinc (v := z76) (lv' := [(4, .int z76), (0, .ref a0), (1, .int p0), (2, .int p1), (3, .int p2)]) hx hb dX11_row_76 hl (k := 4) rfl (qz76.symm) (by decide) rfl (fun ls hl => ?_)
                refine lv_goto (tgt := 57) hx hb dX11_row_79 (by decide) ?_
                exact ih57 z76 (vp_updL f57_3 z73.toNatClampNeg 0) _ _ ls (by have q := hn57; have := ez76; omega) (rg_w (c := 0) (d := 60) hz76 (by decide)) hP hD hS (lv_sub hl [1, 2, 3, 4, 0] rfl)
          exact j57 4294967296 (0 : Int32) f3 _ _ ls (ms_e (0 : Int32)) (rg_w (c := 0) (d := 60) (rgn 0 (x := 0) (by decide)) (by decide)) hP hD hS (lv_sub hl [1, 2, 3, 4, 0] rfl)
        · have h_19 : rg (-2147483648) (-1) p2 := r_lt_l_i (nle_i c34) h_14 (rgn 0 (x := 0) (by decide)) (by decide)
          refine lv_bipush (v := (-3)) hx hb dX11_row_37 (by decide) ?_
          exact W.iret (v := (-3)) hx hb hr (fun t ht hW => ⟨⟨(-3), (fun k => ([0] : List Int32).getD k 0, fun k => ([f1, f2] : List (Nat → Int32)).getD k (fun _ => 0), fun k => ([f3] : List (Nat → Int64)).getD k (fun _ => 0)), rfl, ⟨(rg_w (c := (-3)) (d := 0) (rgn (-3) (x := (-3)) (by decide)) (by decide)), (fun _ => h_6), (fun _ => h_6), (fun _ => h_13), (fun _ => h_13), (fun hq => absurd hq (rne (rgn (-3) (x := (-3)) (by decide)) (y := 0) (c := 0) (by decide) (by decide))), (fun _ => (rg_w (c := (-2147483648)) (d := 60) h_19 (by decide))), hp_f2, (rgn 0 (x := 0) (by decide)), (by show (-3) = rwA p0 p1 p2; unfold rwA; have := h_6; have := h_13; have := h_19; (repeat' split) <;> first | rfl | (exfalso; omega)), trivial⟩, hp_at ht hP⟩, hS.F ht⟩) hS.2.2 dX11_row_39
      · have h_20 : rg 61 2147483647 p2 := r_lt_r_i (nle_i c27) (rgn 60 (x := 60) (by decide)) (rg_t p2) (by decide)
        refine lv_bipush (v := (-2)) hx hb dX11_row_30 (by decide) ?_
        exact W.iret (v := (-2)) hx hb hr (fun t ht hW => ⟨⟨(-2), (fun k => ([0] : List Int32).getD k 0, fun k => ([f1, f2] : List (Nat → Int32)).getD k (fun _ => 0), fun k => ([f3] : List (Nat → Int64)).getD k (fun _ => 0)), rfl, ⟨(rg_w (c := (-3)) (d := 0) (rgn (-2) (x := (-2)) (by decide)) (by decide)), (fun _ => h_6), (fun _ => h_6), (fun _ => h_13), (fun _ => h_13), (fun hq => absurd hq (rne (rgn (-2) (x := (-2)) (by decide)) (y := 0) (c := 0) (by decide) (by decide))), (fun hq => absurd (req (rgn (-2) (x := (-2)) (by decide)) (y := (-2)) (by decide)) hq), hp_f2, (rgn 0 (x := 0) (by decide)), (by show (-2) = rwA p0 p1 p2; unfold rwA; have := h_6; have := h_13; have := h_20; (repeat' split) <;> first | rfl | (exfalso; omega)), trivial⟩, hp_at ht hP⟩, hS.F ht⟩) hS.2.2 dX11_row_32

