theorem dX8_hasRoomFor_0 : decode cX8_hasRoomFor 0 = .ok (.aload_n 0, 1) := by decide +kernel
theorem dX8_hasRoomFor_1 : decode cX8_hasRoomFor 1 = .ok (.getfield 15, 3) := by decide +kernel
theorem dX8_hasRoomFor_4 : decode cX8_hasRoomFor 4 = .ok (.iload_n 1, 1) := by decide +kernel
theorem dX8_hasRoomFor_5 : decode cX8_hasRoomFor 5 = .ok (.iadd, 1) := by decide +kernel
theorem dX8_hasRoomFor_6 : decode cX8_hasRoomFor 6 = .ok (.sipush 900, 3) := by decide +kernel
theorem dX8_hasRoomFor_9 : decode cX8_hasRoomFor 9 = .ok (.if_icmp .gt 7, 3) := by decide +kernel
theorem dX8_hasRoomFor_16 : decode cX8_hasRoomFor 16 = .ok (.iconst 0, 1) := by decide +kernel
theorem dX8_hasRoomFor_17 : decode cX8_hasRoomFor 17 = .ok (.ireturn, 1) := by decide +kernel
theorem dX8_hasRoomFor_12 : decode cX8_hasRoomFor 12 = .ok (.iconst 1, 1) := by decide +kernel
theorem dX8_hasRoomFor_13 : decode cX8_hasRoomFor 13 = .ok (.goto 4, 3) := by decide +kernel
theorem dX8_add_0 : decode cX8_add 0 = .ok (.aload_n 0, 1) := by decide +kernel
theorem dX8_add_1 : decode cX8_add 1 = .ok (.iconst 4, 1) := by decide +kernel
set_option maxRecDepth 20000 in
theorem ggX8_add_X8_hasRoomFor : GoodIn wsX8_add wsX8_hasRoomFor := goodIn_r _ [7, 2, 8, 9] (by rfl) (by decide +kernel)
set_option maxRecDepth 20000 in
theorem gX8_add_X8_hasRoomFor : GoodIn wsX8_add (wsV RX8 19 RX8 yX8_hasRoomFor wsX8_hasRoomFor) := goodIn_app (goodIn_r _ [3, 4, 5, 6] (by rfl) (by decide +kernel)) ggX8_add_X8_hasRoomFor
theorem dX8_add_2 : decode cX8_add 2 = .ok (.invokevirtual 19, 3) := by decide +kernel
theorem dX8_add_5 : decode cX8_add 5 = .ok (.ifCond .ne 4, 3) := by decide +kernel
theorem dX8_add_9 : decode cX8_add 9 = .ok (.bipush 24, 2) := by decide +kernel
theorem dX8_add_11 : decode cX8_add 11 = .ok (.istore_n 2, 1) := by decide +kernel
theorem dX8_add_12 : decode cX8_add 12 = .ok (.iload_n 2, 1) := by decide +kernel
theorem dX8_add_13 : decode cX8_add 13 = .ok (.ifCond .lt 32, 3) := by decide +kernel
theorem dX8_add_16 : decode cX8_add 16 = .ok (.aload_n 0, 1) := by decide +kernel
theorem dX8_add_17 : decode cX8_add 17 = .ok (.getfield 9, 3) := by decide +kernel
theorem dX8_add_20 : decode cX8_add 20 = .ok (.aload_n 0, 1) := by decide +kernel
theorem dX8_add_21 : decode cX8_add 21 = .ok (.getfield 15, 3) := by decide +kernel
theorem dX8_add_24 : decode cX8_add 24 = .ok (.iload_n 1, 1) := by decide +kernel
theorem dX8_add_25 : decode cX8_add 25 = .ok (.iload_n 2, 1) := by decide +kernel
theorem dX8_add_26 : decode cX8_add 26 = .ok (.iushr, 1) := by decide +kernel
theorem dX8_add_27 : decode cX8_add 27 = .ok (.i2b, 1) := by decide +kernel
theorem dX8_add_28 : decode cX8_add 28 = .ok (.bastore, 1) := by decide +kernel
theorem dX8_add_29 : decode cX8_add 29 = .ok (.aload_n 0, 1) := by decide +kernel
theorem dX8_add_30 : decode cX8_add 30 = .ok (.dup, 1) := by decide +kernel
theorem dX8_add_31 : decode cX8_add 31 = .ok (.getfield 15, 3) := by decide +kernel
theorem dX8_add_34 : decode cX8_add 34 = .ok (.iconst 1, 1) := by decide +kernel
theorem dX8_add_35 : decode cX8_add 35 = .ok (.iadd, 1) := by decide +kernel
theorem dX8_add_36 : decode cX8_add 36 = .ok (.putfield 15, 3) := by decide +kernel
theorem dX8_add_39 : decode cX8_add 39 = .ok (.iinc 2 (-8), 3) := by decide +kernel
theorem dX8_add_42 : decode cX8_add 42 = .ok (.goto (-30), 3) := by decide +kernel
theorem dX8_add_45 : decode cX8_add 45 = .ok (.return_, 1) := by decide +kernel
theorem dX8_add_8 : decode cX8_add 8 = .ok (.return_, 1) := by decide +kernel
theorem dX8_cutTo_0 : decode cX8_cutTo 0 = .ok (.iload_n 1, 1) := by decide +kernel
theorem dX8_cutTo_1 : decode cX8_cutTo 1 = .ok (.ifCond .lt 11, 3) := by decide +kernel
theorem dX8_cutTo_12 : decode cX8_cutTo 12 = .ok (.iconst 0, 1) := by decide +kernel
theorem dX8_cutTo_13 : decode cX8_cutTo 13 = .ok (.ireturn, 1) := by decide +kernel
theorem dX8_cutTo_4 : decode cX8_cutTo 4 = .ok (.iload_n 1, 1) := by decide +kernel
theorem dX8_cutTo_5 : decode cX8_cutTo 5 = .ok (.aload_n 0, 1) := by decide +kernel
theorem dX8_cutTo_6 : decode cX8_cutTo 6 = .ok (.getfield 15, 3) := by decide +kernel
theorem dX8_cutTo_9 : decode cX8_cutTo 9 = .ok (.if_icmp .le 5, 3) := by decide +kernel
theorem dX8_cutTo_14 : decode cX8_cutTo 14 = .ok (.aload_n 0, 1) := by decide +kernel
theorem dX8_cutTo_15 : decode cX8_cutTo 15 = .ok (.iload_n 1, 1) := by decide +kernel
theorem dX8_cutTo_16 : decode cX8_cutTo 16 = .ok (.putfield 15, 3) := by decide +kernel
theorem dX8_cutTo_19 : decode cX8_cutTo 19 = .ok (.iconst 1, 1) := by decide +kernel
theorem dX8_cutTo_20 : decode cX8_cutTo 20 = .ok (.ireturn, 1) := by decide +kernel
theorem dX8_at_0 : decode cX8_at 0 = .ok (.iload_n 1, 1) := by decide +kernel
theorem dX8_at_1 : decode cX8_at 1 = .ok (.ifCond .lt 24, 3) := by decide +kernel
theorem dX8_at_25 : decode cX8_at 25 = .ok (.iconst (-1), 1) := by decide +kernel
theorem dX8_at_26 : decode cX8_at 26 = .ok (.ireturn, 1) := by decide +kernel
theorem dX8_at_4 : decode cX8_at 4 = .ok (.iload_n 1, 1) := by decide +kernel
theorem dX8_at_5 : decode cX8_at 5 = .ok (.aload_n 0, 1) := by decide +kernel
theorem dX8_at_6 : decode cX8_at 6 = .ok (.getfield 15, 3) := by decide +kernel
theorem dX8_at_9 : decode cX8_at 9 = .ok (.if_icmp .ge 16, 3) := by decide +kernel
theorem dX8_at_12 : decode cX8_at 12 = .ok (.aload_n 0, 1) := by decide +kernel
theorem dX8_at_13 : decode cX8_at 13 = .ok (.getfield 9, 3) := by decide +kernel
theorem dX8_at_16 : decode cX8_at 16 = .ok (.iload_n 1, 1) := by decide +kernel
theorem dX8_at_17 : decode cX8_at 17 = .ok (.baload, 1) := by decide +kernel
theorem dX8_at_18 : decode cX8_at 18 = .ok (.sipush 255, 3) := by decide +kernel
theorem dX8_at_21 : decode cX8_at 21 = .ok (.iand, 1) := by decide +kernel
theorem dX8_at_22 : decode cX8_at 22 = .ok (.goto 4, 3) := by decide +kernel
set_option maxHeartbeats 4000000 in
set_option maxRecDepth 100000 in
theorem a_X8_hasRoomFor4 (l : Launch) (G : va_G) (ct : Nat → ClassId) (a0 : Nat) (a1 : Nat) (n0_1 : Int32) (hp_n0_1 : rg 0 900 n0_1) : Met l yX8_hasRoomFor wsX8_hasRoomFor ({ frames := 0, cells := 0, slots := 0, locals := 0 }) (va_Pc [.ref a0, .int 4] (roP G ct [(a0, .inr (8, [.ref a1, .int n0_1]))])) (roQ (fun r => rg 0 1 r ∧ (¬ r = 0 → rg 0 896 n0_1) ∧ (r = 0 → rg 897 900 n0_1) ∧ True)) 0 0 no := by
  refine Met.ofW (cc := cX8_hasRoomFor) (maxL := 2) (ret := (some .boolean)) (by decide) rfl ?_
  intro p e s m args below meth c s₁ B hml hv
  obtain ⟨rfl, hP, hK⟩ := hv
  have hx := B.exec
  have hb := B.bytes
  have hr := B.returns
  have hts := atoms_spec (ws := wsX8_hasRoomFor) B.pre
  have hown : s.vm.findClass RX8 = some m.cls := findClass_of_methodNamed B.named
  have hlocks := B.notSynchronized
  have hS : va_S no s.heap s.heap [] := va_S.rf
  have hl := lv_entry ([.ref a0, .int 4]) (n := 2) (Nat.le_of_ble_eq_true rfl)
  rw [lg_entry_eq]
  generalize (lg_sl ([.ref a0, .int 4]) ++ List.replicate (2 - (lg_sl ([.ref a0, .int 4])).length) Slot.unset).toArray = ls at hl ⊢
  have hl : lv_has ls 2 [(0, .ref a0), (1, .int 4)] := hl
  refine lv_aload_n hx hb dX8_hasRoomFor_0 rfl (lv_at hl 0 rfl) ?_
  refine va_get (D := G) (ci := 8) (v := .int n0_1) (C := RX8) (T := TX8) (N := 2) hx hb hts (by decide +kernel) hown hK.1 hP 0 rfl rfl 1 (by decide) (hts (.fieldLink RX8 15 "CardHolder$Tape" "size" "I") (by decide +kernel)) (fun _ h9 => h9) rfl dX8_hasRoomFor_1 ?_
  refine lv_iload_n hx hb dX8_hasRoomFor_4 rfl (lv_at hl 1 rfl) ?_
  refine lv_iadd hx hb dX8_hasRoomFor_5 ?_
  refine nm_add (e1 := 4) (f := 904) hp_n0_1 (rgn 4 (x := 4) (by decide)) (by decide) (fun z5 hz5 ez5 => ?_)
  replace ez5 := eqc_r ez5 (c := 4) (by decide)
  refine lv_sipush (v := 900) hx hb dX8_hasRoomFor_6 (by decide) ?_
  refine lv_icmp_gt (tgt := 16) hx hb dX8_hasRoomFor_9 (by decide) (fun c9 => ?_) (fun c9 => ?_)
  · have h_1 : rg 901 904 z5 := r_lt_r_i c9 (rgn 900 (x := 900) (by decide)) hz5 (by decide)
    have h_2 : rg 897 900 n0_1 := bk_i (a := 897) (b := 900) ez5 h_1 hp_n0_1 (by decide)
    refine lv_iconst (v := 0) hx hb dX8_hasRoomFor_16 (by decide) ?_
    exact W.zret (v := 0) (ty := .boolean) hx hb hr (rfl) (fun t ht hW => ⟨⟨0, (), rfl, ⟨(rg_w (c := 0) (d := 1) (rgn 0 (x := 0) (by decide)) (by decide)), (fun hq => absurd (req (rgn 0 (x := 0) (by decide)) (y := 0) (by decide)) hq), (fun _ => h_2), trivial⟩, trivial⟩, hS.F ht⟩) hS.2.2 dX8_hasRoomFor_17
  · have h_3 : rg 4 900 z5 := r_le_l_i (nlt_i c9) hz5 (rgn 900 (x := 900) (by decide))
    have h_4 : rg 0 896 n0_1 := bk_i (a := 0) (b := 896) ez5 h_3 hp_n0_1 (by decide)
    refine lv_iconst (v := 1) hx hb dX8_hasRoomFor_12 (by decide) ?_
    refine lv_goto (tgt := 17) hx hb dX8_hasRoomFor_13 (by decide) ?_
    exact W.zret (v := 1) (ty := .boolean) hx hb hr (rfl) (fun t ht hW => ⟨⟨1, (), rfl, ⟨(rg_w (c := 0) (d := 1) (rgn 1 (x := 1) (by decide)) (by decide)), (fun _ => h_4), (fun hq => absurd hq (rne (rgn 1 (x := 1) (by decide)) (y := 0) (c := 0) (by decide) (by decide))), trivial⟩, trivial⟩, hS.F ht⟩) hS.2.2 dX8_hasRoomFor_17

set_option maxHeartbeats 4000000 in
set_option maxRecDepth 100000 in
theorem a_X8_hasRoomFor20 (l : Launch) (G : va_G) (ct : Nat → ClassId) (a0 : Nat) (a1 : Nat) (n0_1 : Int32) (hp_n0_1 : rg 0 900 n0_1) : Met l yX8_hasRoomFor wsX8_hasRoomFor ({ frames := 0, cells := 0, slots := 0, locals := 0 }) (va_Pc [.ref a0, .int 20] (roP G ct [(a0, .inr (8, [.ref a1, .int n0_1]))])) (roQ (fun r => rg 0 1 r ∧ (¬ r = 0 → rg 0 880 n0_1) ∧ (r = 0 → rg 881 900 n0_1) ∧ True)) 0 0 no := by
  refine Met.ofW (cc := cX8_hasRoomFor) (maxL := 2) (ret := (some .boolean)) (by decide) rfl ?_
  intro p e s m args below meth c s₁ B hml hv
  obtain ⟨rfl, hP, hK⟩ := hv
  have hx := B.exec
  have hb := B.bytes
  have hr := B.returns
  have hts := atoms_spec (ws := wsX8_hasRoomFor) B.pre
  have hown : s.vm.findClass RX8 = some m.cls := findClass_of_methodNamed B.named
  have hlocks := B.notSynchronized
  have hS : va_S no s.heap s.heap [] := va_S.rf
  have hl := lv_entry ([.ref a0, .int 20]) (n := 2) (Nat.le_of_ble_eq_true rfl)
  rw [lg_entry_eq]
  generalize (lg_sl ([.ref a0, .int 20]) ++ List.replicate (2 - (lg_sl ([.ref a0, .int 20])).length) Slot.unset).toArray = ls at hl ⊢
  have hl : lv_has ls 2 [(0, .ref a0), (1, .int 20)] := hl
  refine lv_aload_n hx hb dX8_hasRoomFor_0 rfl (lv_at hl 0 rfl) ?_
  refine va_get (D := G) (ci := 8) (v := .int n0_1) (C := RX8) (T := TX8) (N := 2) hx hb hts (by decide +kernel) hown hK.1 hP 0 rfl rfl 1 (by decide) (hts (.fieldLink RX8 15 "CardHolder$Tape" "size" "I") (by decide +kernel)) (fun _ h9 => h9) rfl dX8_hasRoomFor_1 ?_
  refine lv_iload_n hx hb dX8_hasRoomFor_4 rfl (lv_at hl 1 rfl) ?_
  refine lv_iadd hx hb dX8_hasRoomFor_5 ?_
  refine nm_add (e1 := 20) (f := 920) hp_n0_1 (rgn 20 (x := 20) (by decide)) (by decide) (fun z5 hz5 ez5 => ?_)
  replace ez5 := eqc_r ez5 (c := 20) (by decide)
  refine lv_sipush (v := 900) hx hb dX8_hasRoomFor_6 (by decide) ?_
  refine lv_icmp_gt (tgt := 16) hx hb dX8_hasRoomFor_9 (by decide) (fun c9 => ?_) (fun c9 => ?_)
  · have h_1 : rg 901 920 z5 := r_lt_r_i c9 (rgn 900 (x := 900) (by decide)) hz5 (by decide)
    have h_2 : rg 881 900 n0_1 := bk_i (a := 881) (b := 900) ez5 h_1 hp_n0_1 (by decide)
    refine lv_iconst (v := 0) hx hb dX8_hasRoomFor_16 (by decide) ?_
    exact W.zret (v := 0) (ty := .boolean) hx hb hr (rfl) (fun t ht hW => ⟨⟨0, (), rfl, ⟨(rg_w (c := 0) (d := 1) (rgn 0 (x := 0) (by decide)) (by decide)), (fun hq => absurd (req (rgn 0 (x := 0) (by decide)) (y := 0) (by decide)) hq), (fun _ => h_2), trivial⟩, trivial⟩, hS.F ht⟩) hS.2.2 dX8_hasRoomFor_17
  · have h_3 : rg 20 900 z5 := r_le_l_i (nlt_i c9) hz5 (rgn 900 (x := 900) (by decide))
    have h_4 : rg 0 880 n0_1 := bk_i (a := 0) (b := 880) ez5 h_3 hp_n0_1 (by decide)
    refine lv_iconst (v := 1) hx hb dX8_hasRoomFor_12 (by decide) ?_
    refine lv_goto (tgt := 17) hx hb dX8_hasRoomFor_13 (by decide) ?_
    exact W.zret (v := 1) (ty := .boolean) hx hb hr (rfl) (fun t ht hW => ⟨⟨1, (), rfl, ⟨(rg_w (c := 0) (d := 1) (rgn 1 (x := 1) (by decide)) (by decide)), (fun _ => h_4), (fun hq => absurd hq (rne (rgn 1 (x := 1) (by decide)) (y := 0) (c := 0) (by decide) (by decide))), trivial⟩, trivial⟩, hS.F ht⟩) hS.2.2 dX8_hasRoomFor_17

set_option maxHeartbeats 4000000 in
set_option maxRecDepth 100000 in
theorem a_X8_add (l : Launch) (G : va_G) (ct : Nat → ClassId) (a0 : Nat) (a1 : Nat) (n0_1 : Int32) (f1 : Nat → Int32) (p0 : Int32) (hp_n0_1 : rg 0 900 n0_1) : Met l yX8_add wsX8_add ({ frames := 1, cells := 0, slots := 0, locals := 21 }) (va_Pc [.ref a0, .int p0] (wrP G ct [(a0, .inr (8, [.ref a1, .int n0_1])), (a1, .inl (ct 1, 900, .inl f1))])) (va_Qv (fun u : SU => rg 4 900 (u.1 0) ∧ True) (fun u t => va_P G vwCl ((fun u : SU => [(a0, .inr (8, [.ref a1, .int (u.1 0)])), (a1, .inl (ct 1, 900, .inl (u.2.1 0)))]) u) t.heap) (aset [(a0, .inr (8, [.ref a1, .int n0_1])), (a1, .inl (ct 1, 900, .inl f1))])) 0 0 (aset [(a0, .inr (8, [.ref a1, .int n0_1])), (a1, .inl (ct 1, 900, .inl f1))]) := by
  refine Met.ofW (cc := cX8_add) (maxL := 3) (ret := none) (by decide) rfl ?_
  intro p e s m args below meth c s₁ B hml hv
  obtain ⟨rfl, hP, hK, hD0⟩ := hv
  have hx := B.exec
  have hb := B.bytes
  have hr := B.returns
  have hts := atoms_spec (ws := wsX8_add) B.pre
  have hown : s.vm.findClass RX8 = some m.cls := findClass_of_methodNamed B.named
  have hlocks := B.notSynchronized
  have hD := hD0.aself
  generalize hAe : aset [(a0, .inr (8, [.ref a1, .int n0_1])), (a1, .inl (ct 1, 900, .inl f1))] = A at hD ⊢
  have hS : va_S A s.heap s.heap [] := va_S.rf
  have hl := lv_entry ([.ref a0, .int p0]) (n := 3) (Nat.le_of_ble_eq_true rfl)
  rw [lg_entry_eq]
  generalize (lg_sl ([.ref a0, .int p0]) ++ List.replicate (3 - (lg_sl ([.ref a0, .int p0])).length) Slot.unset).toArray = ls at hl ⊢
  have hl : lv_has ls 3 [(0, .ref a0), (1, .int p0)] := hl
  refine lv_aload_n hx hb dX8_add_0 rfl (lv_at hl 0 rfl) ?_
  refine lv_iconst (v := 4) hx hb dX8_add_1 (by decide) ?_
  refine ro_calli (va_runV (As := [.int 4]) (rest := []) ⟨hx, hb, hml, hown, hts⟩ (a_X8_hasRoomFor4 l G ct a0 a1 n0_1 hp_n0_1) (cwV 1 hts gX8_add_X8_hasRoomFor rfl rfl rfl (by decide +kernel) ⟨Nat.le_of_ble_eq_true rfl, Nat.le_of_ble_eq_true rfl⟩) (ro_preV 8 0 hK (hP.sub [0] rfl) rfl rfl) rfl rfl hl.1 rfl (lv_room (Nat.le_of_ble_eq_true rfl)) dX8_add_2 ⟨Nat.zero_le _, Nat.zero_le _⟩) hS hP (fun r2 H locs wr2 hP hS => ?_)
  obtain ⟨p_1, p_2, p_3, -⟩ := wr2
  refine lv_if_ne (tgt := 9) hx hb dX8_add_5 (by decide) (fun c5 => ?_) (fun c5 => ?_)
  · have h_4 : rg 1 1 r2 := r_ne_lo_i c5 p_1 (by decide) (by decide)
    have h_5 : rg 0 896 n0_1 := (p_2 (rne h_4 (y := 0) (c := 0) (by decide) (by decide)))
    refine lv_bipush (v := 24) hx hb dX8_add_9 (by decide) ?_
    refine lv_istore_n (lv' := [(2, .int 24), (0, .ref a0), (1, .int p0)]) hx hb dX8_add_11 rfl hl (by decide) rfl (fun ls hl => ?_)
    refine lv_iload_n hx hb dX8_add_12 rfl (lv_at hl 0 rfl) ?_
    refine lv_if_lt (tgt := 45) hx hb dX8_add_13 (by decide) (fun c13 => ?_) (fun c13 => ?_)
    · exact absurd c13 (by decide)
    · refine lv_aload_n hx hb dX8_add_16 rfl (lv_at hl 1 rfl) ?_
      refine va_get (D := G) (ci := 8) (v := .ref a1) (C := RX8) (T := TX8) (N := 2) hx hb hts (by decide +kernel) hown hK.1 hP 0 rfl rfl 0 (by decide) (hts (.fieldLink RX8 9 "CardHolder$Tape" "bytes" "[B") (by decide +kernel)) (fun _ h9 => h9) rfl dX8_add_17 ?_
      refine lv_aload_n hx hb dX8_add_20 rfl (lv_at hl 1 rfl) ?_
      refine va_get (D := G) (ci := 8) (v := .int n0_1) (C := RX8) (T := TX8) (N := 2) hx hb hts (by decide +kernel) hown hK.1 hP 0 rfl rfl 1 (by decide) (hts (.fieldLink RX8 15 "CardHolder$Tape" "size" "I") (by decide +kernel)) (fun _ h9 => h9) rfl dX8_add_21 ?_
      refine lv_iload_n hx hb dX8_add_24 rfl (lv_at hl 2 rfl) ?_
      refine lv_iload_n hx hb dX8_add_25 rfl (lv_at hl 0 rfl) ?_
      refine lv_iushr hx hb dX8_add_26 rfl ?_
      refine nm_0 (fun z26 => ?_)
      refine lv_i2b hx hb dX8_add_27 rfl ?_
      refine nm_0 (fun z27 => ?_)
      refine va_bast hx hb hK.1 hP hD hS 1 1 rfl rfl (in_rg h_5 (by decide)) dX8_add_28 (fun H locs hP hD hS => ?_)
      refine lv_aload_n hx hb dX8_add_29 rfl (lv_at hl 1 rfl) ?_
      refine lv_dup hx hb dX8_add_30 rfl ?_
      refine va_get (D := G) (ci := 8) (v := .int n0_1) (C := RX8) (T := TX8) (N := 2) hx hb hts (by decide +kernel) hown hK.1 hP 0 rfl rfl 1 (by decide) (hts (.fieldLink RX8 15 "CardHolder$Tape" "size" "I") (by decide +kernel)) (fun _ h9 => h9) rfl dX8_add_31 ?_
      refine lv_iconst (v := 1) hx hb dX8_add_34 (by decide) ?_
      refine lv_iadd hx hb dX8_add_35 ?_
      refine nm_add (e1 := 1) (f := 897) h_5 (rgn 1 (x := 1) (by decide)) (by decide) (fun z35 hz35 ez35 => ?_)
      replace ez35 := eqc_r ez35 (c := 1) (by decide)
      refine va_put (D := G) (ci := 8) (v := .int z35) (ty := .int) (C := RX8) (T := TX8) (N := 2) hx hb hts (by decide +kernel) tyX8 tyX8_ok nmX8 hown hK.1 hP hD hS 0 rfl rfl 1 (by decide) (hts (.fieldLink RX8 15 "CardHolder$Tape" "size" "I") (by decide +kernel)) (fun _ h9 => h9) rfl (by decide +kernel) rfl rfl (Nat.le_of_ble_eq_true rfl) dX8_add_36 (fun H locs hP hD hS => ?_)
      refine lv_iinc (v := 16) (lv' := [(2, .int 16), (0, .ref a0), (1, .int p0)]) hx hb dX8_add_39 hl (k := 0) rfl (by decide) (by decide) rfl (fun ls hl => ?_)
      refine lv_goto (tgt := 12) hx hb dX8_add_42 (by decide) ?_
      refine lv_iload_n hx hb dX8_add_12 rfl (lv_at hl 0 rfl) ?_
      refine lv_if_lt (tgt := 45) hx hb dX8_add_13 (by decide) (fun c13_2 => ?_) (fun c13_2 => ?_)
      · exact absurd c13_2 (by decide)
      · refine lv_aload_n hx hb dX8_add_16 rfl (lv_at hl 1 rfl) ?_
        refine va_get (D := G) (ci := 8) (v := .ref a1) (C := RX8) (T := TX8) (N := 2) hx hb hts (by decide +kernel) hown hK.1 hP 0 rfl rfl 0 (by decide) (hts (.fieldLink RX8 9 "CardHolder$Tape" "bytes" "[B") (by decide +kernel)) (fun _ h9 => h9) rfl dX8_add_17 ?_
        refine lv_aload_n hx hb dX8_add_20 rfl (lv_at hl 1 rfl) ?_
        refine va_get (D := G) (ci := 8) (v := .int z35) (C := RX8) (T := TX8) (N := 2) hx hb hts (by decide +kernel) hown hK.1 hP 0 rfl rfl 1 (by decide) (hts (.fieldLink RX8 15 "CardHolder$Tape" "size" "I") (by decide +kernel)) (fun _ h9 => h9) rfl dX8_add_21 ?_
        refine lv_iload_n hx hb dX8_add_24 rfl (lv_at hl 2 rfl) ?_
        refine lv_iload_n hx hb dX8_add_25 rfl (lv_at hl 0 rfl) ?_
        refine lv_iushr hx hb dX8_add_26 rfl ?_
        refine nm_0 (fun z26_2 => ?_)
        refine lv_i2b hx hb dX8_add_27 rfl ?_
        refine nm_0 (fun z27_2 => ?_)
        refine va_bast hx hb hK.1 hP hD hS 1 1 rfl rfl (in_rg hz35 (by decide)) dX8_add_28 (fun H locs hP hD hS => ?_)
        refine lv_aload_n hx hb dX8_add_29 rfl (lv_at hl 1 rfl) ?_
        refine lv_dup hx hb dX8_add_30 rfl ?_
        refine va_get (D := G) (ci := 8) (v := .int z35) (C := RX8) (T := TX8) (N := 2) hx hb hts (by decide +kernel) hown hK.1 hP 0 rfl rfl 1 (by decide) (hts (.fieldLink RX8 15 "CardHolder$Tape" "size" "I") (by decide +kernel)) (fun _ h9 => h9) rfl dX8_add_31 ?_
        refine lv_iconst (v := 1) hx hb dX8_add_34 (by decide) ?_
        refine lv_iadd hx hb dX8_add_35 ?_
        refine nm_add (e1 := 2) (f := 898) hz35 (rgn 1 (x := 1) (by decide)) (by decide) (fun z35_2 hz35_2 ez35_2 => ?_)
        replace ez35_2 := eqc_r ez35_2 (c := 1) (by decide)
        refine va_put (D := G) (ci := 8) (v := .int z35_2) (ty := .int) (C := RX8) (T := TX8) (N := 2) hx hb hts (by decide +kernel) tyX8 tyX8_ok nmX8 hown hK.1 hP hD hS 0 rfl rfl 1 (by decide) (hts (.fieldLink RX8 15 "CardHolder$Tape" "size" "I") (by decide +kernel)) (fun _ h9 => h9) rfl (by decide +kernel) rfl rfl (Nat.le_of_ble_eq_true rfl) dX8_add_36 (fun H locs hP hD hS => ?_)
        refine lv_iinc (v := 8) (lv' := [(2, .int 8), (0, .ref a0), (1, .int p0)]) hx hb dX8_add_39 hl (k := 0) rfl (by decide) (by decide) rfl (fun ls hl => ?_)
        refine lv_goto (tgt := 12) hx hb dX8_add_42 (by decide) ?_
        refine lv_iload_n hx hb dX8_add_12 rfl (lv_at hl 0 rfl) ?_
        refine lv_if_lt (tgt := 45) hx hb dX8_add_13 (by decide) (fun c13_3 => ?_) (fun c13_3 => ?_)
        · exact absurd c13_3 (by decide)
        · refine lv_aload_n hx hb dX8_add_16 rfl (lv_at hl 1 rfl) ?_
          refine va_get (D := G) (ci := 8) (v := .ref a1) (C := RX8) (T := TX8) (N := 2) hx hb hts (by decide +kernel) hown hK.1 hP 0 rfl rfl 0 (by decide) (hts (.fieldLink RX8 9 "CardHolder$Tape" "bytes" "[B") (by decide +kernel)) (fun _ h9 => h9) rfl dX8_add_17 ?_
          refine lv_aload_n hx hb dX8_add_20 rfl (lv_at hl 1 rfl) ?_
          refine va_get (D := G) (ci := 8) (v := .int z35_2) (C := RX8) (T := TX8) (N := 2) hx hb hts (by decide +kernel) hown hK.1 hP 0 rfl rfl 1 (by decide) (hts (.fieldLink RX8 15 "CardHolder$Tape" "size" "I") (by decide +kernel)) (fun _ h9 => h9) rfl dX8_add_21 ?_
          refine lv_iload_n hx hb dX8_add_24 rfl (lv_at hl 2 rfl) ?_
          refine lv_iload_n hx hb dX8_add_25 rfl (lv_at hl 0 rfl) ?_
          refine lv_iushr hx hb dX8_add_26 rfl ?_
          refine nm_0 (fun z26_3 => ?_)
          refine lv_i2b hx hb dX8_add_27 rfl ?_
          refine nm_0 (fun z27_3 => ?_)
          refine va_bast hx hb hK.1 hP hD hS 1 1 rfl rfl (in_rg hz35_2 (by decide)) dX8_add_28 (fun H locs hP hD hS => ?_)
          refine lv_aload_n hx hb dX8_add_29 rfl (lv_at hl 1 rfl) ?_
          refine lv_dup hx hb dX8_add_30 rfl ?_
          refine va_get (D := G) (ci := 8) (v := .int z35_2) (C := RX8) (T := TX8) (N := 2) hx hb hts (by decide +kernel) hown hK.1 hP 0 rfl rfl 1 (by decide) (hts (.fieldLink RX8 15 "CardHolder$Tape" "size" "I") (by decide +kernel)) (fun _ h9 => h9) rfl dX8_add_31 ?_
          refine lv_iconst (v := 1) hx hb dX8_add_34 (by decide) ?_
          refine lv_iadd hx hb dX8_add_35 ?_
          refine nm_add (e1 := 3) (f := 899) hz35_2 (rgn 1 (x := 1) (by decide)) (by decide) (fun z35_3 hz35_3 ez35_3 => ?_)
          replace ez35_3 := eqc_r ez35_3 (c := 1) (by decide)
          refine va_put (D := G) (ci := 8) (v := .int z35_3) (ty := .int) (C := RX8) (T := TX8) (N := 2) hx hb hts (by decide +kernel) tyX8 tyX8_ok nmX8 hown hK.1 hP hD hS 0 rfl rfl 1 (by decide) (hts (.fieldLink RX8 15 "CardHolder$Tape" "size" "I") (by decide +kernel)) (fun _ h9 => h9) rfl (by decide +kernel) rfl rfl (Nat.le_of_ble_eq_true rfl) dX8_add_36 (fun H locs hP hD hS => ?_)
          refine lv_iinc (v := 0) (lv' := [(2, .int 0), (0, .ref a0), (1, .int p0)]) hx hb dX8_add_39 hl (k := 0) rfl (by decide) (by decide) rfl (fun ls hl => ?_)
          refine lv_goto (tgt := 12) hx hb dX8_add_42 (by decide) ?_
          refine lv_iload_n hx hb dX8_add_12 rfl (lv_at hl 0 rfl) ?_
          refine lv_if_lt (tgt := 45) hx hb dX8_add_13 (by decide) (fun c13_4 => ?_) (fun c13_4 => ?_)
          · exact absurd c13_4 (by decide)
          · refine lv_aload_n hx hb dX8_add_16 rfl (lv_at hl 1 rfl) ?_
            refine va_get (D := G) (ci := 8) (v := .ref a1) (C := RX8) (T := TX8) (N := 2) hx hb hts (by decide +kernel) hown hK.1 hP 0 rfl rfl 0 (by decide) (hts (.fieldLink RX8 9 "CardHolder$Tape" "bytes" "[B") (by decide +kernel)) (fun _ h9 => h9) rfl dX8_add_17 ?_
            refine lv_aload_n hx hb dX8_add_20 rfl (lv_at hl 1 rfl) ?_
            refine va_get (D := G) (ci := 8) (v := .int z35_3) (C := RX8) (T := TX8) (N := 2) hx hb hts (by decide +kernel) hown hK.1 hP 0 rfl rfl 1 (by decide) (hts (.fieldLink RX8 15 "CardHolder$Tape" "size" "I") (by decide +kernel)) (fun _ h9 => h9) rfl dX8_add_21 ?_
            refine lv_iload_n hx hb dX8_add_24 rfl (lv_at hl 2 rfl) ?_
            refine lv_iload_n hx hb dX8_add_25 rfl (lv_at hl 0 rfl) ?_
            refine lv_iushr hx hb dX8_add_26 rfl ?_
            refine nm_0 (fun z26_4 => ?_)
            refine lv_i2b hx hb dX8_add_27 rfl ?_
            refine nm_0 (fun z27_4 => ?_)
            refine va_bast hx hb hK.1 hP hD hS 1 1 rfl rfl (in_rg hz35_3 (by decide)) dX8_add_28 (fun H locs hP hD hS => ?_)
            refine lv_aload_n hx hb dX8_add_29 rfl (lv_at hl 1 rfl) ?_
            refine lv_dup hx hb dX8_add_30 rfl ?_
            refine va_get (D := G) (ci := 8) (v := .int z35_3) (C := RX8) (T := TX8) (N := 2) hx hb hts (by decide +kernel) hown hK.1 hP 0 rfl rfl 1 (by decide) (hts (.fieldLink RX8 15 "CardHolder$Tape" "size" "I") (by decide +kernel)) (fun _ h9 => h9) rfl dX8_add_31 ?_
            refine lv_iconst (v := 1) hx hb dX8_add_34 (by decide) ?_
            refine lv_iadd hx hb dX8_add_35 ?_
            refine nm_add (e1 := 4) (f := 900) hz35_3 (rgn 1 (x := 1) (by decide)) (by decide) (fun z35_4 hz35_4 ez35_4 => ?_)
            replace ez35_4 := eqc_r ez35_4 (c := 1) (by decide)
            refine va_put (D := G) (ci := 8) (v := .int z35_4) (ty := .int) (C := RX8) (T := TX8) (N := 2) hx hb hts (by decide +kernel) tyX8 tyX8_ok nmX8 hown hK.1 hP hD hS 0 rfl rfl 1 (by decide) (hts (.fieldLink RX8 15 "CardHolder$Tape" "size" "I") (by decide +kernel)) (fun _ h9 => h9) rfl (by decide +kernel) rfl rfl (Nat.le_of_ble_eq_true rfl) dX8_add_36 (fun H locs hP hD hS => ?_)
            refine lv_iinc (v := (-8)) (lv' := [(2, .int (-8)), (0, .ref a0), (1, .int p0)]) hx hb dX8_add_39 hl (k := 0) rfl (by decide) (by decide) rfl (fun ls hl => ?_)
            refine lv_goto (tgt := 12) hx hb dX8_add_42 (by decide) ?_
            refine lv_iload_n hx hb dX8_add_12 rfl (lv_at hl 0 rfl) ?_
            refine lv_if_lt (tgt := 45) hx hb dX8_add_13 (by decide) (fun c13_5 => ?_) (fun c13_5 => ?_)
            · exact W.vret hx hb hr (fun t ht hW => ⟨⟨(fun k => ([z35_4] : List Int32).getD k 0, fun k => ([upd (upd (upd (upd f1 n0_1.toNatClampNeg (vp_nar .byte z27)) z35.toNatClampNeg (vp_nar .byte z27_2)) z35_2.toNatClampNeg (vp_nar .byte z27_3)) z35_3.toNatClampNeg (vp_nar .byte z27_4)] : List (Nat → Int32)).getD k (fun _ => 0), fun k => ([] : List (Nat → Int64)).getD k (fun _ => 0)), rfl, ⟨hz35_4, trivial⟩, hp_at ht hP⟩, hS.F ht⟩) hS.2.2 dX8_add_45
            · exact absurd c13_5 (by decide)
  · have h_6 : rg 0 0 r2 := r_eq_l_i (e := 0) (f := 0) c5 p_1 (rgn 0 (x := 0) (by decide)) (by decide)
    have h_7 : rg 897 900 n0_1 := (p_3 (req h_6 (y := 0) (by decide)))
    exact W.vret hx hb hr (fun t ht hW => ⟨⟨(fun k => ([n0_1] : List Int32).getD k 0, fun k => ([f1] : List (Nat → Int32)).getD k (fun _ => 0), fun k => ([] : List (Nat → Int64)).getD k (fun _ => 0)), rfl, ⟨(rg_w (c := 4) (d := 900) h_7 (by decide)), trivial⟩, hp_at ht hP⟩, hS.F ht⟩) hS.2.2 dX8_add_8

set_option maxHeartbeats 4000000 in
set_option maxRecDepth 100000 in
theorem a_X8_cutTo (l : Launch) (G : va_G) (ct : Nat → ClassId) (a0 : Nat) (a1 : Nat) (n0_1 : Int32) (p0 : Int32) (hp_n0_1 : rg 0 900 n0_1) : Met l yX8_cutTo wsX8_cutTo ({ frames := 0, cells := 0, slots := 0, locals := 0 }) (va_Pc [.ref a0, .int p0] (wrP G ct [(a0, .inr (8, [.ref a1, .int n0_1]))])) (va_Qi (fun (r : Int32) (u : SU) => rg 0 1 r ∧ (¬ r = 0 → rg 0 900 p0) ∧ rg 0 900 (u.1 0) ∧ True) (fun u t => va_P G vwCl ((fun u : SU => [(a0, .inr (8, [.ref a1, .int (u.1 0)]))]) u) t.heap) (aset [(a0, .inr (8, [.ref a1, .int n0_1]))])) 0 0 (aset [(a0, .inr (8, [.ref a1, .int n0_1]))]) := by
  refine Met.ofW (cc := cX8_cutTo) (maxL := 2) (ret := (some .boolean)) (by decide) rfl ?_
  intro p e s m args below meth c s₁ B hml hv
  obtain ⟨rfl, hP, hK, hD0⟩ := hv
  have hx := B.exec
  have hb := B.bytes
  have hr := B.returns
  have hts := atoms_spec (ws := wsX8_cutTo) B.pre
  have hown : s.vm.findClass RX8 = some m.cls := findClass_of_methodNamed B.named
  have hlocks := B.notSynchronized
  have hD := hD0.aself
  generalize hAe : aset [(a0, .inr (8, [.ref a1, .int n0_1]))] = A at hD ⊢
  have hS : va_S A s.heap s.heap [] := va_S.rf
  have hl := lv_entry ([.ref a0, .int p0]) (n := 2) (Nat.le_of_ble_eq_true rfl)
  rw [lg_entry_eq]
  generalize (lg_sl ([.ref a0, .int p0]) ++ List.replicate (2 - (lg_sl ([.ref a0, .int p0])).length) Slot.unset).toArray = ls at hl ⊢
  have hl : lv_has ls 2 [(0, .ref a0), (1, .int p0)] := hl
  refine lv_iload_n hx hb dX8_cutTo_0 rfl (lv_at hl 1 rfl) ?_
  refine lv_if_lt (tgt := 12) hx hb dX8_cutTo_1 (by decide) (fun c1 => ?_) (fun c1 => ?_)
  · have h_1 : rg (-2147483648) (-1) p0 := r_lt_l_i c1 (rg_t p0) (rgn 0 (x := 0) (by decide)) (by decide)
    refine lv_iconst (v := 0) hx hb dX8_cutTo_12 (by decide) ?_
    exact W.zret (v := 0) (ty := .boolean) hx hb hr (rfl) (fun t ht hW => ⟨⟨0, (fun k => ([n0_1] : List Int32).getD k 0, fun k => ([] : List (Nat → Int32)).getD k (fun _ => 0), fun k => ([] : List (Nat → Int64)).getD k (fun _ => 0)), rfl, ⟨(rg_w (c := 0) (d := 1) (rgn 0 (x := 0) (by decide)) (by decide)), (fun hq => absurd (req (rgn 0 (x := 0) (by decide)) (y := 0) (by decide)) hq), hp_n0_1, trivial⟩, hp_at ht hP⟩, hS.F ht⟩) hS.2.2 dX8_cutTo_13
  · have h_2 : rg 0 2147483647 p0 := r_le_r_i (nlt_i c1) (rgn 0 (x := 0) (by decide)) (rg_t p0)
    refine lv_iload_n hx hb dX8_cutTo_4 rfl (lv_at hl 1 rfl) ?_
    refine lv_aload_n hx hb dX8_cutTo_5 rfl (lv_at hl 0 rfl) ?_
    refine va_get (D := G) (ci := 8) (v := .int n0_1) (C := RX8) (T := TX8) (N := 2) hx hb hts (by decide +kernel) hown hK.1 hP 0 rfl rfl 1 (by decide) (hts (.fieldLink RX8 15 "CardHolder$Tape" "size" "I") (by decide +kernel)) (fun _ h9 => h9) rfl dX8_cutTo_6 ?_
    refine lv_icmp_le (tgt := 14) hx hb dX8_cutTo_9 (by decide) (fun c9 => ?_) (fun c9 => ?_)
    · have h_3 : rg 0 900 p0 := r_le_l_i c9 h_2 hp_n0_1
      refine lv_aload_n hx hb dX8_cutTo_14 rfl (lv_at hl 0 rfl) ?_
      refine lv_iload_n hx hb dX8_cutTo_15 rfl (lv_at hl 1 rfl) ?_
      refine va_put (D := G) (ci := 8) (v := .int p0) (ty := .int) (C := RX8) (T := TX8) (N := 2) hx hb hts (by decide +kernel) tyX8 tyX8_ok nmX8 hown hK.1 hP hD hS 0 rfl rfl 1 (by decide) (hts (.fieldLink RX8 15 "CardHolder$Tape" "size" "I") (by decide +kernel)) (fun _ h9 => h9) rfl (by decide +kernel) rfl rfl (Nat.le_of_ble_eq_true rfl) dX8_cutTo_16 (fun H locs hP hD hS => ?_)
      refine lv_iconst (v := 1) hx hb dX8_cutTo_19 (by decide) ?_
      exact W.zret (v := 1) (ty := .boolean) hx hb hr (rfl) (fun t ht hW => ⟨⟨1, (fun k => ([p0] : List Int32).getD k 0, fun k => ([] : List (Nat → Int32)).getD k (fun _ => 0), fun k => ([] : List (Nat → Int64)).getD k (fun _ => 0)), rfl, ⟨(rg_w (c := 0) (d := 1) (rgn 1 (x := 1) (by decide)) (by decide)), (fun _ => h_3), h_3, trivial⟩, hp_at ht hP⟩, hS.F ht⟩) hS.2.2 dX8_cutTo_20
    · have h_4 : rg 1 2147483647 p0 := r_lt_r_i (nle_i c9) hp_n0_1 h_2 (by decide)
      refine lv_iconst (v := 0) hx hb dX8_cutTo_12 (by decide) ?_
      exact W.zret (v := 0) (ty := .boolean) hx hb hr (rfl) (fun t ht hW => ⟨⟨0, (fun k => ([n0_1] : List Int32).getD k 0, fun k => ([] : List (Nat → Int32)).getD k (fun _ => 0), fun k => ([] : List (Nat → Int64)).getD k (fun _ => 0)), rfl, ⟨(rg_w (c := 0) (d := 1) (rgn 0 (x := 0) (by decide)) (by decide)), (fun hq => absurd (req (rgn 0 (x := 0) (by decide)) (y := 0) (by decide)) hq), hp_n0_1, trivial⟩, hp_at ht hP⟩, hS.F ht⟩) hS.2.2 dX8_cutTo_13

set_option maxHeartbeats 4000000 in
set_option maxRecDepth 100000 in
theorem a_X8_at (l : Launch) (G : va_G) (ct : Nat → ClassId) (a0 : Nat) (a1 : Nat) (n0_1 : Int32) (f1 : Nat → Int32) (p0 : Int32) (hp_n0_1 : rg 0 900 n0_1) : Met l yX8_at wsX8_at ({ frames := 0, cells := 0, slots := 0, locals := 0 }) (va_Pc [.ref a0, .int p0] (roP G ct [(a0, .inr (8, [.ref a1, .int n0_1])), (a1, .inl (ct 1, 900, .inl f1))])) (roQ (fun r => rg (-1) 255 r ∧ (r = 0 → rg 0 899 p0) ∧ (¬ r = (-1) → rg 0 899 p0) ∧ (r = 0 → rg 1 900 n0_1) ∧ (¬ r = (-1) → rg 1 900 n0_1) ∧ True)) 0 0 no := by
  refine Met.ofW (cc := cX8_at) (maxL := 2) (ret := (some .int)) (by decide) rfl ?_
  intro p e s m args below meth c s₁ B hml hv
  obtain ⟨rfl, hP, hK⟩ := hv
  have hx := B.exec
  have hb := B.bytes
  have hr := B.returns
  have hts := atoms_spec (ws := wsX8_at) B.pre
  have hown : s.vm.findClass RX8 = some m.cls := findClass_of_methodNamed B.named
  have hlocks := B.notSynchronized
  have hS : va_S no s.heap s.heap [] := va_S.rf
  have hl := lv_entry ([.ref a0, .int p0]) (n := 2) (Nat.le_of_ble_eq_true rfl)
  rw [lg_entry_eq]
  generalize (lg_sl ([.ref a0, .int p0]) ++ List.replicate (2 - (lg_sl ([.ref a0, .int p0])).length) Slot.unset).toArray = ls at hl ⊢
  have hl : lv_has ls 2 [(0, .ref a0), (1, .int p0)] := hl
  refine lv_iload_n hx hb dX8_at_0 rfl (lv_at hl 1 rfl) ?_
  refine lv_if_lt (tgt := 25) hx hb dX8_at_1 (by decide) (fun c1 => ?_) (fun c1 => ?_)
  · have h_1 : rg (-2147483648) (-1) p0 := r_lt_l_i c1 (rg_t p0) (rgn 0 (x := 0) (by decide)) (by decide)
    refine lv_iconst (v := (-1)) hx hb dX8_at_25 (by decide) ?_
    exact W.iret (v := (-1)) hx hb hr (fun t ht hW => ⟨⟨(-1), (), rfl, ⟨(rg_w (c := (-1)) (d := 255) (rgn (-1) (x := (-1)) (by decide)) (by decide)), (fun hq => absurd hq (rne (rgn (-1) (x := (-1)) (by decide)) (y := 0) (c := 0) (by decide) (by decide))), (fun hq => absurd (req (rgn (-1) (x := (-1)) (by decide)) (y := (-1)) (by decide)) hq), (fun hq => absurd hq (rne (rgn (-1) (x := (-1)) (by decide)) (y := 0) (c := 0) (by decide) (by decide))), (fun hq => absurd (req (rgn (-1) (x := (-1)) (by decide)) (y := (-1)) (by decide)) hq), trivial⟩, trivial⟩, hS.F ht⟩) hS.2.2 dX8_at_26
  · have h_2 : rg 0 2147483647 p0 := r_le_r_i (nlt_i c1) (rgn 0 (x := 0) (by decide)) (rg_t p0)
    refine lv_iload_n hx hb dX8_at_4 rfl (lv_at hl 1 rfl) ?_
    refine lv_aload_n hx hb dX8_at_5 rfl (lv_at hl 0 rfl) ?_
    refine va_get (D := G) (ci := 8) (v := .int n0_1) (C := RX8) (T := TX8) (N := 2) hx hb hts (by decide +kernel) hown hK.1 hP 0 rfl rfl 1 (by decide) (hts (.fieldLink RX8 15 "CardHolder$Tape" "size" "I") (by decide +kernel)) (fun _ h9 => h9) rfl dX8_at_6 ?_
    refine lv_icmp_ge (tgt := 25) hx hb dX8_at_9 (by decide) (fun c9 => ?_) (fun c9 => ?_)
    · refine lv_iconst (v := (-1)) hx hb dX8_at_25 (by decide) ?_
      exact W.iret (v := (-1)) hx hb hr (fun t ht hW => ⟨⟨(-1), (), rfl, ⟨(rg_w (c := (-1)) (d := 255) (rgn (-1) (x := (-1)) (by decide)) (by decide)), (fun hq => absurd hq (rne (rgn (-1) (x := (-1)) (by decide)) (y := 0) (c := 0) (by decide) (by decide))), (fun hq => absurd (req (rgn (-1) (x := (-1)) (by decide)) (y := (-1)) (by decide)) hq), (fun hq => absurd hq (rne (rgn (-1) (x := (-1)) (by decide)) (y := 0) (c := 0) (by decide) (by decide))), (fun hq => absurd (req (rgn (-1) (x := (-1)) (by decide)) (y := (-1)) (by decide)) hq), trivial⟩, trivial⟩, hS.F ht⟩) hS.2.2 dX8_at_26
    · have h_3 : rg 0 899 p0 := r_lt_l_i (nle_i c9) h_2 hp_n0_1 (by decide)
      have h_4 : rg 1 900 n0_1 := r_lt_r_i (nle_i c9) h_2 hp_n0_1 (by decide)
      refine lv_aload_n hx hb dX8_at_12 rfl (lv_at hl 0 rfl) ?_
      refine va_get (D := G) (ci := 8) (v := .ref a1) (C := RX8) (T := TX8) (N := 2) hx hb hts (by decide +kernel) hown hK.1 hP 0 rfl rfl 0 (by decide) (hts (.fieldLink RX8 9 "CardHolder$Tape" "bytes" "[B") (by decide +kernel)) (fun _ h9 => h9) rfl dX8_at_13 ?_
      refine lv_iload_n hx hb dX8_at_16 rfl (lv_at hl 1 rfl) ?_
      refine va_bald hx hb hK.1 hP 1 1 rfl rfl (in_rg h_3 (by decide)) dX8_at_17 ?_
      refine lv_topi (fun z17 gz17 => ?_)
      refine lv_sipush (v := 255) hx hb dX8_at_18 (by decide) ?_
      refine lv_iand hx hb dX8_at_21 ?_
      refine nm_andr (rgn 255 (x := 255) (by decide)) (by decide) (fun z21 hz21 => ?_)
      refine lv_goto (tgt := 26) hx hb dX8_at_22 (by decide) ?_
      exact W.iret (v := z21) hx hb hr (fun t ht hW => ⟨⟨z21, (), rfl, ⟨(rg_w (c := (-1)) (d := 255) hz21 (by decide)), (fun _ => h_3), (fun _ => h_3), (fun _ => h_4), (fun _ => h_4), trivial⟩, trivial⟩, hS.F ht⟩) hS.2.2 dX8_at_26
