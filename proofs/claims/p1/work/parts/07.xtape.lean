theorem dX8_hasRoomFor_0 : decode cX8_hasRoomFor 0 = .ok (.aload_n 0, 1) := by decide +kernel
theorem dX8_hasRoomFor_1 : decode cX8_hasRoomFor 1 = .ok (.getfield 15, 3) := by decide +kernel
theorem dX8_hasRoomFor_4 : decode cX8_hasRoomFor 4 = .ok (.iload_n 1, 1) := by decide +kernel
theorem dX8_hasRoomFor_5 : decode cX8_hasRoomFor 5 = .ok (.iadd, 1) := by decide +kernel
theorem dX8_hasRoomFor_6 : decode cX8_hasRoomFor 6 = .ok (.sipush 900, 3) := by decide +kernel
theorem dX8_hasRoomFor_9 : decode cX8_hasRoomFor 9 = .ok (.if_icmp .gt 7, 3) := by decide +kernel
theorem dX8_hasRoomFor_16 : decode cX8_hasRoomFor 16 = .ok (.iconst 0, 1) := by decide +kernel
theorem dX8_hasRoomFor_17 : decode cX8_hasRoomFor 17 = .ok (.ireturn, 1) := by decide +kernel
theorem dX8_hasRoomFor_12 : decode cX8_hasRoomFor 12 = .ok (.iconst 1, 1) := by decide +kernel
theorem dX8_hasRoomFor_13 : decode cX8_hasRoomFor 13 = .ok (.goto 4, 3) := by decide +kernel
theorem dX8_add_0 : decode cX8_add 0 = .ok (.aload_n 0, 1) := by decide +kernel
theorem dX8_add_1 : decode cX8_add 1 = .ok (.iconst 4, 1) := by decide +kernel
set_option maxRecDepth 20000 in
theorem ggX8_add_X8_hasRoomFor : GoodIn wsX8_add wsX8_hasRoomFor := goodIn_r _ [7, 2, 8, 9] (by decide +kernel) (by decide +kernel)
set_option maxRecDepth 20000 in
theorem gX8_add_X8_hasRoomFor : GoodIn wsX8_add (wsV RX8 19 RX8 yX8_hasRoomFor wsX8_hasRoomFor) := goodIn_app (goodIn_of _ (by decide +kernel)) ggX8_add_X8_hasRoomFor
theorem dX8_add_2 : decode cX8_add 2 = .ok (.invokevirtual 19, 3) := by decide +kernel
theorem dX8_add_5 : decode cX8_add 5 = .ok (.ifCond .ne 4, 3) := by decide +kernel
theorem dX8_add_9 : decode cX8_add 9 = .ok (.bipush 24, 2) := by decide +kernel
theorem dX8_add_11 : decode cX8_add 11 = .ok (.istore_n 2, 1) := by decide +kernel
theorem dX8_add_12 : decode cX8_add 12 = .ok (.iload_n 2, 1) := by decide +kernel
theorem dX8_add_13 : decode cX8_add 13 = .ok (.ifCond .lt 32, 3) := by decide +kernel
theorem dX8_add_16 : decode cX8_add 16 = .ok (.aload_n 0, 1) := by decide +kernel
theorem dX8_add_17 : decode cX8_add 17 = .ok (.getfield 9, 3) := by decide +kernel
theorem dX8_add_20 : decode cX8_add 20 = .ok (.aload_n 0, 1) := by decide +kernel
theorem dX8_add_21 : decode cX8_add 21 = .ok (.getfield 15, 3) := by decide +kernel
theorem dX8_add_24 : decode cX8_add 24 = .ok (.iload_n 1, 1) := by decide +kernel
theorem dX8_add_25 : decode cX8_add 25 = .ok (.iload_n 2, 1) := by decide +kernel
theorem dX8_add_26 : decode cX8_add 26 = .ok (.iushr, 1) := by decide +kernel
theorem dX8_add_27 : decode cX8_add 27 = .ok (.i2b, 1) := by decide +kernel
theorem dX8_add_28 : decode cX8_add 28 = .ok (.bastore, 1) := by decide +kernel
theorem dX8_add_29 : decode cX8_add 29 = .ok (.aload_n 0, 1) := by decide +kernel
theorem dX8_add_30 : decode cX8_add 30 = .ok (.dup, 1) := by decide +kernel
theorem dX8_add_31 : decode cX8_add 31 = .ok (.getfield 15, 3) := by decide +kernel
theorem dX8_add_34 : decode cX8_add 34 = .ok (.iconst 1, 1) := by decide +kernel
theorem dX8_add_35 : decode cX8_add 35 = .ok (.iadd, 1) := by decide +kernel
theorem dX8_add_36 : decode cX8_add 36 = .ok (.putfield 15, 3) := by decide +kernel
theorem dX8_add_39 : decode cX8_add 39 = .ok (.iinc 2 (-8), 3) := by decide +kernel
theorem dX8_add_42 : decode cX8_add 42 = .ok (.goto (-30), 3) := by decide +kernel
theorem dX8_add_45 : decode cX8_add 45 = .ok (.return_, 1) := by decide +kernel
theorem dX8_add_8 : decode cX8_add 8 = .ok (.return_, 1) := by decide +kernel
theorem dX10_feed_0 : decode cX10_feed 0 = .ok (.aload_n 0, 1) := by decide +kernel
theorem dX10_feed_1 : decode cX10_feed 1 = .ok (.getfield 10, 3) := by decide +kernel
theorem dX10_feed_4 : decode cX10_feed 4 = .ok (.bipush 20, 2) := by decide +kernel
set_option maxRecDepth 20000 in
theorem ggX10_feed_X8_hasRoomFor : GoodIn wsX10_feed wsX8_hasRoomFor := goodIn_r _ [7, 8, 26, 27] (by decide +kernel) (by decide +kernel)
set_option maxRecDepth 20000 in
theorem gX10_feed_X8_hasRoomFor : GoodIn wsX10_feed (wsV RX10 88 RX8 yX8_hasRoomFor wsX8_hasRoomFor) := goodIn_app (goodIn_of _ (by decide +kernel)) ggX10_feed_X8_hasRoomFor
theorem dX10_feed_6 : decode cX10_feed 6 = .ok (.invokevirtual 88, 3) := by decide +kernel
theorem dX10_feed_9 : decode cX10_feed 9 = .ok (.ifCond .ne 5, 3) := by decide +kernel
theorem dX10_feed_14 : decode cX10_feed 14 = .ok (.aload_n 0, 1) := by decide +kernel
theorem dX10_feed_15 : decode cX10_feed 15 = .ok (.getfield 10, 3) := by decide +kernel
theorem dX10_feed_18 : decode cX10_feed 18 = .ok (.iload_n 1, 1) := by decide +kernel
set_option maxRecDepth 20000 in
theorem ggX10_feed_X8_add : GoodIn wsX10_feed wsX8_add := goodIn_r _ [12, 13, 8, 14, 4, 5, 6, 7, 26, 27] (by decide +kernel) (by decide +kernel)
set_option maxRecDepth 20000 in
theorem gX10_feed_X8_add : GoodIn wsX10_feed (wsV RX10 92 RX8 yX8_add wsX8_add) := goodIn_app (goodIn_of _ (by decide +kernel)) ggX10_feed_X8_add
theorem dX10_feed_19 : decode cX10_feed 19 = .ok (.invokevirtual 92, 3) := by decide +kernel
theorem dX10_feed_22 : decode cX10_feed 22 = .ok (.aload_n 0, 1) := by decide +kernel
theorem dX10_feed_23 : decode cX10_feed 23 = .ok (.getfield 10, 3) := by decide +kernel
theorem dX10_feed_26 : decode cX10_feed 26 = .ok (.iload_n 2, 1) := by decide +kernel
theorem dX10_feed_27 : decode cX10_feed 27 = .ok (.invokevirtual 92, 3) := by decide +kernel
theorem dX10_feed_30 : decode cX10_feed 30 = .ok (.aload_n 0, 1) := by decide +kernel
theorem dX10_feed_31 : decode cX10_feed 31 = .ok (.getfield 10, 3) := by decide +kernel
theorem dX10_feed_34 : decode cX10_feed 34 = .ok (.iload_n 3, 1) := by decide +kernel
theorem dX10_feed_35 : decode cX10_feed 35 = .ok (.invokevirtual 92, 3) := by decide +kernel
theorem dX10_feed_38 : decode cX10_feed 38 = .ok (.aload_n 0, 1) := by decide +kernel
theorem dX10_feed_39 : decode cX10_feed 39 = .ok (.getfield 10, 3) := by decide +kernel
theorem dX10_feed_42 : decode cX10_feed 42 = .ok (.iload 4, 2) := by decide +kernel
theorem dX10_feed_44 : decode cX10_feed 44 = .ok (.invokevirtual 92, 3) := by decide +kernel
theorem dX10_feed_47 : decode cX10_feed 47 = .ok (.aload_n 0, 1) := by decide +kernel
theorem dX10_feed_48 : decode cX10_feed 48 = .ok (.getfield 10, 3) := by decide +kernel
theorem dX10_feed_51 : decode cX10_feed 51 = .ok (.iload 5, 2) := by decide +kernel
theorem dX10_feed_53 : decode cX10_feed 53 = .ok (.invokevirtual 92, 3) := by decide +kernel
theorem dX10_feed_56 : decode cX10_feed 56 = .ok (.aload_n 0, 1) := by decide +kernel
theorem dX10_feed_57 : decode cX10_feed 57 = .ok (.getfield 10, 3) := by decide +kernel
theorem dX10_feed_60 : decode cX10_feed 60 = .ok (.getfield 96, 3) := by decide +kernel
theorem dX10_feed_63 : decode cX10_feed 63 = .ok (.ireturn, 1) := by decide +kernel
theorem dX8_cutTo_0 : decode cX8_cutTo 0 = .ok (.iload_n 1, 1) := by decide +kernel
theorem dX8_cutTo_1 : decode cX8_cutTo 1 = .ok (.ifCond .lt 11, 3) := by decide +kernel
theorem dX8_cutTo_12 : decode cX8_cutTo 12 = .ok (.iconst 0, 1) := by decide +kernel
theorem dX8_cutTo_13 : decode cX8_cutTo 13 = .ok (.ireturn, 1) := by decide +kernel
theorem dX8_cutTo_4 : decode cX8_cutTo 4 = .ok (.iload_n 1, 1) := by decide +kernel
theorem dX8_cutTo_5 : decode cX8_cutTo 5 = .ok (.aload_n 0, 1) := by decide +kernel
theorem dX8_cutTo_6 : decode cX8_cutTo 6 = .ok (.getfield 15, 3) := by decide +kernel
theorem dX8_cutTo_9 : decode cX8_cutTo 9 = .ok (.if_icmp .le 5, 3) := by decide +kernel
theorem dX8_cutTo_14 : decode cX8_cutTo 14 = .ok (.aload_n 0, 1) := by decide +kernel
theorem dX8_cutTo_15 : decode cX8_cutTo 15 = .ok (.iload_n 1, 1) := by decide +kernel
theorem dX8_cutTo_16 : decode cX8_cutTo 16 = .ok (.putfield 15, 3) := by decide +kernel
theorem dX8_cutTo_19 : decode cX8_cutTo 19 = .ok (.iconst 1, 1) := by decide +kernel
theorem dX8_cutTo_20 : decode cX8_cutTo 20 = .ok (.ireturn, 1) := by decide +kernel
theorem dX10_end_0 : decode cX10_end 0 = .ok (.aload_n 0, 1) := by decide +kernel
theorem dX10_end_1 : decode cX10_end 1 = .ok (.getfield 10, 3) := by decide +kernel
theorem dX10_end_4 : decode cX10_end 4 = .ok (.iload_n 1, 1) := by decide +kernel
set_option maxRecDepth 20000 in
theorem ggX10_end_X8_cutTo : GoodIn wsX10_end wsX8_cutTo := goodIn_r _ [6, 7, 19, 20] (by decide +kernel) (by decide +kernel)
set_option maxRecDepth 20000 in
theorem gX10_end_X8_cutTo : GoodIn wsX10_end (wsV RX10 100 RX8 yX8_cutTo wsX8_cutTo) := goodIn_app (goodIn_of _ (by decide +kernel)) ggX10_end_X8_cutTo
theorem dX10_end_5 : decode cX10_end 5 = .ok (.invokevirtual 100, 3) := by decide +kernel
theorem dX10_end_8 : decode cX10_end 8 = .ok (.ifCond .eq 7, 3) := by decide +kernel
theorem dX10_end_15 : decode cX10_end 15 = .ok (.iconst (-1), 1) := by decide +kernel
theorem dX10_end_16 : decode cX10_end 16 = .ok (.ireturn, 1) := by decide +kernel
theorem dX10_end_11 : decode cX10_end 11 = .ok (.iload_n 1, 1) := by decide +kernel
theorem dX10_end_12 : decode cX10_end 12 = .ok (.goto 4, 3) := by decide +kernel
def roomP (k j : Nat) (r : Int32) : Prop := (r.toInt = 1 ∧ k + j ≤ 900) ∨ (r.toInt = 0 ∧ 900 < k + j)
def cutP (k : Nat) (p r u : Int32) : Prop := (r.toInt = 1 ∧ 0 ≤ p.toInt ∧ p.toInt ≤ k ∧ u = p) ∨ (r.toInt = 0 ∧ (p.toInt < 0 ∨ (k : Int) < p.toInt) ∧ u = nI k)
set_option maxHeartbeats 4000000 in
set_option maxRecDepth 100000 in
theorem c_X8_hasRoomFor (l : Launch) (G : va_G) (ct : Nat → ClassId) (h0 : Nat) (b0 : Nat) (k : Nat) (j : Nat) (hk : k ≤ 900) (hj : j ≤ 20) : Met l yX8_hasRoomFor wsX8_hasRoomFor ({ frames := 0, cells := 0, slots := 0, locals := 0 }) (va_Pc [.ref h0, .int (nI j)] (roP G ct [(h0, .inr (8, [.ref b0, .int (nI k)]))])) (roQ (fun r => roomP k j r)) 0 0 no := by
  refine Met.ofW (cc := cX8_hasRoomFor) (maxL := 2) (ret := (some .boolean)) (by decide) rfl ?_
  intro p e s m args below meth c s₁ B hml hv
  obtain ⟨rfl, hP, hK⟩ := hv
  have hx := B.exec
  have hb := B.bytes
  have hr := B.returns
  have hts := atoms_spec (ws := wsX8_hasRoomFor) B.pre
  have hown : s.vm.findClass RX8 = some m.cls := findClass_of_methodNamed B.named
  have hlocks := B.notSynchronized
  have hS : va_S no s.heap s.heap [] := va_S.rf
  have hl := lv_entry ([.ref h0, .int (nI j)]) (n := 2) (Nat.le_of_ble_eq_true rfl)
  rw [lg_entry_eq]
  generalize (lg_sl ([.ref h0, .int (nI j)]) ++ List.replicate (2 - (lg_sl ([.ref h0, .int (nI j)])).length) Slot.unset).toArray = ls at hl ⊢
  have hl : lv_has ls 2 [(0, .ref h0), (1, .int (nI j))] := hl
  refine lv_aload_n hx hb dX8_hasRoomFor_0 rfl (lv_at hl 0 rfl) ?_
  refine va_get (D := G) (ci := 8) (v := .int (nI k)) (C := RX8) (T := TX8) (N := 2) hx hb hts (by decide +kernel) hown hK.1 hP 0 rfl rfl 1 (by decide) (hts (.fieldLink RX8 15 "CardHolder$Tape" "size" "I") (by decide +kernel)) (fun _ h9 => h9) rfl dX8_hasRoomFor_1 ?_
  refine lv_iload_n hx hb dX8_hasRoomFor_4 rfl (lv_at hl 1 rfl) ?_
  refine lv_iadd hx hb dX8_hasRoomFor_5 ?_
  refine ix_i (y := nI (k + j)) (nI_add k j) ?_
  refine lv_sipush (v := 900) hx hb dX8_hasRoomFor_6 (by decide) ?_
  refine lv_icmp_gt (tgt := 16) hx hb dX8_hasRoomFor_9 (by decide) (fun c_1 => ?_) (fun c_1 => ?_)
  · refine lv_iconst (v := 0) hx hb dX8_hasRoomFor_16 (by decide) ?_
    exact W.zret (v := 0) (ty := .boolean) hx hb hr (rfl) (fun t ht hW => ⟨⟨0, (), rfl, by have f0 := i_lt c_1; have := nI_toInt (n := k + j) (by omega); have : (0 : Int32).toInt = 0 := (by decide); have : (900 : Int32).toInt = 900 := (by decide); show roomP k j (0 : Int32); unfold roomP; omega, trivial⟩, hS.F ht⟩) hS.2.2 dX8_hasRoomFor_17
  · refine lv_iconst (v := 1) hx hb dX8_hasRoomFor_12 (by decide) ?_
    refine lv_goto (tgt := 17) hx hb dX8_hasRoomFor_13 (by decide) ?_
    exact W.zret (v := 1) (ty := .boolean) hx hb hr (rfl) (fun t ht hW => ⟨⟨1, (), rfl, by have f0 := i_nlt c_1; have := nI_toInt (n := k + j) (by omega); have : (1 : Int32).toInt = 1 := (by decide); have : (900 : Int32).toInt = 900 := (by decide); show roomP k j (1 : Int32); unfold roomP; omega, trivial⟩, hS.F ht⟩) hS.2.2 dX8_hasRoomFor_17

set_option maxHeartbeats 4000000 in
set_option maxRecDepth 100000 in
theorem c_X8_add (l : Launch) (G : va_G) (ct : Nat → ClassId) (h0 : Nat) (b0 : Nat) (k : Nat) (f : Nat → Int32) (p0 : Int32) (hk : k ≤ 900) : Met l yX8_add wsX8_add ({ frames := 1, cells := 0, slots := 0, locals := 21 }) (va_Pc [.ref h0, .int p0] (wrP G ct [(h0, .inr (8, [.ref b0, .int (nI k)])), (b0, .inl (ct 1, 900, .inl f))])) (va_Qv (fun u : Nat × (Nat → Int32) => u.1 = if k + 4 ≤ 900 then k + 4 else k) (fun u t => va_P G vwCl ((fun u : Nat × (Nat → Int32) => [(h0, .inr (8, [.ref b0, .int (nI u.1)])), (b0, .inl (ct 1, 900, .inl u.2))]) u) t.heap) (aset [(h0, .inr (8, [.ref b0, .int (nI k)])), (b0, .inl (ct 1, 900, .inl f))])) 0 0 (aset [(h0, .inr (8, [.ref b0, .int (nI k)])), (b0, .inl (ct 1, 900, .inl f))]) := by
  refine Met.ofW (cc := cX8_add) (maxL := 3) (ret := none) (by decide) rfl ?_
  intro p e s m args below meth c s₁ B hml hv
  obtain ⟨rfl, hP, hK, hD0⟩ := hv
  have hx := B.exec
  have hb := B.bytes
  have hr := B.returns
  have hts := atoms_spec (ws := wsX8_add) B.pre
  have hown : s.vm.findClass RX8 = some m.cls := findClass_of_methodNamed B.named
  have hlocks := B.notSynchronized
  have hD := hD0.aself
  generalize hAe : aset [(h0, .inr (8, [.ref b0, .int (nI k)])), (b0, .inl (ct 1, 900, .inl f))] = A at hD ⊢
  have hS : va_S A s.heap s.heap [] := va_S.rf
  have hl := lv_entry ([.ref h0, .int p0]) (n := 3) (Nat.le_of_ble_eq_true rfl)
  rw [lg_entry_eq]
  generalize (lg_sl ([.ref h0, .int p0]) ++ List.replicate (3 - (lg_sl ([.ref h0, .int p0])).length) Slot.unset).toArray = ls at hl ⊢
  have hl : lv_has ls 3 [(0, .ref h0), (1, .int p0)] := hl
  refine lv_aload_n hx hb dX8_add_0 rfl (lv_at hl 0 rfl) ?_
  refine lv_iconst (v := 4) hx hb dX8_add_1 (by decide) ?_
  refine ro_calli (va_runV (As := [.int 4]) (rest := []) ⟨hx, hb, hml, hown, hts⟩ (c_X8_hasRoomFor l G ct h0 b0 k 4 (by omega) (by omega)) (cwV 1 hts gX8_add_X8_hasRoomFor rfl rfl rfl (by decide +kernel) ⟨Nat.le_of_ble_eq_true rfl, Nat.le_of_ble_eq_true rfl⟩) (ro_preV 8 0 hK (hP.sub [0] rfl) rfl rfl) rfl rfl hl.1 rfl (lv_room (Nat.le_of_ble_eq_true rfl)) dX8_add_2 ⟨Nat.zero_le _, Nat.zero_le _⟩) hS hP (fun r_1 H locs wr_1 hP hS => ?_)
  refine lv_if_ne (tgt := 9) hx hb dX8_add_5 (by decide) (fun c_2 => ?_) (fun c_2 => ?_)
  · refine lv_bipush (v := 24) hx hb dX8_add_9 (by decide) ?_
    refine lv_istore_n (lv' := [(2, .int 24), (0, .ref h0), (1, .int p0)]) hx hb dX8_add_11 rfl hl (by decide) rfl (fun ls hl => ?_)
    refine lv_iload_n hx hb dX8_add_12 rfl (lv_at hl 0 rfl) ?_
    refine lv_if_lt (tgt := 45) hx hb dX8_add_13 (by decide) (fun c_3 => ?_) (fun c_3 => ?_)
    · exact absurd c_3 (by decide)
    · refine lv_aload_n hx hb dX8_add_16 rfl (lv_at hl 1 rfl) ?_
      refine va_get (D := G) (ci := 8) (v := .ref b0) (C := RX8) (T := TX8) (N := 2) hx hb hts (by decide +kernel) hown hK.1 hP 0 rfl rfl 0 (by decide) (hts (.fieldLink RX8 9 "CardHolder$Tape" "bytes" "[B") (by decide +kernel)) (fun _ h9 => h9) rfl dX8_add_17 ?_
      refine lv_aload_n hx hb dX8_add_20 rfl (lv_at hl 1 rfl) ?_
      refine va_get (D := G) (ci := 8) (v := .int (nI k)) (C := RX8) (T := TX8) (N := 2) hx hb hts (by decide +kernel) hown hK.1 hP 0 rfl rfl 1 (by decide) (hts (.fieldLink RX8 15 "CardHolder$Tape" "size" "I") (by decide +kernel)) (fun _ h9 => h9) rfl dX8_add_21 ?_
      refine lv_iload_n hx hb dX8_add_24 rfl (lv_at hl 2 rfl) ?_
      refine lv_iload_n hx hb dX8_add_25 rfl (lv_at hl 0 rfl) ?_
      refine lv_iushr hx hb dX8_add_26 rfl ?_
      refine lv_i2b hx hb dX8_add_27 rfl ?_
      refine va_bast hx hb hK.1 hP hD hS 1 1 rfl rfl (vp_in_nI (n := k) (by have f0 := i_ne c_2; have f1 := i_nlt c_3; have gwr_1 := wr_1; unfold roomP at gwr_1; have : (0 : Int32).toInt = 0 := (by decide); have : (24 : Int32).toInt = 24 := (by decide); omega) (by omega)) dX8_add_28 (fun H locs hP hD hS => ?_)
      refine lv_aload_n hx hb dX8_add_29 rfl (lv_at hl 1 rfl) ?_
      refine lv_dup hx hb dX8_add_30 rfl ?_
      refine va_get (D := G) (ci := 8) (v := .int (nI k)) (C := RX8) (T := TX8) (N := 2) hx hb hts (by decide +kernel) hown hK.1 hP 0 rfl rfl 1 (by decide) (hts (.fieldLink RX8 15 "CardHolder$Tape" "size" "I") (by decide +kernel)) (fun _ h9 => h9) rfl dX8_add_31 ?_
      refine lv_iconst (v := 1) hx hb dX8_add_34 (by decide) ?_
      refine lv_iadd hx hb dX8_add_35 ?_
      refine ix_i (y := nI (k + 1)) (nI_add k 1) ?_
      refine va_put (D := G) (ci := 8) (v := .int (nI (k + 1))) (ty := .int) (C := RX8) (T := TX8) (N := 2) hx hb hts (by decide +kernel) tyX8 tyX8_ok nmX8 hown hK.1 hP hD hS 0 rfl rfl 1 (by decide) (hts (.fieldLink RX8 15 "CardHolder$Tape" "size" "I") (by decide +kernel)) (fun _ h9 => h9) rfl (by decide +kernel) rfl rfl (Nat.le_of_ble_eq_true rfl) dX8_add_36 (fun H locs hP hD hS => ?_)
      refine lv_iinc (v := 16) (lv' := [(2, .int 16), (0, .ref h0), (1, .int p0)]) hx hb dX8_add_39 hl (k := 0) rfl (by decide) (by decide) rfl (fun ls hl => ?_)
      refine lv_goto (tgt := 12) hx hb dX8_add_42 (by decide) ?_
      refine lv_iload_n hx hb dX8_add_12 rfl (lv_at hl 0 rfl) ?_
      refine lv_if_lt (tgt := 45) hx hb dX8_add_13 (by decide) (fun c_4 => ?_) (fun c_4 => ?_)
      · exact absurd c_4 (by decide)
      · refine lv_aload_n hx hb dX8_add_16 rfl (lv_at hl 1 rfl) ?_
        refine va_get (D := G) (ci := 8) (v := .ref b0) (C := RX8) (T := TX8) (N := 2) hx hb hts (by decide +kernel) hown hK.1 hP 0 rfl rfl 0 (by decide) (hts (.fieldLink RX8 9 "CardHolder$Tape" "bytes" "[B") (by decide +kernel)) (fun _ h9 => h9) rfl dX8_add_17 ?_
        refine lv_aload_n hx hb dX8_add_20 rfl (lv_at hl 1 rfl) ?_
        refine va_get (D := G) (ci := 8) (v := .int (nI (k + 1))) (C := RX8) (T := TX8) (N := 2) hx hb hts (by decide +kernel) hown hK.1 hP 0 rfl rfl 1 (by decide) (hts (.fieldLink RX8 15 "CardHolder$Tape" "size" "I") (by decide +kernel)) (fun _ h9 => h9) rfl dX8_add_21 ?_
        refine lv_iload_n hx hb dX8_add_24 rfl (lv_at hl 2 rfl) ?_
        refine lv_iload_n hx hb dX8_add_25 rfl (lv_at hl 0 rfl) ?_
        refine lv_iushr hx hb dX8_add_26 rfl ?_
        refine lv_i2b hx hb dX8_add_27 rfl ?_
        refine va_bast hx hb hK.1 hP hD hS 1 1 rfl rfl (vp_in_nI (n := k + 1) (by have f0 := i_ne c_2; have f1 := i_nlt c_3; have f2 := i_nlt c_4; have gwr_1 := wr_1; unfold roomP at gwr_1; have : (0 : Int32).toInt = 0 := (by decide); have : (16 : Int32).toInt = 16 := (by decide); have : (24 : Int32).toInt = 24 := (by decide); omega) (by omega)) dX8_add_28 (fun H locs hP hD hS => ?_)
        refine lv_aload_n hx hb dX8_add_29 rfl (lv_at hl 1 rfl) ?_
        refine lv_dup hx hb dX8_add_30 rfl ?_
        refine va_get (D := G) (ci := 8) (v := .int (nI (k + 1))) (C := RX8) (T := TX8) (N := 2) hx hb hts (by decide +kernel) hown hK.1 hP 0 rfl rfl 1 (by decide) (hts (.fieldLink RX8 15 "CardHolder$Tape" "size" "I") (by decide +kernel)) (fun _ h9 => h9) rfl dX8_add_31 ?_
        refine lv_iconst (v := 1) hx hb dX8_add_34 (by decide) ?_
        refine lv_iadd hx hb dX8_add_35 ?_
        refine ix_i (y := nI (k + 1 + 1)) (nI_add (k + 1) 1) ?_
        refine va_put (D := G) (ci := 8) (v := .int (nI (k + 1 + 1))) (ty := .int) (C := RX8) (T := TX8) (N := 2) hx hb hts (by decide +kernel) tyX8 tyX8_ok nmX8 hown hK.1 hP hD hS 0 rfl rfl 1 (by decide) (hts (.fieldLink RX8 15 "CardHolder$Tape" "size" "I") (by decide +kernel)) (fun _ h9 => h9) rfl (by decide +kernel) rfl rfl (Nat.le_of_ble_eq_true rfl) dX8_add_36 (fun H locs hP hD hS => ?_)
        refine lv_iinc (v := 8) (lv' := [(2, .int 8), (0, .ref h0), (1, .int p0)]) hx hb dX8_add_39 hl (k := 0) rfl (by decide) (by decide) rfl (fun ls hl => ?_)
        refine lv_goto (tgt := 12) hx hb dX8_add_42 (by decide) ?_
        refine lv_iload_n hx hb dX8_add_12 rfl (lv_at hl 0 rfl) ?_
        refine lv_if_lt (tgt := 45) hx hb dX8_add_13 (by decide) (fun c_5 => ?_) (fun c_5 => ?_)
        · exact absurd c_5 (by decide)
        · refine lv_aload_n hx hb dX8_add_16 rfl (lv_at hl 1 rfl) ?_
          refine va_get (D := G) (ci := 8) (v := .ref b0) (C := RX8) (T := TX8) (N := 2) hx hb hts (by decide +kernel) hown hK.1 hP 0 rfl rfl 0 (by decide) (hts (.fieldLink RX8 9 "CardHolder$Tape" "bytes" "[B") (by decide +kernel)) (fun _ h9 => h9) rfl dX8_add_17 ?_
          refine lv_aload_n hx hb dX8_add_20 rfl (lv_at hl 1 rfl) ?_
          refine va_get (D := G) (ci := 8) (v := .int (nI (k + 1 + 1))) (C := RX8) (T := TX8) (N := 2) hx hb hts (by decide +kernel) hown hK.1 hP 0 rfl rfl 1 (by decide) (hts (.fieldLink RX8 15 "CardHolder$Tape" "size" "I") (by decide +kernel)) (fun _ h9 => h9) rfl dX8_add_21 ?_
          refine lv_iload_n hx hb dX8_add_24 rfl (lv_at hl 2 rfl) ?_
          refine lv_iload_n hx hb dX8_add_25 rfl (lv_at hl 0 rfl) ?_
          refine lv_iushr hx hb dX8_add_26 rfl ?_
          refine lv_i2b hx hb dX8_add_27 rfl ?_
          refine va_bast hx hb hK.1 hP hD hS 1 1 rfl rfl (vp_in_nI (n := k + 1 + 1) (by have f0 := i_ne c_2; have f1 := i_nlt c_3; have f2 := i_nlt c_4; have f3 := i_nlt c_5; have gwr_1 := wr_1; unfold roomP at gwr_1; have : (0 : Int32).toInt = 0 := (by decide); have : (8 : Int32).toInt = 8 := (by decide); have : (16 : Int32).toInt = 16 := (by decide); have : (24 : Int32).toInt = 24 := (by decide); omega) (by omega)) dX8_add_28 (fun H locs hP hD hS => ?_)
          refine lv_aload_n hx hb dX8_add_29 rfl (lv_at hl 1 rfl) ?_
          refine lv_dup hx hb dX8_add_30 rfl ?_
          refine va_get (D := G) (ci := 8) (v := .int (nI (k + 1 + 1))) (C := RX8) (T := TX8) (N := 2) hx hb hts (by decide +kernel) hown hK.1 hP 0 rfl rfl 1 (by decide) (hts (.fieldLink RX8 15 "CardHolder$Tape" "size" "I") (by decide +kernel)) (fun _ h9 => h9) rfl dX8_add_31 ?_
          refine lv_iconst (v := 1) hx hb dX8_add_34 (by decide) ?_
          refine lv_iadd hx hb dX8_add_35 ?_
          refine ix_i (y := nI (k + 1 + 1 + 1)) (nI_add (k + 1 + 1) 1) ?_
          refine va_put (D := G) (ci := 8) (v := .int (nI (k + 1 + 1 + 1))) (ty := .int) (C := RX8) (T := TX8) (N := 2) hx hb hts (by decide +kernel) tyX8 tyX8_ok nmX8 hown hK.1 hP hD hS 0 rfl rfl 1 (by decide) (hts (.fieldLink RX8 15 "CardHolder$Tape" "size" "I") (by decide +kernel)) (fun _ h9 => h9) rfl (by decide +kernel) rfl rfl (Nat.le_of_ble_eq_true rfl) dX8_add_36 (fun H locs hP hD hS => ?_)
          refine lv_iinc (v := 0) (lv' := [(2, .int 0), (0, .ref h0), (1, .int p0)]) hx hb dX8_add_39 hl (k := 0) rfl (by decide) (by decide) rfl (fun ls hl => ?_)
          refine lv_goto (tgt := 12) hx hb dX8_add_42 (by decide) ?_
          refine lv_iload_n hx hb dX8_add_12 rfl (lv_at hl 0 rfl) ?_
          refine lv_if_lt (tgt := 45) hx hb dX8_add_13 (by decide) (fun c_6 => ?_) (fun c_6 => ?_)
          · exact absurd c_6 (by decide)
          · refine lv_aload_n hx hb dX8_add_16 rfl (lv_at hl 1 rfl) ?_
            refine va_get (D := G) (ci := 8) (v := .ref b0) (C := RX8) (T := TX8) (N := 2) hx hb hts (by decide +kernel) hown hK.1 hP 0 rfl rfl 0 (by decide) (hts (.fieldLink RX8 9 "CardHolder$Tape" "bytes" "[B") (by decide +kernel)) (fun _ h9 => h9) rfl dX8_add_17 ?_
            refine lv_aload_n hx hb dX8_add_20 rfl (lv_at hl 1 rfl) ?_
            refine va_get (D := G) (ci := 8) (v := .int (nI (k + 1 + 1 + 1))) (C := RX8) (T := TX8) (N := 2) hx hb hts (by decide +kernel) hown hK.1 hP 0 rfl rfl 1 (by decide) (hts (.fieldLink RX8 15 "CardHolder$Tape" "size" "I") (by decide +kernel)) (fun _ h9 => h9) rfl dX8_add_21 ?_
            refine lv_iload_n hx hb dX8_add_24 rfl (lv_at hl 2 rfl) ?_
            refine lv_iload_n hx hb dX8_add_25 rfl (lv_at hl 0 rfl) ?_
            refine lv_iushr hx hb dX8_add_26 rfl ?_
            refine lv_i2b hx hb dX8_add_27 rfl ?_
            refine va_bast hx hb hK.1 hP hD hS 1 1 rfl rfl (vp_in_nI (n := k + 1 + 1 + 1) (by have f0 := i_ne c_2; have f1 := i_nlt c_3; have f2 := i_nlt c_4; have f3 := i_nlt c_5; have f4 := i_nlt c_6; have gwr_1 := wr_1; unfold roomP at gwr_1; have : (0 : Int32).toInt = 0 := (by decide); have : (8 : Int32).toInt = 8 := (by decide); have : (16 : Int32).toInt = 16 := (by decide); have : (24 : Int32).toInt = 24 := (by decide); omega) (by omega)) dX8_add_28 (fun H locs hP hD hS => ?_)
            refine lv_aload_n hx hb dX8_add_29 rfl (lv_at hl 1 rfl) ?_
            refine lv_dup hx hb dX8_add_30 rfl ?_
            refine va_get (D := G) (ci := 8) (v := .int (nI (k + 1 + 1 + 1))) (C := RX8) (T := TX8) (N := 2) hx hb hts (by decide +kernel) hown hK.1 hP 0 rfl rfl 1 (by decide) (hts (.fieldLink RX8 15 "CardHolder$Tape" "size" "I") (by decide +kernel)) (fun _ h9 => h9) rfl dX8_add_31 ?_
            refine lv_iconst (v := 1) hx hb dX8_add_34 (by decide) ?_
            refine lv_iadd hx hb dX8_add_35 ?_
            refine ix_i (y := nI (k + 1 + 1 + 1 + 1)) (nI_add (k + 1 + 1 + 1) 1) ?_
            refine va_put (D := G) (ci := 8) (v := .int (nI (k + 1 + 1 + 1 + 1))) (ty := .int) (C := RX8) (T := TX8) (N := 2) hx hb hts (by decide +kernel) tyX8 tyX8_ok nmX8 hown hK.1 hP hD hS 0 rfl rfl 1 (by decide) (hts (.fieldLink RX8 15 "CardHolder$Tape" "size" "I") (by decide +kernel)) (fun _ h9 => h9) rfl (by decide +kernel) rfl rfl (Nat.le_of_ble_eq_true rfl) dX8_add_36 (fun H locs hP hD hS => ?_)
            refine lv_iinc (v := (-8)) (lv' := [(2, .int (-8)), (0, .ref h0), (1, .int p0)]) hx hb dX8_add_39 hl (k := 0) rfl (by decide) (by decide) rfl (fun ls hl => ?_)
            refine lv_goto (tgt := 12) hx hb dX8_add_42 (by decide) ?_
            refine lv_iload_n hx hb dX8_add_12 rfl (lv_at hl 0 rfl) ?_
            refine lv_if_lt (tgt := 45) hx hb dX8_add_13 (by decide) (fun c_7 => ?_) (fun c_7 => ?_)
            · exact W.vret hx hb hr (fun t ht hW => ⟨⟨(k + 1 + 1 + 1 + 1, upd (upd (upd (upd f (nI k).toNatClampNeg (vp_nar .byte (((p0.toUInt32 >>> ((24 : Int32).toUInt32 &&& Int32.toUInt32 31)).toInt32).toInt8.toInt32))) (nI (k + 1)).toNatClampNeg (vp_nar .byte (((p0.toUInt32 >>> ((16 : Int32).toUInt32 &&& Int32.toUInt32 31)).toInt32).toInt8.toInt32))) (nI (k + 1 + 1)).toNatClampNeg (vp_nar .byte (((p0.toUInt32 >>> ((8 : Int32).toUInt32 &&& Int32.toUInt32 31)).toInt32).toInt8.toInt32))) (nI (k + 1 + 1 + 1)).toNatClampNeg (vp_nar .byte (((p0.toUInt32 >>> ((0 : Int32).toUInt32 &&& Int32.toUInt32 31)).toInt32).toInt8.toInt32))), rfl, (by have f0 := i_ne c_2; have f1 := i_nlt c_3; have f2 := i_nlt c_4; have f3 := i_nlt c_5; have f4 := i_nlt c_6; have f5 := i_lt c_7; have gwr_1 := wr_1; unfold roomP at gwr_1; have : ((-8) : Int32).toInt = -8 := (by decide); have : (0 : Int32).toInt = 0 := (by decide); have : (8 : Int32).toInt = 8 := (by decide); have : (16 : Int32).toInt = 16 := (by decide); have : (24 : Int32).toInt = 24 := (by decide); show k + 1 + 1 + 1 + 1 = if k + 4 ≤ 900 then k + 4 else k; split <;> omega), hp_at ht hP⟩, hS.F ht⟩) hS.2.2 dX8_add_45
            · exact absurd c_7 (by decide)
  · exact W.vret hx hb hr (fun t ht hW => ⟨⟨(k, f), rfl, (by have f0 := i_eq c_2; have gwr_1 := wr_1; unfold roomP at gwr_1; have : (0 : Int32).toInt = 0 := (by decide); show k = if k + 4 ≤ 900 then k + 4 else k; split <;> omega), hp_at ht hP⟩, hS.F ht⟩) hS.2.2 dX8_add_8

set_option maxHeartbeats 4000000 in
set_option maxRecDepth 100000 in
theorem c_X10_feed (l : Launch) (G : va_G) (ct : Nat → ClassId) (a : Nat → Nat) (rr : Nat → Nat) (p0 : Int32) (p1 : Int32) (p2 : Int32) (p3 : Int32) (p4 : Int32)  : Met l yX10_feed wsX10_feed ({ frames := 2, cells := 0, slots := 0, locals := 43 }) (va_Pc [.ref (a 0), .int p0, .int p1, .int p2, .int p3, .int p4] (wrP G ct (xF a rr ct))) (va_Qi (fun (r : Int32) (u : Unit) => r = 20) (fun _ _ => True) (aset (xF a rr ct))) 0 0 (aset (xF a rr ct)) := by
  refine Met.ofW (cc := cX10_feed) (maxL := 6) (ret := (some .int)) (by decide) rfl ?_
  intro p e s m args below meth c s₁ B hml hv
  obtain ⟨rfl, hP, hK, hD0⟩ := hv
  have hx := B.exec
  have hb := B.bytes
  have hr := B.returns
  have hts := atoms_spec (ws := wsX10_feed) B.pre
  have hown : s.vm.findClass RX10 = some m.cls := findClass_of_methodNamed B.named
  have hlocks := B.notSynchronized
  have hD := hD0.aself
  generalize hAe : aset (xF a rr ct) = A at hD ⊢
  have hS : va_S A s.heap s.heap [] := va_S.rf
  have hl := lv_entry ([.ref (a 0), .int p0, .int p1, .int p2, .int p3, .int p4]) (n := 6) (Nat.le_of_ble_eq_true rfl)
  rw [lg_entry_eq]
  generalize (lg_sl ([.ref (a 0), .int p0, .int p1, .int p2, .int p3, .int p4]) ++ List.replicate (6 - (lg_sl ([.ref (a 0), .int p0, .int p1, .int p2, .int p3, .int p4])).length) Slot.unset).toArray = ls at hl ⊢
  have hl : lv_has ls 6 [(0, .ref (a 0)), (1, .int p0), (2, .int p1), (3, .int p2), (4, .int p3), (5, .int p4)] := hl
  refine lv_aload_n hx hb dX10_feed_0 rfl (lv_at hl 0 rfl) ?_
  refine va_get (D := G) (ci := 10) (v := .ref (a 1)) (C := RX10) (T := TX10) (N := 11) hx hb hts (by decide +kernel) hown hK.1 hP 0 rfl rfl 0 (by decide) (hts (.fieldLink RX10 10 "CardHolder" "tape" "LCardHolder$Tape;") (by decide +kernel)) (fun _ h9 => h9) rfl dX10_feed_1 ?_
  refine lv_bipush (v := 20) hx hb dX10_feed_4 (by decide) ?_
  refine ro_calli (va_runV (As := [.int 20]) (rest := []) ⟨hx, hb, hml, hown, hts⟩ (c_X8_hasRoomFor l G ct (a 1) (a 2) 0 20 (by omega) (by omega)) (cwV 1 hts gX10_feed_X8_hasRoomFor rfl rfl rfl (by decide +kernel) ⟨Nat.le_of_ble_eq_true rfl, Nat.le_of_ble_eq_true rfl⟩) (ro_preV 8 0 hK (hP.sub [1] rfl) rfl rfl) rfl rfl hl.1 rfl (lv_room (Nat.le_of_ble_eq_true rfl)) dX10_feed_6 ⟨Nat.zero_le _, Nat.zero_le _⟩) hS hP (fun r_1 H locs wr_1 hP hS => ?_)
  obtain rfl : r_1 = 1 := e_of (by have q := wr_1; unfold roomP at q; have : (1 : Int32).toInt = 1 := (by decide); omega)
  refine lv_if_ne (tgt := 14) hx hb dX10_feed_9 (by decide) (fun c_2 => ?_) (fun c_2 => ?_)
  · refine lv_aload_n hx hb dX10_feed_14 rfl (lv_at hl 0 rfl) ?_
    refine va_get (D := G) (ci := 10) (v := .ref (a 1)) (C := RX10) (T := TX10) (N := 11) hx hb hts (by decide +kernel) hown hK.1 hP 0 rfl rfl 0 (by decide) (hts (.fieldLink RX10 10 "CardHolder" "tape" "LCardHolder$Tape;") (by decide +kernel)) (fun _ h9 => h9) rfl dX10_feed_15 ?_
    refine lv_iload_n hx hb dX10_feed_18 rfl (lv_at hl 1 rfl) ?_
    refine wr_callv (w1 := (fun u : Nat × (Nat → Int32) => [((a 1), .inr (8, [.ref (a 2), .int (nI u.1)])), ((a 2), .inl (ct 1, 900, .inl u.2))])) (va_runV (As := [.int p0]) (rest := []) ⟨hx, hb, hml, hown, hts⟩ (c_X8_add l G ct (a 1) (a 2) 0 (fun _ => 0) p0 (by omega)) (cwV 1 hts gX10_feed_X8_add rfl rfl rfl (by decide +kernel) ⟨Nat.le_of_ble_eq_true rfl, Nat.le_of_ble_eq_true rfl⟩) (wr_preV 8 0 hK (hP.sub [1, 2] rfl) (hD.sub [1, 2] (by decide) rfl) rfl rfl) rfl rfl hl.1 rfl (lv_room (Nat.le_of_ble_eq_true rfl)) dX10_feed_19 ⟨Nat.zero_le _, Nat.zero_le _⟩) hS hP hD [1, 2] rfl (fun _ => rfl) (fun u_3 H locs wu_3 hP hD hS => ?_)
    obtain ⟨k_9, f_4⟩ := u_3
    obtain rfl : k_9 = 4 := wu_3
    refine lv_aload_n hx hb dX10_feed_22 rfl (lv_at hl 0 rfl) ?_
    refine va_get (D := G) (ci := 10) (v := .ref (a 1)) (C := RX10) (T := TX10) (N := 11) hx hb hts (by decide +kernel) hown hK.1 hP 0 rfl rfl 0 (by decide) (hts (.fieldLink RX10 10 "CardHolder" "tape" "LCardHolder$Tape;") (by decide +kernel)) (fun _ h9 => h9) rfl dX10_feed_23 ?_
    refine lv_iload_n hx hb dX10_feed_26 rfl (lv_at hl 2 rfl) ?_
    refine wr_callv (w1 := (fun u : Nat × (Nat → Int32) => [((a 1), .inr (8, [.ref (a 2), .int (nI u.1)])), ((a 2), .inl (ct 1, 900, .inl u.2))])) (va_runV (As := [.int p1]) (rest := []) ⟨hx, hb, hml, hown, hts⟩ (c_X8_add l G ct (a 1) (a 2) 4 f_4 p1 (by omega)) (cwV 1 hts gX10_feed_X8_add rfl rfl rfl (by decide +kernel) ⟨Nat.le_of_ble_eq_true rfl, Nat.le_of_ble_eq_true rfl⟩) (wr_preV 8 0 hK (hP.sub [1, 2] rfl) (hD.sub [1, 2] (by decide) rfl) rfl rfl) rfl rfl hl.1 rfl (lv_room (Nat.le_of_ble_eq_true rfl)) dX10_feed_27 ⟨Nat.zero_le _, Nat.zero_le _⟩) hS hP hD [1, 2] rfl (fun _ => rfl) (fun u_5 H locs wu_5 hP hD hS => ?_)
    obtain ⟨k_9, f_6⟩ := u_5
    obtain rfl : k_9 = 8 := wu_5
    refine lv_aload_n hx hb dX10_feed_30 rfl (lv_at hl 0 rfl) ?_
    refine va_get (D := G) (ci := 10) (v := .ref (a 1)) (C := RX10) (T := TX10) (N := 11) hx hb hts (by decide +kernel) hown hK.1 hP 0 rfl rfl 0 (by decide) (hts (.fieldLink RX10 10 "CardHolder" "tape" "LCardHolder$Tape;") (by decide +kernel)) (fun _ h9 => h9) rfl dX10_feed_31 ?_
    refine lv_iload_n hx hb dX10_feed_34 rfl (lv_at hl 3 rfl) ?_
    refine wr_callv (w1 := (fun u : Nat × (Nat → Int32) => [((a 1), .inr (8, [.ref (a 2), .int (nI u.1)])), ((a 2), .inl (ct 1, 900, .inl u.2))])) (va_runV (As := [.int p2]) (rest := []) ⟨hx, hb, hml, hown, hts⟩ (c_X8_add l G ct (a 1) (a 2) 8 f_6 p2 (by omega)) (cwV 1 hts gX10_feed_X8_add rfl rfl rfl (by decide +kernel) ⟨Nat.le_of_ble_eq_true rfl, Nat.le_of_ble_eq_true rfl⟩) (wr_preV 8 0 hK (hP.sub [1, 2] rfl) (hD.sub [1, 2] (by decide) rfl) rfl rfl) rfl rfl hl.1 rfl (lv_room (Nat.le_of_ble_eq_true rfl)) dX10_feed_35 ⟨Nat.zero_le _, Nat.zero_le _⟩) hS hP hD [1, 2] rfl (fun _ => rfl) (fun u_7 H locs wu_7 hP hD hS => ?_)
    obtain ⟨k_9, f_8⟩ := u_7
    obtain rfl : k_9 = 12 := wu_7
    refine lv_aload_n hx hb dX10_feed_38 rfl (lv_at hl 0 rfl) ?_
    refine va_get (D := G) (ci := 10) (v := .ref (a 1)) (C := RX10) (T := TX10) (N := 11) hx hb hts (by decide +kernel) hown hK.1 hP 0 rfl rfl 0 (by decide) (hts (.fieldLink RX10 10 "CardHolder" "tape" "LCardHolder$Tape;") (by decide +kernel)) (fun _ h9 => h9) rfl dX10_feed_39 ?_
    refine lv_iload hx hb dX10_feed_42 (lv_at hl 4 rfl) ?_
    refine wr_callv (w1 := (fun u : Nat × (Nat → Int32) => [((a 1), .inr (8, [.ref (a 2), .int (nI u.1)])), ((a 2), .inl (ct 1, 900, .inl u.2))])) (va_runV (As := [.int p3]) (rest := []) ⟨hx, hb, hml, hown, hts⟩ (c_X8_add l G ct (a 1) (a 2) 12 f_8 p3 (by omega)) (cwV 1 hts gX10_feed_X8_add rfl rfl rfl (by decide +kernel) ⟨Nat.le_of_ble_eq_true rfl, Nat.le_of_ble_eq_true rfl⟩) (wr_preV 8 0 hK (hP.sub [1, 2] rfl) (hD.sub [1, 2] (by decide) rfl) rfl rfl) rfl rfl hl.1 rfl (lv_room (Nat.le_of_ble_eq_true rfl)) dX10_feed_44 ⟨Nat.zero_le _, Nat.zero_le _⟩) hS hP hD [1, 2] rfl (fun _ => rfl) (fun u_9 H locs wu_9 hP hD hS => ?_)
    obtain ⟨k_9, f_10⟩ := u_9
    obtain rfl : k_9 = 16 := wu_9
    refine lv_aload_n hx hb dX10_feed_47 rfl (lv_at hl 0 rfl) ?_
    refine va_get (D := G) (ci := 10) (v := .ref (a 1)) (C := RX10) (T := TX10) (N := 11) hx hb hts (by decide +kernel) hown hK.1 hP 0 rfl rfl 0 (by decide) (hts (.fieldLink RX10 10 "CardHolder" "tape" "LCardHolder$Tape;") (by decide +kernel)) (fun _ h9 => h9) rfl dX10_feed_48 ?_
    refine lv_iload hx hb dX10_feed_51 (lv_at hl 5 rfl) ?_
    refine wr_callv (w1 := (fun u : Nat × (Nat → Int32) => [((a 1), .inr (8, [.ref (a 2), .int (nI u.1)])), ((a 2), .inl (ct 1, 900, .inl u.2))])) (va_runV (As := [.int p4]) (rest := []) ⟨hx, hb, hml, hown, hts⟩ (c_X8_add l G ct (a 1) (a 2) 16 f_10 p4 (by omega)) (cwV 1 hts gX10_feed_X8_add rfl rfl rfl (by decide +kernel) ⟨Nat.le_of_ble_eq_true rfl, Nat.le_of_ble_eq_true rfl⟩) (wr_preV 8 0 hK (hP.sub [1, 2] rfl) (hD.sub [1, 2] (by decide) rfl) rfl rfl) rfl rfl hl.1 rfl (lv_room (Nat.le_of_ble_eq_true rfl)) dX10_feed_53 ⟨Nat.zero_le _, Nat.zero_le _⟩) hS hP hD [1, 2] rfl (fun _ => rfl) (fun u_11 H locs wu_11 hP hD hS => ?_)
    obtain ⟨k_9, f_12⟩ := u_11
    obtain rfl : k_9 = 20 := wu_11
    refine lv_aload_n hx hb dX10_feed_56 rfl (lv_at hl 0 rfl) ?_
    refine va_get (D := G) (ci := 10) (v := .ref (a 1)) (C := RX10) (T := TX10) (N := 11) hx hb hts (by decide +kernel) hown hK.1 hP 0 rfl rfl 0 (by decide) (hts (.fieldLink RX10 10 "CardHolder" "tape" "LCardHolder$Tape;") (by decide +kernel)) (fun _ h9 => h9) rfl dX10_feed_57 ?_
    refine va_get (D := G) (ci := 8) (v := .int (nI 20)) (C := RX8) (T := TX8) (N := 2) hx hb hts (by decide +kernel) hown hK.1 hP 1 rfl rfl 1 (by decide) (hts (.fieldLink RX10 96 "CardHolder$Tape" "size" "I") (by decide +kernel)) (fun _ h9 => h9) rfl dX10_feed_60 ?_
    exact W.iret (v := nI 20) hx hb hr (fun t ht hW => ⟨⟨nI 20, (), rfl, rfl, trivial⟩, hS.F ht⟩) hS.2.2 dX10_feed_63
  · exact absurd c_2 (by decide)

set_option maxHeartbeats 4000000 in
set_option maxRecDepth 100000 in
theorem c_X8_cutTo (l : Launch) (G : va_G) (ct : Nat → ClassId) (h0 : Nat) (b0 : Nat) (k : Nat) (p0 : Int32) (hk : k ≤ 900) : Met l yX8_cutTo wsX8_cutTo ({ frames := 0, cells := 0, slots := 0, locals := 0 }) (va_Pc [.ref h0, .int p0] (wrP G ct [(h0, .inr (8, [.ref b0, .int (nI k)]))])) (va_Qi (fun (r : Int32) (u : Int32) => cutP k p0 r u) (fun u t => va_P G vwCl ((fun u : Int32 => [(h0, .inr (8, [.ref b0, .int u]))]) u) t.heap) (aset [(h0, .inr (8, [.ref b0, .int (nI k)]))])) 0 0 (aset [(h0, .inr (8, [.ref b0, .int (nI k)]))]) := by
  refine Met.ofW (cc := cX8_cutTo) (maxL := 2) (ret := (some .boolean)) (by decide) rfl ?_
  intro p e s m args below meth c s₁ B hml hv
  obtain ⟨rfl, hP, hK, hD0⟩ := hv
  have hx := B.exec
  have hb := B.bytes
  have hr := B.returns
  have hts := atoms_spec (ws := wsX8_cutTo) B.pre
  have hown : s.vm.findClass RX8 = some m.cls := findClass_of_methodNamed B.named
  have hlocks := B.notSynchronized
  have hD := hD0.aself
  generalize hAe : aset [(h0, .inr (8, [.ref b0, .int (nI k)]))] = A at hD ⊢
  have hS : va_S A s.heap s.heap [] := va_S.rf
  have hl := lv_entry ([.ref h0, .int p0]) (n := 2) (Nat.le_of_ble_eq_true rfl)
  rw [lg_entry_eq]
  generalize (lg_sl ([.ref h0, .int p0]) ++ List.replicate (2 - (lg_sl ([.ref h0, .int p0])).length) Slot.unset).toArray = ls at hl ⊢
  have hl : lv_has ls 2 [(0, .ref h0), (1, .int p0)] := hl
  refine lv_iload_n hx hb dX8_cutTo_0 rfl (lv_at hl 1 rfl) ?_
  refine lv_if_lt (tgt := 12) hx hb dX8_cutTo_1 (by decide) (fun c_1 => ?_) (fun c_1 => ?_)
  · refine lv_iconst (v := 0) hx hb dX8_cutTo_12 (by decide) ?_
    exact W.zret (v := 0) (ty := .boolean) hx hb hr (rfl) (fun t ht hW => ⟨⟨0, (nI k), rfl, (by have f0 := i_lt c_1; have : (0 : Int32).toInt = 0 := (by decide); first | exact Or.inl ⟨by omega, by omega, by omega, rfl⟩ | exact Or.inr ⟨by omega, by omega, rfl⟩), hp_at ht hP⟩, hS.F ht⟩) hS.2.2 dX8_cutTo_13
  · refine lv_iload_n hx hb dX8_cutTo_4 rfl (lv_at hl 1 rfl) ?_
    refine lv_aload_n hx hb dX8_cutTo_5 rfl (lv_at hl 0 rfl) ?_
    refine va_get (D := G) (ci := 8) (v := .int (nI k)) (C := RX8) (T := TX8) (N := 2) hx hb hts (by decide +kernel) hown hK.1 hP 0 rfl rfl 1 (by decide) (hts (.fieldLink RX8 15 "CardHolder$Tape" "size" "I") (by decide +kernel)) (fun _ h9 => h9) rfl dX8_cutTo_6 ?_
    refine lv_icmp_le (tgt := 14) hx hb dX8_cutTo_9 (by decide) (fun c_2 => ?_) (fun c_2 => ?_)
    · refine lv_aload_n hx hb dX8_cutTo_14 rfl (lv_at hl 0 rfl) ?_
      refine lv_iload_n hx hb dX8_cutTo_15 rfl (lv_at hl 1 rfl) ?_
      refine va_put (D := G) (ci := 8) (v := .int p0) (ty := .int) (C := RX8) (T := TX8) (N := 2) hx hb hts (by decide +kernel) tyX8 tyX8_ok nmX8 hown hK.1 hP hD hS 0 rfl rfl 1 (by decide) (hts (.fieldLink RX8 15 "CardHolder$Tape" "size" "I") (by decide +kernel)) (fun _ h9 => h9) rfl (by decide +kernel) rfl rfl (Nat.le_of_ble_eq_true rfl) dX8_cutTo_16 (fun H locs hP hD hS => ?_)
      refine lv_iconst (v := 1) hx hb dX8_cutTo_19 (by decide) ?_
      exact W.zret (v := 1) (ty := .boolean) hx hb hr (rfl) (fun t ht hW => ⟨⟨1, (p0), rfl, (by have f0 := i_nlt c_1; have f1 := i_le c_2; have := nI_toInt (n := k) (by omega); have : (0 : Int32).toInt = 0 := (by decide); have : (1 : Int32).toInt = 1 := (by decide); first | exact Or.inl ⟨by omega, by omega, by omega, rfl⟩ | exact Or.inr ⟨by omega, by omega, rfl⟩), hp_at ht hP⟩, hS.F ht⟩) hS.2.2 dX8_cutTo_20
    · refine lv_iconst (v := 0) hx hb dX8_cutTo_12 (by decide) ?_
      exact W.zret (v := 0) (ty := .boolean) hx hb hr (rfl) (fun t ht hW => ⟨⟨0, (nI k), rfl, (by have f0 := i_nlt c_1; have f1 := i_nle c_2; have := nI_toInt (n := k) (by omega); have : (0 : Int32).toInt = 0 := (by decide); first | exact Or.inl ⟨by omega, by omega, by omega, rfl⟩ | exact Or.inr ⟨by omega, by omega, rfl⟩), hp_at ht hP⟩, hS.F ht⟩) hS.2.2 dX8_cutTo_13

set_option maxHeartbeats 4000000 in
set_option maxRecDepth 100000 in
theorem c_X10_end (l : Launch) (G : va_G) (ct : Nat → ClassId) (a : Nat → Nat) (rr : Nat → Nat) (p0 : Int32)  : Met l yX10_end wsX10_end ({ frames := 1, cells := 0, slots := 0, locals := 21 }) (va_Pc [.ref (a 0), .int p0] (wrP G ct (xF a rr ct))) (va_Qi (fun (r : Int32) (u : Unit) => r = fEnd p0) (fun _ _ => True) (aset (xF a rr ct))) 0 0 (aset (xF a rr ct)) := by
  refine Met.ofW (cc := cX10_end) (maxL := 2) (ret := (some .int)) (by decide) rfl ?_
  intro p e s m args below meth c s₁ B hml hv
  obtain ⟨rfl, hP, hK, hD0⟩ := hv
  have hx := B.exec
  have hb := B.bytes
  have hr := B.returns
  have hts := atoms_spec (ws := wsX10_end) B.pre
  have hown : s.vm.findClass RX10 = some m.cls := findClass_of_methodNamed B.named
  have hlocks := B.notSynchronized
  have hD := hD0.aself
  generalize hAe : aset (xF a rr ct) = A at hD ⊢
  have hS : va_S A s.heap s.heap [] := va_S.rf
  have hl := lv_entry ([.ref (a 0), .int p0]) (n := 2) (Nat.le_of_ble_eq_true rfl)
  rw [lg_entry_eq]
  generalize (lg_sl ([.ref (a 0), .int p0]) ++ List.replicate (2 - (lg_sl ([.ref (a 0), .int p0])).length) Slot.unset).toArray = ls at hl ⊢
  have hl : lv_has ls 2 [(0, .ref (a 0)), (1, .int p0)] := hl
  refine lv_aload_n hx hb dX10_end_0 rfl (lv_at hl 0 rfl) ?_
  refine va_get (D := G) (ci := 10) (v := .ref (a 1)) (C := RX10) (T := TX10) (N := 11) hx hb hts (by decide +kernel) hown hK.1 hP 0 rfl rfl 0 (by decide) (hts (.fieldLink RX10 10 "CardHolder" "tape" "LCardHolder$Tape;") (by decide +kernel)) (fun _ h9 => h9) rfl dX10_end_1 ?_
  refine lv_iload_n hx hb dX10_end_4 rfl (lv_at hl 1 rfl) ?_
  refine wr_calli (w1 := (fun u : Int32 => [((a 1), .inr (8, [.ref (a 2), .int u]))])) (va_runV (As := [.int p0]) (rest := []) ⟨hx, hb, hml, hown, hts⟩ (c_X8_cutTo l G ct (a 1) (a 2) 0 p0 (by omega)) (cwV 1 hts gX10_end_X8_cutTo rfl rfl rfl (by decide +kernel) ⟨Nat.le_of_ble_eq_true rfl, Nat.le_of_ble_eq_true rfl⟩) (wr_preV 8 0 hK (hP.sub [1] rfl) (hD.sub [1] (by decide) rfl) rfl rfl) rfl rfl hl.1 rfl (lv_room (Nat.le_of_ble_eq_true rfl)) dX10_end_5 ⟨Nat.zero_le _, Nat.zero_le _⟩) hS hP hD [1] rfl (fun _ => rfl) (fun r_1 ur_1 H locs wr_1 hP hD hS => ?_)
  refine lv_if_eq (tgt := 15) hx hb dX10_end_8 (by decide) (fun c_2 => ?_) (fun c_2 => ?_)
  · refine lv_iconst (v := (-1)) hx hb dX10_end_15 (by decide) ?_
    exact W.iret (v := (-1)) hx hb hr (fun t ht hW => ⟨⟨(-1), (), rfl, by have f0 := i_eq c_2; have gwr_1 := wr_1; unfold cutP at gwr_1; have : ((-1) : Int32).toInt = -1 := (by decide); have : (0 : Int32).toInt = 0 := (by decide); show ((-1) : Int32) = fEnd p0; unfold fEnd; (repeat' split) <;> first | rfl | (exfalso; omega), trivial⟩, hS.F ht⟩) hS.2.2 dX10_end_16
  · refine lv_iload_n hx hb dX10_end_11 rfl (lv_at hl 1 rfl) ?_
    refine lv_goto (tgt := 16) hx hb dX10_end_12 (by decide) ?_
    exact W.iret (v := p0) hx hb hr (fun t ht hW => ⟨⟨p0, (), rfl, (by have f0 := i_ne c_2; have gwr_1 := wr_1; unfold cutP at gwr_1; have : (0 : Int32).toInt = 0 := (by decide); show p0 = fEnd p0; unfold fEnd; split <;> first | exact e_of (by omega) | (exfalso; omega)), trivial⟩, hS.F ht⟩) hS.2.2 dX10_end_16
