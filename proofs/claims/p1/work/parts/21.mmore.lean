theorem dX11_back_0 : decode cX11_back 0 = .ok (.aload_n 0, 1) := by decide +kernel
theorem dX11_back_1 : decode cX11_back 1 = .ok (.iconst 0, 1) := by decide +kernel
theorem dX11_back_2 : decode cX11_back 2 = .ok (.putfield 59, 3) := by decide +kernel
theorem dX11_back_5 : decode cX11_back 5 = .ok (.iload_n 1, 1) := by decide +kernel
theorem dX11_back_6 : decode cX11_back 6 = .ok (.i2l, 1) := by decide +kernel
theorem dX11_back_7 : decode cX11_back 7 = .ok (.lconst 0, 1) := by decide +kernel
theorem dX11_back_8 : decode cX11_back 8 = .ok (.ldc2_w 408, 3) := by decide +kernel
set_option maxRecDepth 20000 in
theorem ggX11_back_X11_in : GoodIn wsX11_back wsX11_in := goodIn_r _ [7] (by decide +kernel) (by decide +kernel)
set_option maxRecDepth 20000 in
theorem gX11_back_X11_in : GoodIn wsX11_back (va_wsS RX11 64 yX11_in wsX11_in) := goodIn_app (goodIn_of _ (by decide +kernel)) ggX11_back_X11_in
theorem dX11_back_11 : decode cX11_back 11 = .ok (.invokestatic 64, 3) := by decide +kernel
theorem dX11_back_14 : decode cX11_back 14 = .ok (.ifCond .ne 6, 3) := by decide +kernel
theorem dX11_back_20 : decode cX11_back 20 = .ok (.aload_n 0, 1) := by decide +kernel
theorem dX11_back_21 : decode cX11_back 21 = .ok (.getfield 43, 3) := by decide +kernel
theorem dX11_back_24 : decode cX11_back 24 = .ok (.iload_n 1, 1) := by decide +kernel
theorem dX11_back_25 : decode cX11_back 25 = .ok (.baload, 1) := by decide +kernel
theorem dX11_back_26 : decode cX11_back 26 = .ok (.ifCond .ne 6, 3) := by decide +kernel
theorem dX11_back_29 : decode cX11_back 29 = .ok (.bipush (-6), 2) := by decide +kernel
theorem dX11_back_31 : decode cX11_back 31 = .ok (.ireturn, 1) := by decide +kernel
theorem dX11_back_17 : decode cX11_back 17 = .ok (.bipush (-2), 2) := by decide +kernel
theorem dX11_back_19 : decode cX11_back 19 = .ok (.ireturn, 1) := by decide +kernel
theorem dX11_write_0 : decode cX11_write 0 = .ok (.aload_n 0, 1) := by decide +kernel
theorem dX11_write_1 : decode cX11_write 1 = .ok (.iconst 0, 1) := by decide +kernel
theorem dX11_write_2 : decode cX11_write 2 = .ok (.putfield 59, 3) := by decide +kernel
theorem dX11_write_5 : decode cX11_write 5 = .ok (.iload_n 1, 1) := by decide +kernel
set_option maxRecDepth 20000 in
theorem ggX11_write_X11_isSlot : GoodIn wsX11_write wsX11_isSlot := goodIn_r _ [8, 9, 10, 11, 7, 12] (by decide +kernel) (by decide +kernel)
set_option maxRecDepth 20000 in
theorem gX11_write_X11_isSlot : GoodIn wsX11_write (va_wsS RX11 68 yX11_isSlot wsX11_isSlot) := goodIn_app (goodIn_of _ (by decide +kernel)) ggX11_write_X11_isSlot
theorem dX11_write_6 : decode cX11_write 6 = .ok (.invokestatic 68, 3) := by decide +kernel
theorem dX11_write_9 : decode cX11_write 9 = .ok (.ifCond .ne 6, 3) := by decide +kernel
theorem dX11_write_15 : decode cX11_write 15 = .ok (.aload_n 0, 1) := by decide +kernel
theorem dX11_write_16 : decode cX11_write 16 = .ok (.getfield 7, 3) := by decide +kernel
theorem dX11_write_19 : decode cX11_write 19 = .ok (.iload_n 1, 1) := by decide +kernel
theorem dX11_write_20 : decode cX11_write 20 = .ok (.iaload, 1) := by decide +kernel
theorem dX11_write_21 : decode cX11_write 21 = .ok (.iconst (-1), 1) := by decide +kernel
theorem dX11_write_22 : decode cX11_write 22 = .ok (.if_icmp .ne 6, 3) := by decide +kernel
theorem dX11_write_25 : decode cX11_write 25 = .ok (.bipush (-6), 2) := by decide +kernel
theorem dX11_write_27 : decode cX11_write 27 = .ok (.ireturn, 1) := by decide +kernel
theorem dX11_write_12 : decode cX11_write 12 = .ok (.bipush (-2), 2) := by decide +kernel
theorem dX11_write_14 : decode cX11_write 14 = .ok (.ireturn, 1) := by decide +kernel
theorem dX11_paste_0 : decode cX11_paste 0 = .ok (.aload_n 0, 1) := by decide +kernel
theorem dX11_paste_1 : decode cX11_paste 1 = .ok (.iconst 0, 1) := by decide +kernel
theorem dX11_paste_2 : decode cX11_paste 2 = .ok (.putfield 59, 3) := by decide +kernel
theorem dX11_paste_5 : decode cX11_paste 5 = .ok (.iload_n 1, 1) := by decide +kernel
set_option maxRecDepth 20000 in
theorem ggX11_paste_X11_isSlot : GoodIn wsX11_paste wsX11_isSlot := goodIn_r _ [9, 10, 11, 12, 8, 13] (by decide +kernel) (by decide +kernel)
set_option maxRecDepth 20000 in
theorem gX11_paste_X11_isSlot : GoodIn wsX11_paste (va_wsS RX11 68 yX11_isSlot wsX11_isSlot) := goodIn_app (goodIn_of _ (by decide +kernel)) ggX11_paste_X11_isSlot
theorem dX11_paste_6 : decode cX11_paste 6 = .ok (.invokestatic 68, 3) := by decide +kernel
theorem dX11_paste_9 : decode cX11_paste 9 = .ok (.ifCond .eq 10, 3) := by decide +kernel
theorem dX11_paste_19 : decode cX11_paste 19 = .ok (.bipush (-2), 2) := by decide +kernel
theorem dX11_paste_21 : decode cX11_paste 21 = .ok (.ireturn, 1) := by decide +kernel
theorem dX11_paste_12 : decode cX11_paste 12 = .ok (.iload_n 3, 1) := by decide +kernel
theorem dX11_paste_13 : decode cX11_paste 13 = .ok (.invokestatic 68, 3) := by decide +kernel
theorem dX11_paste_16 : decode cX11_paste 16 = .ok (.ifCond .ne 6, 3) := by decide +kernel
theorem dX11_paste_22 : decode cX11_paste 22 = .ok (.aload_n 0, 1) := by decide +kernel
theorem dX11_paste_23 : decode cX11_paste 23 = .ok (.getfield 7, 3) := by decide +kernel
theorem dX11_paste_26 : decode cX11_paste 26 = .ok (.iload_n 1, 1) := by decide +kernel
theorem dX11_paste_27 : decode cX11_paste 27 = .ok (.iaload, 1) := by decide +kernel
theorem dX11_paste_28 : decode cX11_paste 28 = .ok (.iconst (-1), 1) := by decide +kernel
theorem dX11_paste_29 : decode cX11_paste 29 = .ok (.if_icmp .eq 13, 3) := by decide +kernel
theorem dX11_paste_42 : decode cX11_paste 42 = .ok (.bipush (-6), 2) := by decide +kernel
theorem dX11_paste_44 : decode cX11_paste 44 = .ok (.ireturn, 1) := by decide +kernel
theorem dX11_fault_0 : decode cX11_fault 0 = .ok (.aload_n 0, 1) := by decide +kernel
theorem dX11_fault_1 : decode cX11_fault 1 = .ok (.iconst 0, 1) := by decide +kernel
theorem dX11_fault_2 : decode cX11_fault 2 = .ok (.putfield 59, 3) := by decide +kernel
theorem dX11_fault_5 : decode cX11_fault 5 = .ok (.iload_n 1, 1) := by decide +kernel
theorem dX11_fault_6 : decode cX11_fault 6 = .ok (.ifCond .ne 10, 3) := by decide +kernel
theorem dX11_fault_16 : decode cX11_fault 16 = .ok (.iload_n 1, 1) := by decide +kernel
theorem dX11_fault_17 : decode cX11_fault 17 = .ok (.iconst 1, 1) := by decide +kernel
theorem dX11_fault_18 : decode cX11_fault 18 = .ok (.if_icmp .ne 10, 3) := by decide +kernel
theorem dX11_fault_28 : decode cX11_fault 28 = .ok (.iconst (-1), 1) := by decide +kernel
theorem dX11_fault_29 : decode cX11_fault 29 = .ok (.ireturn, 1) := by decide +kernel
theorem dX11_fault_21 : decode cX11_fault 21 = .ok (.aload_n 0, 1) := by decide +kernel
theorem dX11_fault_22 : decode cX11_fault 22 = .ok (.getfield 27, 3) := by decide +kernel
theorem dX11_fault_25 : decode cX11_fault 25 = .ok (.goto 4, 3) := by decide +kernel
theorem dX11_fault_9 : decode cX11_fault 9 = .ok (.aload_n 0, 1) := by decide +kernel
theorem dX11_fault_10 : decode cX11_fault 10 = .ok (.getfield 138, 3) := by decide +kernel
theorem dX11_fault_13 : decode cX11_fault 13 = .ok (.goto 16, 3) := by decide +kernel
theorem dX11_end_0 : decode cX11_end 0 = .ok (.aload_n 0, 1) := by decide +kernel
theorem dX11_end_1 : decode cX11_end 1 = .ok (.iconst 0, 1) := by decide +kernel
theorem dX11_end_2 : decode cX11_end 2 = .ok (.putfield 59, 3) := by decide +kernel
theorem dX11_end_5 : decode cX11_end 5 = .ok (.iload_n 1, 1) := by decide +kernel
theorem dX11_end_6 : decode cX11_end 6 = .ok (.i2l, 1) := by decide +kernel
theorem dX11_end_7 : decode cX11_end 7 = .ok (.lconst 0, 1) := by decide +kernel
theorem dX11_end_8 : decode cX11_end 8 = .ok (.aload_n 0, 1) := by decide +kernel
theorem dX11_end_9 : decode cX11_end 9 = .ok (.getfield 76, 3) := by decide +kernel
theorem dX11_end_12 : decode cX11_end 12 = .ok (.i2l, 1) := by decide +kernel
set_option maxRecDepth 20000 in
theorem ggX11_end_X11_in : GoodIn wsX11_end wsX11_in := goodIn_r _ [6] (by decide +kernel) (by decide +kernel)
set_option maxRecDepth 20000 in
theorem gX11_end_X11_in : GoodIn wsX11_end (va_wsS RX11 64 yX11_in wsX11_in) := goodIn_app (goodIn_of _ (by decide +kernel)) ggX11_end_X11_in
theorem dX11_end_13 : decode cX11_end 13 = .ok (.invokestatic 64, 3) := by decide +kernel
theorem dX11_end_16 : decode cX11_end 16 = .ok (.ifCond .ne 5, 3) := by decide +kernel
theorem dX11_end_21 : decode cX11_end 21 = .ok (.aload_n 0, 1) := by decide +kernel
theorem dX11_end_22 : decode cX11_end 22 = .ok (.iload_n 1, 1) := by decide +kernel
theorem dX11_end_23 : decode cX11_end 23 = .ok (.putfield 76, 3) := by decide +kernel
theorem dX11_end_26 : decode cX11_end 26 = .ok (.iload_n 1, 1) := by decide +kernel
theorem dX11_end_27 : decode cX11_end 27 = .ok (.ireturn, 1) := by decide +kernel
theorem dX11_end_19 : decode cX11_end 19 = .ok (.iconst (-1), 1) := by decide +kernel
theorem dX11_end_20 : decode cX11_end 20 = .ok (.ireturn, 1) := by decide +kernel
theorem dX11_four_0 : decode cX11_four 0 = .ok (.bipush 24, 2) := by decide +kernel
theorem dX11_four_2 : decode cX11_four 2 = .ok (.istore_n 2, 1) := by decide +kernel
theorem dX11_four_3 : decode cX11_four 3 = .ok (.iload_n 2, 1) := by decide +kernel
theorem dX11_four_4 : decode cX11_four 4 = .ok (.ifCond .lt 32, 3) := by decide +kernel
theorem dX11_four_7 : decode cX11_four 7 = .ok (.aload_n 0, 1) := by decide +kernel
theorem dX11_four_8 : decode cX11_four 8 = .ok (.getfield 23, 3) := by decide +kernel
theorem dX11_four_11 : decode cX11_four 11 = .ok (.aload_n 0, 1) := by decide +kernel
theorem dX11_four_12 : decode cX11_four 12 = .ok (.getfield 76, 3) := by decide +kernel
theorem dX11_four_15 : decode cX11_four 15 = .ok (.iload_n 1, 1) := by decide +kernel
theorem dX11_four_16 : decode cX11_four 16 = .ok (.iload_n 2, 1) := by decide +kernel
theorem dX11_four_17 : decode cX11_four 17 = .ok (.ishr, 1) := by decide +kernel
theorem dX11_four_18 : decode cX11_four 18 = .ok (.i2b, 1) := by decide +kernel
theorem dX11_four_19 : decode cX11_four 19 = .ok (.bastore, 1) := by decide +kernel
theorem dX11_four_20 : decode cX11_four 20 = .ok (.aload_n 0, 1) := by decide +kernel
theorem dX11_four_21 : decode cX11_four 21 = .ok (.dup, 1) := by decide +kernel
theorem dX11_four_22 : decode cX11_four 22 = .ok (.getfield 76, 3) := by decide +kernel
theorem dX11_four_25 : decode cX11_four 25 = .ok (.iconst 1, 1) := by decide +kernel
theorem dX11_four_26 : decode cX11_four 26 = .ok (.iadd, 1) := by decide +kernel
theorem dX11_four_27 : decode cX11_four 27 = .ok (.putfield 76, 3) := by decide +kernel
theorem dX11_four_30 : decode cX11_four 30 = .ok (.iinc 2 (-8), 3) := by decide +kernel
theorem dX11_four_33 : decode cX11_four 33 = .ok (.goto (-30), 3) := by decide +kernel
theorem dX11_four_36 : decode cX11_four 36 = .ok (.return_, 1) := by decide +kernel
theorem dX11_feed_0 : decode cX11_feed 0 = .ok (.aload_n 0, 1) := by decide +kernel
theorem dX11_feed_1 : decode cX11_feed 1 = .ok (.iconst 0, 1) := by decide +kernel
theorem dX11_feed_2 : decode cX11_feed 2 = .ok (.putfield 59, 3) := by decide +kernel
theorem dX11_feed_5 : decode cX11_feed 5 = .ok (.aload_n 0, 1) := by decide +kernel
theorem dX11_feed_6 : decode cX11_feed 6 = .ok (.getfield 76, 3) := by decide +kernel
theorem dX11_feed_9 : decode cX11_feed 9 = .ok (.bipush 20, 2) := by decide +kernel
theorem dX11_feed_11 : decode cX11_feed 11 = .ok (.iadd, 1) := by decide +kernel
theorem dX11_feed_12 : decode cX11_feed 12 = .ok (.sipush 900, 3) := by decide +kernel
theorem dX11_feed_15 : decode cX11_feed 15 = .ok (.if_icmp .le 5, 3) := by decide +kernel
theorem dX11_feed_20 : decode cX11_feed 20 = .ok (.aload_n 0, 1) := by decide +kernel
theorem dX11_feed_21 : decode cX11_feed 21 = .ok (.iload_n 1, 1) := by decide +kernel
set_option maxRecDepth 20000 in
theorem ggX11_feed_X11_four : GoodIn wsX11_feed wsX11_four := goodIn_r _ [7, 8, 2, 9, 10, 11, 12, 13, 14, 15, 16, 17, 18, 19, 20, 21, 22, 23, 24, 25, 26, 27, 28, 29, 30, 31, 32, 33, 34, 35, 36, 37, 38, 39] (by decide +kernel) (by decide +kernel)
set_option maxRecDepth 20000 in
theorem gX11_feed_X11_four : GoodIn wsX11_feed (wsV RX11 79 RX11 yX11_four wsX11_four) := goodIn_app (goodIn_of _ (by decide +kernel)) ggX11_feed_X11_four
theorem dX11_feed_22 : decode cX11_feed 22 = .ok (.invokevirtual 79, 3) := by decide +kernel
theorem dX11_feed_25 : decode cX11_feed 25 = .ok (.aload_n 0, 1) := by decide +kernel
theorem dX11_feed_26 : decode cX11_feed 26 = .ok (.iload_n 2, 1) := by decide +kernel
theorem dX11_feed_27 : decode cX11_feed 27 = .ok (.invokevirtual 79, 3) := by decide +kernel
theorem dX11_feed_30 : decode cX11_feed 30 = .ok (.aload_n 0, 1) := by decide +kernel
theorem dX11_feed_31 : decode cX11_feed 31 = .ok (.iload_n 3, 1) := by decide +kernel
theorem dX11_feed_32 : decode cX11_feed 32 = .ok (.invokevirtual 79, 3) := by decide +kernel
theorem dX11_feed_35 : decode cX11_feed 35 = .ok (.aload_n 0, 1) := by decide +kernel
theorem dX11_feed_36 : decode cX11_feed 36 = .ok (.iload 4, 2) := by decide +kernel
theorem dX11_feed_38 : decode cX11_feed 38 = .ok (.invokevirtual 79, 3) := by decide +kernel
theorem dX11_feed_41 : decode cX11_feed 41 = .ok (.aload_n 0, 1) := by decide +kernel
theorem dX11_feed_42 : decode cX11_feed 42 = .ok (.iload 5, 2) := by decide +kernel
theorem dX11_feed_44 : decode cX11_feed 44 = .ok (.invokevirtual 79, 3) := by decide +kernel
theorem dX11_feed_47 : decode cX11_feed 47 = .ok (.aload_n 0, 1) := by decide +kernel
theorem dX11_feed_48 : decode cX11_feed 48 = .ok (.getfield 76, 3) := by decide +kernel
theorem dX11_feed_51 : decode cX11_feed 51 = .ok (.ireturn, 1) := by decide +kernel
set_option maxHeartbeats 4000000 in
set_option maxRecDepth 100000 in
theorem c_X11_back (l : Launch) (G : va_G) (ct : Nat → ClassId) (b : Nat → Nat) (p0 : Int32)  : Met l yX11_back wsX11_back ({ frames := 2, cells := 0, slots := 0, locals := 46 }) (va_Pc [.ref (b 0), .int p0] (wrP G ct (mF b ct))) (va_Qi (fun (r : Int32) (u : Unit) => r = fBack p0) (fun _ _ => True) (aset (mF b ct))) 0 0 (aset (mF b ct)) := by
  refine Met.ofW (cc := cX11_back) (maxL := 2) (ret := (some .int)) (by decide) rfl ?_
  intro p e s m args below meth c s₁ B hml hv
  obtain ⟨rfl, hP, hK, hD0⟩ := hv
  have hx := B.exec
  have hb := B.bytes
  have hr := B.returns
  have hts := atoms_spec (ws := wsX11_back) B.pre
  have hown : s.vm.findClass RX11 = some m.cls := findClass_of_methodNamed B.named
  have hlocks := B.notSynchronized
  have hD := hD0.aself
  generalize hAe : aset (mF b ct) = A at hD ⊢
  have hS : va_S A s.heap s.heap [] := va_S.rf
  have hl := lv_entry ([.ref (b 0), .int p0]) (n := 2) (Nat.le_of_ble_eq_true rfl)
  rw [lg_entry_eq]
  generalize (lg_sl ([.ref (b 0), .int p0]) ++ List.replicate (2 - (lg_sl ([.ref (b 0), .int p0])).length) Slot.unset).toArray = ls at hl ⊢
  have hl : lv_has ls 2 [(0, .ref (b 0)), (1, .int p0)] := hl
  refine lv_aload_n hx hb dX11_back_0 rfl (lv_at hl 0 rfl) ?_
  refine lv_iconst (v := 0) hx hb dX11_back_1 (by decide) ?_
  refine va_put (D := G) (ci := 11) (v := .int 0) (ty := .int) (C := RX11) (T := TX11) (N := 31) hx hb hts (by decide +kernel) tyX11 tyX11_ok nmX11 hown hK.1 hP hD hS 0 rfl rfl 0 (by decide) (hts (.fieldLink RX11 59 "CardHolderModel" "thrown" "I") (by decide +kernel)) (fun _ h9 => h9) rfl (by decide +kernel) rfl rfl (Nat.le_of_ble_eq_true rfl) dX11_back_2 (fun H locs hP hD hS => ?_)
  have hP : va_P G vwCl (mF b ct) H := hP
  have hD : va_D A (mF b ct) := hD
  refine lv_iload_n hx hb dX11_back_5 rfl (lv_at hl 1 rfl) ?_
  refine lv_i2l hx hb dX11_back_6 rfl ?_
  refine lv_lconst (v := 0) hx hb dX11_back_7 (by decide) ?_
  refine lv_ldc2 (own := RX11) (v := 2) hx hb hown (hts (.constantLong RX11 408 (2)) (by decide +kernel)) dX11_back_8 ?_
  refine ro_calli (va_runS (As := [.long p0.toInt64, .long 0, .long 2]) (rest := []) ⟨hx, hb, hml, hown, hts⟩ (c_X11_in l G ct p0.toInt64 0 2) (va_cwS 3 hts gX11_back_X11_in rfl rfl rfl (by decide +kernel) ⟨Nat.le_of_ble_eq_true rfl, Nat.le_of_ble_eq_true rfl⟩) (ro_pre hK (hP.sub [] rfl)) rfl rfl hl.1 rfl (lv_room (Nat.le_of_ble_eq_true rfl)) dX11_back_11 ⟨Nat.zero_le _, Nat.zero_le _⟩) hS hP (fun r_1 H locs wr_1 hP hS => ?_)
  refine lv_if_ne (tgt := 20) hx hb dX11_back_14 (by decide) (fun c_2 => ?_) (fun c_2 => ?_)
  · refine lv_aload_n hx hb dX11_back_20 rfl (lv_at hl 0 rfl) ?_
    refine va_get (D := G) (ci := 11) (v := .ref (b 10)) (C := RX11) (T := TX11) (N := 31) hx hb hts (by decide +kernel) hown hK.1 hP 0 rfl rfl 20 (by decide) (hts (.fieldLink RX11 43 "CardHolderModel" "isKept" "[Z") (by decide +kernel)) (fun _ h9 => h9) rfl dX11_back_21 ?_
    refine lv_iload_n hx hb dX11_back_24 rfl (lv_at hl 1 rfl) ?_
    refine va_zald hx hb hK.1 hP 10 2 rfl rfl (in_of (by have f0 := i_ne c_2; have gwr_1 := wr_1; unfold inP at gwr_1; have := Int32.toInt_toInt64 p0; have : (0 : Int64).toInt = 0 := (by decide); have : (2 : Int64).toInt = 2 := (by decide); have : (0 : Int32).toInt = 0 := (by decide); omega) (by have f0 := i_ne c_2; have gwr_1 := wr_1; unfold inP at gwr_1; have := Int32.toInt_toInt64 p0; have : (0 : Int64).toInt = 0 := (by decide); have : (2 : Int64).toInt = 2 := (by decide); have : (0 : Int32).toInt = 0 := (by decide); omega)) dX11_back_25 ?_
    refine ix_i (y := 0) rfl ?_
    refine lv_if_ne (tgt := 32) hx hb dX11_back_26 (by decide) (fun c_3 => ?_) (fun c_3 => ?_)
    · exact absurd c_3 (by decide)
    · refine lv_bipush (v := (-6)) hx hb dX11_back_29 (by decide) ?_
      exact W.iret (v := (-6)) hx hb hr (fun t ht hW => ⟨⟨(-6), (), rfl, by have f0 := i_ne c_2; have f1 := i_eq c_3; have gwr_1 := wr_1; unfold inP at gwr_1; have := Int32.toInt_toInt64 p0; have : (0 : Int64).toInt = 0 := (by decide); have : (2 : Int64).toInt = 2 := (by decide); have : ((-6) : Int32).toInt = -6 := (by decide); have : (0 : Int32).toInt = 0 := (by decide); show ((-6) : Int32) = fBack p0; unfold fBack; (repeat' split) <;> first | rfl | (exfalso; omega), trivial⟩, hS.F ht⟩) hS.2.2 dX11_back_31
  · refine lv_bipush (v := (-2)) hx hb dX11_back_17 (by decide) ?_
    exact W.iret (v := (-2)) hx hb hr (fun t ht hW => ⟨⟨(-2), (), rfl, by have f0 := i_eq c_2; have gwr_1 := wr_1; unfold inP at gwr_1; have := Int32.toInt_toInt64 p0; have : (0 : Int64).toInt = 0 := (by decide); have : (2 : Int64).toInt = 2 := (by decide); have : ((-2) : Int32).toInt = -2 := (by decide); have : (0 : Int32).toInt = 0 := (by decide); show ((-2) : Int32) = fBack p0; unfold fBack; (repeat' split) <;> first | rfl | (exfalso; omega), trivial⟩, hS.F ht⟩) hS.2.2 dX11_back_19

set_option maxHeartbeats 4000000 in
set_option maxRecDepth 100000 in
theorem c_X11_write (l : Launch) (G : va_G) (ct : Nat → ClassId) (b : Nat → Nat) (p0 : Int32) (p1 : Int32) (p2 : Int64)  : Met l yX11_write wsX11_write ({ frames := 2, cells := 0, slots := 0, locals := 45 }) (va_Pc [.ref (b 0), .int p0, .int p1, .long p2] (wrP G ct (mF b ct))) (va_Qi (fun (r : Int32) (u : Unit) => r = fWrite p0) (fun _ _ => True) (aset (mF b ct))) 0 0 (aset (mF b ct)) := by
  refine Met.ofW (cc := cX11_write) (maxL := 5) (ret := (some .int)) (by decide) rfl ?_
  intro p e s m args below meth c s₁ B hml hv
  obtain ⟨rfl, hP, hK, hD0⟩ := hv
  have hx := B.exec
  have hb := B.bytes
  have hr := B.returns
  have hts := atoms_spec (ws := wsX11_write) B.pre
  have hown : s.vm.findClass RX11 = some m.cls := findClass_of_methodNamed B.named
  have hlocks := B.notSynchronized
  have hD := hD0.aself
  generalize hAe : aset (mF b ct) = A at hD ⊢
  have hS : va_S A s.heap s.heap [] := va_S.rf
  have hl := lv_entry ([.ref (b 0), .int p0, .int p1, .long p2]) (n := 5) (Nat.le_of_ble_eq_true rfl)
  rw [lg_entry_eq]
  generalize (lg_sl ([.ref (b 0), .int p0, .int p1, .long p2]) ++ List.replicate (5 - (lg_sl ([.ref (b 0), .int p0, .int p1, .long p2])).length) Slot.unset).toArray = ls at hl ⊢
  have hl : lv_has ls 5 [(0, .ref (b 0)), (1, .int p0), (2, .int p1), (3, .long p2)] := hl
  refine lv_aload_n hx hb dX11_write_0 rfl (lv_at hl 0 rfl) ?_
  refine lv_iconst (v := 0) hx hb dX11_write_1 (by decide) ?_
  refine va_put (D := G) (ci := 11) (v := .int 0) (ty := .int) (C := RX11) (T := TX11) (N := 31) hx hb hts (by decide +kernel) tyX11 tyX11_ok nmX11 hown hK.1 hP hD hS 0 rfl rfl 0 (by decide) (hts (.fieldLink RX11 59 "CardHolderModel" "thrown" "I") (by decide +kernel)) (fun _ h9 => h9) rfl (by decide +kernel) rfl rfl (Nat.le_of_ble_eq_true rfl) dX11_write_2 (fun H locs hP hD hS => ?_)
  have hP : va_P G vwCl (mF b ct) H := hP
  have hD : va_D A (mF b ct) := hD
  refine lv_iload_n hx hb dX11_write_5 rfl (lv_at hl 1 rfl) ?_
  refine ro_calli (va_runS (As := [.int p0]) (rest := []) ⟨hx, hb, hml, hown, hts⟩ (c_X11_isSlot l G ct p0) (va_cwS 1 hts gX11_write_X11_isSlot rfl rfl rfl (by decide +kernel) ⟨Nat.le_of_ble_eq_true rfl, Nat.le_of_ble_eq_true rfl⟩) (ro_pre hK (hP.sub [] rfl)) rfl rfl hl.1 rfl (lv_room (Nat.le_of_ble_eq_true rfl)) dX11_write_6 ⟨Nat.zero_le _, Nat.zero_le _⟩) hS hP (fun r_1 H locs wr_1 hP hS => ?_)
  refine lv_if_ne (tgt := 15) hx hb dX11_write_9 (by decide) (fun c_2 => ?_) (fun c_2 => ?_)
  · refine lv_aload_n hx hb dX11_write_15 rfl (lv_at hl 0 rfl) ?_
    refine va_get (D := G) (ci := 11) (v := .ref (b 1)) (C := RX11) (T := TX11) (N := 31) hx hb hts (by decide +kernel) hown hK.1 hP 0 rfl rfl 1 (by decide) (hts (.fieldLink RX11 7 "CardHolderModel" "width" "[I") (by decide +kernel)) (fun _ h9 => h9) rfl dX11_write_16 ?_
    refine lv_iload_n hx hb dX11_write_19 rfl (lv_at hl 1 rfl) ?_
    refine va_iald hx hb hK.1 hP 1 0 rfl rfl (in_of (by have f0 := i_ne c_2; have gwr_1 := wr_1; unfold slotP at gwr_1; have : (0 : Int32).toInt = 0 := (by decide); omega) (by have f0 := i_ne c_2; have gwr_1 := wr_1; unfold slotP at gwr_1; have : (0 : Int32).toInt = 0 := (by decide); omega)) dX11_write_20 ?_
    refine ix_i (y := (-1)) (WD_m1 (by have f0 := i_ne c_2; have gwr_1 := wr_1; unfold slotP at gwr_1; have : (0 : Int32).toInt = 0 := (by decide); omega) (by have f0 := i_ne c_2; have gwr_1 := wr_1; unfold slotP at gwr_1; have : (0 : Int32).toInt = 0 := (by decide); omega)) ?_
    refine lv_iconst (v := (-1)) hx hb dX11_write_21 (by decide) ?_
    refine lv_icmp_ne (tgt := 28) hx hb dX11_write_22 (by decide) (fun c_3 => ?_) (fun c_3 => ?_)
    · exact absurd c_3 (by decide)
    · refine lv_bipush (v := (-6)) hx hb dX11_write_25 (by decide) ?_
      exact W.iret (v := (-6)) hx hb hr (fun t ht hW => ⟨⟨(-6), (), rfl, by have f0 := i_ne c_2; have f1 := i_eq c_3; have gwr_1 := wr_1; unfold slotP at gwr_1; have : ((-6) : Int32).toInt = -6 := (by decide); have : ((-1) : Int32).toInt = -1 := (by decide); have : (0 : Int32).toInt = 0 := (by decide); show ((-6) : Int32) = fWrite p0; unfold fWrite; (repeat' split) <;> first | rfl | (exfalso; omega), trivial⟩, hS.F ht⟩) hS.2.2 dX11_write_27
  · refine lv_bipush (v := (-2)) hx hb dX11_write_12 (by decide) ?_
    exact W.iret (v := (-2)) hx hb hr (fun t ht hW => ⟨⟨(-2), (), rfl, by have f0 := i_eq c_2; have gwr_1 := wr_1; unfold slotP at gwr_1; have : ((-2) : Int32).toInt = -2 := (by decide); have : (0 : Int32).toInt = 0 := (by decide); show ((-2) : Int32) = fWrite p0; unfold fWrite; (repeat' split) <;> first | rfl | (exfalso; omega), trivial⟩, hS.F ht⟩) hS.2.2 dX11_write_14

set_option maxHeartbeats 4000000 in
set_option maxRecDepth 100000 in
theorem c_X11_paste (l : Launch) (G : va_G) (ct : Nat → ClassId) (b : Nat → Nat) (p0 : Int32) (p1 : Int32) (p2 : Int32) (p3 : Int32) (p4 : Int32)  : Met l yX11_paste wsX11_paste ({ frames := 2, cells := 0, slots := 0, locals := 45 }) (va_Pc [.ref (b 0), .int p0, .int p1, .int p2, .int p3, .int p4] (wrP G ct (mF b ct))) (va_Qi (fun (r : Int32) (u : Unit) => r = fPaste p0 p2) (fun _ _ => True) (aset (mF b ct))) 0 0 (aset (mF b ct)) := by
  refine Met.ofW (cc := cX11_paste) (maxL := 7) (ret := (some .int)) (by decide) rfl ?_
  intro p e s m args below meth c s₁ B hml hv
  obtain ⟨rfl, hP, hK, hD0⟩ := hv
  have hx := B.exec
  have hb := B.bytes
  have hr := B.returns
  have hts := atoms_spec (ws := wsX11_paste) B.pre
  have hown : s.vm.findClass RX11 = some m.cls := findClass_of_methodNamed B.named
  have hlocks := B.notSynchronized
  have hD := hD0.aself
  generalize hAe : aset (mF b ct) = A at hD ⊢
  have hS : va_S A s.heap s.heap [] := va_S.rf
  have hl := lv_entry ([.ref (b 0), .int p0, .int p1, .int p2, .int p3, .int p4]) (n := 7) (Nat.le_of_ble_eq_true rfl)
  rw [lg_entry_eq]
  generalize (lg_sl ([.ref (b 0), .int p0, .int p1, .int p2, .int p3, .int p4]) ++ List.replicate (7 - (lg_sl ([.ref (b 0), .int p0, .int p1, .int p2, .int p3, .int p4])).length) Slot.unset).toArray = ls at hl ⊢
  have hl : lv_has ls 7 [(0, .ref (b 0)), (1, .int p0), (2, .int p1), (3, .int p2), (4, .int p3), (5, .int p4)] := hl
  refine lv_aload_n hx hb dX11_paste_0 rfl (lv_at hl 0 rfl) ?_
  refine lv_iconst (v := 0) hx hb dX11_paste_1 (by decide) ?_
  refine va_put (D := G) (ci := 11) (v := .int 0) (ty := .int) (C := RX11) (T := TX11) (N := 31) hx hb hts (by decide +kernel) tyX11 tyX11_ok nmX11 hown hK.1 hP hD hS 0 rfl rfl 0 (by decide) (hts (.fieldLink RX11 59 "CardHolderModel" "thrown" "I") (by decide +kernel)) (fun _ h9 => h9) rfl (by decide +kernel) rfl rfl (Nat.le_of_ble_eq_true rfl) dX11_paste_2 (fun H locs hP hD hS => ?_)
  have hP : va_P G vwCl (mF b ct) H := hP
  have hD : va_D A (mF b ct) := hD
  refine lv_iload_n hx hb dX11_paste_5 rfl (lv_at hl 1 rfl) ?_
  refine ro_calli (va_runS (As := [.int p0]) (rest := []) ⟨hx, hb, hml, hown, hts⟩ (c_X11_isSlot l G ct p0) (va_cwS 1 hts gX11_paste_X11_isSlot rfl rfl rfl (by decide +kernel) ⟨Nat.le_of_ble_eq_true rfl, Nat.le_of_ble_eq_true rfl⟩) (ro_pre hK (hP.sub [] rfl)) rfl rfl hl.1 rfl (lv_room (Nat.le_of_ble_eq_true rfl)) dX11_paste_6 ⟨Nat.zero_le _, Nat.zero_le _⟩) hS hP (fun r_1 H locs wr_1 hP hS => ?_)
  refine lv_if_eq (tgt := 19) hx hb dX11_paste_9 (by decide) (fun c_2 => ?_) (fun c_2 => ?_)
  · refine lv_bipush (v := (-2)) hx hb dX11_paste_19 (by decide) ?_
    exact W.iret (v := (-2)) hx hb hr (fun t ht hW => ⟨⟨(-2), (), rfl, by have f0 := i_eq c_2; have gwr_1 := wr_1; unfold slotP at gwr_1; have : ((-2) : Int32).toInt = -2 := (by decide); have : (0 : Int32).toInt = 0 := (by decide); show ((-2) : Int32) = fPaste p0 p2; unfold fPaste; (repeat' split) <;> first | rfl | (exfalso; omega), trivial⟩, hS.F ht⟩) hS.2.2 dX11_paste_21
  · refine lv_iload_n hx hb dX11_paste_12 rfl (lv_at hl 3 rfl) ?_
    refine ro_calli (va_runS (As := [.int p2]) (rest := []) ⟨hx, hb, hml, hown, hts⟩ (c_X11_isSlot l G ct p2) (va_cwS 1 hts gX11_paste_X11_isSlot rfl rfl rfl (by decide +kernel) ⟨Nat.le_of_ble_eq_true rfl, Nat.le_of_ble_eq_true rfl⟩) (ro_pre hK (hP.sub [] rfl)) rfl rfl hl.1 rfl (lv_room (Nat.le_of_ble_eq_true rfl)) dX11_paste_13 ⟨Nat.zero_le _, Nat.zero_le _⟩) hS hP (fun r_3 H locs wr_3 hP hS => ?_)
    refine lv_if_ne (tgt := 22) hx hb dX11_paste_16 (by decide) (fun c_4 => ?_) (fun c_4 => ?_)
    · refine lv_aload_n hx hb dX11_paste_22 rfl (lv_at hl 0 rfl) ?_
      refine va_get (D := G) (ci := 11) (v := .ref (b 1)) (C := RX11) (T := TX11) (N := 31) hx hb hts (by decide +kernel) hown hK.1 hP 0 rfl rfl 1 (by decide) (hts (.fieldLink RX11 7 "CardHolderModel" "width" "[I") (by decide +kernel)) (fun _ h9 => h9) rfl dX11_paste_23 ?_
      refine lv_iload_n hx hb dX11_paste_26 rfl (lv_at hl 1 rfl) ?_
      refine va_iald hx hb hK.1 hP 1 0 rfl rfl (in_of (by have f0 := i_ne c_2; have f1 := i_ne c_4; have gwr_1 := wr_1; unfold slotP at gwr_1; have gwr_3 := wr_3; unfold slotP at gwr_3; have : (0 : Int32).toInt = 0 := (by decide); omega) (by have f0 := i_ne c_2; have f1 := i_ne c_4; have gwr_1 := wr_1; unfold slotP at gwr_1; have gwr_3 := wr_3; unfold slotP at gwr_3; have : (0 : Int32).toInt = 0 := (by decide); omega)) dX11_paste_27 ?_
      refine ix_i (y := (-1)) (WD_m1 (by have f0 := i_ne c_2; have f1 := i_ne c_4; have gwr_1 := wr_1; unfold slotP at gwr_1; have gwr_3 := wr_3; unfold slotP at gwr_3; have : (0 : Int32).toInt = 0 := (by decide); omega) (by have f0 := i_ne c_2; have f1 := i_ne c_4; have gwr_1 := wr_1; unfold slotP at gwr_1; have gwr_3 := wr_3; unfold slotP at gwr_3; have : (0 : Int32).toInt = 0 := (by decide); omega)) ?_
      refine lv_iconst (v := (-1)) hx hb dX11_paste_28 (by decide) ?_
      refine lv_icmp_eq (tgt := 42) hx hb dX11_paste_29 (by decide) (fun c_5 => ?_) (fun c_5 => ?_)
      · refine lv_bipush (v := (-6)) hx hb dX11_paste_42 (by decide) ?_
        exact W.iret (v := (-6)) hx hb hr (fun t ht hW => ⟨⟨(-6), (), rfl, by have f0 := i_ne c_2; have f1 := i_ne c_4; have f2 := i_eq c_5; have gwr_1 := wr_1; unfold slotP at gwr_1; have gwr_3 := wr_3; unfold slotP at gwr_3; have : ((-6) : Int32).toInt = -6 := (by decide); have : ((-1) : Int32).toInt = -1 := (by decide); have : (0 : Int32).toInt = 0 := (by decide); show ((-6) : Int32) = fPaste p0 p2; unfold fPaste; (repeat' split) <;> first | rfl | (exfalso; omega), trivial⟩, hS.F ht⟩) hS.2.2 dX11_paste_44
      · exact absurd c_5 (by decide)
    · refine lv_bipush (v := (-2)) hx hb dX11_paste_19 (by decide) ?_
      exact W.iret (v := (-2)) hx hb hr (fun t ht hW => ⟨⟨(-2), (), rfl, by have f0 := i_ne c_2; have f1 := i_eq c_4; have gwr_1 := wr_1; unfold slotP at gwr_1; have gwr_3 := wr_3; unfold slotP at gwr_3; have : ((-2) : Int32).toInt = -2 := (by decide); have : (0 : Int32).toInt = 0 := (by decide); show ((-2) : Int32) = fPaste p0 p2; unfold fPaste; (repeat' split) <;> first | rfl | (exfalso; omega), trivial⟩, hS.F ht⟩) hS.2.2 dX11_paste_21

set_option maxHeartbeats 4000000 in
set_option maxRecDepth 100000 in
theorem c_X11_fault (l : Launch) (G : va_G) (ct : Nat → ClassId) (b : Nat → Nat) (p0 : Int32)  : Met l yX11_fault wsX11_fault ({ frames := 0, cells := 0, slots := 0, locals := 0 }) (va_Pc [.ref (b 0), .int p0] (wrP G ct (mF b ct))) (va_Qi (fun (r : Int32) (u : Unit) => r = fFault p0) (fun _ _ => True) (aset (mF b ct))) 0 0 (aset (mF b ct)) := by
  refine Met.ofW (cc := cX11_fault) (maxL := 2) (ret := (some .int)) (by decide) rfl ?_
  intro p e s m args below meth c s₁ B hml hv
  obtain ⟨rfl, hP, hK, hD0⟩ := hv
  have hx := B.exec
  have hb := B.bytes
  have hr := B.returns
  have hts := atoms_spec (ws := wsX11_fault) B.pre
  have hown : s.vm.findClass RX11 = some m.cls := findClass_of_methodNamed B.named
  have hlocks := B.notSynchronized
  have hD := hD0.aself
  generalize hAe : aset (mF b ct) = A at hD ⊢
  have hS : va_S A s.heap s.heap [] := va_S.rf
  have hl := lv_entry ([.ref (b 0), .int p0]) (n := 2) (Nat.le_of_ble_eq_true rfl)
  rw [lg_entry_eq]
  generalize (lg_sl ([.ref (b 0), .int p0]) ++ List.replicate (2 - (lg_sl ([.ref (b 0), .int p0])).length) Slot.unset).toArray = ls at hl ⊢
  have hl : lv_has ls 2 [(0, .ref (b 0)), (1, .int p0)] := hl
  refine lv_aload_n hx hb dX11_fault_0 rfl (lv_at hl 0 rfl) ?_
  refine lv_iconst (v := 0) hx hb dX11_fault_1 (by decide) ?_
  refine va_put (D := G) (ci := 11) (v := .int 0) (ty := .int) (C := RX11) (T := TX11) (N := 31) hx hb hts (by decide +kernel) tyX11 tyX11_ok nmX11 hown hK.1 hP hD hS 0 rfl rfl 0 (by decide) (hts (.fieldLink RX11 59 "CardHolderModel" "thrown" "I") (by decide +kernel)) (fun _ h9 => h9) rfl (by decide +kernel) rfl rfl (Nat.le_of_ble_eq_true rfl) dX11_fault_2 (fun H locs hP hD hS => ?_)
  have hP : va_P G vwCl (mF b ct) H := hP
  have hD : va_D A (mF b ct) := hD
  refine lv_iload_n hx hb dX11_fault_5 rfl (lv_at hl 1 rfl) ?_
  refine lv_if_ne (tgt := 16) hx hb dX11_fault_6 (by decide) (fun c_1 => ?_) (fun c_1 => ?_)
  · refine lv_iload_n hx hb dX11_fault_16 rfl (lv_at hl 1 rfl) ?_
    refine lv_iconst (v := 1) hx hb dX11_fault_17 (by decide) ?_
    refine lv_icmp_ne (tgt := 28) hx hb dX11_fault_18 (by decide) (fun c_2 => ?_) (fun c_2 => ?_)
    · refine lv_iconst (v := (-1)) hx hb dX11_fault_28 (by decide) ?_
      exact W.iret (v := (-1)) hx hb hr (fun t ht hW => ⟨⟨(-1), (), rfl, by have f0 := i_ne c_1; have f1 := i_ne c_2; have : ((-1) : Int32).toInt = -1 := (by decide); have : (0 : Int32).toInt = 0 := (by decide); have : (1 : Int32).toInt = 1 := (by decide); show ((-1) : Int32) = fFault p0; unfold fFault; (repeat' split) <;> first | rfl | (exfalso; omega), trivial⟩, hS.F ht⟩) hS.2.2 dX11_fault_29
    · refine lv_aload_n hx hb dX11_fault_21 rfl (lv_at hl 0 rfl) ?_
      refine va_get (D := G) (ci := 11) (v := .int (-1)) (C := RX11) (T := TX11) (N := 31) hx hb hts (by decide +kernel) hown hK.1 hP 0 rfl rfl 15 (by decide) (hts (.fieldLink RX11 27 "CardHolderModel" "faultPlace" "I") (by decide +kernel)) (fun _ h9 => h9) rfl dX11_fault_22 ?_
      refine lv_goto (tgt := 29) hx hb dX11_fault_25 (by decide) ?_
      exact W.iret (v := (-1)) hx hb hr (fun t ht hW => ⟨⟨(-1), (), rfl, by have f0 := i_ne c_1; have f1 := i_eq c_2; have : ((-1) : Int32).toInt = -1 := (by decide); have : (0 : Int32).toInt = 0 := (by decide); have : (1 : Int32).toInt = 1 := (by decide); show ((-1) : Int32) = fFault p0; unfold fFault; (repeat' split) <;> first | rfl | (exfalso; omega), trivial⟩, hS.F ht⟩) hS.2.2 dX11_fault_29
  · refine lv_aload_n hx hb dX11_fault_9 rfl (lv_at hl 0 rfl) ?_
    refine va_get (D := G) (ci := 11) (v := .int 0) (C := RX11) (T := TX11) (N := 31) hx hb hts (by decide +kernel) hown hK.1 hP 0 rfl rfl 14 (by decide) (hts (.fieldLink RX11 138 "CardHolderModel" "fault" "I") (by decide +kernel)) (fun _ h9 => h9) rfl dX11_fault_10 ?_
    refine lv_goto (tgt := 29) hx hb dX11_fault_13 (by decide) ?_
    exact W.iret (v := 0) hx hb hr (fun t ht hW => ⟨⟨0, (), rfl, by have f0 := i_eq c_1; have : (0 : Int32).toInt = 0 := (by decide); show (0 : Int32) = fFault p0; unfold fFault; (repeat' split) <;> first | rfl | (exfalso; omega), trivial⟩, hS.F ht⟩) hS.2.2 dX11_fault_29

set_option maxHeartbeats 4000000 in
set_option maxRecDepth 100000 in
theorem c_X11_end (l : Launch) (G : va_G) (ct : Nat → ClassId) (b : Nat → Nat) (p0 : Int32)  : Met l yX11_end wsX11_end ({ frames := 1, cells := 0, slots := 0, locals := 25 }) (va_Pc [.ref (b 0), .int p0] (wrP G ct (mF b ct))) (va_Qi (fun (r : Int32) (u : Unit) => r = fEnd p0) (fun _ _ => True) (aset (mF b ct))) 0 0 (aset (mF b ct)) := by
  refine Met.ofW (cc := cX11_end) (maxL := 2) (ret := (some .int)) (by decide) rfl ?_
  intro p e s m args below meth c s₁ B hml hv
  obtain ⟨rfl, hP, hK, hD0⟩ := hv
  have hx := B.exec
  have hb := B.bytes
  have hr := B.returns
  have hts := atoms_spec (ws := wsX11_end) B.pre
  have hown : s.vm.findClass RX11 = some m.cls := findClass_of_methodNamed B.named
  have hlocks := B.notSynchronized
  have hD := hD0.aself
  generalize hAe : aset (mF b ct) = A at hD ⊢
  have hS : va_S A s.heap s.heap [] := va_S.rf
  have hl := lv_entry ([.ref (b 0), .int p0]) (n := 2) (Nat.le_of_ble_eq_true rfl)
  rw [lg_entry_eq]
  generalize (lg_sl ([.ref (b 0), .int p0]) ++ List.replicate (2 - (lg_sl ([.ref (b 0), .int p0])).length) Slot.unset).toArray = ls at hl ⊢
  have hl : lv_has ls 2 [(0, .ref (b 0)), (1, .int p0)] := hl
  refine lv_aload_n hx hb dX11_end_0 rfl (lv_at hl 0 rfl) ?_
  refine lv_iconst (v := 0) hx hb dX11_end_1 (by decide) ?_
  refine va_put (D := G) (ci := 11) (v := .int 0) (ty := .int) (C := RX11) (T := TX11) (N := 31) hx hb hts (by decide +kernel) tyX11 tyX11_ok nmX11 hown hK.1 hP hD hS 0 rfl rfl 0 (by decide) (hts (.fieldLink RX11 59 "CardHolderModel" "thrown" "I") (by decide +kernel)) (fun _ h9 => h9) rfl (by decide +kernel) rfl rfl (Nat.le_of_ble_eq_true rfl) dX11_end_2 (fun H locs hP hD hS => ?_)
  have hP : va_P G vwCl (mF b ct) H := hP
  have hD : va_D A (mF b ct) := hD
  refine lv_iload_n hx hb dX11_end_5 rfl (lv_at hl 1 rfl) ?_
  refine lv_i2l hx hb dX11_end_6 rfl ?_
  refine lv_lconst (v := 0) hx hb dX11_end_7 (by decide) ?_
  refine lv_aload_n hx hb dX11_end_8 rfl (lv_at hl 0 rfl) ?_
  refine va_get (D := G) (ci := 11) (v := .int 0) (C := RX11) (T := TX11) (N := 31) hx hb hts (by decide +kernel) hown hK.1 hP 0 rfl rfl 6 (by decide) (hts (.fieldLink RX11 76 "CardHolderModel" "taped" "I") (by decide +kernel)) (fun _ h9 => h9) rfl dX11_end_9 ?_
  refine lv_i2l (v := 0) hx hb dX11_end_12 (by decide) ?_
  refine ro_calli (va_runS (As := [.long p0.toInt64, .long 0, .long 0]) (rest := []) ⟨hx, hb, hml, hown, hts⟩ (c_X11_in l G ct p0.toInt64 0 0) (va_cwS 3 hts gX11_end_X11_in rfl rfl rfl (by decide +kernel) ⟨Nat.le_of_ble_eq_true rfl, Nat.le_of_ble_eq_true rfl⟩) (ro_pre hK (hP.sub [] rfl)) rfl rfl hl.1 rfl (lv_room (Nat.le_of_ble_eq_true rfl)) dX11_end_13 ⟨Nat.zero_le _, Nat.zero_le _⟩) hS hP (fun r_1 H locs wr_1 hP hS => ?_)
  refine lv_if_ne (tgt := 21) hx hb dX11_end_16 (by decide) (fun c_2 => ?_) (fun c_2 => ?_)
  · refine lv_aload_n hx hb dX11_end_21 rfl (lv_at hl 0 rfl) ?_
    refine lv_iload_n hx hb dX11_end_22 rfl (lv_at hl 1 rfl) ?_
    refine va_put (D := G) (ci := 11) (v := .int p0) (ty := .int) (C := RX11) (T := TX11) (N := 31) hx hb hts (by decide +kernel) tyX11 tyX11_ok nmX11 hown hK.1 hP hD hS 0 rfl rfl 6 (by decide) (hts (.fieldLink RX11 76 "CardHolderModel" "taped" "I") (by decide +kernel)) (fun _ h9 => h9) rfl (by decide +kernel) rfl rfl (Nat.le_of_ble_eq_true rfl) dX11_end_23 (fun H locs hP hD hS => ?_)
    refine lv_iload_n hx hb dX11_end_26 rfl (lv_at hl 1 rfl) ?_
    exact W.iret (v := p0) hx hb hr (fun t ht hW => ⟨⟨p0, (), rfl, (by have f0 := i_ne c_2; have gwr_1 := wr_1; unfold inP at gwr_1; have := Int32.toInt_toInt64 p0; have : (0 : Int64).toInt = 0 := (by decide); have : (0 : Int64).toInt = 0 := (by decide); have : (0 : Int32).toInt = 0 := (by decide); show p0 = fEnd p0; unfold fEnd; split <;> first | exact e_of (by omega) | (exfalso; omega)), trivial⟩, hS.F ht⟩) hS.2.2 dX11_end_27
  · refine lv_iconst (v := (-1)) hx hb dX11_end_19 (by decide) ?_
    exact W.iret (v := (-1)) hx hb hr (fun t ht hW => ⟨⟨(-1), (), rfl, by have f0 := i_eq c_2; have gwr_1 := wr_1; unfold inP at gwr_1; have := Int32.toInt_toInt64 p0; have : (0 : Int64).toInt = 0 := (by decide); have : (0 : Int64).toInt = 0 := (by decide); have : ((-1) : Int32).toInt = -1 := (by decide); have : (0 : Int32).toInt = 0 := (by decide); show ((-1) : Int32) = fEnd p0; unfold fEnd; (repeat' split) <;> first | rfl | (exfalso; omega), trivial⟩, hS.F ht⟩) hS.2.2 dX11_end_20

set_option maxHeartbeats 4000000 in
set_option maxRecDepth 100000 in
theorem c_X11_four (l : Launch) (G : va_G) (ct : Nat → ClassId) (b : Nat → Nat) (k : Nat) (f : Nat → Int32) (p0 : Int32) (hk : k + 4 ≤ 900) : Met l yX11_four wsX11_four ({ frames := 0, cells := 0, slots := 0, locals := 0 }) (va_Pc [.ref (b 0), .int p0] (wrP G ct [((b 0), .inr (11, [.int 0, .ref (b 1), .ref (b 2), .ref (b 3), .ref (b 4), .ref (b 5), .int (nI k), .int 0, .int 0, .int 0, .int 0, .long 0, .int 0, .int 0, .int 0, .int (-1), .ref (b 6), .ref (b 7), .ref (b 8), .ref (b 9), .ref (b 10), .ref (b 11), .ref (b 12), .ref (b 13), .int 0, .int 0, .int 0, .int 0, .ref (b 14), .int 0, .int 0])), ((b 5), .inl (ct 1, 900, .inl f))])) (va_Qv (fun u : Nat → Int32 => True) (fun u t => va_P G vwCl ((fun u : Nat → Int32 => [((b 0), .inr (11, [.int 0, .ref (b 1), .ref (b 2), .ref (b 3), .ref (b 4), .ref (b 5), .int (nI (k + 4)), .int 0, .int 0, .int 0, .int 0, .long 0, .int 0, .int 0, .int 0, .int (-1), .ref (b 6), .ref (b 7), .ref (b 8), .ref (b 9), .ref (b 10), .ref (b 11), .ref (b 12), .ref (b 13), .int 0, .int 0, .int 0, .int 0, .ref (b 14), .int 0, .int 0])), ((b 5), .inl (ct 1, 900, .inl u))]) u) t.heap) (aset [((b 0), .inr (11, [.int 0, .ref (b 1), .ref (b 2), .ref (b 3), .ref (b 4), .ref (b 5), .int (nI k), .int 0, .int 0, .int 0, .int 0, .long 0, .int 0, .int 0, .int 0, .int (-1), .ref (b 6), .ref (b 7), .ref (b 8), .ref (b 9), .ref (b 10), .ref (b 11), .ref (b 12), .ref (b 13), .int 0, .int 0, .int 0, .int 0, .ref (b 14), .int 0, .int 0])), ((b 5), .inl (ct 1, 900, .inl f))])) 0 0 (aset [((b 0), .inr (11, [.int 0, .ref (b 1), .ref (b 2), .ref (b 3), .ref (b 4), .ref (b 5), .int (nI k), .int 0, .int 0, .int 0, .int 0, .long 0, .int 0, .int 0, .int 0, .int (-1), .ref (b 6), .ref (b 7), .ref (b 8), .ref (b 9), .ref (b 10), .ref (b 11), .ref (b 12), .ref (b 13), .int 0, .int 0, .int 0, .int 0, .ref (b 14), .int 0, .int 0])), ((b 5), .inl (ct 1, 900, .inl f))]) := by
  refine Met.ofW (cc := cX11_four) (maxL := 3) (ret := none) (by decide) rfl ?_
  intro p e s m args below meth c s₁ B hml hv
  obtain ⟨rfl, hP, hK, hD0⟩ := hv
  have hx := B.exec
  have hb := B.bytes
  have hr := B.returns
  have hts := atoms_spec (ws := wsX11_four) B.pre
  have hown : s.vm.findClass RX11 = some m.cls := findClass_of_methodNamed B.named
  have hlocks := B.notSynchronized
  have hD := hD0.aself
  generalize hAe : aset [((b 0), .inr (11, [.int 0, .ref (b 1), .ref (b 2), .ref (b 3), .ref (b 4), .ref (b 5), .int (nI k), .int 0, .int 0, .int 0, .int 0, .long 0, .int 0, .int 0, .int 0, .int (-1), .ref (b 6), .ref (b 7), .ref (b 8), .ref (b 9), .ref (b 10), .ref (b 11), .ref (b 12), .ref (b 13), .int 0, .int 0, .int 0, .int 0, .ref (b 14), .int 0, .int 0])), ((b 5), .inl (ct 1, 900, .inl f))] = A at hD ⊢
  have hS : va_S A s.heap s.heap [] := va_S.rf
  have hl := lv_entry ([.ref (b 0), .int p0]) (n := 3) (Nat.le_of_ble_eq_true rfl)
  rw [lg_entry_eq]
  generalize (lg_sl ([.ref (b 0), .int p0]) ++ List.replicate (3 - (lg_sl ([.ref (b 0), .int p0])).length) Slot.unset).toArray = ls at hl ⊢
  have hl : lv_has ls 3 [(0, .ref (b 0)), (1, .int p0)] := hl
  refine lv_bipush (v := 24) hx hb dX11_four_0 (by decide) ?_
  refine lv_istore_n (lv' := [(2, .int 24), (0, .ref (b 0)), (1, .int p0)]) hx hb dX11_four_2 rfl hl (by decide) rfl (fun ls hl => ?_)
  refine lv_iload_n hx hb dX11_four_3 rfl (lv_at hl 0 rfl) ?_
  refine lv_if_lt (tgt := 36) hx hb dX11_four_4 (by decide) (fun c_1 => ?_) (fun c_1 => ?_)
  · exact absurd c_1 (by decide)
  · refine lv_aload_n hx hb dX11_four_7 rfl (lv_at hl 1 rfl) ?_
    refine va_get (D := G) (ci := 11) (v := .ref (b 5)) (C := RX11) (T := TX11) (N := 31) hx hb hts (by decide +kernel) hown hK.1 hP 0 rfl rfl 5 (by decide) (hts (.fieldLink RX11 23 "CardHolderModel" "tape" "[B") (by decide +kernel)) (fun _ h9 => h9) rfl dX11_four_8 ?_
    refine lv_aload_n hx hb dX11_four_11 rfl (lv_at hl 1 rfl) ?_
    refine va_get (D := G) (ci := 11) (v := .int (nI k)) (C := RX11) (T := TX11) (N := 31) hx hb hts (by decide +kernel) hown hK.1 hP 0 rfl rfl 6 (by decide) (hts (.fieldLink RX11 76 "CardHolderModel" "taped" "I") (by decide +kernel)) (fun _ h9 => h9) rfl dX11_four_12 ?_
    refine lv_iload_n hx hb dX11_four_15 rfl (lv_at hl 2 rfl) ?_
    refine lv_iload_n hx hb dX11_four_16 rfl (lv_at hl 0 rfl) ?_
    refine lv_ishr hx hb dX11_four_17 ?_
    refine lv_i2b hx hb dX11_four_18 rfl ?_
    refine va_bast hx hb hK.1 hP hD hS 1 1 rfl rfl (vp_in_nI (n := k) (by have f0 := i_nlt c_1; have : (0 : Int32).toInt = 0 := (by decide); have : (24 : Int32).toInt = 24 := (by decide); omega) (by omega)) dX11_four_19 (fun H locs hP hD hS => ?_)
    refine lv_aload_n hx hb dX11_four_20 rfl (lv_at hl 1 rfl) ?_
    refine lv_dup hx hb dX11_four_21 rfl ?_
    refine va_get (D := G) (ci := 11) (v := .int (nI k)) (C := RX11) (T := TX11) (N := 31) hx hb hts (by decide +kernel) hown hK.1 hP 0 rfl rfl 6 (by decide) (hts (.fieldLink RX11 76 "CardHolderModel" "taped" "I") (by decide +kernel)) (fun _ h9 => h9) rfl dX11_four_22 ?_
    refine lv_iconst (v := 1) hx hb dX11_four_25 (by decide) ?_
    refine lv_iadd hx hb dX11_four_26 ?_
    refine ix_i (y := nI (k + 1)) (nI_add k 1) ?_
    refine va_put (D := G) (ci := 11) (v := .int (nI (k + 1))) (ty := .int) (C := RX11) (T := TX11) (N := 31) hx hb hts (by decide +kernel) tyX11 tyX11_ok nmX11 hown hK.1 hP hD hS 0 rfl rfl 6 (by decide) (hts (.fieldLink RX11 76 "CardHolderModel" "taped" "I") (by decide +kernel)) (fun _ h9 => h9) rfl (by decide +kernel) rfl rfl (Nat.le_of_ble_eq_true rfl) dX11_four_27 (fun H locs hP hD hS => ?_)
    refine lv_iinc (v := 16) (lv' := [(2, .int 16), (0, .ref (b 0)), (1, .int p0)]) hx hb dX11_four_30 hl (k := 0) rfl (by decide) (by decide) rfl (fun ls hl => ?_)
    refine lv_goto (tgt := 3) hx hb dX11_four_33 (by decide) ?_
    refine lv_iload_n hx hb dX11_four_3 rfl (lv_at hl 0 rfl) ?_
    refine lv_if_lt (tgt := 36) hx hb dX11_four_4 (by decide) (fun c_2 => ?_) (fun c_2 => ?_)
    · exact absurd c_2 (by decide)
    · refine lv_aload_n hx hb dX11_four_7 rfl (lv_at hl 1 rfl) ?_
      refine va_get (D := G) (ci := 11) (v := .ref (b 5)) (C := RX11) (T := TX11) (N := 31) hx hb hts (by decide +kernel) hown hK.1 hP 0 rfl rfl 5 (by decide) (hts (.fieldLink RX11 23 "CardHolderModel" "tape" "[B") (by decide +kernel)) (fun _ h9 => h9) rfl dX11_four_8 ?_
      refine lv_aload_n hx hb dX11_four_11 rfl (lv_at hl 1 rfl) ?_
      refine va_get (D := G) (ci := 11) (v := .int (nI (k + 1))) (C := RX11) (T := TX11) (N := 31) hx hb hts (by decide +kernel) hown hK.1 hP 0 rfl rfl 6 (by decide) (hts (.fieldLink RX11 76 "CardHolderModel" "taped" "I") (by decide +kernel)) (fun _ h9 => h9) rfl dX11_four_12 ?_
      refine lv_iload_n hx hb dX11_four_15 rfl (lv_at hl 2 rfl) ?_
      refine lv_iload_n hx hb dX11_four_16 rfl (lv_at hl 0 rfl) ?_
      refine lv_ishr hx hb dX11_four_17 ?_
      refine lv_i2b hx hb dX11_four_18 rfl ?_
      refine va_bast hx hb hK.1 hP hD hS 1 1 rfl rfl (vp_in_nI (n := k + 1) (by have f0 := i_nlt c_1; have f1 := i_nlt c_2; have : (0 : Int32).toInt = 0 := (by decide); have : (16 : Int32).toInt = 16 := (by decide); have : (24 : Int32).toInt = 24 := (by decide); omega) (by omega)) dX11_four_19 (fun H locs hP hD hS => ?_)
      refine lv_aload_n hx hb dX11_four_20 rfl (lv_at hl 1 rfl) ?_
      refine lv_dup hx hb dX11_four_21 rfl ?_
      refine va_get (D := G) (ci := 11) (v := .int (nI (k + 1))) (C := RX11) (T := TX11) (N := 31) hx hb hts (by decide +kernel) hown hK.1 hP 0 rfl rfl 6 (by decide) (hts (.fieldLink RX11 76 "CardHolderModel" "taped" "I") (by decide +kernel)) (fun _ h9 => h9) rfl dX11_four_22 ?_
      refine lv_iconst (v := 1) hx hb dX11_four_25 (by decide) ?_
      refine lv_iadd hx hb dX11_four_26 ?_
      refine ix_i (y := nI (k + 1 + 1)) (nI_add (k + 1) 1) ?_
      refine va_put (D := G) (ci := 11) (v := .int (nI (k + 1 + 1))) (ty := .int) (C := RX11) (T := TX11) (N := 31) hx hb hts (by decide +kernel) tyX11 tyX11_ok nmX11 hown hK.1 hP hD hS 0 rfl rfl 6 (by decide) (hts (.fieldLink RX11 76 "CardHolderModel" "taped" "I") (by decide +kernel)) (fun _ h9 => h9) rfl (by decide +kernel) rfl rfl (Nat.le_of_ble_eq_true rfl) dX11_four_27 (fun H locs hP hD hS => ?_)
      refine lv_iinc (v := 8) (lv' := [(2, .int 8), (0, .ref (b 0)), (1, .int p0)]) hx hb dX11_four_30 hl (k := 0) rfl (by decide) (by decide) rfl (fun ls hl => ?_)
      refine lv_goto (tgt := 3) hx hb dX11_four_33 (by decide) ?_
      refine lv_iload_n hx hb dX11_four_3 rfl (lv_at hl 0 rfl) ?_
      refine lv_if_lt (tgt := 36) hx hb dX11_four_4 (by decide) (fun c_3 => ?_) (fun c_3 => ?_)
      · exact absurd c_3 (by decide)
      · refine lv_aload_n hx hb dX11_four_7 rfl (lv_at hl 1 rfl) ?_
        refine va_get (D := G) (ci := 11) (v := .ref (b 5)) (C := RX11) (T := TX11) (N := 31) hx hb hts (by decide +kernel) hown hK.1 hP 0 rfl rfl 5 (by decide) (hts (.fieldLink RX11 23 "CardHolderModel" "tape" "[B") (by decide +kernel)) (fun _ h9 => h9) rfl dX11_four_8 ?_
        refine lv_aload_n hx hb dX11_four_11 rfl (lv_at hl 1 rfl) ?_
        refine va_get (D := G) (ci := 11) (v := .int (nI (k + 1 + 1))) (C := RX11) (T := TX11) (N := 31) hx hb hts (by decide +kernel) hown hK.1 hP 0 rfl rfl 6 (by decide) (hts (.fieldLink RX11 76 "CardHolderModel" "taped" "I") (by decide +kernel)) (fun _ h9 => h9) rfl dX11_four_12 ?_
        refine lv_iload_n hx hb dX11_four_15 rfl (lv_at hl 2 rfl) ?_
        refine lv_iload_n hx hb dX11_four_16 rfl (lv_at hl 0 rfl) ?_
        refine lv_ishr hx hb dX11_four_17 ?_
        refine lv_i2b hx hb dX11_four_18 rfl ?_
        refine va_bast hx hb hK.1 hP hD hS 1 1 rfl rfl (vp_in_nI (n := k + 1 + 1) (by have f0 := i_nlt c_1; have f1 := i_nlt c_2; have f2 := i_nlt c_3; have : (0 : Int32).toInt = 0 := (by decide); have : (8 : Int32).toInt = 8 := (by decide); have : (16 : Int32).toInt = 16 := (by decide); have : (24 : Int32).toInt = 24 := (by decide); omega) (by omega)) dX11_four_19 (fun H locs hP hD hS => ?_)
        refine lv_aload_n hx hb dX11_four_20 rfl (lv_at hl 1 rfl) ?_
        refine lv_dup hx hb dX11_four_21 rfl ?_
        refine va_get (D := G) (ci := 11) (v := .int (nI (k + 1 + 1))) (C := RX11) (T := TX11) (N := 31) hx hb hts (by decide +kernel) hown hK.1 hP 0 rfl rfl 6 (by decide) (hts (.fieldLink RX11 76 "CardHolderModel" "taped" "I") (by decide +kernel)) (fun _ h9 => h9) rfl dX11_four_22 ?_
        refine lv_iconst (v := 1) hx hb dX11_four_25 (by decide) ?_
        refine lv_iadd hx hb dX11_four_26 ?_
        refine ix_i (y := nI (k + 1 + 1 + 1)) (nI_add (k + 1 + 1) 1) ?_
        refine va_put (D := G) (ci := 11) (v := .int (nI (k + 1 + 1 + 1))) (ty := .int) (C := RX11) (T := TX11) (N := 31) hx hb hts (by decide +kernel) tyX11 tyX11_ok nmX11 hown hK.1 hP hD hS 0 rfl rfl 6 (by decide) (hts (.fieldLink RX11 76 "CardHolderModel" "taped" "I") (by decide +kernel)) (fun _ h9 => h9) rfl (by decide +kernel) rfl rfl (Nat.le_of_ble_eq_true rfl) dX11_four_27 (fun H locs hP hD hS => ?_)
        refine lv_iinc (v := 0) (lv' := [(2, .int 0), (0, .ref (b 0)), (1, .int p0)]) hx hb dX11_four_30 hl (k := 0) rfl (by decide) (by decide) rfl (fun ls hl => ?_)
        refine lv_goto (tgt := 3) hx hb dX11_four_33 (by decide) ?_
        refine lv_iload_n hx hb dX11_four_3 rfl (lv_at hl 0 rfl) ?_
        refine lv_if_lt (tgt := 36) hx hb dX11_four_4 (by decide) (fun c_4 => ?_) (fun c_4 => ?_)
        · exact absurd c_4 (by decide)
        · refine lv_aload_n hx hb dX11_four_7 rfl (lv_at hl 1 rfl) ?_
          refine va_get (D := G) (ci := 11) (v := .ref (b 5)) (C := RX11) (T := TX11) (N := 31) hx hb hts (by decide +kernel) hown hK.1 hP 0 rfl rfl 5 (by decide) (hts (.fieldLink RX11 23 "CardHolderModel" "tape" "[B") (by decide +kernel)) (fun _ h9 => h9) rfl dX11_four_8 ?_
          refine lv_aload_n hx hb dX11_four_11 rfl (lv_at hl 1 rfl) ?_
          refine va_get (D := G) (ci := 11) (v := .int (nI (k + 1 + 1 + 1))) (C := RX11) (T := TX11) (N := 31) hx hb hts (by decide +kernel) hown hK.1 hP 0 rfl rfl 6 (by decide) (hts (.fieldLink RX11 76 "CardHolderModel" "taped" "I") (by decide +kernel)) (fun _ h9 => h9) rfl dX11_four_12 ?_
          refine lv_iload_n hx hb dX11_four_15 rfl (lv_at hl 2 rfl) ?_
          refine lv_iload_n hx hb dX11_four_16 rfl (lv_at hl 0 rfl) ?_
          refine lv_ishr hx hb dX11_four_17 ?_
          refine lv_i2b hx hb dX11_four_18 rfl ?_
          refine va_bast hx hb hK.1 hP hD hS 1 1 rfl rfl (vp_in_nI (n := k + 1 + 1 + 1) (by have f0 := i_nlt c_1; have f1 := i_nlt c_2; have f2 := i_nlt c_3; have f3 := i_nlt c_4; have : (0 : Int32).toInt = 0 := (by decide); have : (8 : Int32).toInt = 8 := (by decide); have : (16 : Int32).toInt = 16 := (by decide); have : (24 : Int32).toInt = 24 := (by decide); omega) (by omega)) dX11_four_19 (fun H locs hP hD hS => ?_)
          refine lv_aload_n hx hb dX11_four_20 rfl (lv_at hl 1 rfl) ?_
          refine lv_dup hx hb dX11_four_21 rfl ?_
          refine va_get (D := G) (ci := 11) (v := .int (nI (k + 1 + 1 + 1))) (C := RX11) (T := TX11) (N := 31) hx hb hts (by decide +kernel) hown hK.1 hP 0 rfl rfl 6 (by decide) (hts (.fieldLink RX11 76 "CardHolderModel" "taped" "I") (by decide +kernel)) (fun _ h9 => h9) rfl dX11_four_22 ?_
          refine lv_iconst (v := 1) hx hb dX11_four_25 (by decide) ?_
          refine lv_iadd hx hb dX11_four_26 ?_
          refine ix_i (y := nI (k + 1 + 1 + 1 + 1)) (nI_add (k + 1 + 1 + 1) 1) ?_
          refine va_put (D := G) (ci := 11) (v := .int (nI (k + 1 + 1 + 1 + 1))) (ty := .int) (C := RX11) (T := TX11) (N := 31) hx hb hts (by decide +kernel) tyX11 tyX11_ok nmX11 hown hK.1 hP hD hS 0 rfl rfl 6 (by decide) (hts (.fieldLink RX11 76 "CardHolderModel" "taped" "I") (by decide +kernel)) (fun _ h9 => h9) rfl (by decide +kernel) rfl rfl (Nat.le_of_ble_eq_true rfl) dX11_four_27 (fun H locs hP hD hS => ?_)
          refine lv_iinc (v := (-8)) (lv' := [(2, .int (-8)), (0, .ref (b 0)), (1, .int p0)]) hx hb dX11_four_30 hl (k := 0) rfl (by decide) (by decide) rfl (fun ls hl => ?_)
          refine lv_goto (tgt := 3) hx hb dX11_four_33 (by decide) ?_
          refine lv_iload_n hx hb dX11_four_3 rfl (lv_at hl 0 rfl) ?_
          refine lv_if_lt (tgt := 36) hx hb dX11_four_4 (by decide) (fun c_5 => ?_) (fun c_5 => ?_)
          · exact W.vret hx hb hr (fun t ht hW => ⟨⟨(upd (upd (upd (upd f (nI k).toNatClampNeg (vp_nar .byte ((p0 >>> (24 &&& 31)).toInt8.toInt32))) (nI (k + 1)).toNatClampNeg (vp_nar .byte ((p0 >>> (16 &&& 31)).toInt8.toInt32))) (nI (k + 1 + 1)).toNatClampNeg (vp_nar .byte ((p0 >>> (8 &&& 31)).toInt8.toInt32))) (nI (k + 1 + 1 + 1)).toNatClampNeg (vp_nar .byte ((p0 >>> (0 &&& 31)).toInt8.toInt32))), rfl, trivial, hp_at ht hP⟩, hS.F ht⟩) hS.2.2 dX11_four_36
          · exact absurd c_5 (by decide)

set_option maxHeartbeats 4000000 in
set_option maxRecDepth 100000 in
theorem c_X11_feed (l : Launch) (G : va_G) (ct : Nat → ClassId) (b : Nat → Nat) (p0 : Int32) (p1 : Int32) (p2 : Int32) (p3 : Int32) (p4 : Int32)  : Met l yX11_feed wsX11_feed ({ frames := 1, cells := 0, slots := 0, locals := 22 }) (va_Pc [.ref (b 0), .int p0, .int p1, .int p2, .int p3, .int p4] (wrP G ct (mF b ct))) (va_Qi (fun (r : Int32) (u : Unit) => r = 20) (fun _ _ => True) (aset (mF b ct))) 0 0 (aset (mF b ct)) := by
  refine Met.ofW (cc := cX11_feed) (maxL := 6) (ret := (some .int)) (by decide) rfl ?_
  intro p e s m args below meth c s₁ B hml hv
  obtain ⟨rfl, hP, hK, hD0⟩ := hv
  have hx := B.exec
  have hb := B.bytes
  have hr := B.returns
  have hts := atoms_spec (ws := wsX11_feed) B.pre
  have hown : s.vm.findClass RX11 = some m.cls := findClass_of_methodNamed B.named
  have hlocks := B.notSynchronized
  have hD := hD0.aself
  generalize hAe : aset (mF b ct) = A at hD ⊢
  have hS : va_S A s.heap s.heap [] := va_S.rf
  have hl := lv_entry ([.ref (b 0), .int p0, .int p1, .int p2, .int p3, .int p4]) (n := 6) (Nat.le_of_ble_eq_true rfl)
  rw [lg_entry_eq]
  generalize (lg_sl ([.ref (b 0), .int p0, .int p1, .int p2, .int p3, .int p4]) ++ List.replicate (6 - (lg_sl ([.ref (b 0), .int p0, .int p1, .int p2, .int p3, .int p4])).length) Slot.unset).toArray = ls at hl ⊢
  have hl : lv_has ls 6 [(0, .ref (b 0)), (1, .int p0), (2, .int p1), (3, .int p2), (4, .int p3), (5, .int p4)] := hl
  have hP : va_P G vwCl [((b 0), .inr (11, [.int 0, .ref (b 1), .ref (b 2), .ref (b 3), .ref (b 4), .ref (b 5), .int 0, .int 0, .int 0, .int 0, .int 0, .long 0, .int 0, .int 0, .int 0, .int (-1), .ref (b 6), .ref (b 7), .ref (b 8), .ref (b 9), .ref (b 10), .ref (b 11), .ref (b 12), .ref (b 13), .int 0, .int 0, .int 0, .int 0, .ref (b 14), .int 0, .int 0])), ((b 5), .inl (ct 1, 900, .inl (fun _ => 0)))] _ := hP.sub [0, 5] rfl
  have hD : va_D A [((b 0), .inr (11, [.int 0, .ref (b 1), .ref (b 2), .ref (b 3), .ref (b 4), .ref (b 5), .int 0, .int 0, .int 0, .int 0, .int 0, .long 0, .int 0, .int 0, .int 0, .int (-1), .ref (b 6), .ref (b 7), .ref (b 8), .ref (b 9), .ref (b 10), .ref (b 11), .ref (b 12), .ref (b 13), .int 0, .int 0, .int 0, .int 0, .ref (b 14), .int 0, .int 0])), ((b 5), .inl (ct 1, 900, .inl (fun _ => 0)))] := hD.sub [0, 5] (by decide) rfl
  refine lv_aload_n hx hb dX11_feed_0 rfl (lv_at hl 0 rfl) ?_
  refine lv_iconst (v := 0) hx hb dX11_feed_1 (by decide) ?_
  refine va_put (D := G) (ci := 11) (v := .int 0) (ty := .int) (C := RX11) (T := TX11) (N := 31) hx hb hts (by decide +kernel) tyX11 tyX11_ok nmX11 hown hK.1 hP hD hS 0 rfl rfl 0 (by decide) (hts (.fieldLink RX11 59 "CardHolderModel" "thrown" "I") (by decide +kernel)) (fun _ h9 => h9) rfl (by decide +kernel) rfl rfl (Nat.le_of_ble_eq_true rfl) dX11_feed_2 (fun H locs hP hD hS => ?_)
  refine lv_aload_n hx hb dX11_feed_5 rfl (lv_at hl 0 rfl) ?_
  refine va_get (D := G) (ci := 11) (v := .int 0) (C := RX11) (T := TX11) (N := 31) hx hb hts (by decide +kernel) hown hK.1 hP 0 rfl rfl 6 (by decide) (hts (.fieldLink RX11 76 "CardHolderModel" "taped" "I") (by decide +kernel)) (fun _ h9 => h9) rfl dX11_feed_6 ?_
  refine lv_bipush (v := 20) hx hb dX11_feed_9 (by decide) ?_
  refine lv_iadd hx hb dX11_feed_11 ?_
  refine ix_i (y := 20) (by decide) ?_
  refine lv_sipush (v := 900) hx hb dX11_feed_12 (by decide) ?_
  refine lv_icmp_le (tgt := 20) hx hb dX11_feed_15 (by decide) (fun c_1 => ?_) (fun c_1 => ?_)
  · refine lv_aload_n hx hb dX11_feed_20 rfl (lv_at hl 0 rfl) ?_
    refine lv_iload_n hx hb dX11_feed_21 rfl (lv_at hl 1 rfl) ?_
    refine wj_callv (wr := []) (w1 := (fun u : Nat → Int32 => [((b 0), .inr (11, [.int 0, .ref (b 1), .ref (b 2), .ref (b 3), .ref (b 4), .ref (b 5), .int (nI (0 + 4)), .int 0, .int 0, .int 0, .int 0, .long 0, .int 0, .int 0, .int 0, .int (-1), .ref (b 6), .ref (b 7), .ref (b 8), .ref (b 9), .ref (b 10), .ref (b 11), .ref (b 12), .ref (b 13), .int 0, .int 0, .int 0, .int 0, .ref (b 14), .int 0, .int 0])), ((b 5), .inl (ct 1, 900, .inl u))])) (va_runV (As := [.int p0]) (rest := []) ⟨hx, hb, hml, hown, hts⟩ (c_X11_four l G ct b 0 (fun _ => 0) p0 (by omega)) (cwV 1 hts gX11_feed_X11_four rfl rfl rfl (by decide +kernel) ⟨Nat.le_of_ble_eq_true rfl, Nat.le_of_ble_eq_true rfl⟩) (wr_preV 11 0 hK (hP.sub [0, 1] rfl) (hD.sub [0, 1] (by decide) rfl) rfl rfl) rfl rfl hl.1 rfl (lv_room (Nat.le_of_ble_eq_true rfl)) dX11_feed_22 ⟨Nat.zero_le _, Nat.zero_le _⟩) hS hP hD [0, 1] [] rfl rfl (by decide) (fun _ => rfl) (fun u_2 H locs wu_2 hP hD hS => ?_)
    have hP : va_P G vwCl [((b 0), .inr (11, [.int 0, .ref (b 1), .ref (b 2), .ref (b 3), .ref (b 4), .ref (b 5), .int (nI 4), .int 0, .int 0, .int 0, .int 0, .long 0, .int 0, .int 0, .int 0, .int (-1), .ref (b 6), .ref (b 7), .ref (b 8), .ref (b 9), .ref (b 10), .ref (b 11), .ref (b 12), .ref (b 13), .int 0, .int 0, .int 0, .int 0, .ref (b 14), .int 0, .int 0])), ((b 5), .inl (ct 1, 900, .inl u_2))] H := hP.sub [0, 1] rfl
    have hD : va_D A [((b 0), .inr (11, [.int 0, .ref (b 1), .ref (b 2), .ref (b 3), .ref (b 4), .ref (b 5), .int (nI 4), .int 0, .int 0, .int 0, .int 0, .long 0, .int 0, .int 0, .int 0, .int (-1), .ref (b 6), .ref (b 7), .ref (b 8), .ref (b 9), .ref (b 10), .ref (b 11), .ref (b 12), .ref (b 13), .int 0, .int 0, .int 0, .int 0, .ref (b 14), .int 0, .int 0])), ((b 5), .inl (ct 1, 900, .inl u_2))] := hD.sub [0, 1] (by decide) rfl
    refine lv_aload_n hx hb dX11_feed_25 rfl (lv_at hl 0 rfl) ?_
    refine lv_iload_n hx hb dX11_feed_26 rfl (lv_at hl 2 rfl) ?_
    refine wj_callv (wr := []) (w1 := (fun u : Nat → Int32 => [((b 0), .inr (11, [.int 0, .ref (b 1), .ref (b 2), .ref (b 3), .ref (b 4), .ref (b 5), .int (nI (4 + 4)), .int 0, .int 0, .int 0, .int 0, .long 0, .int 0, .int 0, .int 0, .int (-1), .ref (b 6), .ref (b 7), .ref (b 8), .ref (b 9), .ref (b 10), .ref (b 11), .ref (b 12), .ref (b 13), .int 0, .int 0, .int 0, .int 0, .ref (b 14), .int 0, .int 0])), ((b 5), .inl (ct 1, 900, .inl u))])) (va_runV (As := [.int p1]) (rest := []) ⟨hx, hb, hml, hown, hts⟩ (c_X11_four l G ct b 4 u_2 p1 (by omega)) (cwV 1 hts gX11_feed_X11_four rfl rfl rfl (by decide +kernel) ⟨Nat.le_of_ble_eq_true rfl, Nat.le_of_ble_eq_true rfl⟩) (wr_preV 11 0 hK (hP.sub [0, 1] rfl) (hD.sub [0, 1] (by decide) rfl) rfl rfl) rfl rfl hl.1 rfl (lv_room (Nat.le_of_ble_eq_true rfl)) dX11_feed_27 ⟨Nat.zero_le _, Nat.zero_le _⟩) hS hP hD [0, 1] [] rfl rfl (by decide) (fun _ => rfl) (fun u_3 H locs wu_3 hP hD hS => ?_)
    have hP : va_P G vwCl [((b 0), .inr (11, [.int 0, .ref (b 1), .ref (b 2), .ref (b 3), .ref (b 4), .ref (b 5), .int (nI 8), .int 0, .int 0, .int 0, .int 0, .long 0, .int 0, .int 0, .int 0, .int (-1), .ref (b 6), .ref (b 7), .ref (b 8), .ref (b 9), .ref (b 10), .ref (b 11), .ref (b 12), .ref (b 13), .int 0, .int 0, .int 0, .int 0, .ref (b 14), .int 0, .int 0])), ((b 5), .inl (ct 1, 900, .inl u_3))] H := hP.sub [0, 1] rfl
    have hD : va_D A [((b 0), .inr (11, [.int 0, .ref (b 1), .ref (b 2), .ref (b 3), .ref (b 4), .ref (b 5), .int (nI 8), .int 0, .int 0, .int 0, .int 0, .long 0, .int 0, .int 0, .int 0, .int (-1), .ref (b 6), .ref (b 7), .ref (b 8), .ref (b 9), .ref (b 10), .ref (b 11), .ref (b 12), .ref (b 13), .int 0, .int 0, .int 0, .int 0, .ref (b 14), .int 0, .int 0])), ((b 5), .inl (ct 1, 900, .inl u_3))] := hD.sub [0, 1] (by decide) rfl
    refine lv_aload_n hx hb dX11_feed_30 rfl (lv_at hl 0 rfl) ?_
    refine lv_iload_n hx hb dX11_feed_31 rfl (lv_at hl 3 rfl) ?_
    refine wj_callv (wr := []) (w1 := (fun u : Nat → Int32 => [((b 0), .inr (11, [.int 0, .ref (b 1), .ref (b 2), .ref (b 3), .ref (b 4), .ref (b 5), .int (nI (8 + 4)), .int 0, .int 0, .int 0, .int 0, .long 0, .int 0, .int 0, .int 0, .int (-1), .ref (b 6), .ref (b 7), .ref (b 8), .ref (b 9), .ref (b 10), .ref (b 11), .ref (b 12), .ref (b 13), .int 0, .int 0, .int 0, .int 0, .ref (b 14), .int 0, .int 0])), ((b 5), .inl (ct 1, 900, .inl u))])) (va_runV (As := [.int p2]) (rest := []) ⟨hx, hb, hml, hown, hts⟩ (c_X11_four l G ct b 8 u_3 p2 (by omega)) (cwV 1 hts gX11_feed_X11_four rfl rfl rfl (by decide +kernel) ⟨Nat.le_of_ble_eq_true rfl, Nat.le_of_ble_eq_true rfl⟩) (wr_preV 11 0 hK (hP.sub [0, 1] rfl) (hD.sub [0, 1] (by decide) rfl) rfl rfl) rfl rfl hl.1 rfl (lv_room (Nat.le_of_ble_eq_true rfl)) dX11_feed_32 ⟨Nat.zero_le _, Nat.zero_le _⟩) hS hP hD [0, 1] [] rfl rfl (by decide) (fun _ => rfl) (fun u_4 H locs wu_4 hP hD hS => ?_)
    have hP : va_P G vwCl [((b 0), .inr (11, [.int 0, .ref (b 1), .ref (b 2), .ref (b 3), .ref (b 4), .ref (b 5), .int (nI 12), .int 0, .int 0, .int 0, .int 0, .long 0, .int 0, .int 0, .int 0, .int (-1), .ref (b 6), .ref (b 7), .ref (b 8), .ref (b 9), .ref (b 10), .ref (b 11), .ref (b 12), .ref (b 13), .int 0, .int 0, .int 0, .int 0, .ref (b 14), .int 0, .int 0])), ((b 5), .inl (ct 1, 900, .inl u_4))] H := hP.sub [0, 1] rfl
    have hD : va_D A [((b 0), .inr (11, [.int 0, .ref (b 1), .ref (b 2), .ref (b 3), .ref (b 4), .ref (b 5), .int (nI 12), .int 0, .int 0, .int 0, .int 0, .long 0, .int 0, .int 0, .int 0, .int (-1), .ref (b 6), .ref (b 7), .ref (b 8), .ref (b 9), .ref (b 10), .ref (b 11), .ref (b 12), .ref (b 13), .int 0, .int 0, .int 0, .int 0, .ref (b 14), .int 0, .int 0])), ((b 5), .inl (ct 1, 900, .inl u_4))] := hD.sub [0, 1] (by decide) rfl
    refine lv_aload_n hx hb dX11_feed_35 rfl (lv_at hl 0 rfl) ?_
    refine lv_iload hx hb dX11_feed_36 (lv_at hl 4 rfl) ?_
    refine wj_callv (wr := []) (w1 := (fun u : Nat → Int32 => [((b 0), .inr (11, [.int 0, .ref (b 1), .ref (b 2), .ref (b 3), .ref (b 4), .ref (b 5), .int (nI (12 + 4)), .int 0, .int 0, .int 0, .int 0, .long 0, .int 0, .int 0, .int 0, .int (-1), .ref (b 6), .ref (b 7), .ref (b 8), .ref (b 9), .ref (b 10), .ref (b 11), .ref (b 12), .ref (b 13), .int 0, .int 0, .int 0, .int 0, .ref (b 14), .int 0, .int 0])), ((b 5), .inl (ct 1, 900, .inl u))])) (va_runV (As := [.int p3]) (rest := []) ⟨hx, hb, hml, hown, hts⟩ (c_X11_four l G ct b 12 u_4 p3 (by omega)) (cwV 1 hts gX11_feed_X11_four rfl rfl rfl (by decide +kernel) ⟨Nat.le_of_ble_eq_true rfl, Nat.le_of_ble_eq_true rfl⟩) (wr_preV 11 0 hK (hP.sub [0, 1] rfl) (hD.sub [0, 1] (by decide) rfl) rfl rfl) rfl rfl hl.1 rfl (lv_room (Nat.le_of_ble_eq_true rfl)) dX11_feed_38 ⟨Nat.zero_le _, Nat.zero_le _⟩) hS hP hD [0, 1] [] rfl rfl (by decide) (fun _ => rfl) (fun u_5 H locs wu_5 hP hD hS => ?_)
    have hP : va_P G vwCl [((b 0), .inr (11, [.int 0, .ref (b 1), .ref (b 2), .ref (b 3), .ref (b 4), .ref (b 5), .int (nI 16), .int 0, .int 0, .int 0, .int 0, .long 0, .int 0, .int 0, .int 0, .int (-1), .ref (b 6), .ref (b 7), .ref (b 8), .ref (b 9), .ref (b 10), .ref (b 11), .ref (b 12), .ref (b 13), .int 0, .int 0, .int 0, .int 0, .ref (b 14), .int 0, .int 0])), ((b 5), .inl (ct 1, 900, .inl u_5))] H := hP.sub [0, 1] rfl
    have hD : va_D A [((b 0), .inr (11, [.int 0, .ref (b 1), .ref (b 2), .ref (b 3), .ref (b 4), .ref (b 5), .int (nI 16), .int 0, .int 0, .int 0, .int 0, .long 0, .int 0, .int 0, .int 0, .int (-1), .ref (b 6), .ref (b 7), .ref (b 8), .ref (b 9), .ref (b 10), .ref (b 11), .ref (b 12), .ref (b 13), .int 0, .int 0, .int 0, .int 0, .ref (b 14), .int 0, .int 0])), ((b 5), .inl (ct 1, 900, .inl u_5))] := hD.sub [0, 1] (by decide) rfl
    refine lv_aload_n hx hb dX11_feed_41 rfl (lv_at hl 0 rfl) ?_
    refine lv_iload hx hb dX11_feed_42 (lv_at hl 5 rfl) ?_
    refine wj_callv (wr := []) (w1 := (fun u : Nat → Int32 => [((b 0), .inr (11, [.int 0, .ref (b 1), .ref (b 2), .ref (b 3), .ref (b 4), .ref (b 5), .int (nI (16 + 4)), .int 0, .int 0, .int 0, .int 0, .long 0, .int 0, .int 0, .int 0, .int (-1), .ref (b 6), .ref (b 7), .ref (b 8), .ref (b 9), .ref (b 10), .ref (b 11), .ref (b 12), .ref (b 13), .int 0, .int 0, .int 0, .int 0, .ref (b 14), .int 0, .int 0])), ((b 5), .inl (ct 1, 900, .inl u))])) (va_runV (As := [.int p4]) (rest := []) ⟨hx, hb, hml, hown, hts⟩ (c_X11_four l G ct b 16 u_5 p4 (by omega)) (cwV 1 hts gX11_feed_X11_four rfl rfl rfl (by decide +kernel) ⟨Nat.le_of_ble_eq_true rfl, Nat.le_of_ble_eq_true rfl⟩) (wr_preV 11 0 hK (hP.sub [0, 1] rfl) (hD.sub [0, 1] (by decide) rfl) rfl rfl) rfl rfl hl.1 rfl (lv_room (Nat.le_of_ble_eq_true rfl)) dX11_feed_44 ⟨Nat.zero_le _, Nat.zero_le _⟩) hS hP hD [0, 1] [] rfl rfl (by decide) (fun _ => rfl) (fun u_6 H locs wu_6 hP hD hS => ?_)
    have hP : va_P G vwCl [((b 0), .inr (11, [.int 0, .ref (b 1), .ref (b 2), .ref (b 3), .ref (b 4), .ref (b 5), .int (nI 20), .int 0, .int 0, .int 0, .int 0, .long 0, .int 0, .int 0, .int 0, .int (-1), .ref (b 6), .ref (b 7), .ref (b 8), .ref (b 9), .ref (b 10), .ref (b 11), .ref (b 12), .ref (b 13), .int 0, .int 0, .int 0, .int 0, .ref (b 14), .int 0, .int 0])), ((b 5), .inl (ct 1, 900, .inl u_6))] H := hP.sub [0, 1] rfl
    have hD : va_D A [((b 0), .inr (11, [.int 0, .ref (b 1), .ref (b 2), .ref (b 3), .ref (b 4), .ref (b 5), .int (nI 20), .int 0, .int 0, .int 0, .int 0, .long 0, .int 0, .int 0, .int 0, .int (-1), .ref (b 6), .ref (b 7), .ref (b 8), .ref (b 9), .ref (b 10), .ref (b 11), .ref (b 12), .ref (b 13), .int 0, .int 0, .int 0, .int 0, .ref (b 14), .int 0, .int 0])), ((b 5), .inl (ct 1, 900, .inl u_6))] := hD.sub [0, 1] (by decide) rfl
    refine lv_aload_n hx hb dX11_feed_47 rfl (lv_at hl 0 rfl) ?_
    refine va_get (D := G) (ci := 11) (v := .int (nI 20)) (C := RX11) (T := TX11) (N := 31) hx hb hts (by decide +kernel) hown hK.1 hP 0 rfl rfl 6 (by decide) (hts (.fieldLink RX11 76 "CardHolderModel" "taped" "I") (by decide +kernel)) (fun _ h9 => h9) rfl dX11_feed_48 ?_
    exact W.iret (v := nI 20) hx hb hr (fun t ht hW => ⟨⟨nI 20, (), rfl, rfl, trivial⟩, hS.F ht⟩) hS.2.2 dX11_feed_51
  · exact absurd c_1 (by decide)
