theorem dX11_image_0 : decode cX11_image 0 = .ok (.aload_n 0, 1) := by decide +kernel
theorem dX11_image_1 : decode cX11_image 1 = .ok (.iconst 0, 1) := by decide +kernel
theorem dX11_image_2 : decode cX11_image 2 = .ok (.putfield 59, 3) := by decide +kernel
theorem dX11_image_5 : decode cX11_image 5 = .ok (.iload_n 1, 1) := by decide +kernel
theorem dX11_image_6 : decode cX11_image 6 = .ok (.i2l, 1) := by decide +kernel
theorem dX11_image_7 : decode cX11_image 7 = .ok (.lconst 0, 1) := by decide +kernel
theorem dX11_image_8 : decode cX11_image 8 = .ok (.ldc2_w 408, 3) := by decide +kernel
set_option maxRecDepth 20000 in
theorem ggX11_image_X11_in : GoodIn wsX11_image wsX11_in := goodIn_r _ [7] (by decide +kernel) (by decide +kernel)
set_option maxRecDepth 20000 in
theorem gX11_image_X11_in : GoodIn wsX11_image (va_wsS RX11 64 yX11_in wsX11_in) := goodIn_app (goodIn_of _ (by decide +kernel)) ggX11_image_X11_in
theorem dX11_image_11 : decode cX11_image 11 = .ok (.invokestatic 64, 3) := by decide +kernel
theorem dX11_image_14 : decode cX11_image 14 = .ok (.ifCond .ne 6, 3) := by decide +kernel
theorem dX11_image_20 : decode cX11_image 20 = .ok (.aload_n 0, 1) := by decide +kernel
theorem dX11_image_21 : decode cX11_image 21 = .ok (.iconst 0, 1) := by decide +kernel
theorem dX11_image_22 : decode cX11_image 22 = .ok (.iconst 1, 1) := by decide +kernel
theorem dX11_image_23 : decode cX11_image 23 = .ok (.iload_n 1, 1) := by decide +kernel
theorem dX11_image_24 : decode cX11_image 24 = .ok (.iadd, 1) := by decide +kernel
set_option maxRecDepth 20000 in
theorem ggX11_image_X11_copyCity : GoodIn wsX11_image wsX11_copyCity := goodIn_r _ [11, 12, 13, 14, 15, 16, 17, 6, 18, 19, 20, 21, 22, 23, 24, 25, 26, 27, 28, 29, 30, 31, 32, 33, 34, 35, 36, 37, 38, 39, 40, 41, 42, 43, 44, 45, 46, 47, 48, 49] (by decide +kernel) (by decide +kernel)
set_option maxRecDepth 20000 in
theorem gX11_image_X11_copyCity : GoodIn wsX11_image (wsV RX11 199 RX11 yX11_copyCity wsX11_copyCity) := goodIn_app (goodIn_of _ (by decide +kernel)) ggX11_image_X11_copyCity
theorem dX11_image_25 : decode cX11_image 25 = .ok (.invokevirtual 199, 3) := by decide +kernel
theorem dX11_image_28 : decode cX11_image 28 = .ok (.aload_n 0, 1) := by decide +kernel
theorem dX11_image_29 : decode cX11_image 29 = .ok (.getfield 43, 3) := by decide +kernel
theorem dX11_image_32 : decode cX11_image 32 = .ok (.iload_n 1, 1) := by decide +kernel
theorem dX11_image_33 : decode cX11_image 33 = .ok (.iconst 1, 1) := by decide +kernel
theorem dX11_image_34 : decode cX11_image 34 = .ok (.bastore, 1) := by decide +kernel
theorem dX11_image_35 : decode cX11_image 35 = .ok (.iconst 0, 1) := by decide +kernel
theorem dX11_image_36 : decode cX11_image 36 = .ok (.ireturn, 1) := by decide +kernel
theorem dX11_image_17 : decode cX11_image 17 = .ok (.bipush (-2), 2) := by decide +kernel
theorem dX11_image_19 : decode cX11_image 19 = .ok (.ireturn, 1) := by decide +kernel
set_option maxHeartbeats 4000000 in
set_option maxRecDepth 100000 in
theorem c_X11_image (l : Launch) (G : va_G) (ct : Nat → ClassId) (b : Nat → Nat) (p0 : Int32)  : Met l yX11_image wsX11_image ({ frames := 2, cells := 0, slots := 0, locals := 46 }) (va_Pc [.ref (b 0), .int p0] (wrP G ct (mF b ct))) (va_Qi (fun (r : Int32) (u : Unit) => r = fImage p0) (fun _ _ => True) (aset (mF b ct))) 0 0 (aset (mF b ct)) := by
  refine Met.ofW (cc := cX11_image) (maxL := 2) (ret := (some .int)) (by decide) rfl ?_
  intro p e s m args below meth c s₁ B hml hv
  obtain ⟨rfl, hP, hK, hD0⟩ := hv
  have hx := B.exec
  have hb := B.bytes
  have hr := B.returns
  have hts := atoms_spec (ws := wsX11_image) B.pre
  have hown : s.vm.findClass RX11 = some m.cls := findClass_of_methodNamed B.named
  have hlocks := B.notSynchronized
  have hD := hD0.aself
  generalize hAe : aset (mF b ct) = A at hD ⊢
  have hS : va_S A s.heap s.heap [] := va_S.rf
  have hl := lv_entry ([.ref (b 0), .int p0]) (n := 2) (Nat.le_of_ble_eq_true rfl)
  rw [lg_entry_eq]
  generalize (lg_sl ([.ref (b 0), .int p0]) ++ List.replicate (2 - (lg_sl ([.ref (b 0), .int p0])).length) Slot.unset).toArray = ls at hl ⊢
  have hl : lv_has ls 2 [(0, .ref (b 0)), (1, .int p0)] := hl
  have hP : va_P G vwCl [((b 0), .inr (11, [.int 0, .ref (b 1), .ref (b 2), .ref (b 3), .ref (b 4), .ref (b 5), .int 0, .int 0, .int 0, .int 0, .int 0, .long 0, .int 0, .int 0, .int 0, .int (-1), .ref (b 6), .ref (b 7), .ref (b 8), .ref (b 9), .ref (b 10), .ref (b 11), .ref (b 12), .ref (b 13), .int 0, .int 0, .int 0, .int 0, .ref (b 14), .int 0, .int 0])), ((b 6), .inl (ct 0, 5, .inl (fun _ => 0))), ((b 7), .inl (ct 0, 15, .inl (fun _ => 0))), ((b 8), .inl (ct 0, 200, .inl (fun _ => 0))), ((b 9), .inl (ct 0, 1000, .inl (fun _ => 0))), ((b 10), .inl (ct 2, 3, .inl (fun _ => 0)))] _ := hP.sub [0, 6, 7, 8, 9, 10] rfl
  have hD : va_D A [((b 0), .inr (11, [.int 0, .ref (b 1), .ref (b 2), .ref (b 3), .ref (b 4), .ref (b 5), .int 0, .int 0, .int 0, .int 0, .int 0, .long 0, .int 0, .int 0, .int 0, .int (-1), .ref (b 6), .ref (b 7), .ref (b 8), .ref (b 9), .ref (b 10), .ref (b 11), .ref (b 12), .ref (b 13), .int 0, .int 0, .int 0, .int 0, .ref (b 14), .int 0, .int 0])), ((b 6), .inl (ct 0, 5, .inl (fun _ => 0))), ((b 7), .inl (ct 0, 15, .inl (fun _ => 0))), ((b 8), .inl (ct 0, 200, .inl (fun _ => 0))), ((b 9), .inl (ct 0, 1000, .inl (fun _ => 0))), ((b 10), .inl (ct 2, 3, .inl (fun _ => 0)))] := hD.sub [0, 6, 7, 8, 9, 10] (by decide) rfl
  refine lv_aload_n hx hb dX11_image_0 rfl (lv_at hl 0 rfl) ?_
  refine lv_iconst (v := 0) hx hb dX11_image_1 (by decide) ?_
  refine va_put (D := G) (ci := 11) (v := .int 0) (ty := .int) (C := RX11) (T := TX11) (N := 31) hx hb hts (by decide +kernel) tyX11 tyX11_ok nmX11 hown hK.1 hP hD hS 0 rfl rfl 0 (by decide) (hts (.fieldLink RX11 59 "CardHolderModel" "thrown" "I") (by decide +kernel)) (fun _ h9 => h9) rfl (by decide +kernel) rfl rfl (Nat.le_of_ble_eq_true rfl) dX11_image_2 (fun H locs hP hD hS => ?_)
  refine lv_iload_n hx hb dX11_image_5 rfl (lv_at hl 1 rfl) ?_
  refine lv_i2l hx hb dX11_image_6 rfl ?_
  refine lv_lconst (v := 0) hx hb dX11_image_7 (by decide) ?_
  refine lv_ldc2 (own := RX11) (v := 2) hx hb hown (hts (.constantLong RX11 408 (2)) (by decide +kernel)) dX11_image_8 ?_
  refine ro_calli (va_runS (As := [.long p0.toInt64, .long 0, .long 2]) (rest := []) ⟨hx, hb, hml, hown, hts⟩ (c_X11_in l G ct p0.toInt64 0 2) (va_cwS 3 hts gX11_image_X11_in rfl rfl rfl (by decide +kernel) ⟨Nat.le_of_ble_eq_true rfl, Nat.le_of_ble_eq_true rfl⟩) (ro_pre hK (hP.sub [] rfl)) rfl rfl hl.1 rfl (lv_room (Nat.le_of_ble_eq_true rfl)) dX11_image_11 ⟨Nat.zero_le _, Nat.zero_le _⟩) hS hP (fun r_1 H locs wr_1 hP hS => ?_)
  refine lv_if_ne (tgt := 20) hx hb dX11_image_14 (by decide) (fun c_2 => ?_) (fun c_2 => ?_)
  · rcases (sp3 (by have f0 := i_ne c_2; have gwr_1 := wr_1; unfold inP at gwr_1; have := Int32.toInt_toInt64 p0; have : (0 : Int64).toInt = 0 := (by decide); have : (2 : Int64).toInt = 2 := (by decide); have : (0 : Int32).toInt = 0 := (by decide); omega) (by have f0 := i_ne c_2; have gwr_1 := wr_1; unfold inP at gwr_1; have := Int32.toInt_toInt64 p0; have : (0 : Int64).toInt = 0 := (by decide); have : (2 : Int64).toInt = 2 := (by decide); have : (0 : Int32).toInt = 0 := (by decide); omega) : p0 = 0 ∨ p0 = 1 ∨ p0 = 2) with rfl | rfl | rfl
    · refine lv_aload_n hx hb dX11_image_20 rfl (lv_at hl 0 rfl) ?_
      refine lv_iconst (v := 0) hx hb dX11_image_21 (by decide) ?_
      refine lv_iconst (v := 1) hx hb dX11_image_22 (by decide) ?_
      refine lv_iload_n hx hb dX11_image_23 rfl (lv_at hl 1 rfl) ?_
      refine lv_iadd hx hb dX11_image_24 ?_
      refine ix_i (y := 1) (by decide) ?_
      refine wj_callv (wr := [((b 10), .inl (ct 2, 3, .inl (fun _ => 0)))]) (w1 := (fun u : (Nat → Int32) × (Nat → Int32) × (Nat → Int32) × (Nat → Int32) => [((b 0), .inr (11, [.int 0, .ref (b 1), .ref (b 2), .ref (b 3), .ref (b 4), .ref (b 5), .int 0, .int 0, .int 0, .int 0, .int 0, .long 0, .int 0, .int 0, .int 0, .int (-1), .ref (b 6), .ref (b 7), .ref (b 8), .ref (b 9), .ref (b 10), .ref (b 11), .ref (b 12), .ref (b 13), .int 0, .int 0, .int 0, .int 0, .ref (b 14), .int 0, .int 0])), ((b 6), .inl (ct 0, 5, .inl u.1)), ((b 7), .inl (ct 0, 15, .inl u.2.1)), ((b 8), .inl (ct 0, 200, .inl u.2.2.1)), ((b 9), .inl (ct 0, 1000, .inl u.2.2.2))])) (va_runV (As := [.int 0, .int 1]) (rest := []) ⟨hx, hb, hml, hown, hts⟩ (c_copyCity_0_1 l G ct b 0 (fun _ => 0) (fun _ => 0) (fun _ => 0) (fun _ => 0)) (cwV 2 hts gX11_image_X11_copyCity rfl rfl rfl (by decide +kernel) ⟨Nat.le_of_ble_eq_true rfl, Nat.le_of_ble_eq_true rfl⟩) (wr_preV 11 0 hK (hP.sub [0, 1, 2, 3, 4] rfl) (hD.sub [0, 1, 2, 3, 4] (by decide) rfl) rfl rfl) rfl rfl hl.1 rfl (lv_room (Nat.le_of_ble_eq_true rfl)) dX11_image_25 ⟨Nat.zero_le _, Nat.zero_le _⟩) hS hP hD [0, 1, 2, 3, 4] [5] rfl rfl (by decide) (fun _ => rfl) (fun u_3 H locs wu_3 hP hD hS => ?_)
      obtain ⟨l_4, l_5, l_6, l_7⟩ := u_3
      have hP : va_P G vwCl [((b 0), .inr (11, [.int 0, .ref (b 1), .ref (b 2), .ref (b 3), .ref (b 4), .ref (b 5), .int 0, .int 0, .int 0, .int 0, .int 0, .long 0, .int 0, .int 0, .int 0, .int (-1), .ref (b 6), .ref (b 7), .ref (b 8), .ref (b 9), .ref (b 10), .ref (b 11), .ref (b 12), .ref (b 13), .int 0, .int 0, .int 0, .int 0, .ref (b 14), .int 0, .int 0])), ((b 6), .inl (ct 0, 5, .inl l_4)), ((b 7), .inl (ct 0, 15, .inl l_5)), ((b 8), .inl (ct 0, 200, .inl l_6)), ((b 9), .inl (ct 0, 1000, .inl l_7)), ((b 10), .inl (ct 2, 3, .inl (fun _ => 0)))] H := hP.sub [1, 2, 3, 4, 5, 0] rfl
      have hD : va_D A [((b 0), .inr (11, [.int 0, .ref (b 1), .ref (b 2), .ref (b 3), .ref (b 4), .ref (b 5), .int 0, .int 0, .int 0, .int 0, .int 0, .long 0, .int 0, .int 0, .int 0, .int (-1), .ref (b 6), .ref (b 7), .ref (b 8), .ref (b 9), .ref (b 10), .ref (b 11), .ref (b 12), .ref (b 13), .int 0, .int 0, .int 0, .int 0, .ref (b 14), .int 0, .int 0])), ((b 6), .inl (ct 0, 5, .inl l_4)), ((b 7), .inl (ct 0, 15, .inl l_5)), ((b 8), .inl (ct 0, 200, .inl l_6)), ((b 9), .inl (ct 0, 1000, .inl l_7)), ((b 10), .inl (ct 2, 3, .inl (fun _ => 0)))] := hD.sub [1, 2, 3, 4, 5, 0] (by decide) rfl
      refine lv_aload_n hx hb dX11_image_28 rfl (lv_at hl 0 rfl) ?_
      refine va_get (D := G) (ci := 11) (v := .ref (b 10)) (C := RX11) (T := TX11) (N := 31) hx hb hts (by decide +kernel) hown hK.1 hP 0 rfl rfl 20 (by decide) (hts (.fieldLink RX11 43 "CardHolderModel" "isKept" "[Z") (by decide +kernel)) (fun _ h9 => h9) rfl dX11_image_29 ?_
      refine lv_iload_n hx hb dX11_image_32 rfl (lv_at hl 1 rfl) ?_
      refine lv_iconst (v := 1) hx hb dX11_image_33 (by decide) ?_
      refine va_zast hx hb hK.1 hP hD hS 5 2 rfl rfl (in_lit (by decide)) dX11_image_34 (fun H locs hP hD hS => ?_)
      refine lv_iconst (v := 0) hx hb dX11_image_35 (by decide) ?_
      exact W.iret (v := 0) hx hb hr (fun t ht hW => ⟨⟨0, (), rfl, by have f0 := i_ne c_2; have gwr_1 := wr_1; unfold inP at gwr_1; have := Int32.toInt_toInt64 (0 : Int32); have : (0 : Int64).toInt = 0 := (by decide); have : (2 : Int64).toInt = 2 := (by decide); have : (0 : Int32).toInt = 0 := (by decide); show (0 : Int32) = fImage (0 : Int32); unfold fImage; (repeat' split) <;> first | rfl | (exfalso; omega), trivial⟩, hS.F ht⟩) hS.2.2 dX11_image_36
    · refine lv_aload_n hx hb dX11_image_20 rfl (lv_at hl 0 rfl) ?_
      refine lv_iconst (v := 0) hx hb dX11_image_21 (by decide) ?_
      refine lv_iconst (v := 1) hx hb dX11_image_22 (by decide) ?_
      refine lv_iload_n hx hb dX11_image_23 rfl (lv_at hl 1 rfl) ?_
      refine lv_iadd hx hb dX11_image_24 ?_
      refine ix_i (y := 2) (by decide) ?_
      refine wj_callv (wr := [((b 10), .inl (ct 2, 3, .inl (fun _ => 0)))]) (w1 := (fun u : (Nat → Int32) × (Nat → Int32) × (Nat → Int32) × (Nat → Int32) => [((b 0), .inr (11, [.int 0, .ref (b 1), .ref (b 2), .ref (b 3), .ref (b 4), .ref (b 5), .int 0, .int 0, .int 0, .int 0, .int 0, .long 0, .int 0, .int 0, .int 0, .int (-1), .ref (b 6), .ref (b 7), .ref (b 8), .ref (b 9), .ref (b 10), .ref (b 11), .ref (b 12), .ref (b 13), .int 0, .int 0, .int 0, .int 0, .ref (b 14), .int 0, .int 0])), ((b 6), .inl (ct 0, 5, .inl u.1)), ((b 7), .inl (ct 0, 15, .inl u.2.1)), ((b 8), .inl (ct 0, 200, .inl u.2.2.1)), ((b 9), .inl (ct 0, 1000, .inl u.2.2.2))])) (va_runV (As := [.int 0, .int 2]) (rest := []) ⟨hx, hb, hml, hown, hts⟩ (c_copyCity_0_2 l G ct b 0 (fun _ => 0) (fun _ => 0) (fun _ => 0) (fun _ => 0)) (cwV 2 hts gX11_image_X11_copyCity rfl rfl rfl (by decide +kernel) ⟨Nat.le_of_ble_eq_true rfl, Nat.le_of_ble_eq_true rfl⟩) (wr_preV 11 0 hK (hP.sub [0, 1, 2, 3, 4] rfl) (hD.sub [0, 1, 2, 3, 4] (by decide) rfl) rfl rfl) rfl rfl hl.1 rfl (lv_room (Nat.le_of_ble_eq_true rfl)) dX11_image_25 ⟨Nat.zero_le _, Nat.zero_le _⟩) hS hP hD [0, 1, 2, 3, 4] [5] rfl rfl (by decide) (fun _ => rfl) (fun u_8 H locs wu_8 hP hD hS => ?_)
      obtain ⟨l_9, l_10, l_11, l_12⟩ := u_8
      have hP : va_P G vwCl [((b 0), .inr (11, [.int 0, .ref (b 1), .ref (b 2), .ref (b 3), .ref (b 4), .ref (b 5), .int 0, .int 0, .int 0, .int 0, .int 0, .long 0, .int 0, .int 0, .int 0, .int (-1), .ref (b 6), .ref (b 7), .ref (b 8), .ref (b 9), .ref (b 10), .ref (b 11), .ref (b 12), .ref (b 13), .int 0, .int 0, .int 0, .int 0, .ref (b 14), .int 0, .int 0])), ((b 6), .inl (ct 0, 5, .inl l_9)), ((b 7), .inl (ct 0, 15, .inl l_10)), ((b 8), .inl (ct 0, 200, .inl l_11)), ((b 9), .inl (ct 0, 1000, .inl l_12)), ((b 10), .inl (ct 2, 3, .inl (fun _ => 0)))] H := hP.sub [1, 2, 3, 4, 5, 0] rfl
      have hD : va_D A [((b 0), .inr (11, [.int 0, .ref (b 1), .ref (b 2), .ref (b 3), .ref (b 4), .ref (b 5), .int 0, .int 0, .int 0, .int 0, .int 0, .long 0, .int 0, .int 0, .int 0, .int (-1), .ref (b 6), .ref (b 7), .ref (b 8), .ref (b 9), .ref (b 10), .ref (b 11), .ref (b 12), .ref (b 13), .int 0, .int 0, .int 0, .int 0, .ref (b 14), .int 0, .int 0])), ((b 6), .inl (ct 0, 5, .inl l_9)), ((b 7), .inl (ct 0, 15, .inl l_10)), ((b 8), .inl (ct 0, 200, .inl l_11)), ((b 9), .inl (ct 0, 1000, .inl l_12)), ((b 10), .inl (ct 2, 3, .inl (fun _ => 0)))] := hD.sub [1, 2, 3, 4, 5, 0] (by decide) rfl
      refine lv_aload_n hx hb dX11_image_28 rfl (lv_at hl 0 rfl) ?_
      refine va_get (D := G) (ci := 11) (v := .ref (b 10)) (C := RX11) (T := TX11) (N := 31) hx hb hts (by decide +kernel) hown hK.1 hP 0 rfl rfl 20 (by decide) (hts (.fieldLink RX11 43 "CardHolderModel" "isKept" "[Z") (by decide +kernel)) (fun _ h9 => h9) rfl dX11_image_29 ?_
      refine lv_iload_n hx hb dX11_image_32 rfl (lv_at hl 1 rfl) ?_
      refine lv_iconst (v := 1) hx hb dX11_image_33 (by decide) ?_
      refine va_zast hx hb hK.1 hP hD hS 5 2 rfl rfl (in_lit (by decide)) dX11_image_34 (fun H locs hP hD hS => ?_)
      refine lv_iconst (v := 0) hx hb dX11_image_35 (by decide) ?_
      exact W.iret (v := 0) hx hb hr (fun t ht hW => ⟨⟨0, (), rfl, by have f0 := i_ne c_2; have gwr_1 := wr_1; unfold inP at gwr_1; have := Int32.toInt_toInt64 (1 : Int32); have : (0 : Int64).toInt = 0 := (by decide); have : (2 : Int64).toInt = 2 := (by decide); have : (0 : Int32).toInt = 0 := (by decide); have : (1 : Int32).toInt = 1 := (by decide); show (0 : Int32) = fImage (1 : Int32); unfold fImage; (repeat' split) <;> first | rfl | (exfalso; omega), trivial⟩, hS.F ht⟩) hS.2.2 dX11_image_36
    · refine lv_aload_n hx hb dX11_image_20 rfl (lv_at hl 0 rfl) ?_
      refine lv_iconst (v := 0) hx hb dX11_image_21 (by decide) ?_
      refine lv_iconst (v := 1) hx hb dX11_image_22 (by decide) ?_
      refine lv_iload_n hx hb dX11_image_23 rfl (lv_at hl 1 rfl) ?_
      refine lv_iadd hx hb dX11_image_24 ?_
      refine ix_i (y := 3) (by decide) ?_
      refine wj_callv (wr := [((b 10), .inl (ct 2, 3, .inl (fun _ => 0)))]) (w1 := (fun u : (Nat → Int32) × (Nat → Int32) × (Nat → Int32) × (Nat → Int32) => [((b 0), .inr (11, [.int 0, .ref (b 1), .ref (b 2), .ref (b 3), .ref (b 4), .ref (b 5), .int 0, .int 0, .int 0, .int 0, .int 0, .long 0, .int 0, .int 0, .int 0, .int (-1), .ref (b 6), .ref (b 7), .ref (b 8), .ref (b 9), .ref (b 10), .ref (b 11), .ref (b 12), .ref (b 13), .int 0, .int 0, .int 0, .int 0, .ref (b 14), .int 0, .int 0])), ((b 6), .inl (ct 0, 5, .inl u.1)), ((b 7), .inl (ct 0, 15, .inl u.2.1)), ((b 8), .inl (ct 0, 200, .inl u.2.2.1)), ((b 9), .inl (ct 0, 1000, .inl u.2.2.2))])) (va_runV (As := [.int 0, .int 3]) (rest := []) ⟨hx, hb, hml, hown, hts⟩ (c_copyCity_0_3 l G ct b 0 (fun _ => 0) (fun _ => 0) (fun _ => 0) (fun _ => 0)) (cwV 2 hts gX11_image_X11_copyCity rfl rfl rfl (by decide +kernel) ⟨Nat.le_of_ble_eq_true rfl, Nat.le_of_ble_eq_true rfl⟩) (wr_preV 11 0 hK (hP.sub [0, 1, 2, 3, 4] rfl) (hD.sub [0, 1, 2, 3, 4] (by decide) rfl) rfl rfl) rfl rfl hl.1 rfl (lv_room (Nat.le_of_ble_eq_true rfl)) dX11_image_25 ⟨Nat.zero_le _, Nat.zero_le _⟩) hS hP hD [0, 1, 2, 3, 4] [5] rfl rfl (by decide) (fun _ => rfl) (fun u_13 H locs wu_13 hP hD hS => ?_)
      obtain ⟨l_14, l_15, l_16, l_17⟩ := u_13
      have hP : va_P G vwCl [((b 0), .inr (11, [.int 0, .ref (b 1), .ref (b 2), .ref (b 3), .ref (b 4), .ref (b 5), .int 0, .int 0, .int 0, .int 0, .int 0, .long 0, .int 0, .int 0, .int 0, .int (-1), .ref (b 6), .ref (b 7), .ref (b 8), .ref (b 9), .ref (b 10), .ref (b 11), .ref (b 12), .ref (b 13), .int 0, .int 0, .int 0, .int 0, .ref (b 14), .int 0, .int 0])), ((b 6), .inl (ct 0, 5, .inl l_14)), ((b 7), .inl (ct 0, 15, .inl l_15)), ((b 8), .inl (ct 0, 200, .inl l_16)), ((b 9), .inl (ct 0, 1000, .inl l_17)), ((b 10), .inl (ct 2, 3, .inl (fun _ => 0)))] H := hP.sub [1, 2, 3, 4, 5, 0] rfl
      have hD : va_D A [((b 0), .inr (11, [.int 0, .ref (b 1), .ref (b 2), .ref (b 3), .ref (b 4), .ref (b 5), .int 0, .int 0, .int 0, .int 0, .int 0, .long 0, .int 0, .int 0, .int 0, .int (-1), .ref (b 6), .ref (b 7), .ref (b 8), .ref (b 9), .ref (b 10), .ref (b 11), .ref (b 12), .ref (b 13), .int 0, .int 0, .int 0, .int 0, .ref (b 14), .int 0, .int 0])), ((b 6), .inl (ct 0, 5, .inl l_14)), ((b 7), .inl (ct 0, 15, .inl l_15)), ((b 8), .inl (ct 0, 200, .inl l_16)), ((b 9), .inl (ct 0, 1000, .inl l_17)), ((b 10), .inl (ct 2, 3, .inl (fun _ => 0)))] := hD.sub [1, 2, 3, 4, 5, 0] (by decide) rfl
      refine lv_aload_n hx hb dX11_image_28 rfl (lv_at hl 0 rfl) ?_
      refine va_get (D := G) (ci := 11) (v := .ref (b 10)) (C := RX11) (T := TX11) (N := 31) hx hb hts (by decide +kernel) hown hK.1 hP 0 rfl rfl 20 (by decide) (hts (.fieldLink RX11 43 "CardHolderModel" "isKept" "[Z") (by decide +kernel)) (fun _ h9 => h9) rfl dX11_image_29 ?_
      refine lv_iload_n hx hb dX11_image_32 rfl (lv_at hl 1 rfl) ?_
      refine lv_iconst (v := 1) hx hb dX11_image_33 (by decide) ?_
      refine va_zast hx hb hK.1 hP hD hS 5 2 rfl rfl (in_lit (by decide)) dX11_image_34 (fun H locs hP hD hS => ?_)
      refine lv_iconst (v := 0) hx hb dX11_image_35 (by decide) ?_
      exact W.iret (v := 0) hx hb hr (fun t ht hW => ⟨⟨0, (), rfl, by have f0 := i_ne c_2; have gwr_1 := wr_1; unfold inP at gwr_1; have := Int32.toInt_toInt64 (2 : Int32); have : (0 : Int64).toInt = 0 := (by decide); have : (2 : Int64).toInt = 2 := (by decide); have : (0 : Int32).toInt = 0 := (by decide); have : (2 : Int32).toInt = 2 := (by decide); show (0 : Int32) = fImage (2 : Int32); unfold fImage; (repeat' split) <;> first | rfl | (exfalso; omega), trivial⟩, hS.F ht⟩) hS.2.2 dX11_image_36
  · refine lv_bipush (v := (-2)) hx hb dX11_image_17 (by decide) ?_
    exact W.iret (v := (-2)) hx hb hr (fun t ht hW => ⟨⟨(-2), (), rfl, by have f0 := i_eq c_2; have gwr_1 := wr_1; unfold inP at gwr_1; have := Int32.toInt_toInt64 p0; have : (0 : Int64).toInt = 0 := (by decide); have : (2 : Int64).toInt = 2 := (by decide); have : ((-2) : Int32).toInt = -2 := (by decide); have : (0 : Int32).toInt = 0 := (by decide); show ((-2) : Int32) = fImage p0; unfold fImage; (repeat' split) <;> first | rfl | (exfalso; omega), trivial⟩, hS.F ht⟩) hS.2.2 dX11_image_19
