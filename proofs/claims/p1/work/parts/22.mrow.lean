theorem dX11_row_0 : decode cX11_row 0 = .ok (.aload_n 0, 1) := by decide +kernel
theorem dX11_row_1 : decode cX11_row 1 = .ok (.iconst 0, 1) := by decide +kernel
theorem dX11_row_2 : decode cX11_row 2 = .ok (.putfield 59, 3) := by decide +kernel
theorem dX11_row_5 : decode cX11_row 5 = .ok (.iload_n 1, 1) := by decide +kernel
set_option maxRecDepth 20000 in
theorem ggX11_row_X11_isSlot : GoodIn wsX11_row wsX11_isSlot := goodIn_r _ [9, 2, 10, 11, 8, 12] (by decide +kernel) (by decide +kernel)
set_option maxRecDepth 20000 in
theorem gX11_row_X11_isSlot : GoodIn wsX11_row (va_wsS RX11 68 yX11_isSlot wsX11_isSlot) := goodIn_app (goodIn_of _ (by decide +kernel)) ggX11_row_X11_isSlot
theorem dX11_row_6 : decode cX11_row 6 = .ok (.invokestatic 68, 3) := by decide +kernel
theorem dX11_row_9 : decode cX11_row 9 = .ok (.ifCond .eq 21, 3) := by decide +kernel
theorem dX11_row_30 : decode cX11_row 30 = .ok (.bipush (-2), 2) := by decide +kernel
theorem dX11_row_32 : decode cX11_row 32 = .ok (.ireturn, 1) := by decide +kernel
theorem dX11_row_12 : decode cX11_row 12 = .ok (.iload_n 2, 1) := by decide +kernel
theorem dX11_row_13 : decode cX11_row 13 = .ok (.i2l, 1) := by decide +kernel
theorem dX11_row_14 : decode cX11_row 14 = .ok (.lconst 0, 1) := by decide +kernel
theorem dX11_row_15 : decode cX11_row 15 = .ok (.ldc2_w 62, 3) := by decide +kernel
set_option maxRecDepth 20000 in
theorem ggX11_row_X11_in : GoodIn wsX11_row wsX11_in := goodIn_r _ [12] (by decide +kernel) (by decide +kernel)
set_option maxRecDepth 20000 in
theorem gX11_row_X11_in : GoodIn wsX11_row (va_wsS RX11 64 yX11_in wsX11_in) := goodIn_app (goodIn_of _ (by decide +kernel)) ggX11_row_X11_in
theorem dX11_row_18 : decode cX11_row 18 = .ok (.invokestatic 64, 3) := by decide +kernel
theorem dX11_row_21 : decode cX11_row 21 = .ok (.ifCond .eq 9, 3) := by decide +kernel
theorem dX11_row_24 : decode cX11_row 24 = .ok (.iload_n 3, 1) := by decide +kernel
theorem dX11_row_25 : decode cX11_row 25 = .ok (.bipush 60, 2) := by decide +kernel
theorem dX11_row_27 : decode cX11_row 27 = .ok (.if_icmp .le 6, 3) := by decide +kernel
theorem dX11_row_33 : decode cX11_row 33 = .ok (.iload_n 3, 1) := by decide +kernel
theorem dX11_row_34 : decode cX11_row 34 = .ok (.ifCond .ge 6, 3) := by decide +kernel
theorem dX11_row_40 : decode cX11_row 40 = .ok (.aload_n 0, 1) := by decide +kernel
theorem dX11_row_41 : decode cX11_row 41 = .ok (.getfield 7, 3) := by decide +kernel
theorem dX11_row_44 : decode cX11_row 44 = .ok (.iload_n 1, 1) := by decide +kernel
theorem dX11_row_45 : decode cX11_row 45 = .ok (.iload_n 2, 1) := by decide +kernel
theorem dX11_row_46 : decode cX11_row 46 = .ok (.iastore, 1) := by decide +kernel
theorem dX11_row_47 : decode cX11_row 47 = .ok (.aload_n 0, 1) := by decide +kernel
theorem dX11_row_48 : decode cX11_row 48 = .ok (.getfield 13, 3) := by decide +kernel
theorem dX11_row_51 : decode cX11_row 51 = .ok (.iload_n 1, 1) := by decide +kernel
theorem dX11_row_52 : decode cX11_row 52 = .ok (.iload_n 3, 1) := by decide +kernel
theorem dX11_row_53 : decode cX11_row 53 = .ok (.iastore, 1) := by decide +kernel
theorem dX11_row_54 : decode cX11_row 54 = .ok (.iconst 0, 1) := by decide +kernel
theorem dX11_row_55 : decode cX11_row 55 = .ok (.istore 4, 2) := by decide +kernel
theorem dX11_row_57 : decode cX11_row 57 = .ok (.iload 4, 2) := by decide +kernel
theorem dX11_row_59 : decode cX11_row 59 = .ok (.iload_n 3, 1) := by decide +kernel
theorem dX11_row_60 : decode cX11_row 60 = .ok (.if_icmp .ge 22, 3) := by decide +kernel
theorem dX11_row_82 : decode cX11_row 82 = .ok (.iconst 0, 1) := by decide +kernel
theorem dX11_row_83 : decode cX11_row 83 = .ok (.ireturn, 1) := by decide +kernel
theorem dX11_row_63 : decode cX11_row 63 = .ok (.aload_n 0, 1) := by decide +kernel
theorem dX11_row_64 : decode cX11_row 64 = .ok (.getfield 16, 3) := by decide +kernel
theorem dX11_row_67 : decode cX11_row 67 = .ok (.bipush 60, 2) := by decide +kernel
theorem dX11_row_69 : decode cX11_row 69 = .ok (.iload_n 1, 1) := by decide +kernel
theorem dX11_row_70 : decode cX11_row 70 = .ok (.imul, 1) := by decide +kernel
theorem dX11_row_71 : decode cX11_row 71 = .ok (.iload 4, 2) := by decide +kernel
theorem dX11_row_73 : decode cX11_row 73 = .ok (.iadd, 1) := by decide +kernel
theorem dX11_row_74 : decode cX11_row 74 = .ok (.lconst 0, 1) := by decide +kernel
theorem dX11_row_75 : decode cX11_row 75 = .ok (.lastore, 1) := by decide +kernel
theorem dX11_row_76 : decode cX11_row 76 = .ok (.iinc 4 1, 3) := by decide +kernel
theorem dX11_row_79 : decode cX11_row 79 = .ok (.goto (-22), 3) := by decide +kernel
theorem dX11_row_37 : decode cX11_row 37 = .ok (.bipush (-3), 2) := by decide +kernel
theorem dX11_row_39 : decode cX11_row 39 = .ok (.ireturn, 1) := by decide +kernel
set_option maxHeartbeats 4000000 in
set_option maxRecDepth 100000 in
theorem c_X11_row (l : Launch) (G : va_G) (ct : Nat → ClassId) (b : Nat → Nat) (p0 : Int32) (p1 : Int32) (p2 : Int32)  : Met l yX11_row wsX11_row ({ frames := 2, cells := 0, slots := 0, locals := 45 }) (va_Pc [.ref (b 0), .int p0, .int p1, .int p2] (wrP G ct (mF b ct))) (va_Qi (fun (r : Int32) (u : Unit) => r = fRow p0 p1 p2) (fun _ _ => True) (aset (mF b ct))) 0 0 (aset (mF b ct)) := by
  refine Met.ofW (cc := cX11_row) (maxL := 5) (ret := (some .int)) (by decide) rfl ?_
  intro p e s m args below meth c s₁ B hml hv
  obtain ⟨rfl, hP, hK, hD0⟩ := hv
  have hx := B.exec
  have hb := B.bytes
  have hr := B.returns
  have hts := atoms_spec (ws := wsX11_row) B.pre
  have hown : s.vm.findClass RX11 = some m.cls := findClass_of_methodNamed B.named
  have hlocks := B.notSynchronized
  have hD := hD0.aself
  generalize hAe : aset (mF b ct) = A at hD ⊢
  have hS : va_S A s.heap s.heap [] := va_S.rf
  have hl := lv_entry ([.ref (b 0), .int p0, .int p1, .int p2]) (n := 5) (Nat.le_of_ble_eq_true rfl)
  rw [lg_entry_eq]
  generalize (lg_sl ([.ref (b 0), .int p0, .int p1, .int p2]) ++ List.replicate (5 - (lg_sl ([.ref (b 0), .int p0, .int p1, .int p2])).length) Slot.unset).toArray = ls at hl ⊢
  have hl : lv_has ls 5 [(0, .ref (b 0)), (1, .int p0), (2, .int p1), (3, .int p2)] := hl
  have hP : va_P G vwCl [((b 0), .inr (11, [.int 0, .ref (b 1), .ref (b 2), .ref (b 3), .ref (b 4), .ref (b 5), .int 0, .int 0, .int 0, .int 0, .int 0, .long 0, .int 0, .int 0, .int 0, .int (-1), .ref (b 6), .ref (b 7), .ref (b 8), .ref (b 9), .ref (b 10), .ref (b 11), .ref (b 12), .ref (b 13), .int 0, .int 0, .int 0, .int 0, .ref (b 14), .int 0, .int 0])), ((b 1), .inl (ct 0, 4, .inl WD)), ((b 2), .inl (ct 0, 4, .inl (fun _ => 0))), ((b 3), .inl (ct 3, 240, .inr (.inl (fun _ => 0))))] _ := hP.sub [0, 1, 2, 3] rfl
  have hD : va_D A [((b 0), .inr (11, [.int 0, .ref (b 1), .ref (b 2), .ref (b 3), .ref (b 4), .ref (b 5), .int 0, .int 0, .int 0, .int 0, .int 0, .long 0, .int 0, .int 0, .int 0, .int (-1), .ref (b 6), .ref (b 7), .ref (b 8), .ref (b 9), .ref (b 10), .ref (b 11), .ref (b 12), .ref (b 13), .int 0, .int 0, .int 0, .int 0, .ref (b 14), .int 0, .int 0])), ((b 1), .inl (ct 0, 4, .inl WD)), ((b 2), .inl (ct 0, 4, .inl (fun _ => 0))), ((b 3), .inl (ct 3, 240, .inr (.inl (fun _ => 0))))] := hD.sub [0, 1, 2, 3] (by decide) rfl
  refine lv_aload_n hx hb dX11_row_0 rfl (lv_at hl 0 rfl) ?_
  refine lv_iconst (v := 0) hx hb dX11_row_1 (by decide) ?_
  refine va_put (D := G) (ci := 11) (v := .int 0) (ty := .int) (C := RX11) (T := TX11) (N := 31) hx hb hts (by decide +kernel) tyX11 tyX11_ok nmX11 hown hK.1 hP hD hS 0 rfl rfl 0 (by decide) (hts (.fieldLink RX11 59 "CardHolderModel" "thrown" "I") (by decide +kernel)) (fun _ h9 => h9) rfl (by decide +kernel) rfl rfl (Nat.le_of_ble_eq_true rfl) dX11_row_2 (fun H locs hP hD hS => ?_)
  refine lv_iload_n hx hb dX11_row_5 rfl (lv_at hl 1 rfl) ?_
  refine ro_calli (va_runS (As := [.int p0]) (rest := []) ⟨hx, hb, hml, hown, hts⟩ (c_X11_isSlot l G ct p0) (va_cwS 1 hts gX11_row_X11_isSlot rfl rfl rfl (by decide +kernel) ⟨Nat.le_of_ble_eq_true rfl, Nat.le_of_ble_eq_true rfl⟩) (ro_pre hK (hP.sub [] rfl)) rfl rfl hl.1 rfl (lv_room (Nat.le_of_ble_eq_true rfl)) dX11_row_6 ⟨Nat.zero_le _, Nat.zero_le _⟩) hS hP (fun r_1 H locs wr_1 hP hS => ?_)
  refine lv_if_eq (tgt := 30) hx hb dX11_row_9 (by decide) (fun c_2 => ?_) (fun c_2 => ?_)
  · refine lv_bipush (v := (-2)) hx hb dX11_row_30 (by decide) ?_
    exact W.iret (v := (-2)) hx hb hr (fun t ht hW => ⟨⟨(-2), (), rfl, by have f0 := i_eq c_2; have gwr_1 := wr_1; unfold slotP at gwr_1; have : ((-2) : Int32).toInt = -2 := (by decide); have : (0 : Int32).toInt = 0 := (by decide); show ((-2) : Int32) = fRow p0 p1 p2; unfold fRow; (repeat' split) <;> first | rfl | (exfalso; omega), trivial⟩, hS.F ht⟩) hS.2.2 dX11_row_32
  · refine lv_iload_n hx hb dX11_row_12 rfl (lv_at hl 2 rfl) ?_
    refine lv_i2l hx hb dX11_row_13 rfl ?_
    refine lv_lconst (v := 0) hx hb dX11_row_14 (by decide) ?_
    refine lv_ldc2 (own := RX11) (v := 3) hx hb hown (hts (.constantLong RX11 62 (3)) (by decide +kernel)) dX11_row_15 ?_
    refine ro_calli (va_runS (As := [.long p1.toInt64, .long 0, .long 3]) (rest := []) ⟨hx, hb, hml, hown, hts⟩ (c_X11_in l G ct p1.toInt64 0 3) (va_cwS 3 hts gX11_row_X11_in rfl rfl rfl (by decide +kernel) ⟨Nat.le_of_ble_eq_true rfl, Nat.le_of_ble_eq_true rfl⟩) (ro_pre hK (hP.sub [] rfl)) rfl rfl hl.1 rfl (lv_room (Nat.le_of_ble_eq_true rfl)) dX11_row_18 ⟨Nat.zero_le _, Nat.zero_le _⟩) hS hP (fun r_3 H locs wr_3 hP hS => ?_)
    refine lv_if_eq (tgt := 30) hx hb dX11_row_21 (by decide) (fun c_4 => ?_) (fun c_4 => ?_)
    · refine lv_bipush (v := (-2)) hx hb dX11_row_30 (by decide) ?_
      exact W.iret (v := (-2)) hx hb hr (fun t ht hW => ⟨⟨(-2), (), rfl, by have f0 := i_ne c_2; have f1 := i_eq c_4; have gwr_1 := wr_1; unfold slotP at gwr_1; have gwr_3 := wr_3; unfold inP at gwr_3; have := Int32.toInt_toInt64 p1; have : (0 : Int64).toInt = 0 := (by decide); have : (3 : Int64).toInt = 3 := (by decide); have : ((-2) : Int32).toInt = -2 := (by decide); have : (0 : Int32).toInt = 0 := (by decide); show ((-2) : Int32) = fRow p0 p1 p2; unfold fRow; (repeat' split) <;> first | rfl | (exfalso; omega), trivial⟩, hS.F ht⟩) hS.2.2 dX11_row_32
    · refine lv_iload_n hx hb dX11_row_24 rfl (lv_at hl 3 rfl) ?_
      refine lv_bipush (v := 60) hx hb dX11_row_25 (by decide) ?_
      refine lv_icmp_le (tgt := 33) hx hb dX11_row_27 (by decide) (fun c_5 => ?_) (fun c_5 => ?_)
      · refine lv_iload_n hx hb dX11_row_33 rfl (lv_at hl 3 rfl) ?_
        refine lv_if_ge (tgt := 40) hx hb dX11_row_34 (by decide) (fun c_6 => ?_) (fun c_6 => ?_)
        · rcases (sp4 (by have f0 := i_ne c_2; have f1 := i_ne c_4; have f2 := i_le c_5; have f3 := i_le c_6; have gwr_1 := wr_1; unfold slotP at gwr_1; have gwr_3 := wr_3; unfold inP at gwr_3; have := Int32.toInt_toInt64 p1; have : (0 : Int64).toInt = 0 := (by decide); have : (3 : Int64).toInt = 3 := (by decide); have : (0 : Int32).toInt = 0 := (by decide); have : (60 : Int32).toInt = 60 := (by decide); omega) (by have f0 := i_ne c_2; have f1 := i_ne c_4; have f2 := i_le c_5; have f3 := i_le c_6; have gwr_1 := wr_1; unfold slotP at gwr_1; have gwr_3 := wr_3; unfold inP at gwr_3; have := Int32.toInt_toInt64 p1; have : (0 : Int64).toInt = 0 := (by decide); have : (3 : Int64).toInt = 3 := (by decide); have : (0 : Int32).toInt = 0 := (by decide); have : (60 : Int32).toInt = 60 := (by decide); omega) : p0 = 0 ∨ p0 = 1 ∨ p0 = 2 ∨ p0 = 3) with rfl | rfl | rfl | rfl
          · refine lv_aload_n hx hb dX11_row_40 rfl (lv_at hl 0 rfl) ?_
            refine va_get (D := G) (ci := 11) (v := .ref (b 1)) (C := RX11) (T := TX11) (N := 31) hx hb hts (by decide +kernel) hown hK.1 hP 0 rfl rfl 1 (by decide) (hts (.fieldLink RX11 7 "CardHolderModel" "width" "[I") (by decide +kernel)) (fun _ h9 => h9) rfl dX11_row_41 ?_
            refine lv_iload_n hx hb dX11_row_44 rfl (lv_at hl 1 rfl) ?_
            refine lv_iload_n hx hb dX11_row_45 rfl (lv_at hl 2 rfl) ?_
            refine va_iast hx hb hK.1 hP hD hS 1 0 rfl rfl (in_lit (by decide)) dX11_row_46 (fun H locs hP hD hS => ?_)
            refine lv_aload_n hx hb dX11_row_47 rfl (lv_at hl 0 rfl) ?_
            refine va_get (D := G) (ci := 11) (v := .ref (b 2)) (C := RX11) (T := TX11) (N := 31) hx hb hts (by decide +kernel) hown hK.1 hP 0 rfl rfl 2 (by decide) (hts (.fieldLink RX11 13 "CardHolderModel" "many" "[I") (by decide +kernel)) (fun _ h9 => h9) rfl dX11_row_48 ?_
            refine lv_iload_n hx hb dX11_row_51 rfl (lv_at hl 1 rfl) ?_
            refine lv_iload_n hx hb dX11_row_52 rfl (lv_at hl 3 rfl) ?_
            refine va_iast hx hb hK.1 hP hD hS 2 0 rfl rfl (in_lit (by decide)) dX11_row_53 (fun H locs hP hD hS => ?_)
            refine lv_iconst (v := 0) hx hb dX11_row_54 (by decide) ?_
            refine lv_istore (lv' := [(4, .int 0), (0, .ref (b 0)), (1, .int 0), (2, .int p1), (3, .int p2)]) hx hb dX11_row_55 hl (by decide) rfl (fun ls hl => ?_)
            have key : ∀ (n k : Nat) (g : Nat → Int64) (H : Heap) (locs : List Loc) (ls : Array Slot), k ≤ 60 → 61 ≤ k + n → va_P G vwCl [((b 0), .inr (11, [.int 0, .ref (b 1), .ref (b 2), .ref (b 3), .ref (b 4), .ref (b 5), .int 0, .int 0, .int 0, .int 0, .int 0, .long 0, .int 0, .int 0, .int 0, .int (-1), .ref (b 6), .ref (b 7), .ref (b 8), .ref (b 9), .ref (b 10), .ref (b 11), .ref (b 12), .ref (b 13), .int 0, .int 0, .int 0, .int 0, .ref (b 14), .int 0, .int 0])), ((b 1), .inl (ct 0, 4, .inl (upd WD (0 : Int32).toNatClampNeg p1))), ((b 2), .inl (ct 0, 4, .inl (upd (fun _ => 0) (0 : Int32).toNatClampNeg p2))), ((b 3), .inl (ct 3, 240, .inr (.inl g)))] H → va_D A [((b 0), .inr (11, [.int 0, .ref (b 1), .ref (b 2), .ref (b 3), .ref (b 4), .ref (b 5), .int 0, .int 0, .int 0, .int 0, .int 0, .long 0, .int 0, .int 0, .int 0, .int (-1), .ref (b 6), .ref (b 7), .ref (b 8), .ref (b 9), .ref (b 10), .ref (b 11), .ref (b 12), .ref (b 13), .int 0, .int 0, .int 0, .int 0, .ref (b 14), .int 0, .int 0])), ((b 1), .inl (ct 0, 4, .inl (upd WD (0 : Int32).toNatClampNeg p1))), ((b 2), .inl (ct 0, 4, .inl (upd (fun _ => 0) (0 : Int32).toNatClampNeg p2))), ((b 3), .inl (ct 3, 240, .inr (.inl g)))] → va_S A s.heap H locs → lv_has ls 5 [(4, .int (nI k)), (0, .ref (b 0)), (1, .int 0), (2, .int p1), (3, .int p2)] → W p l e (headSpec wsX11_row ({ frames := 2, cells := 0, slots := 0, locals := 45 })).room s m ([.ref (b 0), .int 0, .int p1, .int p2] : List Value).toArray below meth c H locs 0 0 (MQ below (va_Qi (fun (r : Int32) (u : Unit) => r = fRow 0 p1 p2) (fun _ _ => True) A) ([.ref (b 0), .int 0, .int p1, .int p2] : List Value).toArray s 0 0 A) (F0 m 57 ls []) := by
              intro n
              induction n with
              | zero => intro k g H locs ls hk hn; exact absurd hn (by omega)
              | succ n ih =>
                intro k g H locs ls hk hn hP hD hS hl
                refine lv_iload hx hb dX11_row_57 (lv_at hl 0 rfl) ?_
                refine lv_iload_n hx hb dX11_row_59 rfl (lv_at hl 4 rfl) ?_
                refine lv_icmp_ge (tgt := 82) hx hb dX11_row_60 (by decide) (fun c_7 => ?_) (fun c_7 => ?_)
                · refine lv_iconst (v := 0) hx hb dX11_row_82 (by decide) ?_
                  exact W.iret (v := 0) hx hb hr (fun t ht hW => ⟨⟨0, (), rfl, by have f0 := i_ne c_2; have f1 := i_ne c_4; have f2 := i_le c_5; have f3 := i_le c_6; have f4 := i_le c_7; have := nI_toInt (n := k) (by omega); have gwr_1 := wr_1; unfold slotP at gwr_1; have gwr_3 := wr_3; unfold inP at gwr_3; have := Int32.toInt_toInt64 p1; have : (0 : Int64).toInt = 0 := (by decide); have : (3 : Int64).toInt = 3 := (by decide); have : (0 : Int32).toInt = 0 := (by decide); have : (60 : Int32).toInt = 60 := (by decide); show (0 : Int32) = fRow (0 : Int32) p1 p2; unfold fRow; (repeat' split) <;> first | rfl | (exfalso; omega), trivial⟩, hS.F ht⟩) hS.2.2 dX11_row_83
                · refine lv_aload_n hx hb dX11_row_63 rfl (lv_at hl 1 rfl) ?_
                  refine va_get (D := G) (ci := 11) (v := .ref (b 3)) (C := RX11) (T := TX11) (N := 31) hx hb hts (by decide +kernel) hown hK.1 hP 0 rfl rfl 3 (by decide) (hts (.fieldLink RX11 16 "CardHolderModel" "cells" "[J") (by decide +kernel)) (fun _ h9 => h9) rfl dX11_row_64 ?_
                  refine lv_bipush (v := 60) hx hb dX11_row_67 (by decide) ?_
                  refine lv_iload_n hx hb dX11_row_69 rfl (lv_at hl 2 rfl) ?_
                  refine lv_imul hx hb dX11_row_70 ?_
                  refine ix_i (y := 0) (by decide) ?_
                  refine lv_iload hx hb dX11_row_71 (lv_at hl 0 rfl) ?_
                  refine lv_iadd hx hb dX11_row_73 ?_
                  refine ix_i (y := nI (0 + k)) (nI_add 0 k) ?_
                  refine lv_lconst (v := 0) hx hb dX11_row_74 (by decide) ?_
                  refine va_last hx hb hK.1 hP hD hS 3 3 rfl rfl (vp_in_nI (n := 0 + k) (by have f0 := i_ne c_2; have f1 := i_ne c_4; have f2 := i_le c_5; have f3 := i_le c_6; have f4 := i_nle c_7; have := nI_toInt (n := k) (by omega); have gwr_1 := wr_1; unfold slotP at gwr_1; have gwr_3 := wr_3; unfold inP at gwr_3; have := Int32.toInt_toInt64 p1; have : (0 : Int64).toInt = 0 := (by decide); have : (3 : Int64).toInt = 3 := (by decide); have : (0 : Int32).toInt = 0 := (by decide); have : (60 : Int32).toInt = 60 := (by decide); omega) (by omega)) dX11_row_75 (fun H locs hP hD hS => ?_)
                  refine lv_iinc (v := nI (k + 1)) (lv' := [(4, .int (nI (k + 1))), (0, .ref (b 0)), (1, .int 0), (2, .int p1), (3, .int p2)]) hx hb dX11_row_76 hl (k := 0) rfl (inc1 _) (by decide) rfl (fun ls hl => ?_)
                  refine lv_goto (tgt := 57) hx hb dX11_row_79 (by decide) ?_
                  exact ih (k + 1) (vp_updL g (nI (0 + k)).toNatClampNeg 0) _ _ ls (by have f0 := i_ne c_2; have f1 := i_ne c_4; have f2 := i_le c_5; have f3 := i_le c_6; have f4 := i_nle c_7; have := nI_toInt (n := k) (by omega); have gwr_1 := wr_1; unfold slotP at gwr_1; have gwr_3 := wr_3; unfold inP at gwr_3; have := Int32.toInt_toInt64 p1; have : (0 : Int64).toInt = 0 := (by decide); have : (3 : Int64).toInt = 3 := (by decide); have : (0 : Int32).toInt = 0 := (by decide); have : (60 : Int32).toInt = 60 := (by decide); omega) (by omega) hP hD hS (lv_sub hl [0, 1, 2, 3, 4] rfl)
            exact key 61 0 (fun _ => 0) _ _ ls (by omega) (by omega) hP hD hS hl
          · refine lv_aload_n hx hb dX11_row_40 rfl (lv_at hl 0 rfl) ?_
            refine va_get (D := G) (ci := 11) (v := .ref (b 1)) (C := RX11) (T := TX11) (N := 31) hx hb hts (by decide +kernel) hown hK.1 hP 0 rfl rfl 1 (by decide) (hts (.fieldLink RX11 7 "CardHolderModel" "width" "[I") (by decide +kernel)) (fun _ h9 => h9) rfl dX11_row_41 ?_
            refine lv_iload_n hx hb dX11_row_44 rfl (lv_at hl 1 rfl) ?_
            refine lv_iload_n hx hb dX11_row_45 rfl (lv_at hl 2 rfl) ?_
            refine va_iast hx hb hK.1 hP hD hS 1 0 rfl rfl (in_lit (by decide)) dX11_row_46 (fun H locs hP hD hS => ?_)
            refine lv_aload_n hx hb dX11_row_47 rfl (lv_at hl 0 rfl) ?_
            refine va_get (D := G) (ci := 11) (v := .ref (b 2)) (C := RX11) (T := TX11) (N := 31) hx hb hts (by decide +kernel) hown hK.1 hP 0 rfl rfl 2 (by decide) (hts (.fieldLink RX11 13 "CardHolderModel" "many" "[I") (by decide +kernel)) (fun _ h9 => h9) rfl dX11_row_48 ?_
            refine lv_iload_n hx hb dX11_row_51 rfl (lv_at hl 1 rfl) ?_
            refine lv_iload_n hx hb dX11_row_52 rfl (lv_at hl 3 rfl) ?_
            refine va_iast hx hb hK.1 hP hD hS 2 0 rfl rfl (in_lit (by decide)) dX11_row_53 (fun H locs hP hD hS => ?_)
            refine lv_iconst (v := 0) hx hb dX11_row_54 (by decide) ?_
            refine lv_istore (lv' := [(4, .int 0), (0, .ref (b 0)), (1, .int 1), (2, .int p1), (3, .int p2)]) hx hb dX11_row_55 hl (by decide) rfl (fun ls hl => ?_)
            have key : ∀ (n k : Nat) (g : Nat → Int64) (H : Heap) (locs : List Loc) (ls : Array Slot), k ≤ 60 → 61 ≤ k + n → va_P G vwCl [((b 0), .inr (11, [.int 0, .ref (b 1), .ref (b 2), .ref (b 3), .ref (b 4), .ref (b 5), .int 0, .int 0, .int 0, .int 0, .int 0, .long 0, .int 0, .int 0, .int 0, .int (-1), .ref (b 6), .ref (b 7), .ref (b 8), .ref (b 9), .ref (b 10), .ref (b 11), .ref (b 12), .ref (b 13), .int 0, .int 0, .int 0, .int 0, .ref (b 14), .int 0, .int 0])), ((b 1), .inl (ct 0, 4, .inl (upd WD (1 : Int32).toNatClampNeg p1))), ((b 2), .inl (ct 0, 4, .inl (upd (fun _ => 0) (1 : Int32).toNatClampNeg p2))), ((b 3), .inl (ct 3, 240, .inr (.inl g)))] H → va_D A [((b 0), .inr (11, [.int 0, .ref (b 1), .ref (b 2), .ref (b 3), .ref (b 4), .ref (b 5), .int 0, .int 0, .int 0, .int 0, .int 0, .long 0, .int 0, .int 0, .int 0, .int (-1), .ref (b 6), .ref (b 7), .ref (b 8), .ref (b 9), .ref (b 10), .ref (b 11), .ref (b 12), .ref (b 13), .int 0, .int 0, .int 0, .int 0, .ref (b 14), .int 0, .int 0])), ((b 1), .inl (ct 0, 4, .inl (upd WD (1 : Int32).toNatClampNeg p1))), ((b 2), .inl (ct 0, 4, .inl (upd (fun _ => 0) (1 : Int32).toNatClampNeg p2))), ((b 3), .inl (ct 3, 240, .inr (.inl g)))] → va_S A s.heap H locs → lv_has ls 5 [(4, .int (nI k)), (0, .ref (b 0)), (1, .int 1), (2, .int p1), (3, .int p2)] → W p l e (headSpec wsX11_row ({ frames := 2, cells := 0, slots := 0, locals := 45 })).room s m ([.ref (b 0), .int 1, .int p1, .int p2] : List Value).toArray below meth c H locs 0 0 (MQ below (va_Qi (fun (r : Int32) (u : Unit) => r = fRow 1 p1 p2) (fun _ _ => True) A) ([.ref (b 0), .int 1, .int p1, .int p2] : List Value).toArray s 0 0 A) (F0 m 57 ls []) := by
              intro n
              induction n with
              | zero => intro k g H locs ls hk hn; exact absurd hn (by omega)
              | succ n ih =>
                intro k g H locs ls hk hn hP hD hS hl
                refine lv_iload hx hb dX11_row_57 (lv_at hl 0 rfl) ?_
                refine lv_iload_n hx hb dX11_row_59 rfl (lv_at hl 4 rfl) ?_
                refine lv_icmp_ge (tgt := 82) hx hb dX11_row_60 (by decide) (fun c_8 => ?_) (fun c_8 => ?_)
                · refine lv_iconst (v := 0) hx hb dX11_row_82 (by decide) ?_
                  exact W.iret (v := 0) hx hb hr (fun t ht hW => ⟨⟨0, (), rfl, by have f0 := i_ne c_2; have f1 := i_ne c_4; have f2 := i_le c_5; have f3 := i_le c_6; have f4 := i_le c_8; have := nI_toInt (n := k) (by omega); have gwr_1 := wr_1; unfold slotP at gwr_1; have gwr_3 := wr_3; unfold inP at gwr_3; have := Int32.toInt_toInt64 p1; have : (0 : Int64).toInt = 0 := (by decide); have : (3 : Int64).toInt = 3 := (by decide); have : (0 : Int32).toInt = 0 := (by decide); have : (1 : Int32).toInt = 1 := (by decide); have : (60 : Int32).toInt = 60 := (by decide); show (0 : Int32) = fRow (1 : Int32) p1 p2; unfold fRow; (repeat' split) <;> first | rfl | (exfalso; omega), trivial⟩, hS.F ht⟩) hS.2.2 dX11_row_83
                · refine lv_aload_n hx hb dX11_row_63 rfl (lv_at hl 1 rfl) ?_
                  refine va_get (D := G) (ci := 11) (v := .ref (b 3)) (C := RX11) (T := TX11) (N := 31) hx hb hts (by decide +kernel) hown hK.1 hP 0 rfl rfl 3 (by decide) (hts (.fieldLink RX11 16 "CardHolderModel" "cells" "[J") (by decide +kernel)) (fun _ h9 => h9) rfl dX11_row_64 ?_
                  refine lv_bipush (v := 60) hx hb dX11_row_67 (by decide) ?_
                  refine lv_iload_n hx hb dX11_row_69 rfl (lv_at hl 2 rfl) ?_
                  refine lv_imul hx hb dX11_row_70 ?_
                  refine ix_i (y := 60) (by decide) ?_
                  refine lv_iload hx hb dX11_row_71 (lv_at hl 0 rfl) ?_
                  refine lv_iadd hx hb dX11_row_73 ?_
                  refine ix_i (y := nI (60 + k)) (nI_add 60 k) ?_
                  refine lv_lconst (v := 0) hx hb dX11_row_74 (by decide) ?_
                  refine va_last hx hb hK.1 hP hD hS 3 3 rfl rfl (vp_in_nI (n := 60 + k) (by have f0 := i_ne c_2; have f1 := i_ne c_4; have f2 := i_le c_5; have f3 := i_le c_6; have f4 := i_nle c_8; have := nI_toInt (n := k) (by omega); have gwr_1 := wr_1; unfold slotP at gwr_1; have gwr_3 := wr_3; unfold inP at gwr_3; have := Int32.toInt_toInt64 p1; have : (0 : Int64).toInt = 0 := (by decide); have : (3 : Int64).toInt = 3 := (by decide); have : (0 : Int32).toInt = 0 := (by decide); have : (1 : Int32).toInt = 1 := (by decide); have : (60 : Int32).toInt = 60 := (by decide); omega) (by omega)) dX11_row_75 (fun H locs hP hD hS => ?_)
                  refine lv_iinc (v := nI (k + 1)) (lv' := [(4, .int (nI (k + 1))), (0, .ref (b 0)), (1, .int 1), (2, .int p1), (3, .int p2)]) hx hb dX11_row_76 hl (k := 0) rfl (inc1 _) (by decide) rfl (fun ls hl => ?_)
                  refine lv_goto (tgt := 57) hx hb dX11_row_79 (by decide) ?_
                  exact ih (k + 1) (vp_updL g (nI (60 + k)).toNatClampNeg 0) _ _ ls (by have f0 := i_ne c_2; have f1 := i_ne c_4; have f2 := i_le c_5; have f3 := i_le c_6; have f4 := i_nle c_8; have := nI_toInt (n := k) (by omega); have gwr_1 := wr_1; unfold slotP at gwr_1; have gwr_3 := wr_3; unfold inP at gwr_3; have := Int32.toInt_toInt64 p1; have : (0 : Int64).toInt = 0 := (by decide); have : (3 : Int64).toInt = 3 := (by decide); have : (0 : Int32).toInt = 0 := (by decide); have : (1 : Int32).toInt = 1 := (by decide); have : (60 : Int32).toInt = 60 := (by decide); omega) (by omega) hP hD hS (lv_sub hl [0, 1, 2, 3, 4] rfl)
            exact key 61 0 (fun _ => 0) _ _ ls (by omega) (by omega) hP hD hS hl
          · refine lv_aload_n hx hb dX11_row_40 rfl (lv_at hl 0 rfl) ?_
            refine va_get (D := G) (ci := 11) (v := .ref (b 1)) (C := RX11) (T := TX11) (N := 31) hx hb hts (by decide +kernel) hown hK.1 hP 0 rfl rfl 1 (by decide) (hts (.fieldLink RX11 7 "CardHolderModel" "width" "[I") (by decide +kernel)) (fun _ h9 => h9) rfl dX11_row_41 ?_
            refine lv_iload_n hx hb dX11_row_44 rfl (lv_at hl 1 rfl) ?_
            refine lv_iload_n hx hb dX11_row_45 rfl (lv_at hl 2 rfl) ?_
            refine va_iast hx hb hK.1 hP hD hS 1 0 rfl rfl (in_lit (by decide)) dX11_row_46 (fun H locs hP hD hS => ?_)
            refine lv_aload_n hx hb dX11_row_47 rfl (lv_at hl 0 rfl) ?_
            refine va_get (D := G) (ci := 11) (v := .ref (b 2)) (C := RX11) (T := TX11) (N := 31) hx hb hts (by decide +kernel) hown hK.1 hP 0 rfl rfl 2 (by decide) (hts (.fieldLink RX11 13 "CardHolderModel" "many" "[I") (by decide +kernel)) (fun _ h9 => h9) rfl dX11_row_48 ?_
            refine lv_iload_n hx hb dX11_row_51 rfl (lv_at hl 1 rfl) ?_
            refine lv_iload_n hx hb dX11_row_52 rfl (lv_at hl 3 rfl) ?_
            refine va_iast hx hb hK.1 hP hD hS 2 0 rfl rfl (in_lit (by decide)) dX11_row_53 (fun H locs hP hD hS => ?_)
            refine lv_iconst (v := 0) hx hb dX11_row_54 (by decide) ?_
            refine lv_istore (lv' := [(4, .int 0), (0, .ref (b 0)), (1, .int 2), (2, .int p1), (3, .int p2)]) hx hb dX11_row_55 hl (by decide) rfl (fun ls hl => ?_)
            have key : ∀ (n k : Nat) (g : Nat → Int64) (H : Heap) (locs : List Loc) (ls : Array Slot), k ≤ 60 → 61 ≤ k + n → va_P G vwCl [((b 0), .inr (11, [.int 0, .ref (b 1), .ref (b 2), .ref (b 3), .ref (b 4), .ref (b 5), .int 0, .int 0, .int 0, .int 0, .int 0, .long 0, .int 0, .int 0, .int 0, .int (-1), .ref (b 6), .ref (b 7), .ref (b 8), .ref (b 9), .ref (b 10), .ref (b 11), .ref (b 12), .ref (b 13), .int 0, .int 0, .int 0, .int 0, .ref (b 14), .int 0, .int 0])), ((b 1), .inl (ct 0, 4, .inl (upd WD (2 : Int32).toNatClampNeg p1))), ((b 2), .inl (ct 0, 4, .inl (upd (fun _ => 0) (2 : Int32).toNatClampNeg p2))), ((b 3), .inl (ct 3, 240, .inr (.inl g)))] H → va_D A [((b 0), .inr (11, [.int 0, .ref (b 1), .ref (b 2), .ref (b 3), .ref (b 4), .ref (b 5), .int 0, .int 0, .int 0, .int 0, .int 0, .long 0, .int 0, .int 0, .int 0, .int (-1), .ref (b 6), .ref (b 7), .ref (b 8), .ref (b 9), .ref (b 10), .ref (b 11), .ref (b 12), .ref (b 13), .int 0, .int 0, .int 0, .int 0, .ref (b 14), .int 0, .int 0])), ((b 1), .inl (ct 0, 4, .inl (upd WD (2 : Int32).toNatClampNeg p1))), ((b 2), .inl (ct 0, 4, .inl (upd (fun _ => 0) (2 : Int32).toNatClampNeg p2))), ((b 3), .inl (ct 3, 240, .inr (.inl g)))] → va_S A s.heap H locs → lv_has ls 5 [(4, .int (nI k)), (0, .ref (b 0)), (1, .int 2), (2, .int p1), (3, .int p2)] → W p l e (headSpec wsX11_row ({ frames := 2, cells := 0, slots := 0, locals := 45 })).room s m ([.ref (b 0), .int 2, .int p1, .int p2] : List Value).toArray below meth c H locs 0 0 (MQ below (va_Qi (fun (r : Int32) (u : Unit) => r = fRow 2 p1 p2) (fun _ _ => True) A) ([.ref (b 0), .int 2, .int p1, .int p2] : List Value).toArray s 0 0 A) (F0 m 57 ls []) := by
              intro n
              induction n with
              | zero => intro k g H locs ls hk hn; exact absurd hn (by omega)
              | succ n ih =>
                intro k g H locs ls hk hn hP hD hS hl
                refine lv_iload hx hb dX11_row_57 (lv_at hl 0 rfl) ?_
                refine lv_iload_n hx hb dX11_row_59 rfl (lv_at hl 4 rfl) ?_
                refine lv_icmp_ge (tgt := 82) hx hb dX11_row_60 (by decide) (fun c_9 => ?_) (fun c_9 => ?_)
                · refine lv_iconst (v := 0) hx hb dX11_row_82 (by decide) ?_
                  exact W.iret (v := 0) hx hb hr (fun t ht hW => ⟨⟨0, (), rfl, by have f0 := i_ne c_2; have f1 := i_ne c_4; have f2 := i_le c_5; have f3 := i_le c_6; have f4 := i_le c_9; have := nI_toInt (n := k) (by omega); have gwr_1 := wr_1; unfold slotP at gwr_1; have gwr_3 := wr_3; unfold inP at gwr_3; have := Int32.toInt_toInt64 p1; have : (0 : Int64).toInt = 0 := (by decide); have : (3 : Int64).toInt = 3 := (by decide); have : (0 : Int32).toInt = 0 := (by decide); have : (2 : Int32).toInt = 2 := (by decide); have : (60 : Int32).toInt = 60 := (by decide); show (0 : Int32) = fRow (2 : Int32) p1 p2; unfold fRow; (repeat' split) <;> first | rfl | (exfalso; omega), trivial⟩, hS.F ht⟩) hS.2.2 dX11_row_83
                · refine lv_aload_n hx hb dX11_row_63 rfl (lv_at hl 1 rfl) ?_
                  refine va_get (D := G) (ci := 11) (v := .ref (b 3)) (C := RX11) (T := TX11) (N := 31) hx hb hts (by decide +kernel) hown hK.1 hP 0 rfl rfl 3 (by decide) (hts (.fieldLink RX11 16 "CardHolderModel" "cells" "[J") (by decide +kernel)) (fun _ h9 => h9) rfl dX11_row_64 ?_
                  refine lv_bipush (v := 60) hx hb dX11_row_67 (by decide) ?_
                  refine lv_iload_n hx hb dX11_row_69 rfl (lv_at hl 2 rfl) ?_
                  refine lv_imul hx hb dX11_row_70 ?_
                  refine ix_i (y := 120) (by decide) ?_
                  refine lv_iload hx hb dX11_row_71 (lv_at hl 0 rfl) ?_
                  refine lv_iadd hx hb dX11_row_73 ?_
                  refine ix_i (y := nI (120 + k)) (nI_add 120 k) ?_
                  refine lv_lconst (v := 0) hx hb dX11_row_74 (by decide) ?_
                  refine va_last hx hb hK.1 hP hD hS 3 3 rfl rfl (vp_in_nI (n := 120 + k) (by have f0 := i_ne c_2; have f1 := i_ne c_4; have f2 := i_le c_5; have f3 := i_le c_6; have f4 := i_nle c_9; have := nI_toInt (n := k) (by omega); have gwr_1 := wr_1; unfold slotP at gwr_1; have gwr_3 := wr_3; unfold inP at gwr_3; have := Int32.toInt_toInt64 p1; have : (0 : Int64).toInt = 0 := (by decide); have : (3 : Int64).toInt = 3 := (by decide); have : (0 : Int32).toInt = 0 := (by decide); have : (2 : Int32).toInt = 2 := (by decide); have : (60 : Int32).toInt = 60 := (by decide); omega) (by omega)) dX11_row_75 (fun H locs hP hD hS => ?_)
                  refine lv_iinc (v := nI (k + 1)) (lv' := [(4, .int (nI (k + 1))), (0, .ref (b 0)), (1, .int 2), (2, .int p1), (3, .int p2)]) hx hb dX11_row_76 hl (k := 0) rfl (inc1 _) (by decide) rfl (fun ls hl => ?_)
                  refine lv_goto (tgt := 57) hx hb dX11_row_79 (by decide) ?_
                  exact ih (k + 1) (vp_updL g (nI (120 + k)).toNatClampNeg 0) _ _ ls (by have f0 := i_ne c_2; have f1 := i_ne c_4; have f2 := i_le c_5; have f3 := i_le c_6; have f4 := i_nle c_9; have := nI_toInt (n := k) (by omega); have gwr_1 := wr_1; unfold slotP at gwr_1; have gwr_3 := wr_3; unfold inP at gwr_3; have := Int32.toInt_toInt64 p1; have : (0 : Int64).toInt = 0 := (by decide); have : (3 : Int64).toInt = 3 := (by decide); have : (0 : Int32).toInt = 0 := (by decide); have : (2 : Int32).toInt = 2 := (by decide); have : (60 : Int32).toInt = 60 := (by decide); omega) (by omega) hP hD hS (lv_sub hl [0, 1, 2, 3, 4] rfl)
            exact key 61 0 (fun _ => 0) _ _ ls (by omega) (by omega) hP hD hS hl
          · refine lv_aload_n hx hb dX11_row_40 rfl (lv_at hl 0 rfl) ?_
            refine va_get (D := G) (ci := 11) (v := .ref (b 1)) (C := RX11) (T := TX11) (N := 31) hx hb hts (by decide +kernel) hown hK.1 hP 0 rfl rfl 1 (by decide) (hts (.fieldLink RX11 7 "CardHolderModel" "width" "[I") (by decide +kernel)) (fun _ h9 => h9) rfl dX11_row_41 ?_
            refine lv_iload_n hx hb dX11_row_44 rfl (lv_at hl 1 rfl) ?_
            refine lv_iload_n hx hb dX11_row_45 rfl (lv_at hl 2 rfl) ?_
            refine va_iast hx hb hK.1 hP hD hS 1 0 rfl rfl (in_lit (by decide)) dX11_row_46 (fun H locs hP hD hS => ?_)
            refine lv_aload_n hx hb dX11_row_47 rfl (lv_at hl 0 rfl) ?_
            refine va_get (D := G) (ci := 11) (v := .ref (b 2)) (C := RX11) (T := TX11) (N := 31) hx hb hts (by decide +kernel) hown hK.1 hP 0 rfl rfl 2 (by decide) (hts (.fieldLink RX11 13 "CardHolderModel" "many" "[I") (by decide +kernel)) (fun _ h9 => h9) rfl dX11_row_48 ?_
            refine lv_iload_n hx hb dX11_row_51 rfl (lv_at hl 1 rfl) ?_
            refine lv_iload_n hx hb dX11_row_52 rfl (lv_at hl 3 rfl) ?_
            refine va_iast hx hb hK.1 hP hD hS 2 0 rfl rfl (in_lit (by decide)) dX11_row_53 (fun H locs hP hD hS => ?_)
            refine lv_iconst (v := 0) hx hb dX11_row_54 (by decide) ?_
            refine lv_istore (lv' := [(4, .int 0), (0, .ref (b 0)), (1, .int 3), (2, .int p1), (3, .int p2)]) hx hb dX11_row_55 hl (by decide) rfl (fun ls hl => ?_)
            have key : ∀ (n k : Nat) (g : Nat → Int64) (H : Heap) (locs : List Loc) (ls : Array Slot), k ≤ 60 → 61 ≤ k + n → va_P G vwCl [((b 0), .inr (11, [.int 0, .ref (b 1), .ref (b 2), .ref (b 3), .ref (b 4), .ref (b 5), .int 0, .int 0, .int 0, .int 0, .int 0, .long 0, .int 0, .int 0, .int 0, .int (-1), .ref (b 6), .ref (b 7), .ref (b 8), .ref (b 9), .ref (b 10), .ref (b 11), .ref (b 12), .ref (b 13), .int 0, .int 0, .int 0, .int 0, .ref (b 14), .int 0, .int 0])), ((b 1), .inl (ct 0, 4, .inl (upd WD (3 : Int32).toNatClampNeg p1))), ((b 2), .inl (ct 0, 4, .inl (upd (fun _ => 0) (3 : Int32).toNatClampNeg p2))), ((b 3), .inl (ct 3, 240, .inr (.inl g)))] H → va_D A [((b 0), .inr (11, [.int 0, .ref (b 1), .ref (b 2), .ref (b 3), .ref (b 4), .ref (b 5), .int 0, .int 0, .int 0, .int 0, .int 0, .long 0, .int 0, .int 0, .int 0, .int (-1), .ref (b 6), .ref (b 7), .ref (b 8), .ref (b 9), .ref (b 10), .ref (b 11), .ref (b 12), .ref (b 13), .int 0, .int 0, .int 0, .int 0, .ref (b 14), .int 0, .int 0])), ((b 1), .inl (ct 0, 4, .inl (upd WD (3 : Int32).toNatClampNeg p1))), ((b 2), .inl (ct 0, 4, .inl (upd (fun _ => 0) (3 : Int32).toNatClampNeg p2))), ((b 3), .inl (ct 3, 240, .inr (.inl g)))] → va_S A s.heap H locs → lv_has ls 5 [(4, .int (nI k)), (0, .ref (b 0)), (1, .int 3), (2, .int p1), (3, .int p2)] → W p l e (headSpec wsX11_row ({ frames := 2, cells := 0, slots := 0, locals := 45 })).room s m ([.ref (b 0), .int 3, .int p1, .int p2] : List Value).toArray below meth c H locs 0 0 (MQ below (va_Qi (fun (r : Int32) (u : Unit) => r = fRow 3 p1 p2) (fun _ _ => True) A) ([.ref (b 0), .int 3, .int p1, .int p2] : List Value).toArray s 0 0 A) (F0 m 57 ls []) := by
              intro n
              induction n with
              | zero => intro k g H locs ls hk hn; exact absurd hn (by omega)
              | succ n ih =>
                intro k g H locs ls hk hn hP hD hS hl
                refine lv_iload hx hb dX11_row_57 (lv_at hl 0 rfl) ?_
                refine lv_iload_n hx hb dX11_row_59 rfl (lv_at hl 4 rfl) ?_
                refine lv_icmp_ge (tgt := 82) hx hb dX11_row_60 (by decide) (fun c_10 => ?_) (fun c_10 => ?_)
                · refine lv_iconst (v := 0) hx hb dX11_row_82 (by decide) ?_
                  exact W.iret (v := 0) hx hb hr (fun t ht hW => ⟨⟨0, (), rfl, by have f0 := i_ne c_2; have f1 := i_ne c_4; have f2 := i_le c_5; have f3 := i_le c_6; have f4 := i_le c_10; have := nI_toInt (n := k) (by omega); have gwr_1 := wr_1; unfold slotP at gwr_1; have gwr_3 := wr_3; unfold inP at gwr_3; have := Int32.toInt_toInt64 p1; have : (0 : Int64).toInt = 0 := (by decide); have : (3 : Int64).toInt = 3 := (by decide); have : (0 : Int32).toInt = 0 := (by decide); have : (3 : Int32).toInt = 3 := (by decide); have : (60 : Int32).toInt = 60 := (by decide); show (0 : Int32) = fRow (3 : Int32) p1 p2; unfold fRow; (repeat' split) <;> first | rfl | (exfalso; omega), trivial⟩, hS.F ht⟩) hS.2.2 dX11_row_83
                · refine lv_aload_n hx hb dX11_row_63 rfl (lv_at hl 1 rfl) ?_
                  refine va_get (D := G) (ci := 11) (v := .ref (b 3)) (C := RX11) (T := TX11) (N := 31) hx hb hts (by decide +kernel) hown hK.1 hP 0 rfl rfl 3 (by decide) (hts (.fieldLink RX11 16 "CardHolderModel" "cells" "[J") (by decide +kernel)) (fun _ h9 => h9) rfl dX11_row_64 ?_
                  refine lv_bipush (v := 60) hx hb dX11_row_67 (by decide) ?_
                  refine lv_iload_n hx hb dX11_row_69 rfl (lv_at hl 2 rfl) ?_
                  refine lv_imul hx hb dX11_row_70 ?_
                  refine ix_i (y := 180) (by decide) ?_
                  refine lv_iload hx hb dX11_row_71 (lv_at hl 0 rfl) ?_
                  refine lv_iadd hx hb dX11_row_73 ?_
                  refine ix_i (y := nI (180 + k)) (nI_add 180 k) ?_
                  refine lv_lconst (v := 0) hx hb dX11_row_74 (by decide) ?_
                  refine va_last hx hb hK.1 hP hD hS 3 3 rfl rfl (vp_in_nI (n := 180 + k) (by have f0 := i_ne c_2; have f1 := i_ne c_4; have f2 := i_le c_5; have f3 := i_le c_6; have f4 := i_nle c_10; have := nI_toInt (n := k) (by omega); have gwr_1 := wr_1; unfold slotP at gwr_1; have gwr_3 := wr_3; unfold inP at gwr_3; have := Int32.toInt_toInt64 p1; have : (0 : Int64).toInt = 0 := (by decide); have : (3 : Int64).toInt = 3 := (by decide); have : (0 : Int32).toInt = 0 := (by decide); have : (3 : Int32).toInt = 3 := (by decide); have : (60 : Int32).toInt = 60 := (by decide); omega) (by omega)) dX11_row_75 (fun H locs hP hD hS => ?_)
                  refine lv_iinc (v := nI (k + 1)) (lv' := [(4, .int (nI (k + 1))), (0, .ref (b 0)), (1, .int 3), (2, .int p1), (3, .int p2)]) hx hb dX11_row_76 hl (k := 0) rfl (inc1 _) (by decide) rfl (fun ls hl => ?_)
                  refine lv_goto (tgt := 57) hx hb dX11_row_79 (by decide) ?_
                  exact ih (k + 1) (vp_updL g (nI (180 + k)).toNatClampNeg 0) _ _ ls (by have f0 := i_ne c_2; have f1 := i_ne c_4; have f2 := i_le c_5; have f3 := i_le c_6; have f4 := i_nle c_10; have := nI_toInt (n := k) (by omega); have gwr_1 := wr_1; unfold slotP at gwr_1; have gwr_3 := wr_3; unfold inP at gwr_3; have := Int32.toInt_toInt64 p1; have : (0 : Int64).toInt = 0 := (by decide); have : (3 : Int64).toInt = 3 := (by decide); have : (0 : Int32).toInt = 0 := (by decide); have : (3 : Int32).toInt = 3 := (by decide); have : (60 : Int32).toInt = 60 := (by decide); omega) (by omega) hP hD hS (lv_sub hl [0, 1, 2, 3, 4] rfl)
            exact key 61 0 (fun _ => 0) _ _ ls (by omega) (by omega) hP hD hS hl
        · refine lv_bipush (v := (-3)) hx hb dX11_row_37 (by decide) ?_
          exact W.iret (v := (-3)) hx hb hr (fun t ht hW => ⟨⟨(-3), (), rfl, by have f0 := i_ne c_2; have f1 := i_ne c_4; have f2 := i_le c_5; have f3 := i_nle c_6; have gwr_1 := wr_1; unfold slotP at gwr_1; have gwr_3 := wr_3; unfold inP at gwr_3; have := Int32.toInt_toInt64 p1; have : (0 : Int64).toInt = 0 := (by decide); have : (3 : Int64).toInt = 3 := (by decide); have : ((-3) : Int32).toInt = -3 := (by decide); have : (0 : Int32).toInt = 0 := (by decide); have : (60 : Int32).toInt = 60 := (by decide); show ((-3) : Int32) = fRow p0 p1 p2; unfold fRow; (repeat' split) <;> first | rfl | (exfalso; omega), trivial⟩, hS.F ht⟩) hS.2.2 dX11_row_39
      · refine lv_bipush (v := (-2)) hx hb dX11_row_30 (by decide) ?_
        exact W.iret (v := (-2)) hx hb hr (fun t ht hW => ⟨⟨(-2), (), rfl, by have f0 := i_ne c_2; have f1 := i_ne c_4; have f2 := i_nle c_5; have gwr_1 := wr_1; unfold slotP at gwr_1; have gwr_3 := wr_3; unfold inP at gwr_3; have := Int32.toInt_toInt64 p1; have : (0 : Int64).toInt = 0 := (by decide); have : (3 : Int64).toInt = 3 := (by decide); have : ((-2) : Int32).toInt = -2 := (by decide); have : (0 : Int32).toInt = 0 := (by decide); have : (60 : Int32).toInt = 60 := (by decide); show ((-2) : Int32) = fRow p0 p1 p2; unfold fRow; (repeat' split) <;> first | rfl | (exfalso; omega), trivial⟩, hS.F ht⟩) hS.2.2 dX11_row_32
