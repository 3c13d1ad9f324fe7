theorem dX7_draw_0 : decode cX7_draw 0 = .ok (.aload_n 0, 1) := by decide +kernel
theorem dX7_draw_1 : decode cX7_draw 1 = .ok (.ldc2_w 44, 3) := by decide +kernel
theorem dX7_draw_4 : decode cX7_draw 4 = .ok (.aload_n 0, 1) := by decide +kernel
theorem dX7_draw_5 : decode cX7_draw 5 = .ok (.getfield 22, 3) := by decide +kernel
theorem dX7_draw_8 : decode cX7_draw 8 = .ok (.lmul, 1) := by decide +kernel
theorem dX7_draw_9 : decode cX7_draw 9 = .ok (.ldc2_w 46, 3) := by decide +kernel
theorem dX7_draw_12 : decode cX7_draw 12 = .ok (.ladd, 1) := by decide +kernel
theorem dX7_draw_13 : decode cX7_draw 13 = .ok (.ldc2_w 48, 3) := by decide +kernel
theorem dX7_draw_16 : decode cX7_draw 16 = .ok (.land, 1) := by decide +kernel
theorem dX7_draw_17 : decode cX7_draw 17 = .ok (.putfield 22, 3) := by decide +kernel
theorem dX7_draw_20 : decode cX7_draw 20 = .ok (.iload_n 1, 1) := by decide +kernel
theorem dX7_draw_21 : decode cX7_draw 21 = .ok (.ifCond .le 18, 3) := by decide +kernel
theorem dX7_draw_24 : decode cX7_draw 24 = .ok (.aload_n 0, 1) := by decide +kernel
theorem dX7_draw_25 : decode cX7_draw 25 = .ok (.getfield 22, 3) := by decide +kernel
theorem dX7_draw_28 : decode cX7_draw 28 = .ok (.ldc2_w 50, 3) := by decide +kernel
theorem dX7_draw_31 : decode cX7_draw 31 = .ok (.ldiv, 1) := by decide +kernel
theorem dX7_draw_32 : decode cX7_draw 32 = .ok (.iload_n 1, 1) := by decide +kernel
theorem dX7_draw_33 : decode cX7_draw 33 = .ok (.i2l, 1) := by decide +kernel
theorem dX7_draw_34 : decode cX7_draw 34 = .ok (.lrem, 1) := by decide +kernel
theorem dX7_draw_35 : decode cX7_draw 35 = .ok (.l2i, 1) := by decide +kernel
theorem dX7_draw_36 : decode cX7_draw 36 = .ok (.goto 4, 3) := by decide +kernel
theorem dX7_draw_40 : decode cX7_draw 40 = .ok (.ireturn, 1) := by decide +kernel
theorem dX7_deal_0 : decode cX7_deal 0 = .ok (.aload_n 0, 1) := by decide +kernel
theorem dX7_deal_1 : decode cX7_deal 1 = .ok (.iload_n 1, 1) := by decide +kernel
theorem dX7_deal_2 : decode cX7_deal 2 = .ok (.i2l, 1) := by decide +kernel
theorem dX7_deal_3 : decode cX7_deal 3 = .ok (.putfield 22, 3) := by decide +kernel
theorem dX7_deal_6 : decode cX7_deal 6 = .ok (.aload_n 0, 1) := by decide +kernel
theorem dX7_deal_7 : decode cX7_deal 7 = .ok (.getfield 12, 3) := by decide +kernel
theorem dX7_deal_10 : decode cX7_deal 10 = .ok (.iload_n 2, 1) := by decide +kernel
theorem dX7_deal_11 : decode cX7_deal 11 = .ok (.bipush 8, 2) := by decide +kernel
theorem dX7_deal_13 : decode cX7_deal 13 = .ok (.invokestatic 26, 3) := by decide +kernel
theorem dX7_deal_16 : decode cX7_deal 16 = .ok (.putfield 32, 3) := by decide +kernel
theorem dX7_deal_19 : decode cX7_deal 19 = .ok (.iconst 0, 1) := by decide +kernel
theorem dX7_deal_20 : decode cX7_deal 20 = .ok (.istore_n 3, 1) := by decide +kernel
theorem dX7_deal_21 : decode cX7_deal 21 = .ok (.iload_n 3, 1) := by decide +kernel
theorem dX7_deal_22 : decode cX7_deal 22 = .ok (.aload_n 0, 1) := by decide +kernel
theorem dX7_deal_23 : decode cX7_deal 23 = .ok (.getfield 12, 3) := by decide +kernel
theorem dX7_deal_26 : decode cX7_deal 26 = .ok (.getfield 32, 3) := by decide +kernel
theorem dX7_deal_29 : decode cX7_deal 29 = .ok (.if_icmp .ge 16, 3) := by decide +kernel
theorem dX7_deal_45 : decode cX7_deal 45 = .ok (.aload_n 0, 1) := by decide +kernel
theorem dX7_deal_46 : decode cX7_deal 46 = .ok (.getfield 12, 3) := by decide +kernel
theorem dX7_deal_49 : decode cX7_deal 49 = .ok (.getfield 32, 3) := by decide +kernel
theorem dX7_deal_52 : decode cX7_deal 52 = .ok (.iconst 1, 1) := by decide +kernel
theorem dX7_deal_53 : decode cX7_deal 53 = .ok (.isub, 1) := by decide +kernel
theorem dX7_deal_54 : decode cX7_deal 54 = .ok (.istore_n 3, 1) := by decide +kernel
theorem dX7_deal_55 : decode cX7_deal 55 = .ok (.iload_n 3, 1) := by decide +kernel
theorem dX7_deal_56 : decode cX7_deal 56 = .ok (.ifCond .le 48, 3) := by decide +kernel
theorem dX7_deal_104 : decode cX7_deal 104 = .ok (.iconst 0, 1) := by decide +kernel
theorem dX7_deal_105 : decode cX7_deal 105 = .ok (.istore_n 3, 1) := by decide +kernel
theorem dX7_deal_106 : decode cX7_deal 106 = .ok (.iload_n 3, 1) := by decide +kernel
theorem dX7_deal_107 : decode cX7_deal 107 = .ok (.aload_n 0, 1) := by decide +kernel
theorem dX7_deal_108 : decode cX7_deal 108 = .ok (.getfield 12, 3) := by decide +kernel
theorem dX7_deal_111 : decode cX7_deal 111 = .ok (.getfield 32, 3) := by decide +kernel
theorem dX7_deal_114 : decode cX7_deal 114 = .ok (.if_icmp .ge 23, 3) := by decide +kernel
theorem dX7_deal_137 : decode cX7_deal 137 = .ok (.return_, 1) := by decide +kernel
theorem dX7_deal_117 : decode cX7_deal 117 = .ok (.aload_n 0, 1) := by decide +kernel
theorem dX7_deal_118 : decode cX7_deal 118 = .ok (.getfield 12, 3) := by decide +kernel
theorem dX7_deal_121 : decode cX7_deal 121 = .ok (.aload_n 0, 1) := by decide +kernel
theorem dX7_deal_122 : decode cX7_deal 122 = .ok (.getfield 18, 3) := by decide +kernel
theorem dX7_deal_125 : decode cX7_deal 125 = .ok (.iload_n 3, 1) := by decide +kernel
theorem dX7_deal_126 : decode cX7_deal 126 = .ok (.iaload, 1) := by decide +kernel
theorem dX7_deal_127 : decode cX7_deal 127 = .ok (.iload_n 3, 1) := by decide +kernel
set_option maxRecDepth 20000 in
theorem ggX7_deal_X0_put : GoodIn wsX7_deal wsX0_put := goodIn_r _ [22, 23, 24, 25, 26, 21, 27, 28, 32, 33] (by rfl) (by decide +kernel)
set_option maxRecDepth 20000 in
theorem gX7_deal_X0_put : GoodIn wsX7_deal (wsV RX7 40 RX0 yX0_put wsX0_put) := goodIn_app (goodIn_r _ [18, 19, 20, 21] (by rfl) (by decide +kernel)) ggX7_deal_X0_put
theorem dX7_deal_128 : decode cX7_deal 128 = .ok (.invokevirtual 40, 3) := by decide +kernel
theorem dX7_deal_131 : decode cX7_deal 131 = .ok (.iinc 3 1, 3) := by decide +kernel
theorem dX7_deal_134 : decode cX7_deal 134 = .ok (.goto (-28), 3) := by decide +kernel
theorem dX7_deal_59 : decode cX7_deal 59 = .ok (.aload_n 0, 1) := by decide +kernel
theorem dX7_deal_60 : decode cX7_deal 60 = .ok (.iload_n 3, 1) := by decide +kernel
theorem dX7_deal_61 : decode cX7_deal 61 = .ok (.iconst 1, 1) := by decide +kernel
theorem dX7_deal_62 : decode cX7_deal 62 = .ok (.iadd, 1) := by decide +kernel
set_option maxRecDepth 20000 in
theorem ggX7_deal_X7_draw : GoodIn wsX7_deal wsX7_draw := goodIn_r _ [13, 14, 1, 15, 16, 17, 29, 30, 31] (by rfl) (by decide +kernel)
set_option maxRecDepth 20000 in
theorem gX7_deal_X7_draw : GoodIn wsX7_deal (wsV RX7 36 RX7 yX7_draw wsX7_draw) := goodIn_app (goodIn_r _ [9, 10, 11, 12] (by rfl) (by decide +kernel)) ggX7_deal_X7_draw
theorem dX7_deal_63 : decode cX7_deal 63 = .ok (.invokevirtual 36, 3) := by decide +kernel
theorem dX7_deal_66 : decode cX7_deal 66 = .ok (.istore 4, 2) := by decide +kernel
theorem dX7_deal_68 : decode cX7_deal 68 = .ok (.aload_n 0, 1) := by decide +kernel
theorem dX7_deal_69 : decode cX7_deal 69 = .ok (.getfield 18, 3) := by decide +kernel
theorem dX7_deal_72 : decode cX7_deal 72 = .ok (.iload_n 3, 1) := by decide +kernel
theorem dX7_deal_73 : decode cX7_deal 73 = .ok (.iaload, 1) := by decide +kernel
theorem dX7_deal_74 : decode cX7_deal 74 = .ok (.istore 5, 2) := by decide +kernel
theorem dX7_deal_76 : decode cX7_deal 76 = .ok (.aload_n 0, 1) := by decide +kernel
theorem dX7_deal_77 : decode cX7_deal 77 = .ok (.getfield 18, 3) := by decide +kernel
theorem dX7_deal_80 : decode cX7_deal 80 = .ok (.iload_n 3, 1) := by decide +kernel
theorem dX7_deal_81 : decode cX7_deal 81 = .ok (.aload_n 0, 1) := by decide +kernel
theorem dX7_deal_82 : decode cX7_deal 82 = .ok (.getfield 18, 3) := by decide +kernel
theorem dX7_deal_85 : decode cX7_deal 85 = .ok (.iload 4, 2) := by decide +kernel
theorem dX7_deal_87 : decode cX7_deal 87 = .ok (.iaload, 1) := by decide +kernel
theorem dX7_deal_88 : decode cX7_deal 88 = .ok (.iastore, 1) := by decide +kernel
theorem dX7_deal_89 : decode cX7_deal 89 = .ok (.aload_n 0, 1) := by decide +kernel
theorem dX7_deal_90 : decode cX7_deal 90 = .ok (.getfield 18, 3) := by decide +kernel
theorem dX7_deal_93 : decode cX7_deal 93 = .ok (.iload 4, 2) := by decide +kernel
theorem dX7_deal_95 : decode cX7_deal 95 = .ok (.iload 5, 2) := by decide +kernel
theorem dX7_deal_97 : decode cX7_deal 97 = .ok (.iastore, 1) := by decide +kernel
theorem dX7_deal_98 : decode cX7_deal 98 = .ok (.iinc 3 (-1), 3) := by decide +kernel
theorem dX7_deal_101 : decode cX7_deal 101 = .ok (.goto (-46), 3) := by decide +kernel
theorem dX7_deal_32 : decode cX7_deal 32 = .ok (.aload_n 0, 1) := by decide +kernel
theorem dX7_deal_33 : decode cX7_deal 33 = .ok (.getfield 18, 3) := by decide +kernel
theorem dX7_deal_36 : decode cX7_deal 36 = .ok (.iload_n 3, 1) := by decide +kernel
theorem dX7_deal_37 : decode cX7_deal 37 = .ok (.iload_n 3, 1) := by decide +kernel
theorem dX7_deal_38 : decode cX7_deal 38 = .ok (.iastore, 1) := by decide +kernel
theorem dX7_deal_39 : decode cX7_deal 39 = .ok (.iinc 3 1, 3) := by decide +kernel
theorem dX7_deal_42 : decode cX7_deal 42 = .ok (.goto (-21), 3) := by decide +kernel
set_option maxHeartbeats 4000000 in
set_option maxRecDepth 100000 in
theorem a_X7_draw (l : Launch) (G : va_G) (ct : Nat → ClassId) (a0 : Nat) (a1 : Nat) (a3 : Nat) (l0_2 : Int64) (p0 : Int32) (hp_p0 : rg 1 8 p0) : Met l yX7_draw wsX7_draw ({ frames := 0, cells := 0, slots := 0, locals := 0 }) (va_Pc [.ref a0, .int p0] (wrP G ct [(a0, .inr (7, [.ref a1, .ref a3, .long l0_2]))])) (va_Qi (fun (r : Int32) (u : SU) => rg 0 7 r ∧ rl 0 2147483647 (u.2.2 0 0) ∧ True) (fun u t => va_P G vwCl ((fun u : SU => [(a0, .inr (7, [.ref a1, .ref a3, .long (u.2.2 0 0)]))]) u) t.heap) (aset [(a0, .inr (7, [.ref a1, .ref a3, .long l0_2]))])) 0 0 (aset [(a0, .inr (7, [.ref a1, .ref a3, .long l0_2]))]) := by
  refine Met.ofW (cc := cX7_draw) (maxL := 2) (ret := (some .int)) (by decide) rfl ?_
  intro p e s m args below meth c s₁ B hml hv
  obtain ⟨rfl, hP, hK, hD0⟩ := hv
  have hx := B.exec
  have hb := B.bytes
  have hr := B.returns
  have hts := atoms_spec (ws := wsX7_draw) B.pre
  have hown : s.vm.findClass RX7 = some m.cls := findClass_of_methodNamed B.named
  have hlocks := B.notSynchronized
  have hD := hD0.aself
  generalize hAe : aset [(a0, .inr (7, [.ref a1, .ref a3, .long l0_2]))] = A at hD ⊢
  have hS : va_S A s.heap s.heap [] := va_S.rf
  have hl := lv_entry ([.ref a0, .int p0]) (n := 2) (Nat.le_of_ble_eq_true rfl)
  rw [lg_entry_eq]
  generalize (lg_sl ([.ref a0, .int p0]) ++ List.replicate (2 - (lg_sl ([.ref a0, .int p0])).length) Slot.unset).toArray = ls at hl ⊢
  have hl : lv_has ls 2 [(0, .ref a0), (1, .int p0)] := hl
  refine lv_aload_n hx hb dX7_draw_0 rfl (lv_at hl 0 rfl) ?_
  refine lv_ldc2 (own := RX7) (v := 1103515245) hx hb hown (hts (.constantLong RX7 44 (1103515245)) (by decide +kernel)) dX7_draw_1 ?_
  refine lv_aload_n hx hb dX7_draw_4 rfl (lv_at hl 0 rfl) ?_
  refine va_get (D := G) (ci := 7) (v := .long l0_2) (C := RX7) (T := TX7) (N := 3) hx hb hts (by decide +kernel) hown hK.1 hP 0 rfl rfl 2 (by decide) (hts (.fieldLink RX7 22 "CardHolder$Square" "x" "J") (by decide +kernel)) (fun _ h9 => h9) rfl dX7_draw_5 ?_
  refine lv_lmul hx hb dX7_draw_8 ?_
  refine nl_0 (fun z8 => ?_)
  refine lv_ldc2 (own := RX7) (v := 12345) hx hb hown (hts (.constantLong RX7 46 (12345)) (by decide +kernel)) dX7_draw_9 ?_
  refine lv_ladd hx hb dX7_draw_12 ?_
  refine nl_0 (fun z12 => ?_)
  refine lv_ldc2 (own := RX7) (v := 2147483647) hx hb hown (hts (.constantLong RX7 48 (2147483647)) (by decide +kernel)) dX7_draw_13 ?_
  refine lv_land hx hb dX7_draw_16 ?_
  refine nl_andr (rln 2147483647 (x := 2147483647) (by decide)) (by decide) (fun z16 hz16 => ?_)
  refine va_put (D := G) (ci := 7) (v := .long z16) (ty := .long) (C := RX7) (T := TX7) (N := 3) hx hb hts (by decide +kernel) tyX7 tyX7_ok nmX7 hown hK.1 hP hD hS 0 rfl rfl 2 (by decide) (hts (.fieldLink RX7 22 "CardHolder$Square" "x" "J") (by decide +kernel)) (fun _ h9 => h9) rfl (by decide +kernel) rfl rfl (Nat.le_of_ble_eq_true rfl) dX7_draw_17 (fun H locs hP hD hS => ?_)
  refine lv_iload_n hx hb dX7_draw_20 rfl (lv_at hl 1 rfl) ?_
  refine lv_if_le (tgt := 39) hx hb dX7_draw_21 (by decide) (fun c21 => ?_) (fun c21 => ?_)
  · exact (dd_le_i c21 hp_p0 (rgn 0 (x := 0) (by decide)) (by decide)).elim
  · refine lv_aload_n hx hb dX7_draw_24 rfl (lv_at hl 0 rfl) ?_
    refine va_get (D := G) (ci := 7) (v := .long z16) (C := RX7) (T := TX7) (N := 3) hx hb hts (by decide +kernel) hown hK.1 hP 0 rfl rfl 2 (by decide) (hts (.fieldLink RX7 22 "CardHolder$Square" "x" "J") (by decide +kernel)) (fun _ h9 => h9) rfl dX7_draw_25 ?_
    refine lv_ldc2 (own := RX7) (v := 65536) hx hb hown (hts (.constantLong RX7 50 (65536)) (by decide +kernel)) dX7_draw_28 ?_
    refine lv_ldiv hx hb dX7_draw_31 (by decide) ?_
    refine nl_div (f := 32767) hz16 (rln 65536 (x := 65536) (by decide)) (by decide) (fun z31 hz31 => ?_)
    refine lv_iload_n hx hb dX7_draw_32 rfl (lv_at hl 1 rfl) ?_
    refine lv_i2l hx hb dX7_draw_33 rfl ?_
    refine nl_i2l hp_p0 (fun z33 hz33 ez33 => ?_)
    refine lv_lrem hx hb dX7_draw_34 (rlne0 hz33 (by decide)) ?_
    refine nl_rem (f := 7) hz31 hz33 (by decide) (fun z34 hz34 tz34 => ?_)
    refine lv_l2i hx hb dX7_draw_35 rfl ?_
    refine nm_l2i hz34 (by decide) (fun z35 hz35 ez35 => ?_)
    refine lv_goto (tgt := 40) hx hb dX7_draw_36 (by decide) ?_
    exact W.iret (v := z35) hx hb hr (fun t ht hW => ⟨⟨z35, (fun k => ([] : List Int32).getD k 0, fun k => ([] : List (Nat → Int32)).getD k (fun _ => 0), fun k => ([fun _ => z16] : List (Nat → Int64)).getD k (fun _ => 0)), rfl, ⟨hz35, hz16, trivial⟩, hp_at ht hP⟩, hS.F ht⟩) hS.2.2 dX7_draw_40

set_option maxHeartbeats 4000000 in
set_option maxRecDepth 100000 in
theorem a_X7_deal (l : Launch) (G : va_G) (ct : Nat → ClassId) (a0 : Nat) (a1 : Nat) (a3 : Nat) (l0_2 : Int64) (a2 : Nat) (n1_1 : Int32) (f2 : Nat → Int32) (f3 : Nat → Int32) (p0 : Int32) (p1 : Int32) (hp_n1_1 : rg 0 8 n1_1) (hp_p1 : rg 0 8 p1) : Met l yX7_deal wsX7_deal ({ frames := 2, cells := 0, slots := 0, locals := 60 }) (va_Pc [.ref a0, .int p0, .int p1] (wrP G ct [(a0, .inr (7, [.ref a1, .ref a3, .long l0_2])), (a1, .inr (0, [.ref a2, .int n1_1])), (a2, .inl (ct 0, 8, .inl f2)), (a3, .inl (ct 0, 8, .inl f3))])) (va_Qv (fun u : SU => rl (-2147483648) 2147483647 (u.2.2 0 0) ∧ rg 0 8 (u.1 0) ∧ True) (fun u t => va_P G vwCl ((fun u : SU => [(a0, .inr (7, [.ref a1, .ref a3, .long (u.2.2 0 0)])), (a1, .inr (0, [.ref a2, .int (u.1 0)])), (a2, .inl (ct 0, 8, .inl (u.2.1 0))), (a3, .inl (ct 0, 8, .inl (u.2.1 1)))]) u) t.heap) (aset [(a0, .inr (7, [.ref a1, .ref a3, .long l0_2])), (a1, .inr (0, [.ref a2, .int n1_1])), (a2, .inl (ct 0, 8, .inl f2)), (a3, .inl (ct 0, 8, .inl f3))])) 0 0 (aset [(a0, .inr (7, [.ref a1, .ref a3, .long l0_2])), (a1, .inr (0, [.ref a2, .int n1_1])), (a2, .inl (ct 0, 8, .inl f2)), (a3, .inl (ct 0, 8, .inl f3))]) := by
  refine Met.ofW (cc := cX7_deal) (maxL := 6) (ret := none) (by decide) rfl ?_
  intro p e s m args below meth c s₁ B hml hv
  obtain ⟨rfl, hP, hK, hD0⟩ := hv
  have hx := B.exec
  have hb := B.bytes
  have hr := B.returns
  have hts := atoms_spec (ws := wsX7_deal) B.pre
  have hown : s.vm.findClass RX7 = some m.cls := findClass_of_methodNamed B.named
  have hlocks := B.notSynchronized
  have hD := hD0.aself
  generalize hAe : aset [(a0, .inr (7, [.ref a1, .ref a3, .long l0_2])), (a1, .inr (0, [.ref a2, .int n1_1])), (a2, .inl (ct 0, 8, .inl f2)), (a3, .inl (ct 0, 8, .inl f3))] = A at hD ⊢
  have hS : va_S A s.heap s.heap [] := va_S.rf
  have hl := lv_entry ([.ref a0, .int p0, .int p1]) (n := 6) (Nat.le_of_ble_eq_true rfl)
  rw [lg_entry_eq]
  generalize (lg_sl ([.ref a0, .int p0, .int p1]) ++ List.replicate (6 - (lg_sl ([.ref a0, .int p0, .int p1])).length) Slot.unset).toArray = ls at hl ⊢
  have hl : lv_has ls 6 [(0, .ref a0), (1, .int p0), (2, .int p1)] := hl
  refine lv_aload_n hx hb dX7_deal_0 rfl (lv_at hl 0 rfl) ?_
  refine lv_iload_n hx hb dX7_deal_1 rfl (lv_at hl 1 rfl) ?_
  refine lv_i2l hx hb dX7_deal_2 rfl ?_
  refine nl_i2l (rg_t p0) (fun z2 hz2 ez2 => ?_)
  refine va_put (D := G) (ci := 7) (v := .long z2) (ty := .long) (C := RX7) (T := TX7) (N := 3) hx hb hts (by decide +kernel) tyX7 tyX7_ok nmX7 hown hK.1 hP hD hS 0 rfl rfl 2 (by decide) (hts (.fieldLink RX7 22 "CardHolder$Square" "x" "J") (by decide +kernel)) (fun _ h9 => h9) rfl (by decide +kernel) rfl rfl (Nat.le_of_ble_eq_true rfl) dX7_deal_3 (fun H locs hP hD hS => ?_)
  refine lv_aload_n hx hb dX7_deal_6 rfl (lv_at hl 0 rfl) ?_
  refine va_get (D := G) (ci := 7) (v := .ref a1) (C := RX7) (T := TX7) (N := 3) hx hb hts (by decide +kernel) hown hK.1 hP 0 rfl rfl 0 (by decide) (hts (.fieldLink RX7 12 "CardHolder$Square" "dealt" "LCardHolder$Bonds;") (by decide +kernel)) (fun _ h9 => h9) rfl dX7_deal_7 ?_
  refine lv_iload_n hx hb dX7_deal_10 rfl (lv_at hl 2 rfl) ?_
  refine lv_bipush (v := 8) hx hb dX7_deal_11 (by decide) ?_
  refine va_mmin hx hb (hml.trans hl.1.symm) hown (hts (.methodLink RX7 26 Lib.Math.min.name) (by decide +kernel)) (hts (.static Lib.Math.min.name) (by decide +kernel)) (hts (.initialized "java/lang/Math") (by decide +kernel)) (hts (.code Lib.Math.min.name Lib.Math.min.code 2 (some .int)) (List.mem_of_getElem? (i := 6) rfl)) (Nat.le_of_ble_eq_true rfl) (Nat.le_of_ble_eq_true rfl) (Nat.zero_le _) (Nat.zero_le _) dX7_deal_13 ?_
  refine nm_min (e1 := 0) (f := 8) hp_p1 (rgn 8 (x := 8) (by decide)) (by decide) (fun z13 hz13 => ?_)
  refine va_put (D := G) (ci := 0) (v := .int z13) (ty := .int) (C := RX0) (T := TX0) (N := 2) hx hb hts (by decide +kernel) tyX0 tyX0_ok nmX0 hown hK.1 hP hD hS 1 rfl rfl 1 (by decide) (hts (.fieldLink RX7 32 "CardHolder$Bonds" "persons" "I") (by decide +kernel)) (fun _ h9 => h9) rfl (by decide +kernel) rfl rfl (Nat.le_of_ble_eq_true rfl) dX7_deal_16 (fun H locs hP hD hS => ?_)
  refine lv_iconst (v := 0) hx hb dX7_deal_19 (by decide) ?_
  refine lv_istore_n (lv' := [(3, .int 0), (0, .ref a0), (1, .int p0), (2, .int p1)]) hx hb dX7_deal_20 rfl hl (by decide) rfl (fun ls hl => ?_)
  have j21 : ∀ (n : Nat) (x21_3 : Int32) (f21_3 : Nat → Int32) (H : Heap) (locs : List Loc) (ls : Array Slot), 2147483648 ≤ x21_3.toInt + (n : Int) → rg 0 8 x21_3 → va_P G vwCl [(a0, .inr (7, [.ref a1, .ref a3, .long z2])), (a1, .inr (0, [.ref a2, .int z13])), (a2, .inl (ct 0, 8, .inl f2)), (a3, .inl (ct 0, 8, .inl f21_3))] H → va_D A [(a0, .inr (7, [.ref a1, .ref a3, .long z2])), (a1, .inr (0, [.ref a2, .int z13])), (a2, .inl (ct 0, 8, .inl f2)), (a3, .inl (ct 0, 8, .inl f21_3))] → va_S A s.heap H locs → lv_has ls 6 [(0, .ref a0), (1, .int p0), (2, .int p1), (3, .int x21_3)] → W p l e (headSpec wsX7_deal ({ frames := 2, cells := 0, slots := 0, locals := 60 })).room s m ([.ref a0, .int p0, .int p1] : List Value).toArray below meth c H locs 0 0 (MQ below (va_Qv (fun u : SU => rl (-2147483648) 2147483647 (u.2.2 0 0) ∧ rg 0 8 (u.1 0) ∧ True) (fun u t => va_P G vwCl ((fun u : SU => [(a0, .inr (7, [.ref a1, .ref a3, .long (u.2.2 0 0)])), (a1, .inr (0, [.ref a2, .int (u.1 0)])), (a2, .inl (ct 0, 8, .inl (u.2.1 0))), (a3, .inl (ct 0, 8, .inl (u.2.1 1)))]) u) t.heap) A) ([.ref a0, .int p0, .int p1] : List Value).toArray s 0 0 A) (F0 m 21 ls []) := by
    intro n
    induction n with
    | zero => intro x21_3 f21_3 H locs ls hn21 hx21_3 hP hD hS hl; exact absurd hn21 (by have := Int32.toInt_lt x21_3; have := Int32.le_toInt x21_3; omega)
    | succ n ih21 =>
      intro x21_3 f21_3 H locs ls hn21 hx21_3 hP hD hS hl
      refine lv_iload_n hx hb dX7_deal_21 rfl (lv_at hl 3 rfl) ?_
      refine lv_aload_n hx hb dX7_deal_22 rfl (lv_at hl 0 rfl) ?_
      refine va_get (D := G) (ci := 7) (v := .ref a1) (C := RX7) (T := TX7) (N := 3) hx hb hts (by decide +kernel) hown hK.1 hP 0 rfl rfl 0 (by decide) (hts (.fieldLink RX7 12 "CardHolder$Square" "dealt" "LCardHolder$Bonds;") (by decide +kernel)) (fun _ h9 => h9) rfl dX7_deal_23 ?_
      refine va_get (D := G) (ci := 0) (v := .int z13) (C := RX0) (T := TX0) (N := 2) hx hb hts (by decide +kernel) hown hK.1 hP 1 rfl rfl 1 (by decide) (hts (.fieldLink RX7 32 "CardHolder$Bonds" "persons" "I") (by decide +kernel)) (fun _ h9 => h9) rfl dX7_deal_26 ?_
      refine lv_icmp_ge (tgt := 45) hx hb dX7_deal_29 (by decide) (fun c29 => ?_) (fun c29 => ?_)
      · refine lv_aload_n hx hb dX7_deal_45 rfl (lv_at hl 0 rfl) ?_
        refine va_get (D := G) (ci := 7) (v := .ref a1) (C := RX7) (T := TX7) (N := 3) hx hb hts (by decide +kernel) hown hK.1 hP 0 rfl rfl 0 (by decide) (hts (.fieldLink RX7 12 "CardHolder$Square" "dealt" "LCardHolder$Bonds;") (by decide +kernel)) (fun _ h9 => h9) rfl dX7_deal_46 ?_
        refine va_get (D := G) (ci := 0) (v := .int z13) (C := RX0) (T := TX0) (N := 2) hx hb hts (by decide +kernel) hown hK.1 hP 1 rfl rfl 1 (by decide) (hts (.fieldLink RX7 32 "CardHolder$Bonds" "persons" "I") (by decide +kernel)) (fun _ h9 => h9) rfl dX7_deal_49 ?_
        refine lv_iconst (v := 1) hx hb dX7_deal_52 (by decide) ?_
        refine lv_isub hx hb dX7_deal_53 ?_
        refine nm_sub (e1 := (-1)) (f := 7) hz13 (rgn 1 (x := 1) (by decide)) (by decide) (fun z53 hz53 ez53 => ?_)
        replace ez53 := eqc_s ez53 (c := (-1)) (by decide)
        refine lv_istore_n (lv' := [(3, .int z53), (0, .ref a0), (1, .int p0), (2, .int p1)]) hx hb dX7_deal_54 rfl hl (by decide) rfl (fun ls hl => ?_)
        have j55 : ∀ (n : Nat) (x55_3 : Int32) (v55_0_2 : Int64) (f55_3 : Nat → Int32) (H : Heap) (locs : List Loc) (ls : Array Slot), - 2147483649 ≥ x55_3.toInt - (n : Int) → rg (-1) 7 x55_3 → rl (-2147483648) 2147483647 v55_0_2 → va_P G vwCl [(a0, .inr (7, [.ref a1, .ref a3, .long v55_0_2])), (a1, .inr (0, [.ref a2, .int z13])), (a2, .inl (ct 0, 8, .inl f2)), (a3, .inl (ct 0, 8, .inl f55_3))] H → va_D A [(a0, .inr (7, [.ref a1, .ref a3, .long v55_0_2])), (a1, .inr (0, [.ref a2, .int z13])), (a2, .inl (ct 0, 8, .inl f2)), (a3, .inl (ct 0, 8, .inl f55_3))] → va_S A s.heap H locs → lv_has ls 6 [(0, .ref a0), (1, .int p0), (2, .int p1), (3, .int x55_3)] → W p l e (headSpec wsX7_deal ({ frames := 2, cells := 0, slots := 0, locals := 60 })).room s m ([.ref a0, .int p0, .int p1] : List Value).toArray below meth c H locs 0 0 (MQ below (va_Qv (fun u : SU => rl (-2147483648) 2147483647 (u.2.2 0 0) ∧ rg 0 8 (u.1 0) ∧ True) (fun u t => va_P G vwCl ((fun u : SU => [(a0, .inr (7, [.ref a1, .ref a3, .long (u.2.2 0 0)])), (a1, .inr (0, [.ref a2, .int (u.1 0)])), (a2, .inl (ct 0, 8, .inl (u.2.1 0))), (a3, .inl (ct 0, 8, .inl (u.2.1 1)))]) u) t.heap) A) ([.ref a0, .int p0, .int p1] : List Value).toArray s 0 0 A) (F0 m 55 ls []) := by
          intro n
          induction n with
          | zero => intro x55_3 v55_0_2 f55_3 H locs ls hn55 hx55_3 hv55_0_2 hP hD hS hl; exact absurd hn55 (by have := Int32.toInt_lt x55_3; have := Int32.le_toInt x55_3; omega)
          | succ n ih55 =>
            intro x55_3 v55_0_2 f55_3 H locs ls hn55 hx55_3 hv55_0_2 hP hD hS hl
            refine lv_iload_n hx hb dX7_deal_55 rfl (lv_at hl 3 rfl) ?_
            refine lv_if_le (tgt := 104) hx hb dX7_deal_56 (by decide) (fun c56 => ?_) (fun c56 => ?_)
            · have h_1 : rg (-1) 0 x55_3 := r_le_l_i c56 hx55_3 (rgn 0 (x := 0) (by decide))
              refine lv_iconst (v := 0) hx hb dX7_deal_104 (by decide) ?_
              refine lv_istore_n (lv' := [(3, .int 0), (0, .ref a0), (1, .int p0), (2, .int p1)]) hx hb dX7_deal_105 rfl hl (by decide) rfl (fun ls hl => ?_)
              have j106 : ∀ (n : Nat) (x106_3 : Int32) (f106_2 : Nat → Int32) (H : Heap) (locs : List Loc) (ls : Array Slot), 2147483648 ≤ x106_3.toInt + (n : Int) → rg 0 8 x106_3 → va_P G vwCl [(a0, .inr (7, [.ref a1, .ref a3, .long v55_0_2])), (a1, .inr (0, [.ref a2, .int z13])), (a2, .inl (ct 0, 8, .inl f106_2)), (a3, .inl (ct 0, 8, .inl f55_3))] H → va_D A [(a0, .inr (7, [.ref a1, .ref a3, .long v55_0_2])), (a1, .inr (0, [.ref a2, .int z13])), (a2, .inl (ct 0, 8, .inl f106_2)), (a3, .inl (ct 0, 8, .inl f55_3))] → va_S A s.heap H locs → lv_has ls 6 [(0, .ref a0), (1, .int p0), (2, .int p1), (3, .int x106_3)] → W p l e (headSpec wsX7_deal ({ frames := 2, cells := 0, slots := 0, locals := 60 })).room s m ([.ref a0, .int p0, .int p1] : List Value).toArray below meth c H locs 0 0 (MQ below (va_Qv (fun u : SU => rl (-2147483648) 2147483647 (u.2.2 0 0) ∧ rg 0 8 (u.1 0) ∧ True) (fun u t => va_P G vwCl ((fun u : SU => [(a0, .inr (7, [.ref a1, .ref a3, .long (u.2.2 0 0)])), (a1, .inr (0, [.ref a2, .int (u.1 0)])), (a2, .inl (ct 0, 8, .inl (u.2.1 0))), (a3, .inl (ct 0, 8, .inl (u.2.1 1)))]) u) t.heap) A) ([.ref a0, .int p0, .int p1] : List Value).toArray s 0 0 A) (F0 m 106 ls []) := by
                intro n
                induction n with
                | zero => intro x106_3 f106_2 H locs ls hn106 hx106_3 hP hD hS hl; exact absurd hn106 (by have := Int32.toInt_lt x106_3; have := Int32.le_toInt x106_3; omega)
                | succ n ih106 =>
                  intro x106_3 f106_2 H locs ls hn106 hx106_3 hP hD hS hl
                  refine lv_iload_n hx hb dX7_deal_106 rfl (lv_at hl 3 rfl) ?_
                  refine lv_aload_n hx hb dX7_deal_107 rfl (lv_at hl 0 rfl) ?_
                  refine va_get (D := G) (ci := 7) (v := .ref a1) (C := RX7) (T := TX7) (N := 3) hx hb hts (by decide +kernel) hown hK.1 hP 0 rfl rfl 0 (by decide) (hts (.fieldLink RX7 12 "CardHolder$Square" "dealt" "LCardHolder$Bonds;") (by decide +kernel)) (fun _ h9 => h9) rfl dX7_deal_108 ?_
                  refine va_get (D := G) (ci := 0) (v := .int z13) (C := RX0) (T := TX0) (N := 2) hx hb hts (by decide +kernel) hown hK.1 hP 1 rfl rfl 1 (by decide) (hts (.fieldLink RX7 32 "CardHolder$Bonds" "persons" "I") (by decide +kernel)) (fun _ h9 => h9) rfl dX7_deal_111 ?_
                  refine lv_icmp_ge (tgt := 137) hx hb dX7_deal_114 (by decide) (fun c114 => ?_) (fun c114 => ?_)
                  · exact W.vret hx hb hr (fun t ht hW => ⟨⟨(fun k => ([z13] : List Int32).getD k 0, fun k => ([f106_2, f55_3] : List (Nat → Int32)).getD k (fun _ => 0), fun k => ([fun _ => v55_0_2] : List (Nat → Int64)).getD k (fun _ => 0)), rfl, ⟨hv55_0_2, hz13, trivial⟩, hp_at ht hP⟩, hS.F ht⟩) hS.2.2 dX7_deal_137
                  · have h_2 : rg 0 7 x106_3 := r_lt_l_i (nle_i c114) hx106_3 hz13 (by decide)
                    have h_3 : rg 1 8 z13 := r_lt_r_i (nle_i c114) hx106_3 hz13 (by decide)
                    refine lv_aload_n hx hb dX7_deal_117 rfl (lv_at hl 0 rfl) ?_
                    refine va_get (D := G) (ci := 7) (v := .ref a1) (C := RX7) (T := TX7) (N := 3) hx hb hts (by decide +kernel) hown hK.1 hP 0 rfl rfl 0 (by decide) (hts (.fieldLink RX7 12 "CardHolder$Square" "dealt" "LCardHolder$Bonds;") (by decide +kernel)) (fun _ h9 => h9) rfl dX7_deal_118 ?_
                    refine lv_aload_n hx hb dX7_deal_121 rfl (lv_at hl 0 rfl) ?_
                    refine va_get (D := G) (ci := 7) (v := .ref a3) (C := RX7) (T := TX7) (N := 3) hx hb hts (by decide +kernel) hown hK.1 hP 0 rfl rfl 1 (by decide) (hts (.fieldLink RX7 18 "CardHolder$Square" "places" "[I") (by decide +kernel)) (fun _ h9 => h9) rfl dX7_deal_122 ?_
                    refine lv_iload_n hx hb dX7_deal_125 rfl (lv_at hl 3 rfl) ?_
                    refine va_iald hx hb hK.1 hP 3 0 rfl rfl (in_rg h_2 (by decide)) dX7_deal_126 ?_
                    refine lv_topi (fun z126 gz126 => ?_)
                    refine lv_iload_n hx hb dX7_deal_127 rfl (lv_at hl 3 rfl) ?_
                    refine wj_callv (wr := [(a0, .inr (7, [.ref a1, .ref a3, .long v55_0_2])), (a3, .inl (ct 0, 8, .inl f55_3))]) (w1 := (fun u : SU => [(a1, .inr (0, [.ref a2, .int z13])), (a2, .inl (ct 0, 8, .inl (u.2.1 0)))])) (va_runV (As := [.int z126, .int x106_3]) (rest := []) ⟨hx, hb, hml, hown, hts⟩ (a_X0_put l G ct a1 a2 z13 f106_2 z126 x106_3 (rg_w (c := 0) (d := 8) h_3 (by decide))) (cwV 2 hts gX7_deal_X0_put rfl rfl rfl (by decide +kernel) ⟨Nat.le_of_ble_eq_true rfl, Nat.le_of_ble_eq_true rfl⟩) (wr_preV 0 0 hK (hP.sub [1, 2] rfl) (hD.sub [1, 2] (by decide) rfl) rfl rfl) rfl rfl hl.1 rfl (lv_room (Nat.le_of_ble_eq_true rfl)) dX7_deal_128 ⟨Nat.zero_le _, Nat.zero_le _⟩) hS hP hD [1, 2] [0, 3] rfl rfl (by decide) (fun _ => rfl) (fun ur128 H locs wr128 hP hD hS => ?_)
                    have hP : va_P G vwCl [(a0, .inr (7, [.ref a1, .ref a3, .long v55_0_2])), (a1, .inr (0, [.ref a2, .int z13])), (a2, .inl (ct 0, 8, .inl (ur128.2.1 0))), (a3, .inl (ct 0, 8, .inl f55_3))] H := hP.sub [0, 2, 3, 1] rfl
                    have hD : va_D A [(a0, .inr (7, [.ref a1, .ref a3, .long v55_0_2])), (a1, .inr (0, [.ref a2, .int z13])), (a2, .inl (ct 0, 8, .inl (ur128.2.1 0))), (a3, .inl (ct 0, 8, .inl f55_3))] := hD.sub [0, 2, 3, 1] (by decide) rfl
                    obtain ⟨z131, qz131⟩ : ∃ y : Int32, y = x106_3 + Int32.ofInt 1 := ⟨_, rfl⟩
                    obtain ⟨hz131, ez131⟩ := inc_z (e := 1) (f := 8) h_2 qz131 (by decide)
                    refine lv_iinc (v := z131) (lv' := [(3, .int z131), (0, .ref a0), (1, .int p0), (2, .int p1)]) hx hb dX7_deal_131 hl (k := 3) rfl (qz131.symm) (by decide) rfl (fun ls hl => ?_)
                    refine lv_goto (tgt := 106) hx hb dX7_deal_134 (by decide) ?_
                    exact ih106 z131 (ur128.2.1 0) _ _ ls (by have q := hn106; have := ez131; omega) (rg_w (c := 0) (d := 8) hz131 (by decide)) hP hD hS (lv_sub hl [1, 2, 3, 0] rfl)
              exact j106 4294967296 (0 : Int32) f2 _ _ ls (ms_e (0 : Int32)) (rg_w (c := 0) (d := 8) (rgn 0 (x := 0) (by decide)) (by decide)) hP hD hS (lv_sub hl [1, 2, 3, 0] rfl)
            · have h_4 : rg 1 7 x55_3 := r_lt_r_i (nle_i c56) (rgn 0 (x := 0) (by decide)) hx55_3 (by decide)
              refine lv_aload_n hx hb dX7_deal_59 rfl (lv_at hl 0 rfl) ?_
              refine lv_iload_n hx hb dX7_deal_60 rfl (lv_at hl 3 rfl) ?_
              refine lv_iconst (v := 1) hx hb dX7_deal_61 (by decide) ?_
              refine lv_iadd hx hb dX7_deal_62 ?_
              refine nm_add (e1 := 2) (f := 8) h_4 (rgn 1 (x := 1) (by decide)) (by decide) (fun z62 hz62 ez62 => ?_)
              replace ez62 := eqc_r ez62 (c := 1) (by decide)
              refine wj_calli (wr := [(a1, .inr (0, [.ref a2, .int z13])), (a2, .inl (ct 0, 8, .inl f2)), (a3, .inl (ct 0, 8, .inl f55_3))]) (w1 := (fun u : SU => [(a0, .inr (7, [.ref a1, .ref a3, .long (u.2.2 0 0)]))])) (va_runV (As := [.int z62]) (rest := []) ⟨hx, hb, hml, hown, hts⟩ (a_X7_draw l G ct a0 a1 a3 v55_0_2 z62 (rg_w (c := 1) (d := 8) hz62 (by decide))) (cwV 1 hts gX7_deal_X7_draw rfl rfl rfl (by decide +kernel) ⟨Nat.le_of_ble_eq_true rfl, Nat.le_of_ble_eq_true rfl⟩) (wr_preV 7 0 hK (hP.sub [0] rfl) (hD.sub [0] (by decide) rfl) rfl rfl) rfl rfl hl.1 rfl (lv_room (Nat.le_of_ble_eq_true rfl)) dX7_deal_63 ⟨Nat.zero_le _, Nat.zero_le _⟩) hS hP hD [0] [1, 2, 3] rfl rfl (by decide) (fun _ => rfl) (fun r63 ur63 H locs wr63 hP hD hS => ?_)
              have hP : va_P G vwCl [(a0, .inr (7, [.ref a1, .ref a3, .long (ur63.2.2 0 0)])), (a1, .inr (0, [.ref a2, .int z13])), (a2, .inl (ct 0, 8, .inl f2)), (a3, .inl (ct 0, 8, .inl f55_3))] H := hP.sub [3, 0, 1, 2] rfl
              have hD : va_D A [(a0, .inr (7, [.ref a1, .ref a3, .long (ur63.2.2 0 0)])), (a1, .inr (0, [.ref a2, .int z13])), (a2, .inl (ct 0, 8, .inl f2)), (a3, .inl (ct 0, 8, .inl f55_3))] := hD.sub [3, 0, 1, 2] (by decide) rfl
              obtain ⟨p_5, p_6, -⟩ := wr63
              refine lv_istore (lv' := [(4, .int r63), (0, .ref a0), (1, .int p0), (2, .int p1), (3, .int x55_3)]) hx hb dX7_deal_66 hl (by decide) rfl (fun ls hl => ?_)
              refine lv_aload_n hx hb dX7_deal_68 rfl (lv_at hl 1 rfl) ?_
              refine va_get (D := G) (ci := 7) (v := .ref a3) (C := RX7) (T := TX7) (N := 3) hx hb hts (by decide +kernel) hown hK.1 hP 0 rfl rfl 1 (by decide) (hts (.fieldLink RX7 18 "CardHolder$Square" "places" "[I") (by decide +kernel)) (fun _ h9 => h9) rfl dX7_deal_69 ?_
              refine lv_iload_n hx hb dX7_deal_72 rfl (lv_at hl 4 rfl) ?_
              refine va_iald hx hb hK.1 hP 3 0 rfl rfl (in_rg h_4 (by decide)) dX7_deal_73 ?_
              refine lv_topi (fun z73 gz73 => ?_)
              refine lv_istore (lv' := [(5, .int z73), (4, .int r63), (0, .ref a0), (1, .int p0), (2, .int p1), (3, .int x55_3)]) hx hb dX7_deal_74 hl (by decide) rfl (fun ls hl => ?_)
              refine lv_aload_n hx hb dX7_deal_76 rfl (lv_at hl 2 rfl) ?_
              refine va_get (D := G) (ci := 7) (v := .ref a3) (C := RX7) (T := TX7) (N := 3) hx hb hts (by decide +kernel) hown hK.1 hP 0 rfl rfl 1 (by decide) (hts (.fieldLink RX7 18 "CardHolder$Square" "places" "[I") (by decide +kernel)) (fun _ h9 => h9) rfl dX7_deal_77 ?_
              refine lv_iload_n hx hb dX7_deal_80 rfl (lv_at hl 5 rfl) ?_
              refine lv_aload_n hx hb dX7_deal_81 rfl (lv_at hl 2 rfl) ?_
              refine va_get (D := G) (ci := 7) (v := .ref a3) (C := RX7) (T := TX7) (N := 3) hx hb hts (by decide +kernel) hown hK.1 hP 0 rfl rfl 1 (by decide) (hts (.fieldLink RX7 18 "CardHolder$Square" "places" "[I") (by decide +kernel)) (fun _ h9 => h9) rfl dX7_deal_82 ?_
              refine lv_iload hx hb dX7_deal_85 (lv_at hl 1 rfl) ?_
              refine va_iald hx hb hK.1 hP 3 0 rfl rfl (in_rg p_5 (by decide)) dX7_deal_87 ?_
              refine lv_topi (fun z87 gz87 => ?_)
              refine va_iast hx hb hK.1 hP hD hS 3 0 rfl rfl (in_rg h_4 (by decide)) dX7_deal_88 (fun H locs hP hD hS => ?_)
              refine lv_aload_n hx hb dX7_deal_89 rfl (lv_at hl 2 rfl) ?_
              refine va_get (D := G) (ci := 7) (v := .ref a3) (C := RX7) (T := TX7) (N := 3) hx hb hts (by decide +kernel) hown hK.1 hP 0 rfl rfl 1 (by decide) (hts (.fieldLink RX7 18 "CardHolder$Square" "places" "[I") (by decide +kernel)) (fun _ h9 => h9) rfl dX7_deal_90 ?_
              refine lv_iload hx hb dX7_deal_93 (lv_at hl 1 rfl) ?_
              refine lv_iload hx hb dX7_deal_95 (lv_at hl 0 rfl) ?_
              refine va_iast hx hb hK.1 hP hD hS 3 0 rfl rfl (in_rg p_5 (by decide)) dX7_deal_97 (fun H locs hP hD hS => ?_)
              obtain ⟨z98, qz98⟩ : ∃ y : Int32, y = x55_3 + Int32.ofInt (-1) := ⟨_, rfl⟩
              obtain ⟨hz98, ez98⟩ := inc_z (e := 0) (f := 6) h_4 qz98 (by decide)
              refine lv_iinc (v := z98) (lv' := [(3, .int z98), (5, .int z73), (4, .int r63), (0, .ref a0), (1, .int p0), (2, .int p1)]) hx hb dX7_deal_98 hl (k := 5) rfl (qz98.symm) (by decide) rfl (fun ls hl => ?_)
              refine lv_goto (tgt := 55) hx hb dX7_deal_101 (by decide) ?_
              exact ih55 z98 (ur63.2.2 0 0) (upd (upd f55_3 x55_3.toNatClampNeg z87) r63.toNatClampNeg z73) _ _ ls (by have q := hn55; have := ez98; omega) (rg_w (c := (-1)) (d := 7) hz98 (by decide)) (rl_w (c := (-2147483648)) (d := 2147483647) p_6 (by decide)) hP hD hS (lv_sub hl [3, 4, 5, 0] rfl)
        exact j55 4294967296 z53 z2 f21_3 _ _ ls (md_e z53) hz53 hz2 hP hD hS (lv_sub hl [1, 2, 3, 0] rfl)
      · have h_7 : rg 0 7 x21_3 := r_lt_l_i (nle_i c29) hx21_3 hz13 (by decide)
        have h_8 : rg 1 8 z13 := r_lt_r_i (nle_i c29) hx21_3 hz13 (by decide)
        refine lv_aload_n hx hb dX7_deal_32 rfl (lv_at hl 0 rfl) ?_
        refine va_get (D := G) (ci := 7) (v := .ref a3) (C := RX7) (T := TX7) (N := 3) hx hb hts (by decide +kernel) hown hK.1 hP 0 rfl rfl 1 (by decide) (hts (.fieldLink RX7 18 "CardHolder$Square" "places" "[I") (by decide +kernel)) (fun _ h9 => h9) rfl dX7_deal_33 ?_
        refine lv_iload_n hx hb dX7_deal_36 rfl (lv_at hl 3 rfl) ?_
        refine lv_iload_n hx hb dX7_deal_37 rfl (lv_at hl 3 rfl) ?_
        refine va_iast hx hb hK.1 hP hD hS 3 0 rfl rfl (in_rg h_7 (by decide)) dX7_deal_38 (fun H locs hP hD hS => ?_)
        obtain ⟨z39, qz39⟩ : ∃ y : Int32, y = x21_3 + Int32.ofInt 1 := ⟨_, rfl⟩
        obtain ⟨hz39, ez39⟩ := inc_z (e := 1) (f := 8) h_7 qz39 (by decide)
        refine lv_iinc (v := z39) (lv' := [(3, .int z39), (0, .ref a0), (1, .int p0), (2, .int p1)]) hx hb dX7_deal_39 hl (k := 3) rfl (qz39.symm) (by decide) rfl (fun ls hl => ?_)
        refine lv_goto (tgt := 21) hx hb dX7_deal_42 (by decide) ?_
        exact ih21 z39 (upd f21_3 x21_3.toNatClampNeg x21_3) _ _ ls (by have q := hn21; have := ez39; omega) (rg_w (c := 0) (d := 8) hz39 (by decide)) hP hD hS (lv_sub hl [1, 2, 3, 0] rfl)
  exact j21 4294967296 (0 : Int32) f3 _ _ ls (ms_e (0 : Int32)) (rg_w (c := 0) (d := 8) (rgn 0 (x := 0) (by decide)) (by decide)) hP hD hS (lv_sub hl [1, 2, 3, 0] rfl)
