theorem dX6_make_0 : decode cX6_make 0 = .ok (.aload_n 0, 1) := by decide +kernel
theorem dX6_make_1 : decode cX6_make 1 = .ok (.iload_n 1, 1) := by decide +kernel
set_option maxRecDepth 20000 in
theorem ggX6_make_X6_isSlot : GoodIn wsX6_make wsX6_isSlot := goodIn_r _ [9] (by decide +kernel) (by decide +kernel)
set_option maxRecDepth 20000 in
theorem gX6_make_X6_isSlot : GoodIn wsX6_make (wsV RX6 23 RX6 yX6_isSlot wsX6_isSlot) := goodIn_app (goodIn_of _ (by decide +kernel)) ggX6_make_X6_isSlot
theorem dX6_make_2 : decode cX6_make 2 = .ok (.invokevirtual 23, 3) := by decide +kernel
theorem dX6_make_5 : decode cX6_make 5 = .ok (.ifCond .ne 4, 3) := by decide +kernel
theorem dX6_make_9 : decode cX6_make 9 = .ok (.aload_n 0, 1) := by decide +kernel
theorem dX6_make_10 : decode cX6_make 10 = .ok (.dup, 1) := by decide +kernel
theorem dX6_make_11 : decode cX6_make 11 = .ok (.getfield 27, 3) := by decide +kernel
theorem dX6_make_14 : decode cX6_make 14 = .ok (.iconst 1, 1) := by decide +kernel
theorem dX6_make_15 : decode cX6_make 15 = .ok (.iload_n 1, 1) := by decide +kernel
theorem dX6_make_16 : decode cX6_make 16 = .ok (.ishl, 1) := by decide +kernel
theorem dX6_make_17 : decode cX6_make 17 = .ok (.ior, 1) := by decide +kernel
theorem dX6_make_18 : decode cX6_make 18 = .ok (.putfield 27, 3) := by decide +kernel
theorem dX6_make_21 : decode cX6_make 21 = .ok (.aload_n 0, 1) := by decide +kernel
theorem dX6_make_22 : decode cX6_make 22 = .ok (.getfield 16, 3) := by decide +kernel
theorem dX6_make_25 : decode cX6_make 25 = .ok (.iload_n 1, 1) := by decide +kernel
theorem dX6_make_26 : decode cX6_make 26 = .ok (.iload_n 2, 1) := by decide +kernel
theorem dX6_make_27 : decode cX6_make 27 = .ok (.iastore, 1) := by decide +kernel
theorem dX6_make_28 : decode cX6_make 28 = .ok (.aload_n 0, 1) := by decide +kernel
theorem dX6_make_29 : decode cX6_make 29 = .ok (.getfield 20, 3) := by decide +kernel
theorem dX6_make_32 : decode cX6_make 32 = .ok (.iload_n 1, 1) := by decide +kernel
theorem dX6_make_33 : decode cX6_make 33 = .ok (.iload_n 3, 1) := by decide +kernel
theorem dX6_make_34 : decode cX6_make 34 = .ok (.iastore, 1) := by decide +kernel
theorem dX6_make_35 : decode cX6_make 35 = .ok (.iconst 0, 1) := by decide +kernel
theorem dX6_make_36 : decode cX6_make 36 = .ok (.istore 4, 2) := by decide +kernel
theorem dX6_make_38 : decode cX6_make 38 = .ok (.iload 4, 2) := by decide +kernel
theorem dX6_make_40 : decode cX6_make 40 = .ok (.bipush 60, 2) := by decide +kernel
theorem dX6_make_42 : decode cX6_make 42 = .ok (.if_icmp .ge 19, 3) := by decide +kernel
theorem dX6_make_61 : decode cX6_make 61 = .ok (.return_, 1) := by decide +kernel
theorem dX6_make_45 : decode cX6_make 45 = .ok (.aload_n 0, 1) := by decide +kernel
theorem dX6_make_46 : decode cX6_make 46 = .ok (.getfield 11, 3) := by decide +kernel
theorem dX6_make_49 : decode cX6_make 49 = .ok (.iload_n 1, 1) := by decide +kernel
theorem dX6_make_50 : decode cX6_make 50 = .ok (.aaload, 1) := by decide +kernel
theorem dX6_make_51 : decode cX6_make 51 = .ok (.iload 4, 2) := by decide +kernel
theorem dX6_make_53 : decode cX6_make 53 = .ok (.lconst 0, 1) := by decide +kernel
theorem dX6_make_54 : decode cX6_make 54 = .ok (.lastore, 1) := by decide +kernel
theorem dX6_make_55 : decode cX6_make 55 = .ok (.iinc 4 1, 3) := by decide +kernel
theorem dX6_make_58 : decode cX6_make 58 = .ok (.goto (-20), 3) := by decide +kernel
theorem dX10_row_0 : decode cX10_row 0 = .ok (.aload_n 0, 1) := by decide +kernel
theorem dX10_row_1 : decode cX10_row 1 = .ok (.getfield 43, 3) := by decide +kernel
theorem dX10_row_4 : decode cX10_row 4 = .ok (.iload_n 1, 1) := by decide +kernel
set_option maxRecDepth 20000 in
theorem ggX10_row_X6_isSlot : GoodIn wsX10_row wsX6_isSlot := goodIn_r _ [6] (by decide +kernel) (by decide +kernel)
set_option maxRecDepth 20000 in
theorem gX10_row_X6_isSlot : GoodIn wsX10_row (wsV RX10 397 RX6 yX6_isSlot wsX6_isSlot) := goodIn_app (goodIn_of _ (by decide +kernel)) ggX10_row_X6_isSlot
theorem dX10_row_5 : decode cX10_row 5 = .ok (.invokevirtual 397, 3) := by decide +kernel
theorem dX10_row_8 : decode cX10_row 8 = .ok (.ifCond .eq 18, 3) := by decide +kernel
theorem dX10_row_26 : decode cX10_row 26 = .ok (.bipush (-2), 2) := by decide +kernel
theorem dX10_row_28 : decode cX10_row 28 = .ok (.ireturn, 1) := by decide +kernel
theorem dX10_row_11 : decode cX10_row 11 = .ok (.iload_n 2, 1) := by decide +kernel
theorem dX10_row_12 : decode cX10_row 12 = .ok (.ifCond .lt 14, 3) := by decide +kernel
theorem dX10_row_15 : decode cX10_row 15 = .ok (.iload_n 2, 1) := by decide +kernel
theorem dX10_row_16 : decode cX10_row 16 = .ok (.iconst 3, 1) := by decide +kernel
theorem dX10_row_17 : decode cX10_row 17 = .ok (.if_icmp .gt 9, 3) := by decide +kernel
theorem dX10_row_20 : decode cX10_row 20 = .ok (.iload_n 3, 1) := by decide +kernel
theorem dX10_row_21 : decode cX10_row 21 = .ok (.bipush 60, 2) := by decide +kernel
theorem dX10_row_23 : decode cX10_row 23 = .ok (.if_icmp .le 6, 3) := by decide +kernel
theorem dX10_row_29 : decode cX10_row 29 = .ok (.iload_n 3, 1) := by decide +kernel
theorem dX10_row_30 : decode cX10_row 30 = .ok (.ifCond .ge 6, 3) := by decide +kernel
theorem dX10_row_36 : decode cX10_row 36 = .ok (.aload_n 0, 1) := by decide +kernel
theorem dX10_row_37 : decode cX10_row 37 = .ok (.getfield 43, 3) := by decide +kernel
theorem dX10_row_40 : decode cX10_row 40 = .ok (.iload_n 1, 1) := by decide +kernel
theorem dX10_row_41 : decode cX10_row 41 = .ok (.iload_n 2, 1) := by decide +kernel
theorem dX10_row_42 : decode cX10_row 42 = .ok (.iload_n 3, 1) := by decide +kernel
set_option maxRecDepth 20000 in
theorem ggX10_row_X6_make : GoodIn wsX10_row wsX6_make := goodIn_r _ [10, 11, 12, 13, 14, 15, 3, 4, 5, 6, 27, 28, 29, 30] (by decide +kernel) (by decide +kernel)
set_option maxRecDepth 20000 in
theorem gX10_row_X6_make : GoodIn wsX10_row (wsV RX10 400 RX6 yX6_make wsX6_make) := goodIn_app (goodIn_of _ (by decide +kernel)) ggX10_row_X6_make
theorem dX10_row_43 : decode cX10_row 43 = .ok (.invokevirtual 400, 3) := by decide +kernel
theorem dX10_row_46 : decode cX10_row 46 = .ok (.iconst 0, 1) := by decide +kernel
theorem dX10_row_47 : decode cX10_row 47 = .ok (.ireturn, 1) := by decide +kernel
theorem dX10_row_33 : decode cX10_row 33 = .ok (.bipush (-3), 2) := by decide +kernel
theorem dX10_row_35 : decode cX10_row 35 = .ok (.ireturn, 1) := by decide +kernel
set_option maxHeartbeats 4000000 in
set_option maxRecDepth 100000 in
theorem c_X6_make (l : Launch) (G : va_G) (ct : Nat → ClassId) (h0 : Nat) (n0 : Nat) (n1 : Nat) (n2 : Nat) (rr : Nat → Nat) (ks : Int32) (r0 : Nat → Int64) (r1 : Nat → Int64) (r2 : Nat → Int64) (r3 : Nat → Int64) (fw : Nat → Int32) (fs : Nat → Int32) (p0 : Int32) (p1 : Int32) (p2 : Int32) (hp0 : 0 ≤ p0.toInt) (hp1 : p0.toInt < 4) : Met l yX6_make wsX6_make ({ frames := 1, cells := 0, slots := 0, locals := 21 }) (va_Pc [.ref h0, .int p0, .int p1, .int p2] (wrP G ct [(h0, .inr (6, [.ref n0, .ref n1, .ref n2, .int ks])), (n0, .inl (ct 5, 4, .inr (.inr (.inr (.inr (fun i => if i < 4 then some (rr i) else none)))))), ((rr 0), .inl (ct 3, 60, .inr (.inl r0))), ((rr 1), .inl (ct 3, 60, .inr (.inl r1))), ((rr 2), .inl (ct 3, 60, .inr (.inl r2))), ((rr 3), .inl (ct 3, 60, .inr (.inl r3))), (n1, .inl (ct 0, 4, .inl fw)), (n2, .inl (ct 0, 4, .inl fs))])) (va_Qv (fun u : Unit => True) (fun _ _ => True) (aset [(h0, .inr (6, [.ref n0, .ref n1, .ref n2, .int ks])), (n0, .inl (ct 5, 4, .inr (.inr (.inr (.inr (fun i => if i < 4 then some (rr i) else none)))))), ((rr 0), .inl (ct 3, 60, .inr (.inl r0))), ((rr 1), .inl (ct 3, 60, .inr (.inl r1))), ((rr 2), .inl (ct 3, 60, .inr (.inl r2))), ((rr 3), .inl (ct 3, 60, .inr (.inl r3))), (n1, .inl (ct 0, 4, .inl fw)), (n2, .inl (ct 0, 4, .inl fs))])) 0 0 (aset [(h0, .inr (6, [.ref n0, .ref n1, .ref n2, .int ks])), (n0, .inl (ct 5, 4, .inr (.inr (.inr (.inr (fun i => if i < 4 then some (rr i) else none)))))), ((rr 0), .inl (ct 3, 60, .inr (.inl r0))), ((rr 1), .inl (ct 3, 60, .inr (.inl r1))), ((rr 2), .inl (ct 3, 60, .inr (.inl r2))), ((rr 3), .inl (ct 3, 60, .inr (.inl r3))), (n1, .inl (ct 0, 4, .inl fw)), (n2, .inl (ct 0, 4, .inl fs))]) := by
  refine Met.ofW (cc := cX6_make) (maxL := 5) (ret := none) (by decide) rfl ?_
  intro p e s m args below meth c s₁ B hml hv
  obtain ⟨rfl, hP, hK, hD0⟩ := hv
  have hx := B.exec
  have hb := B.bytes
  have hr := B.returns
  have hts := atoms_spec (ws := wsX6_make) B.pre
  have hown : s.vm.findClass RX6 = some m.cls := findClass_of_methodNamed B.named
  have hlocks := B.notSynchronized
  have hD := hD0.aself
  generalize hAe : aset [(h0, .inr (6, [.ref n0, .ref n1, .ref n2, .int ks])), (n0, .inl (ct 5, 4, .inr (.inr (.inr (.inr (fun i => if i < 4 then some (rr i) else none)))))), ((rr 0), .inl (ct 3, 60, .inr (.inl r0))), ((rr 1), .inl (ct 3, 60, .inr (.inl r1))), ((rr 2), .inl (ct 3, 60, .inr (.inl r2))), ((rr 3), .inl (ct 3, 60, .inr (.inl r3))), (n1, .inl (ct 0, 4, .inl fw)), (n2, .inl (ct 0, 4, .inl fs))] = A at hD ⊢
  have hS : va_S A s.heap s.heap [] := va_S.rf
  have hl := lv_entry ([.ref h0, .int p0, .int p1, .int p2]) (n := 5) (Nat.le_of_ble_eq_true rfl)
  rw [lg_entry_eq]
  generalize (lg_sl ([.ref h0, .int p0, .int p1, .int p2]) ++ List.replicate (5 - (lg_sl ([.ref h0, .int p0, .int p1, .int p2])).length) Slot.unset).toArray = ls at hl ⊢
  have hl : lv_has ls 5 [(0, .ref h0), (1, .int p0), (2, .int p1), (3, .int p2)] := hl
  rcases (sp4 (by skip; omega) (by skip; omega) : p0 = 0 ∨ p0 = 1 ∨ p0 = 2 ∨ p0 = 3) with rfl | rfl | rfl | rfl
  · refine lv_aload_n hx hb dX6_make_0 rfl (lv_at hl 0 rfl) ?_
    refine lv_iload_n hx hb dX6_make_1 rfl (lv_at hl 1 rfl) ?_
    refine ro_calli (va_runV (As := [.int 0]) (rest := []) ⟨hx, hb, hml, hown, hts⟩ (c_X6_isSlot l G ct h0 n0 n1 n2 ks 0) (cwV 1 hts gX6_make_X6_isSlot rfl rfl rfl (by decide +kernel) ⟨Nat.le_of_ble_eq_true rfl, Nat.le_of_ble_eq_true rfl⟩) (ro_preV 6 0 hK (hP.sub [0] rfl) rfl rfl) rfl rfl hl.1 rfl (lv_room (Nat.le_of_ble_eq_true rfl)) dX6_make_2 ⟨Nat.zero_le _, Nat.zero_le _⟩) hS hP (fun r_1 H locs wr_1 hP hS => ?_)
    refine lv_if_ne (tgt := 9) hx hb dX6_make_5 (by decide) (fun c_2 => ?_) (fun c_2 => ?_)
    · refine lv_aload_n hx hb dX6_make_9 rfl (lv_at hl 0 rfl) ?_
      refine lv_dup hx hb dX6_make_10 rfl ?_
      refine va_get (D := G) (ci := 6) (v := .int ks) (C := RX6) (T := TX6) (N := 4) hx hb hts (by decide +kernel) hown hK.1 hP 0 rfl rfl 3 (by decide) (hts (.fieldLink RX6 27 "CardHolder$Rows" "keptSlots" "I") (by decide +kernel)) (fun _ h9 => h9) rfl dX6_make_11 ?_
      refine lv_iconst (v := 1) hx hb dX6_make_14 (by decide) ?_
      refine lv_iload_n hx hb dX6_make_15 rfl (lv_at hl 1 rfl) ?_
      refine lv_ishl hx hb dX6_make_16 ?_
      refine ix_i (y := 1) (by decide) ?_
      refine lv_ior hx hb dX6_make_17 ?_
      refine va_put (D := G) (ci := 6) (v := .int (ks ||| 1)) (ty := .int) (C := RX6) (T := TX6) (N := 4) hx hb hts (by decide +kernel) tyX6 tyX6_ok nmX6 hown hK.1 hP hD hS 0 rfl rfl 3 (by decide) (hts (.fieldLink RX6 27 "CardHolder$Rows" "keptSlots" "I") (by decide +kernel)) (fun _ h9 => h9) rfl (by decide +kernel) rfl rfl (Nat.le_of_ble_eq_true rfl) dX6_make_18 (fun H locs hP hD hS => ?_)
      refine lv_aload_n hx hb dX6_make_21 rfl (lv_at hl 0 rfl) ?_
      refine va_get (D := G) (ci := 6) (v := .ref n1) (C := RX6) (T := TX6) (N := 4) hx hb hts (by decide +kernel) hown hK.1 hP 0 rfl rfl 1 (by decide) (hts (.fieldLink RX6 16 "CardHolder$Rows" "widths" "[I") (by decide +kernel)) (fun _ h9 => h9) rfl dX6_make_22 ?_
      refine lv_iload_n hx hb dX6_make_25 rfl (lv_at hl 1 rfl) ?_
      refine lv_iload_n hx hb dX6_make_26 rfl (lv_at hl 2 rfl) ?_
      refine va_iast hx hb hK.1 hP hD hS 6 0 rfl rfl (in_lit (by decide)) dX6_make_27 (fun H locs hP hD hS => ?_)
      refine lv_aload_n hx hb dX6_make_28 rfl (lv_at hl 0 rfl) ?_
      refine va_get (D := G) (ci := 6) (v := .ref n2) (C := RX6) (T := TX6) (N := 4) hx hb hts (by decide +kernel) hown hK.1 hP 0 rfl rfl 2 (by decide) (hts (.fieldLink RX6 20 "CardHolder$Rows" "sizes" "[I") (by decide +kernel)) (fun _ h9 => h9) rfl dX6_make_29 ?_
      refine lv_iload_n hx hb dX6_make_32 rfl (lv_at hl 1 rfl) ?_
      refine lv_iload_n hx hb dX6_make_33 rfl (lv_at hl 3 rfl) ?_
      refine va_iast hx hb hK.1 hP hD hS 7 0 rfl rfl (in_lit (by decide)) dX6_make_34 (fun H locs hP hD hS => ?_)
      refine lv_iconst (v := 0) hx hb dX6_make_35 (by decide) ?_
      refine lv_istore (lv' := [(4, .int 0), (0, .ref h0), (1, .int 0), (2, .int p1), (3, .int p2)]) hx hb dX6_make_36 hl (by decide) rfl (fun ls hl => ?_)
      have key : ∀ (n k : Nat) (g : Nat → Int64) (H : Heap) (locs : List Loc) (ls : Array Slot), k ≤ 60 → 61 ≤ k + n → va_P G vwCl [(h0, .inr (6, [.ref n0, .ref n1, .ref n2, .int (ks ||| 1)])), (n0, .inl (ct 5, 4, .inr (.inr (.inr (.inr (fun i => if i < 4 then some (rr i) else none)))))), ((rr 0), .inl (ct 3, 60, .inr (.inl g))), ((rr 1), .inl (ct 3, 60, .inr (.inl r1))), ((rr 2), .inl (ct 3, 60, .inr (.inl r2))), ((rr 3), .inl (ct 3, 60, .inr (.inl r3))), (n1, .inl (ct 0, 4, .inl (upd fw (0 : Int32).toNatClampNeg p1))), (n2, .inl (ct 0, 4, .inl (upd fs (0 : Int32).toNatClampNeg p2)))] H → va_D A [(h0, .inr (6, [.ref n0, .ref n1, .ref n2, .int (ks ||| 1)])), (n0, .inl (ct 5, 4, .inr (.inr (.inr (.inr (fun i => if i < 4 then some (rr i) else none)))))), ((rr 0), .inl (ct 3, 60, .inr (.inl g))), ((rr 1), .inl (ct 3, 60, .inr (.inl r1))), ((rr 2), .inl (ct 3, 60, .inr (.inl r2))), ((rr 3), .inl (ct 3, 60, .inr (.inl r3))), (n1, .inl (ct 0, 4, .inl (upd fw (0 : Int32).toNatClampNeg p1))), (n2, .inl (ct 0, 4, .inl (upd fs (0 : Int32).toNatClampNeg p2)))] → va_S A s.heap H locs → lv_has ls 5 [(4, .int (nI k)), (0, .ref h0), (1, .int 0), (2, .int p1), (3, .int p2)] → W p l e (headSpec wsX6_make ({ frames := 1, cells := 0, slots := 0, locals := 21 })).room s m ([.ref h0, .int 0, .int p1, .int p2] : List Value).toArray below meth c H locs 0 0 (MQ below (va_Qv (fun u : Unit => True) (fun _ _ => True) A) ([.ref h0, .int 0, .int p1, .int p2] : List Value).toArray s 0 0 A) (F0 m 38 ls []) := by
        intro n
        induction n with
        | zero => intro k g H locs ls hk hn; exact absurd hn (by omega)
        | succ n ih =>
          intro k g H locs ls hk hn hP hD hS hl
          refine lv_iload hx hb dX6_make_38 (lv_at hl 0 rfl) ?_
          refine lv_bipush (v := 60) hx hb dX6_make_40 (by decide) ?_
          refine lv_icmp_ge (tgt := 61) hx hb dX6_make_42 (by decide) (fun c_3 => ?_) (fun c_3 => ?_)
          · exact W.vret hx hb hr (fun t ht hW => ⟨⟨(), rfl, trivial, trivial⟩, hS.F ht⟩) hS.2.2 dX6_make_61
          · refine lv_aload_n hx hb dX6_make_45 rfl (lv_at hl 1 rfl) ?_
            refine va_get (D := G) (ci := 6) (v := .ref n0) (C := RX6) (T := TX6) (N := 4) hx hb hts (by decide +kernel) hown hK.1 hP 0 rfl rfl 0 (by decide) (hts (.fieldLink RX6 11 "CardHolder$Rows" "numbers" "[[J") (by decide +kernel)) (fun _ h9 => h9) rfl dX6_make_46 ?_
            refine lv_iload_n hx hb dX6_make_49 rfl (lv_at hl 2 rfl) ?_
            refine va_aldL hx hb hK.1 hP 1 5 rfl rfl (in_lit (by decide)) dX6_make_50 ?_
            refine ix_r (y := .ref (rr 0)) rfl ?_
            refine lv_iload hx hb dX6_make_51 (lv_at hl 0 rfl) ?_
            refine lv_lconst (v := 0) hx hb dX6_make_53 (by decide) ?_
            refine va_last hx hb hK.1 hP hD hS 2 3 rfl rfl (vp_in_nI (n := k) (by have f0 := i_ne c_2; have f1 := i_nle c_3; have := nI_toInt (n := k) (by omega); have gwr_1 := wr_1; unfold slotP at gwr_1; have : (0 : Int32).toInt = 0 := (by decide); have : (60 : Int32).toInt = 60 := (by decide); omega) (by omega)) dX6_make_54 (fun H locs hP hD hS => ?_)
            refine lv_iinc (v := nI (k + 1)) (lv' := [(4, .int (nI (k + 1))), (0, .ref h0), (1, .int 0), (2, .int p1), (3, .int p2)]) hx hb dX6_make_55 hl (k := 0) rfl (inc1 _) (by decide) rfl (fun ls hl => ?_)
            refine lv_goto (tgt := 38) hx hb dX6_make_58 (by decide) ?_
            exact ih (k + 1) (vp_updL g (nI k).toNatClampNeg 0) _ _ ls (by have f0 := i_ne c_2; have f1 := i_nle c_3; have := nI_toInt (n := k) (by omega); have gwr_1 := wr_1; unfold slotP at gwr_1; have : (0 : Int32).toInt = 0 := (by decide); have : (60 : Int32).toInt = 60 := (by decide); omega) (by omega) hP hD hS (lv_sub hl [0, 1, 2, 3, 4] rfl)
      exact key 61 0 r0 _ _ ls (by omega) (by omega) hP hD hS hl
    · exfalso; have f0 := i_eq c_2; have gwr_1 := wr_1; unfold slotP at gwr_1; have : (0 : Int32).toInt = 0 := (by decide); omega
  · refine lv_aload_n hx hb dX6_make_0 rfl (lv_at hl 0 rfl) ?_
    refine lv_iload_n hx hb dX6_make_1 rfl (lv_at hl 1 rfl) ?_
    refine ro_calli (va_runV (As := [.int 1]) (rest := []) ⟨hx, hb, hml, hown, hts⟩ (c_X6_isSlot l G ct h0 n0 n1 n2 ks 1) (cwV 1 hts gX6_make_X6_isSlot rfl rfl rfl (by decide +kernel) ⟨Nat.le_of_ble_eq_true rfl, Nat.le_of_ble_eq_true rfl⟩) (ro_preV 6 0 hK (hP.sub [0] rfl) rfl rfl) rfl rfl hl.1 rfl (lv_room (Nat.le_of_ble_eq_true rfl)) dX6_make_2 ⟨Nat.zero_le _, Nat.zero_le _⟩) hS hP (fun r_4 H locs wr_4 hP hS => ?_)
    refine lv_if_ne (tgt := 9) hx hb dX6_make_5 (by decide) (fun c_5 => ?_) (fun c_5 => ?_)
    · refine lv_aload_n hx hb dX6_make_9 rfl (lv_at hl 0 rfl) ?_
      refine lv_dup hx hb dX6_make_10 rfl ?_
      refine va_get (D := G) (ci := 6) (v := .int ks) (C := RX6) (T := TX6) (N := 4) hx hb hts (by decide +kernel) hown hK.1 hP 0 rfl rfl 3 (by decide) (hts (.fieldLink RX6 27 "CardHolder$Rows" "keptSlots" "I") (by decide +kernel)) (fun _ h9 => h9) rfl dX6_make_11 ?_
      refine lv_iconst (v := 1) hx hb dX6_make_14 (by decide) ?_
      refine lv_iload_n hx hb dX6_make_15 rfl (lv_at hl 1 rfl) ?_
      refine lv_ishl hx hb dX6_make_16 ?_
      refine ix_i (y := 2) (by decide) ?_
      refine lv_ior hx hb dX6_make_17 ?_
      refine va_put (D := G) (ci := 6) (v := .int (ks ||| 2)) (ty := .int) (C := RX6) (T := TX6) (N := 4) hx hb hts (by decide +kernel) tyX6 tyX6_ok nmX6 hown hK.1 hP hD hS 0 rfl rfl 3 (by decide) (hts (.fieldLink RX6 27 "CardHolder$Rows" "keptSlots" "I") (by decide +kernel)) (fun _ h9 => h9) rfl (by decide +kernel) rfl rfl (Nat.le_of_ble_eq_true rfl) dX6_make_18 (fun H locs hP hD hS => ?_)
      refine lv_aload_n hx hb dX6_make_21 rfl (lv_at hl 0 rfl) ?_
      refine va_get (D := G) (ci := 6) (v := .ref n1) (C := RX6) (T := TX6) (N := 4) hx hb hts (by decide +kernel) hown hK.1 hP 0 rfl rfl 1 (by decide) (hts (.fieldLink RX6 16 "CardHolder$Rows" "widths" "[I") (by decide +kernel)) (fun _ h9 => h9) rfl dX6_make_22 ?_
      refine lv_iload_n hx hb dX6_make_25 rfl (lv_at hl 1 rfl) ?_
      refine lv_iload_n hx hb dX6_make_26 rfl (lv_at hl 2 rfl) ?_
      refine va_iast hx hb hK.1 hP hD hS 6 0 rfl rfl (in_lit (by decide)) dX6_make_27 (fun H locs hP hD hS => ?_)
      refine lv_aload_n hx hb dX6_make_28 rfl (lv_at hl 0 rfl) ?_
      refine va_get (D := G) (ci := 6) (v := .ref n2) (C := RX6) (T := TX6) (N := 4) hx hb hts (by decide +kernel) hown hK.1 hP 0 rfl rfl 2 (by decide) (hts (.fieldLink RX6 20 "CardHolder$Rows" "sizes" "[I") (by decide +kernel)) (fun _ h9 => h9) rfl dX6_make_29 ?_
      refine lv_iload_n hx hb dX6_make_32 rfl (lv_at hl 1 rfl) ?_
      refine lv_iload_n hx hb dX6_make_33 rfl (lv_at hl 3 rfl) ?_
      refine va_iast hx hb hK.1 hP hD hS 7 0 rfl rfl (in_lit (by decide)) dX6_make_34 (fun H locs hP hD hS => ?_)
      refine lv_iconst (v := 0) hx hb dX6_make_35 (by decide) ?_
      refine lv_istore (lv' := [(4, .int 0), (0, .ref h0), (1, .int 1), (2, .int p1), (3, .int p2)]) hx hb dX6_make_36 hl (by decide) rfl (fun ls hl => ?_)
      have key : ∀ (n k : Nat) (g : Nat → Int64) (H : Heap) (locs : List Loc) (ls : Array Slot), k ≤ 60 → 61 ≤ k + n → va_P G vwCl [(h0, .inr (6, [.ref n0, .ref n1, .ref n2, .int (ks ||| 2)])), (n0, .inl (ct 5, 4, .inr (.inr (.inr (.inr (fun i => if i < 4 then some (rr i) else none)))))), ((rr 0), .inl (ct 3, 60, .inr (.inl r0))), ((rr 1), .inl (ct 3, 60, .inr (.inl g))), ((rr 2), .inl (ct 3, 60, .inr (.inl r2))), ((rr 3), .inl (ct 3, 60, .inr (.inl r3))), (n1, .inl (ct 0, 4, .inl (upd fw (1 : Int32).toNatClampNeg p1))), (n2, .inl (ct 0, 4, .inl (upd fs (1 : Int32).toNatClampNeg p2)))] H → va_D A [(h0, .inr (6, [.ref n0, .ref n1, .ref n2, .int (ks ||| 2)])), (n0, .inl (ct 5, 4, .inr (.inr (.inr (.inr (fun i => if i < 4 then some (rr i) else none)))))), ((rr 0), .inl (ct 3, 60, .inr (.inl r0))), ((rr 1), .inl (ct 3, 60, .inr (.inl g))), ((rr 2), .inl (ct 3, 60, .inr (.inl r2))), ((rr 3), .inl (ct 3, 60, .inr (.inl r3))), (n1, .inl (ct 0, 4, .inl (upd fw (1 : Int32).toNatClampNeg p1))), (n2, .inl (ct 0, 4, .inl (upd fs (1 : Int32).toNatClampNeg p2)))] → va_S A s.heap H locs → lv_has ls 5 [(4, .int (nI k)), (0, .ref h0), (1, .int 1), (2, .int p1), (3, .int p2)] → W p l e (headSpec wsX6_make ({ frames := 1, cells := 0, slots := 0, locals := 21 })).room s m ([.ref h0, .int 1, .int p1, .int p2] : List Value).toArray below meth c H locs 0 0 (MQ below (va_Qv (fun u : Unit => True) (fun _ _ => True) A) ([.ref h0, .int 1, .int p1, .int p2] : List Value).toArray s 0 0 A) (F0 m 38 ls []) := by
        intro n
        induction n with
        | zero => intro k g H locs ls hk hn; exact absurd hn (by omega)
        | succ n ih =>
          intro k g H locs ls hk hn hP hD hS hl
          refine lv_iload hx hb dX6_make_38 (lv_at hl 0 rfl) ?_
          refine lv_bipush (v := 60) hx hb dX6_make_40 (by decide) ?_
          refine lv_icmp_ge (tgt := 61) hx hb dX6_make_42 (by decide) (fun c_6 => ?_) (fun c_6 => ?_)
          · exact W.vret hx hb hr (fun t ht hW => ⟨⟨(), rfl, trivial, trivial⟩, hS.F ht⟩) hS.2.2 dX6_make_61
          · refine lv_aload_n hx hb dX6_make_45 rfl (lv_at hl 1 rfl) ?_
            refine va_get (D := G) (ci := 6) (v := .ref n0) (C := RX6) (T := TX6) (N := 4) hx hb hts (by decide +kernel) hown hK.1 hP 0 rfl rfl 0 (by decide) (hts (.fieldLink RX6 11 "CardHolder$Rows" "numbers" "[[J") (by decide +kernel)) (fun _ h9 => h9) rfl dX6_make_46 ?_
            refine lv_iload_n hx hb dX6_make_49 rfl (lv_at hl 2 rfl) ?_
            refine va_aldL hx hb hK.1 hP 1 5 rfl rfl (in_lit (by decide)) dX6_make_50 ?_
            refine ix_r (y := .ref (rr 1)) rfl ?_
            refine lv_iload hx hb dX6_make_51 (lv_at hl 0 rfl) ?_
            refine lv_lconst (v := 0) hx hb dX6_make_53 (by decide) ?_
            refine va_last hx hb hK.1 hP hD hS 3 3 rfl rfl (vp_in_nI (n := k) (by have f0 := i_ne c_5; have f1 := i_nle c_6; have := nI_toInt (n := k) (by omega); have gwr_4 := wr_4; unfold slotP at gwr_4; have : (0 : Int32).toInt = 0 := (by decide); have : (1 : Int32).toInt = 1 := (by decide); have : (60 : Int32).toInt = 60 := (by decide); omega) (by omega)) dX6_make_54 (fun H locs hP hD hS => ?_)
            refine lv_iinc (v := nI (k + 1)) (lv' := [(4, .int (nI (k + 1))), (0, .ref h0), (1, .int 1), (2, .int p1), (3, .int p2)]) hx hb dX6_make_55 hl (k := 0) rfl (inc1 _) (by decide) rfl (fun ls hl => ?_)
            refine lv_goto (tgt := 38) hx hb dX6_make_58 (by decide) ?_
            exact ih (k + 1) (vp_updL g (nI k).toNatClampNeg 0) _ _ ls (by have f0 := i_ne c_5; have f1 := i_nle c_6; have := nI_toInt (n := k) (by omega); have gwr_4 := wr_4; unfold slotP at gwr_4; have : (0 : Int32).toInt = 0 := (by decide); have : (1 : Int32).toInt = 1 := (by decide); have : (60 : Int32).toInt = 60 := (by decide); omega) (by omega) hP hD hS (lv_sub hl [0, 1, 2, 3, 4] rfl)
      exact key 61 0 r1 _ _ ls (by omega) (by omega) hP hD hS hl
    · exfalso; have f0 := i_eq c_5; have gwr_4 := wr_4; unfold slotP at gwr_4; have : (0 : Int32).toInt = 0 := (by decide); have : (1 : Int32).toInt = 1 := (by decide); omega
  · refine lv_aload_n hx hb dX6_make_0 rfl (lv_at hl 0 rfl) ?_
    refine lv_iload_n hx hb dX6_make_1 rfl (lv_at hl 1 rfl) ?_
    refine ro_calli (va_runV (As := [.int 2]) (rest := []) ⟨hx, hb, hml, hown, hts⟩ (c_X6_isSlot l G ct h0 n0 n1 n2 ks 2) (cwV 1 hts gX6_make_X6_isSlot rfl rfl rfl (by decide +kernel) ⟨Nat.le_of_ble_eq_true rfl, Nat.le_of_ble_eq_true rfl⟩) (ro_preV 6 0 hK (hP.sub [0] rfl) rfl rfl) rfl rfl hl.1 rfl (lv_room (Nat.le_of_ble_eq_true rfl)) dX6_make_2 ⟨Nat.zero_le _, Nat.zero_le _⟩) hS hP (fun r_7 H locs wr_7 hP hS => ?_)
    refine lv_if_ne (tgt := 9) hx hb dX6_make_5 (by decide) (fun c_8 => ?_) (fun c_8 => ?_)
    · refine lv_aload_n hx hb dX6_make_9 rfl (lv_at hl 0 rfl) ?_
      refine lv_dup hx hb dX6_make_10 rfl ?_
      refine va_get (D := G) (ci := 6) (v := .int ks) (C := RX6) (T := TX6) (N := 4) hx hb hts (by decide +kernel) hown hK.1 hP 0 rfl rfl 3 (by decide) (hts (.fieldLink RX6 27 "CardHolder$Rows" "keptSlots" "I") (by decide +kernel)) (fun _ h9 => h9) rfl dX6_make_11 ?_
      refine lv_iconst (v := 1) hx hb dX6_make_14 (by decide) ?_
      refine lv_iload_n hx hb dX6_make_15 rfl (lv_at hl 1 rfl) ?_
      refine lv_ishl hx hb dX6_make_16 ?_
      refine ix_i (y := 4) (by decide) ?_
      refine lv_ior hx hb dX6_make_17 ?_
      refine va_put (D := G) (ci := 6) (v := .int (ks ||| 4)) (ty := .int) (C := RX6) (T := TX6) (N := 4) hx hb hts (by decide +kernel) tyX6 tyX6_ok nmX6 hown hK.1 hP hD hS 0 rfl rfl 3 (by decide) (hts (.fieldLink RX6 27 "CardHolder$Rows" "keptSlots" "I") (by decide +kernel)) (fun _ h9 => h9) rfl (by decide +kernel) rfl rfl (Nat.le_of_ble_eq_true rfl) dX6_make_18 (fun H locs hP hD hS => ?_)
      refine lv_aload_n hx hb dX6_make_21 rfl (lv_at hl 0 rfl) ?_
      refine va_get (D := G) (ci := 6) (v := .ref n1) (C := RX6) (T := TX6) (N := 4) hx hb hts (by decide +kernel) hown hK.1 hP 0 rfl rfl 1 (by decide) (hts (.fieldLink RX6 16 "CardHolder$Rows" "widths" "[I") (by decide +kernel)) (fun _ h9 => h9) rfl dX6_make_22 ?_
      refine lv_iload_n hx hb dX6_make_25 rfl (lv_at hl 1 rfl) ?_
      refine lv_iload_n hx hb dX6_make_26 rfl (lv_at hl 2 rfl) ?_
      refine va_iast hx hb hK.1 hP hD hS 6 0 rfl rfl (in_lit (by decide)) dX6_make_27 (fun H locs hP hD hS => ?_)
      refine lv_aload_n hx hb dX6_make_28 rfl (lv_at hl 0 rfl) ?_
      refine va_get (D := G) (ci := 6) (v := .ref n2) (C := RX6) (T := TX6) (N := 4) hx hb hts (by decide +kernel) hown hK.1 hP 0 rfl rfl 2 (by decide) (hts (.fieldLink RX6 20 "CardHolder$Rows" "sizes" "[I") (by decide +kernel)) (fun _ h9 => h9) rfl dX6_make_29 ?_
      refine lv_iload_n hx hb dX6_make_32 rfl (lv_at hl 1 rfl) ?_
      refine lv_iload_n hx hb dX6_make_33 rfl (lv_at hl 3 rfl) ?_
      refine va_iast hx hb hK.1 hP hD hS 7 0 rfl rfl (in_lit (by decide)) dX6_make_34 (fun H locs hP hD hS => ?_)
      refine lv_iconst (v := 0) hx hb dX6_make_35 (by decide) ?_
      refine lv_istore (lv' := [(4, .int 0), (0, .ref h0), (1, .int 2), (2, .int p1), (3, .int p2)]) hx hb dX6_make_36 hl (by decide) rfl (fun ls hl => ?_)
      have key : ∀ (n k : Nat) (g : Nat → Int64) (H : Heap) (locs : List Loc) (ls : Array Slot), k ≤ 60 → 61 ≤ k + n → va_P G vwCl [(h0, .inr (6, [.ref n0, .ref n1, .ref n2, .int (ks ||| 4)])), (n0, .inl (ct 5, 4, .inr (.inr (.inr (.inr (fun i => if i < 4 then some (rr i) else none)))))), ((rr 0), .inl (ct 3, 60, .inr (.inl r0))), ((rr 1), .inl (ct 3, 60, .inr (.inl r1))), ((rr 2), .inl (ct 3, 60, .inr (.inl g))), ((rr 3), .inl (ct 3, 60, .inr (.inl r3))), (n1, .inl (ct 0, 4, .inl (upd fw (2 : Int32).toNatClampNeg p1))), (n2, .inl (ct 0, 4, .inl (upd fs (2 : Int32).toNatClampNeg p2)))] H → va_D A [(h0, .inr (6, [.ref n0, .ref n1, .ref n2, .int (ks ||| 4)])), (n0, .inl (ct 5, 4, .inr (.inr (.inr (.inr (fun i => if i < 4 then some (rr i) else none)))))), ((rr 0), .inl (ct 3, 60, .inr (.inl r0))), ((rr 1), .inl (ct 3, 60, .inr (.inl r1))), ((rr 2), .inl (ct 3, 60, .inr (.inl g))), ((rr 3), .inl (ct 3, 60, .inr (.inl r3))), (n1, .inl (ct 0, 4, .inl (upd fw (2 : Int32).toNatClampNeg p1))), (n2, .inl (ct 0, 4, .inl (upd fs (2 : Int32).toNatClampNeg p2)))] → va_S A s.heap H locs → lv_has ls 5 [(4, .int (nI k)), (0, .ref h0), (1, .int 2), (2, .int p1), (3, .int p2)] → W p l e (headSpec wsX6_make ({ frames := 1, cells := 0, slots := 0, locals := 21 })).room s m ([.ref h0, .int 2, .int p1, .int p2] : List Value).toArray below meth c H locs 0 0 (MQ below (va_Qv (fun u : Unit => True) (fun _ _ => True) A) ([.ref h0, .int 2, .int p1, .int p2] : List Value).toArray s 0 0 A) (F0 m 38 ls []) := by
        intro n
        induction n with
        | zero => intro k g H locs ls hk hn; exact absurd hn (by omega)
        | succ n ih =>
          intro k g H locs ls hk hn hP hD hS hl
          refine lv_iload hx hb dX6_make_38 (lv_at hl 0 rfl) ?_
          refine lv_bipush (v := 60) hx hb dX6_make_40 (by decide) ?_
          refine lv_icmp_ge (tgt := 61) hx hb dX6_make_42 (by decide) (fun c_9 => ?_) (fun c_9 => ?_)
          · exact W.vret hx hb hr (fun t ht hW => ⟨⟨(), rfl, trivial, trivial⟩, hS.F ht⟩) hS.2.2 dX6_make_61
          · refine lv_aload_n hx hb dX6_make_45 rfl (lv_at hl 1 rfl) ?_
            refine va_get (D := G) (ci := 6) (v := .ref n0) (C := RX6) (T := TX6) (N := 4) hx hb hts (by decide +kernel) hown hK.1 hP 0 rfl rfl 0 (by decide) (hts (.fieldLink RX6 11 "CardHolder$Rows" "numbers" "[[J") (by decide +kernel)) (fun _ h9 => h9) rfl dX6_make_46 ?_
            refine lv_iload_n hx hb dX6_make_49 rfl (lv_at hl 2 rfl) ?_
            refine va_aldL hx hb hK.1 hP 1 5 rfl rfl (in_lit (by decide)) dX6_make_50 ?_
            refine ix_r (y := .ref (rr 2)) rfl ?_
            refine lv_iload hx hb dX6_make_51 (lv_at hl 0 rfl) ?_
            refine lv_lconst (v := 0) hx hb dX6_make_53 (by decide) ?_
            refine va_last hx hb hK.1 hP hD hS 4 3 rfl rfl (vp_in_nI (n := k) (by have f0 := i_ne c_8; have f1 := i_nle c_9; have := nI_toInt (n := k) (by omega); have gwr_7 := wr_7; unfold slotP at gwr_7; have : (0 : Int32).toInt = 0 := (by decide); have : (2 : Int32).toInt = 2 := (by decide); have : (60 : Int32).toInt = 60 := (by decide); omega) (by omega)) dX6_make_54 (fun H locs hP hD hS => ?_)
            refine lv_iinc (v := nI (k + 1)) (lv' := [(4, .int (nI (k + 1))), (0, .ref h0), (1, .int 2), (2, .int p1), (3, .int p2)]) hx hb dX6_make_55 hl (k := 0) rfl (inc1 _) (by decide) rfl (fun ls hl => ?_)
            refine lv_goto (tgt := 38) hx hb dX6_make_58 (by decide) ?_
            exact ih (k + 1) (vp_updL g (nI k).toNatClampNeg 0) _ _ ls (by have f0 := i_ne c_8; have f1 := i_nle c_9; have := nI_toInt (n := k) (by omega); have gwr_7 := wr_7; unfold slotP at gwr_7; have : (0 : Int32).toInt = 0 := (by decide); have : (2 : Int32).toInt = 2 := (by decide); have : (60 : Int32).toInt = 60 := (by decide); omega) (by omega) hP hD hS (lv_sub hl [0, 1, 2, 3, 4] rfl)
      exact key 61 0 r2 _ _ ls (by omega) (by omega) hP hD hS hl
    · exfalso; have f0 := i_eq c_8; have gwr_7 := wr_7; unfold slotP at gwr_7; have : (0 : Int32).toInt = 0 := (by decide); have : (2 : Int32).toInt = 2 := (by decide); omega
  · refine lv_aload_n hx hb dX6_make_0 rfl (lv_at hl 0 rfl) ?_
    refine lv_iload_n hx hb dX6_make_1 rfl (lv_at hl 1 rfl) ?_
    refine ro_calli (va_runV (As := [.int 3]) (rest := []) ⟨hx, hb, hml, hown, hts⟩ (c_X6_isSlot l G ct h0 n0 n1 n2 ks 3) (cwV 1 hts gX6_make_X6_isSlot rfl rfl rfl (by decide +kernel) ⟨Nat.le_of_ble_eq_true rfl, Nat.le_of_ble_eq_true rfl⟩) (ro_preV 6 0 hK (hP.sub [0] rfl) rfl rfl) rfl rfl hl.1 rfl (lv_room (Nat.le_of_ble_eq_true rfl)) dX6_make_2 ⟨Nat.zero_le _, Nat.zero_le _⟩) hS hP (fun r_10 H locs wr_10 hP hS => ?_)
    refine lv_if_ne (tgt := 9) hx hb dX6_make_5 (by decide) (fun c_11 => ?_) (fun c_11 => ?_)
    · refine lv_aload_n hx hb dX6_make_9 rfl (lv_at hl 0 rfl) ?_
      refine lv_dup hx hb dX6_make_10 rfl ?_
      refine va_get (D := G) (ci := 6) (v := .int ks) (C := RX6) (T := TX6) (N := 4) hx hb hts (by decide +kernel) hown hK.1 hP 0 rfl rfl 3 (by decide) (hts (.fieldLink RX6 27 "CardHolder$Rows" "keptSlots" "I") (by decide +kernel)) (fun _ h9 => h9) rfl dX6_make_11 ?_
      refine lv_iconst (v := 1) hx hb dX6_make_14 (by decide) ?_
      refine lv_iload_n hx hb dX6_make_15 rfl (lv_at hl 1 rfl) ?_
      refine lv_ishl hx hb dX6_make_16 ?_
      refine ix_i (y := 8) (by decide) ?_
      refine lv_ior hx hb dX6_make_17 ?_
      refine va_put (D := G) (ci := 6) (v := .int (ks ||| 8)) (ty := .int) (C := RX6) (T := TX6) (N := 4) hx hb hts (by decide +kernel) tyX6 tyX6_ok nmX6 hown hK.1 hP hD hS 0 rfl rfl 3 (by decide) (hts (.fieldLink RX6 27 "CardHolder$Rows" "keptSlots" "I") (by decide +kernel)) (fun _ h9 => h9) rfl (by decide +kernel) rfl rfl (Nat.le_of_ble_eq_true rfl) dX6_make_18 (fun H locs hP hD hS => ?_)
      refine lv_aload_n hx hb dX6_make_21 rfl (lv_at hl 0 rfl) ?_
      refine va_get (D := G) (ci := 6) (v := .ref n1) (C := RX6) (T := TX6) (N := 4) hx hb hts (by decide +kernel) hown hK.1 hP 0 rfl rfl 1 (by decide) (hts (.fieldLink RX6 16 "CardHolder$Rows" "widths" "[I") (by decide +kernel)) (fun _ h9 => h9) rfl dX6_make_22 ?_
      refine lv_iload_n hx hb dX6_make_25 rfl (lv_at hl 1 rfl) ?_
      refine lv_iload_n hx hb dX6_make_26 rfl (lv_at hl 2 rfl) ?_
      refine va_iast hx hb hK.1 hP hD hS 6 0 rfl rfl (in_lit (by decide)) dX6_make_27 (fun H locs hP hD hS => ?_)
      refine lv_aload_n hx hb dX6_make_28 rfl (lv_at hl 0 rfl) ?_
      refine va_get (D := G) (ci := 6) (v := .ref n2) (C := RX6) (T := TX6) (N := 4) hx hb hts (by decide +kernel) hown hK.1 hP 0 rfl rfl 2 (by decide) (hts (.fieldLink RX6 20 "CardHolder$Rows" "sizes" "[I") (by decide +kernel)) (fun _ h9 => h9) rfl dX6_make_29 ?_
      refine lv_iload_n hx hb dX6_make_32 rfl (lv_at hl 1 rfl) ?_
      refine lv_iload_n hx hb dX6_make_33 rfl (lv_at hl 3 rfl) ?_
      refine va_iast hx hb hK.1 hP hD hS 7 0 rfl rfl (in_lit (by decide)) dX6_make_34 (fun H locs hP hD hS => ?_)
      refine lv_iconst (v := 0) hx hb dX6_make_35 (by decide) ?_
      refine lv_istore (lv' := [(4, .int 0), (0, .ref h0), (1, .int 3), (2, .int p1), (3, .int p2)]) hx hb dX6_make_36 hl (by decide) rfl (fun ls hl => ?_)
      have key : ∀ (n k : Nat) (g : Nat → Int64) (H : Heap) (locs : List Loc) (ls : Array Slot), k ≤ 60 → 61 ≤ k + n → va_P G vwCl [(h0, .inr (6, [.ref n0, .ref n1, .ref n2, .int (ks ||| 8)])), (n0, .inl (ct 5, 4, .inr (.inr (.inr (.inr (fun i => if i < 4 then some (rr i) else none)))))), ((rr 0), .inl (ct 3, 60, .inr (.inl r0))), ((rr 1), .inl (ct 3, 60, .inr (.inl r1))), ((rr 2), .inl (ct 3, 60, .inr (.inl r2))), ((rr 3), .inl (ct 3, 60, .inr (.inl g))), (n1, .inl (ct 0, 4, .inl (upd fw (3 : Int32).toNatClampNeg p1))), (n2, .inl (ct 0, 4, .inl (upd fs (3 : Int32).toNatClampNeg p2)))] H → va_D A [(h0, .inr (6, [.ref n0, .ref n1, .ref n2, .int (ks ||| 8)])), (n0, .inl (ct 5, 4, .inr (.inr (.inr (.inr (fun i => if i < 4 then some (rr i) else none)))))), ((rr 0), .inl (ct 3, 60, .inr (.inl r0))), ((rr 1), .inl (ct 3, 60, .inr (.inl r1))), ((rr 2), .inl (ct 3, 60, .inr (.inl r2))), ((rr 3), .inl (ct 3, 60, .inr (.inl g))), (n1, .inl (ct 0, 4, .inl (upd fw (3 : Int32).toNatClampNeg p1))), (n2, .inl (ct 0, 4, .inl (upd fs (3 : Int32).toNatClampNeg p2)))] → va_S A s.heap H locs → lv_has ls 5 [(4, .int (nI k)), (0, .ref h0), (1, .int 3), (2, .int p1), (3, .int p2)] → W p l e (headSpec wsX6_make ({ frames := 1, cells := 0, slots := 0, locals := 21 })).room s m ([.ref h0, .int 3, .int p1, .int p2] : List Value).toArray below meth c H locs 0 0 (MQ below (va_Qv (fun u : Unit => True) (fun _ _ => True) A) ([.ref h0, .int 3, .int p1, .int p2] : List Value).toArray s 0 0 A) (F0 m 38 ls []) := by
        intro n
        induction n with
        | zero => intro k g H locs ls hk hn; exact absurd hn (by omega)
        | succ n ih =>
          intro k g H locs ls hk hn hP hD hS hl
          refine lv_iload hx hb dX6_make_38 (lv_at hl 0 rfl) ?_
          refine lv_bipush (v := 60) hx hb dX6_make_40 (by decide) ?_
          refine lv_icmp_ge (tgt := 61) hx hb dX6_make_42 (by decide) (fun c_12 => ?_) (fun c_12 => ?_)
          · exact W.vret hx hb hr (fun t ht hW => ⟨⟨(), rfl, trivial, trivial⟩, hS.F ht⟩) hS.2.2 dX6_make_61
          · refine lv_aload_n hx hb dX6_make_45 rfl (lv_at hl 1 rfl) ?_
            refine va_get (D := G) (ci := 6) (v := .ref n0) (C := RX6) (T := TX6) (N := 4) hx hb hts (by decide +kernel) hown hK.1 hP 0 rfl rfl 0 (by decide) (hts (.fieldLink RX6 11 "CardHolder$Rows" "numbers" "[[J") (by decide +kernel)) (fun _ h9 => h9) rfl dX6_make_46 ?_
            refine lv_iload_n hx hb dX6_make_49 rfl (lv_at hl 2 rfl) ?_
            refine va_aldL hx hb hK.1 hP 1 5 rfl rfl (in_lit (by decide)) dX6_make_50 ?_
            refine ix_r (y := .ref (rr 3)) rfl ?_
            refine lv_iload hx hb dX6_make_51 (lv_at hl 0 rfl) ?_
            refine lv_lconst (v := 0) hx hb dX6_make_53 (by decide) ?_
            refine va_last hx hb hK.1 hP hD hS 5 3 rfl rfl (vp_in_nI (n := k) (by have f0 := i_ne c_11; have f1 := i_nle c_12; have := nI_toInt (n := k) (by omega); have gwr_10 := wr_10; unfold slotP at gwr_10; have : (0 : Int32).toInt = 0 := (by decide); have : (3 : Int32).toInt = 3 := (by decide); have : (60 : Int32).toInt = 60 := (by decide); omega) (by omega)) dX6_make_54 (fun H locs hP hD hS => ?_)
            refine lv_iinc (v := nI (k + 1)) (lv' := [(4, .int (nI (k + 1))), (0, .ref h0), (1, .int 3), (2, .int p1), (3, .int p2)]) hx hb dX6_make_55 hl (k := 0) rfl (inc1 _) (by decide) rfl (fun ls hl => ?_)
            refine lv_goto (tgt := 38) hx hb dX6_make_58 (by decide) ?_
            exact ih (k + 1) (vp_updL g (nI k).toNatClampNeg 0) _ _ ls (by have f0 := i_ne c_11; have f1 := i_nle c_12; have := nI_toInt (n := k) (by omega); have gwr_10 := wr_10; unfold slotP at gwr_10; have : (0 : Int32).toInt = 0 := (by decide); have : (3 : Int32).toInt = 3 := (by decide); have : (60 : Int32).toInt = 60 := (by decide); omega) (by omega) hP hD hS (lv_sub hl [0, 1, 2, 3, 4] rfl)
      exact key 61 0 r3 _ _ ls (by omega) (by omega) hP hD hS hl
    · exfalso; have f0 := i_eq c_11; have gwr_10 := wr_10; unfold slotP at gwr_10; have : (0 : Int32).toInt = 0 := (by decide); have : (3 : Int32).toInt = 3 := (by decide); omega

set_option maxHeartbeats 4000000 in
set_option maxRecDepth 100000 in
theorem c_X10_row (l : Launch) (G : va_G) (ct : Nat → ClassId) (a : Nat → Nat) (rr : Nat → Nat) (p0 : Int32) (p1 : Int32) (p2 : Int32)  : Met l yX10_row wsX10_row ({ frames := 2, cells := 0, slots := 0, locals := 45 }) (va_Pc [.ref (a 0), .int p0, .int p1, .int p2] (wrP G ct (xF a rr ct))) (va_Qi (fun (r : Int32) (u : Unit) => r = fRow p0 p1 p2) (fun _ _ => True) (aset (xF a rr ct))) 0 0 (aset (xF a rr ct)) := by
  refine Met.ofW (cc := cX10_row) (maxL := 4) (ret := (some .int)) (by decide) rfl ?_
  intro p e s m args below meth c s₁ B hml hv
  obtain ⟨rfl, hP, hK, hD0⟩ := hv
  have hx := B.exec
  have hb := B.bytes
  have hr := B.returns
  have hts := atoms_spec (ws := wsX10_row) B.pre
  have hown : s.vm.findClass RX10 = some m.cls := findClass_of_methodNamed B.named
  have hlocks := B.notSynchronized
  have hD := hD0.aself
  generalize hAe : aset (xF a rr ct) = A at hD ⊢
  have hS : va_S A s.heap s.heap [] := va_S.rf
  have hl := lv_entry ([.ref (a 0), .int p0, .int p1, .int p2]) (n := 4) (Nat.le_of_ble_eq_true rfl)
  rw [lg_entry_eq]
  generalize (lg_sl ([.ref (a 0), .int p0, .int p1, .int p2]) ++ List.replicate (4 - (lg_sl ([.ref (a 0), .int p0, .int p1, .int p2])).length) Slot.unset).toArray = ls at hl ⊢
  have hl : lv_has ls 4 [(0, .ref (a 0)), (1, .int p0), (2, .int p1), (3, .int p2)] := hl
  refine lv_aload_n hx hb dX10_row_0 rfl (lv_at hl 0 rfl) ?_
  refine va_get (D := G) (ci := 10) (v := .ref (a 69)) (C := RX10) (T := TX10) (N := 11) hx hb hts (by decide +kernel) hown hK.1 hP 0 rfl rfl 5 (by decide) (hts (.fieldLink RX10 43 "CardHolder" "rows" "LCardHolder$Rows;") (by decide +kernel)) (fun _ h9 => h9) rfl dX10_row_1 ?_
  refine lv_iload_n hx hb dX10_row_4 rfl (lv_at hl 1 rfl) ?_
  refine ro_calli (va_runV (As := [.int p0]) (rest := []) ⟨hx, hb, hml, hown, hts⟩ (c_X6_isSlot l G ct (a 69) (a 70) (a 75) (a 76) 0 p0) (cwV 1 hts gX10_row_X6_isSlot rfl rfl rfl (by decide +kernel) ⟨Nat.le_of_ble_eq_true rfl, Nat.le_of_ble_eq_true rfl⟩) (ro_preV 6 0 hK (hP.sub [69] rfl) rfl rfl) rfl rfl hl.1 rfl (lv_room (Nat.le_of_ble_eq_true rfl)) dX10_row_5 ⟨Nat.zero_le _, Nat.zero_le _⟩) hS hP (fun r_1 H locs wr_1 hP hS => ?_)
  refine lv_if_eq (tgt := 26) hx hb dX10_row_8 (by decide) (fun c_2 => ?_) (fun c_2 => ?_)
  · refine lv_bipush (v := (-2)) hx hb dX10_row_26 (by decide) ?_
    exact W.iret (v := (-2)) hx hb hr (fun t ht hW => ⟨⟨(-2), (), rfl, by have f0 := i_eq c_2; have gwr_1 := wr_1; unfold slotP at gwr_1; have : ((-2) : Int32).toInt = -2 := (by decide); have : (0 : Int32).toInt = 0 := (by decide); show ((-2) : Int32) = fRow p0 p1 p2; unfold fRow; (repeat' split) <;> first | rfl | (exfalso; omega), trivial⟩, hS.F ht⟩) hS.2.2 dX10_row_28
  · refine lv_iload_n hx hb dX10_row_11 rfl (lv_at hl 2 rfl) ?_
    refine lv_if_lt (tgt := 26) hx hb dX10_row_12 (by decide) (fun c_3 => ?_) (fun c_3 => ?_)
    · refine lv_bipush (v := (-2)) hx hb dX10_row_26 (by decide) ?_
      exact W.iret (v := (-2)) hx hb hr (fun t ht hW => ⟨⟨(-2), (), rfl, by have f0 := i_ne c_2; have f1 := i_lt c_3; have gwr_1 := wr_1; unfold slotP at gwr_1; have : ((-2) : Int32).toInt = -2 := (by decide); have : (0 : Int32).toInt = 0 := (by decide); show ((-2) : Int32) = fRow p0 p1 p2; unfold fRow; (repeat' split) <;> first | rfl | (exfalso; omega), trivial⟩, hS.F ht⟩) hS.2.2 dX10_row_28
    · refine lv_iload_n hx hb dX10_row_15 rfl (lv_at hl 2 rfl) ?_
      refine lv_iconst (v := 3) hx hb dX10_row_16 (by decide) ?_
      refine lv_icmp_gt (tgt := 26) hx hb dX10_row_17 (by decide) (fun c_4 => ?_) (fun c_4 => ?_)
      · refine lv_bipush (v := (-2)) hx hb dX10_row_26 (by decide) ?_
        exact W.iret (v := (-2)) hx hb hr (fun t ht hW => ⟨⟨(-2), (), rfl, by have f0 := i_ne c_2; have f1 := i_nlt c_3; have f2 := i_lt c_4; have gwr_1 := wr_1; unfold slotP at gwr_1; have : ((-2) : Int32).toInt = -2 := (by decide); have : (0 : Int32).toInt = 0 := (by decide); have : (3 : Int32).toInt = 3 := (by decide); show ((-2) : Int32) = fRow p0 p1 p2; unfold fRow; (repeat' split) <;> first | rfl | (exfalso; omega), trivial⟩, hS.F ht⟩) hS.2.2 dX10_row_28
      · refine lv_iload_n hx hb dX10_row_20 rfl (lv_at hl 3 rfl) ?_
        refine lv_bipush (v := 60) hx hb dX10_row_21 (by decide) ?_
        refine lv_icmp_le (tgt := 29) hx hb dX10_row_23 (by decide) (fun c_5 => ?_) (fun c_5 => ?_)
        · refine lv_iload_n hx hb dX10_row_29 rfl (lv_at hl 3 rfl) ?_
          refine lv_if_ge (tgt := 36) hx hb dX10_row_30 (by decide) (fun c_6 => ?_) (fun c_6 => ?_)
          · refine lv_aload_n hx hb dX10_row_36 rfl (lv_at hl 0 rfl) ?_
            refine va_get (D := G) (ci := 10) (v := .ref (a 69)) (C := RX10) (T := TX10) (N := 11) hx hb hts (by decide +kernel) hown hK.1 hP 0 rfl rfl 5 (by decide) (hts (.fieldLink RX10 43 "CardHolder" "rows" "LCardHolder$Rows;") (by decide +kernel)) (fun _ h9 => h9) rfl dX10_row_37 ?_
            refine lv_iload_n hx hb dX10_row_40 rfl (lv_at hl 1 rfl) ?_
            refine lv_iload_n hx hb dX10_row_41 rfl (lv_at hl 2 rfl) ?_
            refine lv_iload_n hx hb dX10_row_42 rfl (lv_at hl 3 rfl) ?_
            refine wq_callv (va_runV (As := [.int p0, .int p1, .int p2]) (rest := []) ⟨hx, hb, hml, hown, hts⟩ (c_X6_make l G ct (a 69) (a 70) (a 75) (a 76) rr 0 (fun _ => 0) (fun _ => 0) (fun _ => 0) (fun _ => 0) (fun _ => 0) (fun _ => 0) p0 p1 p2 (by have f0 := i_ne c_2; have f1 := i_nlt c_3; have f2 := i_nlt c_4; have f3 := i_le c_5; have f4 := i_le c_6; have gwr_1 := wr_1; unfold slotP at gwr_1; have : (0 : Int32).toInt = 0 := (by decide); have : (3 : Int32).toInt = 3 := (by decide); have : (60 : Int32).toInt = 60 := (by decide); omega) (by have f0 := i_ne c_2; have f1 := i_nlt c_3; have f2 := i_nlt c_4; have f3 := i_le c_5; have f4 := i_le c_6; have gwr_1 := wr_1; unfold slotP at gwr_1; have : (0 : Int32).toInt = 0 := (by decide); have : (3 : Int32).toInt = 3 := (by decide); have : (60 : Int32).toInt = 60 := (by decide); omega)) (cwV 3 hts gX10_row_X6_make rfl rfl rfl (by decide +kernel) ⟨Nat.le_of_ble_eq_true rfl, Nat.le_of_ble_eq_true rfl⟩) (wr_preV 6 0 hK (hP.sub [69, 70, 71, 72, 73, 74, 75, 76] rfl) (hD.sub [69, 70, 71, 72, 73, 74, 75, 76] (by decide) rfl) rfl rfl) rfl rfl hl.1 rfl (lv_room (Nat.le_of_ble_eq_true rfl)) dX10_row_43 ⟨Nat.zero_le _, Nat.zero_le _⟩) hS (aset_in hD [69, 70, 71, 72, 73, 74, 75, 76] rfl) (fun H locs _ hS => ?_)
            refine lv_iconst (v := 0) hx hb dX10_row_46 (by decide) ?_
            exact W.iret (v := 0) hx hb hr (fun t ht hW => ⟨⟨0, (), rfl, by have f0 := i_ne c_2; have f1 := i_nlt c_3; have f2 := i_nlt c_4; have f3 := i_le c_5; have f4 := i_le c_6; have gwr_1 := wr_1; unfold slotP at gwr_1; have : (0 : Int32).toInt = 0 := (by decide); have : (3 : Int32).toInt = 3 := (by decide); have : (60 : Int32).toInt = 60 := (by decide); show (0 : Int32) = fRow p0 p1 p2; unfold fRow; (repeat' split) <;> first | rfl | (exfalso; omega), trivial⟩, hS.F ht⟩) hS.2.2 dX10_row_47
          · refine lv_bipush (v := (-3)) hx hb dX10_row_33 (by decide) ?_
            exact W.iret (v := (-3)) hx hb hr (fun t ht hW => ⟨⟨(-3), (), rfl, by have f0 := i_ne c_2; have f1 := i_nlt c_3; have f2 := i_nlt c_4; have f3 := i_le c_5; have f4 := i_nle c_6; have gwr_1 := wr_1; unfold slotP at gwr_1; have : ((-3) : Int32).toInt = -3 := (by decide); have : (0 : Int32).toInt = 0 := (by decide); have : (3 : Int32).toInt = 3 := (by decide); have : (60 : Int32).toInt = 60 := (by decide); show ((-3) : Int32) = fRow p0 p1 p2; unfold fRow; (repeat' split) <;> first | rfl | (exfalso; omega), trivial⟩, hS.F ht⟩) hS.2.2 dX10_row_35
        · refine lv_bipush (v := (-2)) hx hb dX10_row_26 (by decide) ?_
          exact W.iret (v := (-2)) hx hb hr (fun t ht hW => ⟨⟨(-2), (), rfl, by have f0 := i_ne c_2; have f1 := i_nlt c_3; have f2 := i_nlt c_4; have f3 := i_nle c_5; have gwr_1 := wr_1; unfold slotP at gwr_1; have : ((-2) : Int32).toInt = -2 := (by decide); have : (0 : Int32).toInt = 0 := (by decide); have : (3 : Int32).toInt = 3 := (by decide); have : (60 : Int32).toInt = 60 := (by decide); show ((-2) : Int32) = fRow p0 p1 p2; unfold fRow; (repeat' split) <;> first | rfl | (exfalso; omega), trivial⟩, hS.F ht⟩) hS.2.2 dX10_row_28
