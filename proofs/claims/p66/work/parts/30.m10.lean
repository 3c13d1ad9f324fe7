
set_option maxHeartbeats 4000000 in
set_option maxRecDepth 100000 in
theorem a_X11_common_12 (l : Launch) (G : va_G) (ct : Nat → ClassId) (p0 : Int32) (p1 : Int32) (hp_p0 : rg 1 64 p0) (hp_p1 : rg 0 12 p1) : Met l yX11_common wsX11_common ({ frames := 12, cells := 0, slots := 0, locals := 360 }) (va_Pc [.int p0, .int p1] (roP G ct [])) (roQ (fun r => rg 1 64 r ∧ True)) 0 0 no := by
  refine Met.ofW (cc := cX11_common) (maxL := 2) (ret := (some .int)) (by decide) rfl ?_
  intro p e s m args below meth c s₁ B hml hv
  obtain ⟨rfl, hP, hK⟩ := hv
  have hx := B.exec
  have hb := B.bytes
  have hr := B.returns
  have hts := atoms_spec (ws := wsX11_common) B.pre
  have hown : s.vm.findClass RX11 = some m.cls := findClass_of_methodNamed B.named
  have hlocks := B.notSynchronized
  have hS : va_S no s.heap s.heap [] := va_S.rf
  have hl := lv_entry ([.int p0, .int p1]) (n := 2) (Nat.le_of_ble_eq_true rfl)
  rw [lg_entry_eq]
  generalize (lg_sl ([.int p0, .int p1]) ++ List.replicate (2 - (lg_sl ([.int p0, .int p1])).length) Slot.unset).toArray = ls at hl ⊢
  have hl : lv_has ls 2 [(0, .int p0), (1, .int p1)] := hl
  refine lv_iload_n hx hb dX11_common_0 rfl (lv_at hl 1 rfl) ?_
  refine lv_if_ne (tgt := 8) hx hb dX11_common_1 (by decide) (fun c1 => ?_) (fun c1 => ?_)
  · have h_1 : rg 1 12 p1 := r_ne_lo_i c1 hp_p1 (by decide) (by decide)
    refine lv_iload_n hx hb dX11_common_8 rfl (lv_at hl 1 rfl) ?_
    refine lv_iload_n hx hb dX11_common_9 rfl (lv_at hl 0 rfl) ?_
    refine lv_iload_n hx hb dX11_common_10 rfl (lv_at hl 1 rfl) ?_
    refine lv_irem hx hb dX11_common_11 (rne0 h_1 (by decide)) ?_
    refine nm_rem (f := 11) hp_p0 h_1 (by decide) (fun z11 hz11 tz11 => ?_)
    refine ro_calli (va_runS (As := [.int p1, .int z11]) (rest := []) ⟨hx, hb, hml, hown, hts⟩ (a_X11_common_11 l G ct p1 z11 (rg_w (c := 1) (d := 64) h_1 (by decide)) hz11) (va_cwS 2 hts gX11_common_X11_common rfl rfl rfl (by decide +kernel) ⟨Nat.le_of_ble_eq_true rfl, Nat.le_of_ble_eq_true rfl⟩) (ro_pre hK (hP.sub [] rfl)) rfl rfl hl.1 rfl (lv_room (Nat.le_of_ble_eq_true rfl)) dX11_common_12 ⟨Nat.zero_le _, Nat.zero_le _⟩) hS hP (fun r12 H locs wr12 hP hS => ?_)
    obtain ⟨p_2, -⟩ := wr12
    exact W.iret (v := r12) hx hb hr (fun t ht hW => ⟨⟨r12, (), rfl, ⟨p_2, trivial⟩, trivial⟩, hS.F ht⟩) hS.2.2 dX11_common_15
  · have h_3 : rg 0 0 p1 := r_eq_l_i (e := 0) (f := 0) c1 hp_p1 (rgn 0 (x := 0) (by decide)) (by decide)
    refine lv_iload_n hx hb dX11_common_4 rfl (lv_at hl 0 rfl) ?_
    refine lv_goto (tgt := 15) hx hb dX11_common_5 (by decide) ?_
    exact W.iret (v := p0) hx hb hr (fun t ht hW => ⟨⟨p0, (), rfl, ⟨hp_p0, trivial⟩, trivial⟩, hS.F ht⟩) hS.2.2 dX11_common_15

set_option maxHeartbeats 4000000 in
set_option maxRecDepth 100000 in
theorem a_X11_common_13 (l : Launch) (G : va_G) (ct : Nat → ClassId) (p0 : Int32) (p1 : Int32) (hp_p0 : rg 1 64 p0) (hp_p1 : rg 0 13 p1) : Met l yX11_common wsX11_common ({ frames := 13, cells := 0, slots := 0, locals := 390 }) (va_Pc [.int p0, .int p1] (roP G ct [])) (roQ (fun r => rg 1 64 r ∧ True)) 0 0 no := by
  refine Met.ofW (cc := cX11_common) (maxL := 2) (ret := (some .int)) (by decide) rfl ?_
  intro p e s m args below meth c s₁ B hml hv
  obtain ⟨rfl, hP, hK⟩ := hv
  have hx := B.exec
  have hb := B.bytes
  have hr := B.returns
  have hts := atoms_spec (ws := wsX11_common) B.pre
  have hown : s.vm.findClass RX11 = some m.cls := findClass_of_methodNamed B.named
  have hlocks := B.notSynchronized
  have hS : va_S no s.heap s.heap [] := va_S.rf
  have hl := lv_entry ([.int p0, .int p1]) (n := 2) (Nat.le_of_ble_eq_true rfl)
  rw [lg_entry_eq]
  generalize (lg_sl ([.int p0, .int p1]) ++ List.replicate (2 - (lg_sl ([.int p0, .int p1])).length) Slot.unset).toArray = ls at hl ⊢
  have hl : lv_has ls 2 [(0, .int p0), (1, .int p1)] := hl
  refine lv_iload_n hx hb dX11_common_0 rfl (lv_at hl 1 rfl) ?_
  refine lv_if_ne (tgt := 8) hx hb dX11_common_1 (by decide) (fun c1 => ?_) (fun c1 => ?_)
  · have h_1 : rg 1 13 p1 := r_ne_lo_i c1 hp_p1 (by decide) (by decide)
    refine lv_iload_n hx hb dX11_common_8 rfl (lv_at hl 1 rfl) ?_
    refine lv_iload_n hx hb dX11_common_9 rfl (lv_at hl 0 rfl) ?_
    refine lv_iload_n hx hb dX11_common_10 rfl (lv_at hl 1 rfl) ?_
    refine lv_irem hx hb dX11_common_11 (rne0 h_1 (by decide)) ?_
    refine nm_rem (f := 12) hp_p0 h_1 (by decide) (fun z11 hz11 tz11 => ?_)
    refine ro_calli (va_runS (As := [.int p1, .int z11]) (rest := []) ⟨hx, hb, hml, hown, hts⟩ (a_X11_common_12 l G ct p1 z11 (rg_w (c := 1) (d := 64) h_1 (by decide)) hz11) (va_cwS 2 hts gX11_common_X11_common rfl rfl rfl (by decide +kernel) ⟨Nat.le_of_ble_eq_true rfl, Nat.le_of_ble_eq_true rfl⟩) (ro_pre hK (hP.sub [] rfl)) rfl rfl hl.1 rfl (lv_room (Nat.le_of_ble_eq_true rfl)) dX11_common_12 ⟨Nat.zero_le _, Nat.zero_le _⟩) hS hP (fun r12 H locs wr12 hP hS => ?_)
    obtain ⟨p_2, -⟩ := wr12
    exact W.iret (v := r12) hx hb hr (fun t ht hW => ⟨⟨r12, (), rfl, ⟨p_2, trivial⟩, trivial⟩, hS.F ht⟩) hS.2.2 dX11_common_15
  · have h_3 : rg 0 0 p1 := r_eq_l_i (e := 0) (f := 0) c1 hp_p1 (rgn 0 (x := 0) (by decide)) (by decide)
    refine lv_iload_n hx hb dX11_common_4 rfl (lv_at hl 0 rfl) ?_
    refine lv_goto (tgt := 15) hx hb dX11_common_5 (by decide) ?_
    exact W.iret (v := p0) hx hb hr (fun t ht hW => ⟨⟨p0, (), rfl, ⟨hp_p0, trivial⟩, trivial⟩, hS.F ht⟩) hS.2.2 dX11_common_15

set_option maxHeartbeats 4000000 in
set_option maxRecDepth 100000 in
theorem a_X11_common_14 (l : Launch) (G : va_G) (ct : Nat → ClassId) (p0 : Int32) (p1 : Int32) (hp_p0 : rg 1 64 p0) (hp_p1 : rg 0 14 p1) : Met l yX11_common wsX11_common ({ frames := 14, cells := 0, slots := 0, locals := 420 }) (va_Pc [.int p0, .int p1] (roP G ct [])) (roQ (fun r => rg 1 64 r ∧ True)) 0 0 no := by
  refine Met.ofW (cc := cX11_common) (maxL := 2) (ret := (some .int)) (by decide) rfl ?_
  intro p e s m args below meth c s₁ B hml hv
  obtain ⟨rfl, hP, hK⟩ := hv
  have hx := B.exec
  have hb := B.bytes
  have hr := B.returns
  have hts := atoms_spec (ws := wsX11_common) B.pre
  have hown : s.vm.findClass RX11 = some m.cls := findClass_of_methodNamed B.named
  have hlocks := B.notSynchronized
  have hS : va_S no s.heap s.heap [] := va_S.rf
  have hl := lv_entry ([.int p0, .int p1]) (n := 2) (Nat.le_of_ble_eq_true rfl)
  rw [lg_entry_eq]
  generalize (lg_sl ([.int p0, .int p1]) ++ List.replicate (2 - (lg_sl ([.int p0, .int p1])).length) Slot.unset).toArray = ls at hl ⊢
  have hl : lv_has ls 2 [(0, .int p0), (1, .int p1)] := hl
  refine lv_iload_n hx hb dX11_common_0 rfl (lv_at hl 1 rfl) ?_
  refine lv_if_ne (tgt := 8) hx hb dX11_common_1 (by decide) (fun c1 => ?_) (fun c1 => ?_)
  · have h_1 : rg 1 14 p1 := r_ne_lo_i c1 hp_p1 (by decide) (by decide)
    refine lv_iload_n hx hb dX11_common_8 rfl (lv_at hl 1 rfl) ?_
    refine lv_iload_n hx hb dX11_common_9 rfl (lv_at hl 0 rfl) ?_
    refine lv_iload_n hx hb dX11_common_10 rfl (lv_at hl 1 rfl) ?_
    refine lv_irem hx hb dX11_common_11 (rne0 h_1 (by decide)) ?_
    refine nm_rem (f := 13) hp_p0 h_1 (by decide) (fun z11 hz11 tz11 => ?_)
    refine ro_calli (va_runS (As := [.int p1, .int z11]) (rest := []) ⟨hx, hb, hml, hown, hts⟩ (a_X11_common_13 l G ct p1 z11 (rg_w (c := 1) (d := 64) h_1 (by decide)) hz11) (va_cwS 2 hts gX11_common_X11_common rfl rfl rfl (by decide +kernel) ⟨Nat.le_of_ble_eq_true rfl, Nat.le_of_ble_eq_true rfl⟩) (ro_pre hK (hP.sub [] rfl)) rfl rfl hl.1 rfl (lv_room (Nat.le_of_ble_eq_true rfl)) dX11_common_12 ⟨Nat.zero_le _, Nat.zero_le _⟩) hS hP (fun r12 H locs wr12 hP hS => ?_)
    obtain ⟨p_2, -⟩ := wr12
    exact W.iret (v := r12) hx hb hr (fun t ht hW => ⟨⟨r12, (), rfl, ⟨p_2, trivial⟩, trivial⟩, hS.F ht⟩) hS.2.2 dX11_common_15
  · have h_3 : rg 0 0 p1 := r_eq_l_i (e := 0) (f := 0) c1 hp_p1 (rgn 0 (x := 0) (by decide)) (by decide)
    refine lv_iload_n hx hb dX11_common_4 rfl (lv_at hl 0 rfl) ?_
    refine lv_goto (tgt := 15) hx hb dX11_common_5 (by decide) ?_
    exact W.iret (v := p0) hx hb hr (fun t ht hW => ⟨⟨p0, (), rfl, ⟨hp_p0, trivial⟩, trivial⟩, hS.F ht⟩) hS.2.2 dX11_common_15

set_option maxHeartbeats 4000000 in
set_option maxRecDepth 100000 in
theorem a_X11_common_15 (l : Launch) (G : va_G) (ct : Nat → ClassId) (p0 : Int32) (p1 : Int32) (hp_p0 : rg 1 64 p0) (hp_p1 : rg 0 15 p1) : Met l yX11_common wsX11_common ({ frames := 15, cells := 0, slots := 0, locals := 450 }) (va_Pc [.int p0, .int p1] (roP G ct [])) (roQ (fun r => rg 1 64 r ∧ True)) 0 0 no := by
  refine Met.ofW (cc := cX11_common) (maxL := 2) (ret := (some .int)) (by decide) rfl ?_
  intro p e s m args below meth c s₁ B hml hv
  obtain ⟨rfl, hP, hK⟩ := hv
  have hx := B.exec
  have hb := B.bytes
  have hr := B.returns
  have hts := atoms_spec (ws := wsX11_common) B.pre
  have hown : s.vm.findClass RX11 = some m.cls := findClass_of_methodNamed B.named
  have hlocks := B.notSynchronized
  have hS : va_S no s.heap s.heap [] := va_S.rf
  have hl := lv_entry ([.int p0, .int p1]) (n := 2) (Nat.le_of_ble_eq_true rfl)
  rw [lg_entry_eq]
  generalize (lg_sl ([.int p0, .int p1]) ++ List.replicate (2 - (lg_sl ([.int p0, .int p1])).length) Slot.unset).toArray = ls at hl ⊢
  have hl : lv_has ls 2 [(0, .int p0), (1, .int p1)] := hl
  refine lv_iload_n hx hb dX11_common_0 rfl (lv_at hl 1 rfl) ?_
  refine lv_if_ne (tgt := 8) hx hb dX11_common_1 (by decide) (fun c1 => ?_) (fun c1 => ?_)
  · have h_1 : rg 1 15 p1 := r_ne_lo_i c1 hp_p1 (by decide) (by decide)
    refine lv_iload_n hx hb dX11_common_8 rfl (lv_at hl 1 rfl) ?_
    refine lv_iload_n hx hb dX11_common_9 rfl (lv_at hl 0 rfl) ?_
    refine lv_iload_n hx hb dX11_common_10 rfl (lv_at hl 1 rfl) ?_
    refine lv_irem hx hb dX11_common_11 (rne0 h_1 (by decide)) ?_
    refine nm_rem (f := 14) hp_p0 h_1 (by decide) (fun z11 hz11 tz11 => ?_)
    refine ro_calli (va_runS (As := [.int p1, .int z11]) (rest := []) ⟨hx, hb, hml, hown, hts⟩ (a_X11_common_14 l G ct p1 z11 (rg_w (c := 1) (d := 64) h_1 (by decide)) hz11) (va_cwS 2 hts gX11_common_X11_common rfl rfl rfl (by decide +kernel) ⟨Nat.le_of_ble_eq_true rfl, Nat.le_of_ble_eq_true rfl⟩) (ro_pre hK (hP.sub [] rfl)) rfl rfl hl.1 rfl (lv_room (Nat.le_of_ble_eq_true rfl)) dX11_common_12 ⟨Nat.zero_le _, Nat.zero_le _⟩) hS hP (fun r12 H locs wr12 hP hS => ?_)
    obtain ⟨p_2, -⟩ := wr12
    exact W.iret (v := r12) hx hb hr (fun t ht hW => ⟨⟨r12, (), rfl, ⟨p_2, trivial⟩, trivial⟩, hS.F ht⟩) hS.2.2 dX11_common_15
  · have h_3 : rg 0 0 p1 := r_eq_l_i (e := 0) (f := 0) c1 hp_p1 (rgn 0 (x := 0) (by decide)) (by decide)
    refine lv_iload_n hx hb dX11_common_4 rfl (lv_at hl 0 rfl) ?_
    refine lv_goto (tgt := 15) hx hb dX11_common_5 (by decide) ?_
    exact W.iret (v := p0) hx hb hr (fun t ht hW => ⟨⟨p0, (), rfl, ⟨hp_p0, trivial⟩, trivial⟩, hS.F ht⟩) hS.2.2 dX11_common_15

set_option maxHeartbeats 4000000 in
set_option maxRecDepth 100000 in
theorem a_X11_common_16 (l : Launch) (G : va_G) (ct : Nat → ClassId) (p0 : Int32) (p1 : Int32) (hp_p0 : rg 1 64 p0) (hp_p1 : rg 0 16 p1) : Met l yX11_common wsX11_common ({ frames := 16, cells := 0, slots := 0, locals := 480 }) (va_Pc [.int p0, .int p1] (roP G ct [])) (roQ (fun r => rg 1 64 r ∧ True)) 0 0 no := by
  refine Met.ofW (cc := cX11_common) (maxL := 2) (ret := (some .int)) (by decide) rfl ?_
  intro p e s m args below meth c s₁ B hml hv
  obtain ⟨rfl, hP, hK⟩ := hv
  have hx := B.exec
  have hb := B.bytes
  have hr := B.returns
  have hts := atoms_spec (ws := wsX11_common) B.pre
  have hown : s.vm.findClass RX11 = some m.cls := findClass_of_methodNamed B.named
  have hlocks := B.notSynchronized
  have hS : va_S no s.heap s.heap [] := va_S.rf
  have hl := lv_entry ([.int p0, .int p1]) (n := 2) (Nat.le_of_ble_eq_true rfl)
  rw [lg_entry_eq]
  generalize (lg_sl ([.int p0, .int p1]) ++ List.replicate (2 - (lg_sl ([.int p0, .int p1])).length) Slot.unset).toArray = ls at hl ⊢
  have hl : lv_has ls 2 [(0, .int p0), (1, .int p1)] := hl
  refine lv_iload_n hx hb dX11_common_0 rfl (lv_at hl 1 rfl) ?_
  refine lv_if_ne (tgt := 8) hx hb dX11_common_1 (by decide) (fun c1 => ?_) (fun c1 => ?_)
  · have h_1 : rg 1 16 p1 := r_ne_lo_i c1 hp_p1 (by decide) (by decide)
    refine lv_iload_n hx hb dX11_common_8 rfl (lv_at hl 1 rfl) ?_
    refine lv_iload_n hx hb dX11_common_9 rfl (lv_at hl 0 rfl) ?_
    refine lv_iload_n hx hb dX11_common_10 rfl (lv_at hl 1 rfl) ?_
    refine lv_irem hx hb dX11_common_11 (rne0 h_1 (by decide)) ?_
    refine nm_rem (f := 15) hp_p0 h_1 (by decide) (fun z11 hz11 tz11 => ?_)
    refine ro_calli (va_runS (As := [.int p1, .int z11]) (rest := []) ⟨hx, hb, hml, hown, hts⟩ (a_X11_common_15 l G ct p1 z11 (rg_w (c := 1) (d := 64) h_1 (by decide)) hz11) (va_cwS 2 hts gX11_common_X11_common rfl rfl rfl (by decide +kernel) ⟨Nat.le_of_ble_eq_true rfl, Nat.le_of_ble_eq_true rfl⟩) (ro_pre hK (hP.sub [] rfl)) rfl rfl hl.1 rfl (lv_room (Nat.le_of_ble_eq_true rfl)) dX11_common_12 ⟨Nat.zero_le _, Nat.zero_le _⟩) hS hP (fun r12 H locs wr12 hP hS => ?_)
    obtain ⟨p_2, -⟩ := wr12
    exact W.iret (v := r12) hx hb hr (fun t ht hW => ⟨⟨r12, (), rfl, ⟨p_2, trivial⟩, trivial⟩, hS.F ht⟩) hS.2.2 dX11_common_15
  · have h_3 : rg 0 0 p1 := r_eq_l_i (e := 0) (f := 0) c1 hp_p1 (rgn 0 (x := 0) (by decide)) (by decide)
    refine lv_iload_n hx hb dX11_common_4 rfl (lv_at hl 0 rfl) ?_
    refine lv_goto (tgt := 15) hx hb dX11_common_5 (by decide) ?_
    exact W.iret (v := p0) hx hb hr (fun t ht hW => ⟨⟨p0, (), rfl, ⟨hp_p0, trivial⟩, trivial⟩, hS.F ht⟩) hS.2.2 dX11_common_15

set_option maxHeartbeats 4000000 in
set_option maxRecDepth 100000 in
theorem a_X11_common_17 (l : Launch) (G : va_G) (ct : Nat → ClassId) (p0 : Int32) (p1 : Int32) (hp_p0 : rg 1 64 p0) (hp_p1 : rg 0 17 p1) : Met l yX11_common wsX11_common ({ frames := 17, cells := 0, slots := 0, locals := 510 }) (va_Pc [.int p0, .int p1] (roP G ct [])) (roQ (fun r => rg 1 64 r ∧ True)) 0 0 no := by
  refine Met.ofW (cc := cX11_common) (maxL := 2) (ret := (some .int)) (by decide) rfl ?_
  intro p e s m args below meth c s₁ B hml hv
  obtain ⟨rfl, hP, hK⟩ := hv
  have hx := B.exec
  have hb := B.bytes
  have hr := B.returns
  have hts := atoms_spec (ws := wsX11_common) B.pre
  have hown : s.vm.findClass RX11 = some m.cls := findClass_of_methodNamed B.named
  have hlocks := B.notSynchronized
  have hS : va_S no s.heap s.heap [] := va_S.rf
  have hl := lv_entry ([.int p0, .int p1]) (n := 2) (Nat.le_of_ble_eq_true rfl)
  rw [lg_entry_eq]
  generalize (lg_sl ([.int p0, .int p1]) ++ List.replicate (2 - (lg_sl ([.int p0, .int p1])).length) Slot.unset).toArray = ls at hl ⊢
  have hl : lv_has ls 2 [(0, .int p0), (1, .int p1)] := hl
  refine lv_iload_n hx hb dX11_common_0 rfl (lv_at hl 1 rfl) ?_
  refine lv_if_ne (tgt := 8) hx hb dX11_common_1 (by decide) (fun c1 => ?_) (fun c1 => ?_)
  · have h_1 : rg 1 17 p1 := r_ne_lo_i c1 hp_p1 (by decide) (by decide)
    refine lv_iload_n hx hb dX11_common_8 rfl (lv_at hl 1 rfl) ?_
    refine lv_iload_n hx hb dX11_common_9 rfl (lv_at hl 0 rfl) ?_
    refine lv_iload_n hx hb dX11_common_10 rfl (lv_at hl 1 rfl) ?_
    refine lv_irem hx hb dX11_common_11 (rne0 h_1 (by decide)) ?_
    refine nm_rem (f := 16) hp_p0 h_1 (by decide) (fun z11 hz11 tz11 => ?_)
    refine ro_calli (va_runS (As := [.int p1, .int z11]) (rest := []) ⟨hx, hb, hml, hown, hts⟩ (a_X11_common_16 l G ct p1 z11 (rg_w (c := 1) (d := 64) h_1 (by decide)) hz11) (va_cwS 2 hts gX11_common_X11_common rfl rfl rfl (by decide +kernel) ⟨Nat.le_of_ble_eq_true rfl, Nat.le_of_ble_eq_true rfl⟩) (ro_pre hK (hP.sub [] rfl)) rfl rfl hl.1 rfl (lv_room (Nat.le_of_ble_eq_true rfl)) dX11_common_12 ⟨Nat.zero_le _, Nat.zero_le _⟩) hS hP (fun r12 H locs wr12 hP hS => ?_)
    obtain ⟨p_2, -⟩ := wr12
    exact W.iret (v := r12) hx hb hr (fun t ht hW => ⟨⟨r12, (), rfl, ⟨p_2, trivial⟩, trivial⟩, hS.F ht⟩) hS.2.2 dX11_common_15
  · have h_3 : rg 0 0 p1 := r_eq_l_i (e := 0) (f := 0) c1 hp_p1 (rgn 0 (x := 0) (by decide)) (by decide)
    refine lv_iload_n hx hb dX11_common_4 rfl (lv_at hl 0 rfl) ?_
    refine lv_goto (tgt := 15) hx hb dX11_common_5 (by decide) ?_
    exact W.iret (v := p0) hx hb hr (fun t ht hW => ⟨⟨p0, (), rfl, ⟨hp_p0, trivial⟩, trivial⟩, hS.F ht⟩) hS.2.2 dX11_common_15

set_option maxHeartbeats 4000000 in
set_option maxRecDepth 100000 in
theorem a_X11_common_18 (l : Launch) (G : va_G) (ct : Nat → ClassId) (p0 : Int32) (p1 : Int32) (hp_p0 : rg 1 64 p0) (hp_p1 : rg 0 18 p1) : Met l yX11_common wsX11_common ({ frames := 18, cells := 0, slots := 0, locals := 540 }) (va_Pc [.int p0, .int p1] (roP G ct [])) (roQ (fun r => rg 1 64 r ∧ True)) 0 0 no := by
  refine Met.ofW (cc := cX11_common) (maxL := 2) (ret := (some .int)) (by decide) rfl ?_
  intro p e s m args below meth c s₁ B hml hv
  obtain ⟨rfl, hP, hK⟩ := hv
  have hx := B.exec
  have hb := B.bytes
  have hr := B.returns
  have hts := atoms_spec (ws := wsX11_common) B.pre
  have hown : s.vm.findClass RX11 = some m.cls := findClass_of_methodNamed B.named
  have hlocks := B.notSynchronized
  have hS : va_S no s.heap s.heap [] := va_S.rf
  have hl := lv_entry ([.int p0, .int p1]) (n := 2) (Nat.le_of_ble_eq_true rfl)
  rw [lg_entry_eq]
  generalize (lg_sl ([.int p0, .int p1]) ++ List.replicate (2 - (lg_sl ([.int p0, .int p1])).length) Slot.unset).toArray = ls at hl ⊢
  have hl : lv_has ls 2 [(0, .int p0), (1, .int p1)] := hl
  refine lv_iload_n hx hb dX11_common_0 rfl (lv_at hl 1 rfl) ?_
  refine lv_if_ne (tgt := 8) hx hb dX11_common_1 (by decide) (fun c1 => ?_) (fun c1 => ?_)
  · have h_1 : rg 1 18 p1 := r_ne_lo_i c1 hp_p1 (by decide) (by decide)
    refine lv_iload_n hx hb dX11_common_8 rfl (lv_at hl 1 rfl) ?_
    refine lv_iload_n hx hb dX11_common_9 rfl (lv_at hl 0 rfl) ?_
    refine lv_iload_n hx hb dX11_common_10 rfl (lv_at hl 1 rfl) ?_
    refine lv_irem hx hb dX11_common_11 (rne0 h_1 (by decide)) ?_
    refine nm_rem (f := 17) hp_p0 h_1 (by decide) (fun z11 hz11 tz11 => ?_)
    refine ro_calli (va_runS (As := [.int p1, .int z11]) (rest := []) ⟨hx, hb, hml, hown, hts⟩ (a_X11_common_17 l G ct p1 z11 (rg_w (c := 1) (d := 64) h_1 (by decide)) hz11) (va_cwS 2 hts gX11_common_X11_common rfl rfl rfl (by decide +kernel) ⟨Nat.le_of_ble_eq_true rfl, Nat.le_of_ble_eq_true rfl⟩) (ro_pre hK (hP.sub [] rfl)) rfl rfl hl.1 rfl (lv_room (Nat.le_of_ble_eq_true rfl)) dX11_common_12 ⟨Nat.zero_le _, Nat.zero_le _⟩) hS hP (fun r12 H locs wr12 hP hS => ?_)
    obtain ⟨p_2, -⟩ := wr12
    exact W.iret (v := r12) hx hb hr (fun t ht hW => ⟨⟨r12, (), rfl, ⟨p_2, trivial⟩, trivial⟩, hS.F ht⟩) hS.2.2 dX11_common_15
  · have h_3 : rg 0 0 p1 := r_eq_l_i (e := 0) (f := 0) c1 hp_p1 (rgn 0 (x := 0) (by decide)) (by decide)
    refine lv_iload_n hx hb dX11_common_4 rfl (lv_at hl 0 rfl) ?_
    refine lv_goto (tgt := 15) hx hb dX11_common_5 (by decide) ?_
    exact W.iret (v := p0) hx hb hr (fun t ht hW => ⟨⟨p0, (), rfl, ⟨hp_p0, trivial⟩, trivial⟩, hS.F ht⟩) hS.2.2 dX11_common_15

set_option maxHeartbeats 4000000 in
set_option maxRecDepth 100000 in
theorem a_X11_common_19 (l : Launch) (G : va_G) (ct : Nat → ClassId) (p0 : Int32) (p1 : Int32) (hp_p0 : rg 1 64 p0) (hp_p1 : rg 0 19 p1) : Met l yX11_common wsX11_common ({ frames := 19, cells := 0, slots := 0, locals := 570 }) (va_Pc [.int p0, .int p1] (roP G ct [])) (roQ (fun r => rg 1 64 r ∧ True)) 0 0 no := by
  refine Met.ofW (cc := cX11_common) (maxL := 2) (ret := (some .int)) (by decide) rfl ?_
  intro p e s m args below meth c s₁ B hml hv
  obtain ⟨rfl, hP, hK⟩ := hv
  have hx := B.exec
  have hb := B.bytes
  have hr := B.returns
  have hts := atoms_spec (ws := wsX11_common) B.pre
  have hown : s.vm.findClass RX11 = some m.cls := findClass_of_methodNamed B.named
  have hlocks := B.notSynchronized
  have hS : va_S no s.heap s.heap [] := va_S.rf
  have hl := lv_entry ([.int p0, .int p1]) (n := 2) (Nat.le_of_ble_eq_true rfl)
  rw [lg_entry_eq]
  generalize (lg_sl ([.int p0, .int p1]) ++ List.replicate (2 - (lg_sl ([.int p0, .int p1])).length) Slot.unset).toArray = ls at hl ⊢
  have hl : lv_has ls 2 [(0, .int p0), (1, .int p1)] := hl
  refine lv_iload_n hx hb dX11_common_0 rfl (lv_at hl 1 rfl) ?_
  refine lv_if_ne (tgt := 8) hx hb dX11_common_1 (by decide) (fun c1 => ?_) (fun c1 => ?_)
  · have h_1 : rg 1 19 p1 := r_ne_lo_i c1 hp_p1 (by decide) (by decide)
    refine lv_iload_n hx hb dX11_common_8 rfl (lv_at hl 1 rfl) ?_
    refine lv_iload_n hx hb dX11_common_9 rfl (lv_at hl 0 rfl) ?_
    refine lv_iload_n hx hb dX11_common_10 rfl (lv_at hl 1 rfl) ?_
    refine lv_irem hx hb dX11_common_11 (rne0 h_1 (by decide)) ?_
    refine nm_rem (f := 18) hp_p0 h_1 (by decide) (fun z11 hz11 tz11 => ?_)
    refine ro_calli (va_runS (As := [.int p1, .int z11]) (rest := []) ⟨hx, hb, hml, hown, hts⟩ (a_X11_common_18 l G ct p1 z11 (rg_w (c := 1) (d := 64) h_1 (by decide)) hz11) (va_cwS 2 hts gX11_common_X11_common rfl rfl rfl (by decide +kernel) ⟨Nat.le_of_ble_eq_true rfl, Nat.le_of_ble_eq_true rfl⟩) (ro_pre hK (hP.sub [] rfl)) rfl rfl hl.1 rfl (lv_room (Nat.le_of_ble_eq_true rfl)) dX11_common_12 ⟨Nat.zero_le _, Nat.zero_le _⟩) hS hP (fun r12 H locs wr12 hP hS => ?_)
    obtain ⟨p_2, -⟩ := wr12
    exact W.iret (v := r12) hx hb hr (fun t ht hW => ⟨⟨r12, (), rfl, ⟨p_2, trivial⟩, trivial⟩, hS.F ht⟩) hS.2.2 dX11_common_15
  · have h_3 : rg 0 0 p1 := r_eq_l_i (e := 0) (f := 0) c1 hp_p1 (rgn 0 (x := 0) (by decide)) (by decide)
    refine lv_iload_n hx hb dX11_common_4 rfl (lv_at hl 0 rfl) ?_
    refine lv_goto (tgt := 15) hx hb dX11_common_5 (by decide) ?_
    exact W.iret (v := p0) hx hb hr (fun t ht hW => ⟨⟨p0, (), rfl, ⟨hp_p0, trivial⟩, trivial⟩, hS.F ht⟩) hS.2.2 dX11_common_15

set_option maxHeartbeats 4000000 in
set_option maxRecDepth 100000 in
theorem a_X11_common_20 (l : Launch) (G : va_G) (ct : Nat → ClassId) (p0 : Int32) (p1 : Int32) (hp_p0 : rg 1 64 p0) (hp_p1 : rg 0 20 p1) : Met l yX11_common wsX11_common ({ frames := 20, cells := 0, slots := 0, locals := 600 }) (va_Pc [.int p0, .int p1] (roP G ct [])) (roQ (fun r => rg 1 64 r ∧ True)) 0 0 no := by
  refine Met.ofW (cc := cX11_common) (maxL := 2) (ret := (some .int)) (by decide) rfl ?_
  intro p e s m args below meth c s₁ B hml hv
  obtain ⟨rfl, hP, hK⟩ := hv
  have hx := B.exec
  have hb := B.bytes
  have hr := B.returns
  have hts := atoms_spec (ws := wsX11_common) B.pre
  have hown : s.vm.findClass RX11 = some m.cls := findClass_of_methodNamed B.named
  have hlocks := B.notSynchronized
  have hS : va_S no s.heap s.heap [] := va_S.rf
  have hl := lv_entry ([.int p0, .int p1]) (n := 2) (Nat.le_of_ble_eq_true rfl)
  rw [lg_entry_eq]
  generalize (lg_sl ([.int p0, .int p1]) ++ List.replicate (2 - (lg_sl ([.int p0, .int p1])).length) Slot.unset).toArray = ls at hl ⊢
  have hl : lv_has ls 2 [(0, .int p0), (1, .int p1)] := hl
  refine lv_iload_n hx hb dX11_common_0 rfl (lv_at hl 1 rfl) ?_
  refine lv_if_ne (tgt := 8) hx hb dX11_common_1 (by decide) (fun c1 => ?_) (fun c1 => ?_)
  · have h_1 : rg 1 20 p1 := r_ne_lo_i c1 hp_p1 (by decide) (by decide)
    refine lv_iload_n hx hb dX11_common_8 rfl (lv_at hl 1 rfl) ?_
    refine lv_iload_n hx hb dX11_common_9 rfl (lv_at hl 0 rfl) ?_
    refine lv_iload_n hx hb dX11_common_10 rfl (lv_at hl 1 rfl) ?_
    refine lv_irem hx hb dX11_common_11 (rne0 h_1 (by decide)) ?_
    refine nm_rem (f := 19) hp_p0 h_1 (by decide) (fun z11 hz11 tz11 => ?_)
    refine ro_calli (va_runS (As := [.int p1, .int z11]) (rest := []) ⟨hx, hb, hml, hown, hts⟩ (a_X11_common_19 l G ct p1 z11 (rg_w (c := 1) (d := 64) h_1 (by decide)) hz11) (va_cwS 2 hts gX11_common_X11_common rfl rfl rfl (by decide +kernel) ⟨Nat.le_of_ble_eq_true rfl, Nat.le_of_ble_eq_true rfl⟩) (ro_pre hK (hP.sub [] rfl)) rfl rfl hl.1 rfl (lv_room (Nat.le_of_ble_eq_true rfl)) dX11_common_12 ⟨Nat.zero_le _, Nat.zero_le _⟩) hS hP (fun r12 H locs wr12 hP hS => ?_)
    obtain ⟨p_2, -⟩ := wr12
    exact W.iret (v := r12) hx hb hr (fun t ht hW => ⟨⟨r12, (), rfl, ⟨p_2, trivial⟩, trivial⟩, hS.F ht⟩) hS.2.2 dX11_common_15
  · have h_3 : rg 0 0 p1 := r_eq_l_i (e := 0) (f := 0) c1 hp_p1 (rgn 0 (x := 0) (by decide)) (by decide)
    refine lv_iload_n hx hb dX11_common_4 rfl (lv_at hl 0 rfl) ?_
    refine lv_goto (tgt := 15) hx hb dX11_common_5 (by decide) ?_
    exact W.iret (v := p0) hx hb hr (fun t ht hW => ⟨⟨p0, (), rfl, ⟨hp_p0, trivial⟩, trivial⟩, hS.F ht⟩) hS.2.2 dX11_common_15

set_option maxHeartbeats 4000000 in
set_option maxRecDepth 100000 in
theorem a_X11_common_21 (l : Launch) (G : va_G) (ct : Nat → ClassId) (p0 : Int32) (p1 : Int32) (hp_p0 : rg 1 64 p0) (hp_p1 : rg 0 21 p1) : Met l yX11_common wsX11_common ({ frames := 21, cells := 0, slots := 0, locals := 630 }) (va_Pc [.int p0, .int p1] (roP G ct [])) (roQ (fun r => rg 1 64 r ∧ True)) 0 0 no := by
  refine Met.ofW (cc := cX11_common) (maxL := 2) (ret := (some .int)) (by decide) rfl ?_
  intro p e s m args below meth c s₁ B hml hv
  obtain ⟨rfl, hP, hK⟩ := hv
  have hx := B.exec
  have hb := B.bytes
  have hr := B.returns
  have hts := atoms_spec (ws := wsX11_common) B.pre
  have hown : s.vm.findClass RX11 = some m.cls := findClass_of_methodNamed B.named
  have hlocks := B.notSynchronized
  have hS : va_S no s.heap s.heap [] := va_S.rf
  have hl := lv_entry ([.int p0, .int p1]) (n := 2) (Nat.le_of_ble_eq_true rfl)
  rw [lg_entry_eq]
  generalize (lg_sl ([.int p0, .int p1]) ++ List.replicate (2 - (lg_sl ([.int p0, .int p1])).length) Slot.unset).toArray = ls at hl ⊢
  have hl : lv_has ls 2 [(0, .int p0), (1, .int p1)] := hl
  refine lv_iload_n hx hb dX11_common_0 rfl (lv_at hl 1 rfl) ?_
  refine lv_if_ne (tgt := 8) hx hb dX11_common_1 (by decide) (fun c1 => ?_) (fun c1 => ?_)
  · have h_1 : rg 1 21 p1 := r_ne_lo_i c1 hp_p1 (by decide) (by decide)
    refine lv_iload_n hx hb dX11_common_8 rfl (lv_at hl 1 rfl) ?_
    refine lv_iload_n hx hb dX11_common_9 rfl (lv_at hl 0 rfl) ?_
    refine lv_iload_n hx hb dX11_common_10 rfl (lv_at hl 1 rfl) ?_
    refine lv_irem hx hb dX11_common_11 (rne0 h_1 (by decide)) ?_
    refine nm_rem (f := 20) hp_p0 h_1 (by decide) (fun z11 hz11 tz11 => ?_)
    refine ro_calli (va_runS (As := [.int p1, .int z11]) (rest := []) ⟨hx, hb, hml, hown, hts⟩ (a_X11_common_20 l G ct p1 z11 (rg_w (c := 1) (d := 64) h_1 (by decide)) hz11) (va_cwS 2 hts gX11_common_X11_common rfl rfl rfl (by decide +kernel) ⟨Nat.le_of_ble_eq_true rfl, Nat.le_of_ble_eq_true rfl⟩) (ro_pre hK (hP.sub [] rfl)) rfl rfl hl.1 rfl (lv_room (Nat.le_of_ble_eq_true rfl)) dX11_common_12 ⟨Nat.zero_le _, Nat.zero_le _⟩) hS hP (fun r12 H locs wr12 hP hS => ?_)
    obtain ⟨p_2, -⟩ := wr12
    exact W.iret (v := r12) hx hb hr (fun t ht hW => ⟨⟨r12, (), rfl, ⟨p_2, trivial⟩, trivial⟩, hS.F ht⟩) hS.2.2 dX11_common_15
  · have h_3 : rg 0 0 p1 := r_eq_l_i (e := 0) (f := 0) c1 hp_p1 (rgn 0 (x := 0) (by decide)) (by decide)
    refine lv_iload_n hx hb dX11_common_4 rfl (lv_at hl 0 rfl) ?_
    refine lv_goto (tgt := 15) hx hb dX11_common_5 (by decide) ?_
    exact W.iret (v := p0) hx hb hr (fun t ht hW => ⟨⟨p0, (), rfl, ⟨hp_p0, trivial⟩, trivial⟩, hS.F ht⟩) hS.2.2 dX11_common_15

set_option maxHeartbeats 4000000 in
set_option maxRecDepth 100000 in
theorem a_X11_common_22 (l : Launch) (G : va_G) (ct : Nat → ClassId) (p0 : Int32) (p1 : Int32) (hp_p0 : rg 1 64 p0) (hp_p1 : rg 0 22 p1) : Met l yX11_common wsX11_common ({ frames := 22, cells := 0, slots := 0, locals := 660 }) (va_Pc [.int p0, .int p1] (roP G ct [])) (roQ (fun r => rg 1 64 r ∧ True)) 0 0 no := by
  refine Met.ofW (cc := cX11_common) (maxL := 2) (ret := (some .int)) (by decide) rfl ?_
  intro p e s m args below meth c s₁ B hml hv
  obtain ⟨rfl, hP, hK⟩ := hv
  have hx := B.exec
  have hb := B.bytes
  have hr := B.returns
  have hts := atoms_spec (ws := wsX11_common) B.pre
  have hown : s.vm.findClass RX11 = some m.cls := findClass_of_methodNamed B.named
  have hlocks := B.notSynchronized
  have hS : va_S no s.heap s.heap [] := va_S.rf
  have hl := lv_entry ([.int p0, .int p1]) (n := 2) (Nat.le_of_ble_eq_true rfl)
  rw [lg_entry_eq]
  generalize (lg_sl ([.int p0, .int p1]) ++ List.replicate (2 - (lg_sl ([.int p0, .int p1])).length) Slot.unset).toArray = ls at hl ⊢
  have hl : lv_has ls 2 [(0, .int p0), (1, .int p1)] := hl
  refine lv_iload_n hx hb dX11_common_0 rfl (lv_at hl 1 rfl) ?_
  refine lv_if_ne (tgt := 8) hx hb dX11_common_1 (by decide) (fun c1 => ?_) (fun c1 => ?_)
  · have h_1 : rg 1 22 p1 := r_ne_lo_i c1 hp_p1 (by decide) (by decide)
    refine lv_iload_n hx hb dX11_common_8 rfl (lv_at hl 1 rfl) ?_
    refine lv_iload_n hx hb dX11_common_9 rfl (lv_at hl 0 rfl) ?_
    refine lv_iload_n hx hb dX11_common_10 rfl (lv_at hl 1 rfl) ?_
    refine lv_irem hx hb dX11_common_11 (rne0 h_1 (by decide)) ?_
    refine nm_rem (f := 21) hp_p0 h_1 (by decide) (fun z11 hz11 tz11 => ?_)
    refine ro_calli (va_runS (As := [.int p1, .int z11]) (rest := []) ⟨hx, hb, hml, hown, hts⟩ (a_X11_common_21 l G ct p1 z11 (rg_w (c := 1) (d := 64) h_1 (by decide)) hz11) (va_cwS 2 hts gX11_common_X11_common rfl rfl rfl (by decide +kernel) ⟨Nat.le_of_ble_eq_true rfl, Nat.le_of_ble_eq_true rfl⟩) (ro_pre hK (hP.sub [] rfl)) rfl rfl hl.1 rfl (lv_room (Nat.le_of_ble_eq_true rfl)) dX11_common_12 ⟨Nat.zero_le _, Nat.zero_le _⟩) hS hP (fun r12 H locs wr12 hP hS => ?_)
    obtain ⟨p_2, -⟩ := wr12
    exact W.iret (v := r12) hx hb hr (fun t ht hW => ⟨⟨r12, (), rfl, ⟨p_2, trivial⟩, trivial⟩, hS.F ht⟩) hS.2.2 dX11_common_15
  · have h_3 : rg 0 0 p1 := r_eq_l_i (e := 0) (f := 0) c1 hp_p1 (rgn 0 (x := 0) (by decide)) (by decide)
    refine lv_iload_n hx hb dX11_common_4 rfl (lv_at hl 0 rfl) ?_
    refine lv_goto (tgt := 15) hx hb dX11_common_5 (by decide) ?_
    exact W.iret (v := p0) hx hb hr (fun t ht hW => ⟨⟨p0, (), rfl, ⟨hp_p0, trivial⟩, trivial⟩, hS.F ht⟩) hS.2.2 dX11_common_15

set_option maxHeartbeats 4000000 in
set_option maxRecDepth 100000 in
theorem a_X11_common_23 (l : Launch) (G : va_G) (ct : Nat → ClassId) (p0 : Int32) (p1 : Int32) (hp_p0 : rg 1 64 p0) (hp_p1 : rg 0 23 p1) : Met l yX11_common wsX11_common ({ frames := 23, cells := 0, slots := 0, locals := 690 }) (va_Pc [.int p0, .int p1] (roP G ct [])) (roQ (fun r => rg 1 64 r ∧ True)) 0 0 no := by
  refine Met.ofW (cc := cX11_common) (maxL := 2) (ret := (some .int)) (by decide) rfl ?_
  intro p e s m args below meth c s₁ B hml hv
  obtain ⟨rfl, hP, hK⟩ := hv
  have hx := B.exec
  have hb := B.bytes
  have hr := B.returns
  have hts := atoms_spec (ws := wsX11_common) B.pre
  have hown : s.vm.findClass RX11 = some m.cls := findClass_of_methodNamed B.named
  have hlocks := B.notSynchronized
  have hS : va_S no s.heap s.heap [] := va_S.rf
  have hl := lv_entry ([.int p0, .int p1]) (n := 2) (Nat.le_of_ble_eq_true rfl)
  rw [lg_entry_eq]
  generalize (lg_sl ([.int p0, .int p1]) ++ List.replicate (2 - (lg_sl ([.int p0, .int p1])).length) Slot.unset).toArray = ls at hl ⊢
  have hl : lv_has ls 2 [(0, .int p0), (1, .int p1)] := hl
  refine lv_iload_n hx hb dX11_common_0 rfl (lv_at hl 1 rfl) ?_
  refine lv_if_ne (tgt := 8) hx hb dX11_common_1 (by decide) (fun c1 => ?_) (fun c1 => ?_)
  · have h_1 : rg 1 23 p1 := r_ne_lo_i c1 hp_p1 (by decide) (by decide)
    refine lv_iload_n hx hb dX11_common_8 rfl (lv_at hl 1 rfl) ?_
    refine lv_iload_n hx hb dX11_common_9 rfl (lv_at hl 0 rfl) ?_
    refine lv_iload_n hx hb dX11_common_10 rfl (lv_at hl 1 rfl) ?_
    refine lv_irem hx hb dX11_common_11 (rne0 h_1 (by decide)) ?_
    refine nm_rem (f := 22) hp_p0 h_1 (by decide) (fun z11 hz11 tz11 => ?_)
    refine ro_calli (va_runS (As := [.int p1, .int z11]) (rest := []) ⟨hx, hb, hml, hown, hts⟩ (a_X11_common_22 l G ct p1 z11 (rg_w (c := 1) (d := 64) h_1 (by decide)) hz11) (va_cwS 2 hts gX11_common_X11_common rfl rfl rfl (by decide +kernel) ⟨Nat.le_of_ble_eq_true rfl, Nat.le_of_ble_eq_true rfl⟩) (ro_pre hK (hP.sub [] rfl)) rfl rfl hl.1 rfl (lv_room (Nat.le_of_ble_eq_true rfl)) dX11_common_12 ⟨Nat.zero_le _, Nat.zero_le _⟩) hS hP (fun r12 H locs wr12 hP hS => ?_)
    obtain ⟨p_2, -⟩ := wr12
    exact W.iret (v := r12) hx hb hr (fun t ht hW => ⟨⟨r12, (), rfl, ⟨p_2, trivial⟩, trivial⟩, hS.F ht⟩) hS.2.2 dX11_common_15
  · have h_3 : rg 0 0 p1 := r_eq_l_i (e := 0) (f := 0) c1 hp_p1 (rgn 0 (x := 0) (by decide)) (by decide)
    refine lv_iload_n hx hb dX11_common_4 rfl (lv_at hl 0 rfl) ?_
    refine lv_goto (tgt := 15) hx hb dX11_common_5 (by decide) ?_
    exact W.iret (v := p0) hx hb hr (fun t ht hW => ⟨⟨p0, (), rfl, ⟨hp_p0, trivial⟩, trivial⟩, hS.F ht⟩) hS.2.2 dX11_common_15

set_option maxHeartbeats 4000000 in
set_option maxRecDepth 100000 in
theorem a_X11_common_24 (l : Launch) (G : va_G) (ct : Nat → ClassId) (p0 : Int32) (p1 : Int32) (hp_p0 : rg 1 64 p0) (hp_p1 : rg 0 24 p1) : Met l yX11_common wsX11_common ({ frames := 24, cells := 0, slots := 0, locals := 720 }) (va_Pc [.int p0, .int p1] (roP G ct [])) (roQ (fun r => rg 1 64 r ∧ True)) 0 0 no := by
  refine Met.ofW (cc := cX11_common) (maxL := 2) (ret := (some .int)) (by decide) rfl ?_
  intro p e s m args below meth c s₁ B hml hv
  obtain ⟨rfl, hP, hK⟩ := hv
  have hx := B.exec
  have hb := B.bytes
  have hr := B.returns
  have hts := atoms_spec (ws := wsX11_common) B.pre
  have hown : s.vm.findClass RX11 = some m.cls := findClass_of_methodNamed B.named
  have hlocks := B.notSynchronized
  have hS : va_S no s.heap s.heap [] := va_S.rf
  have hl := lv_entry ([.int p0, .int p1]) (n := 2) (Nat.le_of_ble_eq_true rfl)
  rw [lg_entry_eq]
  generalize (lg_sl ([.int p0, .int p1]) ++ List.replicate (2 - (lg_sl ([.int p0, .int p1])).length) Slot.unset).toArray = ls at hl ⊢
  have hl : lv_has ls 2 [(0, .int p0), (1, .int p1)] := hl
  refine lv_iload_n hx hb dX11_common_0 rfl (lv_at hl 1 rfl) ?_
  refine lv_if_ne (tgt := 8) hx hb dX11_common_1 (by decide) (fun c1 => ?_) (fun c1 => ?_)
  · have h_1 : rg 1 24 p1 := r_ne_lo_i c1 hp_p1 (by decide) (by decide)
    refine lv_iload_n hx hb dX11_common_8 rfl (lv_at hl 1 rfl) ?_
    refine lv_iload_n hx hb dX11_common_9 rfl (lv_at hl 0 rfl) ?_
    refine lv_iload_n hx hb dX11_common_10 rfl (lv_at hl 1 rfl) ?_
    refine lv_irem hx hb dX11_common_11 (rne0 h_1 (by decide)) ?_
    refine nm_rem (f := 23) hp_p0 h_1 (by decide) (fun z11 hz11 tz11 => ?_)
    refine ro_calli (va_runS (As := [.int p1, .int z11]) (rest := []) ⟨hx, hb, hml, hown, hts⟩ (a_X11_common_23 l G ct p1 z11 (rg_w (c := 1) (d := 64) h_1 (by decide)) hz11) (va_cwS 2 hts gX11_common_X11_common rfl rfl rfl (by decide +kernel) ⟨Nat.le_of_ble_eq_true rfl, Nat.le_of_ble_eq_true rfl⟩) (ro_pre hK (hP.sub [] rfl)) rfl rfl hl.1 rfl (lv_room (Nat.le_of_ble_eq_true rfl)) dX11_common_12 ⟨Nat.zero_le _, Nat.zero_le _⟩) hS hP (fun r12 H locs wr12 hP hS => ?_)
    obtain ⟨p_2, -⟩ := wr12
    exact W.iret (v := r12) hx hb hr (fun t ht hW => ⟨⟨r12, (), rfl, ⟨p_2, trivial⟩, trivial⟩, hS.F ht⟩) hS.2.2 dX11_common_15
  · have h_3 : rg 0 0 p1 := r_eq_l_i (e := 0) (f := 0) c1 hp_p1 (rgn 0 (x := 0) (by decide)) (by decide)
    refine lv_iload_n hx hb dX11_common_4 rfl (lv_at hl 0 rfl) ?_
    refine lv_goto (tgt := 15) hx hb dX11_common_5 (by decide) ?_
    exact W.iret (v := p0) hx hb hr (fun t ht hW => ⟨⟨p0, (), rfl, ⟨hp_p0, trivial⟩, trivial⟩, hS.F ht⟩) hS.2.2 dX11_common_15

set_option maxHeartbeats 4000000 in
set_option maxRecDepth 100000 in
theorem a_X11_common_25 (l : Launch) (G : va_G) (ct : Nat → ClassId) (p0 : Int32) (p1 : Int32) (hp_p0 : rg 1 64 p0) (hp_p1 : rg 0 25 p1) : Met l yX11_common wsX11_common ({ frames := 25, cells := 0, slots := 0, locals := 750 }) (va_Pc [.int p0, .int p1] (roP G ct [])) (roQ (fun r => rg 1 64 r ∧ True)) 0 0 no := by
  refine Met.ofW (cc := cX11_common) (maxL := 2) (ret := (some .int)) (by decide) rfl ?_
  intro p e s m args below meth c s₁ B hml hv
  obtain ⟨rfl, hP, hK⟩ := hv
  have hx := B.exec
  have hb := B.bytes
  have hr := B.returns
  have hts := atoms_spec (ws := wsX11_common) B.pre
  have hown : s.vm.findClass RX11 = some m.cls := findClass_of_methodNamed B.named
  have hlocks := B.notSynchronized
  have hS : va_S no s.heap s.heap [] := va_S.rf
  have hl := lv_entry ([.int p0, .int p1]) (n := 2) (Nat.le_of_ble_eq_true rfl)
  rw [lg_entry_eq]
  generalize (lg_sl ([.int p0, .int p1]) ++ List.replicate (2 - (lg_sl ([.int p0, .int p1])).length) Slot.unset).toArray = ls at hl ⊢
  have hl : lv_has ls 2 [(0, .int p0), (1, .int p1)] := hl
  refine lv_iload_n hx hb dX11_common_0 rfl (lv_at hl 1 rfl) ?_
  refine lv_if_ne (tgt := 8) hx hb dX11_common_1 (by decide) (fun c1 => ?_) (fun c1 => ?_)
  · have h_1 : rg 1 25 p1 := r_ne_lo_i c1 hp_p1 (by decide) (by decide)
    refine lv_iload_n hx hb dX11_common_8 rfl (lv_at hl 1 rfl) ?_
    refine lv_iload_n hx hb dX11_common_9 rfl (lv_at hl 0 rfl) ?_
    refine lv_iload_n hx hb dX11_common_10 rfl (lv_at hl 1 rfl) ?_
    refine lv_irem hx hb dX11_common_11 (rne0 h_1 (by decide)) ?_
    refine nm_rem (f := 24) hp_p0 h_1 (by decide) (fun z11 hz11 tz11 => ?_)
    refine ro_calli (va_runS (As := [.int p1, .int z11]) (rest := []) ⟨hx, hb, hml, hown, hts⟩ (a_X11_common_24 l G ct p1 z11 (rg_w (c := 1) (d := 64) h_1 (by decide)) hz11) (va_cwS 2 hts gX11_common_X11_common rfl rfl rfl (by decide +kernel) ⟨Nat.le_of_ble_eq_true rfl, Nat.le_of_ble_eq_true rfl⟩) (ro_pre hK (hP.sub [] rfl)) rfl rfl hl.1 rfl (lv_room (Nat.le_of_ble_eq_true rfl)) dX11_common_12 ⟨Nat.zero_le _, Nat.zero_le _⟩) hS hP (fun r12 H locs wr12 hP hS => ?_)
    obtain ⟨p_2, -⟩ := wr12
    exact W.iret (v := r12) hx hb hr (fun t ht hW => ⟨⟨r12, (), rfl, ⟨p_2, trivial⟩, trivial⟩, hS.F ht⟩) hS.2.2 dX11_common_15
  · have h_3 : rg 0 0 p1 := r_eq_l_i (e := 0) (f := 0) c1 hp_p1 (rgn 0 (x := 0) (by decide)) (by decide)
    refine lv_iload_n hx hb dX11_common_4 rfl (lv_at hl 0 rfl) ?_
    refine lv_goto (tgt := 15) hx hb dX11_common_5 (by decide) ?_
    exact W.iret (v := p0) hx hb hr (fun t ht hW => ⟨⟨p0, (), rfl, ⟨hp_p0, trivial⟩, trivial⟩, hS.F ht⟩) hS.2.2 dX11_common_15

set_option maxHeartbeats 4000000 in
set_option maxRecDepth 100000 in
theorem a_X11_common_26 (l : Launch) (G : va_G) (ct : Nat → ClassId) (p0 : Int32) (p1 : Int32) (hp_p0 : rg 1 64 p0) (hp_p1 : rg 0 26 p1) : Met l yX11_common wsX11_common ({ frames := 26, cells := 0, slots := 0, locals := 780 }) (va_Pc [.int p0, .int p1] (roP G ct [])) (roQ (fun r => rg 1 64 r ∧ True)) 0 0 no := by
  refine Met.ofW (cc := cX11_common) (maxL := 2) (ret := (some .int)) (by decide) rfl ?_
  intro p e s m args below meth c s₁ B hml hv
  obtain ⟨rfl, hP, hK⟩ := hv
  have hx := B.exec
  have hb := B.bytes
  have hr := B.returns
  have hts := atoms_spec (ws := wsX11_common) B.pre
  have hown : s.vm.findClass RX11 = some m.cls := findClass_of_methodNamed B.named
  have hlocks := B.notSynchronized
  have hS : va_S no s.heap s.heap [] := va_S.rf
  have hl := lv_entry ([.int p0, .int p1]) (n := 2) (Nat.le_of_ble_eq_true rfl)
  rw [lg_entry_eq]
  generalize (lg_sl ([.int p0, .int p1]) ++ List.replicate (2 - (lg_sl ([.int p0, .int p1])).length) Slot.unset).toArray = ls at hl ⊢
  have hl : lv_has ls 2 [(0, .int p0), (1, .int p1)] := hl
  refine lv_iload_n hx hb dX11_common_0 rfl (lv_at hl 1 rfl) ?_
  refine lv_if_ne (tgt := 8) hx hb dX11_common_1 (by decide) (fun c1 => ?_) (fun c1 => ?_)
  · have h_1 : rg 1 26 p1 := r_ne_lo_i c1 hp_p1 (by decide) (by decide)
    refine lv_iload_n hx hb dX11_common_8 rfl (lv_at hl 1 rfl) ?_
    refine lv_iload_n hx hb dX11_common_9 rfl (lv_at hl 0 rfl) ?_
    refine lv_iload_n hx hb dX11_common_10 rfl (lv_at hl 1 rfl) ?_
    refine lv_irem hx hb dX11_common_11 (rne0 h_1 (by decide)) ?_
    refine nm_rem (f := 25) hp_p0 h_1 (by decide) (fun z11 hz11 tz11 => ?_)
    refine ro_calli (va_runS (As := [.int p1, .int z11]) (rest := []) ⟨hx, hb, hml, hown, hts⟩ (a_X11_common_25 l G ct p1 z11 (rg_w (c := 1) (d := 64) h_1 (by decide)) hz11) (va_cwS 2 hts gX11_common_X11_common rfl rfl rfl (by decide +kernel) ⟨Nat.le_of_ble_eq_true rfl, Nat.le_of_ble_eq_true rfl⟩) (ro_pre hK (hP.sub [] rfl)) rfl rfl hl.1 rfl (lv_room (Nat.le_of_ble_eq_true rfl)) dX11_common_12 ⟨Nat.zero_le _, Nat.zero_le _⟩) hS hP (fun r12 H locs wr12 hP hS => ?_)
    obtain ⟨p_2, -⟩ := wr12
    exact W.iret (v := r12) hx hb hr (fun t ht hW => ⟨⟨r12, (), rfl, ⟨p_2, trivial⟩, trivial⟩, hS.F ht⟩) hS.2.2 dX11_common_15
  · have h_3 : rg 0 0 p1 := r_eq_l_i (e := 0) (f := 0) c1 hp_p1 (rgn 0 (x := 0) (by decide)) (by decide)
    refine lv_iload_n hx hb dX11_common_4 rfl (lv_at hl 0 rfl) ?_
    refine lv_goto (tgt := 15) hx hb dX11_common_5 (by decide) ?_
    exact W.iret (v := p0) hx hb hr (fun t ht hW => ⟨⟨p0, (), rfl, ⟨hp_p0, trivial⟩, trivial⟩, hS.F ht⟩) hS.2.2 dX11_common_15

set_option maxHeartbeats 4000000 in
set_option maxRecDepth 100000 in
theorem a_X11_common_27 (l : Launch) (G : va_G) (ct : Nat → ClassId) (p0 : Int32) (p1 : Int32) (hp_p0 : rg 1 64 p0) (hp_p1 : rg 0 27 p1) : Met l yX11_common wsX11_common ({ frames := 27, cells := 0, slots := 0, locals := 810 }) (va_Pc [.int p0, .int p1] (roP G ct [])) (roQ (fun r => rg 1 64 r ∧ True)) 0 0 no := by
  refine Met.ofW (cc := cX11_common) (maxL := 2) (ret := (some .int)) (by decide) rfl ?_
  intro p e s m args below meth c s₁ B hml hv
  obtain ⟨rfl, hP, hK⟩ := hv
  have hx := B.exec
  have hb := B.bytes
  have hr := B.returns
  have hts := atoms_spec (ws := wsX11_common) B.pre
  have hown : s.vm.findClass RX11 = some m.cls := findClass_of_methodNamed B.named
  have hlocks := B.notSynchronized
  have hS : va_S no s.heap s.heap [] := va_S.rf
  have hl := lv_entry ([.int p0, .int p1]) (n := 2) (Nat.le_of_ble_eq_true rfl)
  rw [lg_entry_eq]
  generalize (lg_sl ([.int p0, .int p1]) ++ List.replicate (2 - (lg_sl ([.int p0, .int p1])).length) Slot.unset).toArray = ls at hl ⊢
  have hl : lv_has ls 2 [(0, .int p0), (1, .int p1)] := hl
  refine lv_iload_n hx hb dX11_common_0 rfl (lv_at hl 1 rfl) ?_
  refine lv_if_ne (tgt := 8) hx hb dX11_common_1 (by decide) (fun c1 => ?_) (fun c1 => ?_)
  · have h_1 : rg 1 27 p1 := r_ne_lo_i c1 hp_p1 (by decide) (by decide)
    refine lv_iload_n hx hb dX11_common_8 rfl (lv_at hl 1 rfl) ?_
    refine lv_iload_n hx hb dX11_common_9 rfl (lv_at hl 0 rfl) ?_
    refine lv_iload_n hx hb dX11_common_10 rfl (lv_at hl 1 rfl) ?_
    refine lv_irem hx hb dX11_common_11 (rne0 h_1 (by decide)) ?_
    refine nm_rem (f := 26) hp_p0 h_1 (by decide) (fun z11 hz11 tz11 => ?_)
    refine ro_calli (va_runS (As := [.int p1, .int z11]) (rest := []) ⟨hx, hb, hml, hown, hts⟩ (a_X11_common_26 l G ct p1 z11 (rg_w (c := 1) (d := 64) h_1 (by decide)) hz11) (va_cwS 2 hts gX11_common_X11_common rfl rfl rfl (by decide +kernel) ⟨Nat.le_of_ble_eq_true rfl, Nat.le_of_ble_eq_true rfl⟩) (ro_pre hK (hP.sub [] rfl)) rfl rfl hl.1 rfl (lv_room (Nat.le_of_ble_eq_true rfl)) dX11_common_12 ⟨Nat.zero_le _, Nat.zero_le _⟩) hS hP (fun r12 H locs wr12 hP hS => ?_)
    obtain ⟨p_2, -⟩ := wr12
    exact W.iret (v := r12) hx hb hr (fun t ht hW => ⟨⟨r12, (), rfl, ⟨p_2, trivial⟩, trivial⟩, hS.F ht⟩) hS.2.2 dX11_common_15
  · have h_3 : rg 0 0 p1 := r_eq_l_i (e := 0) (f := 0) c1 hp_p1 (rgn 0 (x := 0) (by decide)) (by decide)
    refine lv_iload_n hx hb dX11_common_4 rfl (lv_at hl 0 rfl) ?_
    refine lv_goto (tgt := 15) hx hb dX11_common_5 (by decide) ?_
    exact W.iret (v := p0) hx hb hr (fun t ht hW => ⟨⟨p0, (), rfl, ⟨hp_p0, trivial⟩, trivial⟩, hS.F ht⟩) hS.2.2 dX11_common_15

set_option maxHeartbeats 4000000 in
set_option maxRecDepth 100000 in
theorem a_X11_common_28 (l : Launch) (G : va_G) (ct : Nat → ClassId) (p0 : Int32) (p1 : Int32) (hp_p0 : rg 1 64 p0) (hp_p1 : rg 0 28 p1) : Met l yX11_common wsX11_common ({ frames := 28, cells := 0, slots := 0, locals := 840 }) (va_Pc [.int p0, .int p1] (roP G ct [])) (roQ (fun r => rg 1 64 r ∧ True)) 0 0 no := by
  refine Met.ofW (cc := cX11_common) (maxL := 2) (ret := (some .int)) (by decide) rfl ?_
  intro p e s m args below meth c s₁ B hml hv
  obtain ⟨rfl, hP, hK⟩ := hv
  have hx := B.exec
  have hb := B.bytes
  have hr := B.returns
  have hts := atoms_spec (ws := wsX11_common) B.pre
  have hown : s.vm.findClass RX11 = some m.cls := findClass_of_methodNamed B.named
  have hlocks := B.notSynchronized
  have hS : va_S no s.heap s.heap [] := va_S.rf
  have hl := lv_entry ([.int p0, .int p1]) (n := 2) (Nat.le_of_ble_eq_true rfl)
  rw [lg_entry_eq]
  generalize (lg_sl ([.int p0, .int p1]) ++ List.replicate (2 - (lg_sl ([.int p0, .int p1])).length) Slot.unset).toArray = ls at hl ⊢
  have hl : lv_has ls 2 [(0, .int p0), (1, .int p1)] := hl
  refine lv_iload_n hx hb dX11_common_0 rfl (lv_at hl 1 rfl) ?_
  refine lv_if_ne (tgt := 8) hx hb dX11_common_1 (by decide) (fun c1 => ?_) (fun c1 => ?_)
  · have h_1 : rg 1 28 p1 := r_ne_lo_i c1 hp_p1 (by decide) (by decide)
    refine lv_iload_n hx hb dX11_common_8 rfl (lv_at hl 1 rfl) ?_
    refine lv_iload_n hx hb dX11_common_9 rfl (lv_at hl 0 rfl) ?_
    refine lv_iload_n hx hb dX11_common_10 rfl (lv_at hl 1 rfl) ?_
    refine lv_irem hx hb dX11_common_11 (rne0 h_1 (by decide)) ?_
    refine nm_rem (f := 27) hp_p0 h_1 (by decide) (fun z11 hz11 tz11 => ?_)
    refine ro_calli (va_runS (As := [.int p1, .int z11]) (rest := []) ⟨hx, hb, hml, hown, hts⟩ (a_X11_common_27 l G ct p1 z11 (rg_w (c := 1) (d := 64) h_1 (by decide)) hz11) (va_cwS 2 hts gX11_common_X11_common rfl rfl rfl (by decide +kernel) ⟨Nat.le_of_ble_eq_true rfl, Nat.le_of_ble_eq_true rfl⟩) (ro_pre hK (hP.sub [] rfl)) rfl rfl hl.1 rfl (lv_room (Nat.le_of_ble_eq_true rfl)) dX11_common_12 ⟨Nat.zero_le _, Nat.zero_le _⟩) hS hP (fun r12 H locs wr12 hP hS => ?_)
    obtain ⟨p_2, -⟩ := wr12
    exact W.iret (v := r12) hx hb hr (fun t ht hW => ⟨⟨r12, (), rfl, ⟨p_2, trivial⟩, trivial⟩, hS.F ht⟩) hS.2.2 dX11_common_15
  · have h_3 : rg 0 0 p1 := r_eq_l_i (e := 0) (f := 0) c1 hp_p1 (rgn 0 (x := 0) (by decide)) (by decide)
    refine lv_iload_n hx hb dX11_common_4 rfl (lv_at hl 0 rfl) ?_
    refine lv_goto (tgt := 15) hx hb dX11_common_5 (by decide) ?_
    exact W.iret (v := p0) hx hb hr (fun t ht hW => ⟨⟨p0, (), rfl, ⟨hp_p0, trivial⟩, trivial⟩, hS.F ht⟩) hS.2.2 dX11_common_15

set_option maxHeartbeats 4000000 in
set_option maxRecDepth 100000 in
theorem a_X11_common_29 (l : Launch) (G : va_G) (ct : Nat → ClassId) (p0 : Int32) (p1 : Int32) (hp_p0 : rg 1 64 p0) (hp_p1 : rg 0 29 p1) : Met l yX11_common wsX11_common ({ frames := 29, cells := 0, slots := 0, locals := 870 }) (va_Pc [.int p0, .int p1] (roP G ct [])) (roQ (fun r => rg 1 64 r ∧ True)) 0 0 no := by
  refine Met.ofW (cc := cX11_common) (maxL := 2) (ret := (some .int)) (by decide) rfl ?_
  intro p e s m args below meth c s₁ B hml hv
  obtain ⟨rfl, hP, hK⟩ := hv
  have hx := B.exec
  have hb := B.bytes
  have hr := B.returns
  have hts := atoms_spec (ws := wsX11_common) B.pre
  have hown : s.vm.findClass RX11 = some m.cls := findClass_of_methodNamed B.named
  have hlocks := B.notSynchronized
  have hS : va_S no s.heap s.heap [] := va_S.rf
  have hl := lv_entry ([.int p0, .int p1]) (n := 2) (Nat.le_of_ble_eq_true rfl)
  rw [lg_entry_eq]
  generalize (lg_sl ([.int p0, .int p1]) ++ List.replicate (2 - (lg_sl ([.int p0, .int p1])).length) Slot.unset).toArray = ls at hl ⊢
  have hl : lv_has ls 2 [(0, .int p0), (1, .int p1)] := hl
  refine lv_iload_n hx hb dX11_common_0 rfl (lv_at hl 1 rfl) ?_
  refine lv_if_ne (tgt := 8) hx hb dX11_common_1 (by decide) (fun c1 => ?_) (fun c1 => ?_)
  · have h_1 : rg 1 29 p1 := r_ne_lo_i c1 hp_p1 (by decide) (by decide)
    refine lv_iload_n hx hb dX11_common_8 rfl (lv_at hl 1 rfl) ?_
    refine lv_iload_n hx hb dX11_common_9 rfl (lv_at hl 0 rfl) ?_
    refine lv_iload_n hx hb dX11_common_10 rfl (lv_at hl 1 rfl) ?_
    refine lv_irem hx hb dX11_common_11 (rne0 h_1 (by decide)) ?_
    refine nm_rem (f := 28) hp_p0 h_1 (by decide) (fun z11 hz11 tz11 => ?_)
    refine ro_calli (va_runS (As := [.int p1, .int z11]) (rest := []) ⟨hx, hb, hml, hown, hts⟩ (a_X11_common_28 l G ct p1 z11 (rg_w (c := 1) (d := 64) h_1 (by decide)) hz11) (va_cwS 2 hts gX11_common_X11_common rfl rfl rfl (by decide +kernel) ⟨Nat.le_of_ble_eq_true rfl, Nat.le_of_ble_eq_true rfl⟩) (ro_pre hK (hP.sub [] rfl)) rfl rfl hl.1 rfl (lv_room (Nat.le_of_ble_eq_true rfl)) dX11_common_12 ⟨Nat.zero_le _, Nat.zero_le _⟩) hS hP (fun r12 H locs wr12 hP hS => ?_)
    obtain ⟨p_2, -⟩ := wr12
    exact W.iret (v := r12) hx hb hr (fun t ht hW => ⟨⟨r12, (), rfl, ⟨p_2, trivial⟩, trivial⟩, hS.F ht⟩) hS.2.2 dX11_common_15
  · have h_3 : rg 0 0 p1 := r_eq_l_i (e := 0) (f := 0) c1 hp_p1 (rgn 0 (x := 0) (by decide)) (by decide)
    refine lv_iload_n hx hb dX11_common_4 rfl (lv_at hl 0 rfl) ?_
    refine lv_goto (tgt := 15) hx hb dX11_common_5 (by decide) ?_
    exact W.iret (v := p0) hx hb hr (fun t ht hW => ⟨⟨p0, (), rfl, ⟨hp_p0, trivial⟩, trivial⟩, hS.F ht⟩) hS.2.2 dX11_common_15

set_option maxHeartbeats 4000000 in
set_option maxRecDepth 100000 in
theorem a_X11_common_30 (l : Launch) (G : va_G) (ct : Nat → ClassId) (p0 : Int32) (p1 : Int32) (hp_p0 : rg 1 64 p0) (hp_p1 : rg 0 30 p1) : Met l yX11_common wsX11_common ({ frames := 30, cells := 0, slots := 0, locals := 900 }) (va_Pc [.int p0, .int p1] (roP G ct [])) (roQ (fun r => rg 1 64 r ∧ True)) 0 0 no := by
  refine Met.ofW (cc := cX11_common) (maxL := 2) (ret := (some .int)) (by decide) rfl ?_
  intro p e s m args below meth c s₁ B hml hv
  obtain ⟨rfl, hP, hK⟩ := hv
  have hx := B.exec
  have hb := B.bytes
  have hr := B.returns
  have hts := atoms_spec (ws := wsX11_common) B.pre
  have hown : s.vm.findClass RX11 = some m.cls := findClass_of_methodNamed B.named
  have hlocks := B.notSynchronized
  have hS : va_S no s.heap s.heap [] := va_S.rf
  have hl := lv_entry ([.int p0, .int p1]) (n := 2) (Nat.le_of_ble_eq_true rfl)
  rw [lg_entry_eq]
  generalize (lg_sl ([.int p0, .int p1]) ++ List.replicate (2 - (lg_sl ([.int p0, .int p1])).length) Slot.unset).toArray = ls at hl ⊢
  have hl : lv_has ls 2 [(0, .int p0), (1, .int p1)] := hl
  refine lv_iload_n hx hb dX11_common_0 rfl (lv_at hl 1 rfl) ?_
  refine lv_if_ne (tgt := 8) hx hb dX11_common_1 (by decide) (fun c1 => ?_) (fun c1 => ?_)
  · have h_1 : rg 1 30 p1 := r_ne_lo_i c1 hp_p1 (by decide) (by decide)
    refine lv_iload_n hx hb dX11_common_8 rfl (lv_at hl 1 rfl) ?_
    refine lv_iload_n hx hb dX11_common_9 rfl (lv_at hl 0 rfl) ?_
    refine lv_iload_n hx hb dX11_common_10 rfl (lv_at hl 1 rfl) ?_
    refine lv_irem hx hb dX11_common_11 (rne0 h_1 (by decide)) ?_
    refine nm_rem (f := 29) hp_p0 h_1 (by decide) (fun z11 hz11 tz11 => ?_)
    refine ro_calli (va_runS (As := [.int p1, .int z11]) (rest := []) ⟨hx, hb, hml, hown, hts⟩ (a_X11_common_29 l G ct p1 z11 (rg_w (c := 1) (d := 64) h_1 (by decide)) hz11) (va_cwS 2 hts gX11_common_X11_common rfl rfl rfl (by decide +kernel) ⟨Nat.le_of_ble_eq_true rfl, Nat.le_of_ble_eq_true rfl⟩) (ro_pre hK (hP.sub [] rfl)) rfl rfl hl.1 rfl (lv_room (Nat.le_of_ble_eq_true rfl)) dX11_common_12 ⟨Nat.zero_le _, Nat.zero_le _⟩) hS hP (fun r12 H locs wr12 hP hS => ?_)
    obtain ⟨p_2, -⟩ := wr12
    exact W.iret (v := r12) hx hb hr (fun t ht hW => ⟨⟨r12, (), rfl, ⟨p_2, trivial⟩, trivial⟩, hS.F ht⟩) hS.2.2 dX11_common_15
  · have h_3 : rg 0 0 p1 := r_eq_l_i (e := 0) (f := 0) c1 hp_p1 (rgn 0 (x := 0) (by decide)) (by decide)
    refine lv_iload_n hx hb dX11_common_4 rfl (lv_at hl 0 rfl) ?_
    refine lv_goto (tgt := 15) hx hb dX11_common_5 (by decide) ?_
    exact W.iret (v := p0) hx hb hr (fun t ht hW => ⟨⟨p0, (), rfl, ⟨hp_p0, trivial⟩, trivial⟩, hS.F ht⟩) hS.2.2 dX11_common_15

set_option maxHeartbeats 4000000 in
set_option maxRecDepth 100000 in
theorem a_X11_common_31 (l : Launch) (G : va_G) (ct : Nat → ClassId) (p0 : Int32) (p1 : Int32) (hp_p0 : rg 1 64 p0) (hp_p1 : rg 0 31 p1) : Met l yX11_common wsX11_common ({ frames := 31, cells := 0, slots := 0, locals := 930 }) (va_Pc [.int p0, .int p1] (roP G ct [])) (roQ (fun r => rg 1 64 r ∧ True)) 0 0 no := by
  refine Met.ofW (cc := cX11_common) (maxL := 2) (ret := (some .int)) (by decide) rfl ?_
  intro p e s m args below meth c s₁ B hml hv
  obtain ⟨rfl, hP, hK⟩ := hv
  have hx := B.exec
  have hb := B.bytes
  have hr := B.returns
  have hts := atoms_spec (ws := wsX11_common) B.pre
  have hown : s.vm.findClass RX11 = some m.cls := findClass_of_methodNamed B.named
  have hlocks := B.notSynchronized
  have hS : va_S no s.heap s.heap [] := va_S.rf
  have hl := lv_entry ([.int p0, .int p1]) (n := 2) (Nat.le_of_ble_eq_true rfl)
  rw [lg_entry_eq]
  generalize (lg_sl ([.int p0, .int p1]) ++ List.replicate (2 - (lg_sl ([.int p0, .int p1])).length) Slot.unset).toArray = ls at hl ⊢
  have hl : lv_has ls 2 [(0, .int p0), (1, .int p1)] := hl
  refine lv_iload_n hx hb dX11_common_0 rfl (lv_at hl 1 rfl) ?_
  refine lv_if_ne (tgt := 8) hx hb dX11_common_1 (by decide) (fun c1 => ?_) (fun c1 => ?_)
  · have h_1 : rg 1 31 p1 := r_ne_lo_i c1 hp_p1 (by decide) (by decide)
    refine lv_iload_n hx hb dX11_common_8 rfl (lv_at hl 1 rfl) ?_
    refine lv_iload_n hx hb dX11_common_9 rfl (lv_at hl 0 rfl) ?_
    refine lv_iload_n hx hb dX11_common_10 rfl (lv_at hl 1 rfl) ?_
    refine lv_irem hx hb dX11_common_11 (rne0 h_1 (by decide)) ?_
    refine nm_rem (f := 30) hp_p0 h_1 (by decide) (fun z11 hz11 tz11 => ?_)
    refine ro_calli (va_runS (As := [.int p1, .int z11]) (rest := []) ⟨hx, hb, hml, hown, hts⟩ (a_X11_common_30 l G ct p1 z11 (rg_w (c := 1) (d := 64) h_1 (by decide)) hz11) (va_cwS 2 hts gX11_common_X11_common rfl rfl rfl (by decide +kernel) ⟨Nat.le_of_ble_eq_true rfl, Nat.le_of_ble_eq_true rfl⟩) (ro_pre hK (hP.sub [] rfl)) rfl rfl hl.1 rfl (lv_room (Nat.le_of_ble_eq_true rfl)) dX11_common_12 ⟨Nat.zero_le _, Nat.zero_le _⟩) hS hP (fun r12 H locs wr12 hP hS => ?_)
    obtain ⟨p_2, -⟩ := wr12
    exact W.iret (v := r12) hx hb hr (fun t ht hW => ⟨⟨r12, (), rfl, ⟨p_2, trivial⟩, trivial⟩, hS.F ht⟩) hS.2.2 dX11_common_15
  · have h_3 : rg 0 0 p1 := r_eq_l_i (e := 0) (f := 0) c1 hp_p1 (rgn 0 (x := 0) (by decide)) (by decide)
    refine lv_iload_n hx hb dX11_common_4 rfl (lv_at hl 0 rfl) ?_
    refine lv_goto (tgt := 15) hx hb dX11_common_5 (by decide) ?_
    exact W.iret (v := p0) hx hb hr (fun t ht hW => ⟨⟨p0, (), rfl, ⟨hp_p0, trivial⟩, trivial⟩, hS.F ht⟩) hS.2.2 dX11_common_15

set_option maxHeartbeats 4000000 in
set_option maxRecDepth 100000 in
theorem a_X11_common_32 (l : Launch) (G : va_G) (ct : Nat → ClassId) (p0 : Int32) (p1 : Int32) (hp_p0 : rg 1 64 p0) (hp_p1 : rg 0 32 p1) : Met l yX11_common wsX11_common ({ frames := 32, cells := 0, slots := 0, locals := 960 }) (va_Pc [.int p0, .int p1] (roP G ct [])) (roQ (fun r => rg 1 64 r ∧ True)) 0 0 no := by
  refine Met.ofW (cc := cX11_common) (maxL := 2) (ret := (some .int)) (by decide) rfl ?_
  intro p e s m args below meth c s₁ B hml hv
  obtain ⟨rfl, hP, hK⟩ := hv
  have hx := B.exec
  have hb := B.bytes
  have hr := B.returns
  have hts := atoms_spec (ws := wsX11_common) B.pre
  have hown : s.vm.findClass RX11 = some m.cls := findClass_of_methodNamed B.named
  have hlocks := B.notSynchronized
  have hS : va_S no s.heap s.heap [] := va_S.rf
  have hl := lv_entry ([.int p0, .int p1]) (n := 2) (Nat.le_of_ble_eq_true rfl)
  rw [lg_entry_eq]
  generalize (lg_sl ([.int p0, .int p1]) ++ List.replicate (2 - (lg_sl ([.int p0, .int p1])).length) Slot.unset).toArray = ls at hl ⊢
  have hl : lv_has ls 2 [(0, .int p0), (1, .int p1)] := hl
  refine lv_iload_n hx hb dX11_common_0 rfl (lv_at hl 1 rfl) ?_
  refine lv_if_ne (tgt := 8) hx hb dX11_common_1 (by decide) (fun c1 => ?_) (fun c1 => ?_)
  · have h_1 : rg 1 32 p1 := r_ne_lo_i c1 hp_p1 (by decide) (by decide)
    refine lv_iload_n hx hb dX11_common_8 rfl (lv_at hl 1 rfl) ?_
    refine lv_iload_n hx hb dX11_common_9 rfl (lv_at hl 0 rfl) ?_
    refine lv_iload_n hx hb dX11_common_10 rfl (lv_at hl 1 rfl) ?_
    refine lv_irem hx hb dX11_common_11 (rne0 h_1 (by decide)) ?_
    refine nm_rem (f := 31) hp_p0 h_1 (by decide) (fun z11 hz11 tz11 => ?_)
    refine ro_calli (va_runS (As := [.int p1, .int z11]) (rest := []) ⟨hx, hb, hml, hown, hts⟩ (a_X11_common_31 l G ct p1 z11 (rg_w (c := 1) (d := 64) h_1 (by decide)) hz11) (va_cwS 2 hts gX11_common_X11_common rfl rfl rfl (by decide +kernel) ⟨Nat.le_of_ble_eq_true rfl, Nat.le_of_ble_eq_true rfl⟩) (ro_pre hK (hP.sub [] rfl)) rfl rfl hl.1 rfl (lv_room (Nat.le_of_ble_eq_true rfl)) dX11_common_12 ⟨Nat.zero_le _, Nat.zero_le _⟩) hS hP (fun r12 H locs wr12 hP hS => ?_)
    obtain ⟨p_2, -⟩ := wr12
    exact W.iret (v := r12) hx hb hr (fun t ht hW => ⟨⟨r12, (), rfl, ⟨p_2, trivial⟩, trivial⟩, hS.F ht⟩) hS.2.2 dX11_common_15
  · have h_3 : rg 0 0 p1 := r_eq_l_i (e := 0) (f := 0) c1 hp_p1 (rgn 0 (x := 0) (by decide)) (by decide)
    refine lv_iload_n hx hb dX11_common_4 rfl (lv_at hl 0 rfl) ?_
    refine lv_goto (tgt := 15) hx hb dX11_common_5 (by decide) ?_
    exact W.iret (v := p0) hx hb hr (fun t ht hW => ⟨⟨p0, (), rfl, ⟨hp_p0, trivial⟩, trivial⟩, hS.F ht⟩) hS.2.2 dX11_common_15

set_option maxHeartbeats 4000000 in
set_option maxRecDepth 100000 in
theorem a_X11_common_33 (l : Launch) (G : va_G) (ct : Nat → ClassId) (p0 : Int32) (p1 : Int32) (hp_p0 : rg 1 64 p0) (hp_p1 : rg 0 33 p1) : Met l yX11_common wsX11_common ({ frames := 33, cells := 0, slots := 0, locals := 990 }) (va_Pc [.int p0, .int p1] (roP G ct [])) (roQ (fun r => rg 1 64 r ∧ True)) 0 0 no := by
  refine Met.ofW (cc := cX11_common) (maxL := 2) (ret := (some .int)) (by decide) rfl ?_
  intro p e s m args below meth c s₁ B hml hv
  obtain ⟨rfl, hP, hK⟩ := hv
  have hx := B.exec
  have hb := B.bytes
  have hr := B.returns
  have hts := atoms_spec (ws := wsX11_common) B.pre
  have hown : s.vm.findClass RX11 = some m.cls := findClass_of_methodNamed B.named
  have hlocks := B.notSynchronized
  have hS : va_S no s.heap s.heap [] := va_S.rf
  have hl := lv_entry ([.int p0, .int p1]) (n := 2) (Nat.le_of_ble_eq_true rfl)
  rw [lg_entry_eq]
  generalize (lg_sl ([.int p0, .int p1]) ++ List.replicate (2 - (lg_sl ([.int p0, .int p1])).length) Slot.unset).toArray = ls at hl ⊢
  have hl : lv_has ls 2 [(0, .int p0), (1, .int p1)] := hl
  refine lv_iload_n hx hb dX11_common_0 rfl (lv_at hl 1 rfl) ?_
  refine lv_if_ne (tgt := 8) hx hb dX11_common_1 (by decide) (fun c1 => ?_) (fun c1 => ?_)
  · have h_1 : rg 1 33 p1 := r_ne_lo_i c1 hp_p1 (by decide) (by decide)
    refine lv_iload_n hx hb dX11_common_8 rfl (lv_at hl 1 rfl) ?_
    refine lv_iload_n hx hb dX11_common_9 rfl (lv_at hl 0 rfl) ?_
    refine lv_iload_n hx hb dX11_common_10 rfl (lv_at hl 1 rfl) ?_
    refine lv_irem hx hb dX11_common_11 (rne0 h_1 (by decide)) ?_
    refine nm_rem (f := 32) hp_p0 h_1 (by decide) (fun z11 hz11 tz11 => ?_)
    refine ro_calli (va_runS (As := [.int p1, .int z11]) (rest := []) ⟨hx, hb, hml, hown, hts⟩ (a_X11_common_32 l G ct p1 z11 (rg_w (c := 1) (d := 64) h_1 (by decide)) hz11) (va_cwS 2 hts gX11_common_X11_common rfl rfl rfl (by decide +kernel) ⟨Nat.le_of_ble_eq_true rfl, Nat.le_of_ble_eq_true rfl⟩) (ro_pre hK (hP.sub [] rfl)) rfl rfl hl.1 rfl (lv_room (Nat.le_of_ble_eq_true rfl)) dX11_common_12 ⟨Nat.zero_le _, Nat.zero_le _⟩) hS hP (fun r12 H locs wr12 hP hS => ?_)
    obtain ⟨p_2, -⟩ := wr12
    exact W.iret (v := r12) hx hb hr (fun t ht hW => ⟨⟨r12, (), rfl, ⟨p_2, trivial⟩, trivial⟩, hS.F ht⟩) hS.2.2 dX11_common_15
  · have h_3 : rg 0 0 p1 := r_eq_l_i (e := 0) (f := 0) c1 hp_p1 (rgn 0 (x := 0) (by decide)) (by decide)
    refine lv_iload_n hx hb dX11_common_4 rfl (lv_at hl 0 rfl) ?_
    refine lv_goto (tgt := 15) hx hb dX11_common_5 (by decide) ?_
    exact W.iret (v := p0) hx hb hr (fun t ht hW => ⟨⟨p0, (), rfl, ⟨hp_p0, trivial⟩, trivial⟩, hS.F ht⟩) hS.2.2 dX11_common_15

set_option maxHeartbeats 4000000 in
set_option maxRecDepth 100000 in
theorem a_X11_common_34 (l : Launch) (G : va_G) (ct : Nat → ClassId) (p0 : Int32) (p1 : Int32) (hp_p0 : rg 1 64 p0) (hp_p1 : rg 0 34 p1) : Met l yX11_common wsX11_common ({ frames := 34, cells := 0, slots := 0, locals := 1020 }) (va_Pc [.int p0, .int p1] (roP G ct [])) (roQ (fun r => rg 1 64 r ∧ True)) 0 0 no := by
  refine Met.ofW (cc := cX11_common) (maxL := 2) (ret := (some .int)) (by decide) rfl ?_
  intro p e s m args below meth c s₁ B hml hv
  obtain ⟨rfl, hP, hK⟩ := hv
  have hx := B.exec
  have hb := B.bytes
  have hr := B.returns
  have hts := atoms_spec (ws := wsX11_common) B.pre
  have hown : s.vm.findClass RX11 = some m.cls := findClass_of_methodNamed B.named
  have hlocks := B.notSynchronized
  have hS : va_S no s.heap s.heap [] := va_S.rf
  have hl := lv_entry ([.int p0, .int p1]) (n := 2) (Nat.le_of_ble_eq_true rfl)
  rw [lg_entry_eq]
  generalize (lg_sl ([.int p0, .int p1]) ++ List.replicate (2 - (lg_sl ([.int p0, .int p1])).length) Slot.unset).toArray = ls at hl ⊢
  have hl : lv_has ls 2 [(0, .int p0), (1, .int p1)] := hl
  refine lv_iload_n hx hb dX11_common_0 rfl (lv_at hl 1 rfl) ?_
  refine lv_if_ne (tgt := 8) hx hb dX11_common_1 (by decide) (fun c1 => ?_) (fun c1 => ?_)
  · have h_1 : rg 1 34 p1 := r_ne_lo_i c1 hp_p1 (by decide) (by decide)
    refine lv_iload_n hx hb dX11_common_8 rfl (lv_at hl 1 rfl) ?_
    refine lv_iload_n hx hb dX11_common_9 rfl (lv_at hl 0 rfl) ?_
    refine lv_iload_n hx hb dX11_common_10 rfl (lv_at hl 1 rfl) ?_
    refine lv_irem hx hb dX11_common_11 (rne0 h_1 (by decide)) ?_
    refine nm_rem (f := 33) hp_p0 h_1 (by decide) (fun z11 hz11 tz11 => ?_)
    refine ro_calli (va_runS (As := [.int p1, .int z11]) (rest := []) ⟨hx, hb, hml, hown, hts⟩ (a_X11_common_33 l G ct p1 z11 (rg_w (c := 1) (d := 64) h_1 (by decide)) hz11) (va_cwS 2 hts gX11_common_X11_common rfl rfl rfl (by decide +kernel) ⟨Nat.le_of_ble_eq_true rfl, Nat.le_of_ble_eq_true rfl⟩) (ro_pre hK (hP.sub [] rfl)) rfl rfl hl.1 rfl (lv_room (Nat.le_of_ble_eq_true rfl)) dX11_common_12 ⟨Nat.zero_le _, Nat.zero_le _⟩) hS hP (fun r12 H locs wr12 hP hS => ?_)
    obtain ⟨p_2, -⟩ := wr12
    exact W.iret (v := r12) hx hb hr (fun t ht hW => ⟨⟨r12, (), rfl, ⟨p_2, trivial⟩, trivial⟩, hS.F ht⟩) hS.2.2 dX11_common_15
  · have h_3 : rg 0 0 p1 := r_eq_l_i (e := 0) (f := 0) c1 hp_p1 (rgn 0 (x := 0) (by decide)) (by decide)
    refine lv_iload_n hx hb dX11_common_4 rfl (lv_at hl 0 rfl) ?_
    refine lv_goto (tgt := 15) hx hb dX11_common_5 (by decide) ?_
    exact W.iret (v := p0) hx hb hr (fun t ht hW => ⟨⟨p0, (), rfl, ⟨hp_p0, trivial⟩, trivial⟩, hS.F ht⟩) hS.2.2 dX11_common_15

set_option maxHeartbeats 4000000 in
set_option maxRecDepth 100000 in
theorem a_X11_common_35 (l : Launch) (G : va_G) (ct : Nat → ClassId) (p0 : Int32) (p1 : Int32) (hp_p0 : rg 1 64 p0) (hp_p1 : rg 0 35 p1) : Met l yX11_common wsX11_common ({ frames := 35, cells := 0, slots := 0, locals := 1050 }) (va_Pc [.int p0, .int p1] (roP G ct [])) (roQ (fun r => rg 1 64 r ∧ True)) 0 0 no := by
  refine Met.ofW (cc := cX11_common) (maxL := 2) (ret := (some .int)) (by decide) rfl ?_
  intro p e s m args below meth c s₁ B hml hv
  obtain ⟨rfl, hP, hK⟩ := hv
  have hx := B.exec
  have hb := B.bytes
  have hr := B.returns
  have hts := atoms_spec (ws := wsX11_common) B.pre
  have hown : s.vm.findClass RX11 = some m.cls := findClass_of_methodNamed B.named
  have hlocks := B.notSynchronized
  have hS : va_S no s.heap s.heap [] := va_S.rf
  have hl := lv_entry ([.int p0, .int p1]) (n := 2) (Nat.le_of_ble_eq_true rfl)
  rw [lg_entry_eq]
  generalize (lg_sl ([.int p0, .int p1]) ++ List.replicate (2 - (lg_sl ([.int p0, .int p1])).length) Slot.unset).toArray = ls at hl ⊢
  have hl : lv_has ls 2 [(0, .int p0), (1, .int p1)] := hl
  refine lv_iload_n hx hb dX11_common_0 rfl (lv_at hl 1 rfl) ?_
  refine lv_if_ne (tgt := 8) hx hb dX11_common_1 (by decide) (fun c1 => ?_) (fun c1 => ?_)
  · have h_1 : rg 1 35 p1 := r_ne_lo_i c1 hp_p1 (by decide) (by decide)
    refine lv_iload_n hx hb dX11_common_8 rfl (lv_at hl 1 rfl) ?_
    refine lv_iload_n hx hb dX11_common_9 rfl (lv_at hl 0 rfl) ?_
    refine lv_iload_n hx hb dX11_common_10 rfl (lv_at hl 1 rfl) ?_
    refine lv_irem hx hb dX11_common_11 (rne0 h_1 (by decide)) ?_
    refine nm_rem (f := 34) hp_p0 h_1 (by decide) (fun z11 hz11 tz11 => ?_)
    refine ro_calli (va_runS (As := [.int p1, .int z11]) (rest := []) ⟨hx, hb, hml, hown, hts⟩ (a_X11_common_34 l G ct p1 z11 (rg_w (c := 1) (d := 64) h_1 (by decide)) hz11) (va_cwS 2 hts gX11_common_X11_common rfl rfl rfl (by decide +kernel) ⟨Nat.le_of_ble_eq_true rfl, Nat.le_of_ble_eq_true rfl⟩) (ro_pre hK (hP.sub [] rfl)) rfl rfl hl.1 rfl (lv_room (Nat.le_of_ble_eq_true rfl)) dX11_common_12 ⟨Nat.zero_le _, Nat.zero_le _⟩) hS hP (fun r12 H locs wr12 hP hS => ?_)
    obtain ⟨p_2, -⟩ := wr12
    exact W.iret (v := r12) hx hb hr (fun t ht hW => ⟨⟨r12, (), rfl, ⟨p_2, trivial⟩, trivial⟩, hS.F ht⟩) hS.2.2 dX11_common_15
  · have h_3 : rg 0 0 p1 := r_eq_l_i (e := 0) (f := 0) c1 hp_p1 (rgn 0 (x := 0) (by decide)) (by decide)
    refine lv_iload_n hx hb dX11_common_4 rfl (lv_at hl 0 rfl) ?_
    refine lv_goto (tgt := 15) hx hb dX11_common_5 (by decide) ?_
    exact W.iret (v := p0) hx hb hr (fun t ht hW => ⟨⟨p0, (), rfl, ⟨hp_p0, trivial⟩, trivial⟩, hS.F ht⟩) hS.2.2 dX11_common_15

set_option maxHeartbeats 4000000 in
set_option maxRecDepth 100000 in
theorem a_X11_common_36 (l : Launch) (G : va_G) (ct : Nat → ClassId) (p0 : Int32) (p1 : Int32) (hp_p0 : rg 1 64 p0) (hp_p1 : rg 0 36 p1) : Met l yX11_common wsX11_common ({ frames := 36, cells := 0, slots := 0, locals := 1080 }) (va_Pc [.int p0, .int p1] (roP G ct [])) (roQ (fun r => rg 1 64 r ∧ True)) 0 0 no := by
  refine Met.ofW (cc := cX11_common) (maxL := 2) (ret := (some .int)) (by decide) rfl ?_
  intro p e s m args below meth c s₁ B hml hv
  obtain ⟨rfl, hP, hK⟩ := hv
  have hx := B.exec
  have hb := B.bytes
  have hr := B.returns
  have hts := atoms_spec (ws := wsX11_common) B.pre
  have hown : s.vm.findClass RX11 = some m.cls := findClass_of_methodNamed B.named
  have hlocks := B.notSynchronized
  have hS : va_S no s.heap s.heap [] := va_S.rf
  have hl := lv_entry ([.int p0, .int p1]) (n := 2) (Nat.le_of_ble_eq_true rfl)
  rw [lg_entry_eq]
  generalize (lg_sl ([.int p0, .int p1]) ++ List.replicate (2 - (lg_sl ([.int p0, .int p1])).length) Slot.unset).toArray = ls at hl ⊢
  have hl : lv_has ls 2 [(0, .int p0), (1, .int p1)] := hl
  refine lv_iload_n hx hb dX11_common_0 rfl (lv_at hl 1 rfl) ?_
  refine lv_if_ne (tgt := 8) hx hb dX11_common_1 (by decide) (fun c1 => ?_) (fun c1 => ?_)
  · have h_1 : rg 1 36 p1 := r_ne_lo_i c1 hp_p1 (by decide) (by decide)
    refine lv_iload_n hx hb dX11_common_8 rfl (lv_at hl 1 rfl) ?_
    refine lv_iload_n hx hb dX11_common_9 rfl (lv_at hl 0 rfl) ?_
    refine lv_iload_n hx hb dX11_common_10 rfl (lv_at hl 1 rfl) ?_
    refine lv_irem hx hb dX11_common_11 (rne0 h_1 (by decide)) ?_
    refine nm_rem (f := 35) hp_p0 h_1 (by decide) (fun z11 hz11 tz11 => ?_)
    refine ro_calli (va_runS (As := [.int p1, .int z11]) (rest := []) ⟨hx, hb, hml, hown, hts⟩ (a_X11_common_35 l G ct p1 z11 (rg_w (c := 1) (d := 64) h_1 (by decide)) hz11) (va_cwS 2 hts gX11_common_X11_common rfl rfl rfl (by decide +kernel) ⟨Nat.le_of_ble_eq_true rfl, Nat.le_of_ble_eq_true rfl⟩) (ro_pre hK (hP.sub [] rfl)) rfl rfl hl.1 rfl (lv_room (Nat.le_of_ble_eq_true rfl)) dX11_common_12 ⟨Nat.zero_le _, Nat.zero_le _⟩) hS hP (fun r12 H locs wr12 hP hS => ?_)
    obtain ⟨p_2, -⟩ := wr12
    exact W.iret (v := r12) hx hb hr (fun t ht hW => ⟨⟨r12, (), rfl, ⟨p_2, trivial⟩, trivial⟩, hS.F ht⟩) hS.2.2 dX11_common_15
  · have h_3 : rg 0 0 p1 := r_eq_l_i (e := 0) (f := 0) c1 hp_p1 (rgn 0 (x := 0) (by decide)) (by decide)
    refine lv_iload_n hx hb dX11_common_4 rfl (lv_at hl 0 rfl) ?_
    refine lv_goto (tgt := 15) hx hb dX11_common_5 (by decide) ?_
    exact W.iret (v := p0) hx hb hr (fun t ht hW => ⟨⟨p0, (), rfl, ⟨hp_p0, trivial⟩, trivial⟩, hS.F ht⟩) hS.2.2 dX11_common_15

set_option maxHeartbeats 4000000 in
set_option maxRecDepth 100000 in
theorem a_X11_common_37 (l : Launch) (G : va_G) (ct : Nat → ClassId) (p0 : Int32) (p1 : Int32) (hp_p0 : rg 1 64 p0) (hp_p1 : rg 0 37 p1) : Met l yX11_common wsX11_common ({ frames := 37, cells := 0, slots := 0, locals := 1110 }) (va_Pc [.int p0, .int p1] (roP G ct [])) (roQ (fun r => rg 1 64 r ∧ True)) 0 0 no := by
  refine Met.ofW (cc := cX11_common) (maxL := 2) (ret := (some .int)) (by decide) rfl ?_
  intro p e s m args below meth c s₁ B hml hv
  obtain ⟨rfl, hP, hK⟩ := hv
  have hx := B.exec
  have hb := B.bytes
  have hr := B.returns
  have hts := atoms_spec (ws := wsX11_common) B.pre
  have hown : s.vm.findClass RX11 = some m.cls := findClass_of_methodNamed B.named
  have hlocks := B.notSynchronized
  have hS : va_S no s.heap s.heap [] := va_S.rf
  have hl := lv_entry ([.int p0, .int p1]) (n := 2) (Nat.le_of_ble_eq_true rfl)
  rw [lg_entry_eq]
  generalize (lg_sl ([.int p0, .int p1]) ++ List.replicate (2 - (lg_sl ([.int p0, .int p1])).length) Slot.unset).toArray = ls at hl ⊢
  have hl : lv_has ls 2 [(0, .int p0), (1, .int p1)] := hl
  refine lv_iload_n hx hb dX11_common_0 rfl (lv_at hl 1 rfl) ?_
  refine lv_if_ne (tgt := 8) hx hb dX11_common_1 (by decide) (fun c1 => ?_) (fun c1 => ?_)
  · have h_1 : rg 1 37 p1 := r_ne_lo_i c1 hp_p1 (by decide) (by decide)
    refine lv_iload_n hx hb dX11_common_8 rfl (lv_at hl 1 rfl) ?_
    refine lv_iload_n hx hb dX11_common_9 rfl (lv_at hl 0 rfl) ?_
    refine lv_iload_n hx hb dX11_common_10 rfl (lv_at hl 1 rfl) ?_
    refine lv_irem hx hb dX11_common_11 (rne0 h_1 (by decide)) ?_
    refine nm_rem (f := 36) hp_p0 h_1 (by decide) (fun z11 hz11 tz11 => ?_)
    refine ro_calli (va_runS (As := [.int p1, .int z11]) (rest := []) ⟨hx, hb, hml, hown, hts⟩ (a_X11_common_36 l G ct p1 z11 (rg_w (c := 1) (d := 64) h_1 (by decide)) hz11) (va_cwS 2 hts gX11_common_X11_common rfl rfl rfl (by decide +kernel) ⟨Nat.le_of_ble_eq_true rfl, Nat.le_of_ble_eq_true rfl⟩) (ro_pre hK (hP.sub [] rfl)) rfl rfl hl.1 rfl (lv_room (Nat.le_of_ble_eq_true rfl)) dX11_common_12 ⟨Nat.zero_le _, Nat.zero_le _⟩) hS hP (fun r12 H locs wr12 hP hS => ?_)
    obtain ⟨p_2, -⟩ := wr12
    exact W.iret (v := r12) hx hb hr (fun t ht hW => ⟨⟨r12, (), rfl, ⟨p_2, trivial⟩, trivial⟩, hS.F ht⟩) hS.2.2 dX11_common_15
  · have h_3 : rg 0 0 p1 := r_eq_l_i (e := 0) (f := 0) c1 hp_p1 (rgn 0 (x := 0) (by decide)) (by decide)
    refine lv_iload_n hx hb dX11_common_4 rfl (lv_at hl 0 rfl) ?_
    refine lv_goto (tgt := 15) hx hb dX11_common_5 (by decide) ?_
    exact W.iret (v := p0) hx hb hr (fun t ht hW => ⟨⟨p0, (), rfl, ⟨hp_p0, trivial⟩, trivial⟩, hS.F ht⟩) hS.2.2 dX11_common_15

set_option maxHeartbeats 4000000 in
set_option maxRecDepth 100000 in
theorem a_X11_common_38 (l : Launch) (G : va_G) (ct : Nat → ClassId) (p0 : Int32) (p1 : Int32) (hp_p0 : rg 1 64 p0) (hp_p1 : rg 0 38 p1) : Met l yX11_common wsX11_common ({ frames := 38, cells := 0, slots := 0, locals := 1140 }) (va_Pc [.int p0, .int p1] (roP G ct [])) (roQ (fun r => rg 1 64 r ∧ True)) 0 0 no := by
  refine Met.ofW (cc := cX11_common) (maxL := 2) (ret := (some .int)) (by decide) rfl ?_
  intro p e s m args below meth c s₁ B hml hv
  obtain ⟨rfl, hP, hK⟩ := hv
  have hx := B.exec
  have hb := B.bytes
  have hr := B.returns
  have hts := atoms_spec (ws := wsX11_common) B.pre
  have hown : s.vm.findClass RX11 = some m.cls := findClass_of_methodNamed B.named
  have hlocks := B.notSynchronized
  have hS : va_S no s.heap s.heap [] := va_S.rf
  have hl := lv_entry ([.int p0, .int p1]) (n := 2) (Nat.le_of_ble_eq_true rfl)
  rw [lg_entry_eq]
  generalize (lg_sl ([.int p0, .int p1]) ++ List.replicate (2 - (lg_sl ([.int p0, .int p1])).length) Slot.unset).toArray = ls at hl ⊢
  have hl : lv_has ls 2 [(0, .int p0), (1, .int p1)] := hl
  refine lv_iload_n hx hb dX11_common_0 rfl (lv_at hl 1 rfl) ?_
  refine lv_if_ne (tgt := 8) hx hb dX11_common_1 (by decide) (fun c1 => ?_) (fun c1 => ?_)
  · have h_1 : rg 1 38 p1 := r_ne_lo_i c1 hp_p1 (by decide) (by decide)
    refine lv_iload_n hx hb dX11_common_8 rfl (lv_at hl 1 rfl) ?_
    refine lv_iload_n hx hb dX11_common_9 rfl (lv_at hl 0 rfl) ?_
    refine lv_iload_n hx hb dX11_common_10 rfl (lv_at hl 1 rfl) ?_
    refine lv_irem hx hb dX11_common_11 (rne0 h_1 (by decide)) ?_
    refine nm_rem (f := 37) hp_p0 h_1 (by decide) (fun z11 hz11 tz11 => ?_)
    refine ro_calli (va_runS (As := [.int p1, .int z11]) (rest := []) ⟨hx, hb, hml, hown, hts⟩ (a_X11_common_37 l G ct p1 z11 (rg_w (c := 1) (d := 64) h_1 (by decide)) hz11) (va_cwS 2 hts gX11_common_X11_common rfl rfl rfl (by decide +kernel) ⟨Nat.le_of_ble_eq_true rfl, Nat.le_of_ble_eq_true rfl⟩) (ro_pre hK (hP.sub [] rfl)) rfl rfl hl.1 rfl (lv_room (Nat.le_of_ble_eq_true rfl)) dX11_common_12 ⟨Nat.zero_le _, Nat.zero_le _⟩) hS hP (fun r12 H locs wr12 hP hS => ?_)
    obtain ⟨p_2, -⟩ := wr12
    exact W.iret (v := r12) hx hb hr (fun t ht hW => ⟨⟨r12, (), rfl, ⟨p_2, trivial⟩, trivial⟩, hS.F ht⟩) hS.2.2 dX11_common_15
  · have h_3 : rg 0 0 p1 := r_eq_l_i (e := 0) (f := 0) c1 hp_p1 (rgn 0 (x := 0) (by decide)) (by decide)
    refine lv_iload_n hx hb dX11_common_4 rfl (lv_at hl 0 rfl) ?_
    refine lv_goto (tgt := 15) hx hb dX11_common_5 (by decide) ?_
    exact W.iret (v := p0) hx hb hr (fun t ht hW => ⟨⟨p0, (), rfl, ⟨hp_p0, trivial⟩, trivial⟩, hS.F ht⟩) hS.2.2 dX11_common_15

set_option maxHeartbeats 4000000 in
set_option maxRecDepth 100000 in
theorem a_X11_common_39 (l : Launch) (G : va_G) (ct : Nat → ClassId) (p0 : Int32) (p1 : Int32) (hp_p0 : rg 1 64 p0) (hp_p1 : rg 0 39 p1) : Met l yX11_common wsX11_common ({ frames := 39, cells := 0, slots := 0, locals := 1170 }) (va_Pc [.int p0, .int p1] (roP G ct [])) (roQ (fun r => rg 1 64 r ∧ True)) 0 0 no := by
  refine Met.ofW (cc := cX11_common) (maxL := 2) (ret := (some .int)) (by decide) rfl ?_
  intro p e s m args below meth c s₁ B hml hv
  obtain ⟨rfl, hP, hK⟩ := hv
  have hx := B.exec
  have hb := B.bytes
  have hr := B.returns
  have hts := atoms_spec (ws := wsX11_common) B.pre
  have hown : s.vm.findClass RX11 = some m.cls := findClass_of_methodNamed B.named
  have hlocks := B.notSynchronized
  have hS : va_S no s.heap s.heap [] := va_S.rf
  have hl := lv_entry ([.int p0, .int p1]) (n := 2) (Nat.le_of_ble_eq_true rfl)
  rw [lg_entry_eq]
  generalize (lg_sl ([.int p0, .int p1]) ++ List.replicate (2 - (lg_sl ([.int p0, .int p1])).length) Slot.unset).toArray = ls at hl ⊢
  have hl : lv_has ls 2 [(0, .int p0), (1, .int p1)] := hl
  refine lv_iload_n hx hb dX11_common_0 rfl (lv_at hl 1 rfl) ?_
  refine lv_if_ne (tgt := 8) hx hb dX11_common_1 (by decide) (fun c1 => ?_) (fun c1 => ?_)
  · have h_1 : rg 1 39 p1 := r_ne_lo_i c1 hp_p1 (by decide) (by decide)
    refine lv_iload_n hx hb dX11_common_8 rfl (lv_at hl 1 rfl) ?_
    refine lv_iload_n hx hb dX11_common_9 rfl (lv_at hl 0 rfl) ?_
    refine lv_iload_n hx hb dX11_common_10 rfl (lv_at hl 1 rfl) ?_
    refine lv_irem hx hb dX11_common_11 (rne0 h_1 (by decide)) ?_
    refine nm_rem (f := 38) hp_p0 h_1 (by decide) (fun z11 hz11 tz11 => ?_)
    refine ro_calli (va_runS (As := [.int p1, .int z11]) (rest := []) ⟨hx, hb, hml, hown, hts⟩ (a_X11_common_38 l G ct p1 z11 (rg_w (c := 1) (d := 64) h_1 (by decide)) hz11) (va_cwS 2 hts gX11_common_X11_common rfl rfl rfl (by decide +kernel) ⟨Nat.le_of_ble_eq_true rfl, Nat.le_of_ble_eq_true rfl⟩) (ro_pre hK (hP.sub [] rfl)) rfl rfl hl.1 rfl (lv_room (Nat.le_of_ble_eq_true rfl)) dX11_common_12 ⟨Nat.zero_le _, Nat.zero_le _⟩) hS hP (fun r12 H locs wr12 hP hS => ?_)
    obtain ⟨p_2, -⟩ := wr12
    exact W.iret (v := r12) hx hb hr (fun t ht hW => ⟨⟨r12, (), rfl, ⟨p_2, trivial⟩, trivial⟩, hS.F ht⟩) hS.2.2 dX11_common_15
  · have h_3 : rg 0 0 p1 := r_eq_l_i (e := 0) (f := 0) c1 hp_p1 (rgn 0 (x := 0) (by decide)) (by decide)
    refine lv_iload_n hx hb dX11_common_4 rfl (lv_at hl 0 rfl) ?_
    refine lv_goto (tgt := 15) hx hb dX11_common_5 (by decide) ?_
    exact W.iret (v := p0) hx hb hr (fun t ht hW => ⟨⟨p0, (), rfl, ⟨hp_p0, trivial⟩, trivial⟩, hS.F ht⟩) hS.2.2 dX11_common_15

set_option maxHeartbeats 4000000 in
set_option maxRecDepth 100000 in
theorem a_X11_common_40 (l : Launch) (G : va_G) (ct : Nat → ClassId) (p0 : Int32) (p1 : Int32) (hp_p0 : rg 1 64 p0) (hp_p1 : rg 0 40 p1) : Met l yX11_common wsX11_common ({ frames := 40, cells := 0, slots := 0, locals := 1200 }) (va_Pc [.int p0, .int p1] (roP G ct [])) (roQ (fun r => rg 1 64 r ∧ True)) 0 0 no := by
  refine Met.ofW (cc := cX11_common) (maxL := 2) (ret := (some .int)) (by decide) rfl ?_
  intro p e s m args below meth c s₁ B hml hv
  obtain ⟨rfl, hP, hK⟩ := hv
  have hx := B.exec
  have hb := B.bytes
  have hr := B.returns
  have hts := atoms_spec (ws := wsX11_common) B.pre
  have hown : s.vm.findClass RX11 = some m.cls := findClass_of_methodNamed B.named
  have hlocks := B.notSynchronized
  have hS : va_S no s.heap s.heap [] := va_S.rf
  have hl := lv_entry ([.int p0, .int p1]) (n := 2) (Nat.le_of_ble_eq_true rfl)
  rw [lg_entry_eq]
  generalize (lg_sl ([.int p0, .int p1]) ++ List.replicate (2 - (lg_sl ([.int p0, .int p1])).length) Slot.unset).toArray = ls at hl ⊢
  have hl : lv_has ls 2 [(0, .int p0), (1, .int p1)] := hl
  refine lv_iload_n hx hb dX11_common_0 rfl (lv_at hl 1 rfl) ?_
  refine lv_if_ne (tgt := 8) hx hb dX11_common_1 (by decide) (fun c1 => ?_) (fun c1 => ?_)
  · have h_1 : rg 1 40 p1 := r_ne_lo_i c1 hp_p1 (by decide) (by decide)
    refine lv_iload_n hx hb dX11_common_8 rfl (lv_at hl 1 rfl) ?_
    refine lv_iload_n hx hb dX11_common_9 rfl (lv_at hl 0 rfl) ?_
    refine lv_iload_n hx hb dX11_common_10 rfl (lv_at hl 1 rfl) ?_
    refine lv_irem hx hb dX11_common_11 (rne0 h_1 (by decide)) ?_
    refine nm_rem (f := 39) hp_p0 h_1 (by decide) (fun z11 hz11 tz11 => ?_)
    refine ro_calli (va_runS (As := [.int p1, .int z11]) (rest := []) ⟨hx, hb, hml, hown, hts⟩ (a_X11_common_39 l G ct p1 z11 (rg_w (c := 1) (d := 64) h_1 (by decide)) hz11) (va_cwS 2 hts gX11_common_X11_common rfl rfl rfl (by decide +kernel) ⟨Nat.le_of_ble_eq_true rfl, Nat.le_of_ble_eq_true rfl⟩) (ro_pre hK (hP.sub [] rfl)) rfl rfl hl.1 rfl (lv_room (Nat.le_of_ble_eq_true rfl)) dX11_common_12 ⟨Nat.zero_le _, Nat.zero_le _⟩) hS hP (fun r12 H locs wr12 hP hS => ?_)
    obtain ⟨p_2, -⟩ := wr12
    exact W.iret (v := r12) hx hb hr (fun t ht hW => ⟨⟨r12, (), rfl, ⟨p_2, trivial⟩, trivial⟩, hS.F ht⟩) hS.2.2 dX11_common_15
  · have h_3 : rg 0 0 p1 := r_eq_l_i (e := 0) (f := 0) c1 hp_p1 (rgn 0 (x := 0) (by decide)) (by decide)
    refine lv_iload_n hx hb dX11_common_4 rfl (lv_at hl 0 rfl) ?_
    refine lv_goto (tgt := 15) hx hb dX11_common_5 (by decide) ?_
    exact W.iret (v := p0) hx hb hr (fun t ht hW => ⟨⟨p0, (), rfl, ⟨hp_p0, trivial⟩, trivial⟩, hS.F ht⟩) hS.2.2 dX11_common_15

set_option maxHeartbeats 4000000 in
set_option maxRecDepth 100000 in
theorem a_X11_common_41 (l : Launch) (G : va_G) (ct : Nat → ClassId) (p0 : Int32) (p1 : Int32) (hp_p0 : rg 1 64 p0) (hp_p1 : rg 0 41 p1) : Met l yX11_common wsX11_common ({ frames := 41, cells := 0, slots := 0, locals := 1230 }) (va_Pc [.int p0, .int p1] (roP G ct [])) (roQ (fun r => rg 1 64 r ∧ True)) 0 0 no := by
  refine Met.ofW (cc := cX11_common) (maxL := 2) (ret := (some .int)) (by decide) rfl ?_
  intro p e s m args below meth c s₁ B hml hv
  obtain ⟨rfl, hP, hK⟩ := hv
  have hx := B.exec
  have hb := B.bytes
  have hr := B.returns
  have hts := atoms_spec (ws := wsX11_common) B.pre
  have hown : s.vm.findClass RX11 = some m.cls := findClass_of_methodNamed B.named
  have hlocks := B.notSynchronized
  have hS : va_S no s.heap s.heap [] := va_S.rf
  have hl := lv_entry ([.int p0, .int p1]) (n := 2) (Nat.le_of_ble_eq_true rfl)
  rw [lg_entry_eq]
  generalize (lg_sl ([.int p0, .int p1]) ++ List.replicate (2 - (lg_sl ([.int p0, .int p1])).length) Slot.unset).toArray = ls at hl ⊢
  have hl : lv_has ls 2 [(0, .int p0), (1, .int p1)] := hl
  refine lv_iload_n hx hb dX11_common_0 rfl (lv_at hl 1 rfl) ?_
  refine lv_if_ne (tgt := 8) hx hb dX11_common_1 (by decide) (fun c1 => ?_) (fun c1 => ?_)
  · have h_1 : rg 1 41 p1 := r_ne_lo_i c1 hp_p1 (by decide) (by decide)
    refine lv_iload_n hx hb dX11_common_8 rfl (lv_at hl 1 rfl) ?_
    refine lv_iload_n hx hb dX11_common_9 rfl (lv_at hl 0 rfl) ?_
    refine lv_iload_n hx hb dX11_common_10 rfl (lv_at hl 1 rfl) ?_
    refine lv_irem hx hb dX11_common_11 (rne0 h_1 (by decide)) ?_
    refine nm_rem (f := 40) hp_p0 h_1 (by decide) (fun z11 hz11 tz11 => ?_)
    refine ro_calli (va_runS (As := [.int p1, .int z11]) (rest := []) ⟨hx, hb, hml, hown, hts⟩ (a_X11_common_40 l G ct p1 z11 (rg_w (c := 1) (d := 64) h_1 (by decide)) hz11) (va_cwS 2 hts gX11_common_X11_common rfl rfl rfl (by decide +kernel) ⟨Nat.le_of_ble_eq_true rfl, Nat.le_of_ble_eq_true rfl⟩) (ro_pre hK (hP.sub [] rfl)) rfl rfl hl.1 rfl (lv_room (Nat.le_of_ble_eq_true rfl)) dX11_common_12 ⟨Nat.zero_le _, Nat.zero_le _⟩) hS hP (fun r12 H locs wr12 hP hS => ?_)
    obtain ⟨p_2, -⟩ := wr12
    exact W.iret (v := r12) hx hb hr (fun t ht hW => ⟨⟨r12, (), rfl, ⟨p_2, trivial⟩, trivial⟩, hS.F ht⟩) hS.2.2 dX11_common_15
  · have h_3 : rg 0 0 p1 := r_eq_l_i (e := 0) (f := 0) c1 hp_p1 (rgn 0 (x := 0) (by decide)) (by decide)
    refine lv_iload_n hx hb dX11_common_4 rfl (lv_at hl 0 rfl) ?_
    refine lv_goto (tgt := 15) hx hb dX11_common_5 (by decide) ?_
    exact W.iret (v := p0) hx hb hr (fun t ht hW => ⟨⟨p0, (), rfl, ⟨hp_p0, trivial⟩, trivial⟩, hS.F ht⟩) hS.2.2 dX11_common_15

set_option maxHeartbeats 4000000 in
set_option maxRecDepth 100000 in
theorem a_X11_common_42 (l : Launch) (G : va_G) (ct : Nat → ClassId) (p0 : Int32) (p1 : Int32) (hp_p0 : rg 1 64 p0) (hp_p1 : rg 0 42 p1) : Met l yX11_common wsX11_common ({ frames := 42, cells := 0, slots := 0, locals := 1260 }) (va_Pc [.int p0, .int p1] (roP G ct [])) (roQ (fun r => rg 1 64 r ∧ True)) 0 0 no := by
  refine Met.ofW (cc := cX11_common) (maxL := 2) (ret := (some .int)) (by decide) rfl ?_
  intro p e s m args below meth c s₁ B hml hv
  obtain ⟨rfl, hP, hK⟩ := hv
  have hx := B.exec
  have hb := B.bytes
  have hr := B.returns
  have hts := atoms_spec (ws := wsX11_common) B.pre
  have hown : s.vm.findClass RX11 = some m.cls := findClass_of_methodNamed B.named
  have hlocks := B.notSynchronized
  have hS : va_S no s.heap s.heap [] := va_S.rf
  have hl := lv_entry ([.int p0, .int p1]) (n := 2) (Nat.le_of_ble_eq_true rfl)
  rw [lg_entry_eq]
  generalize (lg_sl ([.int p0, .int p1]) ++ List.replicate (2 - (lg_sl ([.int p0, .int p1])).length) Slot.unset).toArray = ls at hl ⊢
  have hl : lv_has ls 2 [(0, .int p0), (1, .int p1)] := hl
  refine lv_iload_n hx hb dX11_common_0 rfl (lv_at hl 1 rfl) ?_
  refine lv_if_ne (tgt := 8) hx hb dX11_common_1 (by decide) (fun c1 => ?_) (fun c1 => ?_)
  · have h_1 : rg 1 42 p1 := r_ne_lo_i c1 hp_p1 (by decide) (by decide)
    refine lv_iload_n hx hb dX11_common_8 rfl (lv_at hl 1 rfl) ?_
    refine lv_iload_n hx hb dX11_common_9 rfl (lv_at hl 0 rfl) ?_
    refine lv_iload_n hx hb dX11_common_10 rfl (lv_at hl 1 rfl) ?_
    refine lv_irem hx hb dX11_common_11 (rne0 h_1 (by decide)) ?_
    refine nm_rem (f := 41) hp_p0 h_1 (by decide) (fun z11 hz11 tz11 => ?_)
    refine ro_calli (va_runS (As := [.int p1, .int z11]) (rest := []) ⟨hx, hb, hml, hown, hts⟩ (a_X11_common_41 l G ct p1 z11 (rg_w (c := 1) (d := 64) h_1 (by decide)) hz11) (va_cwS 2 hts gX11_common_X11_common rfl rfl rfl (by decide +kernel) ⟨Nat.le_of_ble_eq_true rfl, Nat.le_of_ble_eq_true rfl⟩) (ro_pre hK (hP.sub [] rfl)) rfl rfl hl.1 rfl (lv_room (Nat.le_of_ble_eq_true rfl)) dX11_common_12 ⟨Nat.zero_le _, Nat.zero_le _⟩) hS hP (fun r12 H locs wr12 hP hS => ?_)
    obtain ⟨p_2, -⟩ := wr12
    exact W.iret (v := r12) hx hb hr (fun t ht hW => ⟨⟨r12, (), rfl, ⟨p_2, trivial⟩, trivial⟩, hS.F ht⟩) hS.2.2 dX11_common_15
  · have h_3 : rg 0 0 p1 := r_eq_l_i (e := 0) (f := 0) c1 hp_p1 (rgn 0 (x := 0) (by decide)) (by decide)
    refine lv_iload_n hx hb dX11_common_4 rfl (lv_at hl 0 rfl) ?_
    refine lv_goto (tgt := 15) hx hb dX11_common_5 (by decide) ?_
    exact W.iret (v := p0) hx hb hr (fun t ht hW => ⟨⟨p0, (), rfl, ⟨hp_p0, trivial⟩, trivial⟩, hS.F ht⟩) hS.2.2 dX11_common_15

set_option maxHeartbeats 4000000 in
set_option maxRecDepth 100000 in
theorem a_X11_common_43 (l : Launch) (G : va_G) (ct : Nat → ClassId) (p0 : Int32) (p1 : Int32) (hp_p0 : rg 1 64 p0) (hp_p1 : rg 0 43 p1) : Met l yX11_common wsX11_common ({ frames := 43, cells := 0, slots := 0, locals := 1290 }) (va_Pc [.int p0, .int p1] (roP G ct [])) (roQ (fun r => rg 1 64 r ∧ True)) 0 0 no := by
  refine Met.ofW (cc := cX11_common) (maxL := 2) (ret := (some .int)) (by decide) rfl ?_
  intro p e s m args below meth c s₁ B hml hv
  obtain ⟨rfl, hP, hK⟩ := hv
  have hx := B.exec
  have hb := B.bytes
  have hr := B.returns
  have hts := atoms_spec (ws := wsX11_common) B.pre
  have hown : s.vm.findClass RX11 = some m.cls := findClass_of_methodNamed B.named
  have hlocks := B.notSynchronized
  have hS : va_S no s.heap s.heap [] := va_S.rf
  have hl := lv_entry ([.int p0, .int p1]) (n := 2) (Nat.le_of_ble_eq_true rfl)
  rw [lg_entry_eq]
  generalize (lg_sl ([.int p0, .int p1]) ++ List.replicate (2 - (lg_sl ([.int p0, .int p1])).length) Slot.unset).toArray = ls at hl ⊢
  have hl : lv_has ls 2 [(0, .int p0), (1, .int p1)] := hl
  refine lv_iload_n hx hb dX11_common_0 rfl (lv_at hl 1 rfl) ?_
  refine lv_if_ne (tgt := 8) hx hb dX11_common_1 (by decide) (fun c1 => ?_) (fun c1 => ?_)
  · have h_1 : rg 1 43 p1 := r_ne_lo_i c1 hp_p1 (by decide) (by decide)
    refine lv_iload_n hx hb dX11_common_8 rfl (lv_at hl 1 rfl) ?_
    refine lv_iload_n hx hb dX11_common_9 rfl (lv_at hl 0 rfl) ?_
    refine lv_iload_n hx hb dX11_common_10 rfl (lv_at hl 1 rfl) ?_
    refine lv_irem hx hb dX11_common_11 (rne0 h_1 (by decide)) ?_
    refine nm_rem (f := 42) hp_p0 h_1 (by decide) (fun z11 hz11 tz11 => ?_)
    refine ro_calli (va_runS (As := [.int p1, .int z11]) (rest := []) ⟨hx, hb, hml, hown, hts⟩ (a_X11_common_42 l G ct p1 z11 (rg_w (c := 1) (d := 64) h_1 (by decide)) hz11) (va_cwS 2 hts gX11_common_X11_common rfl rfl rfl (by decide +kernel) ⟨Nat.le_of_ble_eq_true rfl, Nat.le_of_ble_eq_true rfl⟩) (ro_pre hK (hP.sub [] rfl)) rfl rfl hl.1 rfl (lv_room (Nat.le_of_ble_eq_true rfl)) dX11_common_12 ⟨Nat.zero_le _, Nat.zero_le _⟩) hS hP (fun r12 H locs wr12 hP hS => ?_)
    obtain ⟨p_2, -⟩ := wr12
    exact W.iret (v := r12) hx hb hr (fun t ht hW => ⟨⟨r12, (), rfl, ⟨p_2, trivial⟩, trivial⟩, hS.F ht⟩) hS.2.2 dX11_common_15
  · have h_3 : rg 0 0 p1 := r_eq_l_i (e := 0) (f := 0) c1 hp_p1 (rgn 0 (x := 0) (by decide)) (by decide)
    refine lv_iload_n hx hb dX11_common_4 rfl (lv_at hl 0 rfl) ?_
    refine lv_goto (tgt := 15) hx hb dX11_common_5 (by decide) ?_
    exact W.iret (v := p0) hx hb hr (fun t ht hW => ⟨⟨p0, (), rfl, ⟨hp_p0, trivial⟩, trivial⟩, hS.F ht⟩) hS.2.2 dX11_common_15

set_option maxHeartbeats 4000000 in
set_option maxRecDepth 100000 in
theorem a_X11_common_44 (l : Launch) (G : va_G) (ct : Nat → ClassId) (p0 : Int32) (p1 : Int32) (hp_p0 : rg 1 64 p0) (hp_p1 : rg 0 44 p1) : Met l yX11_common wsX11_common ({ frames := 44, cells := 0, slots := 0, locals := 1320 }) (va_Pc [.int p0, .int p1] (roP G ct [])) (roQ (fun r => rg 1 64 r ∧ True)) 0 0 no := by
  refine Met.ofW (cc := cX11_common) (maxL := 2) (ret := (some .int)) (by decide) rfl ?_
  intro p e s m args below meth c s₁ B hml hv
  obtain ⟨rfl, hP, hK⟩ := hv
  have hx := B.exec
  have hb := B.bytes
  have hr := B.returns
  have hts := atoms_spec (ws := wsX11_common) B.pre
  have hown : s.vm.findClass RX11 = some m.cls := findClass_of_methodNamed B.named
  have hlocks := B.notSynchronized
  have hS : va_S no s.heap s.heap [] := va_S.rf
  have hl := lv_entry ([.int p0, .int p1]) (n := 2) (Nat.le_of_ble_eq_true rfl)
  rw [lg_entry_eq]
  generalize (lg_sl ([.int p0, .int p1]) ++ List.replicate (2 - (lg_sl ([.int p0, .int p1])).length) Slot.unset).toArray = ls at hl ⊢
  have hl : lv_has ls 2 [(0, .int p0), (1, .int p1)] := hl
  refine lv_iload_n hx hb dX11_common_0 rfl (lv_at hl 1 rfl) ?_
  refine lv_if_ne (tgt := 8) hx hb dX11_common_1 (by decide) (fun c1 => ?_) (fun c1 => ?_)
  · have h_1 : rg 1 44 p1 := r_ne_lo_i c1 hp_p1 (by decide) (by decide)
    refine lv_iload_n hx hb dX11_common_8 rfl (lv_at hl 1 rfl) ?_
    refine lv_iload_n hx hb dX11_common_9 rfl (lv_at hl 0 rfl) ?_
    refine lv_iload_n hx hb dX11_common_10 rfl (lv_at hl 1 rfl) ?_
    refine lv_irem hx hb dX11_common_11 (rne0 h_1 (by decide)) ?_
    refine nm_rem (f := 43) hp_p0 h_1 (by decide) (fun z11 hz11 tz11 => ?_)
    refine ro_calli (va_runS (As := [.int p1, .int z11]) (rest := []) ⟨hx, hb, hml, hown, hts⟩ (a_X11_common_43 l G ct p1 z11 (rg_w (c := 1) (d := 64) h_1 (by decide)) hz11) (va_cwS 2 hts gX11_common_X11_common rfl rfl rfl (by decide +kernel) ⟨Nat.le_of_ble_eq_true rfl, Nat.le_of_ble_eq_true rfl⟩) (ro_pre hK (hP.sub [] rfl)) rfl rfl hl.1 rfl (lv_room (Nat.le_of_ble_eq_true rfl)) dX11_common_12 ⟨Nat.zero_le _, Nat.zero_le _⟩) hS hP (fun r12 H locs wr12 hP hS => ?_)
    obtain ⟨p_2, -⟩ := wr12
    exact W.iret (v := r12) hx hb hr (fun t ht hW => ⟨⟨r12, (), rfl, ⟨p_2, trivial⟩, trivial⟩, hS.F ht⟩) hS.2.2 dX11_common_15
  · have h_3 : rg 0 0 p1 := r_eq_l_i (e := 0) (f := 0) c1 hp_p1 (rgn 0 (x := 0) (by decide)) (by decide)
    refine lv_iload_n hx hb dX11_common_4 rfl (lv_at hl 0 rfl) ?_
    refine lv_goto (tgt := 15) hx hb dX11_common_5 (by decide) ?_
    exact W.iret (v := p0) hx hb hr (fun t ht hW => ⟨⟨p0, (), rfl, ⟨hp_p0, trivial⟩, trivial⟩, hS.F ht⟩) hS.2.2 dX11_common_15

set_option maxHeartbeats 4000000 in
set_option maxRecDepth 100000 in
theorem a_X11_common_45 (l : Launch) (G : va_G) (ct : Nat → ClassId) (p0 : Int32) (p1 : Int32) (hp_p0 : rg 1 64 p0) (hp_p1 : rg 0 45 p1) : Met l yX11_common wsX11_common ({ frames := 45, cells := 0, slots := 0, locals := 1350 }) (va_Pc [.int p0, .int p1] (roP G ct [])) (roQ (fun r => rg 1 64 r ∧ True)) 0 0 no := by
  refine Met.ofW (cc := cX11_common) (maxL := 2) (ret := (some .int)) (by decide) rfl ?_
  intro p e s m args below meth c s₁ B hml hv
  obtain ⟨rfl, hP, hK⟩ := hv
  have hx := B.exec
  have hb := B.bytes
  have hr := B.returns
  have hts := atoms_spec (ws := wsX11_common) B.pre
  have hown : s.vm.findClass RX11 = some m.cls := findClass_of_methodNamed B.named
  have hlocks := B.notSynchronized
  have hS : va_S no s.heap s.heap [] := va_S.rf
  have hl := lv_entry ([.int p0, .int p1]) (n := 2) (Nat.le_of_ble_eq_true rfl)
  rw [lg_entry_eq]
  generalize (lg_sl ([.int p0, .int p1]) ++ List.replicate (2 - (lg_sl ([.int p0, .int p1])).length) Slot.unset).toArray = ls at hl ⊢
  have hl : lv_has ls 2 [(0, .int p0), (1, .int p1)] := hl
  refine lv_iload_n hx hb dX11_common_0 rfl (lv_at hl 1 rfl) ?_
  refine lv_if_ne (tgt := 8) hx hb dX11_common_1 (by decide) (fun c1 => ?_) (fun c1 => ?_)
  · have h_1 : rg 1 45 p1 := r_ne_lo_i c1 hp_p1 (by decide) (by decide)
    refine lv_iload_n hx hb dX11_common_8 rfl (lv_at hl 1 rfl) ?_
    refine lv_iload_n hx hb dX11_common_9 rfl (lv_at hl 0 rfl) ?_
    refine lv_iload_n hx hb dX11_common_10 rfl (lv_at hl 1 rfl) ?_
    refine lv_irem hx hb dX11_common_11 (rne0 h_1 (by decide)) ?_
    refine nm_rem (f := 44) hp_p0 h_1 (by decide) (fun z11 hz11 tz11 => ?_)
    refine ro_calli (va_runS (As := [.int p1, .int z11]) (rest := []) ⟨hx, hb, hml, hown, hts⟩ (a_X11_common_44 l G ct p1 z11 (rg_w (c := 1) (d := 64) h_1 (by decide)) hz11) (va_cwS 2 hts gX11_common_X11_common rfl rfl rfl (by decide +kernel) ⟨Nat.le_of_ble_eq_true rfl, Nat.le_of_ble_eq_true rfl⟩) (ro_pre hK (hP.sub [] rfl)) rfl rfl hl.1 rfl (lv_room (Nat.le_of_ble_eq_true rfl)) dX11_common_12 ⟨Nat.zero_le _, Nat.zero_le _⟩) hS hP (fun r12 H locs wr12 hP hS => ?_)
    obtain ⟨p_2, -⟩ := wr12
    exact W.iret (v := r12) hx hb hr (fun t ht hW => ⟨⟨r12, (), rfl, ⟨p_2, trivial⟩, trivial⟩, hS.F ht⟩) hS.2.2 dX11_common_15
  · have h_3 : rg 0 0 p1 := r_eq_l_i (e := 0) (f := 0) c1 hp_p1 (rgn 0 (x := 0) (by decide)) (by decide)
    refine lv_iload_n hx hb dX11_common_4 rfl (lv_at hl 0 rfl) ?_
    refine lv_goto (tgt := 15) hx hb dX11_common_5 (by decide) ?_
    exact W.iret (v := p0) hx hb hr (fun t ht hW => ⟨⟨p0, (), rfl, ⟨hp_p0, trivial⟩, trivial⟩, hS.F ht⟩) hS.2.2 dX11_common_15

set_option maxHeartbeats 4000000 in
set_option maxRecDepth 100000 in
theorem a_X11_common_46 (l : Launch) (G : va_G) (ct : Nat → ClassId) (p0 : Int32) (p1 : Int32) (hp_p0 : rg 1 64 p0) (hp_p1 : rg 0 46 p1) : Met l yX11_common wsX11_common ({ frames := 46, cells := 0, slots := 0, locals := 1380 }) (va_Pc [.int p0, .int p1] (roP G ct [])) (roQ (fun r => rg 1 64 r ∧ True)) 0 0 no := by
  refine Met.ofW (cc := cX11_common) (maxL := 2) (ret := (some .int)) (by decide) rfl ?_
  intro p e s m args below meth c s₁ B hml hv
  obtain ⟨rfl, hP, hK⟩ := hv
  have hx := B.exec
  have hb := B.bytes
  have hr := B.returns
  have hts := atoms_spec (ws := wsX11_common) B.pre
  have hown : s.vm.findClass RX11 = some m.cls := findClass_of_methodNamed B.named
  have hlocks := B.notSynchronized
  have hS : va_S no s.heap s.heap [] := va_S.rf
  have hl := lv_entry ([.int p0, .int p1]) (n := 2) (Nat.le_of_ble_eq_true rfl)
  rw [lg_entry_eq]
  generalize (lg_sl ([.int p0, .int p1]) ++ List.replicate (2 - (lg_sl ([.int p0, .int p1])).length) Slot.unset).toArray = ls at hl ⊢
  have hl : lv_has ls 2 [(0, .int p0), (1, .int p1)] := hl
  refine lv_iload_n hx hb dX11_common_0 rfl (lv_at hl 1 rfl) ?_
  refine lv_if_ne (tgt := 8) hx hb dX11_common_1 (by decide) (fun c1 => ?_) (fun c1 => ?_)
  · have h_1 : rg 1 46 p1 := r_ne_lo_i c1 hp_p1 (by decide) (by decide)
    refine lv_iload_n hx hb dX11_common_8 rfl (lv_at hl 1 rfl) ?_
    refine lv_iload_n hx hb dX11_common_9 rfl (lv_at hl 0 rfl) ?_
    refine lv_iload_n hx hb dX11_common_10 rfl (lv_at hl 1 rfl) ?_
    refine lv_irem hx hb dX11_common_11 (rne0 h_1 (by decide)) ?_
    refine nm_rem (f := 45) hp_p0 h_1 (by decide) (fun z11 hz11 tz11 => ?_)
    refine ro_calli (va_runS (As := [.int p1, .int z11]) (rest := []) ⟨hx, hb, hml, hown, hts⟩ (a_X11_common_45 l G ct p1 z11 (rg_w (c := 1) (d := 64) h_1 (by decide)) hz11) (va_cwS 2 hts gX11_common_X11_common rfl rfl rfl (by decide +kernel) ⟨Nat.le_of_ble_eq_true rfl, Nat.le_of_ble_eq_true rfl⟩) (ro_pre hK (hP.sub [] rfl)) rfl rfl hl.1 rfl (lv_room (Nat.le_of_ble_eq_true rfl)) dX11_common_12 ⟨Nat.zero_le _, Nat.zero_le _⟩) hS hP (fun r12 H locs wr12 hP hS => ?_)
    obtain ⟨p_2, -⟩ := wr12
    exact W.iret (v := r12) hx hb hr (fun t ht hW => ⟨⟨r12, (), rfl, ⟨p_2, trivial⟩, trivial⟩, hS.F ht⟩) hS.2.2 dX11_common_15
  · have h_3 : rg 0 0 p1 := r_eq_l_i (e := 0) (f := 0) c1 hp_p1 (rgn 0 (x := 0) (by decide)) (by decide)
    refine lv_iload_n hx hb dX11_common_4 rfl (lv_at hl 0 rfl) ?_
    refine lv_goto (tgt := 15) hx hb dX11_common_5 (by decide) ?_
    exact W.iret (v := p0) hx hb hr (fun t ht hW => ⟨⟨p0, (), rfl, ⟨hp_p0, trivial⟩, trivial⟩, hS.F ht⟩) hS.2.2 dX11_common_15

set_option maxHeartbeats 4000000 in
set_option maxRecDepth 100000 in
theorem a_X11_common_47 (l : Launch) (G : va_G) (ct : Nat → ClassId) (p0 : Int32) (p1 : Int32) (hp_p0 : rg 1 64 p0) (hp_p1 : rg 0 47 p1) : Met l yX11_common wsX11_common ({ frames := 47, cells := 0, slots := 0, locals := 1410 }) (va_Pc [.int p0, .int p1] (roP G ct [])) (roQ (fun r => rg 1 64 r ∧ True)) 0 0 no := by
  refine Met.ofW (cc := cX11_common) (maxL := 2) (ret := (some .int)) (by decide) rfl ?_
  intro p e s m args below meth c s₁ B hml hv
  obtain ⟨rfl, hP, hK⟩ := hv
  have hx := B.exec
  have hb := B.bytes
  have hr := B.returns
  have hts := atoms_spec (ws := wsX11_common) B.pre
  have hown : s.vm.findClass RX11 = some m.cls := findClass_of_methodNamed B.named
  have hlocks := B.notSynchronized
  have hS : va_S no s.heap s.heap [] := va_S.rf
  have hl := lv_entry ([.int p0, .int p1]) (n := 2) (Nat.le_of_ble_eq_true rfl)
  rw [lg_entry_eq]
  generalize (lg_sl ([.int p0, .int p1]) ++ List.replicate (2 - (lg_sl ([.int p0, .int p1])).length) Slot.unset).toArray = ls at hl ⊢
  have hl : lv_has ls 2 [(0, .int p0), (1, .int p1)] := hl
  refine lv_iload_n hx hb dX11_common_0 rfl (lv_at hl 1 rfl) ?_
  refine lv_if_ne (tgt := 8) hx hb dX11_common_1 (by decide) (fun c1 => ?_) (fun c1 => ?_)
  · have h_1 : rg 1 47 p1 := r_ne_lo_i c1 hp_p1 (by decide) (by decide)
    refine lv_iload_n hx hb dX11_common_8 rfl (lv_at hl 1 rfl) ?_
    refine lv_iload_n hx hb dX11_common_9 rfl (lv_at hl 0 rfl) ?_
    refine lv_iload_n hx hb dX11_common_10 rfl (lv_at hl 1 rfl) ?_
    refine lv_irem hx hb dX11_common_11 (rne0 h_1 (by decide)) ?_
    refine nm_rem (f := 46) hp_p0 h_1 (by decide) (fun z11 hz11 tz11 => ?_)
    refine ro_calli (va_runS (As := [.int p1, .int z11]) (rest := []) ⟨hx, hb, hml, hown, hts⟩ (a_X11_common_46 l G ct p1 z11 (rg_w (c := 1) (d := 64) h_1 (by decide)) hz11) (va_cwS 2 hts gX11_common_X11_common rfl rfl rfl (by decide +kernel) ⟨Nat.le_of_ble_eq_true rfl, Nat.le_of_ble_eq_true rfl⟩) (ro_pre hK (hP.sub [] rfl)) rfl rfl hl.1 rfl (lv_room (Nat.le_of_ble_eq_true rfl)) dX11_common_12 ⟨Nat.zero_le _, Nat.zero_le _⟩) hS hP (fun r12 H locs wr12 hP hS => ?_)
    obtain ⟨p_2, -⟩ := wr12
    exact W.iret (v := r12) hx hb hr (fun t ht hW => ⟨⟨r12, (), rfl, ⟨p_2, trivial⟩, trivial⟩, hS.F ht⟩) hS.2.2 dX11_common_15
  · have h_3 : rg 0 0 p1 := r_eq_l_i (e := 0) (f := 0) c1 hp_p1 (rgn 0 (x := 0) (by decide)) (by decide)
    refine lv_iload_n hx hb dX11_common_4 rfl (lv_at hl 0 rfl) ?_
    refine lv_goto (tgt := 15) hx hb dX11_common_5 (by decide) ?_
    exact W.iret (v := p0) hx hb hr (fun t ht hW => ⟨⟨p0, (), rfl, ⟨hp_p0, trivial⟩, trivial⟩, hS.F ht⟩) hS.2.2 dX11_common_15

set_option maxHeartbeats 4000000 in
set_option maxRecDepth 100000 in
theorem a_X11_common_48 (l : Launch) (G : va_G) (ct : Nat → ClassId) (p0 : Int32) (p1 : Int32) (hp_p0 : rg 1 64 p0) (hp_p1 : rg 0 48 p1) : Met l yX11_common wsX11_common ({ frames := 48, cells := 0, slots := 0, locals := 1440 }) (va_Pc [.int p0, .int p1] (roP G ct [])) (roQ (fun r => rg 1 64 r ∧ True)) 0 0 no := by
  refine Met.ofW (cc := cX11_common) (maxL := 2) (ret := (some .int)) (by decide) rfl ?_
  intro p e s m args below meth c s₁ B hml hv
  obtain ⟨rfl, hP, hK⟩ := hv
  have hx := B.exec
  have hb := B.bytes
  have hr := B.returns
  have hts := atoms_spec (ws := wsX11_common) B.pre
  have hown : s.vm.findClass RX11 = some m.cls := findClass_of_methodNamed B.named
  have hlocks := B.notSynchronized
  have hS : va_S no s.heap s.heap [] := va_S.rf
  have hl := lv_entry ([.int p0, .int p1]) (n := 2) (Nat.le_of_ble_eq_true rfl)
  rw [lg_entry_eq]
  generalize (lg_sl ([.int p0, .int p1]) ++ List.replicate (2 - (lg_sl ([.int p0, .int p1])).length) Slot.unset).toArray = ls at hl ⊢
  have hl : lv_has ls 2 [(0, .int p0), (1, .int p1)] := hl
  refine lv_iload_n hx hb dX11_common_0 rfl (lv_at hl 1 rfl) ?_
  refine lv_if_ne (tgt := 8) hx hb dX11_common_1 (by decide) (fun c1 => ?_) (fun c1 => ?_)
  · have h_1 : rg 1 48 p1 := r_ne_lo_i c1 hp_p1 (by decide) (by decide)
    refine lv_iload_n hx hb dX11_common_8 rfl (lv_at hl 1 rfl) ?_
    refine lv_iload_n hx hb dX11_common_9 rfl (lv_at hl 0 rfl) ?_
    refine lv_iload_n hx hb dX11_common_10 rfl (lv_at hl 1 rfl) ?_
    refine lv_irem hx hb dX11_common_11 (rne0 h_1 (by decide)) ?_
    refine nm_rem (f := 47) hp_p0 h_1 (by decide) (fun z11 hz11 tz11 => ?_)
    refine ro_calli (va_runS (As := [.int p1, .int z11]) (rest := []) ⟨hx, hb, hml, hown, hts⟩ (a_X11_common_47 l G ct p1 z11 (rg_w (c := 1) (d := 64) h_1 (by decide)) hz11) (va_cwS 2 hts gX11_common_X11_common rfl rfl rfl (by decide +kernel) ⟨Nat.le_of_ble_eq_true rfl, Nat.le_of_ble_eq_true rfl⟩) (ro_pre hK (hP.sub [] rfl)) rfl rfl hl.1 rfl (lv_room (Nat.le_of_ble_eq_true rfl)) dX11_common_12 ⟨Nat.zero_le _, Nat.zero_le _⟩) hS hP (fun r12 H locs wr12 hP hS => ?_)
    obtain ⟨p_2, -⟩ := wr12
    exact W.iret (v := r12) hx hb hr (fun t ht hW => ⟨⟨r12, (), rfl, ⟨p_2, trivial⟩, trivial⟩, hS.F ht⟩) hS.2.2 dX11_common_15
  · have h_3 : rg 0 0 p1 := r_eq_l_i (e := 0) (f := 0) c1 hp_p1 (rgn 0 (x := 0) (by decide)) (by decide)
    refine lv_iload_n hx hb dX11_common_4 rfl (lv_at hl 0 rfl) ?_
    refine lv_goto (tgt := 15) hx hb dX11_common_5 (by decide) ?_
    exact W.iret (v := p0) hx hb hr (fun t ht hW => ⟨⟨p0, (), rfl, ⟨hp_p0, trivial⟩, trivial⟩, hS.F ht⟩) hS.2.2 dX11_common_15

set_option maxHeartbeats 4000000 in
set_option maxRecDepth 100000 in
theorem a_X11_common_49 (l : Launch) (G : va_G) (ct : Nat → ClassId) (p0 : Int32) (p1 : Int32) (hp_p0 : rg 1 64 p0) (hp_p1 : rg 0 49 p1) : Met l yX11_common wsX11_common ({ frames := 49, cells := 0, slots := 0, locals := 1470 }) (va_Pc [.int p0, .int p1] (roP G ct [])) (roQ (fun r => rg 1 64 r ∧ True)) 0 0 no := by
  refine Met.ofW (cc := cX11_common) (maxL := 2) (ret := (some .int)) (by decide) rfl ?_
  intro p e s m args below meth c s₁ B hml hv
  obtain ⟨rfl, hP, hK⟩ := hv
  have hx := B.exec
  have hb := B.bytes
  have hr := B.returns
  have hts := atoms_spec (ws := wsX11_common) B.pre
  have hown : s.vm.findClass RX11 = some m.cls := findClass_of_methodNamed B.named
  have hlocks := B.notSynchronized
  have hS : va_S no s.heap s.heap [] := va_S.rf
  have hl := lv_entry ([.int p0, .int p1]) (n := 2) (Nat.le_of_ble_eq_true rfl)
  rw [lg_entry_eq]
  generalize (lg_sl ([.int p0, .int p1]) ++ List.replicate (2 - (lg_sl ([.int p0, .int p1])).length) Slot.unset).toArray = ls at hl ⊢
  have hl : lv_has ls 2 [(0, .int p0), (1, .int p1)] := hl
  refine lv_iload_n hx hb dX11_common_0 rfl (lv_at hl 1 rfl) ?_
  refine lv_if_ne (tgt := 8) hx hb dX11_common_1 (by decide) (fun c1 => ?_) (fun c1 => ?_)
  · have h_1 : rg 1 49 p1 := r_ne_lo_i c1 hp_p1 (by decide) (by decide)
    refine lv_iload_n hx hb dX11_common_8 rfl (lv_at hl 1 rfl) ?_
    refine lv_iload_n hx hb dX11_common_9 rfl (lv_at hl 0 rfl) ?_
    refine lv_iload_n hx hb dX11_common_10 rfl (lv_at hl 1 rfl) ?_
    refine lv_irem hx hb dX11_common_11 (rne0 h_1 (by decide)) ?_
    refine nm_rem (f := 48) hp_p0 h_1 (by decide) (fun z11 hz11 tz11 => ?_)
    refine ro_calli (va_runS (As := [.int p1, .int z11]) (rest := []) ⟨hx, hb, hml, hown, hts⟩ (a_X11_common_48 l G ct p1 z11 (rg_w (c := 1) (d := 64) h_1 (by decide)) hz11) (va_cwS 2 hts gX11_common_X11_common rfl rfl rfl (by decide +kernel) ⟨Nat.le_of_ble_eq_true rfl, Nat.le_of_ble_eq_true rfl⟩) (ro_pre hK (hP.sub [] rfl)) rfl rfl hl.1 rfl (lv_room (Nat.le_of_ble_eq_true rfl)) dX11_common_12 ⟨Nat.zero_le _, Nat.zero_le _⟩) hS hP (fun r12 H locs wr12 hP hS => ?_)
    obtain ⟨p_2, -⟩ := wr12
    exact W.iret (v := r12) hx hb hr (fun t ht hW => ⟨⟨r12, (), rfl, ⟨p_2, trivial⟩, trivial⟩, hS.F ht⟩) hS.2.2 dX11_common_15
  · have h_3 : rg 0 0 p1 := r_eq_l_i (e := 0) (f := 0) c1 hp_p1 (rgn 0 (x := 0) (by decide)) (by decide)
    refine lv_iload_n hx hb dX11_common_4 rfl (lv_at hl 0 rfl) ?_
    refine lv_goto (tgt := 15) hx hb dX11_common_5 (by decide) ?_
    exact W.iret (v := p0) hx hb hr (fun t ht hW => ⟨⟨p0, (), rfl, ⟨hp_p0, trivial⟩, trivial⟩, hS.F ht⟩) hS.2.2 dX11_common_15

set_option maxHeartbeats 4000000 in
set_option maxRecDepth 100000 in
theorem a_X11_common_50 (l : Launch) (G : va_G) (ct : Nat → ClassId) (p0 : Int32) (p1 : Int32) (hp_p0 : rg 1 64 p0) (hp_p1 : rg 0 50 p1) : Met l yX11_common wsX11_common ({ frames := 50, cells := 0, slots := 0, locals := 1500 }) (va_Pc [.int p0, .int p1] (roP G ct [])) (roQ (fun r => rg 1 64 r ∧ True)) 0 0 no := by
  refine Met.ofW (cc := cX11_common) (maxL := 2) (ret := (some .int)) (by decide) rfl ?_
  intro p e s m args below meth c s₁ B hml hv
  obtain ⟨rfl, hP, hK⟩ := hv
  have hx := B.exec
  have hb := B.bytes
  have hr := B.returns
  have hts := atoms_spec (ws := wsX11_common) B.pre
  have hown : s.vm.findClass RX11 = some m.cls := findClass_of_methodNamed B.named
  have hlocks := B.notSynchronized
  have hS : va_S no s.heap s.heap [] := va_S.rf
  have hl := lv_entry ([.int p0, .int p1]) (n := 2) (Nat.le_of_ble_eq_true rfl)
  rw [lg_entry_eq]
  generalize (lg_sl ([.int p0, .int p1]) ++ List.replicate (2 - (lg_sl ([.int p0, .int p1])).length) Slot.unset).toArray = ls at hl ⊢
  have hl : lv_has ls 2 [(0, .int p0), (1, .int p1)] := hl
  refine lv_iload_n hx hb dX11_common_0 rfl (lv_at hl 1 rfl) ?_
  refine lv_if_ne (tgt := 8) hx hb dX11_common_1 (by decide) (fun c1 => ?_) (fun c1 => ?_)
  · have h_1 : rg 1 50 p1 := r_ne_lo_i c1 hp_p1 (by decide) (by decide)
    refine lv_iload_n hx hb dX11_common_8 rfl (lv_at hl 1 rfl) ?_
    refine lv_iload_n hx hb dX11_common_9 rfl (lv_at hl 0 rfl) ?_
    refine lv_iload_n hx hb dX11_common_10 rfl (lv_at hl 1 rfl) ?_
    refine lv_irem hx hb dX11_common_11 (rne0 h_1 (by decide)) ?_
    refine nm_rem (f := 49) hp_p0 h_1 (by decide) (fun z11 hz11 tz11 => ?_)
    refine ro_calli (va_runS (As := [.int p1, .int z11]) (rest := []) ⟨hx, hb, hml, hown, hts⟩ (a_X11_common_49 l G ct p1 z11 (rg_w (c := 1) (d := 64) h_1 (by decide)) hz11) (va_cwS 2 hts gX11_common_X11_common rfl rfl rfl (by decide +kernel) ⟨Nat.le_of_ble_eq_true rfl, Nat.le_of_ble_eq_true rfl⟩) (ro_pre hK (hP.sub [] rfl)) rfl rfl hl.1 rfl (lv_room (Nat.le_of_ble_eq_true rfl)) dX11_common_12 ⟨Nat.zero_le _, Nat.zero_le _⟩) hS hP (fun r12 H locs wr12 hP hS => ?_)
    obtain ⟨p_2, -⟩ := wr12
    exact W.iret (v := r12) hx hb hr (fun t ht hW => ⟨⟨r12, (), rfl, ⟨p_2, trivial⟩, trivial⟩, hS.F ht⟩) hS.2.2 dX11_common_15
  · have h_3 : rg 0 0 p1 := r_eq_l_i (e := 0) (f := 0) c1 hp_p1 (rgn 0 (x := 0) (by decide)) (by decide)
    refine lv_iload_n hx hb dX11_common_4 rfl (lv_at hl 0 rfl) ?_
    refine lv_goto (tgt := 15) hx hb dX11_common_5 (by decide) ?_
    exact W.iret (v := p0) hx hb hr (fun t ht hW => ⟨⟨p0, (), rfl, ⟨hp_p0, trivial⟩, trivial⟩, hS.F ht⟩) hS.2.2 dX11_common_15

set_option maxHeartbeats 4000000 in
set_option maxRecDepth 100000 in
theorem a_X11_common_51 (l : Launch) (G : va_G) (ct : Nat → ClassId) (p0 : Int32) (p1 : Int32) (hp_p0 : rg 1 64 p0) (hp_p1 : rg 0 51 p1) : Met l yX11_common wsX11_common ({ frames := 51, cells := 0, slots := 0, locals := 1530 }) (va_Pc [.int p0, .int p1] (roP G ct [])) (roQ (fun r => rg 1 64 r ∧ True)) 0 0 no := by
  refine Met.ofW (cc := cX11_common) (maxL := 2) (ret := (some .int)) (by decide) rfl ?_
  intro p e s m args below meth c s₁ B hml hv
  obtain ⟨rfl, hP, hK⟩ := hv
  have hx := B.exec
  have hb := B.bytes
  have hr := B.returns
  have hts := atoms_spec (ws := wsX11_common) B.pre
  have hown : s.vm.findClass RX11 = some m.cls := findClass_of_methodNamed B.named
  have hlocks := B.notSynchronized
  have hS : va_S no s.heap s.heap [] := va_S.rf
  have hl := lv_entry ([.int p0, .int p1]) (n := 2) (Nat.le_of_ble_eq_true rfl)
  rw [lg_entry_eq]
  generalize (lg_sl ([.int p0, .int p1]) ++ List.replicate (2 - (lg_sl ([.int p0, .int p1])).length) Slot.unset).toArray = ls at hl ⊢
  have hl : lv_has ls 2 [(0, .int p0), (1, .int p1)] := hl
  refine lv_iload_n hx hb dX11_common_0 rfl (lv_at hl 1 rfl) ?_
  refine lv_if_ne (tgt := 8) hx hb dX11_common_1 (by decide) (fun c1 => ?_) (fun c1 => ?_)
  · have h_1 : rg 1 51 p1 := r_ne_lo_i c1 hp_p1 (by decide) (by decide)
    refine lv_iload_n hx hb dX11_common_8 rfl (lv_at hl 1 rfl) ?_
    refine lv_iload_n hx hb dX11_common_9 rfl (lv_at hl 0 rfl) ?_
    refine lv_iload_n hx hb dX11_common_10 rfl (lv_at hl 1 rfl) ?_
    refine lv_irem hx hb dX11_common_11 (rne0 h_1 (by decide)) ?_
    refine nm_rem (f := 50) hp_p0 h_1 (by decide) (fun z11 hz11 tz11 => ?_)
    refine ro_calli (va_runS (As := [.int p1, .int z11]) (rest := []) ⟨hx, hb, hml, hown, hts⟩ (a_X11_common_50 l G ct p1 z11 (rg_w (c := 1) (d := 64) h_1 (by decide)) hz11) (va_cwS 2 hts gX11_common_X11_common rfl rfl rfl (by decide +kernel) ⟨Nat.le_of_ble_eq_true rfl, Nat.le_of_ble_eq_true rfl⟩) (ro_pre hK (hP.sub [] rfl)) rfl rfl hl.1 rfl (lv_room (Nat.le_of_ble_eq_true rfl)) dX11_common_12 ⟨Nat.zero_le _, Nat.zero_le _⟩) hS hP (fun r12 H locs wr12 hP hS => ?_)
    obtain ⟨p_2, -⟩ := wr12
    exact W.iret (v := r12) hx hb hr (fun t ht hW => ⟨⟨r12, (), rfl, ⟨p_2, trivial⟩, trivial⟩, hS.F ht⟩) hS.2.2 dX11_common_15
  · have h_3 : rg 0 0 p1 := r_eq_l_i (e := 0) (f := 0) c1 hp_p1 (rgn 0 (x := 0) (by decide)) (by decide)
    refine lv_iload_n hx hb dX11_common_4 rfl (lv_at hl 0 rfl) ?_
    refine lv_goto (tgt := 15) hx hb dX11_common_5 (by decide) ?_
    exact W.iret (v := p0) hx hb hr (fun t ht hW => ⟨⟨p0, (), rfl, ⟨hp_p0, trivial⟩, trivial⟩, hS.F ht⟩) hS.2.2 dX11_common_15

set_option maxHeartbeats 4000000 in
set_option maxRecDepth 100000 in
theorem a_X11_common_52 (l : Launch) (G : va_G) (ct : Nat → ClassId) (p0 : Int32) (p1 : Int32) (hp_p0 : rg 1 64 p0) (hp_p1 : rg 0 52 p1) : Met l yX11_common wsX11_common ({ frames := 52, cells := 0, slots := 0, locals := 1560 }) (va_Pc [.int p0, .int p1] (roP G ct [])) (roQ (fun r => rg 1 64 r ∧ True)) 0 0 no := by
  refine Met.ofW (cc := cX11_common) (maxL := 2) (ret := (some .int)) (by decide) rfl ?_
  intro p e s m args below meth c s₁ B hml hv
  obtain ⟨rfl, hP, hK⟩ := hv
  have hx := B.exec
  have hb := B.bytes
  have hr := B.returns
  have hts := atoms_spec (ws := wsX11_common) B.pre
  have hown : s.vm.findClass RX11 = some m.cls := findClass_of_methodNamed B.named
  have hlocks := B.notSynchronized
  have hS : va_S no s.heap s.heap [] := va_S.rf
  have hl := lv_entry ([.int p0, .int p1]) (n := 2) (Nat.le_of_ble_eq_true rfl)
  rw [lg_entry_eq]
  generalize (lg_sl ([.int p0, .int p1]) ++ List.replicate (2 - (lg_sl ([.int p0, .int p1])).length) Slot.unset).toArray = ls at hl ⊢
  have hl : lv_has ls 2 [(0, .int p0), (1, .int p1)] := hl
  refine lv_iload_n hx hb dX11_common_0 rfl (lv_at hl 1 rfl) ?_
  refine lv_if_ne (tgt := 8) hx hb dX11_common_1 (by decide) (fun c1 => ?_) (fun c1 => ?_)
  · have h_1 : rg 1 52 p1 := r_ne_lo_i c1 hp_p1 (by decide) (by decide)
    refine lv_iload_n hx hb dX11_common_8 rfl (lv_at hl 1 rfl) ?_
    refine lv_iload_n hx hb dX11_common_9 rfl (lv_at hl 0 rfl) ?_
    refine lv_iload_n hx hb dX11_common_10 rfl (lv_at hl 1 rfl) ?_
    refine lv_irem hx hb dX11_common_11 (rne0 h_1 (by decide)) ?_
    refine nm_rem (f := 51) hp_p0 h_1 (by decide) (fun z11 hz11 tz11 => ?_)
    refine ro_calli (va_runS (As := [.int p1, .int z11]) (rest := []) ⟨hx, hb, hml, hown, hts⟩ (a_X11_common_51 l G ct p1 z11 (rg_w (c := 1) (d := 64) h_1 (by decide)) hz11) (va_cwS 2 hts gX11_common_X11_common rfl rfl rfl (by decide +kernel) ⟨Nat.le_of_ble_eq_true rfl, Nat.le_of_ble_eq_true rfl⟩) (ro_pre hK (hP.sub [] rfl)) rfl rfl hl.1 rfl (lv_room (Nat.le_of_ble_eq_true rfl)) dX11_common_12 ⟨Nat.zero_le _, Nat.zero_le _⟩) hS hP (fun r12 H locs wr12 hP hS => ?_)
    obtain ⟨p_2, -⟩ := wr12
    exact W.iret (v := r12) hx hb hr (fun t ht hW => ⟨⟨r12, (), rfl, ⟨p_2, trivial⟩, trivial⟩, hS.F ht⟩) hS.2.2 dX11_common_15
  · have h_3 : rg 0 0 p1 := r_eq_l_i (e := 0) (f := 0) c1 hp_p1 (rgn 0 (x := 0) (by decide)) (by decide)
    refine lv_iload_n hx hb dX11_common_4 rfl (lv_at hl 0 rfl) ?_
    refine lv_goto (tgt := 15) hx hb dX11_common_5 (by decide) ?_
    exact W.iret (v := p0) hx hb hr (fun t ht hW => ⟨⟨p0, (), rfl, ⟨hp_p0, trivial⟩, trivial⟩, hS.F ht⟩) hS.2.2 dX11_common_15

set_option maxHeartbeats 4000000 in
set_option maxRecDepth 100000 in
theorem a_X11_common_53 (l : Launch) (G : va_G) (ct : Nat → ClassId) (p0 : Int32) (p1 : Int32) (hp_p0 : rg 1 64 p0) (hp_p1 : rg 0 53 p1) : Met l yX11_common wsX11_common ({ frames := 53, cells := 0, slots := 0, locals := 1590 }) (va_Pc [.int p0, .int p1] (roP G ct [])) (roQ (fun r => rg 1 64 r ∧ True)) 0 0 no := by
  refine Met.ofW (cc := cX11_common) (maxL := 2) (ret := (some .int)) (by decide) rfl ?_
  intro p e s m args below meth c s₁ B hml hv
  obtain ⟨rfl, hP, hK⟩ := hv
  have hx := B.exec
  have hb := B.bytes
  have hr := B.returns
  have hts := atoms_spec (ws := wsX11_common) B.pre
  have hown : s.vm.findClass RX11 = some m.cls := findClass_of_methodNamed B.named
  have hlocks := B.notSynchronized
  have hS : va_S no s.heap s.heap [] := va_S.rf
  have hl := lv_entry ([.int p0, .int p1]) (n := 2) (Nat.le_of_ble_eq_true rfl)
  rw [lg_entry_eq]
  generalize (lg_sl ([.int p0, .int p1]) ++ List.replicate (2 - (lg_sl ([.int p0, .int p1])).length) Slot.unset).toArray = ls at hl ⊢
  have hl : lv_has ls 2 [(0, .int p0), (1, .int p1)] := hl
  refine lv_iload_n hx hb dX11_common_0 rfl (lv_at hl 1 rfl) ?_
  refine lv_if_ne (tgt := 8) hx hb dX11_common_1 (by decide) (fun c1 => ?_) (fun c1 => ?_)
  · have h_1 : rg 1 53 p1 := r_ne_lo_i c1 hp_p1 (by decide) (by decide)
    refine lv_iload_n hx hb dX11_common_8 rfl (lv_at hl 1 rfl) ?_
    refine lv_iload_n hx hb dX11_common_9 rfl (lv_at hl 0 rfl) ?_
    refine lv_iload_n hx hb dX11_common_10 rfl (lv_at hl 1 rfl) ?_
    refine lv_irem hx hb dX11_common_11 (rne0 h_1 (by decide)) ?_
    refine nm_rem (f := 52) hp_p0 h_1 (by decide) (fun z11 hz11 tz11 => ?_)
    refine ro_calli (va_runS (As := [.int p1, .int z11]) (rest := []) ⟨hx, hb, hml, hown, hts⟩ (a_X11_common_52 l G ct p1 z11 (rg_w (c := 1) (d := 64) h_1 (by decide)) hz11) (va_cwS 2 hts gX11_common_X11_common rfl rfl rfl (by decide +kernel) ⟨Nat.le_of_ble_eq_true rfl, Nat.le_of_ble_eq_true rfl⟩) (ro_pre hK (hP.sub [] rfl)) rfl rfl hl.1 rfl (lv_room (Nat.le_of_ble_eq_true rfl)) dX11_common_12 ⟨Nat.zero_le _, Nat.zero_le _⟩) hS hP (fun r12 H locs wr12 hP hS => ?_)
    obtain ⟨p_2, -⟩ := wr12
    exact W.iret (v := r12) hx hb hr (fun t ht hW => ⟨⟨r12, (), rfl, ⟨p_2, trivial⟩, trivial⟩, hS.F ht⟩) hS.2.2 dX11_common_15
  · have h_3 : rg 0 0 p1 := r_eq_l_i (e := 0) (f := 0) c1 hp_p1 (rgn 0 (x := 0) (by decide)) (by decide)
    refine lv_iload_n hx hb dX11_common_4 rfl (lv_at hl 0 rfl) ?_
    refine lv_goto (tgt := 15) hx hb dX11_common_5 (by decide) ?_
    exact W.iret (v := p0) hx hb hr (fun t ht hW => ⟨⟨p0, (), rfl, ⟨hp_p0, trivial⟩, trivial⟩, hS.F ht⟩) hS.2.2 dX11_common_15

set_option maxHeartbeats 4000000 in
set_option maxRecDepth 100000 in
theorem a_X11_common_54 (l : Launch) (G : va_G) (ct : Nat → ClassId) (p0 : Int32) (p1 : Int32) (hp_p0 : rg 1 64 p0) (hp_p1 : rg 0 54 p1) : Met l yX11_common wsX11_common ({ frames := 54, cells := 0, slots := 0, locals := 1620 }) (va_Pc [.int p0, .int p1] (roP G ct [])) (roQ (fun r => rg 1 64 r ∧ True)) 0 0 no := by
  refine Met.ofW (cc := cX11_common) (maxL := 2) (ret := (some .int)) (by decide) rfl ?_
  intro p e s m args below meth c s₁ B hml hv
  obtain ⟨rfl, hP, hK⟩ := hv
  have hx := B.exec
  have hb := B.bytes
  have hr := B.returns
  have hts := atoms_spec (ws := wsX11_common) B.pre
  have hown : s.vm.findClass RX11 = some m.cls := findClass_of_methodNamed B.named
  have hlocks := B.notSynchronized
  have hS : va_S no s.heap s.heap [] := va_S.rf
  have hl := lv_entry ([.int p0, .int p1]) (n := 2) (Nat.le_of_ble_eq_true rfl)
  rw [lg_entry_eq]
  generalize (lg_sl ([.int p0, .int p1]) ++ List.replicate (2 - (lg_sl ([.int p0, .int p1])).length) Slot.unset).toArray = ls at hl ⊢
  have hl : lv_has ls 2 [(0, .int p0), (1, .int p1)] := hl
  refine lv_iload_n hx hb dX11_common_0 rfl (lv_at hl 1 rfl) ?_
  refine lv_if_ne (tgt := 8) hx hb dX11_common_1 (by decide) (fun c1 => ?_) (fun c1 => ?_)
  · have h_1 : rg 1 54 p1 := r_ne_lo_i c1 hp_p1 (by decide) (by decide)
    refine lv_iload_n hx hb dX11_common_8 rfl (lv_at hl 1 rfl) ?_
    refine lv_iload_n hx hb dX11_common_9 rfl (lv_at hl 0 rfl) ?_
    refine lv_iload_n hx hb dX11_common_10 rfl (lv_at hl 1 rfl) ?_
    refine lv_irem hx hb dX11_common_11 (rne0 h_1 (by decide)) ?_
    refine nm_rem (f := 53) hp_p0 h_1 (by decide) (fun z11 hz11 tz11 => ?_)
    refine ro_calli (va_runS (As := [.int p1, .int z11]) (rest := []) ⟨hx, hb, hml, hown, hts⟩ (a_X11_common_53 l G ct p1 z11 (rg_w (c := 1) (d := 64) h_1 (by decide)) hz11) (va_cwS 2 hts gX11_common_X11_common rfl rfl rfl (by decide +kernel) ⟨Nat.le_of_ble_eq_true rfl, Nat.le_of_ble_eq_true rfl⟩) (ro_pre hK (hP.sub [] rfl)) rfl rfl hl.1 rfl (lv_room (Nat.le_of_ble_eq_true rfl)) dX11_common_12 ⟨Nat.zero_le _, Nat.zero_le _⟩) hS hP (fun r12 H locs wr12 hP hS => ?_)
    obtain ⟨p_2, -⟩ := wr12
    exact W.iret (v := r12) hx hb hr (fun t ht hW => ⟨⟨r12, (), rfl, ⟨p_2, trivial⟩, trivial⟩, hS.F ht⟩) hS.2.2 dX11_common_15
  · have h_3 : rg 0 0 p1 := r_eq_l_i (e := 0) (f := 0) c1 hp_p1 (rgn 0 (x := 0) (by decide)) (by decide)
    refine lv_iload_n hx hb dX11_common_4 rfl (lv_at hl 0 rfl) ?_
    refine lv_goto (tgt := 15) hx hb dX11_common_5 (by decide) ?_
    exact W.iret (v := p0) hx hb hr (fun t ht hW => ⟨⟨p0, (), rfl, ⟨hp_p0, trivial⟩, trivial⟩, hS.F ht⟩) hS.2.2 dX11_common_15

set_option maxHeartbeats 4000000 in
set_option maxRecDepth 100000 in
theorem a_X11_common_55 (l : Launch) (G : va_G) (ct : Nat → ClassId) (p0 : Int32) (p1 : Int32) (hp_p0 : rg 1 64 p0) (hp_p1 : rg 0 55 p1) : Met l yX11_common wsX11_common ({ frames := 55, cells := 0, slots := 0, locals := 1650 }) (va_Pc [.int p0, .int p1] (roP G ct [])) (roQ (fun r => rg 1 64 r ∧ True)) 0 0 no := by
  refine Met.ofW (cc := cX11_common) (maxL := 2) (ret := (some .int)) (by decide) rfl ?_
  intro p e s m args below meth c s₁ B hml hv
  obtain ⟨rfl, hP, hK⟩ := hv
  have hx := B.exec
  have hb := B.bytes
  have hr := B.returns
  have hts := atoms_spec (ws := wsX11_common) B.pre
  have hown : s.vm.findClass RX11 = some m.cls := findClass_of_methodNamed B.named
  have hlocks := B.notSynchronized
  have hS : va_S no s.heap s.heap [] := va_S.rf
  have hl := lv_entry ([.int p0, .int p1]) (n := 2) (Nat.le_of_ble_eq_true rfl)
  rw [lg_entry_eq]
  generalize (lg_sl ([.int p0, .int p1]) ++ List.replicate (2 - (lg_sl ([.int p0, .int p1])).length) Slot.unset).toArray = ls at hl ⊢
  have hl : lv_has ls 2 [(0, .int p0), (1, .int p1)] := hl
  refine lv_iload_n hx hb dX11_common_0 rfl (lv_at hl 1 rfl) ?_
  refine lv_if_ne (tgt := 8) hx hb dX11_common_1 (by decide) (fun c1 => ?_) (fun c1 => ?_)
  · have h_1 : rg 1 55 p1 := r_ne_lo_i c1 hp_p1 (by decide) (by decide)
    refine lv_iload_n hx hb dX11_common_8 rfl (lv_at hl 1 rfl) ?_
    refine lv_iload_n hx hb dX11_common_9 rfl (lv_at hl 0 rfl) ?_
    refine lv_iload_n hx hb dX11_common_10 rfl (lv_at hl 1 rfl) ?_
    refine lv_irem hx hb dX11_common_11 (rne0 h_1 (by decide)) ?_
    refine nm_rem (f := 54) hp_p0 h_1 (by decide) (fun z11 hz11 tz11 => ?_)
    refine ro_calli (va_runS (As := [.int p1, .int z11]) (rest := []) ⟨hx, hb, hml, hown, hts⟩ (a_X11_common_54 l G ct p1 z11 (rg_w (c := 1) (d := 64) h_1 (by decide)) hz11) (va_cwS 2 hts gX11_common_X11_common rfl rfl rfl (by decide +kernel) ⟨Nat.le_of_ble_eq_true rfl, Nat.le_of_ble_eq_true rfl⟩) (ro_pre hK (hP.sub [] rfl)) rfl rfl hl.1 rfl (lv_room (Nat.le_of_ble_eq_true rfl)) dX11_common_12 ⟨Nat.zero_le _, Nat.zero_le _⟩) hS hP (fun r12 H locs wr12 hP hS => ?_)
    obtain ⟨p_2, -⟩ := wr12
    exact W.iret (v := r12) hx hb hr (fun t ht hW => ⟨⟨r12, (), rfl, ⟨p_2, trivial⟩, trivial⟩, hS.F ht⟩) hS.2.2 dX11_common_15
  · have h_3 : rg 0 0 p1 := r_eq_l_i (e := 0) (f := 0) c1 hp_p1 (rgn 0 (x := 0) (by decide)) (by decide)
    refine lv_iload_n hx hb dX11_common_4 rfl (lv_at hl 0 rfl) ?_
    refine lv_goto (tgt := 15) hx hb dX11_common_5 (by decide) ?_
    exact W.iret (v := p0) hx hb hr (fun t ht hW => ⟨⟨p0, (), rfl, ⟨hp_p0, trivial⟩, trivial⟩, hS.F ht⟩) hS.2.2 dX11_common_15
