theorem dX11_copyRow_0 : decode cX11_copyRow 0 = .ok (.iconst 0, 1) := by decide +kernel
theorem dX11_copyRow_1 : decode cX11_copyRow 1 = .ok (.istore 4, 2) := by decide +kernel
theorem dX11_copyRow_3 : decode cX11_copyRow 3 = .ok (.iload 4, 2) := by decide +kernel
theorem dX11_copyRow_5 : decode cX11_copyRow 5 = .ok (.iload_n 1, 1) := by decide +kernel
theorem dX11_copyRow_6 : decode cX11_copyRow 6 = .ok (.if_icmp .ge 25, 3) := by decide +kernel
theorem dX11_copyRow_31 : decode cX11_copyRow 31 = .ok (.return_, 1) := by decide +kernel
theorem dX11_copyRow_9 : decode cX11_copyRow 9 = .ok (.aload_n 0, 1) := by decide +kernel
theorem dX11_copyRow_10 : decode cX11_copyRow 10 = .ok (.iload_n 1, 1) := by decide +kernel
theorem dX11_copyRow_11 : decode cX11_copyRow 11 = .ok (.iload_n 3, 1) := by decide +kernel
theorem dX11_copyRow_12 : decode cX11_copyRow 12 = .ok (.imul, 1) := by decide +kernel
theorem dX11_copyRow_13 : decode cX11_copyRow 13 = .ok (.iload 4, 2) := by decide +kernel
theorem dX11_copyRow_15 : decode cX11_copyRow 15 = .ok (.iadd, 1) := by decide +kernel
theorem dX11_copyRow_16 : decode cX11_copyRow 16 = .ok (.aload_n 0, 1) := by decide +kernel
theorem dX11_copyRow_17 : decode cX11_copyRow 17 = .ok (.iload_n 1, 1) := by decide +kernel
theorem dX11_copyRow_18 : decode cX11_copyRow 18 = .ok (.iload_n 2, 1) := by decide +kernel
theorem dX11_copyRow_19 : decode cX11_copyRow 19 = .ok (.imul, 1) := by decide +kernel
theorem dX11_copyRow_20 : decode cX11_copyRow 20 = .ok (.iload 4, 2) := by decide +kernel
theorem dX11_copyRow_22 : decode cX11_copyRow 22 = .ok (.iadd, 1) := by decide +kernel
theorem dX11_copyRow_23 : decode cX11_copyRow 23 = .ok (.iaload, 1) := by decide +kernel
theorem dX11_copyRow_24 : decode cX11_copyRow 24 = .ok (.iastore, 1) := by decide +kernel
theorem dX11_copyRow_25 : decode cX11_copyRow 25 = .ok (.iinc 4 1, 3) := by decide +kernel
theorem dX11_copyRow_28 : decode cX11_copyRow 28 = .ok (.goto (-25), 3) := by decide +kernel
set_option maxHeartbeats 4000000 in
set_option maxRecDepth 100000 in
theorem c_copyRow_1_0_1 (l : Launch) (G : va_G) (ct : Nat → ClassId) (x : Nat) (f : Nat → Int32)  : Met l yX11_copyRow wsX11_copyRow ({ frames := 0, cells := 0, slots := 0, locals := 0 }) (va_Pc [.ref x, .int 1, .int 0, .int 1] (wrP G ct [(x, .inl (ct 0, 5, .inl f))])) (va_Qv (fun u : Nat → Int32 => (∀ i, f i = 0) → ∀ i, u i = 0) (fun u t => va_P G vwCl ((fun u : Nat → Int32 => [(x, .inl (ct 0, 5, .inl u))]) u) t.heap) (aset [(x, .inl (ct 0, 5, .inl f))])) 0 0 (aset [(x, .inl (ct 0, 5, .inl f))]) := by
  refine Met.ofW (cc := cX11_copyRow) (maxL := 5) (ret := none) (by decide) rfl ?_
  intro p e s m args below meth c s₁ B hml hv
  obtain ⟨rfl, hP, hK, hD0⟩ := hv
  have hx := B.exec
  have hb := B.bytes
  have hr := B.returns
  have hts := atoms_spec (ws := wsX11_copyRow) B.pre
  have hown : s.vm.findClass RX11 = some m.cls := findClass_of_methodNamed B.named
  have hlocks := B.notSynchronized
  have hD := hD0.aself
  generalize hAe : aset [(x, .inl (ct 0, 5, .inl f))] = A at hD ⊢
  have hS : va_S A s.heap s.heap [] := va_S.rf
  have hl := lv_entry ([.ref x, .int 1, .int 0, .int 1]) (n := 5) (Nat.le_of_ble_eq_true rfl)
  rw [lg_entry_eq]
  generalize (lg_sl ([.ref x, .int 1, .int 0, .int 1]) ++ List.replicate (5 - (lg_sl ([.ref x, .int 1, .int 0, .int 1])).length) Slot.unset).toArray = ls at hl ⊢
  have hl : lv_has ls 5 [(0, .ref x), (1, .int 1), (2, .int 0), (3, .int 1)] := hl
  refine lv_iconst (v := 0) hx hb dX11_copyRow_0 (by decide) ?_
  refine lv_istore (lv' := [(4, .int 0), (0, .ref x), (1, .int 1), (2, .int 0), (3, .int 1)]) hx hb dX11_copyRow_1 hl (by decide) rfl (fun ls hl => ?_)
  have key : ∀ (n k : Nat) (g : Nat → Int32) (H : Heap) (locs : List Loc) (ls : Array Slot), k ≤ 1 → 2 ≤ k + n → ((∀ i, f i = 0) → ∀ i, g i = 0) → va_P G vwCl [(x, .inl (ct 0, 5, .inl g))] H → va_D A [(x, .inl (ct 0, 5, .inl g))] → va_S A s.heap H locs → lv_has ls 5 [(4, .int (nI k)), (0, .ref x), (1, .int 1), (2, .int 0), (3, .int 1)] → W p l e (headSpec wsX11_copyRow ({ frames := 0, cells := 0, slots := 0, locals := 0 })).room s m ([.ref x, .int 1, .int 0, .int 1] : List Value).toArray below meth c H locs 0 0 (MQ below (va_Qv (fun u : Nat → Int32 => (∀ i, f i = 0) → ∀ i, u i = 0) (fun u t => va_P G vwCl ((fun u : Nat → Int32 => [(x, .inl (ct 0, 5, .inl u))]) u) t.heap) A) ([.ref x, .int 1, .int 0, .int 1] : List Value).toArray s 0 0 A) (F0 m 3 ls []) := by
    intro n
    induction n with
    | zero => intro k g H locs ls hk hn; exact absurd hn (by omega)
    | succ n ih =>
      intro k g H locs ls hk hn hz hP hD hS hl
      refine lv_iload hx hb dX11_copyRow_3 (lv_at hl 0 rfl) ?_
      refine lv_iload_n hx hb dX11_copyRow_5 rfl (lv_at hl 2 rfl) ?_
      refine lv_icmp_ge (tgt := 31) hx hb dX11_copyRow_6 (by decide) (fun c_1 => ?_) (fun c_1 => ?_)
      · exact W.vret hx hb hr (fun t ht hW => ⟨⟨g, rfl, hz, hp_at ht hP⟩, hS.F ht⟩) hS.2.2 dX11_copyRow_31
      · refine lv_aload_n hx hb dX11_copyRow_9 rfl (lv_at hl 1 rfl) ?_
        refine lv_iload_n hx hb dX11_copyRow_10 rfl (lv_at hl 2 rfl) ?_
        refine lv_iload_n hx hb dX11_copyRow_11 rfl (lv_at hl 4 rfl) ?_
        refine lv_imul hx hb dX11_copyRow_12 ?_
        refine ix_i (y := 1) (by decide) ?_
        refine lv_iload hx hb dX11_copyRow_13 (lv_at hl 0 rfl) ?_
        refine lv_iadd hx hb dX11_copyRow_15 ?_
        refine ix_i (y := nI (1 + k)) (nI_add 1 k) ?_
        refine lv_aload_n hx hb dX11_copyRow_16 rfl (lv_at hl 1 rfl) ?_
        refine lv_iload_n hx hb dX11_copyRow_17 rfl (lv_at hl 2 rfl) ?_
        refine lv_iload_n hx hb dX11_copyRow_18 rfl (lv_at hl 3 rfl) ?_
        refine lv_imul hx hb dX11_copyRow_19 ?_
        refine ix_i (y := 0) (by decide) ?_
        refine lv_iload hx hb dX11_copyRow_20 (lv_at hl 0 rfl) ?_
        refine lv_iadd hx hb dX11_copyRow_22 ?_
        refine ix_i (y := nI (0 + k)) (nI_add 0 k) ?_
        refine va_iald hx hb hK.1 hP 0 0 rfl rfl (vp_in_nI (n := 0 + k) (by have f0 := i_nle c_1; have := nI_toInt (n := k) (by omega); have : (1 : Int32).toInt = 1 := (by decide); omega) (by omega)) dX11_copyRow_23 ?_
        refine va_iast hx hb hK.1 hP hD hS 0 0 rfl rfl (vp_in_nI (n := 1 + k) (by have f0 := i_nle c_1; have := nI_toInt (n := k) (by omega); have : (1 : Int32).toInt = 1 := (by decide); omega) (by omega)) dX11_copyRow_24 (fun H locs hP hD hS => ?_)
        refine lv_iinc (v := nI (k + 1)) (lv' := [(4, .int (nI (k + 1))), (0, .ref x), (1, .int 1), (2, .int 0), (3, .int 1)]) hx hb dX11_copyRow_25 hl (k := 0) rfl (inc1 _) (by decide) rfl (fun ls hl => ?_)
        refine lv_goto (tgt := 3) hx hb dX11_copyRow_28 (by decide) ?_
        exact ih (k + 1) (upd g (nI (1 + k)).toNatClampNeg (g (nI (0 + k)).toNatClampNeg)) _ _ ls (by have f0 := i_nle c_1; have := nI_toInt (n := k) (by omega); have : (1 : Int32).toInt = 1 := (by decide); omega) (by omega) (fun h i => by unfold upd; split <;> exact hz h _) hP hD hS (lv_sub hl [0, 1, 2, 3, 4] rfl)
  exact key 2 0 f _ _ ls (by omega) (by omega) (fun h => h) hP hD hS hl

set_option maxHeartbeats 4000000 in
set_option maxRecDepth 100000 in
theorem c_copyRow_3_0_1 (l : Launch) (G : va_G) (ct : Nat → ClassId) (x : Nat) (f : Nat → Int32)  : Met l yX11_copyRow wsX11_copyRow ({ frames := 0, cells := 0, slots := 0, locals := 0 }) (va_Pc [.ref x, .int 3, .int 0, .int 1] (wrP G ct [(x, .inl (ct 0, 15, .inl f))])) (va_Qv (fun u : Nat → Int32 => (∀ i, f i = 0) → ∀ i, u i = 0) (fun u t => va_P G vwCl ((fun u : Nat → Int32 => [(x, .inl (ct 0, 15, .inl u))]) u) t.heap) (aset [(x, .inl (ct 0, 15, .inl f))])) 0 0 (aset [(x, .inl (ct 0, 15, .inl f))]) := by
  refine Met.ofW (cc := cX11_copyRow) (maxL := 5) (ret := none) (by decide) rfl ?_
  intro p e s m args below meth c s₁ B hml hv
  obtain ⟨rfl, hP, hK, hD0⟩ := hv
  have hx := B.exec
  have hb := B.bytes
  have hr := B.returns
  have hts := atoms_spec (ws := wsX11_copyRow) B.pre
  have hown : s.vm.findClass RX11 = some m.cls := findClass_of_methodNamed B.named
  have hlocks := B.notSynchronized
  have hD := hD0.aself
  generalize hAe : aset [(x, .inl (ct 0, 15, .inl f))] = A at hD ⊢
  have hS : va_S A s.heap s.heap [] := va_S.rf
  have hl := lv_entry ([.ref x, .int 3, .int 0, .int 1]) (n := 5) (Nat.le_of_ble_eq_true rfl)
  rw [lg_entry_eq]
  generalize (lg_sl ([.ref x, .int 3, .int 0, .int 1]) ++ List.replicate (5 - (lg_sl ([.ref x, .int 3, .int 0, .int 1])).length) Slot.unset).toArray = ls at hl ⊢
  have hl : lv_has ls 5 [(0, .ref x), (1, .int 3), (2, .int 0), (3, .int 1)] := hl
  refine lv_iconst (v := 0) hx hb dX11_copyRow_0 (by decide) ?_
  refine lv_istore (lv' := [(4, .int 0), (0, .ref x), (1, .int 3), (2, .int 0), (3, .int 1)]) hx hb dX11_copyRow_1 hl (by decide) rfl (fun ls hl => ?_)
  have key : ∀ (n k : Nat) (g : Nat → Int32) (H : Heap) (locs : List Loc) (ls : Array Slot), k ≤ 3 → 4 ≤ k + n → ((∀ i, f i = 0) → ∀ i, g i = 0) → va_P G vwCl [(x, .inl (ct 0, 15, .inl g))] H → va_D A [(x, .inl (ct 0, 15, .inl g))] → va_S A s.heap H locs → lv_has ls 5 [(4, .int (nI k)), (0, .ref x), (1, .int 3), (2, .int 0), (3, .int 1)] → W p l e (headSpec wsX11_copyRow ({ frames := 0, cells := 0, slots := 0, locals := 0 })).room s m ([.ref x, .int 3, .int 0, .int 1] : List Value).toArray below meth c H locs 0 0 (MQ below (va_Qv (fun u : Nat → Int32 => (∀ i, f i = 0) → ∀ i, u i = 0) (fun u t => va_P G vwCl ((fun u : Nat → Int32 => [(x, .inl (ct 0, 15, .inl u))]) u) t.heap) A) ([.ref x, .int 3, .int 0, .int 1] : List Value).toArray s 0 0 A) (F0 m 3 ls []) := by
    intro n
    induction n with
    | zero => intro k g H locs ls hk hn; exact absurd hn (by omega)
    | succ n ih =>
      intro k g H locs ls hk hn hz hP hD hS hl
      refine lv_iload hx hb dX11_copyRow_3 (lv_at hl 0 rfl) ?_
      refine lv_iload_n hx hb dX11_copyRow_5 rfl (lv_at hl 2 rfl) ?_
      refine lv_icmp_ge (tgt := 31) hx hb dX11_copyRow_6 (by decide) (fun c_1 => ?_) (fun c_1 => ?_)
      · exact W.vret hx hb hr (fun t ht hW => ⟨⟨g, rfl, hz, hp_at ht hP⟩, hS.F ht⟩) hS.2.2 dX11_copyRow_31
      · refine lv_aload_n hx hb dX11_copyRow_9 rfl (lv_at hl 1 rfl) ?_
        refine lv_iload_n hx hb dX11_copyRow_10 rfl (lv_at hl 2 rfl) ?_
        refine lv_iload_n hx hb dX11_copyRow_11 rfl (lv_at hl 4 rfl) ?_
        refine lv_imul hx hb dX11_copyRow_12 ?_
        refine ix_i (y := 3) (by decide) ?_
        refine lv_iload hx hb dX11_copyRow_13 (lv_at hl 0 rfl) ?_
        refine lv_iadd hx hb dX11_copyRow_15 ?_
        refine ix_i (y := nI (3 + k)) (nI_add 3 k) ?_
        refine lv_aload_n hx hb dX11_copyRow_16 rfl (lv_at hl 1 rfl) ?_
        refine lv_iload_n hx hb dX11_copyRow_17 rfl (lv_at hl 2 rfl) ?_
        refine lv_iload_n hx hb dX11_copyRow_18 rfl (lv_at hl 3 rfl) ?_
        refine lv_imul hx hb dX11_copyRow_19 ?_
        refine ix_i (y := 0) (by decide) ?_
        refine lv_iload hx hb dX11_copyRow_20 (lv_at hl 0 rfl) ?_
        refine lv_iadd hx hb dX11_copyRow_22 ?_
        refine ix_i (y := nI (0 + k)) (nI_add 0 k) ?_
        refine va_iald hx hb hK.1 hP 0 0 rfl rfl (vp_in_nI (n := 0 + k) (by have f0 := i_nle c_1; have := nI_toInt (n := k) (by omega); have : (3 : Int32).toInt = 3 := (by decide); omega) (by omega)) dX11_copyRow_23 ?_
        refine va_iast hx hb hK.1 hP hD hS 0 0 rfl rfl (vp_in_nI (n := 3 + k) (by have f0 := i_nle c_1; have := nI_toInt (n := k) (by omega); have : (3 : Int32).toInt = 3 := (by decide); omega) (by omega)) dX11_copyRow_24 (fun H locs hP hD hS => ?_)
        refine lv_iinc (v := nI (k + 1)) (lv' := [(4, .int (nI (k + 1))), (0, .ref x), (1, .int 3), (2, .int 0), (3, .int 1)]) hx hb dX11_copyRow_25 hl (k := 0) rfl (inc1 _) (by decide) rfl (fun ls hl => ?_)
        refine lv_goto (tgt := 3) hx hb dX11_copyRow_28 (by decide) ?_
        exact ih (k + 1) (upd g (nI (3 + k)).toNatClampNeg (g (nI (0 + k)).toNatClampNeg)) _ _ ls (by have f0 := i_nle c_1; have := nI_toInt (n := k) (by omega); have : (3 : Int32).toInt = 3 := (by decide); omega) (by omega) (fun h i => by unfold upd; split <;> exact hz h _) hP hD hS (lv_sub hl [0, 1, 2, 3, 4] rfl)
  exact key 4 0 f _ _ ls (by omega) (by omega) (fun h => h) hP hD hS hl

set_option maxHeartbeats 4000000 in
set_option maxRecDepth 100000 in
theorem c_copyRow_40_0_1 (l : Launch) (G : va_G) (ct : Nat → ClassId) (x : Nat) (f : Nat → Int32)  : Met l yX11_copyRow wsX11_copyRow ({ frames := 0, cells := 0, slots := 0, locals := 0 }) (va_Pc [.ref x, .int 40, .int 0, .int 1] (wrP G ct [(x, .inl (ct 0, 200, .inl f))])) (va_Qv (fun u : Nat → Int32 => (∀ i, f i = 0) → ∀ i, u i = 0) (fun u t => va_P G vwCl ((fun u : Nat → Int32 => [(x, .inl (ct 0, 200, .inl u))]) u) t.heap) (aset [(x, .inl (ct 0, 200, .inl f))])) 0 0 (aset [(x, .inl (ct 0, 200, .inl f))]) := by
  refine Met.ofW (cc := cX11_copyRow) (maxL := 5) (ret := none) (by decide) rfl ?_
  intro p e s m args below meth c s₁ B hml hv
  obtain ⟨rfl, hP, hK, hD0⟩ := hv
  have hx := B.exec
  have hb := B.bytes
  have hr := B.returns
  have hts := atoms_spec (ws := wsX11_copyRow) B.pre
  have hown : s.vm.findClass RX11 = some m.cls := findClass_of_methodNamed B.named
  have hlocks := B.notSynchronized
  have hD := hD0.aself
  generalize hAe : aset [(x, .inl (ct 0, 200, .inl f))] = A at hD ⊢
  have hS : va_S A s.heap s.heap [] := va_S.rf
  have hl := lv_entry ([.ref x, .int 40, .int 0, .int 1]) (n := 5) (Nat.le_of_ble_eq_true rfl)
  rw [lg_entry_eq]
  generalize (lg_sl ([.ref x, .int 40, .int 0, .int 1]) ++ List.replicate (5 - (lg_sl ([.ref x, .int 40, .int 0, .int 1])).length) Slot.unset).toArray = ls at hl ⊢
  have hl : lv_has ls 5 [(0, .ref x), (1, .int 40), (2, .int 0), (3, .int 1)] := hl
  refine lv_iconst (v := 0) hx hb dX11_copyRow_0 (by decide) ?_
  refine lv_istore (lv' := [(4, .int 0), (0, .ref x), (1, .int 40), (2, .int 0), (3, .int 1)]) hx hb dX11_copyRow_1 hl (by decide) rfl (fun ls hl => ?_)
  have key : ∀ (n k : Nat) (g : Nat → Int32) (H : Heap) (locs : List Loc) (ls : Array Slot), k ≤ 40 → 41 ≤ k + n → ((∀ i, f i = 0) → ∀ i, g i = 0) → va_P G vwCl [(x, .inl (ct 0, 200, .inl g))] H → va_D A [(x, .inl (ct 0, 200, .inl g))] → va_S A s.heap H locs → lv_has ls 5 [(4, .int (nI k)), (0, .ref x), (1, .int 40), (2, .int 0), (3, .int 1)] → W p l e (headSpec wsX11_copyRow ({ frames := 0, cells := 0, slots := 0, locals := 0 })).room s m ([.ref x, .int 40, .int 0, .int 1] : List Value).toArray below meth c H locs 0 0 (MQ below (va_Qv (fun u : Nat → Int32 => (∀ i, f i = 0) → ∀ i, u i = 0) (fun u t => va_P G vwCl ((fun u : Nat → Int32 => [(x, .inl (ct 0, 200, .inl u))]) u) t.heap) A) ([.ref x, .int 40, .int 0, .int 1] : List Value).toArray s 0 0 A) (F0 m 3 ls []) := by
    intro n
    induction n with
    | zero => intro k g H locs ls hk hn; exact absurd hn (by omega)
    | succ n ih =>
      intro k g H locs ls hk hn hz hP hD hS hl
      refine lv_iload hx hb dX11_copyRow_3 (lv_at hl 0 rfl) ?_
      refine lv_iload_n hx hb dX11_copyRow_5 rfl (lv_at hl 2 rfl) ?_
      refine lv_icmp_ge (tgt := 31) hx hb dX11_copyRow_6 (by decide) (fun c_1 => ?_) (fun c_1 => ?_)
      · exact W.vret hx hb hr (fun t ht hW => ⟨⟨g, rfl, hz, hp_at ht hP⟩, hS.F ht⟩) hS.2.2 dX11_copyRow_31
      · refine lv_aload_n hx hb dX11_copyRow_9 rfl (lv_at hl 1 rfl) ?_
        refine lv_iload_n hx hb dX11_copyRow_10 rfl (lv_at hl 2 rfl) ?_
        refine lv_iload_n hx hb dX11_copyRow_11 rfl (lv_at hl 4 rfl) ?_
        refine lv_imul hx hb dX11_copyRow_12 ?_
        refine ix_i (y := 40) (by decide) ?_
        refine lv_iload hx hb dX11_copyRow_13 (lv_at hl 0 rfl) ?_
        refine lv_iadd hx hb dX11_copyRow_15 ?_
        refine ix_i (y := nI (40 + k)) (nI_add 40 k) ?_
        refine lv_aload_n hx hb dX11_copyRow_16 rfl (lv_at hl 1 rfl) ?_
        refine lv_iload_n hx hb dX11_copyRow_17 rfl (lv_at hl 2 rfl) ?_
        refine lv_iload_n hx hb dX11_copyRow_18 rfl (lv_at hl 3 rfl) ?_
        refine lv_imul hx hb dX11_copyRow_19 ?_
        refine ix_i (y := 0) (by decide) ?_
        refine lv_iload hx hb dX11_copyRow_20 (lv_at hl 0 rfl) ?_
        refine lv_iadd hx hb dX11_copyRow_22 ?_
        refine ix_i (y := nI (0 + k)) (nI_add 0 k) ?_
        refine va_iald hx hb hK.1 hP 0 0 rfl rfl (vp_in_nI (n := 0 + k) (by have f0 := i_nle c_1; have := nI_toInt (n := k) (by omega); have : (40 : Int32).toInt = 40 := (by decide); omega) (by omega)) dX11_copyRow_23 ?_
        refine va_iast hx hb hK.1 hP hD hS 0 0 rfl rfl (vp_in_nI (n := 40 + k) (by have f0 := i_nle c_1; have := nI_toInt (n := k) (by omega); have : (40 : Int32).toInt = 40 := (by decide); omega) (by omega)) dX11_copyRow_24 (fun H locs hP hD hS => ?_)
        refine lv_iinc (v := nI (k + 1)) (lv' := [(4, .int (nI (k + 1))), (0, .ref x), (1, .int 40), (2, .int 0), (3, .int 1)]) hx hb dX11_copyRow_25 hl (k := 0) rfl (inc1 _) (by decide) rfl (fun ls hl => ?_)
        refine lv_goto (tgt := 3) hx hb dX11_copyRow_28 (by decide) ?_
        exact ih (k + 1) (upd g (nI (40 + k)).toNatClampNeg (g (nI (0 + k)).toNatClampNeg)) _ _ ls (by have f0 := i_nle c_1; have := nI_toInt (n := k) (by omega); have : (40 : Int32).toInt = 40 := (by decide); omega) (by omega) (fun h i => by unfold upd; split <;> exact hz h _) hP hD hS (lv_sub hl [0, 1, 2, 3, 4] rfl)
  exact key 41 0 f _ _ ls (by omega) (by omega) (fun h => h) hP hD hS hl

set_option maxHeartbeats 4000000 in
set_option maxRecDepth 100000 in
theorem c_copyRow_200_0_1 (l : Launch) (G : va_G) (ct : Nat → ClassId) (x : Nat) (f : Nat → Int32)  : Met l yX11_copyRow wsX11_copyRow ({ frames := 0, cells := 0, slots := 0, locals := 0 }) (va_Pc [.ref x, .int 200, .int 0, .int 1] (wrP G ct [(x, .inl (ct 0, 1000, .inl f))])) (va_Qv (fun u : Nat → Int32 => (∀ i, f i = 0) → ∀ i, u i = 0) (fun u t => va_P G vwCl ((fun u : Nat → Int32 => [(x, .inl (ct 0, 1000, .inl u))]) u) t.heap) (aset [(x, .inl (ct 0, 1000, .inl f))])) 0 0 (aset [(x, .inl (ct 0, 1000, .inl f))]) := by
  refine Met.ofW (cc := cX11_copyRow) (maxL := 5) (ret := none) (by decide) rfl ?_
  intro p e s m args below meth c s₁ B hml hv
  obtain ⟨rfl, hP, hK, hD0⟩ := hv
  have hx := B.exec
  have hb := B.bytes
  have hr := B.returns
  have hts := atoms_spec (ws := wsX11_copyRow) B.pre
  have hown : s.vm.findClass RX11 = some m.cls := findClass_of_methodNamed B.named
  have hlocks := B.notSynchronized
  have hD := hD0.aself
  generalize hAe : aset [(x, .inl (ct 0, 1000, .inl f))] = A at hD ⊢
  have hS : va_S A s.heap s.heap [] := va_S.rf
  have hl := lv_entry ([.ref x, .int 200, .int 0, .int 1]) (n := 5) (Nat.le_of_ble_eq_true rfl)
  rw [lg_entry_eq]
  generalize (lg_sl ([.ref x, .int 200, .int 0, .int 1]) ++ List.replicate (5 - (lg_sl ([.ref x, .int 200, .int 0, .int 1])).length) Slot.unset).toArray = ls at hl ⊢
  have hl : lv_has ls 5 [(0, .ref x), (1, .int 200), (2, .int 0), (3, .int 1)] := hl
  refine lv_iconst (v := 0) hx hb dX11_copyRow_0 (by decide) ?_
  refine lv_istore (lv' := [(4, .int 0), (0, .ref x), (1, .int 200), (2, .int 0), (3, .int 1)]) hx hb dX11_copyRow_1 hl (by decide) rfl (fun ls hl => ?_)
  have key : ∀ (n k : Nat) (g : Nat → Int32) (H : Heap) (locs : List Loc) (ls : Array Slot), k ≤ 200 → 201 ≤ k + n → ((∀ i, f i = 0) → ∀ i, g i = 0) → va_P G vwCl [(x, .inl (ct 0, 1000, .inl g))] H → va_D A [(x, .inl (ct 0, 1000, .inl g))] → va_S A s.heap H locs → lv_has ls 5 [(4, .int (nI k)), (0, .ref x), (1, .int 200), (2, .int 0), (3, .int 1)] → W p l e (headSpec wsX11_copyRow ({ frames := 0, cells := 0, slots := 0, locals := 0 })).room s m ([.ref x, .int 200, .int 0, .int 1] : List Value).toArray below meth c H locs 0 0 (MQ below (va_Qv (fun u : Nat → Int32 => (∀ i, f i = 0) → ∀ i, u i = 0) (fun u t => va_P G vwCl ((fun u : Nat → Int32 => [(x, .inl (ct 0, 1000, .inl u))]) u) t.heap) A) ([.ref x, .int 200, .int 0, .int 1] : List Value).toArray s 0 0 A) (F0 m 3 ls []) := by
    intro n
    induction n with
    | zero => intro k g H locs ls hk hn; exact absurd hn (by omega)
    | succ n ih =>
      intro k g H locs ls hk hn hz hP hD hS hl
      refine lv_iload hx hb dX11_copyRow_3 (lv_at hl 0 rfl) ?_
      refine lv_iload_n hx hb dX11_copyRow_5 rfl (lv_at hl 2 rfl) ?_
      refine lv_icmp_ge (tgt := 31) hx hb dX11_copyRow_6 (by decide) (fun c_1 => ?_) (fun c_1 => ?_)
      · exact W.vret hx hb hr (fun t ht hW => ⟨⟨g, rfl, hz, hp_at ht hP⟩, hS.F ht⟩) hS.2.2 dX11_copyRow_31
      · refine lv_aload_n hx hb dX11_copyRow_9 rfl (lv_at hl 1 rfl) ?_
        refine lv_iload_n hx hb dX11_copyRow_10 rfl (lv_at hl 2 rfl) ?_
        refine lv_iload_n hx hb dX11_copyRow_11 rfl (lv_at hl 4 rfl) ?_
        refine lv_imul hx hb dX11_copyRow_12 ?_
        refine ix_i (y := 200) (by decide) ?_
        refine lv_iload hx hb dX11_copyRow_13 (lv_at hl 0 rfl) ?_
        refine lv_iadd hx hb dX11_copyRow_15 ?_
        refine ix_i (y := nI (200 + k)) (nI_add 200 k) ?_
        refine lv_aload_n hx hb dX11_copyRow_16 rfl (lv_at hl 1 rfl) ?_
        refine lv_iload_n hx hb dX11_copyRow_17 rfl (lv_at hl 2 rfl) ?_
        refine lv_iload_n hx hb dX11_copyRow_18 rfl (lv_at hl 3 rfl) ?_
        refine lv_imul hx hb dX11_copyRow_19 ?_
        refine ix_i (y := 0) (by decide) ?_
        refine lv_iload hx hb dX11_copyRow_20 (lv_at hl 0 rfl) ?_
        refine lv_iadd hx hb dX11_copyRow_22 ?_
        refine ix_i (y := nI (0 + k)) (nI_add 0 k) ?_
        refine va_iald hx hb hK.1 hP 0 0 rfl rfl (vp_in_nI (n := 0 + k) (by have f0 := i_nle c_1; have := nI_toInt (n := k) (by omega); have : (200 : Int32).toInt = 200 := (by decide); omega) (by omega)) dX11_copyRow_23 ?_
        refine va_iast hx hb hK.1 hP hD hS 0 0 rfl rfl (vp_in_nI (n := 200 + k) (by have f0 := i_nle c_1; have := nI_toInt (n := k) (by omega); have : (200 : Int32).toInt = 200 := (by decide); omega) (by omega)) dX11_copyRow_24 (fun H locs hP hD hS => ?_)
        refine lv_iinc (v := nI (k + 1)) (lv' := [(4, .int (nI (k + 1))), (0, .ref x), (1, .int 200), (2, .int 0), (3, .int 1)]) hx hb dX11_copyRow_25 hl (k := 0) rfl (inc1 _) (by decide) rfl (fun ls hl => ?_)
        refine lv_goto (tgt := 3) hx hb dX11_copyRow_28 (by decide) ?_
        exact ih (k + 1) (upd g (nI (200 + k)).toNatClampNeg (g (nI (0 + k)).toNatClampNeg)) _ _ ls (by have f0 := i_nle c_1; have := nI_toInt (n := k) (by omega); have : (200 : Int32).toInt = 200 := (by decide); omega) (by omega) (fun h i => by unfold upd; split <;> exact hz h _) hP hD hS (lv_sub hl [0, 1, 2, 3, 4] rfl)
  exact key 201 0 f _ _ ls (by omega) (by omega) (fun h => h) hP hD hS hl

set_option maxHeartbeats 4000000 in
set_option maxRecDepth 100000 in
theorem c_copyRow_1_0_2 (l : Launch) (G : va_G) (ct : Nat → ClassId) (x : Nat) (f : Nat → Int32)  : Met l yX11_copyRow wsX11_copyRow ({ frames := 0, cells := 0, slots := 0, locals := 0 }) (va_Pc [.ref x, .int 1, .int 0, .int 2] (wrP G ct [(x, .inl (ct 0, 5, .inl f))])) (va_Qv (fun u : Nat → Int32 => (∀ i, f i = 0) → ∀ i, u i = 0) (fun u t => va_P G vwCl ((fun u : Nat → Int32 => [(x, .inl (ct 0, 5, .inl u))]) u) t.heap) (aset [(x, .inl (ct 0, 5, .inl f))])) 0 0 (aset [(x, .inl (ct 0, 5, .inl f))]) := by
  refine Met.ofW (cc := cX11_copyRow) (maxL := 5) (ret := none) (by decide) rfl ?_
  intro p e s m args below meth c s₁ B hml hv
  obtain ⟨rfl, hP, hK, hD0⟩ := hv
  have hx := B.exec
  have hb := B.bytes
  have hr := B.returns
  have hts := atoms_spec (ws := wsX11_copyRow) B.pre
  have hown : s.vm.findClass RX11 = some m.cls := findClass_of_methodNamed B.named
  have hlocks := B.notSynchronized
  have hD := hD0.aself
  generalize hAe : aset [(x, .inl (ct 0, 5, .inl f))] = A at hD ⊢
  have hS : va_S A s.heap s.heap [] := va_S.rf
  have hl := lv_entry ([.ref x, .int 1, .int 0, .int 2]) (n := 5) (Nat.le_of_ble_eq_true rfl)
  rw [lg_entry_eq]
  generalize (lg_sl ([.ref x, .int 1, .int 0, .int 2]) ++ List.replicate (5 - (lg_sl ([.ref x, .int 1, .int 0, .int 2])).length) Slot.unset).toArray = ls at hl ⊢
  have hl : lv_has ls 5 [(0, .ref x), (1, .int 1), (2, .int 0), (3, .int 2)] := hl
  refine lv_iconst (v := 0) hx hb dX11_copyRow_0 (by decide) ?_
  refine lv_istore (lv' := [(4, .int 0), (0, .ref x), (1, .int 1), (2, .int 0), (3, .int 2)]) hx hb dX11_copyRow_1 hl (by decide) rfl (fun ls hl => ?_)
  have key : ∀ (n k : Nat) (g : Nat → Int32) (H : Heap) (locs : List Loc) (ls : Array Slot), k ≤ 1 → 2 ≤ k + n → ((∀ i, f i = 0) → ∀ i, g i = 0) → va_P G vwCl [(x, .inl (ct 0, 5, .inl g))] H → va_D A [(x, .inl (ct 0, 5, .inl g))] → va_S A s.heap H locs → lv_has ls 5 [(4, .int (nI k)), (0, .ref x), (1, .int 1), (2, .int 0), (3, .int 2)] → W p l e (headSpec wsX11_copyRow ({ frames := 0, cells := 0, slots := 0, locals := 0 })).room s m ([.ref x, .int 1, .int 0, .int 2] : List Value).toArray below meth c H locs 0 0 (MQ below (va_Qv (fun u : Nat → Int32 => (∀ i, f i = 0) → ∀ i, u i = 0) (fun u t => va_P G vwCl ((fun u : Nat → Int32 => [(x, .inl (ct 0, 5, .inl u))]) u) t.heap) A) ([.ref x, .int 1, .int 0, .int 2] : List Value).toArray s 0 0 A) (F0 m 3 ls []) := by
    intro n
    induction n with
    | zero => intro k g H locs ls hk hn; exact absurd hn (by omega)
    | succ n ih =>
      intro k g H locs ls hk hn hz hP hD hS hl
      refine lv_iload hx hb dX11_copyRow_3 (lv_at hl 0 rfl) ?_
      refine lv_iload_n hx hb dX11_copyRow_5 rfl (lv_at hl 2 rfl) ?_
      refine lv_icmp_ge (tgt := 31) hx hb dX11_copyRow_6 (by decide) (fun c_1 => ?_) (fun c_1 => ?_)
      · exact W.vret hx hb hr (fun t ht hW => ⟨⟨g, rfl, hz, hp_at ht hP⟩, hS.F ht⟩) hS.2.2 dX11_copyRow_31
      · refine lv_aload_n hx hb dX11_copyRow_9 rfl (lv_at hl 1 rfl) ?_
        refine lv_iload_n hx hb dX11_copyRow_10 rfl (lv_at hl 2 rfl) ?_
        refine lv_iload_n hx hb dX11_copyRow_11 rfl (lv_at hl 4 rfl) ?_
        refine lv_imul hx hb dX11_copyRow_12 ?_
        refine ix_i (y := 2) (by decide) ?_
        refine lv_iload hx hb dX11_copyRow_13 (lv_at hl 0 rfl) ?_
        refine lv_iadd hx hb dX11_copyRow_15 ?_
        refine ix_i (y := nI (2 + k)) (nI_add 2 k) ?_
        refine lv_aload_n hx hb dX11_copyRow_16 rfl (lv_at hl 1 rfl) ?_
        refine lv_iload_n hx hb dX11_copyRow_17 rfl (lv_at hl 2 rfl) ?_
        refine lv_iload_n hx hb dX11_copyRow_18 rfl (lv_at hl 3 rfl) ?_
        refine lv_imul hx hb dX11_copyRow_19 ?_
        refine ix_i (y := 0) (by decide) ?_
        refine lv_iload hx hb dX11_copyRow_20 (lv_at hl 0 rfl) ?_
        refine lv_iadd hx hb dX11_copyRow_22 ?_
        refine ix_i (y := nI (0 + k)) (nI_add 0 k) ?_
        refine va_iald hx hb hK.1 hP 0 0 rfl rfl (vp_in_nI (n := 0 + k) (by have f0 := i_nle c_1; have := nI_toInt (n := k) (by omega); have : (1 : Int32).toInt = 1 := (by decide); omega) (by omega)) dX11_copyRow_23 ?_
        refine va_iast hx hb hK.1 hP hD hS 0 0 rfl rfl (vp_in_nI (n := 2 + k) (by have f0 := i_nle c_1; have := nI_toInt (n := k) (by omega); have : (1 : Int32).toInt = 1 := (by decide); omega) (by omega)) dX11_copyRow_24 (fun H locs hP hD hS => ?_)
        refine lv_iinc (v := nI (k + 1)) (lv' := [(4, .int (nI (k + 1))), (0, .ref x), (1, .int 1), (2, .int 0), (3, .int 2)]) hx hb dX11_copyRow_25 hl (k := 0) rfl (inc1 _) (by decide) rfl (fun ls hl => ?_)
        refine lv_goto (tgt := 3) hx hb dX11_copyRow_28 (by decide) ?_
        exact ih (k + 1) (upd g (nI (2 + k)).toNatClampNeg (g (nI (0 + k)).toNatClampNeg)) _ _ ls (by have f0 := i_nle c_1; have := nI_toInt (n := k) (by omega); have : (1 : Int32).toInt = 1 := (by decide); omega) (by omega) (fun h i => by unfold upd; split <;> exact hz h _) hP hD hS (lv_sub hl [0, 1, 2, 3, 4] rfl)
  exact key 2 0 f _ _ ls (by omega) (by omega) (fun h => h) hP hD hS hl

set_option maxHeartbeats 4000000 in
set_option maxRecDepth 100000 in
theorem c_copyRow_3_0_2 (l : Launch) (G : va_G) (ct : Nat → ClassId) (x : Nat) (f : Nat → Int32)  : Met l yX11_copyRow wsX11_copyRow ({ frames := 0, cells := 0, slots := 0, locals := 0 }) (va_Pc [.ref x, .int 3, .int 0, .int 2] (wrP G ct [(x, .inl (ct 0, 15, .inl f))])) (va_Qv (fun u : Nat → Int32 => (∀ i, f i = 0) → ∀ i, u i = 0) (fun u t => va_P G vwCl ((fun u : Nat → Int32 => [(x, .inl (ct 0, 15, .inl u))]) u) t.heap) (aset [(x, .inl (ct 0, 15, .inl f))])) 0 0 (aset [(x, .inl (ct 0, 15, .inl f))]) := by
  refine Met.ofW (cc := cX11_copyRow) (maxL := 5) (ret := none) (by decide) rfl ?_
  intro p e s m args below meth c s₁ B hml hv
  obtain ⟨rfl, hP, hK, hD0⟩ := hv
  have hx := B.exec
  have hb := B.bytes
  have hr := B.returns
  have hts := atoms_spec (ws := wsX11_copyRow) B.pre
  have hown : s.vm.findClass RX11 = some m.cls := findClass_of_methodNamed B.named
  have hlocks := B.notSynchronized
  have hD := hD0.aself
  generalize hAe : aset [(x, .inl (ct 0, 15, .inl f))] = A at hD ⊢
  have hS : va_S A s.heap s.heap [] := va_S.rf
  have hl := lv_entry ([.ref x, .int 3, .int 0, .int 2]) (n := 5) (Nat.le_of_ble_eq_true rfl)
  rw [lg_entry_eq]
  generalize (lg_sl ([.ref x, .int 3, .int 0, .int 2]) ++ List.replicate (5 - (lg_sl ([.ref x, .int 3, .int 0, .int 2])).length) Slot.unset).toArray = ls at hl ⊢
  have hl : lv_has ls 5 [(0, .ref x), (1, .int 3), (2, .int 0), (3, .int 2)] := hl
  refine lv_iconst (v := 0) hx hb dX11_copyRow_0 (by decide) ?_
  refine lv_istore (lv' := [(4, .int 0), (0, .ref x), (1, .int 3), (2, .int 0), (3, .int 2)]) hx hb dX11_copyRow_1 hl (by decide) rfl (fun ls hl => ?_)
  have key : ∀ (n k : Nat) (g : Nat → Int32) (H : Heap) (locs : List Loc) (ls : Array Slot), k ≤ 3 → 4 ≤ k + n → ((∀ i, f i = 0) → ∀ i, g i = 0) → va_P G vwCl [(x, .inl (ct 0, 15, .inl g))] H → va_D A [(x, .inl (ct 0, 15, .inl g))] → va_S A s.heap H locs → lv_has ls 5 [(4, .int (nI k)), (0, .ref x), (1, .int 3), (2, .int 0), (3, .int 2)] → W p l e (headSpec wsX11_copyRow ({ frames := 0, cells := 0, slots := 0, locals := 0 })).room s m ([.ref x, .int 3, .int 0, .int 2] : List Value).toArray below meth c H locs 0 0 (MQ below (va_Qv (fun u : Nat → Int32 => (∀ i, f i = 0) → ∀ i, u i = 0) (fun u t => va_P G vwCl ((fun u : Nat → Int32 => [(x, .inl (ct 0, 15, .inl u))]) u) t.heap) A) ([.ref x, .int 3, .int 0, .int 2] : List Value).toArray s 0 0 A) (F0 m 3 ls []) := by
    intro n
    induction n with
    | zero => intro k g H locs ls hk hn; exact absurd hn (by omega)
    | succ n ih =>
      intro k g H locs ls hk hn hz hP hD hS hl
      refine lv_iload hx hb dX11_copyRow_3 (lv_at hl 0 rfl) ?_
      refine lv_iload_n hx hb dX11_copyRow_5 rfl (lv_at hl 2 rfl) ?_
      refine lv_icmp_ge (tgt := 31) hx hb dX11_copyRow_6 (by decide) (fun c_1 => ?_) (fun c_1 => ?_)
      · exact W.vret hx hb hr (fun t ht hW => ⟨⟨g, rfl, hz, hp_at ht hP⟩, hS.F ht⟩) hS.2.2 dX11_copyRow_31
      · refine lv_aload_n hx hb dX11_copyRow_9 rfl (lv_at hl 1 rfl) ?_
        refine lv_iload_n hx hb dX11_copyRow_10 rfl (lv_at hl 2 rfl) ?_
        refine lv_iload_n hx hb dX11_copyRow_11 rfl (lv_at hl 4 rfl) ?_
        refine lv_imul hx hb dX11_copyRow_12 ?_
        refine ix_i (y := 6) (by decide) ?_
        refine lv_iload hx hb dX11_copyRow_13 (lv_at hl 0 rfl) ?_
        refine lv_iadd hx hb dX11_copyRow_15 ?_
        refine ix_i (y := nI (6 + k)) (nI_add 6 k) ?_
        refine lv_aload_n hx hb dX11_copyRow_16 rfl (lv_at hl 1 rfl) ?_
        refine lv_iload_n hx hb dX11_copyRow_17 rfl (lv_at hl 2 rfl) ?_
        refine lv_iload_n hx hb dX11_copyRow_18 rfl (lv_at hl 3 rfl) ?_
        refine lv_imul hx hb dX11_copyRow_19 ?_
        refine ix_i (y := 0) (by decide) ?_
        refine lv_iload hx hb dX11_copyRow_20 (lv_at hl 0 rfl) ?_
        refine lv_iadd hx hb dX11_copyRow_22 ?_
        refine ix_i (y := nI (0 + k)) (nI_add 0 k) ?_
        refine va_iald hx hb hK.1 hP 0 0 rfl rfl (vp_in_nI (n := 0 + k) (by have f0 := i_nle c_1; have := nI_toInt (n := k) (by omega); have : (3 : Int32).toInt = 3 := (by decide); omega) (by omega)) dX11_copyRow_23 ?_
        refine va_iast hx hb hK.1 hP hD hS 0 0 rfl rfl (vp_in_nI (n := 6 + k) (by have f0 := i_nle c_1; have := nI_toInt (n := k) (by omega); have : (3 : Int32).toInt = 3 := (by decide); omega) (by omega)) dX11_copyRow_24 (fun H locs hP hD hS => ?_)
        refine lv_iinc (v := nI (k + 1)) (lv' := [(4, .int (nI (k + 1))), (0, .ref x), (1, .int 3), (2, .int 0), (3, .int 2)]) hx hb dX11_copyRow_25 hl (k := 0) rfl (inc1 _) (by decide) rfl (fun ls hl => ?_)
        refine lv_goto (tgt := 3) hx hb dX11_copyRow_28 (by decide) ?_
        exact ih (k + 1) (upd g (nI (6 + k)).toNatClampNeg (g (nI (0 + k)).toNatClampNeg)) _ _ ls (by have f0 := i_nle c_1; have := nI_toInt (n := k) (by omega); have : (3 : Int32).toInt = 3 := (by decide); omega) (by omega) (fun h i => by unfold upd; split <;> exact hz h _) hP hD hS (lv_sub hl [0, 1, 2, 3, 4] rfl)
  exact key 4 0 f _ _ ls (by omega) (by omega) (fun h => h) hP hD hS hl

set_option maxHeartbeats 4000000 in
set_option maxRecDepth 100000 in
theorem c_copyRow_40_0_2 (l : Launch) (G : va_G) (ct : Nat → ClassId) (x : Nat) (f : Nat → Int32)  : Met l yX11_copyRow wsX11_copyRow ({ frames := 0, cells := 0, slots := 0, locals := 0 }) (va_Pc [.ref x, .int 40, .int 0, .int 2] (wrP G ct [(x, .inl (ct 0, 200, .inl f))])) (va_Qv (fun u : Nat → Int32 => (∀ i, f i = 0) → ∀ i, u i = 0) (fun u t => va_P G vwCl ((fun u : Nat → Int32 => [(x, .inl (ct 0, 200, .inl u))]) u) t.heap) (aset [(x, .inl (ct 0, 200, .inl f))])) 0 0 (aset [(x, .inl (ct 0, 200, .inl f))]) := by
  refine Met.ofW (cc := cX11_copyRow) (maxL := 5) (ret := none) (by decide) rfl ?_
  intro p e s m args below meth c s₁ B hml hv
  obtain ⟨rfl, hP, hK, hD0⟩ := hv
  have hx := B.exec
  have hb := B.bytes
  have hr := B.returns
  have hts := atoms_spec (ws := wsX11_copyRow) B.pre
  have hown : s.vm.findClass RX11 = some m.cls := findClass_of_methodNamed B.named
  have hlocks := B.notSynchronized
  have hD := hD0.aself
  generalize hAe : aset [(x, .inl (ct 0, 200, .inl f))] = A at hD ⊢
  have hS : va_S A s.heap s.heap [] := va_S.rf
  have hl := lv_entry ([.ref x, .int 40, .int 0, .int 2]) (n := 5) (Nat.le_of_ble_eq_true rfl)
  rw [lg_entry_eq]
  generalize (lg_sl ([.ref x, .int 40, .int 0, .int 2]) ++ List.replicate (5 - (lg_sl ([.ref x, .int 40, .int 0, .int 2])).length) Slot.unset).toArray = ls at hl ⊢
  have hl : lv_has ls 5 [(0, .ref x), (1, .int 40), (2, .int 0), (3, .int 2)] := hl
  refine lv_iconst (v := 0) hx hb dX11_copyRow_0 (by decide) ?_
  refine lv_istore (lv' := [(4, .int 0), (0, .ref x), (1, .int 40), (2, .int 0), (3, .int 2)]) hx hb dX11_copyRow_1 hl (by decide) rfl (fun ls hl => ?_)
  have key : ∀ (n k : Nat) (g : Nat → Int32) (H : Heap) (locs : List Loc) (ls : Array Slot), k ≤ 40 → 41 ≤ k + n → ((∀ i, f i = 0) → ∀ i, g i = 0) → va_P G vwCl [(x, .inl (ct 0, 200, .inl g))] H → va_D A [(x, .inl (ct 0, 200, .inl g))] → va_S A s.heap H locs → lv_has ls 5 [(4, .int (nI k)), (0, .ref x), (1, .int 40), (2, .int 0), (3, .int 2)] → W p l e (headSpec wsX11_copyRow ({ frames := 0, cells := 0, slots := 0, locals := 0 })).room s m ([.ref x, .int 40, .int 0, .int 2] : List Value).toArray below meth c H locs 0 0 (MQ below (va_Qv (fun u : Nat → Int32 => (∀ i, f i = 0) → ∀ i, u i = 0) (fun u t => va_P G vwCl ((fun u : Nat → Int32 => [(x, .inl (ct 0, 200, .inl u))]) u) t.heap) A) ([.ref x, .int 40, .int 0, .int 2] : List Value).toArray s 0 0 A) (F0 m 3 ls []) := by
    intro n
    induction n with
    | zero => intro k g H locs ls hk hn; exact absurd hn (by omega)
    | succ n ih =>
      intro k g H locs ls hk hn hz hP hD hS hl
      refine lv_iload hx hb dX11_copyRow_3 (lv_at hl 0 rfl) ?_
      refine lv_iload_n hx hb dX11_copyRow_5 rfl (lv_at hl 2 rfl) ?_
      refine lv_icmp_ge (tgt := 31) hx hb dX11_copyRow_6 (by decide) (fun c_1 => ?_) (fun c_1 => ?_)
      · exact W.vret hx hb hr (fun t ht hW => ⟨⟨g, rfl, hz, hp_at ht hP⟩, hS.F ht⟩) hS.2.2 dX11_copyRow_31
      · refine lv_aload_n hx hb dX11_copyRow_9 rfl (lv_at hl 1 rfl) ?_
        refine lv_iload_n hx hb dX11_copyRow_10 rfl (lv_at hl 2 rfl) ?_
        refine lv_iload_n hx hb dX11_copyRow_11 rfl (lv_at hl 4 rfl) ?_
        refine lv_imul hx hb dX11_copyRow_12 ?_
        refine ix_i (y := 80) (by decide) ?_
        refine lv_iload hx hb dX11_copyRow_13 (lv_at hl 0 rfl) ?_
        refine lv_iadd hx hb dX11_copyRow_15 ?_
        refine ix_i (y := nI (80 + k)) (nI_add 80 k) ?_
        refine lv_aload_n hx hb dX11_copyRow_16 rfl (lv_at hl 1 rfl) ?_
        refine lv_iload_n hx hb dX11_copyRow_17 rfl (lv_at hl 2 rfl) ?_
        refine lv_iload_n hx hb dX11_copyRow_18 rfl (lv_at hl 3 rfl) ?_
        refine lv_imul hx hb dX11_copyRow_19 ?_
        refine ix_i (y := 0) (by decide) ?_
        refine lv_iload hx hb dX11_copyRow_20 (lv_at hl 0 rfl) ?_
        refine lv_iadd hx hb dX11_copyRow_22 ?_
        refine ix_i (y := nI (0 + k)) (nI_add 0 k) ?_
        refine va_iald hx hb hK.1 hP 0 0 rfl rfl (vp_in_nI (n := 0 + k) (by have f0 := i_nle c_1; have := nI_toInt (n := k) (by omega); have : (40 : Int32).toInt = 40 := (by decide); omega) (by omega)) dX11_copyRow_23 ?_
        refine va_iast hx hb hK.1 hP hD hS 0 0 rfl rfl (vp_in_nI (n := 80 + k) (by have f0 := i_nle c_1; have := nI_toInt (n := k) (by omega); have : (40 : Int32).toInt = 40 := (by decide); omega) (by omega)) dX11_copyRow_24 (fun H locs hP hD hS => ?_)
        refine lv_iinc (v := nI (k + 1)) (lv' := [(4, .int (nI (k + 1))), (0, .ref x), (1, .int 40), (2, .int 0), (3, .int 2)]) hx hb dX11_copyRow_25 hl (k := 0) rfl (inc1 _) (by decide) rfl (fun ls hl => ?_)
        refine lv_goto (tgt := 3) hx hb dX11_copyRow_28 (by decide) ?_
        exact ih (k + 1) (upd g (nI (80 + k)).toNatClampNeg (g (nI (0 + k)).toNatClampNeg)) _ _ ls (by have f0 := i_nle c_1; have := nI_toInt (n := k) (by omega); have : (40 : Int32).toInt = 40 := (by decide); omega) (by omega) (fun h i => by unfold upd; split <;> exact hz h _) hP hD hS (lv_sub hl [0, 1, 2, 3, 4] rfl)
  exact key 41 0 f _ _ ls (by omega) (by omega) (fun h => h) hP hD hS hl

set_option maxHeartbeats 4000000 in
set_option maxRecDepth 100000 in
theorem c_copyRow_200_0_2 (l : Launch) (G : va_G) (ct : Nat → ClassId) (x : Nat) (f : Nat → Int32)  : Met l yX11_copyRow wsX11_copyRow ({ frames := 0, cells := 0, slots := 0, locals := 0 }) (va_Pc [.ref x, .int 200, .int 0, .int 2] (wrP G ct [(x, .inl (ct 0, 1000, .inl f))])) (va_Qv (fun u : Nat → Int32 => (∀ i, f i = 0) → ∀ i, u i = 0) (fun u t => va_P G vwCl ((fun u : Nat → Int32 => [(x, .inl (ct 0, 1000, .inl u))]) u) t.heap) (aset [(x, .inl (ct 0, 1000, .inl f))])) 0 0 (aset [(x, .inl (ct 0, 1000, .inl f))]) := by
  refine Met.ofW (cc := cX11_copyRow) (maxL := 5) (ret := none) (by decide) rfl ?_
  intro p e s m args below meth c s₁ B hml hv
  obtain ⟨rfl, hP, hK, hD0⟩ := hv
  have hx := B.exec
  have hb := B.bytes
  have hr := B.returns
  have hts := atoms_spec (ws := wsX11_copyRow) B.pre
  have hown : s.vm.findClass RX11 = some m.cls := findClass_of_methodNamed B.named
  have hlocks := B.notSynchronized
  have hD := hD0.aself
  generalize hAe : aset [(x, .inl (ct 0, 1000, .inl f))] = A at hD ⊢
  have hS : va_S A s.heap s.heap [] := va_S.rf
  have hl := lv_entry ([.ref x, .int 200, .int 0, .int 2]) (n := 5) (Nat.le_of_ble_eq_true rfl)
  rw [lg_entry_eq]
  generalize (lg_sl ([.ref x, .int 200, .int 0, .int 2]) ++ List.replicate (5 - (lg_sl ([.ref x, .int 200, .int 0, .int 2])).length) Slot.unset).toArray = ls at hl ⊢
  have hl : lv_has ls 5 [(0, .ref x), (1, .int 200), (2, .int 0), (3, .int 2)] := hl
  refine lv_iconst (v := 0) hx hb dX11_copyRow_0 (by decide) ?_
  refine lv_istore (lv' := [(4, .int 0), (0, .ref x), (1, .int 200), (2, .int 0), (3, .int 2)]) hx hb dX11_copyRow_1 hl (by decide) rfl (fun ls hl => ?_)
  have key : ∀ (n k : Nat) (g : Nat → Int32) (H : Heap) (locs : List Loc) (ls : Array Slot), k ≤ 200 → 201 ≤ k + n → ((∀ i, f i = 0) → ∀ i, g i = 0) → va_P G vwCl [(x, .inl (ct 0, 1000, .inl g))] H → va_D A [(x, .inl (ct 0, 1000, .inl g))] → va_S A s.heap H locs → lv_has ls 5 [(4, .int (nI k)), (0, .ref x), (1, .int 200), (2, .int 0), (3, .int 2)] → W p l e (headSpec wsX11_copyRow ({ frames := 0, cells := 0, slots := 0, locals := 0 })).room s m ([.ref x, .int 200, .int 0, .int 2] : List Value).toArray below meth c H locs 0 0 (MQ below (va_Qv (fun u : Nat → Int32 => (∀ i, f i = 0) → ∀ i, u i = 0) (fun u t => va_P G vwCl ((fun u : Nat → Int32 => [(x, .inl (ct 0, 1000, .inl u))]) u) t.heap) A) ([.ref x, .int 200, .int 0, .int 2] : List Value).toArray s 0 0 A) (F0 m 3 ls []) := by
    intro n
    induction n with
    | zero => intro k g H locs ls hk hn; exact absurd hn (by omega)
    | succ n ih =>
      intro k g H locs ls hk hn hz hP hD hS hl
      refine lv_iload hx hb dX11_copyRow_3 (lv_at hl 0 rfl) ?_
      refine lv_iload_n hx hb dX11_copyRow_5 rfl (lv_at hl 2 rfl) ?_
      refine lv_icmp_ge (tgt := 31) hx hb dX11_copyRow_6 (by decide) (fun c_1 => ?_) (fun c_1 => ?_)
      · exact W.vret hx hb hr (fun t ht hW => ⟨⟨g, rfl, hz, hp_at ht hP⟩, hS.F ht⟩) hS.2.2 dX11_copyRow_31
      · refine lv_aload_n hx hb dX11_copyRow_9 rfl (lv_at hl 1 rfl) ?_
        refine lv_iload_n hx hb dX11_copyRow_10 rfl (lv_at hl 2 rfl) ?_
        refine lv_iload_n hx hb dX11_copyRow_11 rfl (lv_at hl 4 rfl) ?_
        refine lv_imul hx hb dX11_copyRow_12 ?_
        refine ix_i (y := 400) (by decide) ?_
        refine lv_iload hx hb dX11_copyRow_13 (lv_at hl 0 rfl) ?_
        refine lv_iadd hx hb dX11_copyRow_15 ?_
        refine ix_i (y := nI (400 + k)) (nI_add 400 k) ?_
        refine lv_aload_n hx hb dX11_copyRow_16 rfl (lv_at hl 1 rfl) ?_
        refine lv_iload_n hx hb dX11_copyRow_17 rfl (lv_at hl 2 rfl) ?_
        refine lv_iload_n hx hb dX11_copyRow_18 rfl (lv_at hl 3 rfl) ?_
        refine lv_imul hx hb dX11_copyRow_19 ?_
        refine ix_i (y := 0) (by decide) ?_
        refine lv_iload hx hb dX11_copyRow_20 (lv_at hl 0 rfl) ?_
        refine lv_iadd hx hb dX11_copyRow_22 ?_
        refine ix_i (y := nI (0 + k)) (nI_add 0 k) ?_
        refine va_iald hx hb hK.1 hP 0 0 rfl rfl (vp_in_nI (n := 0 + k) (by have f0 := i_nle c_1; have := nI_toInt (n := k) (by omega); have : (200 : Int32).toInt = 200 := (by decide); omega) (by omega)) dX11_copyRow_23 ?_
        refine va_iast hx hb hK.1 hP hD hS 0 0 rfl rfl (vp_in_nI (n := 400 + k) (by have f0 := i_nle c_1; have := nI_toInt (n := k) (by omega); have : (200 : Int32).toInt = 200 := (by decide); omega) (by omega)) dX11_copyRow_24 (fun H locs hP hD hS => ?_)
        refine lv_iinc (v := nI (k + 1)) (lv' := [(4, .int (nI (k + 1))), (0, .ref x), (1, .int 200), (2, .int 0), (3, .int 2)]) hx hb dX11_copyRow_25 hl (k := 0) rfl (inc1 _) (by decide) rfl (fun ls hl => ?_)
        refine lv_goto (tgt := 3) hx hb dX11_copyRow_28 (by decide) ?_
        exact ih (k + 1) (upd g (nI (400 + k)).toNatClampNeg (g (nI (0 + k)).toNatClampNeg)) _ _ ls (by have f0 := i_nle c_1; have := nI_toInt (n := k) (by omega); have : (200 : Int32).toInt = 200 := (by decide); omega) (by omega) (fun h i => by unfold upd; split <;> exact hz h _) hP hD hS (lv_sub hl [0, 1, 2, 3, 4] rfl)
  exact key 201 0 f _ _ ls (by omega) (by omega) (fun h => h) hP hD hS hl

set_option maxHeartbeats 4000000 in
set_option maxRecDepth 100000 in
theorem c_copyRow_1_0_3 (l : Launch) (G : va_G) (ct : Nat → ClassId) (x : Nat) (f : Nat → Int32)  : Met l yX11_copyRow wsX11_copyRow ({ frames := 0, cells := 0, slots := 0, locals := 0 }) (va_Pc [.ref x, .int 1, .int 0, .int 3] (wrP G ct [(x, .inl (ct 0, 5, .inl f))])) (va_Qv (fun u : Nat → Int32 => (∀ i, f i = 0) → ∀ i, u i = 0) (fun u t => va_P G vwCl ((fun u : Nat → Int32 => [(x, .inl (ct 0, 5, .inl u))]) u) t.heap) (aset [(x, .inl (ct 0, 5, .inl f))])) 0 0 (aset [(x, .inl (ct 0, 5, .inl f))]) := by
  refine Met.ofW (cc := cX11_copyRow) (maxL := 5) (ret := none) (by decide) rfl ?_
  intro p e s m args below meth c s₁ B hml hv
  obtain ⟨rfl, hP, hK, hD0⟩ := hv
  have hx := B.exec
  have hb := B.bytes
  have hr := B.returns
  have hts := atoms_spec (ws := wsX11_copyRow) B.pre
  have hown : s.vm.findClass RX11 = some m.cls := findClass_of_methodNamed B.named
  have hlocks := B.notSynchronized
  have hD := hD0.aself
  generalize hAe : aset [(x, .inl (ct 0, 5, .inl f))] = A at hD ⊢
  have hS : va_S A s.heap s.heap [] := va_S.rf
  have hl := lv_entry ([.ref x, .int 1, .int 0, .int 3]) (n := 5) (Nat.le_of_ble_eq_true rfl)
  rw [lg_entry_eq]
  generalize (lg_sl ([.ref x, .int 1, .int 0, .int 3]) ++ List.replicate (5 - (lg_sl ([.ref x, .int 1, .int 0, .int 3])).length) Slot.unset).toArray = ls at hl ⊢
  have hl : lv_has ls 5 [(0, .ref x), (1, .int 1), (2, .int 0), (3, .int 3)] := hl
  refine lv_iconst (v := 0) hx hb dX11_copyRow_0 (by decide) ?_
  refine lv_istore (lv' := [(4, .int 0), (0, .ref x), (1, .int 1), (2, .int 0), (3, .int 3)]) hx hb dX11_copyRow_1 hl (by decide) rfl (fun ls hl => ?_)
  have key : ∀ (n k : Nat) (g : Nat → Int32) (H : Heap) (locs : List Loc) (ls : Array Slot), k ≤ 1 → 2 ≤ k + n → ((∀ i, f i = 0) → ∀ i, g i = 0) → va_P G vwCl [(x, .inl (ct 0, 5, .inl g))] H → va_D A [(x, .inl (ct 0, 5, .inl g))] → va_S A s.heap H locs → lv_has ls 5 [(4, .int (nI k)), (0, .ref x), (1, .int 1), (2, .int 0), (3, .int 3)] → W p l e (headSpec wsX11_copyRow ({ frames := 0, cells := 0, slots := 0, locals := 0 })).room s m ([.ref x, .int 1, .int 0, .int 3] : List Value).toArray below meth c H locs 0 0 (MQ below (va_Qv (fun u : Nat → Int32 => (∀ i, f i = 0) → ∀ i, u i = 0) (fun u t => va_P G vwCl ((fun u : Nat → Int32 => [(x, .inl (ct 0, 5, .inl u))]) u) t.heap) A) ([.ref x, .int 1, .int 0, .int 3] : List Value).toArray s 0 0 A) (F0 m 3 ls []) := by
    intro n
    induction n with
    | zero => intro k g H locs ls hk hn; exact absurd hn (by omega)
    | succ n ih =>
      intro k g H locs ls hk hn hz hP hD hS hl
      refine lv_iload hx hb dX11_copyRow_3 (lv_at hl 0 rfl) ?_
      refine lv_iload_n hx hb dX11_copyRow_5 rfl (lv_at hl 2 rfl) ?_
      refine lv_icmp_ge (tgt := 31) hx hb dX11_copyRow_6 (by decide) (fun c_1 => ?_) (fun c_1 => ?_)
      · exact W.vret hx hb hr (fun t ht hW => ⟨⟨g, rfl, hz, hp_at ht hP⟩, hS.F ht⟩) hS.2.2 dX11_copyRow_31
      · refine lv_aload_n hx hb dX11_copyRow_9 rfl (lv_at hl 1 rfl) ?_
        refine lv_iload_n hx hb dX11_copyRow_10 rfl (lv_at hl 2 rfl) ?_
        refine lv_iload_n hx hb dX11_copyRow_11 rfl (lv_at hl 4 rfl) ?_
        refine lv_imul hx hb dX11_copyRow_12 ?_
        refine ix_i (y := 3) (by decide) ?_
        refine lv_iload hx hb dX11_copyRow_13 (lv_at hl 0 rfl) ?_
        refine lv_iadd hx hb dX11_copyRow_15 ?_
        refine ix_i (y := nI (3 + k)) (nI_add 3 k) ?_
        refine lv_aload_n hx hb dX11_copyRow_16 rfl (lv_at hl 1 rfl) ?_
        refine lv_iload_n hx hb dX11_copyRow_17 rfl (lv_at hl 2 rfl) ?_
        refine lv_iload_n hx hb dX11_copyRow_18 rfl (lv_at hl 3 rfl) ?_
        refine lv_imul hx hb dX11_copyRow_19 ?_
        refine ix_i (y := 0) (by decide) ?_
        refine lv_iload hx hb dX11_copyRow_20 (lv_at hl 0 rfl) ?_
        refine lv_iadd hx hb dX11_copyRow_22 ?_
        refine ix_i (y := nI (0 + k)) (nI_add 0 k) ?_
        refine va_iald hx hb hK.1 hP 0 0 rfl rfl (vp_in_nI (n := 0 + k) (by have f0 := i_nle c_1; have := nI_toInt (n := k) (by omega); have : (1 : Int32).toInt = 1 := (by decide); omega) (by omega)) dX11_copyRow_23 ?_
        refine va_iast hx hb hK.1 hP hD hS 0 0 rfl rfl (vp_in_nI (n := 3 + k) (by have f0 := i_nle c_1; have := nI_toInt (n := k) (by omega); have : (1 : Int32).toInt = 1 := (by decide); omega) (by omega)) dX11_copyRow_24 (fun H locs hP hD hS => ?_)
        refine lv_iinc (v := nI (k + 1)) (lv' := [(4, .int (nI (k + 1))), (0, .ref x), (1, .int 1), (2, .int 0), (3, .int 3)]) hx hb dX11_copyRow_25 hl (k := 0) rfl (inc1 _) (by decide) rfl (fun ls hl => ?_)
        refine lv_goto (tgt := 3) hx hb dX11_copyRow_28 (by decide) ?_
        exact ih (k + 1) (upd g (nI (3 + k)).toNatClampNeg (g (nI (0 + k)).toNatClampNeg)) _ _ ls (by have f0 := i_nle c_1; have := nI_toInt (n := k) (by omega); have : (1 : Int32).toInt = 1 := (by decide); omega) (by omega) (fun h i => by unfold upd; split <;> exact hz h _) hP hD hS (lv_sub hl [0, 1, 2, 3, 4] rfl)
  exact key 2 0 f _ _ ls (by omega) (by omega) (fun h => h) hP hD hS hl

set_option maxHeartbeats 4000000 in
set_option maxRecDepth 100000 in
theorem c_copyRow_3_0_3 (l : Launch) (G : va_G) (ct : Nat → ClassId) (x : Nat) (f : Nat → Int32)  : Met l yX11_copyRow wsX11_copyRow ({ frames := 0, cells := 0, slots := 0, locals := 0 }) (va_Pc [.ref x, .int 3, .int 0, .int 3] (wrP G ct [(x, .inl (ct 0, 15, .inl f))])) (va_Qv (fun u : Nat → Int32 => (∀ i, f i = 0) → ∀ i, u i = 0) (fun u t => va_P G vwCl ((fun u : Nat → Int32 => [(x, .inl (ct 0, 15, .inl u))]) u) t.heap) (aset [(x, .inl (ct 0, 15, .inl f))])) 0 0 (aset [(x, .inl (ct 0, 15, .inl f))]) := by
  refine Met.ofW (cc := cX11_copyRow) (maxL := 5) (ret := none) (by decide) rfl ?_
  intro p e s m args below meth c s₁ B hml hv
  obtain ⟨rfl, hP, hK, hD0⟩ := hv
  have hx := B.exec
  have hb := B.bytes
  have hr := B.returns
  have hts := atoms_spec (ws := wsX11_copyRow) B.pre
  have hown : s.vm.findClass RX11 = some m.cls := findClass_of_methodNamed B.named
  have hlocks := B.notSynchronized
  have hD := hD0.aself
  generalize hAe : aset [(x, .inl (ct 0, 15, .inl f))] = A at hD ⊢
  have hS : va_S A s.heap s.heap [] := va_S.rf
  have hl := lv_entry ([.ref x, .int 3, .int 0, .int 3]) (n := 5) (Nat.le_of_ble_eq_true rfl)
  rw [lg_entry_eq]
  generalize (lg_sl ([.ref x, .int 3, .int 0, .int 3]) ++ List.replicate (5 - (lg_sl ([.ref x, .int 3, .int 0, .int 3])).length) Slot.unset).toArray = ls at hl ⊢
  have hl : lv_has ls 5 [(0, .ref x), (1, .int 3), (2, .int 0), (3, .int 3)] := hl
  refine lv_iconst (v := 0) hx hb dX11_copyRow_0 (by decide) ?_
  refine lv_istore (lv' := [(4, .int 0), (0, .ref x), (1, .int 3), (2, .int 0), (3, .int 3)]) hx hb dX11_copyRow_1 hl (by decide) rfl (fun ls hl => ?_)
  have key : ∀ (n k : Nat) (g : Nat → Int32) (H : Heap) (locs : List Loc) (ls : Array Slot), k ≤ 3 → 4 ≤ k + n → ((∀ i, f i = 0) → ∀ i, g i = 0) → va_P G vwCl [(x, .inl (ct 0, 15, .inl g))] H → va_D A [(x, .inl (ct 0, 15, .inl g))] → va_S A s.heap H locs → lv_has ls 5 [(4, .int (nI k)), (0, .ref x), (1, .int 3), (2, .int 0), (3, .int 3)] → W p l e (headSpec wsX11_copyRow ({ frames := 0, cells := 0, slots := 0, locals := 0 })).room s m ([.ref x, .int 3, .int 0, .int 3] : List Value).toArray below meth c H locs 0 0 (MQ below (va_Qv (fun u : Nat → Int32 => (∀ i, f i = 0) → ∀ i, u i = 0) (fun u t => va_P G vwCl ((fun u : Nat → Int32 => [(x, .inl (ct 0, 15, .inl u))]) u) t.heap) A) ([.ref x, .int 3, .int 0, .int 3] : List Value).toArray s 0 0 A) (F0 m 3 ls []) := by
    intro n
    induction n with
    | zero => intro k g H locs ls hk hn; exact absurd hn (by omega)
    | succ n ih =>
      intro k g H locs ls hk hn hz hP hD hS hl
      refine lv_iload hx hb dX11_copyRow_3 (lv_at hl 0 rfl) ?_
      refine lv_iload_n hx hb dX11_copyRow_5 rfl (lv_at hl 2 rfl) ?_
      refine lv_icmp_ge (tgt := 31) hx hb dX11_copyRow_6 (by decide) (fun c_1 => ?_) (fun c_1 => ?_)
      · exact W.vret hx hb hr (fun t ht hW => ⟨⟨g, rfl, hz, hp_at ht hP⟩, hS.F ht⟩) hS.2.2 dX11_copyRow_31
      · refine lv_aload_n hx hb dX11_copyRow_9 rfl (lv_at hl 1 rfl) ?_
        refine lv_iload_n hx hb dX11_copyRow_10 rfl (lv_at hl 2 rfl) ?_
        refine lv_iload_n hx hb dX11_copyRow_11 rfl (lv_at hl 4 rfl) ?_
        refine lv_imul hx hb dX11_copyRow_12 ?_
        refine ix_i (y := 9) (by decide) ?_
        refine lv_iload hx hb dX11_copyRow_13 (lv_at hl 0 rfl) ?_
        refine lv_iadd hx hb dX11_copyRow_15 ?_
        refine ix_i (y := nI (9 + k)) (nI_add 9 k) ?_
        refine lv_aload_n hx hb dX11_copyRow_16 rfl (lv_at hl 1 rfl) ?_
        refine lv_iload_n hx hb dX11_copyRow_17 rfl (lv_at hl 2 rfl) ?_
        refine lv_iload_n hx hb dX11_copyRow_18 rfl (lv_at hl 3 rfl) ?_
        refine lv_imul hx hb dX11_copyRow_19 ?_
        refine ix_i (y := 0) (by decide) ?_
        refine lv_iload hx hb dX11_copyRow_20 (lv_at hl 0 rfl) ?_
        refine lv_iadd hx hb dX11_copyRow_22 ?_
        refine ix_i (y := nI (0 + k)) (nI_add 0 k) ?_
        refine va_iald hx hb hK.1 hP 0 0 rfl rfl (vp_in_nI (n := 0 + k) (by have f0 := i_nle c_1; have := nI_toInt (n := k) (by omega); have : (3 : Int32).toInt = 3 := (by decide); omega) (by omega)) dX11_copyRow_23 ?_
        refine va_iast hx hb hK.1 hP hD hS 0 0 rfl rfl (vp_in_nI (n := 9 + k) (by have f0 := i_nle c_1; have := nI_toInt (n := k) (by omega); have : (3 : Int32).toInt = 3 := (by decide); omega) (by omega)) dX11_copyRow_24 (fun H locs hP hD hS => ?_)
        refine lv_iinc (v := nI (k + 1)) (lv' := [(4, .int (nI (k + 1))), (0, .ref x), (1, .int 3), (2, .int 0), (3, .int 3)]) hx hb dX11_copyRow_25 hl (k := 0) rfl (inc1 _) (by decide) rfl (fun ls hl => ?_)
        refine lv_goto (tgt := 3) hx hb dX11_copyRow_28 (by decide) ?_
        exact ih (k + 1) (upd g (nI (9 + k)).toNatClampNeg (g (nI (0 + k)).toNatClampNeg)) _ _ ls (by have f0 := i_nle c_1; have := nI_toInt (n := k) (by omega); have : (3 : Int32).toInt = 3 := (by decide); omega) (by omega) (fun h i => by unfold upd; split <;> exact hz h _) hP hD hS (lv_sub hl [0, 1, 2, 3, 4] rfl)
  exact key 4 0 f _ _ ls (by omega) (by omega) (fun h => h) hP hD hS hl

set_option maxHeartbeats 4000000 in
set_option maxRecDepth 100000 in
theorem c_copyRow_40_0_3 (l : Launch) (G : va_G) (ct : Nat → ClassId) (x : Nat) (f : Nat → Int32)  : Met l yX11_copyRow wsX11_copyRow ({ frames := 0, cells := 0, slots := 0, locals := 0 }) (va_Pc [.ref x, .int 40, .int 0, .int 3] (wrP G ct [(x, .inl (ct 0, 200, .inl f))])) (va_Qv (fun u : Nat → Int32 => (∀ i, f i = 0) → ∀ i, u i = 0) (fun u t => va_P G vwCl ((fun u : Nat → Int32 => [(x, .inl (ct 0, 200, .inl u))]) u) t.heap) (aset [(x, .inl (ct 0, 200, .inl f))])) 0 0 (aset [(x, .inl (ct 0, 200, .inl f))]) := by
  refine Met.ofW (cc := cX11_copyRow) (maxL := 5) (ret := none) (by decide) rfl ?_
  intro p e s m args below meth c s₁ B hml hv
  obtain ⟨rfl, hP, hK, hD0⟩ := hv
  have hx := B.exec
  have hb := B.bytes
  have hr := B.returns
  have hts := atoms_spec (ws := wsX11_copyRow) B.pre
  have hown : s.vm.findClass RX11 = some m.cls := findClass_of_methodNamed B.named
  have hlocks := B.notSynchronized
  have hD := hD0.aself
  generalize hAe : aset [(x, .inl (ct 0, 200, .inl f))] = A at hD ⊢
  have hS : va_S A s.heap s.heap [] := va_S.rf
  have hl := lv_entry ([.ref x, .int 40, .int 0, .int 3]) (n := 5) (Nat.le_of_ble_eq_true rfl)
  rw [lg_entry_eq]
  generalize (lg_sl ([.ref x, .int 40, .int 0, .int 3]) ++ List.replicate (5 - (lg_sl ([.ref x, .int 40, .int 0, .int 3])).length) Slot.unset).toArray = ls at hl ⊢
  have hl : lv_has ls 5 [(0, .ref x), (1, .int 40), (2, .int 0), (3, .int 3)] := hl
  refine lv_iconst (v := 0) hx hb dX11_copyRow_0 (by decide) ?_
  refine lv_istore (lv' := [(4, .int 0), (0, .ref x), (1, .int 40), (2, .int 0), (3, .int 3)]) hx hb dX11_copyRow_1 hl (by decide) rfl (fun ls hl => ?_)
  have key : ∀ (n k : Nat) (g : Nat → Int32) (H : Heap) (locs : List Loc) (ls : Array Slot), k ≤ 40 → 41 ≤ k + n → ((∀ i, f i = 0) → ∀ i, g i = 0) → va_P G vwCl [(x, .inl (ct 0, 200, .inl g))] H → va_D A [(x, .inl (ct 0, 200, .inl g))] → va_S A s.heap H locs → lv_has ls 5 [(4, .int (nI k)), (0, .ref x), (1, .int 40), (2, .int 0), (3, .int 3)] → W p l e (headSpec wsX11_copyRow ({ frames := 0, cells := 0, slots := 0, locals := 0 })).room s m ([.ref x, .int 40, .int 0, .int 3] : List Value).toArray below meth c H locs 0 0 (MQ below (va_Qv (fun u : Nat → Int32 => (∀ i, f i = 0) → ∀ i, u i = 0) (fun u t => va_P G vwCl ((fun u : Nat → Int32 => [(x, .inl (ct 0, 200, .inl u))]) u) t.heap) A) ([.ref x, .int 40, .int 0, .int 3] : List Value).toArray s 0 0 A) (F0 m 3 ls []) := by
    intro n
    induction n with
    | zero => intro k g H locs ls hk hn; exact absurd hn (by omega)
    | succ n ih =>
      intro k g H locs ls hk hn hz hP hD hS hl
      refine lv_iload hx hb dX11_copyRow_3 (lv_at hl 0 rfl) ?_
      refine lv_iload_n hx hb dX11_copyRow_5 rfl (lv_at hl 2 rfl) ?_
      refine lv_icmp_ge (tgt := 31) hx hb dX11_copyRow_6 (by decide) (fun c_1 => ?_) (fun c_1 => ?_)
      · exact W.vret hx hb hr (fun t ht hW => ⟨⟨g, rfl, hz, hp_at ht hP⟩, hS.F ht⟩) hS.2.2 dX11_copyRow_31
      · refine lv_aload_n hx hb dX11_copyRow_9 rfl (lv_at hl 1 rfl) ?_
        refine lv_iload_n hx hb dX11_copyRow_10 rfl (lv_at hl 2 rfl) ?_
        refine lv_iload_n hx hb dX11_copyRow_11 rfl (lv_at hl 4 rfl) ?_
        refine lv_imul hx hb dX11_copyRow_12 ?_
        refine ix_i (y := 120) (by decide) ?_
        refine lv_iload hx hb dX11_copyRow_13 (lv_at hl 0 rfl) ?_
        refine lv_iadd hx hb dX11_copyRow_15 ?_
        refine ix_i (y := nI (120 + k)) (nI_add 120 k) ?_
        refine lv_aload_n hx hb dX11_copyRow_16 rfl (lv_at hl 1 rfl) ?_
        refine lv_iload_n hx hb dX11_copyRow_17 rfl (lv_at hl 2 rfl) ?_
        refine lv_iload_n hx hb dX11_copyRow_18 rfl (lv_at hl 3 rfl) ?_
        refine lv_imul hx hb dX11_copyRow_19 ?_
        refine ix_i (y := 0) (by decide) ?_
        refine lv_iload hx hb dX11_copyRow_20 (lv_at hl 0 rfl) ?_
        refine lv_iadd hx hb dX11_copyRow_22 ?_
        refine ix_i (y := nI (0 + k)) (nI_add 0 k) ?_
        refine va_iald hx hb hK.1 hP 0 0 rfl rfl (vp_in_nI (n := 0 + k) (by have f0 := i_nle c_1; have := nI_toInt (n := k) (by omega); have : (40 : Int32).toInt = 40 := (by decide); omega) (by omega)) dX11_copyRow_23 ?_
        refine va_iast hx hb hK.1 hP hD hS 0 0 rfl rfl (vp_in_nI (n := 120 + k) (by have f0 := i_nle c_1; have := nI_toInt (n := k) (by omega); have : (40 : Int32).toInt = 40 := (by decide); omega) (by omega)) dX11_copyRow_24 (fun H locs hP hD hS => ?_)
        refine lv_iinc (v := nI (k + 1)) (lv' := [(4, .int (nI (k + 1))), (0, .ref x), (1, .int 40), (2, .int 0), (3, .int 3)]) hx hb dX11_copyRow_25 hl (k := 0) rfl (inc1 _) (by decide) rfl (fun ls hl => ?_)
        refine lv_goto (tgt := 3) hx hb dX11_copyRow_28 (by decide) ?_
        exact ih (k + 1) (upd g (nI (120 + k)).toNatClampNeg (g (nI (0 + k)).toNatClampNeg)) _ _ ls (by have f0 := i_nle c_1; have := nI_toInt (n := k) (by omega); have : (40 : Int32).toInt = 40 := (by decide); omega) (by omega) (fun h i => by unfold upd; split <;> exact hz h _) hP hD hS (lv_sub hl [0, 1, 2, 3, 4] rfl)
  exact key 41 0 f _ _ ls (by omega) (by omega) (fun h => h) hP hD hS hl

set_option maxHeartbeats 4000000 in
set_option maxRecDepth 100000 in
theorem c_copyRow_200_0_3 (l : Launch) (G : va_G) (ct : Nat → ClassId) (x : Nat) (f : Nat → Int32)  : Met l yX11_copyRow wsX11_copyRow ({ frames := 0, cells := 0, slots := 0, locals := 0 }) (va_Pc [.ref x, .int 200, .int 0, .int 3] (wrP G ct [(x, .inl (ct 0, 1000, .inl f))])) (va_Qv (fun u : Nat → Int32 => (∀ i, f i = 0) → ∀ i, u i = 0) (fun u t => va_P G vwCl ((fun u : Nat → Int32 => [(x, .inl (ct 0, 1000, .inl u))]) u) t.heap) (aset [(x, .inl (ct 0, 1000, .inl f))])) 0 0 (aset [(x, .inl (ct 0, 1000, .inl f))]) := by
  refine Met.ofW (cc := cX11_copyRow) (maxL := 5) (ret := none) (by decide) rfl ?_
  intro p e s m args below meth c s₁ B hml hv
  obtain ⟨rfl, hP, hK, hD0⟩ := hv
  have hx := B.exec
  have hb := B.bytes
  have hr := B.returns
  have hts := atoms_spec (ws := wsX11_copyRow) B.pre
  have hown : s.vm.findClass RX11 = some m.cls := findClass_of_methodNamed B.named
  have hlocks := B.notSynchronized
  have hD := hD0.aself
  generalize hAe : aset [(x, .inl (ct 0, 1000, .inl f))] = A at hD ⊢
  have hS : va_S A s.heap s.heap [] := va_S.rf
  have hl := lv_entry ([.ref x, .int 200, .int 0, .int 3]) (n := 5) (Nat.le_of_ble_eq_true rfl)
  rw [lg_entry_eq]
  generalize (lg_sl ([.ref x, .int 200, .int 0, .int 3]) ++ List.replicate (5 - (lg_sl ([.ref x, .int 200, .int 0, .int 3])).length) Slot.unset).toArray = ls at hl ⊢
  have hl : lv_has ls 5 [(0, .ref x), (1, .int 200), (2, .int 0), (3, .int 3)] := hl
  refine lv_iconst (v := 0) hx hb dX11_copyRow_0 (by decide) ?_
  refine lv_istore (lv' := [(4, .int 0), (0, .ref x), (1, .int 200), (2, .int 0), (3, .int 3)]) hx hb dX11_copyRow_1 hl (by decide) rfl (fun ls hl => ?_)
  have key : ∀ (n k : Nat) (g : Nat → Int32) (H : Heap) (locs : List Loc) (ls : Array Slot), k ≤ 200 → 201 ≤ k + n → ((∀ i, f i = 0) → ∀ i, g i = 0) → va_P G vwCl [(x, .inl (ct 0, 1000, .inl g))] H → va_D A [(x, .inl (ct 0, 1000, .inl g))] → va_S A s.heap H locs → lv_has ls 5 [(4, .int (nI k)), (0, .ref x), (1, .int 200), (2, .int 0), (3, .int 3)] → W p l e (headSpec wsX11_copyRow ({ frames := 0, cells := 0, slots := 0, locals := 0 })).room s m ([.ref x, .int 200, .int 0, .int 3] : List Value).toArray below meth c H locs 0 0 (MQ below (va_Qv (fun u : Nat → Int32 => (∀ i, f i = 0) → ∀ i, u i = 0) (fun u t => va_P G vwCl ((fun u : Nat → Int32 => [(x, .inl (ct 0, 1000, .inl u))]) u) t.heap) A) ([.ref x, .int 200, .int 0, .int 3] : List Value).toArray s 0 0 A) (F0 m 3 ls []) := by
    intro n
    induction n with
    | zero => intro k g H locs ls hk hn; exact absurd hn (by omega)
    | succ n ih =>
      intro k g H locs ls hk hn hz hP hD hS hl
      refine lv_iload hx hb dX11_copyRow_3 (lv_at hl 0 rfl) ?_
      refine lv_iload_n hx hb dX11_copyRow_5 rfl (lv_at hl 2 rfl) ?_
      refine lv_icmp_ge (tgt := 31) hx hb dX11_copyRow_6 (by decide) (fun c_1 => ?_) (fun c_1 => ?_)
      · exact W.vret hx hb hr (fun t ht hW => ⟨⟨g, rfl, hz, hp_at ht hP⟩, hS.F ht⟩) hS.2.2 dX11_copyRow_31
      · refine lv_aload_n hx hb dX11_copyRow_9 rfl (lv_at hl 1 rfl) ?_
        refine lv_iload_n hx hb dX11_copyRow_10 rfl (lv_at hl 2 rfl) ?_
        refine lv_iload_n hx hb dX11_copyRow_11 rfl (lv_at hl 4 rfl) ?_
        refine lv_imul hx hb dX11_copyRow_12 ?_
        refine ix_i (y := 600) (by decide) ?_
        refine lv_iload hx hb dX11_copyRow_13 (lv_at hl 0 rfl) ?_
        refine lv_iadd hx hb dX11_copyRow_15 ?_
        refine ix_i (y := nI (600 + k)) (nI_add 600 k) ?_
        refine lv_aload_n hx hb dX11_copyRow_16 rfl (lv_at hl 1 rfl) ?_
        refine lv_iload_n hx hb dX11_copyRow_17 rfl (lv_at hl 2 rfl) ?_
        refine lv_iload_n hx hb dX11_copyRow_18 rfl (lv_at hl 3 rfl) ?_
        refine lv_imul hx hb dX11_copyRow_19 ?_
        refine ix_i (y := 0) (by decide) ?_
        refine lv_iload hx hb dX11_copyRow_20 (lv_at hl 0 rfl) ?_
        refine lv_iadd hx hb dX11_copyRow_22 ?_
        refine ix_i (y := nI (0 + k)) (nI_add 0 k) ?_
        refine va_iald hx hb hK.1 hP 0 0 rfl rfl (vp_in_nI (n := 0 + k) (by have f0 := i_nle c_1; have := nI_toInt (n := k) (by omega); have : (200 : Int32).toInt = 200 := (by decide); omega) (by omega)) dX11_copyRow_23 ?_
        refine va_iast hx hb hK.1 hP hD hS 0 0 rfl rfl (vp_in_nI (n := 600 + k) (by have f0 := i_nle c_1; have := nI_toInt (n := k) (by omega); have : (200 : Int32).toInt = 200 := (by decide); omega) (by omega)) dX11_copyRow_24 (fun H locs hP hD hS => ?_)
        refine lv_iinc (v := nI (k + 1)) (lv' := [(4, .int (nI (k + 1))), (0, .ref x), (1, .int 200), (2, .int 0), (3, .int 3)]) hx hb dX11_copyRow_25 hl (k := 0) rfl (inc1 _) (by decide) rfl (fun ls hl => ?_)
        refine lv_goto (tgt := 3) hx hb dX11_copyRow_28 (by decide) ?_
        exact ih (k + 1) (upd g (nI (600 + k)).toNatClampNeg (g (nI (0 + k)).toNatClampNeg)) _ _ ls (by have f0 := i_nle c_1; have := nI_toInt (n := k) (by omega); have : (200 : Int32).toInt = 200 := (by decide); omega) (by omega) (fun h i => by unfold upd; split <;> exact hz h _) hP hD hS (lv_sub hl [0, 1, 2, 3, 4] rfl)
  exact key 201 0 f _ _ ls (by omega) (by omega) (fun h => h) hP hD hS hl

set_option maxHeartbeats 4000000 in
set_option maxRecDepth 100000 in
theorem c_copyRow_1_4_0 (l : Launch) (G : va_G) (ct : Nat → ClassId) (x : Nat) (f : Nat → Int32)  : Met l yX11_copyRow wsX11_copyRow ({ frames := 0, cells := 0, slots := 0, locals := 0 }) (va_Pc [.ref x, .int 1, .int 4, .int 0] (wrP G ct [(x, .inl (ct 0, 5, .inl f))])) (va_Qv (fun u : Nat → Int32 => (∀ i, f i = 0) → ∀ i, u i = 0) (fun u t => va_P G vwCl ((fun u : Nat → Int32 => [(x, .inl (ct 0, 5, .inl u))]) u) t.heap) (aset [(x, .inl (ct 0, 5, .inl f))])) 0 0 (aset [(x, .inl (ct 0, 5, .inl f))]) := by
  refine Met.ofW (cc := cX11_copyRow) (maxL := 5) (ret := none) (by decide) rfl ?_
  intro p e s m args below meth c s₁ B hml hv
  obtain ⟨rfl, hP, hK, hD0⟩ := hv
  have hx := B.exec
  have hb := B.bytes
  have hr := B.returns
  have hts := atoms_spec (ws := wsX11_copyRow) B.pre
  have hown : s.vm.findClass RX11 = some m.cls := findClass_of_methodNamed B.named
  have hlocks := B.notSynchronized
  have hD := hD0.aself
  generalize hAe : aset [(x, .inl (ct 0, 5, .inl f))] = A at hD ⊢
  have hS : va_S A s.heap s.heap [] := va_S.rf
  have hl := lv_entry ([.ref x, .int 1, .int 4, .int 0]) (n := 5) (Nat.le_of_ble_eq_true rfl)
  rw [lg_entry_eq]
  generalize (lg_sl ([.ref x, .int 1, .int 4, .int 0]) ++ List.replicate (5 - (lg_sl ([.ref x, .int 1, .int 4, .int 0])).length) Slot.unset).toArray = ls at hl ⊢
  have hl : lv_has ls 5 [(0, .ref x), (1, .int 1), (2, .int 4), (3, .int 0)] := hl
  refine lv_iconst (v := 0) hx hb dX11_copyRow_0 (by decide) ?_
  refine lv_istore (lv' := [(4, .int 0), (0, .ref x), (1, .int 1), (2, .int 4), (3, .int 0)]) hx hb dX11_copyRow_1 hl (by decide) rfl (fun ls hl => ?_)
  have key : ∀ (n k : Nat) (g : Nat → Int32) (H : Heap) (locs : List Loc) (ls : Array Slot), k ≤ 1 → 2 ≤ k + n → ((∀ i, f i = 0) → ∀ i, g i = 0) → va_P G vwCl [(x, .inl (ct 0, 5, .inl g))] H → va_D A [(x, .inl (ct 0, 5, .inl g))] → va_S A s.heap H locs → lv_has ls 5 [(4, .int (nI k)), (0, .ref x), (1, .int 1), (2, .int 4), (3, .int 0)] → W p l e (headSpec wsX11_copyRow ({ frames := 0, cells := 0, slots := 0, locals := 0 })).room s m ([.ref x, .int 1, .int 4, .int 0] : List Value).toArray below meth c H locs 0 0 (MQ below (va_Qv (fun u : Nat → Int32 => (∀ i, f i = 0) → ∀ i, u i = 0) (fun u t => va_P G vwCl ((fun u : Nat → Int32 => [(x, .inl (ct 0, 5, .inl u))]) u) t.heap) A) ([.ref x, .int 1, .int 4, .int 0] : List Value).toArray s 0 0 A) (F0 m 3 ls []) := by
    intro n
    induction n with
    | zero => intro k g H locs ls hk hn; exact absurd hn (by omega)
    | succ n ih =>
      intro k g H locs ls hk hn hz hP hD hS hl
      refine lv_iload hx hb dX11_copyRow_3 (lv_at hl 0 rfl) ?_
      refine lv_iload_n hx hb dX11_copyRow_5 rfl (lv_at hl 2 rfl) ?_
      refine lv_icmp_ge (tgt := 31) hx hb dX11_copyRow_6 (by decide) (fun c_1 => ?_) (fun c_1 => ?_)
      · exact W.vret hx hb hr (fun t ht hW => ⟨⟨g, rfl, hz, hp_at ht hP⟩, hS.F ht⟩) hS.2.2 dX11_copyRow_31
      · refine lv_aload_n hx hb dX11_copyRow_9 rfl (lv_at hl 1 rfl) ?_
        refine lv_iload_n hx hb dX11_copyRow_10 rfl (lv_at hl 2 rfl) ?_
        refine lv_iload_n hx hb dX11_copyRow_11 rfl (lv_at hl 4 rfl) ?_
        refine lv_imul hx hb dX11_copyRow_12 ?_
        refine ix_i (y := 0) (by decide) ?_
        refine lv_iload hx hb dX11_copyRow_13 (lv_at hl 0 rfl) ?_
        refine lv_iadd hx hb dX11_copyRow_15 ?_
        refine ix_i (y := nI (0 + k)) (nI_add 0 k) ?_
        refine lv_aload_n hx hb dX11_copyRow_16 rfl (lv_at hl 1 rfl) ?_
        refine lv_iload_n hx hb dX11_copyRow_17 rfl (lv_at hl 2 rfl) ?_
        refine lv_iload_n hx hb dX11_copyRow_18 rfl (lv_at hl 3 rfl) ?_
        refine lv_imul hx hb dX11_copyRow_19 ?_
        refine ix_i (y := 4) (by decide) ?_
        refine lv_iload hx hb dX11_copyRow_20 (lv_at hl 0 rfl) ?_
        refine lv_iadd hx hb dX11_copyRow_22 ?_
        refine ix_i (y := nI (4 + k)) (nI_add 4 k) ?_
        refine va_iald hx hb hK.1 hP 0 0 rfl rfl (vp_in_nI (n := 4 + k) (by have f0 := i_nle c_1; have := nI_toInt (n := k) (by omega); have : (1 : Int32).toInt = 1 := (by decide); omega) (by omega)) dX11_copyRow_23 ?_
        refine va_iast hx hb hK.1 hP hD hS 0 0 rfl rfl (vp_in_nI (n := 0 + k) (by have f0 := i_nle c_1; have := nI_toInt (n := k) (by omega); have : (1 : Int32).toInt = 1 := (by decide); omega) (by omega)) dX11_copyRow_24 (fun H locs hP hD hS => ?_)
        refine lv_iinc (v := nI (k + 1)) (lv' := [(4, .int (nI (k + 1))), (0, .ref x), (1, .int 1), (2, .int 4), (3, .int 0)]) hx hb dX11_copyRow_25 hl (k := 0) rfl (inc1 _) (by decide) rfl (fun ls hl => ?_)
        refine lv_goto (tgt := 3) hx hb dX11_copyRow_28 (by decide) ?_
        exact ih (k + 1) (upd g (nI (0 + k)).toNatClampNeg (g (nI (4 + k)).toNatClampNeg)) _ _ ls (by have f0 := i_nle c_1; have := nI_toInt (n := k) (by omega); have : (1 : Int32).toInt = 1 := (by decide); omega) (by omega) (fun h i => by unfold upd; split <;> exact hz h _) hP hD hS (lv_sub hl [0, 1, 2, 3, 4] rfl)
  exact key 2 0 f _ _ ls (by omega) (by omega) (fun h => h) hP hD hS hl

set_option maxHeartbeats 4000000 in
set_option maxRecDepth 100000 in
theorem c_copyRow_3_4_0 (l : Launch) (G : va_G) (ct : Nat → ClassId) (x : Nat) (f : Nat → Int32)  : Met l yX11_copyRow wsX11_copyRow ({ frames := 0, cells := 0, slots := 0, locals := 0 }) (va_Pc [.ref x, .int 3, .int 4, .int 0] (wrP G ct [(x, .inl (ct 0, 15, .inl f))])) (va_Qv (fun u : Nat → Int32 => (∀ i, f i = 0) → ∀ i, u i = 0) (fun u t => va_P G vwCl ((fun u : Nat → Int32 => [(x, .inl (ct 0, 15, .inl u))]) u) t.heap) (aset [(x, .inl (ct 0, 15, .inl f))])) 0 0 (aset [(x, .inl (ct 0, 15, .inl f))]) := by
  refine Met.ofW (cc := cX11_copyRow) (maxL := 5) (ret := none) (by decide) rfl ?_
  intro p e s m args below meth c s₁ B hml hv
  obtain ⟨rfl, hP, hK, hD0⟩ := hv
  have hx := B.exec
  have hb := B.bytes
  have hr := B.returns
  have hts := atoms_spec (ws := wsX11_copyRow) B.pre
  have hown : s.vm.findClass RX11 = some m.cls := findClass_of_methodNamed B.named
  have hlocks := B.notSynchronized
  have hD := hD0.aself
  generalize hAe : aset [(x, .inl (ct 0, 15, .inl f))] = A at hD ⊢
  have hS : va_S A s.heap s.heap [] := va_S.rf
  have hl := lv_entry ([.ref x, .int 3, .int 4, .int 0]) (n := 5) (Nat.le_of_ble_eq_true rfl)
  rw [lg_entry_eq]
  generalize (lg_sl ([.ref x, .int 3, .int 4, .int 0]) ++ List.replicate (5 - (lg_sl ([.ref x, .int 3, .int 4, .int 0])).length) Slot.unset).toArray = ls at hl ⊢
  have hl : lv_has ls 5 [(0, .ref x), (1, .int 3), (2, .int 4), (3, .int 0)] := hl
  refine lv_iconst (v := 0) hx hb dX11_copyRow_0 (by decide) ?_
  refine lv_istore (lv' := [(4, .int 0), (0, .ref x), (1, .int 3), (2, .int 4), (3, .int 0)]) hx hb dX11_copyRow_1 hl (by decide) rfl (fun ls hl => ?_)
  have key : ∀ (n k : Nat) (g : Nat → Int32) (H : Heap) (locs : List Loc) (ls : Array Slot), k ≤ 3 → 4 ≤ k + n → ((∀ i, f i = 0) → ∀ i, g i = 0) → va_P G vwCl [(x, .inl (ct 0, 15, .inl g))] H → va_D A [(x, .inl (ct 0, 15, .inl g))] → va_S A s.heap H locs → lv_has ls 5 [(4, .int (nI k)), (0, .ref x), (1, .int 3), (2, .int 4), (3, .int 0)] → W p l e (headSpec wsX11_copyRow ({ frames := 0, cells := 0, slots := 0, locals := 0 })).room s m ([.ref x, .int 3, .int 4, .int 0] : List Value).toArray below meth c H locs 0 0 (MQ below (va_Qv (fun u : Nat → Int32 => (∀ i, f i = 0) → ∀ i, u i = 0) (fun u t => va_P G vwCl ((fun u : Nat → Int32 => [(x, .inl (ct 0, 15, .inl u))]) u) t.heap) A) ([.ref x, .int 3, .int 4, .int 0] : List Value).toArray s 0 0 A) (F0 m 3 ls []) := by
    intro n
    induction n with
    | zero => intro k g H locs ls hk hn; exact absurd hn (by omega)
    | succ n ih =>
      intro k g H locs ls hk hn hz hP hD hS hl
      refine lv_iload hx hb dX11_copyRow_3 (lv_at hl 0 rfl) ?_
      refine lv_iload_n hx hb dX11_copyRow_5 rfl (lv_at hl 2 rfl) ?_
      refine lv_icmp_ge (tgt := 31) hx hb dX11_copyRow_6 (by decide) (fun c_1 => ?_) (fun c_1 => ?_)
      · exact W.vret hx hb hr (fun t ht hW => ⟨⟨g, rfl, hz, hp_at ht hP⟩, hS.F ht⟩) hS.2.2 dX11_copyRow_31
      · refine lv_aload_n hx hb dX11_copyRow_9 rfl (lv_at hl 1 rfl) ?_
        refine lv_iload_n hx hb dX11_copyRow_10 rfl (lv_at hl 2 rfl) ?_
        refine lv_iload_n hx hb dX11_copyRow_11 rfl (lv_at hl 4 rfl) ?_
        refine lv_imul hx hb dX11_copyRow_12 ?_
        refine ix_i (y := 0) (by decide) ?_
        refine lv_iload hx hb dX11_copyRow_13 (lv_at hl 0 rfl) ?_
        refine lv_iadd hx hb dX11_copyRow_15 ?_
        refine ix_i (y := nI (0 + k)) (nI_add 0 k) ?_
        refine lv_aload_n hx hb dX11_copyRow_16 rfl (lv_at hl 1 rfl) ?_
        refine lv_iload_n hx hb dX11_copyRow_17 rfl (lv_at hl 2 rfl) ?_
        refine lv_iload_n hx hb dX11_copyRow_18 rfl (lv_at hl 3 rfl) ?_
        refine lv_imul hx hb dX11_copyRow_19 ?_
        refine ix_i (y := 12) (by decide) ?_
        refine lv_iload hx hb dX11_copyRow_20 (lv_at hl 0 rfl) ?_
        refine lv_iadd hx hb dX11_copyRow_22 ?_
        refine ix_i (y := nI (12 + k)) (nI_add 12 k) ?_
        refine va_iald hx hb hK.1 hP 0 0 rfl rfl (vp_in_nI (n := 12 + k) (by have f0 := i_nle c_1; have := nI_toInt (n := k) (by omega); have : (3 : Int32).toInt = 3 := (by decide); omega) (by omega)) dX11_copyRow_23 ?_
        refine va_iast hx hb hK.1 hP hD hS 0 0 rfl rfl (vp_in_nI (n := 0 + k) (by have f0 := i_nle c_1; have := nI_toInt (n := k) (by omega); have : (3 : Int32).toInt = 3 := (by decide); omega) (by omega)) dX11_copyRow_24 (fun H locs hP hD hS => ?_)
        refine lv_iinc (v := nI (k + 1)) (lv' := [(4, .int (nI (k + 1))), (0, .ref x), (1, .int 3), (2, .int 4), (3, .int 0)]) hx hb dX11_copyRow_25 hl (k := 0) rfl (inc1 _) (by decide) rfl (fun ls hl => ?_)
        refine lv_goto (tgt := 3) hx hb dX11_copyRow_28 (by decide) ?_
        exact ih (k + 1) (upd g (nI (0 + k)).toNatClampNeg (g (nI (12 + k)).toNatClampNeg)) _ _ ls (by have f0 := i_nle c_1; have := nI_toInt (n := k) (by omega); have : (3 : Int32).toInt = 3 := (by decide); omega) (by omega) (fun h i => by unfold upd; split <;> exact hz h _) hP hD hS (lv_sub hl [0, 1, 2, 3, 4] rfl)
  exact key 4 0 f _ _ ls (by omega) (by omega) (fun h => h) hP hD hS hl

set_option maxHeartbeats 4000000 in
set_option maxRecDepth 100000 in
theorem c_copyRow_40_4_0 (l : Launch) (G : va_G) (ct : Nat → ClassId) (x : Nat) (f : Nat → Int32)  : Met l yX11_copyRow wsX11_copyRow ({ frames := 0, cells := 0, slots := 0, locals := 0 }) (va_Pc [.ref x, .int 40, .int 4, .int 0] (wrP G ct [(x, .inl (ct 0, 200, .inl f))])) (va_Qv (fun u : Nat → Int32 => (∀ i, f i = 0) → ∀ i, u i = 0) (fun u t => va_P G vwCl ((fun u : Nat → Int32 => [(x, .inl (ct 0, 200, .inl u))]) u) t.heap) (aset [(x, .inl (ct 0, 200, .inl f))])) 0 0 (aset [(x, .inl (ct 0, 200, .inl f))]) := by
  refine Met.ofW (cc := cX11_copyRow) (maxL := 5) (ret := none) (by decide) rfl ?_
  intro p e s m args below meth c s₁ B hml hv
  obtain ⟨rfl, hP, hK, hD0⟩ := hv
  have hx := B.exec
  have hb := B.bytes
  have hr := B.returns
  have hts := atoms_spec (ws := wsX11_copyRow) B.pre
  have hown : s.vm.findClass RX11 = some m.cls := findClass_of_methodNamed B.named
  have hlocks := B.notSynchronized
  have hD := hD0.aself
  generalize hAe : aset [(x, .inl (ct 0, 200, .inl f))] = A at hD ⊢
  have hS : va_S A s.heap s.heap [] := va_S.rf
  have hl := lv_entry ([.ref x, .int 40, .int 4, .int 0]) (n := 5) (Nat.le_of_ble_eq_true rfl)
  rw [lg_entry_eq]
  generalize (lg_sl ([.ref x, .int 40, .int 4, .int 0]) ++ List.replicate (5 - (lg_sl ([.ref x, .int 40, .int 4, .int 0])).length) Slot.unset).toArray = ls at hl ⊢
  have hl : lv_has ls 5 [(0, .ref x), (1, .int 40), (2, .int 4), (3, .int 0)] := hl
  refine lv_iconst (v := 0) hx hb dX11_copyRow_0 (by decide) ?_
  refine lv_istore (lv' := [(4, .int 0), (0, .ref x), (1, .int 40), (2, .int 4), (3, .int 0)]) hx hb dX11_copyRow_1 hl (by decide) rfl (fun ls hl => ?_)
  have key : ∀ (n k : Nat) (g : Nat → Int32) (H : Heap) (locs : List Loc) (ls : Array Slot), k ≤ 40 → 41 ≤ k + n → ((∀ i, f i = 0) → ∀ i, g i = 0) → va_P G vwCl [(x, .inl (ct 0, 200, .inl g))] H → va_D A [(x, .inl (ct 0, 200, .inl g))] → va_S A s.heap H locs → lv_has ls 5 [(4, .int (nI k)), (0, .ref x), (1, .int 40), (2, .int 4), (3, .int 0)] → W p l e (headSpec wsX11_copyRow ({ frames := 0, cells := 0, slots := 0, locals := 0 })).room s m ([.ref x, .int 40, .int 4, .int 0] : List Value).toArray below meth c H locs 0 0 (MQ below (va_Qv (fun u : Nat → Int32 => (∀ i, f i = 0) → ∀ i, u i = 0) (fun u t => va_P G vwCl ((fun u : Nat → Int32 => [(x, .inl (ct 0, 200, .inl u))]) u) t.heap) A) ([.ref x, .int 40, .int 4, .int 0] : List Value).toArray s 0 0 A) (F0 m 3 ls []) := by
    intro n
    induction n with
    | zero => intro k g H locs ls hk hn; exact absurd hn (by omega)
    | succ n ih =>
      intro k g H locs ls hk hn hz hP hD hS hl
      refine lv_iload hx hb dX11_copyRow_3 (lv_at hl 0 rfl) ?_
      refine lv_iload_n hx hb dX11_copyRow_5 rfl (lv_at hl 2 rfl) ?_
      refine lv_icmp_ge (tgt := 31) hx hb dX11_copyRow_6 (by decide) (fun c_1 => ?_) (fun c_1 => ?_)
      · exact W.vret hx hb hr (fun t ht hW => ⟨⟨g, rfl, hz, hp_at ht hP⟩, hS.F ht⟩) hS.2.2 dX11_copyRow_31
      · refine lv_aload_n hx hb dX11_copyRow_9 rfl (lv_at hl 1 rfl) ?_
        refine lv_iload_n hx hb dX11_copyRow_10 rfl (lv_at hl 2 rfl) ?_
        refine lv_iload_n hx hb dX11_copyRow_11 rfl (lv_at hl 4 rfl) ?_
        refine lv_imul hx hb dX11_copyRow_12 ?_
        refine ix_i (y := 0) (by decide) ?_
        refine lv_iload hx hb dX11_copyRow_13 (lv_at hl 0 rfl) ?_
        refine lv_iadd hx hb dX11_copyRow_15 ?_
        refine ix_i (y := nI (0 + k)) (nI_add 0 k) ?_
        refine lv_aload_n hx hb dX11_copyRow_16 rfl (lv_at hl 1 rfl) ?_
        refine lv_iload_n hx hb dX11_copyRow_17 rfl (lv_at hl 2 rfl) ?_
        refine lv_iload_n hx hb dX11_copyRow_18 rfl (lv_at hl 3 rfl) ?_
        refine lv_imul hx hb dX11_copyRow_19 ?_
        refine ix_i (y := 160) (by decide) ?_
        refine lv_iload hx hb dX11_copyRow_20 (lv_at hl 0 rfl) ?_
        refine lv_iadd hx hb dX11_copyRow_22 ?_
        refine ix_i (y := nI (160 + k)) (nI_add 160 k) ?_
        refine va_iald hx hb hK.1 hP 0 0 rfl rfl (vp_in_nI (n := 160 + k) (by have f0 := i_nle c_1; have := nI_toInt (n := k) (by omega); have : (40 : Int32).toInt = 40 := (by decide); omega) (by omega)) dX11_copyRow_23 ?_
        refine va_iast hx hb hK.1 hP hD hS 0 0 rfl rfl (vp_in_nI (n := 0 + k) (by have f0 := i_nle c_1; have := nI_toInt (n := k) (by omega); have : (40 : Int32).toInt = 40 := (by decide); omega) (by omega)) dX11_copyRow_24 (fun H locs hP hD hS => ?_)
        refine lv_iinc (v := nI (k + 1)) (lv' := [(4, .int (nI (k + 1))), (0, .ref x), (1, .int 40), (2, .int 4), (3, .int 0)]) hx hb dX11_copyRow_25 hl (k := 0) rfl (inc1 _) (by decide) rfl (fun ls hl => ?_)
        refine lv_goto (tgt := 3) hx hb dX11_copyRow_28 (by decide) ?_
        exact ih (k + 1) (upd g (nI (0 + k)).toNatClampNeg (g (nI (160 + k)).toNatClampNeg)) _ _ ls (by have f0 := i_nle c_1; have := nI_toInt (n := k) (by omega); have : (40 : Int32).toInt = 40 := (by decide); omega) (by omega) (fun h i => by unfold upd; split <;> exact hz h _) hP hD hS (lv_sub hl [0, 1, 2, 3, 4] rfl)
  exact key 41 0 f _ _ ls (by omega) (by omega) (fun h => h) hP hD hS hl

set_option maxHeartbeats 4000000 in
set_option maxRecDepth 100000 in
theorem c_copyRow_200_4_0 (l : Launch) (G : va_G) (ct : Nat → ClassId) (x : Nat) (f : Nat → Int32)  : Met l yX11_copyRow wsX11_copyRow ({ frames := 0, cells := 0, slots := 0, locals := 0 }) (va_Pc [.ref x, .int 200, .int 4, .int 0] (wrP G ct [(x, .inl (ct 0, 1000, .inl f))])) (va_Qv (fun u : Nat → Int32 => (∀ i, f i = 0) → ∀ i, u i = 0) (fun u t => va_P G vwCl ((fun u : Nat → Int32 => [(x, .inl (ct 0, 1000, .inl u))]) u) t.heap) (aset [(x, .inl (ct 0, 1000, .inl f))])) 0 0 (aset [(x, .inl (ct 0, 1000, .inl f))]) := by
  refine Met.ofW (cc := cX11_copyRow) (maxL := 5) (ret := none) (by decide) rfl ?_
  intro p e s m args below meth c s₁ B hml hv
  obtain ⟨rfl, hP, hK, hD0⟩ := hv
  have hx := B.exec
  have hb := B.bytes
  have hr := B.returns
  have hts := atoms_spec (ws := wsX11_copyRow) B.pre
  have hown : s.vm.findClass RX11 = some m.cls := findClass_of_methodNamed B.named
  have hlocks := B.notSynchronized
  have hD := hD0.aself
  generalize hAe : aset [(x, .inl (ct 0, 1000, .inl f))] = A at hD ⊢
  have hS : va_S A s.heap s.heap [] := va_S.rf
  have hl := lv_entry ([.ref x, .int 200, .int 4, .int 0]) (n := 5) (Nat.le_of_ble_eq_true rfl)
  rw [lg_entry_eq]
  generalize (lg_sl ([.ref x, .int 200, .int 4, .int 0]) ++ List.replicate (5 - (lg_sl ([.ref x, .int 200, .int 4, .int 0])).length) Slot.unset).toArray = ls at hl ⊢
  have hl : lv_has ls 5 [(0, .ref x), (1, .int 200), (2, .int 4), (3, .int 0)] := hl
  refine lv_iconst (v := 0) hx hb dX11_copyRow_0 (by decide) ?_
  refine lv_istore (lv' := [(4, .int 0), (0, .ref x), (1, .int 200), (2, .int 4), (3, .int 0)]) hx hb dX11_copyRow_1 hl (by decide) rfl (fun ls hl => ?_)
  have key : ∀ (n k : Nat) (g : Nat → Int32) (H : Heap) (locs : List Loc) (ls : Array Slot), k ≤ 200 → 201 ≤ k + n → ((∀ i, f i = 0) → ∀ i, g i = 0) → va_P G vwCl [(x, .inl (ct 0, 1000, .inl g))] H → va_D A [(x, .inl (ct 0, 1000, .inl g))] → va_S A s.heap H locs → lv_has ls 5 [(4, .int (nI k)), (0, .ref x), (1, .int 200), (2, .int 4), (3, .int 0)] → W p l e (headSpec wsX11_copyRow ({ frames := 0, cells := 0, slots := 0, locals := 0 })).room s m ([.ref x, .int 200, .int 4, .int 0] : List Value).toArray below meth c H locs 0 0 (MQ below (va_Qv (fun u : Nat → Int32 => (∀ i, f i = 0) → ∀ i, u i = 0) (fun u t => va_P G vwCl ((fun u : Nat → Int32 => [(x, .inl (ct 0, 1000, .inl u))]) u) t.heap) A) ([.ref x, .int 200, .int 4, .int 0] : List Value).toArray s 0 0 A) (F0 m 3 ls []) := by
    intro n
    induction n with
    | zero => intro k g H locs ls hk hn; exact absurd hn (by omega)
    | succ n ih =>
      intro k g H locs ls hk hn hz hP hD hS hl
      refine lv_iload hx hb dX11_copyRow_3 (lv_at hl 0 rfl) ?_
      refine lv_iload_n hx hb dX11_copyRow_5 rfl (lv_at hl 2 rfl) ?_
      refine lv_icmp_ge (tgt := 31) hx hb dX11_copyRow_6 (by decide) (fun c_1 => ?_) (fun c_1 => ?_)
      · exact W.vret hx hb hr (fun t ht hW => ⟨⟨g, rfl, hz, hp_at ht hP⟩, hS.F ht⟩) hS.2.2 dX11_copyRow_31
      · refine lv_aload_n hx hb dX11_copyRow_9 rfl (lv_at hl 1 rfl) ?_
        refine lv_iload_n hx hb dX11_copyRow_10 rfl (lv_at hl 2 rfl) ?_
        refine lv_iload_n hx hb dX11_copyRow_11 rfl (lv_at hl 4 rfl) ?_
        refine lv_imul hx hb dX11_copyRow_12 ?_
        refine ix_i (y := 0) (by decide) ?_
        refine lv_iload hx hb dX11_copyRow_13 (lv_at hl 0 rfl) ?_
        refine lv_iadd hx hb dX11_copyRow_15 ?_
        refine ix_i (y := nI (0 + k)) (nI_add 0 k) ?_
        refine lv_aload_n hx hb dX11_copyRow_16 rfl (lv_at hl 1 rfl) ?_
        refine lv_iload_n hx hb dX11_copyRow_17 rfl (lv_at hl 2 rfl) ?_
        refine lv_iload_n hx hb dX11_copyRow_18 rfl (lv_at hl 3 rfl) ?_
        refine lv_imul hx hb dX11_copyRow_19 ?_
        refine ix_i (y := 800) (by decide) ?_
        refine lv_iload hx hb dX11_copyRow_20 (lv_at hl 0 rfl) ?_
        refine lv_iadd hx hb dX11_copyRow_22 ?_
        refine ix_i (y := nI (800 + k)) (nI_add 800 k) ?_
        refine va_iald hx hb hK.1 hP 0 0 rfl rfl (vp_in_nI (n := 800 + k) (by have f0 := i_nle c_1; have := nI_toInt (n := k) (by omega); have : (200 : Int32).toInt = 200 := (by decide); omega) (by omega)) dX11_copyRow_23 ?_
        refine va_iast hx hb hK.1 hP hD hS 0 0 rfl rfl (vp_in_nI (n := 0 + k) (by have f0 := i_nle c_1; have := nI_toInt (n := k) (by omega); have : (200 : Int32).toInt = 200 := (by decide); omega) (by omega)) dX11_copyRow_24 (fun H locs hP hD hS => ?_)
        refine lv_iinc (v := nI (k + 1)) (lv' := [(4, .int (nI (k + 1))), (0, .ref x), (1, .int 200), (2, .int 4), (3, .int 0)]) hx hb dX11_copyRow_25 hl (k := 0) rfl (inc1 _) (by decide) rfl (fun ls hl => ?_)
        refine lv_goto (tgt := 3) hx hb dX11_copyRow_28 (by decide) ?_
        exact ih (k + 1) (upd g (nI (0 + k)).toNatClampNeg (g (nI (800 + k)).toNatClampNeg)) _ _ ls (by have f0 := i_nle c_1; have := nI_toInt (n := k) (by omega); have : (200 : Int32).toInt = 200 := (by decide); omega) (by omega) (fun h i => by unfold upd; split <;> exact hz h _) hP hD hS (lv_sub hl [0, 1, 2, 3, 4] rfl)
  exact key 201 0 f _ _ ls (by omega) (by omega) (fun h => h) hP hD hS hl
