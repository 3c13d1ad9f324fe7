theorem dX11_init_0 : decode cX11_init 0 = .ok (.aload_n 0, 1) := by decide +kernel
theorem dX11_init_1 : decode cX11_init 1 = .ok (.invokespecial 1, 3) := by decide +kernel
theorem dX11_init_4 : decode cX11_init 4 = .ok (.aload_n 0, 1) := by decide +kernel
theorem dX11_init_5 : decode cX11_init 5 = .ok (.iconst 4, 1) := by decide +kernel
theorem dX11_init_6 : decode cX11_init 6 = .ok (.newarray .int, 2) := by decide +kernel
theorem dX11_init_8 : decode cX11_init 8 = .ok (.putfield 7, 3) := by decide +kernel
theorem dX11_init_11 : decode cX11_init 11 = .ok (.aload_n 0, 1) := by decide +kernel
theorem dX11_init_12 : decode cX11_init 12 = .ok (.iconst 4, 1) := by decide +kernel
theorem dX11_init_13 : decode cX11_init 13 = .ok (.newarray .int, 2) := by decide +kernel
theorem dX11_init_15 : decode cX11_init 15 = .ok (.putfield 13, 3) := by decide +kernel
theorem dX11_init_18 : decode cX11_init 18 = .ok (.aload_n 0, 1) := by decide +kernel
theorem dX11_init_19 : decode cX11_init 19 = .ok (.sipush 240, 3) := by decide +kernel
theorem dX11_init_22 : decode cX11_init 22 = .ok (.newarray .long, 2) := by decide +kernel
theorem dX11_init_24 : decode cX11_init 24 = .ok (.putfield 16, 3) := by decide +kernel
theorem dX11_init_27 : decode cX11_init 27 = .ok (.aload_n 0, 1) := by decide +kernel
theorem dX11_init_28 : decode cX11_init 28 = .ok (.bipush 60, 2) := by decide +kernel
theorem dX11_init_30 : decode cX11_init 30 = .ok (.newarray .long, 2) := by decide +kernel
theorem dX11_init_32 : decode cX11_init 32 = .ok (.putfield 20, 3) := by decide +kernel
theorem dX11_init_35 : decode cX11_init 35 = .ok (.aload_n 0, 1) := by decide +kernel
theorem dX11_init_36 : decode cX11_init 36 = .ok (.sipush 900, 3) := by decide +kernel
theorem dX11_init_39 : decode cX11_init 39 = .ok (.newarray .byte, 2) := by decide +kernel
theorem dX11_init_41 : decode cX11_init 41 = .ok (.putfield 23, 3) := by decide +kernel
theorem dX11_init_44 : decode cX11_init 44 = .ok (.aload_n 0, 1) := by decide +kernel
theorem dX11_init_45 : decode cX11_init 45 = .ok (.iconst (-1), 1) := by decide +kernel
theorem dX11_init_46 : decode cX11_init 46 = .ok (.putfield 27, 3) := by decide +kernel
theorem dX11_init_49 : decode cX11_init 49 = .ok (.aload_n 0, 1) := by decide +kernel
theorem dX11_init_50 : decode cX11_init 50 = .ok (.iconst 5, 1) := by decide +kernel
theorem dX11_init_51 : decode cX11_init 51 = .ok (.newarray .int, 2) := by decide +kernel
theorem dX11_init_53 : decode cX11_init 53 = .ok (.putfield 31, 3) := by decide +kernel
theorem dX11_init_56 : decode cX11_init 56 = .ok (.aload_n 0, 1) := by decide +kernel
theorem dX11_init_57 : decode cX11_init 57 = .ok (.bipush 15, 2) := by decide +kernel
theorem dX11_init_59 : decode cX11_init 59 = .ok (.newarray .int, 2) := by decide +kernel
theorem dX11_init_61 : decode cX11_init 61 = .ok (.putfield 34, 3) := by decide +kernel
theorem dX11_init_64 : decode cX11_init 64 = .ok (.aload_n 0, 1) := by decide +kernel
theorem dX11_init_65 : decode cX11_init 65 = .ok (.sipush 200, 3) := by decide +kernel
theorem dX11_init_68 : decode cX11_init 68 = .ok (.newarray .int, 2) := by decide +kernel
theorem dX11_init_70 : decode cX11_init 70 = .ok (.putfield 37, 3) := by decide +kernel
theorem dX11_init_73 : decode cX11_init 73 = .ok (.aload_n 0, 1) := by decide +kernel
theorem dX11_init_74 : decode cX11_init 74 = .ok (.sipush 1000, 3) := by decide +kernel
theorem dX11_init_77 : decode cX11_init 77 = .ok (.newarray .int, 2) := by decide +kernel
theorem dX11_init_79 : decode cX11_init 79 = .ok (.putfield 40, 3) := by decide +kernel
theorem dX11_init_82 : decode cX11_init 82 = .ok (.aload_n 0, 1) := by decide +kernel
theorem dX11_init_83 : decode cX11_init 83 = .ok (.iconst 3, 1) := by decide +kernel
theorem dX11_init_84 : decode cX11_init 84 = .ok (.newarray .boolean, 2) := by decide +kernel
theorem dX11_init_86 : decode cX11_init 86 = .ok (.putfield 43, 3) := by decide +kernel
theorem dX11_init_89 : decode cX11_init 89 = .ok (.aload_n 0, 1) := by decide +kernel
theorem dX11_init_90 : decode cX11_init 90 = .ok (.bipush 8, 2) := by decide +kernel
theorem dX11_init_92 : decode cX11_init 92 = .ok (.newarray .int, 2) := by decide +kernel
theorem dX11_init_94 : decode cX11_init 94 = .ok (.putfield 47, 3) := by decide +kernel
theorem dX11_init_97 : decode cX11_init 97 = .ok (.aload_n 0, 1) := by decide +kernel
theorem dX11_init_98 : decode cX11_init 98 = .ok (.bipush 8, 2) := by decide +kernel
theorem dX11_init_100 : decode cX11_init 100 = .ok (.newarray .int, 2) := by decide +kernel
theorem dX11_init_102 : decode cX11_init 102 = .ok (.putfield 50, 3) := by decide +kernel
theorem dX11_init_105 : decode cX11_init 105 = .ok (.aload_n 0, 1) := by decide +kernel
theorem dX11_init_106 : decode cX11_init 106 = .ok (.bipush 8, 2) := by decide +kernel
theorem dX11_init_108 : decode cX11_init 108 = .ok (.newarray .int, 2) := by decide +kernel
theorem dX11_init_110 : decode cX11_init 110 = .ok (.putfield 53, 3) := by decide +kernel
theorem dX11_init_113 : decode cX11_init 113 = .ok (.aload_n 0, 1) := by decide +kernel
theorem dX11_init_114 : decode cX11_init 114 = .ok (.sipush 576, 3) := by decide +kernel
theorem dX11_init_117 : decode cX11_init 117 = .ok (.newarray .int, 2) := by decide +kernel
theorem dX11_init_119 : decode cX11_init 119 = .ok (.putfield 56, 3) := by decide +kernel
theorem dX11_init_122 : decode cX11_init 122 = .ok (.iconst 0, 1) := by decide +kernel
theorem dX11_init_123 : decode cX11_init 123 = .ok (.istore_n 1, 1) := by decide +kernel
theorem dX11_init_124 : decode cX11_init 124 = .ok (.iload_n 1, 1) := by decide +kernel
theorem dX11_init_125 : decode cX11_init 125 = .ok (.iconst 4, 1) := by decide +kernel
theorem dX11_init_126 : decode cX11_init 126 = .ok (.if_icmp .ge 16, 3) := by decide +kernel
theorem dX11_init_129 : decode cX11_init 129 = .ok (.aload_n 0, 1) := by decide +kernel
theorem dX11_init_130 : decode cX11_init 130 = .ok (.getfield 7, 3) := by decide +kernel
theorem dX11_init_133 : decode cX11_init 133 = .ok (.iload_n 1, 1) := by decide +kernel
theorem dX11_init_134 : decode cX11_init 134 = .ok (.iconst (-1), 1) := by decide +kernel
theorem dX11_init_135 : decode cX11_init 135 = .ok (.iastore, 1) := by decide +kernel
theorem dX11_init_136 : decode cX11_init 136 = .ok (.iinc 1 1, 3) := by decide +kernel
theorem dX11_init_139 : decode cX11_init 139 = .ok (.goto (-15), 3) := by decide +kernel
theorem dX11_init_142 : decode cX11_init 142 = .ok (.return_, 1) := by decide +kernel
set_option maxHeartbeats 4000000 in
set_option maxRecDepth 100000 in
theorem c_X11_init (l : Launch) (G : va_G) (ct : Nat → ClassId) (h0 : Nat) (sz : Nat)  : Met l yX11_init wsX11_init ({ frames := 1, cells := 14, slots := 3031, locals := 60 }) (va_Pc [.ref h0] (nwP G ct [(h0, .inr (11, [.int 0, .null, .null, .null, .null, .null, .int 0, .int 0, .int 0, .int 0, .int 0, .long 0, .int 0, .int 0, .int 0, .int 0, .null, .null, .null, .null, .null, .null, .null, .null, .int 0, .int 0, .int 0, .int 0, .null, .int 0, .int 0]))] sz)) (va_Qv (fun u : Nat → Nat => u 0 = h0) (fun u t => va_P G vwCl ((fun u : Nat → Nat => mF u ct) u) t.heap ∧ va_D (va_A [(h0, .inr (11, [.int 0, .null, .null, .null, .null, .null, .int 0, .int 0, .int 0, .int 0, .int 0, .long 0, .int 0, .int 0, .int 0, .int 0, .null, .null, .null, .null, .null, .null, .null, .null, .int 0, .int 0, .int 0, .int 0, .null, .int 0, .int 0]))] sz) ((fun u : Nat → Nat => mF u ct) u)) (va_A [(h0, .inr (11, [.int 0, .null, .null, .null, .null, .null, .int 0, .int 0, .int 0, .int 0, .int 0, .long 0, .int 0, .int 0, .int 0, .int 0, .null, .null, .null, .null, .null, .null, .null, .null, .int 0, .int 0, .int 0, .int 0, .null, .int 0, .int 0]))] sz)) 14 3031 (va_A [(h0, .inr (11, [.int 0, .null, .null, .null, .null, .null, .int 0, .int 0, .int 0, .int 0, .int 0, .long 0, .int 0, .int 0, .int 0, .int 0, .null, .null, .null, .null, .null, .null, .null, .null, .int 0, .int 0, .int 0, .int 0, .null, .int 0, .int 0]))] sz) := by
  refine Met.ofW (cc := cX11_init) (maxL := 2) (ret := none) (by decide) rfl ?_
  intro p e s m args below meth c s₁ B hml hv
  obtain ⟨rfl, hsz, hP, hK, hD0⟩ := hv
  have hx := B.exec
  have hb := B.bytes
  have hr := B.returns
  have hts := atoms_spec (ws := wsX11_init) B.pre
  have hown : s.vm.findClass RX11 = some m.cls := findClass_of_methodNamed B.named
  have hlocks := B.notSynchronized
  have hin : meth.name = "<init>" := (name_of_methodNamed B.named B.method).1
  subst hsz
  have hD := hD0.self (sz := s.heap.size)
  generalize hAe : va_A [(h0, .inr (11, [.int 0, .null, .null, .null, .null, .null, .int 0, .int 0, .int 0, .int 0, .int 0, .long 0, .int 0, .int 0, .int 0, .int 0, .null, .null, .null, .null, .null, .null, .null, .null, .int 0, .int 0, .int 0, .int 0, .null, .int 0, .int 0]))] s.heap.size = A at hD ⊢
  have hA : ∀ q : Nat, s.heap.size ≤ q → A q := fun q h => by rw [← hAe]; exact Or.inr h
  have hS : va_S A s.heap s.heap [] := va_S.rf
  have hP : va_P G vwCl [(h0, .inr (11, [.int 0, .null, .null, .null, .null, .null, .int 0, .int 0, .int 0, .int 0, .int 0, .long 0, .int 0, .int 0, .int 0, .int 0, .null, .null, .null, .null, .null, .null, .null, .null, .int 0, .int 0, .int 0, .int 0, .null, .int 0, .int 0]))] s.heap := hP
  have hl := lv_entry ([.ref h0]) (n := 2) (Nat.le_of_ble_eq_true rfl)
  rw [lg_entry_eq]
  generalize (lg_sl ([.ref h0]) ++ List.replicate (2 - (lg_sl ([.ref h0])).length) Slot.unset).toArray = ls at hl ⊢
  have hl : lv_has ls 2 [(0, .ref h0)] := hl
  refine lv_aload_n hx hb dX11_init_0 rfl (lv_at hl 0 rfl) ?_
  refine W.objInit hx hb hown (hts (.methodLink RX11 1 objectInit) (by decide +kernel)) (hts (.instanceMethod objectInit) (by decide +kernel)) (hts (.code objectInit ⟨#[0xb1]⟩ 1 none) (List.mem_of_getElem? (i := 3) rfl)) rfl (hl.1.trans hml.symm) rfl dX11_init_1 (Nat.le_of_ble_eq_true rfl) (Nat.le_of_ble_eq_true rfl) ?_
  show W p l e _ s m _ below meth c _ _ _ _ _ (F0 m 4 ls [])
  refine lv_aload_n hx hb dX11_init_4 rfl (lv_at hl 0 rfl) ?_
  refine lv_iconst (v := 4) hx hb dX11_init_5 (by decide) ?_
  refine va_newa (D := G) (atype := .int) (ty := .int) (a0 := (4, .inl (fun _ => 0))) (N' := 4) hx hb (hts (.arrayClass .int) (by decide +kernel)) rfl hK.1 hP hD hS hA (fun _ => rfl) (by decide) (by decide) (by decide +kernel) (Nat.le_of_ble_eq_true rfl) (Nat.le_of_ble_eq_true rfl) dX11_init_6 (fun q_1 cA H hK2 hP hD hS => ?_)
  obtain rfl := ty_one hK2 (i := 6) (j := 0) rfl rfl
  refine W.widen (k := 1) (n := 4) (Nat.le_of_ble_eq_true rfl) (Nat.le_of_ble_eq_true rfl) ?_
  refine va_putF (D := G) (ci := 11) (v := .ref q_1) (ty := .array .int) (C := RX11) (T := TX11) (N := 31) hx hb hts (by decide +kernel) tyX11 tyX11_ok nmX11 hown hK.1 hP hD hS 0 rfl rfl 1 (by decide) (hts (.fieldLink RX11 7 "CardHolderModel" "width" "[I") (by decide +kernel)) (fun _ h9 => h9) rfl hin rfl (by decide +kernel) rfl rfl (Nat.le_of_ble_eq_true rfl) dX11_init_8 (fun H locs hP hD hS => ?_)
  have hP : va_P G vwCl [(h0, .inr (11, [.int 0, .ref q_1, .null, .null, .null, .null, .int 0, .int 0, .int 0, .int 0, .int 0, .long 0, .int 0, .int 0, .int 0, .int 0, .null, .null, .null, .null, .null, .null, .null, .null, .int 0, .int 0, .int 0, .int 0, .null, .int 0, .int 0])), (q_1, .inl (ct 0, 4, .inl (fun _ => 0)))] H := hP
  have hD : va_D A [(h0, .inr (11, [.int 0, .ref q_1, .null, .null, .null, .null, .int 0, .int 0, .int 0, .int 0, .int 0, .long 0, .int 0, .int 0, .int 0, .int 0, .null, .null, .null, .null, .null, .null, .null, .null, .int 0, .int 0, .int 0, .int 0, .null, .int 0, .int 0])), (q_1, .inl (ct 0, 4, .inl (fun _ => 0)))] := hD
  refine lv_aload_n hx hb dX11_init_11 rfl (lv_at hl 0 rfl) ?_
  refine lv_iconst (v := 4) hx hb dX11_init_12 (by decide) ?_
  refine va_newa (D := G) (atype := .int) (ty := .int) (a0 := (4, .inl (fun _ => 0))) (N' := 4) hx hb (hts (.arrayClass .int) (by decide +kernel)) rfl hK.1 hP hD hS hA (fun _ => rfl) (by decide) (by decide) (by decide +kernel) (Nat.le_of_ble_eq_true rfl) (Nat.le_of_ble_eq_true rfl) dX11_init_13 (fun q_2 cA H hK2 hP hD hS => ?_)
  obtain rfl := ty_one hK2 (i := 6) (j := 0) rfl rfl
  refine W.widen (k := 2) (n := 8) (Nat.le_of_ble_eq_true rfl) (Nat.le_of_ble_eq_true rfl) ?_
  refine va_putF (D := G) (ci := 11) (v := .ref q_2) (ty := .array .int) (C := RX11) (T := TX11) (N := 31) hx hb hts (by decide +kernel) tyX11 tyX11_ok nmX11 hown hK.1 hP hD hS 0 rfl rfl 2 (by decide) (hts (.fieldLink RX11 13 "CardHolderModel" "many" "[I") (by decide +kernel)) (fun _ h9 => h9) rfl hin rfl (by decide +kernel) rfl rfl (Nat.le_of_ble_eq_true rfl) dX11_init_15 (fun H locs hP hD hS => ?_)
  have hP : va_P G vwCl [(h0, .inr (11, [.int 0, .ref q_1, .ref q_2, .null, .null, .null, .int 0, .int 0, .int 0, .int 0, .int 0, .long 0, .int 0, .int 0, .int 0, .int 0, .null, .null, .null, .null, .null, .null, .null, .null, .int 0, .int 0, .int 0, .int 0, .null, .int 0, .int 0])), (q_1, .inl (ct 0, 4, .inl (fun _ => 0))), (q_2, .inl (ct 0, 4, .inl (fun _ => 0)))] H := hP
  have hD : va_D A [(h0, .inr (11, [.int 0, .ref q_1, .ref q_2, .null, .null, .null, .int 0, .int 0, .int 0, .int 0, .int 0, .long 0, .int 0, .int 0, .int 0, .int 0, .null, .null, .null, .null, .null, .null, .null, .null, .int 0, .int 0, .int 0, .int 0, .null, .int 0, .int 0])), (q_1, .inl (ct 0, 4, .inl (fun _ => 0))), (q_2, .inl (ct 0, 4, .inl (fun _ => 0)))] := hD
  refine lv_aload_n hx hb dX11_init_18 rfl (lv_at hl 0 rfl) ?_
  refine lv_sipush (v := 240) hx hb dX11_init_19 (by decide) ?_
  refine va_newa (D := G) (atype := .long) (ty := .long) (a0 := (240, .inr (.inl (fun _ => 0)))) (N' := 240) hx hb (hts (.arrayClass .long) (by decide +kernel)) rfl hK.1 hP hD hS hA (fun _ => rfl) (by decide) (by decide) (by decide +kernel) (Nat.le_of_ble_eq_true rfl) (Nat.le_of_ble_eq_true rfl) dX11_init_22 (fun q_3 cA H hK2 hP hD hS => ?_)
  obtain rfl := ty_one hK2 (i := 6) (j := 3) rfl rfl
  refine W.widen (k := 3) (n := 248) (Nat.le_of_ble_eq_true rfl) (Nat.le_of_ble_eq_true rfl) ?_
  refine va_putF (D := G) (ci := 11) (v := .ref q_3) (ty := .array .long) (C := RX11) (T := TX11) (N := 31) hx hb hts (by decide +kernel) tyX11 tyX11_ok nmX11 hown hK.1 hP hD hS 0 rfl rfl 3 (by decide) (hts (.fieldLink RX11 16 "CardHolderModel" "cells" "[J") (by decide +kernel)) (fun _ h9 => h9) rfl hin rfl (by decide +kernel) rfl rfl (Nat.le_of_ble_eq_true rfl) dX11_init_24 (fun H locs hP hD hS => ?_)
  have hP : va_P G vwCl [(h0, .inr (11, [.int 0, .ref q_1, .ref q_2, .ref q_3, .null, .null, .int 0, .int 0, .int 0, .int 0, .int 0, .long 0, .int 0, .int 0, .int 0, .int 0, .null, .null, .null, .null, .null, .null, .null, .null, .int 0, .int 0, .int 0, .int 0, .null, .int 0, .int 0])), (q_1, .inl (ct 0, 4, .inl (fun _ => 0))), (q_2, .inl (ct 0, 4, .inl (fun _ => 0))), (q_3, .inl (ct 3, 240, .inr (.inl (fun _ => 0))))] H := hP
  have hD : va_D A [(h0, .inr (11, [.int 0, .ref q_1, .ref q_2, .ref q_3, .null, .null, .int 0, .int 0, .int 0, .int 0, .int 0, .long 0, .int 0, .int 0, .int 0, .int 0, .null, .null, .null, .null, .null, .null, .null, .null, .int 0, .int 0, .int 0, .int 0, .null, .int 0, .int 0])), (q_1, .inl (ct 0, 4, .inl (fun _ => 0))), (q_2, .inl (ct 0, 4, .inl (fun _ => 0))), (q_3, .inl (ct 3, 240, .inr (.inl (fun _ => 0))))] := hD
  refine lv_aload_n hx hb dX11_init_27 rfl (lv_at hl 0 rfl) ?_
  refine lv_bipush (v := 60) hx hb dX11_init_28 (by decide) ?_
  refine va_newa (D := G) (atype := .long) (ty := .long) (a0 := (60, .inr (.inl (fun _ => 0)))) (N' := 60) hx hb (hts (.arrayClass .long) (by decide +kernel)) rfl hK.1 hP hD hS hA (fun _ => rfl) (by decide) (by decide) (by decide +kernel) (Nat.le_of_ble_eq_true rfl) (Nat.le_of_ble_eq_true rfl) dX11_init_30 (fun q_4 cA H hK2 hP hD hS => ?_)
  obtain rfl := ty_one hK2 (i := 6) (j := 3) rfl rfl
  refine W.widen (k := 4) (n := 308) (Nat.le_of_ble_eq_true rfl) (Nat.le_of_ble_eq_true rfl) ?_
  refine va_putF (D := G) (ci := 11) (v := .ref q_4) (ty := .array .long) (C := RX11) (T := TX11) (N := 31) hx hb hts (by decide +kernel) tyX11 tyX11_ok nmX11 hown hK.1 hP hD hS 0 rfl rfl 4 (by decide) (hts (.fieldLink RX11 20 "CardHolderModel" "moved" "[J") (by decide +kernel)) (fun _ h9 => h9) rfl hin rfl (by decide +kernel) rfl rfl (Nat.le_of_ble_eq_true rfl) dX11_init_32 (fun H locs hP hD hS => ?_)
  have hP : va_P G vwCl [(h0, .inr (11, [.int 0, .ref q_1, .ref q_2, .ref q_3, .ref q_4, .null, .int 0, .int 0, .int 0, .int 0, .int 0, .long 0, .int 0, .int 0, .int 0, .int 0, .null, .null, .null, .null, .null, .null, .null, .null, .int 0, .int 0, .int 0, .int 0, .null, .int 0, .int 0])), (q_1, .inl (ct 0, 4, .inl (fun _ => 0))), (q_2, .inl (ct 0, 4, .inl (fun _ => 0))), (q_3, .inl (ct 3, 240, .inr (.inl (fun _ => 0)))), (q_4, .inl (ct 3, 60, .inr (.inl (fun _ => 0))))] H := hP
  have hD : va_D A [(h0, .inr (11, [.int 0, .ref q_1, .ref q_2, .ref q_3, .ref q_4, .null, .int 0, .int 0, .int 0, .int 0, .int 0, .long 0, .int 0, .int 0, .int 0, .int 0, .null, .null, .null, .null, .null, .null, .null, .null, .int 0, .int 0, .int 0, .int 0, .null, .int 0, .int 0])), (q_1, .inl (ct 0, 4, .inl (fun _ => 0))), (q_2, .inl (ct 0, 4, .inl (fun _ => 0))), (q_3, .inl (ct 3, 240, .inr (.inl (fun _ => 0)))), (q_4, .inl (ct 3, 60, .inr (.inl (fun _ => 0))))] := hD
  refine lv_aload_n hx hb dX11_init_35 rfl (lv_at hl 0 rfl) ?_
  refine lv_sipush (v := 900) hx hb dX11_init_36 (by decide) ?_
  refine va_newa (D := G) (atype := .byte) (ty := .byte) (a0 := (900, .inl (fun _ => 0))) (N' := 900) hx hb (hts (.arrayClass .byte) (by decide +kernel)) rfl hK.1 hP hD hS hA (fun _ => rfl) (by decide) (by decide) (by decide +kernel) (Nat.le_of_ble_eq_true rfl) (Nat.le_of_ble_eq_true rfl) dX11_init_39 (fun q_5 cA H hK2 hP hD hS => ?_)
  obtain rfl := ty_one hK2 (i := 6) (j := 1) rfl rfl
  refine W.widen (k := 5) (n := 1208) (Nat.le_of_ble_eq_true rfl) (Nat.le_of_ble_eq_true rfl) ?_
  refine va_putF (D := G) (ci := 11) (v := .ref q_5) (ty := .array .byte) (C := RX11) (T := TX11) (N := 31) hx hb hts (by decide +kernel) tyX11 tyX11_ok nmX11 hown hK.1 hP hD hS 0 rfl rfl 5 (by decide) (hts (.fieldLink RX11 23 "CardHolderModel" "tape" "[B") (by decide +kernel)) (fun _ h9 => h9) rfl hin rfl (by decide +kernel) rfl rfl (Nat.le_of_ble_eq_true rfl) dX11_init_41 (fun H locs hP hD hS => ?_)
  have hP : va_P G vwCl [(h0, .inr (11, [.int 0, .ref q_1, .ref q_2, .ref q_3, .ref q_4, .ref q_5, .int 0, .int 0, .int 0, .int 0, .int 0, .long 0, .int 0, .int 0, .int 0, .int 0, .null, .null, .null, .null, .null, .null, .null, .null, .int 0, .int 0, .int 0, .int 0, .null, .int 0, .int 0])), (q_1, .inl (ct 0, 4, .inl (fun _ => 0))), (q_2, .inl (ct 0, 4, .inl (fun _ => 0))), (q_3, .inl (ct 3, 240, .inr (.inl (fun _ => 0)))), (q_4, .inl (ct 3, 60, .inr (.inl (fun _ => 0)))), (q_5, .inl (ct 1, 900, .inl (fun _ => 0)))] H := hP
  have hD : va_D A [(h0, .inr (11, [.int 0, .ref q_1, .ref q_2, .ref q_3, .ref q_4, .ref q_5, .int 0, .int 0, .int 0, .int 0, .int 0, .long 0, .int 0, .int 0, .int 0, .int 0, .null, .null, .null, .null, .null, .null, .null, .null, .int 0, .int 0, .int 0, .int 0, .null, .int 0, .int 0])), (q_1, .inl (ct 0, 4, .inl (fun _ => 0))), (q_2, .inl (ct 0, 4, .inl (fun _ => 0))), (q_3, .inl (ct 3, 240, .inr (.inl (fun _ => 0)))), (q_4, .inl (ct 3, 60, .inr (.inl (fun _ => 0)))), (q_5, .inl (ct 1, 900, .inl (fun _ => 0)))] := hD
  refine lv_aload_n hx hb dX11_init_44 rfl (lv_at hl 0 rfl) ?_
  refine lv_iconst (v := (-1)) hx hb dX11_init_45 (by decide) ?_
  refine va_put (D := G) (ci := 11) (v := .int (-1)) (ty := .int) (C := RX11) (T := TX11) (N := 31) hx hb hts (by decide +kernel) tyX11 tyX11_ok nmX11 hown hK.1 hP hD hS 0 rfl rfl 15 (by decide) (hts (.fieldLink RX11 27 "CardHolderModel" "faultPlace" "I") (by decide +kernel)) (fun _ h9 => h9) rfl (by decide +kernel) rfl rfl (Nat.le_of_ble_eq_true rfl) dX11_init_46 (fun H locs hP hD hS => ?_)
  have hP : va_P G vwCl [(h0, .inr (11, [.int 0, .ref q_1, .ref q_2, .ref q_3, .ref q_4, .ref q_5, .int 0, .int 0, .int 0, .int 0, .int 0, .long 0, .int 0, .int 0, .int 0, .int (-1), .null, .null, .null, .null, .null, .null, .null, .null, .int 0, .int 0, .int 0, .int 0, .null, .int 0, .int 0])), (q_1, .inl (ct 0, 4, .inl (fun _ => 0))), (q_2, .inl (ct 0, 4, .inl (fun _ => 0))), (q_3, .inl (ct 3, 240, .inr (.inl (fun _ => 0)))), (q_4, .inl (ct 3, 60, .inr (.inl (fun _ => 0)))), (q_5, .inl (ct 1, 900, .inl (fun _ => 0)))] H := hP
  have hD : va_D A [(h0, .inr (11, [.int 0, .ref q_1, .ref q_2, .ref q_3, .ref q_4, .ref q_5, .int 0, .int 0, .int 0, .int 0, .int 0, .long 0, .int 0, .int 0, .int 0, .int (-1), .null, .null, .null, .null, .null, .null, .null, .null, .int 0, .int 0, .int 0, .int 0, .null, .int 0, .int 0])), (q_1, .inl (ct 0, 4, .inl (fun _ => 0))), (q_2, .inl (ct 0, 4, .inl (fun _ => 0))), (q_3, .inl (ct 3, 240, .inr (.inl (fun _ => 0)))), (q_4, .inl (ct 3, 60, .inr (.inl (fun _ => 0)))), (q_5, .inl (ct 1, 900, .inl (fun _ => 0)))] := hD
  refine lv_aload_n hx hb dX11_init_49 rfl (lv_at hl 0 rfl) ?_
  refine lv_iconst (v := 5) hx hb dX11_init_50 (by decide) ?_
  refine va_newa (D := G) (atype := .int) (ty := .int) (a0 := (5, .inl (fun _ => 0))) (N' := 5) hx hb (hts (.arrayClass .int) (by decide +kernel)) rfl hK.1 hP hD hS hA (fun _ => rfl) (by decide) (by decide) (by decide +kernel) (Nat.le_of_ble_eq_true rfl) (Nat.le_of_ble_eq_true rfl) dX11_init_51 (fun q_6 cA H hK2 hP hD hS => ?_)
  obtain rfl := ty_one hK2 (i := 6) (j := 0) rfl rfl
  refine W.widen (k := 6) (n := 1213) (Nat.le_of_ble_eq_true rfl) (Nat.le_of_ble_eq_true rfl) ?_
  refine va_putF (D := G) (ci := 11) (v := .ref q_6) (ty := .array .int) (C := RX11) (T := TX11) (N := 31) hx hb hts (by decide +kernel) tyX11 tyX11_ok nmX11 hown hK.1 hP hD hS 0 rfl rfl 16 (by decide) (hts (.fieldLink RX11 31 "CardHolderModel" "lines" "[I") (by decide +kernel)) (fun _ h9 => h9) rfl hin rfl (by decide +kernel) rfl rfl (Nat.le_of_ble_eq_true rfl) dX11_init_53 (fun H locs hP hD hS => ?_)
  have hP : va_P G vwCl [(h0, .inr (11, [.int 0, .ref q_1, .ref q_2, .ref q_3, .ref q_4, .ref q_5, .int 0, .int 0, .int 0, .int 0, .int 0, .long 0, .int 0, .int 0, .int 0, .int (-1), .ref q_6, .null, .null, .null, .null, .null, .null, .null, .int 0, .int 0, .int 0, .int 0, .null, .int 0, .int 0])), (q_1, .inl (ct 0, 4, .inl (fun _ => 0))), (q_2, .inl (ct 0, 4, .inl (fun _ => 0))), (q_3, .inl (ct 3, 240, .inr (.inl (fun _ => 0)))), (q_4, .inl (ct 3, 60, .inr (.inl (fun _ => 0)))), (q_5, .inl (ct 1, 900, .inl (fun _ => 0))), (q_6, .inl (ct 0, 5, .inl (fun _ => 0)))] H := hP
  have hD : va_D A [(h0, .inr (11, [.int 0, .ref q_1, .ref q_2, .ref q_3, .ref q_4, .ref q_5, .int 0, .int 0, .int 0, .int 0, .int 0, .long 0, .int 0, .int 0, .int 0, .int (-1), .ref q_6, .null, .null, .null, .null, .null, .null, .null, .int 0, .int 0, .int 0, .int 0, .null, .int 0, .int 0])), (q_1, .inl (ct 0, 4, .inl (fun _ => 0))), (q_2, .inl (ct 0, 4, .inl (fun _ => 0))), (q_3, .inl (ct 3, 240, .inr (.inl (fun _ => 0)))), (q_4, .inl (ct 3, 60, .inr (.inl (fun _ => 0)))), (q_5, .inl (ct 1, 900, .inl (fun _ => 0))), (q_6, .inl (ct 0, 5, .inl (fun _ => 0)))] := hD
  refine lv_aload_n hx hb dX11_init_56 rfl (lv_at hl 0 rfl) ?_
  refine lv_bipush (v := 15) hx hb dX11_init_57 (by decide) ?_
  refine va_newa (D := G) (atype := .int) (ty := .int) (a0 := (15, .inl (fun _ => 0))) (N' := 15) hx hb (hts (.arrayClass .int) (by decide +kernel)) rfl hK.1 hP hD hS hA (fun _ => rfl) (by decide) (by decide) (by decide +kernel) (Nat.le_of_ble_eq_true rfl) (Nat.le_of_ble_eq_true rfl) dX11_init_59 (fun q_7 cA H hK2 hP hD hS => ?_)
  obtain rfl := ty_one hK2 (i := 6) (j := 0) rfl rfl
  refine W.widen (k := 7) (n := 1228) (Nat.le_of_ble_eq_true rfl) (Nat.le_of_ble_eq_true rfl) ?_
  refine va_putF (D := G) (ci := 11) (v := .ref q_7) (ty := .array .int) (C := RX11) (T := TX11) (N := 31) hx hb hts (by decide +kernel) tyX11 tyX11_ok nmX11 hown hK.1 hP hD hS 0 rfl rfl 17 (by decide) (hts (.fieldLink RX11 34 "CardHolderModel" "has" "[I") (by decide +kernel)) (fun _ h9 => h9) rfl hin rfl (by decide +kernel) rfl rfl (Nat.le_of_ble_eq_true rfl) dX11_init_61 (fun H locs hP hD hS => ?_)
  have hP : va_P G vwCl [(h0, .inr (11, [.int 0, .ref q_1, .ref q_2, .ref q_3, .ref q_4, .ref q_5, .int 0, .int 0, .int 0, .int 0, .int 0, .long 0, .int 0, .int 0, .int 0, .int (-1), .ref q_6, .ref q_7, .null, .null, .null, .null, .null, .null, .int 0, .int 0, .int 0, .int 0, .null, .int 0, .int 0])), (q_1, .inl (ct 0, 4, .inl (fun _ => 0))), (q_2, .inl (ct 0, 4, .inl (fun _ => 0))), (q_3, .inl (ct 3, 240, .inr (.inl (fun _ => 0)))), (q_4, .inl (ct 3, 60, .inr (.inl (fun _ => 0)))), (q_5, .inl (ct 1, 900, .inl (fun _ => 0))), (q_6, .inl (ct 0, 5, .inl (fun _ => 0))), (q_7, .inl (ct 0, 15, .inl (fun _ => 0)))] H := hP
  have hD : va_D A [(h0, .inr (11, [.int 0, .ref q_1, .ref q_2, .ref q_3, .ref q_4, .ref q_5, .int 0, .int 0, .int 0, .int 0, .int 0, .long 0, .int 0, .int 0, .int 0, .int (-1), .ref q_6, .ref q_7, .null, .null, .null, .null, .null, .null, .int 0, .int 0, .int 0, .int 0, .null, .int 0, .int 0])), (q_1, .inl (ct 0, 4, .inl (fun _ => 0))), (q_2, .inl (ct 0, 4, .inl (fun _ => 0))), (q_3, .inl (ct 3, 240, .inr (.inl (fun _ => 0)))), (q_4, .inl (ct 3, 60, .inr (.inl (fun _ => 0)))), (q_5, .inl (ct 1, 900, .inl (fun _ => 0))), (q_6, .inl (ct 0, 5, .inl (fun _ => 0))), (q_7, .inl (ct 0, 15, .inl (fun _ => 0)))] := hD
  refine lv_aload_n hx hb dX11_init_64 rfl (lv_at hl 0 rfl) ?_
  refine lv_sipush (v := 200) hx hb dX11_init_65 (by decide) ?_
  refine va_newa (D := G) (atype := .int) (ty := .int) (a0 := (200, .inl (fun _ => 0))) (N' := 200) hx hb (hts (.arrayClass .int) (by decide +kernel)) rfl hK.1 hP hD hS hA (fun _ => rfl) (by decide) (by decide) (by decide +kernel) (Nat.le_of_ble_eq_true rfl) (Nat.le_of_ble_eq_true rfl) dX11_init_68 (fun q_8 cA H hK2 hP hD hS => ?_)
  obtain rfl := ty_one hK2 (i := 6) (j := 0) rfl rfl
  refine W.widen (k := 8) (n := 1428) (Nat.le_of_ble_eq_true rfl) (Nat.le_of_ble_eq_true rfl) ?_
  refine va_putF (D := G) (ci := 11) (v := .ref q_8) (ty := .array .int) (C := RX11) (T := TX11) (N := 31) hx hb hts (by decide +kernel) tyX11 tyX11_ok nmX11 hown hK.1 hP hD hS 0 rfl rfl 18 (by decide) (hts (.fieldLink RX11 37 "CardHolderModel" "person" "[I") (by decide +kernel)) (fun _ h9 => h9) rfl hin rfl (by decide +kernel) rfl rfl (Nat.le_of_ble_eq_true rfl) dX11_init_70 (fun H locs hP hD hS => ?_)
  have hP : va_P G vwCl [(h0, .inr (11, [.int 0, .ref q_1, .ref q_2, .ref q_3, .ref q_4, .ref q_5, .int 0, .int 0, .int 0, .int 0, .int 0, .long 0, .int 0, .int 0, .int 0, .int (-1), .ref q_6, .ref q_7, .ref q_8, .null, .null, .null, .null, .null, .int 0, .int 0, .int 0, .int 0, .null, .int 0, .int 0])), (q_1, .inl (ct 0, 4, .inl (fun _ => 0))), (q_2, .inl (ct 0, 4, .inl (fun _ => 0))), (q_3, .inl (ct 3, 240, .inr (.inl (fun _ => 0)))), (q_4, .inl (ct 3, 60, .inr (.inl (fun _ => 0)))), (q_5, .inl (ct 1, 900, .inl (fun _ => 0))), (q_6, .inl (ct 0, 5, .inl (fun _ => 0))), (q_7, .inl (ct 0, 15, .inl (fun _ => 0))), (q_8, .inl (ct 0, 200, .inl (fun _ => 0)))] H := hP
  have hD : va_D A [(h0, .inr (11, [.int 0, .ref q_1, .ref q_2, .ref q_3, .ref q_4, .ref q_5, .int 0, .int 0, .int 0, .int 0, .int 0, .long 0, .int 0, .int 0, .int 0, .int (-1), .ref q_6, .ref q_7, .ref q_8, .null, .null, .null, .null, .null, .int 0, .int 0, .int 0, .int 0, .null, .int 0, .int 0])), (q_1, .inl (ct 0, 4, .inl (fun _ => 0))), (q_2, .inl (ct 0, 4, .inl (fun _ => 0))), (q_3, .inl (ct 3, 240, .inr (.inl (fun _ => 0)))), (q_4, .inl (ct 3, 60, .inr (.inl (fun _ => 0)))), (q_5, .inl (ct 1, 900, .inl (fun _ => 0))), (q_6, .inl (ct 0, 5, .inl (fun _ => 0))), (q_7, .inl (ct 0, 15, .inl (fun _ => 0))), (q_8, .inl (ct 0, 200, .inl (fun _ => 0)))] := hD
  refine lv_aload_n hx hb dX11_init_73 rfl (lv_at hl 0 rfl) ?_
  refine lv_sipush (v := 1000) hx hb dX11_init_74 (by decide) ?_
  refine va_newa (D := G) (atype := .int) (ty := .int) (a0 := (1000, .inl (fun _ => 0))) (N' := 1000) hx hb (hts (.arrayClass .int) (by decide +kernel)) rfl hK.1 hP hD hS hA (fun _ => rfl) (by decide) (by decide) (by decide +kernel) (Nat.le_of_ble_eq_true rfl) (Nat.le_of_ble_eq_true rfl) dX11_init_77 (fun q_9 cA H hK2 hP hD hS => ?_)
  obtain rfl := ty_one hK2 (i := 6) (j := 0) rfl rfl
  refine W.widen (k := 9) (n := 2428) (Nat.le_of_ble_eq_true rfl) (Nat.le_of_ble_eq_true rfl) ?_
  refine va_putF (D := G) (ci := 11) (v := .ref q_9) (ty := .array .int) (C := RX11) (T := TX11) (N := 31) hx hb hts (by decide +kernel) tyX11 tyX11_ok nmX11 hown hK.1 hP hD hS 0 rfl rfl 19 (by decide) (hts (.fieldLink RX11 40 "CardHolderModel" "act" "[I") (by decide +kernel)) (fun _ h9 => h9) rfl hin rfl (by decide +kernel) rfl rfl (Nat.le_of_ble_eq_true rfl) dX11_init_79 (fun H locs hP hD hS => ?_)
  have hP : va_P G vwCl [(h0, .inr (11, [.int 0, .ref q_1, .ref q_2, .ref q_3, .ref q_4, .ref q_5, .int 0, .int 0, .int 0, .int 0, .int 0, .long 0, .int 0, .int 0, .int 0, .int (-1), .ref q_6, .ref q_7, .ref q_8, .ref q_9, .null, .null, .null, .null, .int 0, .int 0, .int 0, .int 0, .null, .int 0, .int 0])), (q_1, .inl (ct 0, 4, .inl (fun _ => 0))), (q_2, .inl (ct 0, 4, .inl (fun _ => 0))), (q_3, .inl (ct 3, 240, .inr (.inl (fun _ => 0)))), (q_4, .inl (ct 3, 60, .inr (.inl (fun _ => 0)))), (q_5, .inl (ct 1, 900, .inl (fun _ => 0))), (q_6, .inl (ct 0, 5, .inl (fun _ => 0))), (q_7, .inl (ct 0, 15, .inl (fun _ => 0))), (q_8, .inl (ct 0, 200, .inl (fun _ => 0))), (q_9, .inl (ct 0, 1000, .inl (fun _ => 0)))] H := hP
  have hD : va_D A [(h0, .inr (11, [.int 0, .ref q_1, .ref q_2, .ref q_3, .ref q_4, .ref q_5, .int 0, .int 0, .int 0, .int 0, .int 0, .long 0, .int 0, .int 0, .int 0, .int (-1), .ref q_6, .ref q_7, .ref q_8, .ref q_9, .null, .null, .null, .null, .int 0, .int 0, .int 0, .int 0, .null, .int 0, .int 0])), (q_1, .inl (ct 0, 4, .inl (fun _ => 0))), (q_2, .inl (ct 0, 4, .inl (fun _ => 0))), (q_3, .inl (ct 3, 240, .inr (.inl (fun _ => 0)))), (q_4, .inl (ct 3, 60, .inr (.inl (fun _ => 0)))), (q_5, .inl (ct 1, 900, .inl (fun _ => 0))), (q_6, .inl (ct 0, 5, .inl (fun _ => 0))), (q_7, .inl (ct 0, 15, .inl (fun _ => 0))), (q_8, .inl (ct 0, 200, .inl (fun _ => 0))), (q_9, .inl (ct 0, 1000, .inl (fun _ => 0)))] := hD
  refine lv_aload_n hx hb dX11_init_82 rfl (lv_at hl 0 rfl) ?_
  refine lv_iconst (v := 3) hx hb dX11_init_83 (by decide) ?_
  refine va_newa (D := G) (atype := .boolean) (ty := .boolean) (a0 := (3, .inl (fun _ => 0))) (N' := 3) hx hb (hts (.arrayClass .boolean) (by decide +kernel)) rfl hK.1 hP hD hS hA (fun _ => rfl) (by decide) (by decide) (by decide +kernel) (Nat.le_of_ble_eq_true rfl) (Nat.le_of_ble_eq_true rfl) dX11_init_84 (fun q_10 cA H hK2 hP hD hS => ?_)
  obtain rfl := ty_one hK2 (i := 6) (j := 2) rfl rfl
  refine W.widen (k := 10) (n := 2431) (Nat.le_of_ble_eq_true rfl) (Nat.le_of_ble_eq_true rfl) ?_
  refine va_putF (D := G) (ci := 11) (v := .ref q_10) (ty := .array .boolean) (C := RX11) (T := TX11) (N := 31) hx hb hts (by decide +kernel) tyX11 tyX11_ok nmX11 hown hK.1 hP hD hS 0 rfl rfl 20 (by decide) (hts (.fieldLink RX11 43 "CardHolderModel" "isKept" "[Z") (by decide +kernel)) (fun _ h9 => h9) rfl hin rfl (by decide +kernel) rfl rfl (Nat.le_of_ble_eq_true rfl) dX11_init_86 (fun H locs hP hD hS => ?_)
  have hP : va_P G vwCl [(h0, .inr (11, [.int 0, .ref q_1, .ref q_2, .ref q_3, .ref q_4, .ref q_5, .int 0, .int 0, .int 0, .int 0, .int 0, .long 0, .int 0, .int 0, .int 0, .int (-1), .ref q_6, .ref q_7, .ref q_8, .ref q_9, .ref q_10, .null, .null, .null, .int 0, .int 0, .int 0, .int 0, .null, .int 0, .int 0])), (q_1, .inl (ct 0, 4, .inl (fun _ => 0))), (q_2, .inl (ct 0, 4, .inl (fun _ => 0))), (q_3, .inl (ct 3, 240, .inr (.inl (fun _ => 0)))), (q_4, .inl (ct 3, 60, .inr (.inl (fun _ => 0)))), (q_5, .inl (ct 1, 900, .inl (fun _ => 0))), (q_6, .inl (ct 0, 5, .inl (fun _ => 0))), (q_7, .inl (ct 0, 15, .inl (fun _ => 0))), (q_8, .inl (ct 0, 200, .inl (fun _ => 0))), (q_9, .inl (ct 0, 1000, .inl (fun _ => 0))), (q_10, .inl (ct 2, 3, .inl (fun _ => 0)))] H := hP
  have hD : va_D A [(h0, .inr (11, [.int 0, .ref q_1, .ref q_2, .ref q_3, .ref q_4, .ref q_5, .int 0, .int 0, .int 0, .int 0, .int 0, .long 0, .int 0, .int 0, .int 0, .int (-1), .ref q_6, .ref q_7, .ref q_8, .ref q_9, .ref q_10, .null, .null, .null, .int 0, .int 0, .int 0, .int 0, .null, .int 0, .int 0])), (q_1, .inl (ct 0, 4, .inl (fun _ => 0))), (q_2, .inl (ct 0, 4, .inl (fun _ => 0))), (q_3, .inl (ct 3, 240, .inr (.inl (fun _ => 0)))), (q_4, .inl (ct 3, 60, .inr (.inl (fun _ => 0)))), (q_5, .inl (ct 1, 900, .inl (fun _ => 0))), (q_6, .inl (ct 0, 5, .inl (fun _ => 0))), (q_7, .inl (ct 0, 15, .inl (fun _ => 0))), (q_8, .inl (ct 0, 200, .inl (fun _ => 0))), (q_9, .inl (ct 0, 1000, .inl (fun _ => 0))), (q_10, .inl (ct 2, 3, .inl (fun _ => 0)))] := hD
  refine lv_aload_n hx hb dX11_init_89 rfl (lv_at hl 0 rfl) ?_
  refine lv_bipush (v := 8) hx hb dX11_init_90 (by decide) ?_
  refine va_newa (D := G) (atype := .int) (ty := .int) (a0 := (8, .inl (fun _ => 0))) (N' := 8) hx hb (hts (.arrayClass .int) (by decide +kernel)) rfl hK.1 hP hD hS hA (fun _ => rfl) (by decide) (by decide) (by decide +kernel) (Nat.le_of_ble_eq_true rfl) (Nat.le_of_ble_eq_true rfl) dX11_init_92 (fun q_11 cA H hK2 hP hD hS => ?_)
  obtain rfl := ty_one hK2 (i := 6) (j := 0) rfl rfl
  refine W.widen (k := 11) (n := 2439) (Nat.le_of_ble_eq_true rfl) (Nat.le_of_ble_eq_true rfl) ?_
  refine va_putF (D := G) (ci := 11) (v := .ref q_11) (ty := .array .int) (C := RX11) (T := TX11) (N := 31) hx hb hts (by decide +kernel) tyX11 tyX11_ok nmX11 hown hK.1 hP hD hS 0 rfl rfl 21 (by decide) (hts (.fieldLink RX11 47 "CardHolderModel" "holder" "[I") (by decide +kernel)) (fun _ h9 => h9) rfl hin rfl (by decide +kernel) rfl rfl (Nat.le_of_ble_eq_true rfl) dX11_init_94 (fun H locs hP hD hS => ?_)
  have hP : va_P G vwCl [(h0, .inr (11, [.int 0, .ref q_1, .ref q_2, .ref q_3, .ref q_4, .ref q_5, .int 0, .int 0, .int 0, .int 0, .int 0, .long 0, .int 0, .int 0, .int 0, .int (-1), .ref q_6, .ref q_7, .ref q_8, .ref q_9, .ref q_10, .ref q_11, .null, .null, .int 0, .int 0, .int 0, .int 0, .null, .int 0, .int 0])), (q_1, .inl (ct 0, 4, .inl (fun _ => 0))), (q_2, .inl (ct 0, 4, .inl (fun _ => 0))), (q_3, .inl (ct 3, 240, .inr (.inl (fun _ => 0)))), (q_4, .inl (ct 3, 60, .inr (.inl (fun _ => 0)))), (q_5, .inl (ct 1, 900, .inl (fun _ => 0))), (q_6, .inl (ct 0, 5, .inl (fun _ => 0))), (q_7, .inl (ct 0, 15, .inl (fun _ => 0))), (q_8, .inl (ct 0, 200, .inl (fun _ => 0))), (q_9, .inl (ct 0, 1000, .inl (fun _ => 0))), (q_10, .inl (ct 2, 3, .inl (fun _ => 0))), (q_11, .inl (ct 0, 8, .inl (fun _ => 0)))] H := hP
  have hD : va_D A [(h0, .inr (11, [.int 0, .ref q_1, .ref q_2, .ref q_3, .ref q_4, .ref q_5, .int 0, .int 0, .int 0, .int 0, .int 0, .long 0, .int 0, .int 0, .int 0, .int (-1), .ref q_6, .ref q_7, .ref q_8, .ref q_9, .ref q_10, .ref q_11, .null, .null, .int 0, .int 0, .int 0, .int 0, .null, .int 0, .int 0])), (q_1, .inl (ct 0, 4, .inl (fun _ => 0))), (q_2, .inl (ct 0, 4, .inl (fun _ => 0))), (q_3, .inl (ct 3, 240, .inr (.inl (fun _ => 0)))), (q_4, .inl (ct 3, 60, .inr (.inl (fun _ => 0)))), (q_5, .inl (ct 1, 900, .inl (fun _ => 0))), (q_6, .inl (ct 0, 5, .inl (fun _ => 0))), (q_7, .inl (ct 0, 15, .inl (fun _ => 0))), (q_8, .inl (ct 0, 200, .inl (fun _ => 0))), (q_9, .inl (ct 0, 1000, .inl (fun _ => 0))), (q_10, .inl (ct 2, 3, .inl (fun _ => 0))), (q_11, .inl (ct 0, 8, .inl (fun _ => 0)))] := hD
  refine lv_aload_n hx hb dX11_init_97 rfl (lv_at hl 0 rfl) ?_
  refine lv_bipush (v := 8) hx hb dX11_init_98 (by decide) ?_
  refine va_newa (D := G) (atype := .int) (ty := .int) (a0 := (8, .inl (fun _ => 0))) (N' := 8) hx hb (hts (.arrayClass .int) (by decide +kernel)) rfl hK.1 hP hD hS hA (fun _ => rfl) (by decide) (by decide) (by decide +kernel) (Nat.le_of_ble_eq_true rfl) (Nat.le_of_ble_eq_true rfl) dX11_init_100 (fun q_12 cA H hK2 hP hD hS => ?_)
  obtain rfl := ty_one hK2 (i := 6) (j := 0) rfl rfl
  refine W.widen (k := 12) (n := 2447) (Nat.le_of_ble_eq_true rfl) (Nat.le_of_ble_eq_true rfl) ?_
  refine va_putF (D := G) (ci := 11) (v := .ref q_12) (ty := .array .int) (C := RX11) (T := TX11) (N := 31) hx hb hts (by decide +kernel) tyX11 tyX11_ok nmX11 hown hK.1 hP hD hS 0 rfl rfl 22 (by decide) (hts (.fieldLink RX11 50 "CardHolderModel" "worn" "[I") (by decide +kernel)) (fun _ h9 => h9) rfl hin rfl (by decide +kernel) rfl rfl (Nat.le_of_ble_eq_true rfl) dX11_init_102 (fun H locs hP hD hS => ?_)
  have hP : va_P G vwCl [(h0, .inr (11, [.int 0, .ref q_1, .ref q_2, .ref q_3, .ref q_4, .ref q_5, .int 0, .int 0, .int 0, .int 0, .int 0, .long 0, .int 0, .int 0, .int 0, .int (-1), .ref q_6, .ref q_7, .ref q_8, .ref q_9, .ref q_10, .ref q_11, .ref q_12, .null, .int 0, .int 0, .int 0, .int 0, .null, .int 0, .int 0])), (q_1, .inl (ct 0, 4, .inl (fun _ => 0))), (q_2, .inl (ct 0, 4, .inl (fun _ => 0))), (q_3, .inl (ct 3, 240, .inr (.inl (fun _ => 0)))), (q_4, .inl (ct 3, 60, .inr (.inl (fun _ => 0)))), (q_5, .inl (ct 1, 900, .inl (fun _ => 0))), (q_6, .inl (ct 0, 5, .inl (fun _ => 0))), (q_7, .inl (ct 0, 15, .inl (fun _ => 0))), (q_8, .inl (ct 0, 200, .inl (fun _ => 0))), (q_9, .inl (ct 0, 1000, .inl (fun _ => 0))), (q_10, .inl (ct 2, 3, .inl (fun _ => 0))), (q_11, .inl (ct 0, 8, .inl (fun _ => 0))), (q_12, .inl (ct 0, 8, .inl (fun _ => 0)))] H := hP
  have hD : va_D A [(h0, .inr (11, [.int 0, .ref q_1, .ref q_2, .ref q_3, .ref q_4, .ref q_5, .int 0, .int 0, .int 0, .int 0, .int 0, .long 0, .int 0, .int 0, .int 0, .int (-1), .ref q_6, .ref q_7, .ref q_8, .ref q_9, .ref q_10, .ref q_11, .ref q_12, .null, .int 0, .int 0, .int 0, .int 0, .null, .int 0, .int 0])), (q_1, .inl (ct 0, 4, .inl (fun _ => 0))), (q_2, .inl (ct 0, 4, .inl (fun _ => 0))), (q_3, .inl (ct 3, 240, .inr (.inl (fun _ => 0)))), (q_4, .inl (ct 3, 60, .inr (.inl (fun _ => 0)))), (q_5, .inl (ct 1, 900, .inl (fun _ => 0))), (q_6, .inl (ct 0, 5, .inl (fun _ => 0))), (q_7, .inl (ct 0, 15, .inl (fun _ => 0))), (q_8, .inl (ct 0, 200, .inl (fun _ => 0))), (q_9, .inl (ct 0, 1000, .inl (fun _ => 0))), (q_10, .inl (ct 2, 3, .inl (fun _ => 0))), (q_11, .inl (ct 0, 8, .inl (fun _ => 0))), (q_12, .inl (ct 0, 8, .inl (fun _ => 0)))] := hD
  refine lv_aload_n hx hb dX11_init_105 rfl (lv_at hl 0 rfl) ?_
  refine lv_bipush (v := 8) hx hb dX11_init_106 (by decide) ?_
  refine va_newa (D := G) (atype := .int) (ty := .int) (a0 := (8, .inl (fun _ => 0))) (N' := 8) hx hb (hts (.arrayClass .int) (by decide +kernel)) rfl hK.1 hP hD hS hA (fun _ => rfl) (by decide) (by decide) (by decide +kernel) (Nat.le_of_ble_eq_true rfl) (Nat.le_of_ble_eq_true rfl) dX11_init_108 (fun q_13 cA H hK2 hP hD hS => ?_)
  obtain rfl := ty_one hK2 (i := 6) (j := 0) rfl rfl
  refine W.widen (k := 13) (n := 2455) (Nat.le_of_ble_eq_true rfl) (Nat.le_of_ble_eq_true rfl) ?_
  refine va_putF (D := G) (ci := 11) (v := .ref q_13) (ty := .array .int) (C := RX11) (T := TX11) (N := 31) hx hb hts (by decide +kernel) tyX11 tyX11_ok nmX11 hown hK.1 hP hD hS 0 rfl rfl 23 (by decide) (hts (.fieldLink RX11 53 "CardHolderModel" "had" "[I") (by decide +kernel)) (fun _ h9 => h9) rfl hin rfl (by decide +kernel) rfl rfl (Nat.le_of_ble_eq_true rfl) dX11_init_110 (fun H locs hP hD hS => ?_)
  have hP : va_P G vwCl [(h0, .inr (11, [.int 0, .ref q_1, .ref q_2, .ref q_3, .ref q_4, .ref q_5, .int 0, .int 0, .int 0, .int 0, .int 0, .long 0, .int 0, .int 0, .int 0, .int (-1), .ref q_6, .ref q_7, .ref q_8, .ref q_9, .ref q_10, .ref q_11, .ref q_12, .ref q_13, .int 0, .int 0, .int 0, .int 0, .null, .int 0, .int 0])), (q_1, .inl (ct 0, 4, .inl (fun _ => 0))), (q_2, .inl (ct 0, 4, .inl (fun _ => 0))), (q_3, .inl (ct 3, 240, .inr (.inl (fun _ => 0)))), (q_4, .inl (ct 3, 60, .inr (.inl (fun _ => 0)))), (q_5, .inl (ct 1, 900, .inl (fun _ => 0))), (q_6, .inl (ct 0, 5, .inl (fun _ => 0))), (q_7, .inl (ct 0, 15, .inl (fun _ => 0))), (q_8, .inl (ct 0, 200, .inl (fun _ => 0))), (q_9, .inl (ct 0, 1000, .inl (fun _ => 0))), (q_10, .inl (ct 2, 3, .inl (fun _ => 0))), (q_11, .inl (ct 0, 8, .inl (fun _ => 0))), (q_12, .inl (ct 0, 8, .inl (fun _ => 0))), (q_13, .inl (ct 0, 8, .inl (fun _ => 0)))] H := hP
  have hD : va_D A [(h0, .inr (11, [.int 0, .ref q_1, .ref q_2, .ref q_3, .ref q_4, .ref q_5, .int 0, .int 0, .int 0, .int 0, .int 0, .long 0, .int 0, .int 0, .int 0, .int (-1), .ref q_6, .ref q_7, .ref q_8, .ref q_9, .ref q_10, .ref q_11, .ref q_12, .ref q_13, .int 0, .int 0, .int 0, .int 0, .null, .int 0, .int 0])), (q_1, .inl (ct 0, 4, .inl (fun _ => 0))), (q_2, .inl (ct 0, 4, .inl (fun _ => 0))), (q_3, .inl (ct 3, 240, .inr (.inl (fun _ => 0)))), (q_4, .inl (ct 3, 60, .inr (.inl (fun _ => 0)))), (q_5, .inl (ct 1, 900, .inl (fun _ => 0))), (q_6, .inl (ct 0, 5, .inl (fun _ => 0))), (q_7, .inl (ct 0, 15, .inl (fun _ => 0))), (q_8, .inl (ct 0, 200, .inl (fun _ => 0))), (q_9, .inl (ct 0, 1000, .inl (fun _ => 0))), (q_10, .inl (ct 2, 3, .inl (fun _ => 0))), (q_11, .inl (ct 0, 8, .inl (fun _ => 0))), (q_12, .inl (ct 0, 8, .inl (fun _ => 0))), (q_13, .inl (ct 0, 8, .inl (fun _ => 0)))] := hD
  refine lv_aload_n hx hb dX11_init_113 rfl (lv_at hl 0 rfl) ?_
  refine lv_sipush (v := 576) hx hb dX11_init_114 (by decide) ?_
  refine va_newa (D := G) (atype := .int) (ty := .int) (a0 := (576, .inl (fun _ => 0))) (N' := 576) hx hb (hts (.arrayClass .int) (by decide +kernel)) rfl hK.1 hP hD hS hA (fun _ => rfl) (by decide) (by decide) (by decide +kernel) (Nat.le_of_ble_eq_true rfl) (Nat.le_of_ble_eq_true rfl) dX11_init_117 (fun q_14 cA H hK2 hP hD hS => ?_)
  obtain rfl := ty_one hK2 (i := 6) (j := 0) rfl rfl
  refine W.widen (k := 14) (n := 3031) (Nat.le_of_ble_eq_true rfl) (Nat.le_of_ble_eq_true rfl) ?_
  refine va_putF (D := G) (ci := 11) (v := .ref q_14) (ty := .array .int) (C := RX11) (T := TX11) (N := 31) hx hb hts (by decide +kernel) tyX11 tyX11_ok nmX11 hown hK.1 hP hD hS 0 rfl rfl 28 (by decide) (hts (.fieldLink RX11 56 "CardHolderModel" "most" "[I") (by decide +kernel)) (fun _ h9 => h9) rfl hin rfl (by decide +kernel) rfl rfl (Nat.le_of_ble_eq_true rfl) dX11_init_119 (fun H locs hP hD hS => ?_)
  have hP : va_P G vwCl [(h0, .inr (11, [.int 0, .ref q_1, .ref q_2, .ref q_3, .ref q_4, .ref q_5, .int 0, .int 0, .int 0, .int 0, .int 0, .long 0, .int 0, .int 0, .int 0, .int (-1), .ref q_6, .ref q_7, .ref q_8, .ref q_9, .ref q_10, .ref q_11, .ref q_12, .ref q_13, .int 0, .int 0, .int 0, .int 0, .ref q_14, .int 0, .int 0])), (q_1, .inl (ct 0, 4, .inl (fun _ => 0))), (q_2, .inl (ct 0, 4, .inl (fun _ => 0))), (q_3, .inl (ct 3, 240, .inr (.inl (fun _ => 0)))), (q_4, .inl (ct 3, 60, .inr (.inl (fun _ => 0)))), (q_5, .inl (ct 1, 900, .inl (fun _ => 0))), (q_6, .inl (ct 0, 5, .inl (fun _ => 0))), (q_7, .inl (ct 0, 15, .inl (fun _ => 0))), (q_8, .inl (ct 0, 200, .inl (fun _ => 0))), (q_9, .inl (ct 0, 1000, .inl (fun _ => 0))), (q_10, .inl (ct 2, 3, .inl (fun _ => 0))), (q_11, .inl (ct 0, 8, .inl (fun _ => 0))), (q_12, .inl (ct 0, 8, .inl (fun _ => 0))), (q_13, .inl (ct 0, 8, .inl (fun _ => 0))), (q_14, .inl (ct 0, 576, .inl (fun _ => 0)))] H := hP
  have hD : va_D A [(h0, .inr (11, [.int 0, .ref q_1, .ref q_2, .ref q_3, .ref q_4, .ref q_5, .int 0, .int 0, .int 0, .int 0, .int 0, .long 0, .int 0, .int 0, .int 0, .int (-1), .ref q_6, .ref q_7, .ref q_8, .ref q_9, .ref q_10, .ref q_11, .ref q_12, .ref q_13, .int 0, .int 0, .int 0, .int 0, .ref q_14, .int 0, .int 0])), (q_1, .inl (ct 0, 4, .inl (fun _ => 0))), (q_2, .inl (ct 0, 4, .inl (fun _ => 0))), (q_3, .inl (ct 3, 240, .inr (.inl (fun _ => 0)))), (q_4, .inl (ct 3, 60, .inr (.inl (fun _ => 0)))), (q_5, .inl (ct 1, 900, .inl (fun _ => 0))), (q_6, .inl (ct 0, 5, .inl (fun _ => 0))), (q_7, .inl (ct 0, 15, .inl (fun _ => 0))), (q_8, .inl (ct 0, 200, .inl (fun _ => 0))), (q_9, .inl (ct 0, 1000, .inl (fun _ => 0))), (q_10, .inl (ct 2, 3, .inl (fun _ => 0))), (q_11, .inl (ct 0, 8, .inl (fun _ => 0))), (q_12, .inl (ct 0, 8, .inl (fun _ => 0))), (q_13, .inl (ct 0, 8, .inl (fun _ => 0))), (q_14, .inl (ct 0, 576, .inl (fun _ => 0)))] := hD
  refine lv_iconst (v := 0) hx hb dX11_init_122 (by decide) ?_
  refine lv_istore_n (lv' := [(1, .int 0), (0, .ref h0)]) hx hb dX11_init_123 rfl hl (by decide) rfl (fun ls hl => ?_)
  refine lv_iload_n hx hb dX11_init_124 rfl (lv_at hl 0 rfl) ?_
  refine lv_iconst (v := 4) hx hb dX11_init_125 (by decide) ?_
  refine lv_icmp_ge (tgt := 142) hx hb dX11_init_126 (by decide) (fun c_15 => ?_) (fun c_15 => ?_)
  · exact absurd c_15 (by decide)
  · refine lv_aload_n hx hb dX11_init_129 rfl (lv_at hl 1 rfl) ?_
    refine va_get (D := G) (ci := 11) (v := .ref q_1) (C := RX11) (T := TX11) (N := 31) hx hb hts (by decide +kernel) hown hK.1 hP 0 rfl rfl 1 (by decide) (hts (.fieldLink RX11 7 "CardHolderModel" "width" "[I") (by decide +kernel)) (fun _ h9 => h9) rfl dX11_init_130 ?_
    refine lv_iload_n hx hb dX11_init_133 rfl (lv_at hl 0 rfl) ?_
    refine lv_iconst (v := (-1)) hx hb dX11_init_134 (by decide) ?_
    refine va_iast hx hb hK.1 hP hD hS 1 0 rfl rfl (in_lit (by decide)) dX11_init_135 (fun H locs hP hD hS => ?_)
    refine lv_iinc (v := 1) (lv' := [(1, .int 1), (0, .ref h0)]) hx hb dX11_init_136 hl (k := 0) rfl (by decide) (by decide) rfl (fun ls hl => ?_)
    refine lv_goto (tgt := 124) hx hb dX11_init_139 (by decide) ?_
    refine lv_iload_n hx hb dX11_init_124 rfl (lv_at hl 0 rfl) ?_
    refine lv_iconst (v := 4) hx hb dX11_init_125 (by decide) ?_
    refine lv_icmp_ge (tgt := 142) hx hb dX11_init_126 (by decide) (fun c_16 => ?_) (fun c_16 => ?_)
    · exact absurd c_16 (by decide)
    · refine lv_aload_n hx hb dX11_init_129 rfl (lv_at hl 1 rfl) ?_
      refine va_get (D := G) (ci := 11) (v := .ref q_1) (C := RX11) (T := TX11) (N := 31) hx hb hts (by decide +kernel) hown hK.1 hP 0 rfl rfl 1 (by decide) (hts (.fieldLink RX11 7 "CardHolderModel" "width" "[I") (by decide +kernel)) (fun _ h9 => h9) rfl dX11_init_130 ?_
      refine lv_iload_n hx hb dX11_init_133 rfl (lv_at hl 0 rfl) ?_
      refine lv_iconst (v := (-1)) hx hb dX11_init_134 (by decide) ?_
      refine va_iast hx hb hK.1 hP hD hS 1 0 rfl rfl (in_lit (by decide)) dX11_init_135 (fun H locs hP hD hS => ?_)
      refine lv_iinc (v := 2) (lv' := [(1, .int 2), (0, .ref h0)]) hx hb dX11_init_136 hl (k := 0) rfl (by decide) (by decide) rfl (fun ls hl => ?_)
      refine lv_goto (tgt := 124) hx hb dX11_init_139 (by decide) ?_
      refine lv_iload_n hx hb dX11_init_124 rfl (lv_at hl 0 rfl) ?_
      refine lv_iconst (v := 4) hx hb dX11_init_125 (by decide) ?_
      refine lv_icmp_ge (tgt := 142) hx hb dX11_init_126 (by decide) (fun c_17 => ?_) (fun c_17 => ?_)
      · exact absurd c_17 (by decide)
      · refine lv_aload_n hx hb dX11_init_129 rfl (lv_at hl 1 rfl) ?_
        refine va_get (D := G) (ci := 11) (v := .ref q_1) (C := RX11) (T := TX11) (N := 31) hx hb hts (by decide +kernel) hown hK.1 hP 0 rfl rfl 1 (by decide) (hts (.fieldLink RX11 7 "CardHolderModel" "width" "[I") (by decide +kernel)) (fun _ h9 => h9) rfl dX11_init_130 ?_
        refine lv_iload_n hx hb dX11_init_133 rfl (lv_at hl 0 rfl) ?_
        refine lv_iconst (v := (-1)) hx hb dX11_init_134 (by decide) ?_
        refine va_iast hx hb hK.1 hP hD hS 1 0 rfl rfl (in_lit (by decide)) dX11_init_135 (fun H locs hP hD hS => ?_)
        refine lv_iinc (v := 3) (lv' := [(1, .int 3), (0, .ref h0)]) hx hb dX11_init_136 hl (k := 0) rfl (by decide) (by decide) rfl (fun ls hl => ?_)
        refine lv_goto (tgt := 124) hx hb dX11_init_139 (by decide) ?_
        refine lv_iload_n hx hb dX11_init_124 rfl (lv_at hl 0 rfl) ?_
        refine lv_iconst (v := 4) hx hb dX11_init_125 (by decide) ?_
        refine lv_icmp_ge (tgt := 142) hx hb dX11_init_126 (by decide) (fun c_18 => ?_) (fun c_18 => ?_)
        · exact absurd c_18 (by decide)
        · refine lv_aload_n hx hb dX11_init_129 rfl (lv_at hl 1 rfl) ?_
          refine va_get (D := G) (ci := 11) (v := .ref q_1) (C := RX11) (T := TX11) (N := 31) hx hb hts (by decide +kernel) hown hK.1 hP 0 rfl rfl 1 (by decide) (hts (.fieldLink RX11 7 "CardHolderModel" "width" "[I") (by decide +kernel)) (fun _ h9 => h9) rfl dX11_init_130 ?_
          refine lv_iload_n hx hb dX11_init_133 rfl (lv_at hl 0 rfl) ?_
          refine lv_iconst (v := (-1)) hx hb dX11_init_134 (by decide) ?_
          refine va_iast hx hb hK.1 hP hD hS 1 0 rfl rfl (in_lit (by decide)) dX11_init_135 (fun H locs hP hD hS => ?_)
          refine lv_iinc (v := 4) (lv' := [(1, .int 4), (0, .ref h0)]) hx hb dX11_init_136 hl (k := 0) rfl (by decide) (by decide) rfl (fun ls hl => ?_)
          refine lv_goto (tgt := 124) hx hb dX11_init_139 (by decide) ?_
          refine lv_iload_n hx hb dX11_init_124 rfl (lv_at hl 0 rfl) ?_
          refine lv_iconst (v := 4) hx hb dX11_init_125 (by decide) ?_
          refine lv_icmp_ge (tgt := 142) hx hb dX11_init_126 (by decide) (fun c_19 => ?_) (fun c_19 => ?_)
          · have hP : va_P G vwCl (mF (fun k => ([h0, q_1, q_2, q_3, q_4, q_5, q_6, q_7, q_8, q_9, q_10, q_11, q_12, q_13, q_14] : List Nat).getD k 0) ct) H := hP
            have hD : va_D A (mF (fun k => ([h0, q_1, q_2, q_3, q_4, q_5, q_6, q_7, q_8, q_9, q_10, q_11, q_12, q_13, q_14] : List Nat).getD k 0) ct) := hD
            refine W.widen (k := 14) (n := 3031) (Nat.le_of_ble_eq_true rfl) (Nat.le_of_ble_eq_true rfl) ?_
            exact W.vret hx hb hr (fun t ht hW => ⟨⟨(fun k => ([h0, q_1, q_2, q_3, q_4, q_5, q_6, q_7, q_8, q_9, q_10, q_11, q_12, q_13, q_14] : List Nat).getD k 0), rfl, rfl, hp_at ht hP, hD⟩, hS.F ht⟩) hS.2.2 dX11_init_142
          · exact absurd c_19 (by decide)

