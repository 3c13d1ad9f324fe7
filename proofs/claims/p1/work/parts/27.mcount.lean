theorem dX11_start_0 : decode cX11_start 0 = .ok (.iconst 0, 1) := by decide +kernel
theorem dX11_start_1 : decode cX11_start 1 = .ok (.istore_n 1, 1) := by decide +kernel
theorem dX11_start_2 : decode cX11_start 2 = .ok (.iload_n 1, 1) := by decide +kernel
theorem dX11_start_3 : decode cX11_start 3 = .ok (.aload_n 0, 1) := by decide +kernel
theorem dX11_start_4 : decode cX11_start 4 = .ok (.getfield 34, 3) := by decide +kernel
theorem dX11_start_7 : decode cX11_start 7 = .ok (.iconst 1, 1) := by decide +kernel
theorem dX11_start_8 : decode cX11_start 8 = .ok (.iaload, 1) := by decide +kernel
theorem dX11_start_9 : decode cX11_start 9 = .ok (.if_icmp .ge 35, 3) := by decide +kernel
theorem dX11_start_44 : decode cX11_start 44 = .ok (.aload_n 0, 1) := by decide +kernel
theorem dX11_start_45 : decode cX11_start 45 = .ok (.iconst 0, 1) := by decide +kernel
theorem dX11_start_46 : decode cX11_start 46 = .ok (.putfield 217, 3) := by decide +kernel
theorem dX11_start_49 : decode cX11_start 49 = .ok (.aload_n 0, 1) := by decide +kernel
theorem dX11_start_50 : decode cX11_start 50 = .ok (.iconst 0, 1) := by decide +kernel
theorem dX11_start_51 : decode cX11_start 51 = .ok (.putfield 220, 3) := by decide +kernel
theorem dX11_start_54 : decode cX11_start 54 = .ok (.aload_n 0, 1) := by decide +kernel
theorem dX11_start_55 : decode cX11_start 55 = .ok (.iconst 0, 1) := by decide +kernel
theorem dX11_start_56 : decode cX11_start 56 = .ok (.putfield 223, 3) := by decide +kernel
theorem dX11_start_59 : decode cX11_start 59 = .ok (.aload_n 0, 1) := by decide +kernel
theorem dX11_start_60 : decode cX11_start 60 = .ok (.iconst 0, 1) := by decide +kernel
theorem dX11_start_61 : decode cX11_start 61 = .ok (.putfield 226, 3) := by decide +kernel
theorem dX11_start_64 : decode cX11_start 64 = .ok (.return_, 1) := by decide +kernel
theorem dX11_laysNow_0 : decode cX11_laysNow 0 = .ok (.aload_n 0, 1) := by decide +kernel
set_option maxRecDepth 20000 in
theorem ggX11_laysNow_X11_start : GoodIn wsX11_laysNow wsX11_start := goodIn_r _ [7, 1, 8, 9, 10, 11, 12, 13, 14, 15, 16, 17, 6, 18, 19, 39, 40, 41, 42, 43, 44, 45, 46, 47, 48, 49, 50, 51, 52, 53, 54, 55, 56, 57, 58, 59, 60, 61, 62, 63, 64, 65, 66, 67, 68, 69] (by decide +kernel) (by decide +kernel)
set_option maxRecDepth 20000 in
theorem gX11_laysNow_X11_start : GoodIn wsX11_laysNow (wsV RX11 229 RX11 yX11_start wsX11_start) := goodIn_app (goodIn_of _ (by decide +kernel)) ggX11_laysNow_X11_start
theorem dX11_laysNow_1 : decode cX11_laysNow 1 = .ok (.invokevirtual 229, 3) := by decide +kernel
theorem dX11_laysNow_4 : decode cX11_laysNow 4 = .ok (.iconst 0, 1) := by decide +kernel
theorem dX11_laysNow_5 : decode cX11_laysNow 5 = .ok (.istore_n 1, 1) := by decide +kernel
theorem dX11_laysNow_6 : decode cX11_laysNow 6 = .ok (.iload_n 1, 1) := by decide +kernel
theorem dX11_laysNow_7 : decode cX11_laysNow 7 = .ok (.aload_n 0, 1) := by decide +kernel
theorem dX11_laysNow_8 : decode cX11_laysNow 8 = .ok (.getfield 34, 3) := by decide +kernel
theorem dX11_laysNow_11 : decode cX11_laysNow 11 = .ok (.iconst 2, 1) := by decide +kernel
theorem dX11_laysNow_12 : decode cX11_laysNow 12 = .ok (.iaload, 1) := by decide +kernel
theorem dX11_laysNow_13 : decode cX11_laysNow 13 = .ok (.if_icmp .ge 61, 3) := by decide +kernel
theorem dX11_laysNow_74 : decode cX11_laysNow 74 = .ok (.return_, 1) := by decide +kernel
theorem dX11_freeNow_0 : decode cX11_freeNow 0 = .ok (.iconst 0, 1) := by decide +kernel
theorem dX11_freeNow_1 : decode cX11_freeNow 1 = .ok (.istore_n 1, 1) := by decide +kernel
theorem dX11_freeNow_2 : decode cX11_freeNow 2 = .ok (.iconst 0, 1) := by decide +kernel
theorem dX11_freeNow_3 : decode cX11_freeNow 3 = .ok (.istore_n 2, 1) := by decide +kernel
theorem dX11_freeNow_4 : decode cX11_freeNow 4 = .ok (.iload_n 2, 1) := by decide +kernel
theorem dX11_freeNow_5 : decode cX11_freeNow 5 = .ok (.aload_n 0, 1) := by decide +kernel
theorem dX11_freeNow_6 : decode cX11_freeNow 6 = .ok (.getfield 34, 3) := by decide +kernel
theorem dX11_freeNow_9 : decode cX11_freeNow 9 = .ok (.iconst 1, 1) := by decide +kernel
theorem dX11_freeNow_10 : decode cX11_freeNow 10 = .ok (.iaload, 1) := by decide +kernel
theorem dX11_freeNow_11 : decode cX11_freeNow 11 = .ok (.if_icmp .ge 29, 3) := by decide +kernel
theorem dX11_freeNow_40 : decode cX11_freeNow 40 = .ok (.iload_n 1, 1) := by decide +kernel
theorem dX11_freeNow_41 : decode cX11_freeNow 41 = .ok (.ireturn, 1) := by decide +kernel
theorem dX11_sizeOf_0 : decode cX11_sizeOf 0 = .ok (.iconst 0, 1) := by decide +kernel
theorem dX11_sizeOf_1 : decode cX11_sizeOf 1 = .ok (.istore_n 1, 1) := by decide +kernel
theorem dX11_sizeOf_2 : decode cX11_sizeOf 2 = .ok (.iload_n 0, 1) := by decide +kernel
theorem dX11_sizeOf_3 : decode cX11_sizeOf 3 = .ok (.istore_n 2, 1) := by decide +kernel
theorem dX11_sizeOf_4 : decode cX11_sizeOf 4 = .ok (.iload_n 2, 1) := by decide +kernel
theorem dX11_sizeOf_5 : decode cX11_sizeOf 5 = .ok (.ifCond .eq 15, 3) := by decide +kernel
theorem dX11_sizeOf_20 : decode cX11_sizeOf 20 = .ok (.iload_n 1, 1) := by decide +kernel
theorem dX11_sizeOf_21 : decode cX11_sizeOf 21 = .ok (.ireturn, 1) := by decide +kernel
theorem dX11_count_0 : decode cX11_count 0 = .ok (.aload_n 0, 1) := by decide +kernel
theorem dX11_count_1 : decode cX11_count 1 = .ok (.iconst 0, 1) := by decide +kernel
theorem dX11_count_2 : decode cX11_count 2 = .ok (.putfield 59, 3) := by decide +kernel
theorem dX11_count_5 : decode cX11_count 5 = .ok (.iconst 0, 1) := by decide +kernel
theorem dX11_count_6 : decode cX11_count 6 = .ok (.istore_n 2, 1) := by decide +kernel
theorem dX11_count_7 : decode cX11_count 7 = .ok (.iload_n 1, 1) := by decide +kernel
theorem dX11_count_8 : decode cX11_count 8 = .ok (.tableswitch 162 0 7 #[48, 55, 62, 81, 110, 117, 124, 129], 48) := by decide +kernel
theorem dX11_count_56 : decode cX11_count 56 = .ok (.aload_n 0, 1) := by decide +kernel
theorem dX11_count_57 : decode cX11_count 57 = .ok (.getfield 34, 3) := by decide +kernel
theorem dX11_count_60 : decode cX11_count 60 = .ok (.iconst 1, 1) := by decide +kernel
theorem dX11_count_61 : decode cX11_count 61 = .ok (.iaload, 1) := by decide +kernel
theorem dX11_count_62 : decode cX11_count 62 = .ok (.ireturn, 1) := by decide +kernel
theorem dX11_count_63 : decode cX11_count 63 = .ok (.aload_n 0, 1) := by decide +kernel
theorem dX11_count_64 : decode cX11_count 64 = .ok (.getfield 34, 3) := by decide +kernel
theorem dX11_count_67 : decode cX11_count 67 = .ok (.iconst 0, 1) := by decide +kernel
theorem dX11_count_68 : decode cX11_count 68 = .ok (.iaload, 1) := by decide +kernel
theorem dX11_count_69 : decode cX11_count 69 = .ok (.ireturn, 1) := by decide +kernel
theorem dX11_count_70 : decode cX11_count 70 = .ok (.aload_n 0, 1) := by decide +kernel
set_option maxRecDepth 20000 in
theorem ggX11_count_X11_laysNow : GoodIn wsX11_count wsX11_laysNow := goodIn_r _ [10, 2, 11, 12, 13, 14, 9, 15, 16, 17, 18, 19, 20, 21, 22, 23, 24, 25, 26, 27, 28, 29, 30, 31, 32, 33, 34, 35, 36, 37, 38, 39, 40, 41, 42, 43, 44, 45, 46, 54, 55, 56, 57, 58, 59, 60, 61, 62, 63, 64, 65, 66, 67, 68, 69, 70, 71, 72, 73, 74, 75, 76, 77, 78, 79, 80, 81, 82, 83, 84] (by decide +kernel) (by decide +kernel)
set_option maxRecDepth 20000 in
theorem gX11_count_X11_laysNow : GoodIn wsX11_count (wsV RX11 251 RX11 yX11_laysNow wsX11_laysNow) := goodIn_app (goodIn_of _ (by decide +kernel)) ggX11_count_X11_laysNow
theorem dX11_count_71 : decode cX11_count 71 = .ok (.invokevirtual 251, 3) := by decide +kernel
theorem dX11_count_74 : decode cX11_count 74 = .ok (.aload_n 0, 1) := by decide +kernel
theorem dX11_count_75 : decode cX11_count 75 = .ok (.getfield 34, 3) := by decide +kernel
theorem dX11_count_78 : decode cX11_count 78 = .ok (.iconst 1, 1) := by decide +kernel
theorem dX11_count_79 : decode cX11_count 79 = .ok (.iaload, 1) := by decide +kernel
theorem dX11_count_80 : decode cX11_count 80 = .ok (.aload_n 0, 1) := by decide +kernel
set_option maxRecDepth 20000 in
theorem ggX11_count_X11_freeNow : GoodIn wsX11_count wsX11_freeNow := goodIn_r _ [50, 2, 16, 54, 55, 56, 57, 58, 59, 60, 61, 62, 63, 64, 65, 66, 67, 68, 69, 70, 71, 72, 73, 74, 75, 76, 77, 78, 79, 80, 81, 82, 83, 84] (by decide +kernel) (by decide +kernel)
set_option maxRecDepth 20000 in
theorem gX11_count_X11_freeNow : GoodIn wsX11_count (wsV RX11 260 RX11 yX11_freeNow wsX11_freeNow) := goodIn_app (goodIn_of _ (by decide +kernel)) ggX11_count_X11_freeNow
theorem dX11_count_81 : decode cX11_count 81 = .ok (.invokevirtual 260, 3) := by decide +kernel
set_option maxRecDepth 20000 in
theorem ggX11_count_X11_sizeOf : GoodIn wsX11_count wsX11_sizeOf := goodIn_r _ [53] (by decide +kernel) (by decide +kernel)
set_option maxRecDepth 20000 in
theorem gX11_count_X11_sizeOf : GoodIn wsX11_count (va_wsS RX11 297 yX11_sizeOf wsX11_sizeOf) := goodIn_app (goodIn_of _ (by decide +kernel)) ggX11_count_X11_sizeOf
theorem dX11_count_84 : decode cX11_count 84 = .ok (.invokestatic 297, 3) := by decide +kernel
theorem dX11_count_87 : decode cX11_count 87 = .ok (.isub, 1) := by decide +kernel
theorem dX11_count_88 : decode cX11_count 88 = .ok (.ireturn, 1) := by decide +kernel
theorem dX11_count_89 : decode cX11_count 89 = .ok (.iconst 0, 1) := by decide +kernel
theorem dX11_count_90 : decode cX11_count 90 = .ok (.istore_n 3, 1) := by decide +kernel
theorem dX11_count_91 : decode cX11_count 91 = .ok (.iload_n 3, 1) := by decide +kernel
theorem dX11_count_92 : decode cX11_count 92 = .ok (.aload_n 0, 1) := by decide +kernel
theorem dX11_count_93 : decode cX11_count 93 = .ok (.getfield 34, 3) := by decide +kernel
theorem dX11_count_96 : decode cX11_count 96 = .ok (.iconst 1, 1) := by decide +kernel
theorem dX11_count_97 : decode cX11_count 97 = .ok (.iaload, 1) := by decide +kernel
theorem dX11_count_98 : decode cX11_count 98 = .ok (.if_icmp .ge 18, 3) := by decide +kernel
theorem dX11_count_116 : decode cX11_count 116 = .ok (.iload_n 2, 1) := by decide +kernel
theorem dX11_count_117 : decode cX11_count 117 = .ok (.ireturn, 1) := by decide +kernel
theorem dX11_count_118 : decode cX11_count 118 = .ok (.aload_n 0, 1) := by decide +kernel
theorem dX11_count_119 : decode cX11_count 119 = .ok (.getfield 34, 3) := by decide +kernel
theorem dX11_count_122 : decode cX11_count 122 = .ok (.iconst 2, 1) := by decide +kernel
theorem dX11_count_123 : decode cX11_count 123 = .ok (.iaload, 1) := by decide +kernel
theorem dX11_count_124 : decode cX11_count 124 = .ok (.ireturn, 1) := by decide +kernel
theorem dX11_count_125 : decode cX11_count 125 = .ok (.aload_n 0, 1) := by decide +kernel
theorem dX11_count_126 : decode cX11_count 126 = .ok (.getfield 31, 3) := by decide +kernel
theorem dX11_count_129 : decode cX11_count 129 = .ok (.iconst 0, 1) := by decide +kernel
theorem dX11_count_130 : decode cX11_count 130 = .ok (.iaload, 1) := by decide +kernel
theorem dX11_count_131 : decode cX11_count 131 = .ok (.ireturn, 1) := by decide +kernel
theorem dX11_count_132 : decode cX11_count 132 = .ok (.aload_n 0, 1) := by decide +kernel
theorem dX11_count_133 : decode cX11_count 133 = .ok (.getfield 76, 3) := by decide +kernel
theorem dX11_count_136 : decode cX11_count 136 = .ok (.ireturn, 1) := by decide +kernel
theorem dX11_count_137 : decode cX11_count 137 = .ok (.iconst 0, 1) := by decide +kernel
theorem dX11_count_138 : decode cX11_count 138 = .ok (.istore_n 3, 1) := by decide +kernel
theorem dX11_count_139 : decode cX11_count 139 = .ok (.iload_n 3, 1) := by decide +kernel
theorem dX11_count_140 : decode cX11_count 140 = .ok (.iconst 4, 1) := by decide +kernel
theorem dX11_count_141 : decode cX11_count 141 = .ok (.if_icmp .ge 27, 3) := by decide +kernel
theorem dX11_count_144 : decode cX11_count 144 = .ok (.iload_n 2, 1) := by decide +kernel
theorem dX11_count_145 : decode cX11_count 145 = .ok (.aload_n 0, 1) := by decide +kernel
theorem dX11_count_146 : decode cX11_count 146 = .ok (.getfield 7, 3) := by decide +kernel
theorem dX11_count_149 : decode cX11_count 149 = .ok (.iload_n 3, 1) := by decide +kernel
theorem dX11_count_150 : decode cX11_count 150 = .ok (.iaload, 1) := by decide +kernel
theorem dX11_count_151 : decode cX11_count 151 = .ok (.iconst (-1), 1) := by decide +kernel
theorem dX11_count_152 : decode cX11_count 152 = .ok (.if_icmp .ne 7, 3) := by decide +kernel
theorem dX11_count_155 : decode cX11_count 155 = .ok (.iconst 0, 1) := by decide +kernel
theorem dX11_count_156 : decode cX11_count 156 = .ok (.goto 4, 3) := by decide +kernel
theorem dX11_count_160 : decode cX11_count 160 = .ok (.iadd, 1) := by decide +kernel
theorem dX11_count_161 : decode cX11_count 161 = .ok (.istore_n 2, 1) := by decide +kernel
theorem dX11_count_162 : decode cX11_count 162 = .ok (.iinc 3 1, 3) := by decide +kernel
theorem dX11_count_165 : decode cX11_count 165 = .ok (.goto (-26), 3) := by decide +kernel
theorem dX11_count_168 : decode cX11_count 168 = .ok (.iload_n 2, 1) := by decide +kernel
theorem dX11_count_169 : decode cX11_count 169 = .ok (.ireturn, 1) := by decide +kernel
theorem dX11_count_170 : decode cX11_count 170 = .ok (.iconst (-1), 1) := by decide +kernel
theorem dX11_count_171 : decode cX11_count 171 = .ok (.ireturn, 1) := by decide +kernel
set_option maxHeartbeats 4000000 in
set_option maxRecDepth 100000 in
theorem c_X11_start (l : Launch) (G : va_G) (ct : Nat → ClassId) (b : Nat → Nat)  : Met l yX11_start wsX11_start ({ frames := 1, cells := 0, slots := 0, locals := 22 }) (va_Pc [.ref (b 0)] (wrP G ct (mF b ct))) (va_Qv (fun u : Unit => True) (fun u t => va_P G vwCl ((fun _ : Unit => mF b ct) u) t.heap) (aset (mF b ct))) 0 0 (aset (mF b ct)) := by
  refine Met.ofW (cc := cX11_start) (maxL := 2) (ret := none) (by decide) rfl ?_
  intro p e s m args below meth c s₁ B hml hv
  obtain ⟨rfl, hP, hK, hD0⟩ := hv
  have hx := B.exec
  have hb := B.bytes
  have hr := B.returns
  have hts := atoms_spec (ws := wsX11_start) B.pre
  have hown : s.vm.findClass RX11 = some m.cls := findClass_of_methodNamed B.named
  have hlocks := B.notSynchronized
  have hD := hD0.aself
  generalize hAe : aset (mF b ct) = A at hD ⊢
  have hS : va_S A s.heap s.heap [] := va_S.rf
  have hl := lv_entry ([.ref (b 0)]) (n := 2) (Nat.le_of_ble_eq_true rfl)
  rw [lg_entry_eq]
  generalize (lg_sl ([.ref (b 0)]) ++ List.replicate (2 - (lg_sl ([.ref (b 0)])).length) Slot.unset).toArray = ls at hl ⊢
  have hl : lv_has ls 2 [(0, .ref (b 0))] := hl
  refine lv_iconst (v := 0) hx hb dX11_start_0 (by decide) ?_
  refine lv_istore_n (lv' := [(1, .int 0), (0, .ref (b 0))]) hx hb dX11_start_1 rfl hl (by decide) rfl (fun ls hl => ?_)
  refine lv_iload_n hx hb dX11_start_2 rfl (lv_at hl 0 rfl) ?_
  refine lv_aload_n hx hb dX11_start_3 rfl (lv_at hl 1 rfl) ?_
  refine va_get (D := G) (ci := 11) (v := .ref (b 7)) (C := RX11) (T := TX11) (N := 31) hx hb hts (by decide +kernel) hown hK.1 hP 0 rfl rfl 17 (by decide) (hts (.fieldLink RX11 34 "CardHolderModel" "has" "[I") (by decide +kernel)) (fun _ h9 => h9) rfl dX11_start_4 ?_
  refine lv_iconst (v := 1) hx hb dX11_start_7 (by decide) ?_
  refine va_iald hx hb hK.1 hP 7 0 rfl rfl (in_lit (by decide)) dX11_start_8 ?_
  refine ix_i (y := 0) rfl ?_
  refine lv_icmp_ge (tgt := 44) hx hb dX11_start_9 (by decide) (fun c_1 => ?_) (fun c_1 => ?_)
  · refine lv_aload_n hx hb dX11_start_44 rfl (lv_at hl 1 rfl) ?_
    refine lv_iconst (v := 0) hx hb dX11_start_45 (by decide) ?_
    refine va_put (D := G) (ci := 11) (v := .int 0) (ty := .int) (C := RX11) (T := TX11) (N := 31) hx hb hts (by decide +kernel) tyX11 tyX11_ok nmX11 hown hK.1 hP hD hS 0 rfl rfl 24 (by decide) (hts (.fieldLink RX11 217 "CardHolderModel" "asked" "I") (by decide +kernel)) (fun _ h9 => h9) rfl (by decide +kernel) rfl rfl (Nat.le_of_ble_eq_true rfl) dX11_start_46 (fun H locs hP hD hS => ?_)
    have hP : va_P G vwCl (mF b ct) H := hP
    have hD : va_D A (mF b ct) := hD
    refine lv_aload_n hx hb dX11_start_49 rfl (lv_at hl 1 rfl) ?_
    refine lv_iconst (v := 0) hx hb dX11_start_50 (by decide) ?_
    refine va_put (D := G) (ci := 11) (v := .int 0) (ty := .int) (C := RX11) (T := TX11) (N := 31) hx hb hts (by decide +kernel) tyX11 tyX11_ok nmX11 hown hK.1 hP hD hS 0 rfl rfl 25 (by decide) (hts (.fieldLink RX11 220 "CardHolderModel" "stolen" "I") (by decide +kernel)) (fun _ h9 => h9) rfl (by decide +kernel) rfl rfl (Nat.le_of_ble_eq_true rfl) dX11_start_51 (fun H locs hP hD hS => ?_)
    have hP : va_P G vwCl (mF b ct) H := hP
    have hD : va_D A (mF b ct) := hD
    refine lv_aload_n hx hb dX11_start_54 rfl (lv_at hl 1 rfl) ?_
    refine lv_iconst (v := 0) hx hb dX11_start_55 (by decide) ?_
    refine va_put (D := G) (ci := 11) (v := .int 0) (ty := .int) (C := RX11) (T := TX11) (N := 31) hx hb hts (by decide +kernel) tyX11 tyX11_ok nmX11 hown hK.1 hP hD hS 0 rfl rfl 26 (by decide) (hts (.fieldLink RX11 223 "CardHolderModel" "dayNow" "I") (by decide +kernel)) (fun _ h9 => h9) rfl (by decide +kernel) rfl rfl (Nat.le_of_ble_eq_true rfl) dX11_start_56 (fun H locs hP hD hS => ?_)
    have hP : va_P G vwCl (mF b ct) H := hP
    have hD : va_D A (mF b ct) := hD
    refine lv_aload_n hx hb dX11_start_59 rfl (lv_at hl 1 rfl) ?_
    refine lv_iconst (v := 0) hx hb dX11_start_60 (by decide) ?_
    refine va_put (D := G) (ci := 11) (v := .int 0) (ty := .int) (C := RX11) (T := TX11) (N := 31) hx hb hts (by decide +kernel) tyX11 tyX11_ok nmX11 hown hK.1 hP hD hS 0 rfl rfl 27 (by decide) (hts (.fieldLink RX11 226 "CardHolderModel" "done" "I") (by decide +kernel)) (fun _ h9 => h9) rfl (by decide +kernel) rfl rfl (Nat.le_of_ble_eq_true rfl) dX11_start_61 (fun H locs hP hD hS => ?_)
    have hP : va_P G vwCl (mF b ct) H := hP
    have hD : va_D A (mF b ct) := hD
    exact W.vret hx hb hr (fun t ht hW => ⟨⟨(), rfl, trivial, hp_at ht hP⟩, hS.F ht⟩) hS.2.2 dX11_start_64
  · exact absurd c_1 (by decide)

set_option maxHeartbeats 4000000 in
set_option maxRecDepth 100000 in
theorem c_X11_laysNow (l : Launch) (G : va_G) (ct : Nat → ClassId) (b : Nat → Nat)  : Met l yX11_laysNow wsX11_laysNow ({ frames := 4, cells := 0, slots := 0, locals := 90 }) (va_Pc [.ref (b 0)] (wrP G ct (mF b ct))) (va_Qv (fun u : Unit => True) (fun u t => va_P G vwCl ((fun _ : Unit => mF b ct) u) t.heap) (aset (mF b ct))) 0 0 (aset (mF b ct)) := by
  refine Met.ofW (cc := cX11_laysNow) (maxL := 2) (ret := none) (by decide) rfl ?_
  intro p e s m args below meth c s₁ B hml hv
  obtain ⟨rfl, hP, hK, hD0⟩ := hv
  have hx := B.exec
  have hb := B.bytes
  have hr := B.returns
  have hts := atoms_spec (ws := wsX11_laysNow) B.pre
  have hown : s.vm.findClass RX11 = some m.cls := findClass_of_methodNamed B.named
  have hlocks := B.notSynchronized
  have hD := hD0.aself
  generalize hAe : aset (mF b ct) = A at hD ⊢
  have hS : va_S A s.heap s.heap [] := va_S.rf
  have hl := lv_entry ([.ref (b 0)]) (n := 2) (Nat.le_of_ble_eq_true rfl)
  rw [lg_entry_eq]
  generalize (lg_sl ([.ref (b 0)]) ++ List.replicate (2 - (lg_sl ([.ref (b 0)])).length) Slot.unset).toArray = ls at hl ⊢
  have hl : lv_has ls 2 [(0, .ref (b 0))] := hl
  refine lv_aload_n hx hb dX11_laysNow_0 rfl (lv_at hl 0 rfl) ?_
  refine ws_callv (va_runV (As := []) (rest := []) ⟨hx, hb, hml, hown, hts⟩ (c_X11_start l G ct b) (cwV 0 hts gX11_laysNow_X11_start rfl rfl rfl (by decide +kernel) ⟨Nat.le_of_ble_eq_true rfl, Nat.le_of_ble_eq_true rfl⟩) (wr_preV 11 0 hK hP hD rfl rfl) rfl rfl hl.1 rfl (lv_room (Nat.le_of_ble_eq_true rfl)) dX11_laysNow_1 ⟨Nat.zero_le _, Nat.zero_le _⟩) hS hD (fun H locs hP hS => ?_)
  refine lv_iconst (v := 0) hx hb dX11_laysNow_4 (by decide) ?_
  refine lv_istore_n (lv' := [(1, .int 0), (0, .ref (b 0))]) hx hb dX11_laysNow_5 rfl hl (by decide) rfl (fun ls hl => ?_)
  refine lv_iload_n hx hb dX11_laysNow_6 rfl (lv_at hl 0 rfl) ?_
  refine lv_aload_n hx hb dX11_laysNow_7 rfl (lv_at hl 1 rfl) ?_
  refine va_get (D := G) (ci := 11) (v := .ref (b 7)) (C := RX11) (T := TX11) (N := 31) hx hb hts (by decide +kernel) hown hK.1 hP 0 rfl rfl 17 (by decide) (hts (.fieldLink RX11 34 "CardHolderModel" "has" "[I") (by decide +kernel)) (fun _ h9 => h9) rfl dX11_laysNow_8 ?_
  refine lv_iconst (v := 2) hx hb dX11_laysNow_11 (by decide) ?_
  refine va_iald hx hb hK.1 hP 7 0 rfl rfl (in_lit (by decide)) dX11_laysNow_12 ?_
  refine ix_i (y := 0) rfl ?_
  refine lv_icmp_ge (tgt := 74) hx hb dX11_laysNow_13 (by decide) (fun c_1 => ?_) (fun c_1 => ?_)
  · exact W.vret hx hb hr (fun t ht hW => ⟨⟨(), rfl, trivial, hp_at ht hP⟩, hS.F ht⟩) hS.2.2 dX11_laysNow_74
  · exact absurd c_1 (by decide)

set_option maxHeartbeats 4000000 in
set_option maxRecDepth 100000 in
theorem c_X11_freeNow (l : Launch) (G : va_G) (ct : Nat → ClassId) (b : Nat → Nat)  : Met l yX11_freeNow wsX11_freeNow ({ frames := 0, cells := 0, slots := 0, locals := 0 }) (va_Pc [.ref (b 0)] (roP G ct (mF b ct))) (roQ (fun r => r = 0)) 0 0 no := by
  refine Met.ofW (cc := cX11_freeNow) (maxL := 3) (ret := (some .int)) (by decide) rfl ?_
  intro p e s m args below meth c s₁ B hml hv
  obtain ⟨rfl, hP, hK⟩ := hv
  have hx := B.exec
  have hb := B.bytes
  have hr := B.returns
  have hts := atoms_spec (ws := wsX11_freeNow) B.pre
  have hown : s.vm.findClass RX11 = some m.cls := findClass_of_methodNamed B.named
  have hlocks := B.notSynchronized
  have hS : va_S no s.heap s.heap [] := va_S.rf
  have hl := lv_entry ([.ref (b 0)]) (n := 3) (Nat.le_of_ble_eq_true rfl)
  rw [lg_entry_eq]
  generalize (lg_sl ([.ref (b 0)]) ++ List.replicate (3 - (lg_sl ([.ref (b 0)])).length) Slot.unset).toArray = ls at hl ⊢
  have hl : lv_has ls 3 [(0, .ref (b 0))] := hl
  refine lv_iconst (v := 0) hx hb dX11_freeNow_0 (by decide) ?_
  refine lv_istore_n (lv' := [(1, .int 0), (0, .ref (b 0))]) hx hb dX11_freeNow_1 rfl hl (by decide) rfl (fun ls hl => ?_)
  refine lv_iconst (v := 0) hx hb dX11_freeNow_2 (by decide) ?_
  refine lv_istore_n (lv' := [(2, .int 0), (1, .int 0), (0, .ref (b 0))]) hx hb dX11_freeNow_3 rfl hl (by decide) rfl (fun ls hl => ?_)
  refine lv_iload_n hx hb dX11_freeNow_4 rfl (lv_at hl 0 rfl) ?_
  refine lv_aload_n hx hb dX11_freeNow_5 rfl (lv_at hl 2 rfl) ?_
  refine va_get (D := G) (ci := 11) (v := .ref (b 7)) (C := RX11) (T := TX11) (N := 31) hx hb hts (by decide +kernel) hown hK.1 hP 0 rfl rfl 17 (by decide) (hts (.fieldLink RX11 34 "CardHolderModel" "has" "[I") (by decide +kernel)) (fun _ h9 => h9) rfl dX11_freeNow_6 ?_
  refine lv_iconst (v := 1) hx hb dX11_freeNow_9 (by decide) ?_
  refine va_iald hx hb hK.1 hP 7 0 rfl rfl (in_lit (by decide)) dX11_freeNow_10 ?_
  refine ix_i (y := 0) rfl ?_
  refine lv_icmp_ge (tgt := 40) hx hb dX11_freeNow_11 (by decide) (fun c_1 => ?_) (fun c_1 => ?_)
  · refine lv_iload_n hx hb dX11_freeNow_40 rfl (lv_at hl 1 rfl) ?_
    exact W.iret (v := 0) hx hb hr (fun t ht hW => ⟨⟨0, (), rfl, rfl, trivial⟩, hS.F ht⟩) hS.2.2 dX11_freeNow_41
  · exact absurd c_1 (by decide)

set_option maxHeartbeats 4000000 in
set_option maxRecDepth 100000 in
theorem c0_X11_sizeOf (l : Launch) (G : va_G) (ct : Nat → ClassId)  : Met l yX11_sizeOf wsX11_sizeOf ({ frames := 0, cells := 0, slots := 0, locals := 0 }) (va_Pc [.int 0] (roP G ct [])) (roQ (fun r => r = 0)) 0 0 no := by
  refine Met.ofW (cc := cX11_sizeOf) (maxL := 3) (ret := (some .int)) (by decide) rfl ?_
  intro p e s m args below meth c s₁ B hml hv
  obtain ⟨rfl, hP, hK⟩ := hv
  have hx := B.exec
  have hb := B.bytes
  have hr := B.returns
  have hts := atoms_spec (ws := wsX11_sizeOf) B.pre
  have hown : s.vm.findClass RX11 = some m.cls := findClass_of_methodNamed B.named
  have hlocks := B.notSynchronized
  have hS : va_S no s.heap s.heap [] := va_S.rf
  have hl := lv_entry ([.int 0]) (n := 3) (Nat.le_of_ble_eq_true rfl)
  rw [lg_entry_eq]
  generalize (lg_sl ([.int 0]) ++ List.replicate (3 - (lg_sl ([.int 0])).length) Slot.unset).toArray = ls at hl ⊢
  have hl : lv_has ls 3 [(0, .int 0)] := hl
  refine lv_iconst (v := 0) hx hb dX11_sizeOf_0 (by decide) ?_
  refine lv_istore_n (lv' := [(1, .int 0), (0, .int 0)]) hx hb dX11_sizeOf_1 rfl hl (by decide) rfl (fun ls hl => ?_)
  refine lv_iload_n hx hb dX11_sizeOf_2 rfl (lv_at hl 1 rfl) ?_
  refine lv_istore_n (lv' := [(2, .int 0), (1, .int 0), (0, .int 0)]) hx hb dX11_sizeOf_3 rfl hl (by decide) rfl (fun ls hl => ?_)
  refine lv_iload_n hx hb dX11_sizeOf_4 rfl (lv_at hl 0 rfl) ?_
  refine lv_if_eq (tgt := 20) hx hb dX11_sizeOf_5 (by decide) (fun c_1 => ?_) (fun c_1 => ?_)
  · refine lv_iload_n hx hb dX11_sizeOf_20 rfl (lv_at hl 1 rfl) ?_
    exact W.iret (v := 0) hx hb hr (fun t ht hW => ⟨⟨0, (), rfl, rfl, trivial⟩, hS.F ht⟩) hS.2.2 dX11_sizeOf_21
  · exact absurd c_1 (by decide)

set_option maxHeartbeats 4000000 in
set_option maxRecDepth 100000 in
theorem c_X11_count (l : Launch) (G : va_G) (ct : Nat → ClassId) (b : Nat → Nat) (p0 : Int32)  : Met l yX11_count wsX11_count ({ frames := 5, cells := 0, slots := 0, locals := 111 }) (va_Pc [.ref (b 0), .int p0] (wrP G ct (mF b ct))) (va_Qi (fun (r : Int32) (u : Unit) => r = fCount p0) (fun _ _ => True) (aset (mF b ct))) 0 0 (aset (mF b ct)) := by
  refine Met.ofW (cc := cX11_count) (maxL := 4) (ret := (some .int)) (by decide) rfl ?_
  intro p e s m args below meth c s₁ B hml hv
  obtain ⟨rfl, hP, hK, hD0⟩ := hv
  have hx := B.exec
  have hb := B.bytes
  have hr := B.returns
  have hts := atoms_spec (ws := wsX11_count) B.pre
  have hown : s.vm.findClass RX11 = some m.cls := findClass_of_methodNamed B.named
  have hlocks := B.notSynchronized
  have hD := hD0.aself
  generalize hAe : aset (mF b ct) = A at hD ⊢
  have hS : va_S A s.heap s.heap [] := va_S.rf
  have hl := lv_entry ([.ref (b 0), .int p0]) (n := 4) (Nat.le_of_ble_eq_true rfl)
  rw [lg_entry_eq]
  generalize (lg_sl ([.ref (b 0), .int p0]) ++ List.replicate (4 - (lg_sl ([.ref (b 0), .int p0])).length) Slot.unset).toArray = ls at hl ⊢
  have hl : lv_has ls 4 [(0, .ref (b 0)), (1, .int p0)] := hl
  refine lv_aload_n hx hb dX11_count_0 rfl (lv_at hl 0 rfl) ?_
  refine lv_iconst (v := 0) hx hb dX11_count_1 (by decide) ?_
  refine va_put (D := G) (ci := 11) (v := .int 0) (ty := .int) (C := RX11) (T := TX11) (N := 31) hx hb hts (by decide +kernel) tyX11 tyX11_ok nmX11 hown hK.1 hP hD hS 0 rfl rfl 0 (by decide) (hts (.fieldLink RX11 59 "CardHolderModel" "thrown" "I") (by decide +kernel)) (fun _ h9 => h9) rfl (by decide +kernel) rfl rfl (Nat.le_of_ble_eq_true rfl) dX11_count_2 (fun H locs hP hD hS => ?_)
  have hP : va_P G vwCl (mF b ct) H := hP
  have hD : va_D A (mF b ct) := hD
  refine lv_iconst (v := 0) hx hb dX11_count_5 (by decide) ?_
  refine lv_istore_n (lv' := [(2, .int 0), (0, .ref (b 0)), (1, .int p0)]) hx hb dX11_count_6 rfl hl (by decide) rfl (fun ls hl => ?_)
  refine lv_iload_n hx hb dX11_count_7 rfl (lv_at hl 2 rfl) ?_
  by_cases h_1 : p0 = 0 ∨ p0 = 1 ∨ p0 = 2 ∨ p0 = 3 ∨ p0 = 4 ∨ p0 = 5 ∨ p0 = 6 ∨ p0 = 7
  · rcases h_1 with h_1 | h_1 | h_1 | h_1 | h_1 | h_1 | h_1 | h_1
    · refine lv_tableIn (tgt := 56) hx hb dX11_count_8 (by rw [h_1]; decide) (by rw [h_1]; decide) (by rw [h_1]; rfl) (by decide) ?_
      refine lv_aload_n hx hb dX11_count_56 rfl (lv_at hl 1 rfl) ?_
      refine va_get (D := G) (ci := 11) (v := .ref (b 7)) (C := RX11) (T := TX11) (N := 31) hx hb hts (by decide +kernel) hown hK.1 hP 0 rfl rfl 17 (by decide) (hts (.fieldLink RX11 34 "CardHolderModel" "has" "[I") (by decide +kernel)) (fun _ h9 => h9) rfl dX11_count_57 ?_
      refine lv_iconst (v := 1) hx hb dX11_count_60 (by decide) ?_
      refine va_iald hx hb hK.1 hP 7 0 rfl rfl (in_lit (by decide)) dX11_count_61 ?_
      refine ix_i (y := 0) rfl ?_
      exact W.iret (v := 0) hx hb hr (fun t ht hW => ⟨⟨0, (), rfl, by have f0 := i_eq h_1; have : (0 : Int32).toInt = 0 := (by decide); show (0 : Int32) = fCount p0; unfold fCount; (repeat' split) <;> first | rfl | (exfalso; omega), trivial⟩, hS.F ht⟩) hS.2.2 dX11_count_62
    · refine lv_tableIn (tgt := 63) hx hb dX11_count_8 (by rw [h_1]; decide) (by rw [h_1]; decide) (by rw [h_1]; rfl) (by decide) ?_
      refine lv_aload_n hx hb dX11_count_63 rfl (lv_at hl 1 rfl) ?_
      refine va_get (D := G) (ci := 11) (v := .ref (b 7)) (C := RX11) (T := TX11) (N := 31) hx hb hts (by decide +kernel) hown hK.1 hP 0 rfl rfl 17 (by decide) (hts (.fieldLink RX11 34 "CardHolderModel" "has" "[I") (by decide +kernel)) (fun _ h9 => h9) rfl dX11_count_64 ?_
      refine lv_iconst (v := 0) hx hb dX11_count_67 (by decide) ?_
      refine va_iald hx hb hK.1 hP 7 0 rfl rfl (in_lit (by decide)) dX11_count_68 ?_
      refine ix_i (y := 0) rfl ?_
      exact W.iret (v := 0) hx hb hr (fun t ht hW => ⟨⟨0, (), rfl, by have f0 := i_eq h_1; have : (0 : Int32).toInt = 0 := (by decide); have : (1 : Int32).toInt = 1 := (by decide); show (0 : Int32) = fCount p0; unfold fCount; (repeat' split) <;> first | rfl | (exfalso; omega), trivial⟩, hS.F ht⟩) hS.2.2 dX11_count_69
    · refine lv_tableIn (tgt := 70) hx hb dX11_count_8 (by rw [h_1]; decide) (by rw [h_1]; decide) (by rw [h_1]; rfl) (by decide) ?_
      refine lv_aload_n hx hb dX11_count_70 rfl (lv_at hl 1 rfl) ?_
      refine ws_callv (va_runV (As := []) (rest := []) ⟨hx, hb, hml, hown, hts⟩ (c_X11_laysNow l G ct b) (cwV 0 hts gX11_count_X11_laysNow rfl rfl rfl (by decide +kernel) ⟨Nat.le_of_ble_eq_true rfl, Nat.le_of_ble_eq_true rfl⟩) (wr_preV 11 0 hK hP hD rfl rfl) rfl rfl hl.1 rfl (lv_room (Nat.le_of_ble_eq_true rfl)) dX11_count_71 ⟨Nat.zero_le _, Nat.zero_le _⟩) hS hD (fun H locs hP hS => ?_)
      refine lv_aload_n hx hb dX11_count_74 rfl (lv_at hl 1 rfl) ?_
      refine va_get (D := G) (ci := 11) (v := .ref (b 7)) (C := RX11) (T := TX11) (N := 31) hx hb hts (by decide +kernel) hown hK.1 hP 0 rfl rfl 17 (by decide) (hts (.fieldLink RX11 34 "CardHolderModel" "has" "[I") (by decide +kernel)) (fun _ h9 => h9) rfl dX11_count_75 ?_
      refine lv_iconst (v := 1) hx hb dX11_count_78 (by decide) ?_
      refine va_iald hx hb hK.1 hP 7 0 rfl rfl (in_lit (by decide)) dX11_count_79 ?_
      refine ix_i (y := 0) rfl ?_
      refine lv_aload_n hx hb dX11_count_80 rfl (lv_at hl 1 rfl) ?_
      refine ro_calli (va_runV (As := []) (rest := [.int 0]) ⟨hx, hb, hml, hown, hts⟩ (c_X11_freeNow l G ct b) (cwV 0 hts gX11_count_X11_freeNow rfl rfl rfl (by decide +kernel) ⟨Nat.le_of_ble_eq_true rfl, Nat.le_of_ble_eq_true rfl⟩) (ro_preV 11 0 hK hP rfl rfl) rfl rfl hl.1 rfl (lv_room (Nat.le_of_ble_eq_true rfl)) dX11_count_81 ⟨Nat.zero_le _, Nat.zero_le _⟩) hS hP (fun r_2 H locs wr_2 hP hS => ?_)
      obtain rfl := wr_2
      refine ro_calli (va_runS (As := [.int 0]) (rest := [.int 0]) ⟨hx, hb, hml, hown, hts⟩ (c0_X11_sizeOf l G ct ) (va_cwS 1 hts gX11_count_X11_sizeOf rfl rfl rfl (by decide +kernel) ⟨Nat.le_of_ble_eq_true rfl, Nat.le_of_ble_eq_true rfl⟩) (ro_pre hK (hP.sub [] rfl)) rfl rfl hl.1 rfl (lv_room (Nat.le_of_ble_eq_true rfl)) dX11_count_84 ⟨Nat.zero_le _, Nat.zero_le _⟩) hS hP (fun r_3 H locs wr_3 hP hS => ?_)
      obtain rfl := wr_3
      refine lv_isub hx hb dX11_count_87 ?_
      refine ix_i (y := 0) (by decide) ?_
      exact W.iret (v := 0) hx hb hr (fun t ht hW => ⟨⟨0, (), rfl, by have f0 := i_eq h_1; have : (0 : Int32).toInt = 0 := (by decide); have : (2 : Int32).toInt = 2 := (by decide); show (0 : Int32) = fCount p0; unfold fCount; (repeat' split) <;> first | rfl | (exfalso; omega), trivial⟩, hS.F ht⟩) hS.2.2 dX11_count_88
    · refine lv_tableIn (tgt := 89) hx hb dX11_count_8 (by rw [h_1]; decide) (by rw [h_1]; decide) (by rw [h_1]; rfl) (by decide) ?_
      refine lv_iconst (v := 0) hx hb dX11_count_89 (by decide) ?_
      refine lv_istore_n (lv' := [(3, .int 0), (2, .int 0), (0, .ref (b 0)), (1, .int p0)]) hx hb dX11_count_90 rfl hl (by decide) rfl (fun ls hl => ?_)
      refine lv_iload_n hx hb dX11_count_91 rfl (lv_at hl 0 rfl) ?_
      refine lv_aload_n hx hb dX11_count_92 rfl (lv_at hl 2 rfl) ?_
      refine va_get (D := G) (ci := 11) (v := .ref (b 7)) (C := RX11) (T := TX11) (N := 31) hx hb hts (by decide +kernel) hown hK.1 hP 0 rfl rfl 17 (by decide) (hts (.fieldLink RX11 34 "CardHolderModel" "has" "[I") (by decide +kernel)) (fun _ h9 => h9) rfl dX11_count_93 ?_
      refine lv_iconst (v := 1) hx hb dX11_count_96 (by decide) ?_
      refine va_iald hx hb hK.1 hP 7 0 rfl rfl (in_lit (by decide)) dX11_count_97 ?_
      refine ix_i (y := 0) rfl ?_
      refine lv_icmp_ge (tgt := 116) hx hb dX11_count_98 (by decide) (fun c_4 => ?_) (fun c_4 => ?_)
      · refine lv_iload_n hx hb dX11_count_116 rfl (lv_at hl 1 rfl) ?_
        exact W.iret (v := 0) hx hb hr (fun t ht hW => ⟨⟨0, (), rfl, by have f0 := i_eq h_1; have f1 := i_le c_4; have : (0 : Int32).toInt = 0 := (by decide); have : (3 : Int32).toInt = 3 := (by decide); show (0 : Int32) = fCount p0; unfold fCount; (repeat' split) <;> first | rfl | (exfalso; omega), trivial⟩, hS.F ht⟩) hS.2.2 dX11_count_117
      · exact absurd c_4 (by decide)
    · refine lv_tableIn (tgt := 118) hx hb dX11_count_8 (by rw [h_1]; decide) (by rw [h_1]; decide) (by rw [h_1]; rfl) (by decide) ?_
      refine lv_aload_n hx hb dX11_count_118 rfl (lv_at hl 1 rfl) ?_
      refine va_get (D := G) (ci := 11) (v := .ref (b 7)) (C := RX11) (T := TX11) (N := 31) hx hb hts (by decide +kernel) hown hK.1 hP 0 rfl rfl 17 (by decide) (hts (.fieldLink RX11 34 "CardHolderModel" "has" "[I") (by decide +kernel)) (fun _ h9 => h9) rfl dX11_count_119 ?_
      refine lv_iconst (v := 2) hx hb dX11_count_122 (by decide) ?_
      refine va_iald hx hb hK.1 hP 7 0 rfl rfl (in_lit (by decide)) dX11_count_123 ?_
      refine ix_i (y := 0) rfl ?_
      exact W.iret (v := 0) hx hb hr (fun t ht hW => ⟨⟨0, (), rfl, by have f0 := i_eq h_1; have : (0 : Int32).toInt = 0 := (by decide); have : (4 : Int32).toInt = 4 := (by decide); show (0 : Int32) = fCount p0; unfold fCount; (repeat' split) <;> first | rfl | (exfalso; omega), trivial⟩, hS.F ht⟩) hS.2.2 dX11_count_124
    · refine lv_tableIn (tgt := 125) hx hb dX11_count_8 (by rw [h_1]; decide) (by rw [h_1]; decide) (by rw [h_1]; rfl) (by decide) ?_
      refine lv_aload_n hx hb dX11_count_125 rfl (lv_at hl 1 rfl) ?_
      refine va_get (D := G) (ci := 11) (v := .ref (b 6)) (C := RX11) (T := TX11) (N := 31) hx hb hts (by decide +kernel) hown hK.1 hP 0 rfl rfl 16 (by decide) (hts (.fieldLink RX11 31 "CardHolderModel" "lines" "[I") (by decide +kernel)) (fun _ h9 => h9) rfl dX11_count_126 ?_
      refine lv_iconst (v := 0) hx hb dX11_count_129 (by decide) ?_
      refine va_iald hx hb hK.1 hP 6 0 rfl rfl (in_lit (by decide)) dX11_count_130 ?_
      refine ix_i (y := 0) rfl ?_
      exact W.iret (v := 0) hx hb hr (fun t ht hW => ⟨⟨0, (), rfl, by have f0 := i_eq h_1; have : (0 : Int32).toInt = 0 := (by decide); have : (5 : Int32).toInt = 5 := (by decide); show (0 : Int32) = fCount p0; unfold fCount; (repeat' split) <;> first | rfl | (exfalso; omega), trivial⟩, hS.F ht⟩) hS.2.2 dX11_count_131
    · refine lv_tableIn (tgt := 132) hx hb dX11_count_8 (by rw [h_1]; decide) (by rw [h_1]; decide) (by rw [h_1]; rfl) (by decide) ?_
      refine lv_aload_n hx hb dX11_count_132 rfl (lv_at hl 1 rfl) ?_
      refine va_get (D := G) (ci := 11) (v := .int 0) (C := RX11) (T := TX11) (N := 31) hx hb hts (by decide +kernel) hown hK.1 hP 0 rfl rfl 6 (by decide) (hts (.fieldLink RX11 76 "CardHolderModel" "taped" "I") (by decide +kernel)) (fun _ h9 => h9) rfl dX11_count_133 ?_
      exact W.iret (v := 0) hx hb hr (fun t ht hW => ⟨⟨0, (), rfl, by have f0 := i_eq h_1; have : (0 : Int32).toInt = 0 := (by decide); have : (6 : Int32).toInt = 6 := (by decide); show (0 : Int32) = fCount p0; unfold fCount; (repeat' split) <;> first | rfl | (exfalso; omega), trivial⟩, hS.F ht⟩) hS.2.2 dX11_count_136
    · refine lv_tableIn (tgt := 137) hx hb dX11_count_8 (by rw [h_1]; decide) (by rw [h_1]; decide) (by rw [h_1]; rfl) (by decide) ?_
      refine lv_iconst (v := 0) hx hb dX11_count_137 (by decide) ?_
      refine lv_istore_n (lv' := [(3, .int 0), (2, .int 0), (0, .ref (b 0)), (1, .int p0)]) hx hb dX11_count_138 rfl hl (by decide) rfl (fun ls hl => ?_)
      refine lv_iload_n hx hb dX11_count_139 rfl (lv_at hl 0 rfl) ?_
      refine lv_iconst (v := 4) hx hb dX11_count_140 (by decide) ?_
      refine lv_icmp_ge (tgt := 168) hx hb dX11_count_141 (by decide) (fun c_5 => ?_) (fun c_5 => ?_)
      · exact absurd c_5 (by decide)
      · refine lv_iload_n hx hb dX11_count_144 rfl (lv_at hl 1 rfl) ?_
        refine lv_aload_n hx hb dX11_count_145 rfl (lv_at hl 2 rfl) ?_
        refine va_get (D := G) (ci := 11) (v := .ref (b 1)) (C := RX11) (T := TX11) (N := 31) hx hb hts (by decide +kernel) hown hK.1 hP 0 rfl rfl 1 (by decide) (hts (.fieldLink RX11 7 "CardHolderModel" "width" "[I") (by decide +kernel)) (fun _ h9 => h9) rfl dX11_count_146 ?_
        refine lv_iload_n hx hb dX11_count_149 rfl (lv_at hl 0 rfl) ?_
        refine va_iald hx hb hK.1 hP 1 0 rfl rfl (in_lit (by decide)) dX11_count_150 ?_
        refine ix_i (y := (-1)) rfl ?_
        refine lv_iconst (v := (-1)) hx hb dX11_count_151 (by decide) ?_
        refine lv_icmp_ne (tgt := 159) hx hb dX11_count_152 (by decide) (fun c_6 => ?_) (fun c_6 => ?_)
        · exact absurd c_6 (by decide)
        · refine lv_iconst (v := 0) hx hb dX11_count_155 (by decide) ?_
          refine lv_goto (tgt := 160) hx hb dX11_count_156 (by decide) ?_
          refine lv_iadd hx hb dX11_count_160 ?_
          refine ix_i (y := 0) (by decide) ?_
          refine lv_istore_n (lv' := [(2, .int 0), (3, .int 0), (0, .ref (b 0)), (1, .int p0)]) hx hb dX11_count_161 rfl hl (by decide) rfl (fun ls hl => ?_)
          refine lv_iinc (v := 1) (lv' := [(3, .int 1), (2, .int 0), (0, .ref (b 0)), (1, .int p0)]) hx hb dX11_count_162 hl (k := 1) rfl (by decide) (by decide) rfl (fun ls hl => ?_)
          refine lv_goto (tgt := 139) hx hb dX11_count_165 (by decide) ?_
          refine lv_iload_n hx hb dX11_count_139 rfl (lv_at hl 0 rfl) ?_
          refine lv_iconst (v := 4) hx hb dX11_count_140 (by decide) ?_
          refine lv_icmp_ge (tgt := 168) hx hb dX11_count_141 (by decide) (fun c_7 => ?_) (fun c_7 => ?_)
          · exact absurd c_7 (by decide)
          · refine lv_iload_n hx hb dX11_count_144 rfl (lv_at hl 1 rfl) ?_
            refine lv_aload_n hx hb dX11_count_145 rfl (lv_at hl 2 rfl) ?_
            refine va_get (D := G) (ci := 11) (v := .ref (b 1)) (C := RX11) (T := TX11) (N := 31) hx hb hts (by decide +kernel) hown hK.1 hP 0 rfl rfl 1 (by decide) (hts (.fieldLink RX11 7 "CardHolderModel" "width" "[I") (by decide +kernel)) (fun _ h9 => h9) rfl dX11_count_146 ?_
            refine lv_iload_n hx hb dX11_count_149 rfl (lv_at hl 0 rfl) ?_
            refine va_iald hx hb hK.1 hP 1 0 rfl rfl (in_lit (by decide)) dX11_count_150 ?_
            refine ix_i (y := (-1)) rfl ?_
            refine lv_iconst (v := (-1)) hx hb dX11_count_151 (by decide) ?_
            refine lv_icmp_ne (tgt := 159) hx hb dX11_count_152 (by decide) (fun c_8 => ?_) (fun c_8 => ?_)
            · exact absurd c_8 (by decide)
            · refine lv_iconst (v := 0) hx hb dX11_count_155 (by decide) ?_
              refine lv_goto (tgt := 160) hx hb dX11_count_156 (by decide) ?_
              refine lv_iadd hx hb dX11_count_160 ?_
              refine ix_i (y := 0) (by decide) ?_
              refine lv_istore_n (lv' := [(2, .int 0), (3, .int 1), (0, .ref (b 0)), (1, .int p0)]) hx hb dX11_count_161 rfl hl (by decide) rfl (fun ls hl => ?_)
              refine lv_iinc (v := 2) (lv' := [(3, .int 2), (2, .int 0), (0, .ref (b 0)), (1, .int p0)]) hx hb dX11_count_162 hl (k := 1) rfl (by decide) (by decide) rfl (fun ls hl => ?_)
              refine lv_goto (tgt := 139) hx hb dX11_count_165 (by decide) ?_
              refine lv_iload_n hx hb dX11_count_139 rfl (lv_at hl 0 rfl) ?_
              refine lv_iconst (v := 4) hx hb dX11_count_140 (by decide) ?_
              refine lv_icmp_ge (tgt := 168) hx hb dX11_count_141 (by decide) (fun c_9 => ?_) (fun c_9 => ?_)
              · exact absurd c_9 (by decide)
              · refine lv_iload_n hx hb dX11_count_144 rfl (lv_at hl 1 rfl) ?_
                refine lv_aload_n hx hb dX11_count_145 rfl (lv_at hl 2 rfl) ?_
                refine va_get (D := G) (ci := 11) (v := .ref (b 1)) (C := RX11) (T := TX11) (N := 31) hx hb hts (by decide +kernel) hown hK.1 hP 0 rfl rfl 1 (by decide) (hts (.fieldLink RX11 7 "CardHolderModel" "width" "[I") (by decide +kernel)) (fun _ h9 => h9) rfl dX11_count_146 ?_
                refine lv_iload_n hx hb dX11_count_149 rfl (lv_at hl 0 rfl) ?_
                refine va_iald hx hb hK.1 hP 1 0 rfl rfl (in_lit (by decide)) dX11_count_150 ?_
                refine ix_i (y := (-1)) rfl ?_
                refine lv_iconst (v := (-1)) hx hb dX11_count_151 (by decide) ?_
                refine lv_icmp_ne (tgt := 159) hx hb dX11_count_152 (by decide) (fun c_10 => ?_) (fun c_10 => ?_)
                · exact absurd c_10 (by decide)
                · refine lv_iconst (v := 0) hx hb dX11_count_155 (by decide) ?_
                  refine lv_goto (tgt := 160) hx hb dX11_count_156 (by decide) ?_
                  refine lv_iadd hx hb dX11_count_160 ?_
                  refine ix_i (y := 0) (by decide) ?_
                  refine lv_istore_n (lv' := [(2, .int 0), (3, .int 2), (0, .ref (b 0)), (1, .int p0)]) hx hb dX11_count_161 rfl hl (by decide) rfl (fun ls hl => ?_)
                  refine lv_iinc (v := 3) (lv' := [(3, .int 3), (2, .int 0), (0, .ref (b 0)), (1, .int p0)]) hx hb dX11_count_162 hl (k := 1) rfl (by decide) (by decide) rfl (fun ls hl => ?_)
                  refine lv_goto (tgt := 139) hx hb dX11_count_165 (by decide) ?_
                  refine lv_iload_n hx hb dX11_count_139 rfl (lv_at hl 0 rfl) ?_
                  refine lv_iconst (v := 4) hx hb dX11_count_140 (by decide) ?_
                  refine lv_icmp_ge (tgt := 168) hx hb dX11_count_141 (by decide) (fun c_11 => ?_) (fun c_11 => ?_)
                  · exact absurd c_11 (by decide)
                  · refine lv_iload_n hx hb dX11_count_144 rfl (lv_at hl 1 rfl) ?_
                    refine lv_aload_n hx hb dX11_count_145 rfl (lv_at hl 2 rfl) ?_
                    refine va_get (D := G) (ci := 11) (v := .ref (b 1)) (C := RX11) (T := TX11) (N := 31) hx hb hts (by decide +kernel) hown hK.1 hP 0 rfl rfl 1 (by decide) (hts (.fieldLink RX11 7 "CardHolderModel" "width" "[I") (by decide +kernel)) (fun _ h9 => h9) rfl dX11_count_146 ?_
                    refine lv_iload_n hx hb dX11_count_149 rfl (lv_at hl 0 rfl) ?_
                    refine va_iald hx hb hK.1 hP 1 0 rfl rfl (in_lit (by decide)) dX11_count_150 ?_
                    refine ix_i (y := (-1)) rfl ?_
                    refine lv_iconst (v := (-1)) hx hb dX11_count_151 (by decide) ?_
                    refine lv_icmp_ne (tgt := 159) hx hb dX11_count_152 (by decide) (fun c_12 => ?_) (fun c_12 => ?_)
                    · exact absurd c_12 (by decide)
                    · refine lv_iconst (v := 0) hx hb dX11_count_155 (by decide) ?_
                      refine lv_goto (tgt := 160) hx hb dX11_count_156 (by decide) ?_
                      refine lv_iadd hx hb dX11_count_160 ?_
                      refine ix_i (y := 0) (by decide) ?_
                      refine lv_istore_n (lv' := [(2, .int 0), (3, .int 3), (0, .ref (b 0)), (1, .int p0)]) hx hb dX11_count_161 rfl hl (by decide) rfl (fun ls hl => ?_)
                      refine lv_iinc (v := 4) (lv' := [(3, .int 4), (2, .int 0), (0, .ref (b 0)), (1, .int p0)]) hx hb dX11_count_162 hl (k := 1) rfl (by decide) (by decide) rfl (fun ls hl => ?_)
                      refine lv_goto (tgt := 139) hx hb dX11_count_165 (by decide) ?_
                      refine lv_iload_n hx hb dX11_count_139 rfl (lv_at hl 0 rfl) ?_
                      refine lv_iconst (v := 4) hx hb dX11_count_140 (by decide) ?_
                      refine lv_icmp_ge (tgt := 168) hx hb dX11_count_141 (by decide) (fun c_13 => ?_) (fun c_13 => ?_)
                      · refine lv_iload_n hx hb dX11_count_168 rfl (lv_at hl 1 rfl) ?_
                        exact W.iret (v := 0) hx hb hr (fun t ht hW => ⟨⟨0, (), rfl, by have f0 := i_eq h_1; have f1 := i_nle c_5; have f2 := i_eq c_6; have f3 := i_nle c_7; have f4 := i_eq c_8; have f5 := i_nle c_9; have f6 := i_eq c_10; have f7 := i_nle c_11; have f8 := i_eq c_12; have f9 := i_le c_13; have : ((-1) : Int32).toInt = -1 := (by decide); have : (0 : Int32).toInt = 0 := (by decide); have : (1 : Int32).toInt = 1 := (by decide); have : (2 : Int32).toInt = 2 := (by decide); have : (3 : Int32).toInt = 3 := (by decide); have : (4 : Int32).toInt = 4 := (by decide); have : (7 : Int32).toInt = 7 := (by decide); show (0 : Int32) = fCount p0; unfold fCount; (repeat' split) <;> first | rfl | (exfalso; omega), trivial⟩, hS.F ht⟩) hS.2.2 dX11_count_169
                      · exact absurd c_13 (by decide)
  · obtain ⟨d_14, h_1⟩ := not_or.mp h_1
    obtain ⟨d_15, h_1⟩ := not_or.mp h_1
    obtain ⟨d_16, h_1⟩ := not_or.mp h_1
    obtain ⟨d_17, h_1⟩ := not_or.mp h_1
    obtain ⟨d_18, h_1⟩ := not_or.mp h_1
    obtain ⟨d_19, h_1⟩ := not_or.mp h_1
    obtain ⟨d_20, h_1⟩ := not_or.mp h_1
    have d_21 := h_1
    refine lv_tableOut (tgt := 170) hx hb dX11_count_8 (by have := i_ne d_14; have := i_ne d_15; have := i_ne d_16; have := i_ne d_17; have := i_ne d_18; have := i_ne d_19; have := i_ne d_20; have := i_ne d_21; have : (0 : Int32).toInt = 0 := (by decide); have : (1 : Int32).toInt = 1 := (by decide); have : (2 : Int32).toInt = 2 := (by decide); have : (3 : Int32).toInt = 3 := (by decide); have : (4 : Int32).toInt = 4 := (by decide); have : (5 : Int32).toInt = 5 := (by decide); have : (6 : Int32).toInt = 6 := (by decide); have : (7 : Int32).toInt = 7 := (by decide); omega) (by decide) ?_
    refine lv_iconst (v := (-1)) hx hb dX11_count_170 (by decide) ?_
    exact W.iret (v := (-1)) hx hb hr (fun t ht hW => ⟨⟨(-1), (), rfl, by have f0 := i_ne d_14; have f1 := i_ne d_15; have f2 := i_ne d_16; have f3 := i_ne d_17; have f4 := i_ne d_18; have f5 := i_ne d_19; have f6 := i_ne d_20; have f7 := i_ne d_21; have : ((-1) : Int32).toInt = -1 := (by decide); have : (0 : Int32).toInt = 0 := (by decide); have : (1 : Int32).toInt = 1 := (by decide); have : (2 : Int32).toInt = 2 := (by decide); have : (3 : Int32).toInt = 3 := (by decide); have : (4 : Int32).toInt = 4 := (by decide); have : (5 : Int32).toInt = 5 := (by decide); have : (6 : Int32).toInt = 6 := (by decide); have : (7 : Int32).toInt = 7 := (by decide); show ((-1) : Int32) = fCount p0; unfold fCount; (repeat' split) <;> first | rfl | (exfalso; omega), trivial⟩, hS.F ht⟩) hS.2.2 dX11_count_171
