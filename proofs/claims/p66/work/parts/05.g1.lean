theorem dJ6_bitCount_0f7a4_0 : decode cJ6_bitCount_0f7a4 0 = .ok (.iload_n 0, 1) := by decide +kernel
theorem dJ6_bitCount_0f7a4_1 : decode cJ6_bitCount_0f7a4 1 = .ok (.iload_n 0, 1) := by decide +kernel
theorem dJ6_bitCount_0f7a4_2 : decode cJ6_bitCount_0f7a4 2 = .ok (.iconst 1, 1) := by decide +kernel
theorem dJ6_bitCount_0f7a4_3 : decode cJ6_bitCount_0f7a4 3 = .ok (.iushr, 1) := by decide +kernel
theorem dJ6_bitCount_0f7a4_4 : decode cJ6_bitCount_0f7a4 4 = .ok (.ldc_w 265, 3) := by decide +kernel
theorem dJ6_bitCount_0f7a4_7 : decode cJ6_bitCount_0f7a4 7 = .ok (.iand, 1) := by decide +kernel
theorem dJ6_bitCount_0f7a4_8 : decode cJ6_bitCount_0f7a4 8 = .ok (.isub, 1) := by decide +kernel
theorem dJ6_bitCount_0f7a4_9 : decode cJ6_bitCount_0f7a4 9 = .ok (.istore_n 0, 1) := by decide +kernel
theorem dJ6_bitCount_0f7a4_10 : decode cJ6_bitCount_0f7a4 10 = .ok (.iload_n 0, 1) := by decide +kernel
theorem dJ6_bitCount_0f7a4_11 : decode cJ6_bitCount_0f7a4 11 = .ok (.ldc_w 266, 3) := by decide +kernel
theorem dJ6_bitCount_0f7a4_14 : decode cJ6_bitCount_0f7a4 14 = .ok (.iand, 1) := by decide +kernel
theorem dJ6_bitCount_0f7a4_15 : decode cJ6_bitCount_0f7a4 15 = .ok (.iload_n 0, 1) := by decide +kernel
theorem dJ6_bitCount_0f7a4_16 : decode cJ6_bitCount_0f7a4 16 = .ok (.iconst 2, 1) := by decide +kernel
theorem dJ6_bitCount_0f7a4_17 : decode cJ6_bitCount_0f7a4 17 = .ok (.iushr, 1) := by decide +kernel
theorem dJ6_bitCount_0f7a4_18 : decode cJ6_bitCount_0f7a4 18 = .ok (.ldc_w 266, 3) := by decide +kernel
theorem dJ6_bitCount_0f7a4_21 : decode cJ6_bitCount_0f7a4 21 = .ok (.iand, 1) := by decide +kernel
theorem dJ6_bitCount_0f7a4_22 : decode cJ6_bitCount_0f7a4 22 = .ok (.iadd, 1) := by decide +kernel
theorem dJ6_bitCount_0f7a4_23 : decode cJ6_bitCount_0f7a4 23 = .ok (.istore_n 0, 1) := by decide +kernel
theorem dJ6_bitCount_0f7a4_24 : decode cJ6_bitCount_0f7a4 24 = .ok (.iload_n 0, 1) := by decide +kernel
theorem dJ6_bitCount_0f7a4_25 : decode cJ6_bitCount_0f7a4 25 = .ok (.iload_n 0, 1) := by decide +kernel
theorem dJ6_bitCount_0f7a4_26 : decode cJ6_bitCount_0f7a4 26 = .ok (.iconst 4, 1) := by decide +kernel
theorem dJ6_bitCount_0f7a4_27 : decode cJ6_bitCount_0f7a4 27 = .ok (.iushr, 1) := by decide +kernel
theorem dJ6_bitCount_0f7a4_28 : decode cJ6_bitCount_0f7a4 28 = .ok (.iadd, 1) := by decide +kernel
theorem dJ6_bitCount_0f7a4_29 : decode cJ6_bitCount_0f7a4 29 = .ok (.ldc_w 267, 3) := by decide +kernel
theorem dJ6_bitCount_0f7a4_32 : decode cJ6_bitCount_0f7a4 32 = .ok (.iand, 1) := by decide +kernel
theorem dJ6_bitCount_0f7a4_33 : decode cJ6_bitCount_0f7a4 33 = .ok (.istore_n 0, 1) := by decide +kernel
theorem dJ6_bitCount_0f7a4_34 : decode cJ6_bitCount_0f7a4 34 = .ok (.iload_n 0, 1) := by decide +kernel
theorem dJ6_bitCount_0f7a4_35 : decode cJ6_bitCount_0f7a4 35 = .ok (.iload_n 0, 1) := by decide +kernel
theorem dJ6_bitCount_0f7a4_36 : decode cJ6_bitCount_0f7a4 36 = .ok (.bipush 8, 2) := by decide +kernel
theorem dJ6_bitCount_0f7a4_38 : decode cJ6_bitCount_0f7a4 38 = .ok (.iushr, 1) := by decide +kernel
theorem dJ6_bitCount_0f7a4_39 : decode cJ6_bitCount_0f7a4 39 = .ok (.iadd, 1) := by decide +kernel
theorem dJ6_bitCount_0f7a4_40 : decode cJ6_bitCount_0f7a4 40 = .ok (.istore_n 0, 1) := by decide +kernel
theorem dJ6_bitCount_0f7a4_41 : decode cJ6_bitCount_0f7a4 41 = .ok (.iload_n 0, 1) := by decide +kernel
theorem dJ6_bitCount_0f7a4_42 : decode cJ6_bitCount_0f7a4 42 = .ok (.iload_n 0, 1) := by decide +kernel
theorem dJ6_bitCount_0f7a4_43 : decode cJ6_bitCount_0f7a4 43 = .ok (.bipush 16, 2) := by decide +kernel
theorem dJ6_bitCount_0f7a4_45 : decode cJ6_bitCount_0f7a4 45 = .ok (.iushr, 1) := by decide +kernel
theorem dJ6_bitCount_0f7a4_46 : decode cJ6_bitCount_0f7a4 46 = .ok (.iadd, 1) := by decide +kernel
theorem dJ6_bitCount_0f7a4_47 : decode cJ6_bitCount_0f7a4 47 = .ok (.istore_n 0, 1) := by decide +kernel
theorem dJ6_bitCount_0f7a4_48 : decode cJ6_bitCount_0f7a4 48 = .ok (.iload_n 0, 1) := by decide +kernel
theorem dJ6_bitCount_0f7a4_49 : decode cJ6_bitCount_0f7a4 49 = .ok (.bipush 63, 2) := by decide +kernel
theorem dJ6_bitCount_0f7a4_51 : decode cJ6_bitCount_0f7a4 51 = .ok (.iand, 1) := by decide +kernel
theorem dJ6_bitCount_0f7a4_52 : decode cJ6_bitCount_0f7a4 52 = .ok (.ireturn, 1) := by decide +kernel
theorem dX10_isDeed_0 : decode cX10_isDeed 0 = .ok (.iload_n 0, 1) := by decide +kernel
theorem dX10_isDeed_1 : decode cX10_isDeed 1 = .ok (.ifCond .lt 13, 3) := by decide +kernel
theorem dX10_isDeed_14 : decode cX10_isDeed 14 = .ok (.iconst 0, 1) := by decide +kernel
theorem dX10_isDeed_15 : decode cX10_isDeed 15 = .ok (.ireturn, 1) := by decide +kernel
theorem dX10_isDeed_4 : decode cX10_isDeed 4 = .ok (.iload_n 0, 1) := by decide +kernel
theorem dX10_isDeed_5 : decode cX10_isDeed 5 = .ok (.bipush 6, 2) := by decide +kernel
theorem dX10_isDeed_7 : decode cX10_isDeed 7 = .ok (.if_icmp .ge 7, 3) := by decide +kernel
theorem dX10_isDeed_10 : decode cX10_isDeed 10 = .ok (.iconst 1, 1) := by decide +kernel
theorem dX10_isDeed_11 : decode cX10_isDeed 11 = .ok (.goto 4, 3) := by decide +kernel
theorem dX10_isDeedSet_0 : decode cX10_isDeedSet 0 = .ok (.iload_n 0, 1) := by decide +kernel
theorem dX10_isDeedSet_1 : decode cX10_isDeedSet 1 = .ok (.ifCond .lt 13, 3) := by decide +kernel
theorem dX10_isDeedSet_14 : decode cX10_isDeedSet 14 = .ok (.iconst 0, 1) := by decide +kernel
theorem dX10_isDeedSet_15 : decode cX10_isDeedSet 15 = .ok (.ireturn, 1) := by decide +kernel
theorem dX10_isDeedSet_4 : decode cX10_isDeedSet 4 = .ok (.iload_n 0, 1) := by decide +kernel
theorem dX10_isDeedSet_5 : decode cX10_isDeedSet 5 = .ok (.bipush 64, 2) := by decide +kernel
theorem dX10_isDeedSet_7 : decode cX10_isDeedSet 7 = .ok (.if_icmp .ge 7, 3) := by decide +kernel
theorem dX10_isDeedSet_10 : decode cX10_isDeedSet 10 = .ok (.iconst 1, 1) := by decide +kernel
theorem dX10_isDeedSet_11 : decode cX10_isDeedSet 11 = .ok (.goto 4, 3) := by decide +kernel
theorem dX10_isSeed_0 : decode cX10_isSeed 0 = .ok (.iload_n 0, 1) := by decide +kernel
theorem dX10_isSeed_1 : decode cX10_isSeed 1 = .ok (.ifCond .lt 14, 3) := by decide +kernel
theorem dX10_isSeed_15 : decode cX10_isSeed 15 = .ok (.iconst 0, 1) := by decide +kernel
theorem dX10_isSeed_16 : decode cX10_isSeed 16 = .ok (.ireturn, 1) := by decide +kernel
theorem dX10_isSeed_4 : decode cX10_isSeed 4 = .ok (.iload_n 0, 1) := by decide +kernel
theorem dX10_isSeed_5 : decode cX10_isSeed 5 = .ok (.ldc_w 457, 3) := by decide +kernel
theorem dX10_isSeed_8 : decode cX10_isSeed 8 = .ok (.if_icmp .gt 7, 3) := by decide +kernel
theorem dX10_isSeed_11 : decode cX10_isSeed 11 = .ok (.iconst 1, 1) := by decide +kernel
theorem dX10_isSeed_12 : decode cX10_isSeed 12 = .ok (.goto 4, 3) := by decide +kernel
theorem dX10_isSquareNumber_0 : decode cX10_isSquareNumber 0 = .ok (.iload_n 0, 1) := by decide +kernel
theorem dX10_isSquareNumber_1 : decode cX10_isSquareNumber 1 = .ok (.iconst 1, 1) := by decide +kernel
theorem dX10_isSquareNumber_2 : decode cX10_isSquareNumber 2 = .ok (.if_icmp .lt 13, 3) := by decide +kernel
theorem dX10_isSquareNumber_15 : decode cX10_isSquareNumber 15 = .ok (.iconst 0, 1) := by decide +kernel
theorem dX10_isSquareNumber_16 : decode cX10_isSquareNumber 16 = .ok (.ireturn, 1) := by decide +kernel
theorem dX10_isSquareNumber_5 : decode cX10_isSquareNumber 5 = .ok (.iload_n 0, 1) := by decide +kernel
theorem dX10_isSquareNumber_6 : decode cX10_isSquareNumber 6 = .ok (.bipush 20, 2) := by decide +kernel
theorem dX10_isSquareNumber_8 : decode cX10_isSquareNumber 8 = .ok (.if_icmp .gt 7, 3) := by decide +kernel
theorem dX10_isSquareNumber_11 : decode cX10_isSquareNumber 11 = .ok (.iconst 1, 1) := by decide +kernel
theorem dX10_isSquareNumber_12 : decode cX10_isSquareNumber 12 = .ok (.goto 4, 3) := by decide +kernel
theorem dX10_bitOf_0 : decode cX10_bitOf 0 = .ok (.iload_n 0, 1) := by decide +kernel
theorem dX10_bitOf_1 : decode cX10_bitOf 1 = .ok (.iload_n 1, 1) := by decide +kernel
theorem dX10_bitOf_2 : decode cX10_bitOf 2 = .ok (.ishr, 1) := by decide +kernel
theorem dX10_bitOf_3 : decode cX10_bitOf 3 = .ok (.iconst 1, 1) := by decide +kernel
theorem dX10_bitOf_4 : decode cX10_bitOf 4 = .ok (.iand, 1) := by decide +kernel
theorem dX10_bitOf_5 : decode cX10_bitOf 5 = .ok (.ireturn, 1) := by decide +kernel
theorem dX10_commonDivisor_0 : decode cX10_commonDivisor 0 = .ok (.iload_n 0, 1) := by decide +kernel
theorem dX10_commonDivisor_1 : decode cX10_commonDivisor 1 = .ok (.istore_n 2, 1) := by decide +kernel
theorem dX10_commonDivisor_2 : decode cX10_commonDivisor 2 = .ok (.iload_n 1, 1) := by decide +kernel
theorem dX10_commonDivisor_3 : decode cX10_commonDivisor 3 = .ok (.istore_n 3, 1) := by decide +kernel
theorem dX10_commonDivisor_4 : decode cX10_commonDivisor 4 = .ok (.iconst 0, 1) := by decide +kernel
theorem dX10_commonDivisor_5 : decode cX10_commonDivisor 5 = .ok (.istore 4, 2) := by decide +kernel
theorem dX10_commonDivisor_7 : decode cX10_commonDivisor 7 = .ok (.iload 4, 2) := by decide +kernel
theorem dX10_commonDivisor_9 : decode cX10_commonDivisor 9 = .ok (.bipush 64, 2) := by decide +kernel
theorem dX10_commonDivisor_11 : decode cX10_commonDivisor 11 = .ok (.if_icmp .ge 23, 3) := by decide +kernel
theorem dX10_commonDivisor_34 : decode cX10_commonDivisor 34 = .ok (.iload_n 2, 1) := by decide +kernel
theorem dX10_commonDivisor_35 : decode cX10_commonDivisor 35 = .ok (.ireturn, 1) := by decide +kernel
theorem dX10_commonDivisor_14 : decode cX10_commonDivisor 14 = .ok (.iload_n 3, 1) := by decide +kernel
theorem dX10_commonDivisor_15 : decode cX10_commonDivisor 15 = .ok (.ifCond .eq 19, 3) := by decide +kernel
theorem dX10_commonDivisor_18 : decode cX10_commonDivisor 18 = .ok (.iload_n 2, 1) := by decide +kernel
theorem dX10_commonDivisor_19 : decode cX10_commonDivisor 19 = .ok (.iload_n 3, 1) := by decide +kernel
theorem dX10_commonDivisor_20 : decode cX10_commonDivisor 20 = .ok (.irem, 1) := by decide +kernel
theorem dX10_commonDivisor_21 : decode cX10_commonDivisor 21 = .ok (.istore 5, 2) := by decide +kernel
theorem dX10_commonDivisor_23 : decode cX10_commonDivisor 23 = .ok (.iload_n 3, 1) := by decide +kernel
theorem dX10_commonDivisor_24 : decode cX10_commonDivisor 24 = .ok (.istore_n 2, 1) := by decide +kernel
theorem dX10_commonDivisor_25 : decode cX10_commonDivisor 25 = .ok (.iload 5, 2) := by decide +kernel
theorem dX10_commonDivisor_27 : decode cX10_commonDivisor 27 = .ok (.istore_n 3, 1) := by decide +kernel
theorem dX10_commonDivisor_28 : decode cX10_commonDivisor 28 = .ok (.iinc 4 1, 3) := by decide +kernel
theorem dX10_commonDivisor_31 : decode cX10_commonDivisor 31 = .ok (.goto (-24), 3) := by decide +kernel
set_option maxHeartbeats 4000000 in
set_option maxRecDepth 100000 in
theorem a_J6_bitCount_0f7a4 (l : Launch) (G : va_G) (ct : Nat → ClassId) (p0 : Int32)  : Met l yJ6_bitCount_0f7a4 wsJ6_bitCount_0f7a4 ({ frames := 0, cells := 0, slots := 0, locals := 0 }) (va_Pc [.int p0] (roP G ct [])) (roQ (fun r => rg 0 63 r ∧ True)) 0 0 no := by
  refine Met.ofW (cc := cJ6_bitCount_0f7a4) (maxL := 1) (ret := (some .int)) (by decide) rfl ?_
  intro p e s m args below meth c s₁ B hml hv
  obtain ⟨rfl, hP, hK⟩ := hv
  have hx := B.exec
  have hb := B.bytes
  have hr := B.returns
  have hts := atoms_spec (ws := wsJ6_bitCount_0f7a4) B.pre
  have hown : s.vm.findClass RJ6 = some m.cls := findClass_of_methodNamed B.named
  have hlocks := B.notSynchronized
  have hS : va_S no s.heap s.heap [] := va_S.rf
  have hl := lv_entry ([.int p0]) (n := 1) (Nat.le_of_ble_eq_true rfl)
  rw [lg_entry_eq]
  generalize (lg_sl ([.int p0]) ++ List.replicate (1 - (lg_sl ([.int p0])).length) Slot.unset).toArray = ls at hl ⊢
  have hl : lv_has ls 1 [(0, .int p0)] := hl
  refine lv_iload_n hx hb dJ6_bitCount_0f7a4_0 rfl (lv_at hl 0 rfl) ?_
  refine lv_iload_n hx hb dJ6_bitCount_0f7a4_1 rfl (lv_at hl 0 rfl) ?_
  refine lv_iconst (v := 1) hx hb dJ6_bitCount_0f7a4_2 (by decide) ?_
  refine lv_iushr hx hb dJ6_bitCount_0f7a4_3 rfl ?_
  refine nm_0 (fun z3 => ?_)
  refine lv_ldcw (own := RJ6) (v := 1431655765) hx hb hown (hts (.constant RJ6 265 (1431655765)) (by decide +kernel)) dJ6_bitCount_0f7a4_4 ?_
  refine lv_iand hx hb dJ6_bitCount_0f7a4_7 ?_
  refine nm_andr (rgn 1431655765 (x := 1431655765) (by decide)) (by decide) (fun z7 hz7 => ?_)
  refine lv_isub hx hb dJ6_bitCount_0f7a4_8 ?_
  refine nm_0 (fun z8 => ?_)
  refine lv_istore_n (lv' := [(0, .int z8)]) hx hb dJ6_bitCount_0f7a4_9 rfl hl (by decide) rfl (fun ls hl => ?_)
  refine lv_iload_n hx hb dJ6_bitCount_0f7a4_10 rfl (lv_at hl 0 rfl) ?_
  refine lv_ldcw (own := RJ6) (v := 858993459) hx hb hown (hts (.constant RJ6 266 (858993459)) (by decide +kernel)) dJ6_bitCount_0f7a4_11 ?_
  refine lv_iand hx hb dJ6_bitCount_0f7a4_14 ?_
  refine nm_andr (rgn 858993459 (x := 858993459) (by decide)) (by decide) (fun z14 hz14 => ?_)
  refine lv_iload_n hx hb dJ6_bitCount_0f7a4_15 rfl (lv_at hl 0 rfl) ?_
  refine lv_iconst (v := 2) hx hb dJ6_bitCount_0f7a4_16 (by decide) ?_
  refine lv_iushr hx hb dJ6_bitCount_0f7a4_17 rfl ?_
  refine nm_0 (fun z17 => ?_)
  refine lv_ldcw (own := RJ6) (v := 858993459) hx hb hown (hts (.constant RJ6 266 (858993459)) (by decide +kernel)) dJ6_bitCount_0f7a4_18 ?_
  refine lv_iand hx hb dJ6_bitCount_0f7a4_21 ?_
  refine nm_andr (rgn 858993459 (x := 858993459) (by decide)) (by decide) (fun z21 hz21 => ?_)
  refine lv_iadd hx hb dJ6_bitCount_0f7a4_22 ?_
  refine nm_add (e1 := 0) (f := 1717986918) hz14 hz21 (by decide) (fun z22 hz22 ez22 => ?_)
  refine lv_istore_n (lv' := [(0, .int z22)]) hx hb dJ6_bitCount_0f7a4_23 rfl hl (by decide) rfl (fun ls hl => ?_)
  refine lv_iload_n hx hb dJ6_bitCount_0f7a4_24 rfl (lv_at hl 0 rfl) ?_
  refine lv_iload_n hx hb dJ6_bitCount_0f7a4_25 rfl (lv_at hl 0 rfl) ?_
  refine lv_iconst (v := 4) hx hb dJ6_bitCount_0f7a4_26 (by decide) ?_
  refine lv_iushr hx hb dJ6_bitCount_0f7a4_27 rfl ?_
  refine nm_0 (fun z27 => ?_)
  refine lv_iadd hx hb dJ6_bitCount_0f7a4_28 ?_
  refine nm_0 (fun z28 => ?_)
  refine lv_ldcw (own := RJ6) (v := 252645135) hx hb hown (hts (.constant RJ6 267 (252645135)) (by decide +kernel)) dJ6_bitCount_0f7a4_29 ?_
  refine lv_iand hx hb dJ6_bitCount_0f7a4_32 ?_
  refine nm_andr (rgn 252645135 (x := 252645135) (by decide)) (by decide) (fun z32 hz32 => ?_)
  refine lv_istore_n (lv' := [(0, .int z32)]) hx hb dJ6_bitCount_0f7a4_33 rfl hl (by decide) rfl (fun ls hl => ?_)
  refine lv_iload_n hx hb dJ6_bitCount_0f7a4_34 rfl (lv_at hl 0 rfl) ?_
  refine lv_iload_n hx hb dJ6_bitCount_0f7a4_35 rfl (lv_at hl 0 rfl) ?_
  refine lv_bipush (v := 8) hx hb dJ6_bitCount_0f7a4_36 (by decide) ?_
  refine lv_iushr hx hb dJ6_bitCount_0f7a4_38 rfl ?_
  refine nm_0 (fun z38 => ?_)
  refine lv_iadd hx hb dJ6_bitCount_0f7a4_39 ?_
  refine nm_0 (fun z39 => ?_)
  refine lv_istore_n (lv' := [(0, .int z39)]) hx hb dJ6_bitCount_0f7a4_40 rfl hl (by decide) rfl (fun ls hl => ?_)
  refine lv_iload_n hx hb dJ6_bitCount_0f7a4_41 rfl (lv_at hl 0 rfl) ?_
  refine lv_iload_n hx hb dJ6_bitCount_0f7a4_42 rfl (lv_at hl 0 rfl) ?_
  refine lv_bipush (v := 16) hx hb dJ6_bitCount_0f7a4_43 (by decide) ?_
  refine lv_iushr hx hb dJ6_bitCount_0f7a4_45 rfl ?_
  refine nm_0 (fun z45 => ?_)
  refine lv_iadd hx hb dJ6_bitCount_0f7a4_46 ?_
  refine nm_0 (fun z46 => ?_)
  refine lv_istore_n (lv' := [(0, .int z46)]) hx hb dJ6_bitCount_0f7a4_47 rfl hl (by decide) rfl (fun ls hl => ?_)
  refine lv_iload_n hx hb dJ6_bitCount_0f7a4_48 rfl (lv_at hl 0 rfl) ?_
  refine lv_bipush (v := 63) hx hb dJ6_bitCount_0f7a4_49 (by decide) ?_
  refine lv_iand hx hb dJ6_bitCount_0f7a4_51 ?_
  refine nm_andr (rgn 63 (x := 63) (by decide)) (by decide) (fun z51 hz51 => ?_)
  exact W.iret (v := z51) hx hb hr (fun t ht hW => ⟨⟨z51, (), rfl, ⟨hz51, trivial⟩, trivial⟩, hS.F ht⟩) hS.2.2 dJ6_bitCount_0f7a4_52

set_option maxHeartbeats 4000000 in
set_option maxRecDepth 100000 in
theorem a_X10_isDeed (l : Launch) (G : va_G) (ct : Nat → ClassId) (p0 : Int32)  : Met l yX10_isDeed wsX10_isDeed ({ frames := 0, cells := 0, slots := 0, locals := 0 }) (va_Pc [.int p0] (roP G ct [])) (roQ (fun r => rg 0 1 r ∧ (¬ r = 0 → rg 0 5 p0) ∧ True)) 0 0 no := by
  refine Met.ofW (cc := cX10_isDeed) (maxL := 1) (ret := (some .boolean)) (by decide) rfl ?_
  intro p e s m args below meth c s₁ B hml hv
  obtain ⟨rfl, hP, hK⟩ := hv
  have hx := B.exec
  have hb := B.bytes
  have hr := B.returns
  have hts := atoms_spec (ws := wsX10_isDeed) B.pre
  have hown : s.vm.findClass RX10 = some m.cls := findClass_of_methodNamed B.named
  have hlocks := B.notSynchronized
  have hS : va_S no s.heap s.heap [] := va_S.rf
  have hl := lv_entry ([.int p0]) (n := 1) (Nat.le_of_ble_eq_true rfl)
  rw [lg_entry_eq]
  generalize (lg_sl ([.int p0]) ++ List.replicate (1 - (lg_sl ([.int p0])).length) Slot.unset).toArray = ls at hl ⊢
  have hl : lv_has ls 1 [(0, .int p0)] := hl
  refine lv_iload_n hx hb dX10_isDeed_0 rfl (lv_at hl 0 rfl) ?_
  refine lv_if_lt (tgt := 14) hx hb dX10_isDeed_1 (by decide) (fun c1 => ?_) (fun c1 => ?_)
  · have h_1 : rg (-2147483648) (-1) p0 := r_lt_l_i c1 (rg_t p0) (rgn 0 (x := 0) (by decide)) (by decide)
    refine lv_iconst (v := 0) hx hb dX10_isDeed_14 (by decide) ?_
    exact W.zret (v := 0) (ty := .boolean) hx hb hr (rfl) (fun t ht hW => ⟨⟨0, (), rfl, ⟨(rg_w (c := 0) (d := 1) (rgn 0 (x := 0) (by decide)) (by decide)), (fun hq => absurd (req (rgn 0 (x := 0) (by decide)) (y := 0) (by decide)) hq), trivial⟩, trivial⟩, hS.F ht⟩) hS.2.2 dX10_isDeed_15
  · have h_2 : rg 0 2147483647 p0 := r_le_r_i (nlt_i c1) (rgn 0 (x := 0) (by decide)) (rg_t p0)
    refine lv_iload_n hx hb dX10_isDeed_4 rfl (lv_at hl 0 rfl) ?_
    refine lv_bipush (v := 6) hx hb dX10_isDeed_5 (by decide) ?_
    refine lv_icmp_ge (tgt := 14) hx hb dX10_isDeed_7 (by decide) (fun c7 => ?_) (fun c7 => ?_)
    · have h_3 : rg 6 2147483647 p0 := r_le_r_i c7 (rgn 6 (x := 6) (by decide)) h_2
      refine lv_iconst (v := 0) hx hb dX10_isDeed_14 (by decide) ?_
      exact W.zret (v := 0) (ty := .boolean) hx hb hr (rfl) (fun t ht hW => ⟨⟨0, (), rfl, ⟨(rg_w (c := 0) (d := 1) (rgn 0 (x := 0) (by decide)) (by decide)), (fun hq => absurd (req (rgn 0 (x := 0) (by decide)) (y := 0) (by decide)) hq), trivial⟩, trivial⟩, hS.F ht⟩) hS.2.2 dX10_isDeed_15
    · have h_4 : rg 0 5 p0 := r_lt_l_i (nle_i c7) h_2 (rgn 6 (x := 6) (by decide)) (by decide)
      refine lv_iconst (v := 1) hx hb dX10_isDeed_10 (by decide) ?_
      refine lv_goto (tgt := 15) hx hb dX10_isDeed_11 (by decide) ?_
      exact W.zret (v := 1) (ty := .boolean) hx hb hr (rfl) (fun t ht hW => ⟨⟨1, (), rfl, ⟨(rg_w (c := 0) (d := 1) (rgn 1 (x := 1) (by decide)) (by decide)), (fun _ => h_4), trivial⟩, trivial⟩, hS.F ht⟩) hS.2.2 dX10_isDeed_15

set_option maxHeartbeats 4000000 in
set_option maxRecDepth 100000 in
theorem a_X10_isDeedSet (l : Launch) (G : va_G) (ct : Nat → ClassId) (p0 : Int32)  : Met l yX10_isDeedSet wsX10_isDeedSet ({ frames := 0, cells := 0, slots := 0, locals := 0 }) (va_Pc [.int p0] (roP G ct [])) (roQ (fun r => rg 0 1 r ∧ (¬ r = 0 → rg 0 63 p0) ∧ True)) 0 0 no := by
  refine Met.ofW (cc := cX10_isDeedSet) (maxL := 1) (ret := (some .boolean)) (by decide) rfl ?_
  intro p e s m args below meth c s₁ B hml hv
  obtain ⟨rfl, hP, hK⟩ := hv
  have hx := B.exec
  have hb := B.bytes
  have hr := B.returns
  have hts := atoms_spec (ws := wsX10_isDeedSet) B.pre
  have hown : s.vm.findClass RX10 = some m.cls := findClass_of_methodNamed B.named
  have hlocks := B.notSynchronized
  have hS : va_S no s.heap s.heap [] := va_S.rf
  have hl := lv_entry ([.int p0]) (n := 1) (Nat.le_of_ble_eq_true rfl)
  rw [lg_entry_eq]
  generalize (lg_sl ([.int p0]) ++ List.replicate (1 - (lg_sl ([.int p0])).length) Slot.unset).toArray = ls at hl ⊢
  have hl : lv_has ls 1 [(0, .int p0)] := hl
  refine lv_iload_n hx hb dX10_isDeedSet_0 rfl (lv_at hl 0 rfl) ?_
  refine lv_if_lt (tgt := 14) hx hb dX10_isDeedSet_1 (by decide) (fun c1 => ?_) (fun c1 => ?_)
  · have h_1 : rg (-2147483648) (-1) p0 := r_lt_l_i c1 (rg_t p0) (rgn 0 (x := 0) (by decide)) (by decide)
    refine lv_iconst (v := 0) hx hb dX10_isDeedSet_14 (by decide) ?_
    exact W.zret (v := 0) (ty := .boolean) hx hb hr (rfl) (fun t ht hW => ⟨⟨0, (), rfl, ⟨(rg_w (c := 0) (d := 1) (rgn 0 (x := 0) (by decide)) (by decide)), (fun hq => absurd (req (rgn 0 (x := 0) (by decide)) (y := 0) (by decide)) hq), trivial⟩, trivial⟩, hS.F ht⟩) hS.2.2 dX10_isDeedSet_15
  · have h_2 : rg 0 2147483647 p0 := r_le_r_i (nlt_i c1) (rgn 0 (x := 0) (by decide)) (rg_t p0)
    refine lv_iload_n hx hb dX10_isDeedSet_4 rfl (lv_at hl 0 rfl) ?_
    refine lv_bipush (v := 64) hx hb dX10_isDeedSet_5 (by decide) ?_
    refine lv_icmp_ge (tgt := 14) hx hb dX10_isDeedSet_7 (by decide) (fun c7 => ?_) (fun c7 => ?_)
    · have h_3 : rg 64 2147483647 p0 := r_le_r_i c7 (rgn 64 (x := 64) (by decide)) h_2
      refine lv_iconst (v := 0) hx hb dX10_isDeedSet_14 (by decide) ?_
      exact W.zret (v := 0) (ty := .boolean) hx hb hr (rfl) (fun t ht hW => ⟨⟨0, (), rfl, ⟨(rg_w (c := 0) (d := 1) (rgn 0 (x := 0) (by decide)) (by decide)), (fun hq => absurd (req (rgn 0 (x := 0) (by decide)) (y := 0) (by decide)) hq), trivial⟩, trivial⟩, hS.F ht⟩) hS.2.2 dX10_isDeedSet_15
    · have h_4 : rg 0 63 p0 := r_lt_l_i (nle_i c7) h_2 (rgn 64 (x := 64) (by decide)) (by decide)
      refine lv_iconst (v := 1) hx hb dX10_isDeedSet_10 (by decide) ?_
      refine lv_goto (tgt := 15) hx hb dX10_isDeedSet_11 (by decide) ?_
      exact W.zret (v := 1) (ty := .boolean) hx hb hr (rfl) (fun t ht hW => ⟨⟨1, (), rfl, ⟨(rg_w (c := 0) (d := 1) (rgn 1 (x := 1) (by decide)) (by decide)), (fun _ => h_4), trivial⟩, trivial⟩, hS.F ht⟩) hS.2.2 dX10_isDeedSet_15

set_option maxHeartbeats 4000000 in
set_option maxRecDepth 100000 in
theorem a_X10_isSeed (l : Launch) (G : va_G) (ct : Nat → ClassId) (p0 : Int32)  : Met l yX10_isSeed wsX10_isSeed ({ frames := 0, cells := 0, slots := 0, locals := 0 }) (va_Pc [.int p0] (roP G ct [])) (roQ (fun r => rg 0 1 r ∧ (¬ r = 0 → rg 0 2000000000 p0) ∧ True)) 0 0 no := by
  refine Met.ofW (cc := cX10_isSeed) (maxL := 1) (ret := (some .boolean)) (by decide) rfl ?_
  intro p e s m args below meth c s₁ B hml hv
  obtain ⟨rfl, hP, hK⟩ := hv
  have hx := B.exec
  have hb := B.bytes
  have hr := B.returns
  have hts := atoms_spec (ws := wsX10_isSeed) B.pre
  have hown : s.vm.findClass RX10 = some m.cls := findClass_of_methodNamed B.named
  have hlocks := B.notSynchronized
  have hS : va_S no s.heap s.heap [] := va_S.rf
  have hl := lv_entry ([.int p0]) (n := 1) (Nat.le_of_ble_eq_true rfl)
  rw [lg_entry_eq]
  generalize (lg_sl ([.int p0]) ++ List.replicate (1 - (lg_sl ([.int p0])).length) Slot.unset).toArray = ls at hl ⊢
  have hl : lv_has ls 1 [(0, .int p0)] := hl
  refine lv_iload_n hx hb dX10_isSeed_0 rfl (lv_at hl 0 rfl) ?_
  refine lv_if_lt (tgt := 15) hx hb dX10_isSeed_1 (by decide) (fun c1 => ?_) (fun c1 => ?_)
  · have h_1 : rg (-2147483648) (-1) p0 := r_lt_l_i c1 (rg_t p0) (rgn 0 (x := 0) (by decide)) (by decide)
    refine lv_iconst (v := 0) hx hb dX10_isSeed_15 (by decide) ?_
    exact W.zret (v := 0) (ty := .boolean) hx hb hr (rfl) (fun t ht hW => ⟨⟨0, (), rfl, ⟨(rg_w (c := 0) (d := 1) (rgn 0 (x := 0) (by decide)) (by decide)), (fun hq => absurd (req (rgn 0 (x := 0) (by decide)) (y := 0) (by decide)) hq), trivial⟩, trivial⟩, hS.F ht⟩) hS.2.2 dX10_isSeed_16
  · have h_2 : rg 0 2147483647 p0 := r_le_r_i (nlt_i c1) (rgn 0 (x := 0) (by decide)) (rg_t p0)
    refine lv_iload_n hx hb dX10_isSeed_4 rfl (lv_at hl 0 rfl) ?_
    refine lv_ldcw (own := RX10) (v := 2000000000) hx hb hown (hts (.constant RX10 457 (2000000000)) (by decide +kernel)) dX10_isSeed_5 ?_
    refine lv_icmp_gt (tgt := 15) hx hb dX10_isSeed_8 (by decide) (fun c8 => ?_) (fun c8 => ?_)
    · have h_3 : rg 2000000001 2147483647 p0 := r_lt_r_i c8 (rgn 2000000000 (x := 2000000000) (by decide)) h_2 (by decide)
      refine lv_iconst (v := 0) hx hb dX10_isSeed_15 (by decide) ?_
      exact W.zret (v := 0) (ty := .boolean) hx hb hr (rfl) (fun t ht hW => ⟨⟨0, (), rfl, ⟨(rg_w (c := 0) (d := 1) (rgn 0 (x := 0) (by decide)) (by decide)), (fun hq => absurd (req (rgn 0 (x := 0) (by decide)) (y := 0) (by decide)) hq), trivial⟩, trivial⟩, hS.F ht⟩) hS.2.2 dX10_isSeed_16
    · have h_4 : rg 0 2000000000 p0 := r_le_l_i (nlt_i c8) h_2 (rgn 2000000000 (x := 2000000000) (by decide))
      refine lv_iconst (v := 1) hx hb dX10_isSeed_11 (by decide) ?_
      refine lv_goto (tgt := 16) hx hb dX10_isSeed_12 (by decide) ?_
      exact W.zret (v := 1) (ty := .boolean) hx hb hr (rfl) (fun t ht hW => ⟨⟨1, (), rfl, ⟨(rg_w (c := 0) (d := 1) (rgn 1 (x := 1) (by decide)) (by decide)), (fun _ => h_4), trivial⟩, trivial⟩, hS.F ht⟩) hS.2.2 dX10_isSeed_16

set_option maxHeartbeats 4000000 in
set_option maxRecDepth 100000 in
theorem a_X10_isSquareNumber (l : Launch) (G : va_G) (ct : Nat → ClassId) (p0 : Int32)  : Met l yX10_isSquareNumber wsX10_isSquareNumber ({ frames := 0, cells := 0, slots := 0, locals := 0 }) (va_Pc [.int p0] (roP G ct [])) (roQ (fun r => rg 0 1 r ∧ (¬ r = 0 → rg 1 20 p0) ∧ True)) 0 0 no := by
  refine Met.ofW (cc := cX10_isSquareNumber) (maxL := 1) (ret := (some .boolean)) (by decide) rfl ?_
  intro p e s m args below meth c s₁ B hml hv
  obtain ⟨rfl, hP, hK⟩ := hv
  have hx := B.exec
  have hb := B.bytes
  have hr := B.returns
  have hts := atoms_spec (ws := wsX10_isSquareNumber) B.pre
  have hown : s.vm.findClass RX10 = some m.cls := findClass_of_methodNamed B.named
  have hlocks := B.notSynchronized
  have hS : va_S no s.heap s.heap [] := va_S.rf
  have hl := lv_entry ([.int p0]) (n := 1) (Nat.le_of_ble_eq_true rfl)
  rw [lg_entry_eq]
  generalize (lg_sl ([.int p0]) ++ List.replicate (1 - (lg_sl ([.int p0])).length) Slot.unset).toArray = ls at hl ⊢
  have hl : lv_has ls 1 [(0, .int p0)] := hl
  refine lv_iload_n hx hb dX10_isSquareNumber_0 rfl (lv_at hl 0 rfl) ?_
  refine lv_iconst (v := 1) hx hb dX10_isSquareNumber_1 (by decide) ?_
  refine lv_icmp_lt (tgt := 15) hx hb dX10_isSquareNumber_2 (by decide) (fun c2 => ?_) (fun c2 => ?_)
  · have h_1 : rg (-2147483648) 0 p0 := r_lt_l_i c2 (rg_t p0) (rgn 1 (x := 1) (by decide)) (by decide)
    refine lv_iconst (v := 0) hx hb dX10_isSquareNumber_15 (by decide) ?_
    exact W.zret (v := 0) (ty := .boolean) hx hb hr (rfl) (fun t ht hW => ⟨⟨0, (), rfl, ⟨(rg_w (c := 0) (d := 1) (rgn 0 (x := 0) (by decide)) (by decide)), (fun hq => absurd (req (rgn 0 (x := 0) (by decide)) (y := 0) (by decide)) hq), trivial⟩, trivial⟩, hS.F ht⟩) hS.2.2 dX10_isSquareNumber_16
  · have h_2 : rg 1 2147483647 p0 := r_le_r_i (nlt_i c2) (rgn 1 (x := 1) (by decide)) (rg_t p0)
    refine lv_iload_n hx hb dX10_isSquareNumber_5 rfl (lv_at hl 0 rfl) ?_
    refine lv_bipush (v := 20) hx hb dX10_isSquareNumber_6 (by decide) ?_
    refine lv_icmp_gt (tgt := 15) hx hb dX10_isSquareNumber_8 (by decide) (fun c8 => ?_) (fun c8 => ?_)
    · have h_3 : rg 21 2147483647 p0 := r_lt_r_i c8 (rgn 20 (x := 20) (by decide)) h_2 (by decide)
      refine lv_iconst (v := 0) hx hb dX10_isSquareNumber_15 (by decide) ?_
      exact W.zret (v := 0) (ty := .boolean) hx hb hr (rfl) (fun t ht hW => ⟨⟨0, (), rfl, ⟨(rg_w (c := 0) (d := 1) (rgn 0 (x := 0) (by decide)) (by decide)), (fun hq => absurd (req (rgn 0 (x := 0) (by decide)) (y := 0) (by decide)) hq), trivial⟩, trivial⟩, hS.F ht⟩) hS.2.2 dX10_isSquareNumber_16
    · have h_4 : rg 1 20 p0 := r_le_l_i (nlt_i c8) h_2 (rgn 20 (x := 20) (by decide))
      refine lv_iconst (v := 1) hx hb dX10_isSquareNumber_11 (by decide) ?_
      refine lv_goto (tgt := 16) hx hb dX10_isSquareNumber_12 (by decide) ?_
      exact W.zret (v := 1) (ty := .boolean) hx hb hr (rfl) (fun t ht hW => ⟨⟨1, (), rfl, ⟨(rg_w (c := 0) (d := 1) (rgn 1 (x := 1) (by decide)) (by decide)), (fun _ => h_4), trivial⟩, trivial⟩, hS.F ht⟩) hS.2.2 dX10_isSquareNumber_16

set_option maxHeartbeats 4000000 in
set_option maxRecDepth 100000 in
theorem a_X10_bitOf (l : Launch) (G : va_G) (ct : Nat → ClassId) (p0 : Int32) (p1 : Int32)  : Met l yX10_bitOf wsX10_bitOf ({ frames := 0, cells := 0, slots := 0, locals := 0 }) (va_Pc [.int p0, .int p1] (roP G ct [])) (roQ (fun r => rg 0 1 r ∧ True)) 0 0 no := by
  refine Met.ofW (cc := cX10_bitOf) (maxL := 2) (ret := (some .int)) (by decide) rfl ?_
  intro p e s m args below meth c s₁ B hml hv
  obtain ⟨rfl, hP, hK⟩ := hv
  have hx := B.exec
  have hb := B.bytes
  have hr := B.returns
  have hts := atoms_spec (ws := wsX10_bitOf) B.pre
  have hown : s.vm.findClass RX10 = some m.cls := findClass_of_methodNamed B.named
  have hlocks := B.notSynchronized
  have hS : va_S no s.heap s.heap [] := va_S.rf
  have hl := lv_entry ([.int p0, .int p1]) (n := 2) (Nat.le_of_ble_eq_true rfl)
  rw [lg_entry_eq]
  generalize (lg_sl ([.int p0, .int p1]) ++ List.replicate (2 - (lg_sl ([.int p0, .int p1])).length) Slot.unset).toArray = ls at hl ⊢
  have hl : lv_has ls 2 [(0, .int p0), (1, .int p1)] := hl
  refine lv_iload_n hx hb dX10_bitOf_0 rfl (lv_at hl 0 rfl) ?_
  refine lv_iload_n hx hb dX10_bitOf_1 rfl (lv_at hl 1 rfl) ?_
  refine lv_ishr hx hb dX10_bitOf_2 ?_
  refine nm_0 (fun z2 => ?_)
  refine lv_iconst (v := 1) hx hb dX10_bitOf_3 (by decide) ?_
  refine lv_iand hx hb dX10_bitOf_4 ?_
  refine nm_andr (rgn 1 (x := 1) (by decide)) (by decide) (fun z4 hz4 => ?_)
  exact W.iret (v := z4) hx hb hr (fun t ht hW => ⟨⟨z4, (), rfl, ⟨hz4, trivial⟩, trivial⟩, hS.F ht⟩) hS.2.2 dX10_bitOf_5

set_option maxHeartbeats 4000000 in
set_option maxRecDepth 100000 in
theorem a_X10_commonDivisor (l : Launch) (G : va_G) (ct : Nat → ClassId) (p0 : Int32) (p1 : Int32)  : Met l yX10_commonDivisor wsX10_commonDivisor ({ frames := 0, cells := 0, slots := 0, locals := 0 }) (va_Pc [.int p0, .int p1] (roP G ct [])) (roQ (fun r => True)) 0 0 no := by
  refine Met.ofW (cc := cX10_commonDivisor) (maxL := 6) (ret := (some .int)) (by decide) rfl ?_
  intro p e s m args below meth c s₁ B hml hv
  obtain ⟨rfl, hP, hK⟩ := hv
  have hx := B.exec
  have hb := B.bytes
  have hr := B.returns
  have hts := atoms_spec (ws := wsX10_commonDivisor) B.pre
  have hown : s.vm.findClass RX10 = some m.cls := findClass_of_methodNamed B.named
  have hlocks := B.notSynchronized
  have hS : va_S no s.heap s.heap [] := va_S.rf
  have hl := lv_entry ([.int p0, .int p1]) (n := 6) (Nat.le_of_ble_eq_true rfl)
  rw [lg_entry_eq]
  generalize (lg_sl ([.int p0, .int p1]) ++ List.replicate (6 - (lg_sl ([.int p0, .int p1])).length) Slot.unset).toArray = ls at hl ⊢
  have hl : lv_has ls 6 [(0, .int p0), (1, .int p1)] := hl
  refine lv_iload_n hx hb dX10_commonDivisor_0 rfl (lv_at hl 0 rfl) ?_
  refine lv_istore_n (lv' := [(2, .int p0), (0, .int p0), (1, .int p1)]) hx hb dX10_commonDivisor_1 rfl hl (by decide) rfl (fun ls hl => ?_)
  refine lv_iload_n hx hb dX10_commonDivisor_2 rfl (lv_at hl 2 rfl) ?_
  refine lv_istore_n (lv' := [(3, .int p1), (2, .int p0), (0, .int p0), (1, .int p1)]) hx hb dX10_commonDivisor_3 rfl hl (by decide) rfl (fun ls hl => ?_)
  refine lv_iconst (v := 0) hx hb dX10_commonDivisor_4 (by decide) ?_
  refine lv_istore (lv' := [(4, .int 0), (3, .int p1), (2, .int p0), (0, .int p0), (1, .int p1)]) hx hb dX10_commonDivisor_5 hl (by decide) rfl (fun ls hl => ?_)
  have j7 : ∀ (n : Nat) (x7_2 : Int32) (x7_3 : Int32) (x7_4 : Int32) (H : Heap) (locs : List Loc) (ls : Array Slot), 2147483648 ≤ x7_4.toInt + (n : Int) → rg 0 64 x7_4 → va_P G vwCl [] H → va_S no s.heap H locs → lv_has ls 6 [(0, .int p0), (1, .int p1), (2, .int x7_2), (3, .int x7_3), (4, .int x7_4)] → W p l e (headSpec wsX10_commonDivisor ({ frames := 0, cells := 0, slots := 0, locals := 0 })).room s m ([.int p0, .int p1] : List Value).toArray below meth c H locs 0 0 (MQ below (roQ (fun r => True)) ([.int p0, .int p1] : List Value).toArray s 0 0 no) (F0 m 7 ls []) := by
    intro n
    induction n with
    | zero => intro x7_2 x7_3 x7_4 H locs ls hn7 hx7_4 hP hS hl; exact absurd hn7 (by have := Int32.toInt_lt x7_4; have := Int32.le_toInt x7_4; omega)
    | succ n ih7 =>
      intro x7_2 x7_3 x7_4 H locs ls hn7 hx7_4 hP hS hl
      refine lv_iload hx hb dX10_commonDivisor_7 (lv_at hl 4 rfl) ?_
      refine lv_bipush (v := 64) hx hb dX10_commonDivisor_9 (by decide) ?_
      refine lv_icmp_ge (tgt := 34) hx hb dX10_commonDivisor_11 (by decide) (fun c11 => ?_) (fun c11 => ?_)
      · have h_1 : rg 64 64 x7_4 := r_le_r_i c11 (rgn 64 (x := 64) (by decide)) hx7_4
        refine lv_iload_n hx hb dX10_commonDivisor_34 rfl (lv_at hl 2 rfl) ?_
        exact W.iret (v := x7_2) hx hb hr (fun t ht hW => ⟨⟨x7_2, (), rfl, trivial, trivial⟩, hS.F ht⟩) hS.2.2 dX10_commonDivisor_35
      · have h_2 : rg 0 63 x7_4 := r_lt_l_i (nle_i c11) hx7_4 (rgn 64 (x := 64) (by decide)) (by decide)
        refine lv_iload_n hx hb dX10_commonDivisor_14 rfl (lv_at hl 3 rfl) ?_
        refine lv_if_eq (tgt := 34) hx hb dX10_commonDivisor_15 (by decide) (fun c15 => ?_) (fun c15 => ?_)
        · have h_3 : rg 0 0 x7_3 := r_eq_l_i (e := 0) (f := 0) c15 (rg_t x7_3) (rgn 0 (x := 0) (by decide)) (by decide)
          refine lv_iload_n hx hb dX10_commonDivisor_34 rfl (lv_at hl 2 rfl) ?_
          exact W.iret (v := x7_2) hx hb hr (fun t ht hW => ⟨⟨x7_2, (), rfl, trivial, trivial⟩, hS.F ht⟩) hS.2.2 dX10_commonDivisor_35
        · refine lv_iload_n hx hb dX10_commonDivisor_18 rfl (lv_at hl 2 rfl) ?_
          refine lv_iload_n hx hb dX10_commonDivisor_19 rfl (lv_at hl 3 rfl) ?_
          refine lv_irem hx hb dX10_commonDivisor_20 c15 ?_
          refine nm_0 (fun z20 => ?_)
          refine lv_istore (lv' := [(5, .int z20), (0, .int p0), (1, .int p1), (2, .int x7_2), (3, .int x7_3), (4, .int x7_4)]) hx hb dX10_commonDivisor_21 hl (by decide) rfl (fun ls hl => ?_)
          refine lv_iload_n hx hb dX10_commonDivisor_23 rfl (lv_at hl 4 rfl) ?_
          refine lv_istore_n (lv' := [(2, .int x7_3), (5, .int z20), (0, .int p0), (1, .int p1), (3, .int x7_3), (4, .int x7_4)]) hx hb dX10_commonDivisor_24 rfl hl (by decide) rfl (fun ls hl => ?_)
          refine lv_iload hx hb dX10_commonDivisor_25 (lv_at hl 1 rfl) ?_
          refine lv_istore_n (lv' := [(3, .int z20), (2, .int x7_3), (5, .int z20), (0, .int p0), (1, .int p1), (4, .int x7_4)]) hx hb dX10_commonDivisor_27 rfl hl (by decide) rfl (fun ls hl => ?_)
          obtain ⟨z28, qz28⟩ : ∃ y : Int32, y = x7_4 + Int32.ofInt 1 := ⟨_, rfl⟩
          obtain ⟨hz28, ez28⟩ := inc_z (e := 1) (f := 64) h_2 qz28 (by decide)
          refine lv_iinc (v := z28) (lv' := [(4, .int z28), (3, .int z20), (2, .int x7_3), (5, .int z20), (0, .int p0), (1, .int p1)]) hx hb dX10_commonDivisor_28 hl (k := 5) rfl (qz28.symm) (by decide) rfl (fun ls hl => ?_)
          refine lv_goto (tgt := 7) hx hb dX10_commonDivisor_31 (by decide) ?_
          exact ih7 x7_3 z20 z28 _ _ ls (by have q := hn7; have := ez28; omega) (rg_w (c := 0) (d := 64) hz28 (by decide)) hP hS (lv_sub hl [4, 5, 2, 1, 0] rfl)
  exact j7 4294967296 p0 p1 (0 : Int32) _ _ ls (ms_e (0 : Int32)) (rg_w (c := 0) (d := 64) (rgn 0 (x := 0) (by decide)) (by decide)) hP hS (lv_sub hl [3, 4, 2, 1, 0] rfl)
