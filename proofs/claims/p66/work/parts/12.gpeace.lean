theorem dX3_take_0 : decode cX3_take 0 = .ok (.aload_n 0, 1) := by decide +kernel
theorem dX3_take_1 : decode cX3_take 1 = .ok (.aload_n 1, 1) := by decide +kernel
theorem dX3_take_2 : decode cX3_take 2 = .ok (.getfield 21, 3) := by decide +kernel
theorem dX3_take_5 : decode cX3_take 5 = .ok (.getfield 27, 3) := by decide +kernel
theorem dX3_take_8 : decode cX3_take 8 = .ok (.getfield 33, 3) := by decide +kernel
theorem dX3_take_11 : decode cX3_take 11 = .ok (.bipush 8, 2) := by decide +kernel
theorem dX3_take_13 : decode cX3_take 13 = .ok (.invokestatic 39, 3) := by decide +kernel
theorem dX3_take_16 : decode cX3_take 16 = .ok (.putfield 45, 3) := by decide +kernel
theorem dX3_take_19 : decode cX3_take 19 = .ok (.iconst 0, 1) := by decide +kernel
theorem dX3_take_20 : decode cX3_take 20 = .ok (.istore_n 2, 1) := by decide +kernel
theorem dX3_take_21 : decode cX3_take 21 = .ok (.iload_n 2, 1) := by decide +kernel
theorem dX3_take_22 : decode cX3_take 22 = .ok (.aload_n 0, 1) := by decide +kernel
theorem dX3_take_23 : decode cX3_take 23 = .ok (.getfield 45, 3) := by decide +kernel
theorem dX3_take_26 : decode cX3_take 26 = .ok (.if_icmp .ge 90, 3) := by decide +kernel
theorem dX3_take_116 : decode cX3_take 116 = .ok (.return_, 1) := by decide +kernel
theorem dX3_take_29 : decode cX3_take 29 = .ok (.iconst 1, 1) := by decide +kernel
theorem dX3_take_30 : decode cX3_take 30 = .ok (.iload_n 2, 1) := by decide +kernel
theorem dX3_take_31 : decode cX3_take 31 = .ok (.ishl, 1) := by decide +kernel
theorem dX3_take_32 : decode cX3_take 32 = .ok (.iconst (-1), 1) := by decide +kernel
theorem dX3_take_33 : decode cX3_take 33 = .ok (.ixor, 1) := by decide +kernel
theorem dX3_take_34 : decode cX3_take 34 = .ok (.istore_n 3, 1) := by decide +kernel
theorem dX3_take_35 : decode cX3_take 35 = .ok (.aload_n 1, 1) := by decide +kernel
theorem dX3_take_36 : decode cX3_take 36 = .ok (.getfield 46, 3) := by decide +kernel
theorem dX3_take_39 : decode cX3_take 39 = .ok (.getfield 50, 3) := by decide +kernel
theorem dX3_take_42 : decode cX3_take 42 = .ok (.iload_n 2, 1) := by decide +kernel
set_option maxRecDepth 20000 in
theorem ggX3_take_X0_holderOf : GoodIn wsX3_take wsX0_holderOf := goodIn_r _ [18, 19, 20, 21, 22, 17, 23, 24, 58, 59] (by rfl) (by decide +kernel)
set_option maxRecDepth 20000 in
theorem gX3_take_X0_holderOf : GoodIn wsX3_take (wsV RX3 53 RX0 yX0_holderOf wsX0_holderOf) := goodIn_app (goodIn_r _ [14, 15, 16, 17] (by rfl) (by decide +kernel)) ggX3_take_X0_holderOf
theorem dX3_take_43 : decode cX3_take 43 = .ok (.invokevirtual 53, 3) := by decide +kernel
theorem dX3_take_46 : decode cX3_take 46 = .ok (.istore 4, 2) := by decide +kernel
theorem dX3_take_48 : decode cX3_take 48 = .ok (.aload_n 0, 1) := by decide +kernel
theorem dX3_take_49 : decode cX3_take 49 = .ok (.getfield 9, 3) := by decide +kernel
theorem dX3_take_52 : decode cX3_take 52 = .ok (.iload_n 2, 1) := by decide +kernel
theorem dX3_take_53 : decode cX3_take 53 = .ok (.aload_n 1, 1) := by decide +kernel
theorem dX3_take_54 : decode cX3_take 54 = .ok (.getfield 21, 3) := by decide +kernel
theorem dX3_take_57 : decode cX3_take 57 = .ok (.iload_n 2, 1) := by decide +kernel
set_option maxRecDepth 20000 in
theorem ggX3_take_X9_worthOf : GoodIn wsX3_take wsX9_worthOf := goodIn_r _ [29, 30, 31, 32, 21, 22, 17, 23, 24, 51, 52, 53, 54, 55, 56, 57, 58, 59] (by rfl) (by decide +kernel)
set_option maxRecDepth 20000 in
theorem gX3_take_X9_worthOf : GoodIn wsX3_take (wsV RX3 57 RX9 yX9_worthOf wsX9_worthOf) := goodIn_app (goodIn_r _ [25, 26, 27, 28] (by rfl) (by decide +kernel)) ggX3_take_X9_worthOf
theorem dX3_take_58 : decode cX3_take 58 = .ok (.invokevirtual 57, 3) := by decide +kernel
theorem dX3_take_61 : decode cX3_take 61 = .ok (.iastore, 1) := by decide +kernel
theorem dX3_take_62 : decode cX3_take 62 = .ok (.aload_n 0, 1) := by decide +kernel
theorem dX3_take_63 : decode cX3_take 63 = .ok (.getfield 15, 3) := by decide +kernel
theorem dX3_take_66 : decode cX3_take 66 = .ok (.iload_n 2, 1) := by decide +kernel
theorem dX3_take_67 : decode cX3_take 67 = .ok (.aload_n 1, 1) := by decide +kernel
theorem dX3_take_68 : decode cX3_take 68 = .ok (.getfield 21, 3) := by decide +kernel
theorem dX3_take_71 : decode cX3_take 71 = .ok (.aload_n 1, 1) := by decide +kernel
theorem dX3_take_72 : decode cX3_take 72 = .ok (.getfield 46, 3) := by decide +kernel
theorem dX3_take_75 : decode cX3_take 75 = .ok (.getfield 50, 3) := by decide +kernel
theorem dX3_take_78 : decode cX3_take 78 = .ok (.iload_n 2, 1) := by decide +kernel
set_option maxRecDepth 20000 in
theorem ggX3_take_X0_handOf : GoodIn wsX3_take wsX0_handOf := goodIn_r _ [36, 24, 37, 15, 16, 17, 18, 19, 20, 21, 22, 23, 58, 59] (by rfl) (by decide +kernel)
set_option maxRecDepth 20000 in
theorem gX3_take_X0_handOf : GoodIn wsX3_take (wsV RX3 60 RX0 yX0_handOf wsX0_handOf) := goodIn_app (goodIn_r _ [33, 34, 35, 17] (by rfl) (by decide +kernel)) ggX3_take_X0_handOf
theorem dX3_take_79 : decode cX3_take 79 = .ok (.invokevirtual 60, 3) := by decide +kernel
theorem dX3_take_82 : decode cX3_take 82 = .ok (.iload_n 3, 1) := by decide +kernel
theorem dX3_take_83 : decode cX3_take 83 = .ok (.iand, 1) := by decide +kernel
set_option maxRecDepth 20000 in
theorem ggX3_take_X9_worthOfAll : GoodIn wsX3_take wsX9_worthOfAll := goodIn_r _ [41, 30, 42, 43, 44, 45, 46, 26, 27, 28, 29, 31, 32, 21, 22, 17, 23, 24, 51, 52, 53, 54, 55, 56, 57, 58, 59] (by rfl) (by decide +kernel)
set_option maxRecDepth 20000 in
theorem gX3_take_X9_worthOfAll : GoodIn wsX3_take (wsV RX3 63 RX9 yX9_worthOfAll wsX9_worthOfAll) := goodIn_app (goodIn_r _ [38, 39, 40, 28] (by rfl) (by decide +kernel)) ggX3_take_X9_worthOfAll
theorem dX3_take_84 : decode cX3_take 84 = .ok (.invokevirtual 63, 3) := by decide +kernel
theorem dX3_take_87 : decode cX3_take 87 = .ok (.iastore, 1) := by decide +kernel
theorem dX3_take_88 : decode cX3_take 88 = .ok (.aload_n 0, 1) := by decide +kernel
theorem dX3_take_89 : decode cX3_take 89 = .ok (.getfield 18, 3) := by decide +kernel
theorem dX3_take_92 : decode cX3_take 92 = .ok (.iload_n 2, 1) := by decide +kernel
theorem dX3_take_93 : decode cX3_take 93 = .ok (.iload 4, 2) := by decide +kernel
theorem dX3_take_95 : decode cX3_take 95 = .ok (.iconst (-1), 1) := by decide +kernel
theorem dX3_take_109 : decode cX3_take 109 = .ok (.iastore, 1) := by decide +kernel
theorem dX3_take_110 : decode cX3_take 110 = .ok (.iinc 2 1, 3) := by decide +kernel
theorem dX3_take_113 : decode cX3_take 113 = .ok (.goto (-92), 3) := by decide +kernel
theorem dX3_take_96 : decode cX3_take 96 = .ok (.if_icmp .ne 7, 3) := by decide +kernel
theorem dX3_take_103 : decode cX3_take 103 = .ok (.iconst 1, 1) := by decide +kernel
theorem dX3_take_104 : decode cX3_take 104 = .ok (.iload 4, 2) := by decide +kernel
theorem dX3_take_106 : decode cX3_take 106 = .ok (.ishl, 1) := by decide +kernel
theorem dX3_take_107 : decode cX3_take 107 = .ok (.iload_n 3, 1) := by decide +kernel
theorem dX3_take_108 : decode cX3_take 108 = .ok (.iand, 1) := by decide +kernel
theorem dX3_take_99 : decode cX3_take 99 = .ok (.iconst 0, 1) := by decide +kernel
theorem dX3_take_100 : decode cX3_take 100 = .ok (.goto 9, 3) := by decide +kernel
theorem dX3_gainOf_0 : decode cX3_gainOf 0 = .ok (.iload_n 2, 1) := by decide +kernel
theorem dX3_gainOf_1 : decode cX3_gainOf 1 = .ok (.ifCond .lt 11, 3) := by decide +kernel
theorem dX3_gainOf_12 : decode cX3_gainOf 12 = .ok (.iconst 0, 1) := by decide +kernel
theorem dX3_gainOf_13 : decode cX3_gainOf 13 = .ok (.ireturn, 1) := by decide +kernel
theorem dX3_gainOf_4 : decode cX3_gainOf 4 = .ok (.iload_n 2, 1) := by decide +kernel
theorem dX3_gainOf_5 : decode cX3_gainOf 5 = .ok (.aload_n 0, 1) := by decide +kernel
theorem dX3_gainOf_6 : decode cX3_gainOf 6 = .ok (.getfield 45, 3) := by decide +kernel
theorem dX3_gainOf_9 : decode cX3_gainOf 9 = .ok (.if_icmp .lt 5, 3) := by decide +kernel
theorem dX3_gainOf_14 : decode cX3_gainOf 14 = .ok (.iload_n 1, 1) := by decide +kernel
theorem dX3_gainOf_15 : decode cX3_gainOf 15 = .ok (.aload_n 0, 1) := by decide +kernel
theorem dX3_gainOf_16 : decode cX3_gainOf 16 = .ok (.getfield 18, 3) := by decide +kernel
theorem dX3_gainOf_19 : decode cX3_gainOf 19 = .ok (.iload_n 2, 1) := by decide +kernel
theorem dX3_gainOf_20 : decode cX3_gainOf 20 = .ok (.iaload, 1) := by decide +kernel
theorem dX3_gainOf_21 : decode cX3_gainOf 21 = .ok (.iand, 1) := by decide +kernel
theorem dX3_gainOf_35 : decode cX3_gainOf 35 = .ok (.istore_n 3, 1) := by decide +kernel
theorem dX3_gainOf_36 : decode cX3_gainOf 36 = .ok (.iload_n 3, 1) := by decide +kernel
theorem dX3_gainOf_37 : decode cX3_gainOf 37 = .ok (.aload_n 0, 1) := by decide +kernel
theorem dX3_gainOf_38 : decode cX3_gainOf 38 = .ok (.getfield 15, 3) := by decide +kernel
theorem dX3_gainOf_41 : decode cX3_gainOf 41 = .ok (.iload_n 2, 1) := by decide +kernel
theorem dX3_gainOf_42 : decode cX3_gainOf 42 = .ok (.iaload, 1) := by decide +kernel
theorem dX3_gainOf_43 : decode cX3_gainOf 43 = .ok (.isub, 1) := by decide +kernel
theorem dX3_gainOf_44 : decode cX3_gainOf 44 = .ok (.ireturn, 1) := by decide +kernel
theorem dX3_gainOf_22 : decode cX3_gainOf 22 = .ok (.ifCond .eq 12, 3) := by decide +kernel
theorem dX3_gainOf_34 : decode cX3_gainOf 34 = .ok (.iconst 0, 1) := by decide +kernel
theorem dX3_gainOf_25 : decode cX3_gainOf 25 = .ok (.aload_n 0, 1) := by decide +kernel
theorem dX3_gainOf_26 : decode cX3_gainOf 26 = .ok (.getfield 9, 3) := by decide +kernel
theorem dX3_gainOf_29 : decode cX3_gainOf 29 = .ok (.iload_n 2, 1) := by decide +kernel
theorem dX3_gainOf_30 : decode cX3_gainOf 30 = .ok (.iaload, 1) := by decide +kernel
theorem dX3_gainOf_31 : decode cX3_gainOf 31 = .ok (.goto 4, 3) := by decide +kernel
theorem dX3_losersOf_0 : decode cX3_losersOf 0 = .ok (.iconst 0, 1) := by decide +kernel
theorem dX3_losersOf_1 : decode cX3_losersOf 1 = .ok (.istore_n 2, 1) := by decide +kernel
theorem dX3_losersOf_2 : decode cX3_losersOf 2 = .ok (.iconst 0, 1) := by decide +kernel
theorem dX3_losersOf_3 : decode cX3_losersOf 3 = .ok (.istore_n 3, 1) := by decide +kernel
theorem dX3_losersOf_4 : decode cX3_losersOf 4 = .ok (.iload_n 3, 1) := by decide +kernel
theorem dX3_losersOf_5 : decode cX3_losersOf 5 = .ok (.aload_n 0, 1) := by decide +kernel
theorem dX3_losersOf_6 : decode cX3_losersOf 6 = .ok (.getfield 45, 3) := by decide +kernel
theorem dX3_losersOf_9 : decode cX3_losersOf 9 = .ok (.if_icmp .ge 33, 3) := by decide +kernel
theorem dX3_losersOf_42 : decode cX3_losersOf 42 = .ok (.iload_n 2, 1) := by decide +kernel
theorem dX3_losersOf_43 : decode cX3_losersOf 43 = .ok (.ireturn, 1) := by decide +kernel
theorem dX3_losersOf_12 : decode cX3_losersOf 12 = .ok (.iload_n 1, 1) := by decide +kernel
theorem dX3_losersOf_13 : decode cX3_losersOf 13 = .ok (.iload_n 3, 1) := by decide +kernel
set_option maxRecDepth 20000 in
theorem ggX3_losersOf_X10_bitOf : GoodIn wsX3_losersOf wsX10_bitOf := goodIn_r _ [4] (by rfl) (by decide +kernel)
set_option maxRecDepth 20000 in
theorem gX3_losersOf_X10_bitOf_n66 : GoodIn wsX3_losersOf (wsX10_bitOf) := ggX3_losersOf_X10_bitOf
theorem dX3_losersOf_14 : decode cX3_losersOf 14 = .ok (.invokestatic 66, 3) := by decide +kernel
theorem dX3_losersOf_17 : decode cX3_losersOf 17 = .ok (.iconst 1, 1) := by decide +kernel
theorem dX3_losersOf_36 : decode cX3_losersOf 36 = .ok (.iinc 3 1, 3) := by decide +kernel
theorem dX3_losersOf_39 : decode cX3_losersOf 39 = .ok (.goto (-35), 3) := by decide +kernel
theorem dX3_losersOf_18 : decode cX3_losersOf 18 = .ok (.if_icmp .ne 18, 3) := by decide +kernel
theorem dX3_losersOf_21 : decode cX3_losersOf 21 = .ok (.aload_n 0, 1) := by decide +kernel
theorem dX3_losersOf_22 : decode cX3_losersOf 22 = .ok (.iload_n 1, 1) := by decide +kernel
theorem dX3_losersOf_23 : decode cX3_losersOf 23 = .ok (.iload_n 3, 1) := by decide +kernel
set_option maxRecDepth 20000 in
theorem ggX3_losersOf_X3_gainOf : GoodIn wsX3_losersOf wsX3_gainOf := goodIn_r _ [9, 1, 10, 11, 12, 13, 14, 15, 16] (by rfl) (by decide +kernel)
set_option maxRecDepth 20000 in
theorem gX3_losersOf_X3_gainOf : GoodIn wsX3_losersOf (wsV RX3 69 RX3 yX3_gainOf wsX3_gainOf) := goodIn_app (goodIn_r _ [5, 6, 7, 8] (by rfl) (by decide +kernel)) ggX3_losersOf_X3_gainOf
theorem dX3_losersOf_24 : decode cX3_losersOf 24 = .ok (.invokevirtual 69, 3) := by decide +kernel
theorem dX3_losersOf_27 : decode cX3_losersOf 27 = .ok (.ifCond .ge 9, 3) := by decide +kernel
theorem dX3_losersOf_30 : decode cX3_losersOf 30 = .ok (.iload_n 2, 1) := by decide +kernel
theorem dX3_losersOf_31 : decode cX3_losersOf 31 = .ok (.iconst 1, 1) := by decide +kernel
theorem dX3_losersOf_32 : decode cX3_losersOf 32 = .ok (.iload_n 3, 1) := by decide +kernel
theorem dX3_losersOf_33 : decode cX3_losersOf 33 = .ok (.ishl, 1) := by decide +kernel
theorem dX3_losersOf_34 : decode cX3_losersOf 34 = .ok (.ior, 1) := by decide +kernel
theorem dX3_losersOf_35 : decode cX3_losersOf 35 = .ok (.istore_n 2, 1) := by decide +kernel
set_option maxHeartbeats 4000000 in
set_option maxRecDepth 100000 in
theorem a_X3_take (l : Launch) (G : va_G) (ct : Nat → ClassId) (a0 : Nat) (a1 : Nat) (a2 : Nat) (a3 : Nat) (n0_3 : Int32) (f1 : Nat → Int32) (f2 : Nat → Int32) (f3 : Nat → Int32) (a4 : Nat) (a5 : Nat) (a12 : Nat) (a17 : Nat) (n4_3 : Int32) (a6 : Nat) (a8 : Nat) (a9 : Nat) (a10 : Nat) (a11 : Nat) (n5_5 : Int32) (n5_6 : Int32) (a7 : Nat) (n6_1 : Int32) (f8 : Nat → Int32) (a13 : Nat) (a15 : Nat) (a16 : Nat) (n12_4 : Int32) (n12_5 : Int32) (n12_6 : Int32) (n12_7 : Int32) (a14 : Nat) (n13_1 : Int32) (f14 : Nat → Int32) (hp_n0_3 : rg (-2147483648) 8 n0_3) (hp_n6_1 : rg 0 8 n6_1) (hp_n13_1 : rg 0 8 n13_1) : Met l yX3_take wsX3_take ({ frames := 3, cells := 0, slots := 0, locals := 65 }) (va_Pc [.ref a0, .ref a4] (wrP G ct [(a0, .inr (3, [.ref a1, .ref a2, .ref a3, .int n0_3])), (a1, .inl (ct 0, 8, .inl f1)), (a2, .inl (ct 0, 8, .inl f2)), (a3, .inl (ct 0, 8, .inl f3)), (a4, .inr (4, [.ref a5, .ref a12, .ref a17, .int n4_3])), (a5, .inr (9, [.ref a6, .ref a8, .ref a9, .ref a10, .ref a11, .int n5_5, .int n5_6])), (a6, .inr (0, [.ref a7, .int n6_1])), (a8, .inl (ct 0, 8, .inl f8)), (a12, .inr (2, [.ref a5, .ref a13, .ref a15, .ref a16, .int n12_4, .int n12_5, .int n12_6, .int n12_7])), (a13, .inr (0, [.ref a14, .int n13_1])), (a14, .inl (ct 0, 8, .inl f14))])) (va_Qv (fun u : SU => rg 0 8 (u.1 0) ∧ True) (fun u t => va_P G vwCl ((fun u : SU => [(a0, .inr (3, [.ref a1, .ref a2, .ref a3, .int (u.1 0)])), (a1, .inl (ct 0, 8, .inl (u.2.1 0))), (a2, .inl (ct 0, 8, .inl (u.2.1 1))), (a3, .inl (ct 0, 8, .inl (u.2.1 2))), (a4, .inr (4, [.ref a5, .ref a12, .ref a17, .int n4_3])), (a5, .inr (9, [.ref a6, .ref a8, .ref a9, .ref a10, .ref a11, .int n5_5, .int n5_6])), (a6, .inr (0, [.ref a7, .int n6_1])), (a8, .inl (ct 0, 8, .inl f8)), (a12, .inr (2, [.ref a5, .ref a13, .ref a15, .ref a16, .int n12_4, .int n12_5, .int n12_6, .int n12_7])), (a13, .inr (0, [.ref a14, .int n13_1])), (a14, .inl (ct 0, 8, .inl f14))]) u) t.heap) (aset [(a0, .inr (3, [.ref a1, .ref a2, .ref a3, .int n0_3])), (a1, .inl (ct 0, 8, .inl f1)), (a2, .inl (ct 0, 8, .inl f2)), (a3, .inl (ct 0, 8, .inl f3)), (a4, .inr (4, [.ref a5, .ref a12, .ref a17, .int n4_3])), (a5, .inr (9, [.ref a6, .ref a8, .ref a9, .ref a10, .ref a11, .int n5_5, .int n5_6])), (a6, .inr (0, [.ref a7, .int n6_1])), (a8, .inl (ct 0, 8, .inl f8)), (a12, .inr (2, [.ref a5, .ref a13, .ref a15, .ref a16, .int n12_4, .int n12_5, .int n12_6, .int n12_7])), (a13, .inr (0, [.ref a14, .int n13_1])), (a14, .inl (ct 0, 8, .inl f14))])) 0 0 (aset [(a0, .inr (3, [.ref a1, .ref a2, .ref a3, .int n0_3])), (a1, .inl (ct 0, 8, .inl f1)), (a2, .inl (ct 0, 8, .inl f2)), (a3, .inl (ct 0, 8, .inl f3)), (a4, .inr (4, [.ref a5, .ref a12, .ref a17, .int n4_3])), (a5, .inr (9, [.ref a6, .ref a8, .ref a9, .ref a10, .ref a11, .int n5_5, .int n5_6])), (a6, .inr (0, [.ref a7, .int n6_1])), (a8, .inl (ct 0, 8, .inl f8)), (a12, .inr (2, [.ref a5, .ref a13, .ref a15, .ref a16, .int n12_4, .int n12_5, .int n12_6, .int n12_7])), (a13, .inr (0, [.ref a14, .int n13_1])), (a14, .inl (ct 0, 8, .inl f14))]) := by
  refine Met.ofW (cc := cX3_take) (maxL := 5) (ret := none) (by decide) rfl ?_
  intro p e s m args below meth c s₁ B hml hv
  obtain ⟨rfl, hP, hK, hD0⟩ := hv
  have hx := B.exec
  have hb := B.bytes
  have hr := B.returns
  have hts := atoms_spec (ws := wsX3_take) B.pre
  have hown : s.vm.findClass RX3 = some m.cls := findClass_of_methodNamed B.named
  have hlocks := B.notSynchronized
  have hD := hD0.aself
  generalize hAe : aset [(a0, .inr (3, [.ref a1, .ref a2, .ref a3, .int n0_3])), (a1, .inl (ct 0, 8, .inl f1)), (a2, .inl (ct 0, 8, .inl f2)), (a3, .inl (ct 0, 8, .inl f3)), (a4, .inr (4, [.ref a5, .ref a12, .ref a17, .int n4_3])), (a5, .inr (9, [.ref a6, .ref a8, .ref a9, .ref a10, .ref a11, .int n5_5, .int n5_6])), (a6, .inr (0, [.ref a7, .int n6_1])), (a8, .inl (ct 0, 8, .inl f8)), (a12, .inr (2, [.ref a5, .ref a13, .ref a15, .ref a16, .int n12_4, .int n12_5, .int n12_6, .int n12_7])), (a13, .inr (0, [.ref a14, .int n13_1])), (a14, .inl (ct 0, 8, .inl f14))] = A at hD ⊢
  have hS : va_S A s.heap s.heap [] := va_S.rf
  have hl := lv_entry ([.ref a0, .ref a4]) (n := 5) (Nat.le_of_ble_eq_true rfl)
  rw [lg_entry_eq]
  generalize (lg_sl ([.ref a0, .ref a4]) ++ List.replicate (5 - (lg_sl ([.ref a0, .ref a4])).length) Slot.unset).toArray = ls at hl ⊢
  have hl : lv_has ls 5 [(0, .ref a0), (1, .ref a4)] := hl
  refine lv_aload_n hx hb dX3_take_0 rfl (lv_at hl 0 rfl) ?_
  refine lv_aload_n hx hb dX3_take_1 rfl (lv_at hl 1 rfl) ?_
  refine va_get (D := G) (ci := 4) (v := .ref a5) (C := RX4) (T := TX4) (N := 4) hx hb hts (by decide +kernel) hown hK.1 hP 4 rfl rfl 0 (by decide) (hts (.fieldLink RX3 21 "CardHolder$Play" "town" "LCardHolder$Town;") (by decide +kernel)) (fun _ h9 => h9) rfl dX3_take_2 ?_
  refine va_get (D := G) (ci := 9) (v := .ref a6) (C := RX9) (T := TX9) (N := 7) hx hb hts (by decide +kernel) hown hK.1 hP 5 rfl rfl 0 (by decide) (hts (.fieldLink RX3 27 "CardHolder$Town" "bonds" "LCardHolder$Bonds;") (by decide +kernel)) (fun _ h9 => h9) rfl dX3_take_5 ?_
  refine va_get (D := G) (ci := 0) (v := .int n6_1) (C := RX0) (T := TX0) (N := 2) hx hb hts (by decide +kernel) hown hK.1 hP 6 rfl rfl 1 (by decide) (hts (.fieldLink RX3 33 "CardHolder$Bonds" "persons" "I") (by decide +kernel)) (fun _ h9 => h9) rfl dX3_take_8 ?_
  refine lv_bipush (v := 8) hx hb dX3_take_11 (by decide) ?_
  refine va_mmin hx hb (hml.trans hl.1.symm) hown (hts (.methodLink RX3 39 Lib.Math.min.name) (by decide +kernel)) (hts (.static Lib.Math.min.name) (by decide +kernel)) (hts (.initialized "java/lang/Math") (by decide +kernel)) (hts (.code Lib.Math.min.name Lib.Math.min.code 2 (some .int)) (List.mem_of_getElem? (i := 7) rfl)) (Nat.le_of_ble_eq_true rfl) (Nat.le_of_ble_eq_true rfl) (Nat.zero_le _) (Nat.zero_le _) dX3_take_13 ?_
  refine nm_min (e1 := 0) (f := 8) hp_n6_1 (rgn 8 (x := 8) (by decide)) (by decide) (fun z13 hz13 => ?_)
  refine va_put (D := G) (ci := 3) (v := .int z13) (ty := .int) (C := RX3) (T := TX3) (N := 4) hx hb hts (by decide +kernel) tyX3 tyX3_ok nmX3 hown hK.1 hP hD hS 0 rfl rfl 3 (by decide) (hts (.fieldLink RX3 45 "CardHolder$Peace" "persons" "I") (by decide +kernel)) (fun _ h9 => h9) rfl (by decide +kernel) rfl rfl (Nat.le_of_ble_eq_true rfl) dX3_take_16 (fun H locs hP hD hS => ?_)
  refine lv_iconst (v := 0) hx hb dX3_take_19 (by decide) ?_
  refine lv_istore_n (lv' := [(2, .int 0), (0, .ref a0), (1, .ref a4)]) hx hb dX3_take_20 rfl hl (by decide) rfl (fun ls hl => ?_)
  have j21 : ∀ (n : Nat) (x21_2 : Int32) (f21_1 : Nat → Int32) (f21_2 : Nat → Int32) (f21_3 : Nat → Int32) (H : Heap) (locs : List Loc) (ls : Array Slot), 2147483648 ≤ x21_2.toInt + (n : Int) → rg 0 8 x21_2 → va_P G vwCl [(a0, .inr (3, [.ref a1, .ref a2, .ref a3, .int z13])), (a1, .inl (ct 0, 8, .inl f21_1)), (a2, .inl (ct 0, 8, .inl f21_2)), (a3, .inl (ct 0, 8, .inl f21_3)), (a4, .inr (4, [.ref a5, .ref a12, .ref a17, .int n4_3])), (a5, .inr (9, [.ref a6, .ref a8, .ref a9, .ref a10, .ref a11, .int n5_5, .int n5_6])), (a6, .inr (0, [.ref a7, .int n6_1])), (a8, .inl (ct 0, 8, .inl f8)), (a12, .inr (2, [.ref a5, .ref a13, .ref a15, .ref a16, .int n12_4, .int n12_5, .int n12_6, .int n12_7])), (a13, .inr (0, [.ref a14, .int n13_1])), (a14, .inl (ct 0, 8, .inl f14))] H → va_D A [(a0, .inr (3, [.ref a1, .ref a2, .ref a3, .int z13])), (a1, .inl (ct 0, 8, .inl f21_1)), (a2, .inl (ct 0, 8, .inl f21_2)), (a3, .inl (ct 0, 8, .inl f21_3)), (a4, .inr (4, [.ref a5, .ref a12, .ref a17, .int n4_3])), (a5, .inr (9, [.ref a6, .ref a8, .ref a9, .ref a10, .ref a11, .int n5_5, .int n5_6])), (a6, .inr (0, [.ref a7, .int n6_1])), (a8, .inl (ct 0, 8, .inl f8)), (a12, .inr (2, [.ref a5, .ref a13, .ref a15, .ref a16, .int n12_4, .int n12_5, .int n12_6, .int n12_7])), (a13, .inr (0, [.ref a14, .int n13_1])), (a14, .inl (ct 0, 8, .inl f14))] → va_S A s.heap H locs → lv_has ls 5 [(0, .ref a0), (1, .ref a4), (2, .int x21_2)] → W p l e (headSpec wsX3_take ({ frames := 3, cells := 0, slots := 0, locals := 65 })).room s m ([.ref a0, .ref a4] : List Value).toArray below meth c H locs 0 0 (MQ below (va_Qv (fun u : SU => rg 0 8 (u.1 0) ∧ True) (fun u t => va_P G vwCl ((fun u : SU => [(a0, .inr (3, [.ref a1, .ref a2, .ref a3, .int (u.1 0)])), (a1, .inl (ct 0, 8, .inl (u.2.1 0))), (a2, .inl (ct 0, 8, .inl (u.2.1 1))), (a3, .inl (ct 0, 8, .inl (u.2.1 2))), (a4, .inr (4, [.ref a5, .ref a12, .ref a17, .int n4_3])), (a5, .inr (9, [.ref a6, .ref a8, .ref a9, .ref a10, .ref a11, .int n5_5, .int n5_6])), (a6, .inr (0, [.ref a7, .int n6_1])), (a8, .inl (ct 0, 8, .inl f8)), (a12, .inr (2, [.ref a5, .ref a13, .ref a15, .ref a16, .int n12_4, .int n12_5, .int n12_6, .int n12_7])), (a13, .inr (0, [.ref a14, .int n13_1])), (a14, .inl (ct 0, 8, .inl f14))]) u) t.heap) A) ([.ref a0, .ref a4] : List Value).toArray s 0 0 A) (F0 m 21 ls []) := by
    intro n
    induction n with
    | zero => intro x21_2 f21_1 f21_2 f21_3 H locs ls hn21 hx21_2 hP hD hS hl; exact absurd hn21 (by have := Int32.toInt_lt x21_2; have := Int32.le_toInt x21_2; omega)
    | succ n ih21 =>
      intro x21_2 f21_1 f21_2 f21_3 H locs ls hn21 hx21_2 hP hD hS hl
      refine lv_iload_n hx hb dX3_take_21 rfl (lv_at hl 2 rfl) ?_
      refine lv_aload_n hx hb dX3_take_22 rfl (lv_at hl 0 rfl) ?_
      refine va_get (D := G) (ci := 3) (v := .int z13) (C := RX3) (T := TX3) (N := 4) hx hb hts (by decide +kernel) hown hK.1 hP 0 rfl rfl 3 (by decide) (hts (.fieldLink RX3 45 "CardHolder$Peace" "persons" "I") (by decide +kernel)) (fun _ h9 => h9) rfl dX3_take_23 ?_
      refine lv_icmp_ge (tgt := 116) hx hb dX3_take_26 (by decide) (fun c26 => ?_) (fun c26 => ?_)
      · exact W.vret hx hb hr (fun t ht hW => ⟨⟨(fun k => ([z13] : List Int32).getD k 0, fun k => ([f21_1, f21_2, f21_3] : List (Nat → Int32)).getD k (fun _ => 0), fun k => ([] : List (Nat → Int64)).getD k (fun _ => 0)), rfl, ⟨hz13, trivial⟩, hp_at ht hP⟩, hS.F ht⟩) hS.2.2 dX3_take_116
      · have h_1 : rg 0 7 x21_2 := r_lt_l_i (nle_i c26) hx21_2 hz13 (by decide)
        have h_2 : rg 1 8 z13 := r_lt_r_i (nle_i c26) hx21_2 hz13 (by decide)
        refine lv_iconst (v := 1) hx hb dX3_take_29 (by decide) ?_
        refine lv_iload_n hx hb dX3_take_30 rfl (lv_at hl 2 rfl) ?_
        refine lv_ishl hx hb dX3_take_31 ?_
        refine nm_shl (e1 := 1) (f := 128) h_1 (by decide) (fun z31 hz31 => ?_)
        refine lv_iconst (v := (-1)) hx hb dX3_take_32 (by decide) ?_
        refine lv_ixor hx hb dX3_take_33 ?_
        refine nm_0 (fun z33 => ?_)
        refine lv_istore_n (lv' := [(3, .int z33), (0, .ref a0), (1, .ref a4), (2, .int x21_2)]) hx hb dX3_take_34 rfl hl (by decide) rfl (fun ls hl => ?_)
        refine lv_aload_n hx hb dX3_take_35 rfl (lv_at hl 2 rfl) ?_
        refine va_get (D := G) (ci := 4) (v := .ref a12) (C := RX4) (T := TX4) (N := 4) hx hb hts (by decide +kernel) hown hK.1 hP 4 rfl rfl 1 (by decide) (hts (.fieldLink RX3 46 "CardHolder$Play" "hands" "LCardHolder$Hands;") (by decide +kernel)) (fun _ h9 => h9) rfl dX3_take_36 ?_
        refine va_get (D := G) (ci := 2) (v := .ref a13) (C := RX2) (T := TX2) (N := 8) hx hb hts (by decide +kernel) hown hK.1 hP 8 rfl rfl 1 (by decide) (hts (.fieldLink RX3 50 "CardHolder$Hands" "bonds" "LCardHolder$Bonds;") (by decide +kernel)) (fun _ h9 => h9) rfl dX3_take_39 ?_
        refine lv_iload_n hx hb dX3_take_42 rfl (lv_at hl 3 rfl) ?_
        refine ro_calli (va_runV (As := [.int x21_2]) (rest := []) ⟨hx, hb, hml, hown, hts⟩ (a_X0_holderOf l G ct a13 a14 n13_1 f14 x21_2 hp_n13_1) (cwV 1 hts gX3_take_X0_holderOf rfl rfl rfl (by decide +kernel) ⟨Nat.le_of_ble_eq_true rfl, Nat.le_of_ble_eq_true rfl⟩) (ro_preV 0 0 hK (hP.sub [9, 10] rfl) rfl rfl) rfl rfl hl.1 rfl (lv_room (Nat.le_of_ble_eq_true rfl)) dX3_take_43 ⟨Nat.zero_le _, Nat.zero_le _⟩) hS hP (fun r43 H locs wr43 hP hS => ?_)
        obtain ⟨p_3, p_4, p_5, p_6, -⟩ := wr43
        refine lv_istore (lv' := [(4, .int r43), (3, .int z33), (0, .ref a0), (1, .ref a4), (2, .int x21_2)]) hx hb dX3_take_46 hl (by decide) rfl (fun ls hl => ?_)
        refine lv_aload_n hx hb dX3_take_48 rfl (lv_at hl 2 rfl) ?_
        refine va_get (D := G) (ci := 3) (v := .ref a1) (C := RX3) (T := TX3) (N := 4) hx hb hts (by decide +kernel) hown hK.1 hP 0 rfl rfl 0 (by decide) (hts (.fieldLink RX3 9 "CardHolder$Peace" "worths" "[I") (by decide +kernel)) (fun _ h9 => h9) rfl dX3_take_49 ?_
        refine lv_iload_n hx hb dX3_take_52 rfl (lv_at hl 4 rfl) ?_
        refine lv_aload_n hx hb dX3_take_53 rfl (lv_at hl 3 rfl) ?_
        refine va_get (D := G) (ci := 4) (v := .ref a5) (C := RX4) (T := TX4) (N := 4) hx hb hts (by decide +kernel) hown hK.1 hP 4 rfl rfl 0 (by decide) (hts (.fieldLink RX3 21 "CardHolder$Play" "town" "LCardHolder$Town;") (by decide +kernel)) (fun _ h9 => h9) rfl dX3_take_54 ?_
        refine lv_iload_n hx hb dX3_take_57 rfl (lv_at hl 4 rfl) ?_
        refine ro_calli (va_runV (As := [.int x21_2]) (rest := [.int x21_2, .ref a1]) ⟨hx, hb, hml, hown, hts⟩ (a_X9_worthOf l G ct a5 a6 a8 a9 a10 a11 n5_5 n5_6 a7 n6_1 f8 x21_2 hp_n6_1) (cwV 1 hts gX3_take_X9_worthOf rfl rfl rfl (by decide +kernel) ⟨Nat.le_of_ble_eq_true rfl, Nat.le_of_ble_eq_true rfl⟩) (ro_preV 9 0 hK (hP.sub [5, 6, 7] rfl) rfl rfl) rfl rfl hl.1 rfl (lv_room (Nat.le_of_ble_eq_true rfl)) dX3_take_58 ⟨Nat.zero_le _, Nat.zero_le _⟩) hS hP (fun r58 H locs wr58 hP hS => ?_)
        obtain ⟨p_7, p_8, p_9, p_10, -⟩ := wr58
        refine va_iast hx hb hK.1 hP hD hS 1 0 rfl rfl (in_rg h_1 (by decide)) dX3_take_61 (fun H locs hP hD hS => ?_)
        refine lv_aload_n hx hb dX3_take_62 rfl (lv_at hl 2 rfl) ?_
        refine va_get (D := G) (ci := 3) (v := .ref a2) (C := RX3) (T := TX3) (N := 4) hx hb hts (by decide +kernel) hown hK.1 hP 0 rfl rfl 1 (by decide) (hts (.fieldLink RX3 15 "CardHolder$Peace" "losses" "[I") (by decide +kernel)) (fun _ h9 => h9) rfl dX3_take_63 ?_
        refine lv_iload_n hx hb dX3_take_66 rfl (lv_at hl 4 rfl) ?_
        refine lv_aload_n hx hb dX3_take_67 rfl (lv_at hl 3 rfl) ?_
        refine va_get (D := G) (ci := 4) (v := .ref a5) (C := RX4) (T := TX4) (N := 4) hx hb hts (by decide +kernel) hown hK.1 hP 4 rfl rfl 0 (by decide) (hts (.fieldLink RX3 21 "CardHolder$Play" "town" "LCardHolder$Town;") (by decide +kernel)) (fun _ h9 => h9) rfl dX3_take_68 ?_
        refine lv_aload_n hx hb dX3_take_71 rfl (lv_at hl 3 rfl) ?_
        refine va_get (D := G) (ci := 4) (v := .ref a12) (C := RX4) (T := TX4) (N := 4) hx hb hts (by decide +kernel) hown hK.1 hP 4 rfl rfl 1 (by decide) (hts (.fieldLink RX3 46 "CardHolder$Play" "hands" "LCardHolder$Hands;") (by decide +kernel)) (fun _ h9 => h9) rfl dX3_take_72 ?_
        refine va_get (D := G) (ci := 2) (v := .ref a13) (C := RX2) (T := TX2) (N := 8) hx hb hts (by decide +kernel) hown hK.1 hP 8 rfl rfl 1 (by decide) (hts (.fieldLink RX3 50 "CardHolder$Hands" "bonds" "LCardHolder$Bonds;") (by decide +kernel)) (fun _ h9 => h9) rfl dX3_take_75 ?_
        refine lv_iload_n hx hb dX3_take_78 rfl (lv_at hl 4 rfl) ?_
        refine ro_calli (va_runV (As := [.int x21_2]) (rest := [.ref a5, .int x21_2, .ref a2]) ⟨hx, hb, hml, hown, hts⟩ (a_X0_handOf l G ct a13 a14 n13_1 f14 x21_2 hp_n13_1) (cwV 1 hts gX3_take_X0_handOf rfl rfl rfl (by decide +kernel) ⟨Nat.le_of_ble_eq_true rfl, Nat.le_of_ble_eq_true rfl⟩) (ro_preV 0 0 hK (hP.sub [9, 10] rfl) rfl rfl) rfl rfl hl.1 rfl (lv_room (Nat.le_of_ble_eq_true rfl)) dX3_take_79 ⟨Nat.zero_le _, Nat.zero_le _⟩) hS hP (fun r79 H locs wr79 hP hS => ?_)
        obtain ⟨p_11, -⟩ := wr79
        refine lv_iload_n hx hb dX3_take_82 rfl (lv_at hl 1 rfl) ?_
        refine lv_iand hx hb dX3_take_83 ?_
        refine nm_andl p_11 (by decide) (fun z83 hz83 => ?_)
        refine ro_calli (va_runV (As := [.int z83]) (rest := [.int x21_2, .ref a2]) ⟨hx, hb, hml, hown, hts⟩ (a_X9_worthOfAll l G ct a5 a6 a8 a9 a10 a11 n5_5 n5_6 a7 n6_1 f8 z83 hp_n6_1) (cwV 1 hts gX3_take_X9_worthOfAll rfl rfl rfl (by decide +kernel) ⟨Nat.le_of_ble_eq_true rfl, Nat.le_of_ble_eq_true rfl⟩) (ro_preV 9 0 hK (hP.sub [5, 6, 7] rfl) rfl rfl) rfl rfl hl.1 rfl (lv_room (Nat.le_of_ble_eq_true rfl)) dX3_take_84 ⟨Nat.zero_le _, Nat.zero_le _⟩) hS hP (fun r84 H locs wr84 hP hS => ?_)
        refine va_iast hx hb hK.1 hP hD hS 2 0 rfl rfl (in_rg h_1 (by decide)) dX3_take_87 (fun H locs hP hD hS => ?_)
        refine lv_aload_n hx hb dX3_take_88 rfl (lv_at hl 2 rfl) ?_
        refine va_get (D := G) (ci := 3) (v := .ref a3) (C := RX3) (T := TX3) (N := 4) hx hb hts (by decide +kernel) hown hK.1 hP 0 rfl rfl 2 (by decide) (hts (.fieldLink RX3 18 "CardHolder$Peace" "givers" "[I") (by decide +kernel)) (fun _ h9 => h9) rfl dX3_take_89 ?_
        refine lv_iload_n hx hb dX3_take_92 rfl (lv_at hl 4 rfl) ?_
        refine lv_iload hx hb dX3_take_93 (lv_at hl 0 rfl) ?_
        refine lv_iconst (v := (-1)) hx hb dX3_take_95 (by decide) ?_
        have j109 : ∀ (y109_0 : Int32) (H : Heap) (locs : List Loc) (ls : Array Slot), va_P G vwCl [(a0, .inr (3, [.ref a1, .ref a2, .ref a3, .int z13])), (a1, .inl (ct 0, 8, .inl (upd f21_1 x21_2.toNatClampNeg r58))), (a2, .inl (ct 0, 8, .inl (upd f21_2 x21_2.toNatClampNeg r84))), (a3, .inl (ct 0, 8, .inl f21_3)), (a4, .inr (4, [.ref a5, .ref a12, .ref a17, .int n4_3])), (a5, .inr (9, [.ref a6, .ref a8, .ref a9, .ref a10, .ref a11, .int n5_5, .int n5_6])), (a6, .inr (0, [.ref a7, .int n6_1])), (a8, .inl (ct 0, 8, .inl f8)), (a12, .inr (2, [.ref a5, .ref a13, .ref a15, .ref a16, .int n12_4, .int n12_5, .int n12_6, .int n12_7])), (a13, .inr (0, [.ref a14, .int n13_1])), (a14, .inl (ct 0, 8, .inl f14))] H → va_D A [(a0, .inr (3, [.ref a1, .ref a2, .ref a3, .int z13])), (a1, .inl (ct 0, 8, .inl (upd f21_1 x21_2.toNatClampNeg r58))), (a2, .inl (ct 0, 8, .inl (upd f21_2 x21_2.toNatClampNeg r84))), (a3, .inl (ct 0, 8, .inl f21_3)), (a4, .inr (4, [.ref a5, .ref a12, .ref a17, .int n4_3])), (a5, .inr (9, [.ref a6, .ref a8, .ref a9, .ref a10, .ref a11, .int n5_5, .int n5_6])), (a6, .inr (0, [.ref a7, .int n6_1])), (a8, .inl (ct 0, 8, .inl f8)), (a12, .inr (2, [.ref a5, .ref a13, .ref a15, .ref a16, .int n12_4, .int n12_5, .int n12_6, .int n12_7])), (a13, .inr (0, [.ref a14, .int n13_1])), (a14, .inl (ct 0, 8, .inl f14))] → va_S A s.heap H locs → lv_has ls 5 [(0, .ref a0), (1, .ref a4), (2, .int x21_2), (3, .int z33), (4, .int r43)] → W p l e (headSpec wsX3_take ({ frames := 3, cells := 0, slots := 0, locals := 65 })).room s m ([.ref a0, .ref a4] : List Value).toArray below meth c H locs 0 0 (MQ below (va_Qv (fun u : SU => rg 0 8 (u.1 0) ∧ True) (fun u t => va_P G vwCl ((fun u : SU => [(a0, .inr (3, [.ref a1, .ref a2, .ref a3, .int (u.1 0)])), (a1, .inl (ct 0, 8, .inl (u.2.1 0))), (a2, .inl (ct 0, 8, .inl (u.2.1 1))), (a3, .inl (ct 0, 8, .inl (u.2.1 2))), (a4, .inr (4, [.ref a5, .ref a12, .ref a17, .int n4_3])), (a5, .inr (9, [.ref a6, .ref a8, .ref a9, .ref a10, .ref a11, .int n5_5, .int n5_6])), (a6, .inr (0, [.ref a7, .int n6_1])), (a8, .inl (ct 0, 8, .inl f8)), (a12, .inr (2, [.ref a5, .ref a13, .ref a15, .ref a16, .int n12_4, .int n12_5, .int n12_6, .int n12_7])), (a13, .inr (0, [.ref a14, .int n13_1])), (a14, .inl (ct 0, 8, .inl f14))]) u) t.heap) A) ([.ref a0, .ref a4] : List Value).toArray s 0 0 A) (F0 m 109 ls [.int y109_0, .int x21_2, .ref a3]) := by
          intro y109_0 H locs ls  hP hD hS hl
          refine va_iast hx hb hK.1 hP hD hS 3 0 rfl rfl (in_rg h_1 (by decide)) dX3_take_109 (fun H locs hP hD hS => ?_)
          obtain ⟨z110, qz110⟩ : ∃ y : Int32, y = x21_2 + Int32.ofInt 1 := ⟨_, rfl⟩
          obtain ⟨hz110, ez110⟩ := inc_z (e := 1) (f := 8) h_1 qz110 (by decide)
          refine lv_iinc (v := z110) (lv' := [(2, .int z110), (0, .ref a0), (1, .ref a4), (3, .int z33), (4, .int r43)]) hx hb dX3_take_110 hl (k := 2) rfl (qz110.symm) (by decide) rfl (fun ls hl => ?_)
          refine lv_goto (tgt := 21) hx hb dX3_take_113 (by decide) ?_
          exact ih21 z110 (upd f21_1 x21_2.toNatClampNeg r58) (upd f21_2 x21_2.toNatClampNeg r84) (upd f21_3 x21_2.toNatClampNeg y109_0) _ _ ls (by have q := hn21; have := ez110; omega) (rg_w (c := 0) (d := 8) hz110 (by decide)) hP hD hS (lv_sub hl [1, 2, 0] rfl)
        refine lv_icmp_ne (tgt := 103) hx hb dX3_take_96 (by decide) (fun c96 => ?_) (fun c96 => ?_)
        · have h_12 : rg 1 8 n13_1 := (p_6 c96)
          refine lv_iconst (v := 1) hx hb dX3_take_103 (by decide) ?_
          refine lv_iload hx hb dX3_take_104 (lv_at hl 0 rfl) ?_
          refine lv_ishl hx hb dX3_take_106 ?_
          refine nm_0 (fun z106 => ?_)
          refine lv_iload_n hx hb dX3_take_107 rfl (lv_at hl 1 rfl) ?_
          refine lv_iand hx hb dX3_take_108 ?_
          refine nm_0 (fun z108 => ?_)
          exact j109 z108 _ _ ls hP hD hS (lv_sub hl [2, 3, 4, 1, 0] rfl)
        · have h_13 : rg (-1) (-1) r43 := r_eq_l_i (e := (-1)) (f := (-1)) c96 (rg_t r43) (rgn (-1) (x := (-1)) (by decide)) (by decide)
          refine lv_iconst (v := 0) hx hb dX3_take_99 (by decide) ?_
          refine lv_goto (tgt := 109) hx hb dX3_take_100 (by decide) ?_
          exact j109 (0 : Int32) _ _ ls hP hD hS (lv_sub hl [2, 3, 4, 1, 0] rfl)
  exact j21 4294967296 (0 : Int32) f1 f2 f3 _ _ ls (ms_e (0 : Int32)) (rg_w (c := 0) (d := 8) (rgn 0 (x := 0) (by decide)) (by decide)) hP hD hS (lv_sub hl [1, 2, 0] rfl)

set_option maxHeartbeats 4000000 in
set_option maxRecDepth 100000 in
theorem a_X3_gainOf (l : Launch) (G : va_G) (ct : Nat → ClassId) (a0 : Nat) (a1 : Nat) (a2 : Nat) (a3 : Nat) (n0_3 : Int32) (f1 : Nat → Int32) (f2 : Nat → Int32) (f3 : Nat → Int32) (p0 : Int32) (p1 : Int32) (hp_n0_3 : rg (-2147483648) 8 n0_3) : Met l yX3_gainOf wsX3_gainOf ({ frames := 0, cells := 0, slots := 0, locals := 0 }) (va_Pc [.ref a0, .int p0, .int p1] (roP G ct [(a0, .inr (3, [.ref a1, .ref a2, .ref a3, .int n0_3])), (a1, .inl (ct 0, 8, .inl f1)), (a2, .inl (ct 0, 8, .inl f2)), (a3, .inl (ct 0, 8, .inl f3))])) (roQ (fun r => (¬ r = 0 → rg 0 7 p1) ∧ (r = (-1) → rg 0 7 p1) ∧ (¬ r = 0 → rg 1 8 n0_3) ∧ (r = (-1) → rg 1 8 n0_3) ∧ True)) 0 0 no := by
  refine Met.ofW (cc := cX3_gainOf) (maxL := 4) (ret := (some .int)) (by decide) rfl ?_
  intro p e s m args below meth c s₁ B hml hv
  obtain ⟨rfl, hP, hK⟩ := hv
  have hx := B.exec
  have hb := B.bytes
  have hr := B.returns
  have hts := atoms_spec (ws := wsX3_gainOf) B.pre
  have hown : s.vm.findClass RX3 = some m.cls := findClass_of_methodNamed B.named
  have hlocks := B.notSynchronized
  have hS : va_S no s.heap s.heap [] := va_S.rf
  have hl := lv_entry ([.ref a0, .int p0, .int p1]) (n := 4) (Nat.le_of_ble_eq_true rfl)
  rw [lg_entry_eq]
  generalize (lg_sl ([.ref a0, .int p0, .int p1]) ++ List.replicate (4 - (lg_sl ([.ref a0, .int p0, .int p1])).length) Slot.unset).toArray = ls at hl ⊢
  have hl : lv_has ls 4 [(0, .ref a0), (1, .int p0), (2, .int p1)] := hl
  refine lv_iload_n hx hb dX3_gainOf_0 rfl (lv_at hl 2 rfl) ?_
  refine lv_if_lt (tgt := 12) hx hb dX3_gainOf_1 (by decide) (fun c1 => ?_) (fun c1 => ?_)
  · have h_1 : rg (-2147483648) (-1) p1 := r_lt_l_i c1 (rg_t p1) (rgn 0 (x := 0) (by decide)) (by decide)
    refine lv_iconst (v := 0) hx hb dX3_gainOf_12 (by decide) ?_
    exact W.iret (v := 0) hx hb hr (fun t ht hW => ⟨⟨0, (), rfl, ⟨(fun hq => absurd (req (rgn 0 (x := 0) (by decide)) (y := 0) (by decide)) hq), (fun hq => absurd hq (rne (rgn 0 (x := 0) (by decide)) (y := (-1)) (c := (-1)) (by decide) (by decide))), (fun hq => absurd (req (rgn 0 (x := 0) (by decide)) (y := 0) (by decide)) hq), (fun hq => absurd hq (rne (rgn 0 (x := 0) (by decide)) (y := (-1)) (c := (-1)) (by decide) (by decide))), trivial⟩, trivial⟩, hS.F ht⟩) hS.2.2 dX3_gainOf_13
  · have h_2 : rg 0 2147483647 p1 := r_le_r_i (nlt_i c1) (rgn 0 (x := 0) (by decide)) (rg_t p1)
    refine lv_iload_n hx hb dX3_gainOf_4 rfl (lv_at hl 2 rfl) ?_
    refine lv_aload_n hx hb dX3_gainOf_5 rfl (lv_at hl 0 rfl) ?_
    refine va_get (D := G) (ci := 3) (v := .int n0_3) (C := RX3) (T := TX3) (N := 4) hx hb hts (by decide +kernel) hown hK.1 hP 0 rfl rfl 3 (by decide) (hts (.fieldLink RX3 45 "CardHolder$Peace" "persons" "I") (by decide +kernel)) (fun _ h9 => h9) rfl dX3_gainOf_6 ?_
    refine lv_icmp_lt (tgt := 14) hx hb dX3_gainOf_9 (by decide) (fun c9 => ?_) (fun c9 => ?_)
    · have h_3 : rg 0 7 p1 := r_lt_l_i c9 h_2 hp_n0_3 (by decide)
      have h_4 : rg 1 8 n0_3 := r_lt_r_i c9 h_2 hp_n0_3 (by decide)
      refine lv_iload_n hx hb dX3_gainOf_14 rfl (lv_at hl 1 rfl) ?_
      refine lv_aload_n hx hb dX3_gainOf_15 rfl (lv_at hl 0 rfl) ?_
      refine va_get (D := G) (ci := 3) (v := .ref a3) (C := RX3) (T := TX3) (N := 4) hx hb hts (by decide +kernel) hown hK.1 hP 0 rfl rfl 2 (by decide) (hts (.fieldLink RX3 18 "CardHolder$Peace" "givers" "[I") (by decide +kernel)) (fun _ h9 => h9) rfl dX3_gainOf_16 ?_
      refine lv_iload_n hx hb dX3_gainOf_19 rfl (lv_at hl 2 rfl) ?_
      refine va_iald hx hb hK.1 hP 3 0 rfl rfl (in_rg h_3 (by decide)) dX3_gainOf_20 ?_
      refine lv_topi (fun z20 gz20 => ?_)
      refine lv_iand hx hb dX3_gainOf_21 ?_
      refine nm_0 (fun z21 => ?_)
      have j35 : ∀ (y35_0 : Int32) (H : Heap) (locs : List Loc) (ls : Array Slot), va_P G vwCl [(a0, .inr (3, [.ref a1, .ref a2, .ref a3, .int n0_3])), (a1, .inl (ct 0, 8, .inl f1)), (a2, .inl (ct 0, 8, .inl f2)), (a3, .inl (ct 0, 8, .inl f3))] H → va_S no s.heap H locs → lv_has ls 4 [(0, .ref a0), (1, .int p0), (2, .int p1)] → W p l e (headSpec wsX3_gainOf ({ frames := 0, cells := 0, slots := 0, locals := 0 })).room s m ([.ref a0, .int p0, .int p1] : List Value).toArray below meth c H locs 0 0 (MQ below (roQ (fun r => (¬ r = 0 → rg 0 7 p1) ∧ (r = (-1) → rg 0 7 p1) ∧ (¬ r = 0 → rg 1 8 n0_3) ∧ (r = (-1) → rg 1 8 n0_3) ∧ True)) ([.ref a0, .int p0, .int p1] : List Value).toArray s 0 0 no) (F0 m 35 ls [.int y35_0]) := by
        intro y35_0 H locs ls  hP hS hl
        refine lv_istore_n (lv' := [(3, .int y35_0), (0, .ref a0), (1, .int p0), (2, .int p1)]) hx hb dX3_gainOf_35 rfl hl (by decide) rfl (fun ls hl => ?_)
        refine lv_iload_n hx hb dX3_gainOf_36 rfl (lv_at hl 0 rfl) ?_
        refine lv_aload_n hx hb dX3_gainOf_37 rfl (lv_at hl 1 rfl) ?_
        refine va_get (D := G) (ci := 3) (v := .ref a2) (C := RX3) (T := TX3) (N := 4) hx hb hts (by decide +kernel) hown hK.1 hP 0 rfl rfl 1 (by decide) (hts (.fieldLink RX3 15 "CardHolder$Peace" "losses" "[I") (by decide +kernel)) (fun _ h9 => h9) rfl dX3_gainOf_38 ?_
        refine lv_iload_n hx hb dX3_gainOf_41 rfl (lv_at hl 3 rfl) ?_
        refine va_iald hx hb hK.1 hP 2 0 rfl rfl (in_rg h_3 (by decide)) dX3_gainOf_42 ?_
        refine lv_topi (fun z42 gz42 => ?_)
        refine lv_isub hx hb dX3_gainOf_43 ?_
        refine nm_0 (fun z43 => ?_)
        exact W.iret (v := z43) hx hb hr (fun t ht hW => ⟨⟨z43, (), rfl, ⟨(fun _ => h_3), (fun _ => h_3), (fun _ => h_4), (fun _ => h_4), trivial⟩, trivial⟩, hS.F ht⟩) hS.2.2 dX3_gainOf_44
      refine lv_if_eq (tgt := 34) hx hb dX3_gainOf_22 (by decide) (fun c22 => ?_) (fun c22 => ?_)
      · have h_5 : rg 0 0 z21 := r_eq_l_i (e := 0) (f := 0) c22 (rg_t z21) (rgn 0 (x := 0) (by decide)) (by decide)
        refine lv_iconst (v := 0) hx hb dX3_gainOf_34 (by decide) ?_
        exact j35 (0 : Int32) _ _ ls hP hS (lv_sub hl [0, 1, 2] rfl)
      · refine lv_aload_n hx hb dX3_gainOf_25 rfl (lv_at hl 0 rfl) ?_
        refine va_get (D := G) (ci := 3) (v := .ref a1) (C := RX3) (T := TX3) (N := 4) hx hb hts (by decide +kernel) hown hK.1 hP 0 rfl rfl 0 (by decide) (hts (.fieldLink RX3 9 "CardHolder$Peace" "worths" "[I") (by decide +kernel)) (fun _ h9 => h9) rfl dX3_gainOf_26 ?_
        refine lv_iload_n hx hb dX3_gainOf_29 rfl (lv_at hl 2 rfl) ?_
        refine va_iald hx hb hK.1 hP 1 0 rfl rfl (in_rg h_3 (by decide)) dX3_gainOf_30 ?_
        refine lv_topi (fun z30 gz30 => ?_)
        refine lv_goto (tgt := 35) hx hb dX3_gainOf_31 (by decide) ?_
        exact j35 z30 _ _ ls hP hS (lv_sub hl [0, 1, 2] rfl)
    · refine lv_iconst (v := 0) hx hb dX3_gainOf_12 (by decide) ?_
      exact W.iret (v := 0) hx hb hr (fun t ht hW => ⟨⟨0, (), rfl, ⟨(fun hq => absurd (req (rgn 0 (x := 0) (by decide)) (y := 0) (by decide)) hq), (fun hq => absurd hq (rne (rgn 0 (x := 0) (by decide)) (y := (-1)) (c := (-1)) (by decide) (by decide))), (fun hq => absurd (req (rgn 0 (x := 0) (by decide)) (y := 0) (by decide)) hq), (fun hq => absurd hq (rne (rgn 0 (x := 0) (by decide)) (y := (-1)) (c := (-1)) (by decide) (by decide))), trivial⟩, trivial⟩, hS.F ht⟩) hS.2.2 dX3_gainOf_13

set_option maxHeartbeats 4000000 in
set_option maxRecDepth 100000 in
theorem a_X3_losersOf (l : Launch) (G : va_G) (ct : Nat → ClassId) (a0 : Nat) (a1 : Nat) (a2 : Nat) (a3 : Nat) (n0_3 : Int32) (f1 : Nat → Int32) (f2 : Nat → Int32) (f3 : Nat → Int32) (p0 : Int32) (hp_n0_3 : rg (-2147483648) 8 n0_3) : Met l yX3_losersOf wsX3_losersOf ({ frames := 1, cells := 0, slots := 0, locals := 23 }) (va_Pc [.ref a0, .int p0] (roP G ct [(a0, .inr (3, [.ref a1, .ref a2, .ref a3, .int n0_3])), (a1, .inl (ct 0, 8, .inl f1)), (a2, .inl (ct 0, 8, .inl f2)), (a3, .inl (ct 0, 8, .inl f3))])) (roQ (fun r => rg 0 255 r ∧ True)) 0 0 no := by
  refine Met.ofW (cc := cX3_losersOf) (maxL := 4) (ret := (some .int)) (by decide) rfl ?_
  intro p e s m args below meth c s₁ B hml hv
  obtain ⟨rfl, hP, hK⟩ := hv
  have hx := B.exec
  have hb := B.bytes
  have hr := B.returns
  have hts := atoms_spec (ws := wsX3_losersOf) B.pre
  have hown : s.vm.findClass RX3 = some m.cls := findClass_of_methodNamed B.named
  have hlocks := B.notSynchronized
  have hS : va_S no s.heap s.heap [] := va_S.rf
  have hl := lv_entry ([.ref a0, .int p0]) (n := 4) (Nat.le_of_ble_eq_true rfl)
  rw [lg_entry_eq]
  generalize (lg_sl ([.ref a0, .int p0]) ++ List.replicate (4 - (lg_sl ([.ref a0, .int p0])).length) Slot.unset).toArray = ls at hl ⊢
  have hl : lv_has ls 4 [(0, .ref a0), (1, .int p0)] := hl
  refine lv_iconst (v := 0) hx hb dX3_losersOf_0 (by decide) ?_
  refine lv_istore_n (lv' := [(2, .int 0), (0, .ref a0), (1, .int p0)]) hx hb dX3_losersOf_1 rfl hl (by decide) rfl (fun ls hl => ?_)
  refine lv_iconst (v := 0) hx hb dX3_losersOf_2 (by decide) ?_
  refine lv_istore_n (lv' := [(3, .int 0), (2, .int 0), (0, .ref a0), (1, .int p0)]) hx hb dX3_losersOf_3 rfl hl (by decide) rfl (fun ls hl => ?_)
  have j4 : ∀ (n : Nat) (x4_2 : Int32) (x4_3 : Int32) (H : Heap) (locs : List Loc) (ls : Array Slot), 2147483648 ≤ x4_3.toInt + (n : Int) → rg 0 255 x4_2 → rg 0 8 x4_3 → va_P G vwCl [(a0, .inr (3, [.ref a1, .ref a2, .ref a3, .int n0_3])), (a1, .inl (ct 0, 8, .inl f1)), (a2, .inl (ct 0, 8, .inl f2)), (a3, .inl (ct 0, 8, .inl f3))] H → va_S no s.heap H locs → lv_has ls 4 [(0, .ref a0), (1, .int p0), (2, .int x4_2), (3, .int x4_3)] → W p l e (headSpec wsX3_losersOf ({ frames := 1, cells := 0, slots := 0, locals := 23 })).room s m ([.ref a0, .int p0] : List Value).toArray below meth c H locs 0 0 (MQ below (roQ (fun r => rg 0 255 r ∧ True)) ([.ref a0, .int p0] : List Value).toArray s 0 0 no) (F0 m 4 ls []) := by
    intro n
    induction n with
    | zero => intro x4_2 x4_3 H locs ls hn4 hx4_2 hx4_3 hP hS hl; exact absurd hn4 (by have := Int32.toInt_lt x4_3; have := Int32.le_toInt x4_3; omega)
    | succ n ih4 =>
      intro x4_2 x4_3 H locs ls hn4 hx4_2 hx4_3 hP hS hl
      refine lv_iload_n hx hb dX3_losersOf_4 rfl (lv_at hl 3 rfl) ?_
      refine lv_aload_n hx hb dX3_losersOf_5 rfl (lv_at hl 0 rfl) ?_
      refine va_get (D := G) (ci := 3) (v := .int n0_3) (C := RX3) (T := TX3) (N := 4) hx hb hts (by decide +kernel) hown hK.1 hP 0 rfl rfl 3 (by decide) (hts (.fieldLink RX3 45 "CardHolder$Peace" "persons" "I") (by decide +kernel)) (fun _ h9 => h9) rfl dX3_losersOf_6 ?_
      refine lv_icmp_ge (tgt := 42) hx hb dX3_losersOf_9 (by decide) (fun c9 => ?_) (fun c9 => ?_)
      · refine lv_iload_n hx hb dX3_losersOf_42 rfl (lv_at hl 2 rfl) ?_
        exact W.iret (v := x4_2) hx hb hr (fun t ht hW => ⟨⟨x4_2, (), rfl, ⟨hx4_2, trivial⟩, trivial⟩, hS.F ht⟩) hS.2.2 dX3_losersOf_43
      · have h_1 : rg 0 7 x4_3 := r_lt_l_i (nle_i c9) hx4_3 hp_n0_3 (by decide)
        have h_2 : rg 1 8 n0_3 := r_lt_r_i (nle_i c9) hx4_3 hp_n0_3 (by decide)
        refine lv_iload_n hx hb dX3_losersOf_12 rfl (lv_at hl 1 rfl) ?_
        refine lv_iload_n hx hb dX3_losersOf_13 rfl (lv_at hl 3 rfl) ?_
        refine ro_calli (va_runSN (As := [.int p0, .int x4_3]) (rest := []) ⟨hx, hb, hml, hown, hts⟩ (a_X10_bitOf l G ct p0 x4_3) ⟨va_cnB 2 hts gX3_losersOf_X10_bitOf_n66 rfl rfl rfl (hK.2.1 (RX3, 66, yX10_bitOf, "CardHolder") (by decide +kernel)) (hts (.initialized RX10) (by decide +kernel)) (by decide +kernel) ⟨Nat.le_of_ble_eq_true rfl, Nat.le_of_ble_eq_true rfl⟩, hts (.static yX10_bitOf) (by decide +kernel), trivial⟩ (ro_pre hK (hP.sub [] rfl)) rfl rfl hl.1 rfl (lv_room (Nat.le_of_ble_eq_true rfl)) dX3_losersOf_14 ⟨Nat.zero_le _, Nat.zero_le _⟩) hS hP (fun r14 H locs wr14 hP hS => ?_)
        obtain ⟨p_3, -⟩ := wr14
        refine lv_iconst (v := 1) hx hb dX3_losersOf_17 (by decide) ?_
        have j36 : ∀ (x36_2 : Int32) (H : Heap) (locs : List Loc) (ls : Array Slot), rg 0 255 x36_2 → va_P G vwCl [(a0, .inr (3, [.ref a1, .ref a2, .ref a3, .int n0_3])), (a1, .inl (ct 0, 8, .inl f1)), (a2, .inl (ct 0, 8, .inl f2)), (a3, .inl (ct 0, 8, .inl f3))] H → va_S no s.heap H locs → lv_has ls 4 [(0, .ref a0), (1, .int p0), (2, .int x36_2), (3, .int x4_3)] → W p l e (headSpec wsX3_losersOf ({ frames := 1, cells := 0, slots := 0, locals := 23 })).room s m ([.ref a0, .int p0] : List Value).toArray below meth c H locs 0 0 (MQ below (roQ (fun r => rg 0 255 r ∧ True)) ([.ref a0, .int p0] : List Value).toArray s 0 0 no) (F0 m 36 ls []) := by
          intro x36_2 H locs ls hx36_2 hP hS hl
          obtain ⟨z36, qz36⟩ : ∃ y : Int32, y = x4_3 + Int32.ofInt 1 := ⟨_, rfl⟩
          obtain ⟨hz36, ez36⟩ := inc_z (e := 1) (f := 8) h_1 qz36 (by decide)
          refine lv_iinc (v := z36) (lv' := [(3, .int z36), (0, .ref a0), (1, .int p0), (2, .int x36_2)]) hx hb dX3_losersOf_36 hl (k := 3) rfl (qz36.symm) (by decide) rfl (fun ls hl => ?_)
          refine lv_goto (tgt := 4) hx hb dX3_losersOf_39 (by decide) ?_
          exact ih4 x36_2 z36 _ _ ls (by have q := hn4; have := ez36; omega) hx36_2 (rg_w (c := 0) (d := 8) hz36 (by decide)) hP hS (lv_sub hl [1, 2, 3, 0] rfl)
        refine lv_icmp_ne (tgt := 36) hx hb dX3_losersOf_18 (by decide) (fun c18 => ?_) (fun c18 => ?_)
        · have h_4 : rg 0 0 r14 := r_ne_hi_i c18 p_3 (by decide) (by decide)
          exact j36 x4_2 _ _ ls hx4_2 hP hS (lv_sub hl [0, 1, 2, 3] rfl)
        · have h_5 : rg 1 1 r14 := r_eq_l_i (e := 1) (f := 1) c18 p_3 (rgn 1 (x := 1) (by decide)) (by decide)
          refine lv_aload_n hx hb dX3_losersOf_21 rfl (lv_at hl 0 rfl) ?_
          refine lv_iload_n hx hb dX3_losersOf_22 rfl (lv_at hl 1 rfl) ?_
          refine lv_iload_n hx hb dX3_losersOf_23 rfl (lv_at hl 3 rfl) ?_
          refine ro_calli (va_runV (As := [.int p0, .int x4_3]) (rest := []) ⟨hx, hb, hml, hown, hts⟩ (a_X3_gainOf l G ct a0 a1 a2 a3 n0_3 f1 f2 f3 p0 x4_3 (rg_w (c := (-2147483648)) (d := 8) h_2 (by decide))) (cwV 2 hts gX3_losersOf_X3_gainOf rfl rfl rfl (by decide +kernel) ⟨Nat.le_of_ble_eq_true rfl, Nat.le_of_ble_eq_true rfl⟩) (ro_preV 3 0 hK (hP.sub [0, 1, 2, 3] rfl) rfl rfl) rfl rfl hl.1 rfl (lv_room (Nat.le_of_ble_eq_true rfl)) dX3_losersOf_24 ⟨Nat.zero_le _, Nat.zero_le _⟩) hS hP (fun r24 H locs wr24 hP hS => ?_)
          obtain ⟨p_6, p_7, p_8, p_9, -⟩ := wr24
          refine lv_if_ge (tgt := 36) hx hb dX3_losersOf_27 (by decide) (fun c27 => ?_) (fun c27 => ?_)
          · have h_10 : rg 0 2147483647 r24 := r_le_r_i c27 (rgn 0 (x := 0) (by decide)) (rg_t r24)
            exact j36 x4_2 _ _ ls hx4_2 hP hS (lv_sub hl [0, 1, 2, 3] rfl)
          · have h_11 : rg (-2147483648) (-1) r24 := r_lt_l_i (nle_i c27) (rg_t r24) (rgn 0 (x := 0) (by decide)) (by decide)
            refine lv_iload_n hx hb dX3_losersOf_30 rfl (lv_at hl 2 rfl) ?_
            refine lv_iconst (v := 1) hx hb dX3_losersOf_31 (by decide) ?_
            refine lv_iload_n hx hb dX3_losersOf_32 rfl (lv_at hl 3 rfl) ?_
            refine lv_ishl hx hb dX3_losersOf_33 ?_
            refine nm_shl (e1 := 1) (f := 128) h_1 (by decide) (fun z33 hz33 => ?_)
            refine lv_ior hx hb dX3_losersOf_34 ?_
            refine nm_or (k := 8) (e1 := 1) (f := 255) hx4_2 hz33 (by decide) (fun z34 hz34 => ?_)
            refine lv_istore_n (lv' := [(2, .int z34), (0, .ref a0), (1, .int p0), (3, .int x4_3)]) hx hb dX3_losersOf_35 rfl hl (by decide) rfl (fun ls hl => ?_)
            exact j36 z34 _ _ ls (rg_w (c := 0) (d := 255) hz34 (by decide)) hP hS (lv_sub hl [1, 2, 0, 3] rfl)
  exact j4 4294967296 (0 : Int32) (0 : Int32) _ _ ls (ms_e (0 : Int32)) (rg_w (c := 0) (d := 255) (rgn 0 (x := 0) (by decide)) (by decide)) (rg_w (c := 0) (d := 8) (rgn 0 (x := 0) (by decide)) (by decide)) hP hS (lv_sub hl [2, 3, 1, 0] rfl)
