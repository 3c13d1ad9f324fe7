theorem dX11_tells_0 : decode cX11_tells 0 = .ok (.aload_n 0, 1) := by decide +kernel
theorem dX11_tells_1 : decode cX11_tells 1 = .ok (.getfield 34, 3) := by decide +kernel
theorem dX11_tells_4 : decode cX11_tells 4 = .ok (.bipush 12, 2) := by decide +kernel
theorem dX11_tells_6 : decode cX11_tells 6 = .ok (.iload_n 1, 1) := by decide +kernel
theorem dX11_tells_7 : decode cX11_tells 7 = .ok (.iadd, 1) := by decide +kernel
theorem dX11_tells_8 : decode cX11_tells 8 = .ok (.iload_n 2, 1) := by decide +kernel
theorem dX11_tells_9 : decode cX11_tells 9 = .ok (.iastore, 1) := by decide +kernel
theorem dX11_tells_10 : decode cX11_tells 10 = .ok (.return_, 1) := by decide +kernel
theorem dX11_clears_0 : decode cX11_clears 0 = .ok (.aload_n 0, 1) := by decide +kernel
theorem dX11_clears_1 : decode cX11_clears 1 = .ok (.getfield 31, 3) := by decide +kernel
theorem dX11_clears_4 : decode cX11_clears 4 = .ok (.iconst 4, 1) := by decide +kernel
theorem dX11_clears_5 : decode cX11_clears 5 = .ok (.iconst 0, 1) := by decide +kernel
theorem dX11_clears_6 : decode cX11_clears 6 = .ok (.iastore, 1) := by decide +kernel
theorem dX11_clears_7 : decode cX11_clears 7 = .ok (.iconst 0, 1) := by decide +kernel
theorem dX11_clears_8 : decode cX11_clears 8 = .ok (.istore_n 1, 1) := by decide +kernel
theorem dX11_clears_9 : decode cX11_clears 9 = .ok (.iload_n 1, 1) := by decide +kernel
theorem dX11_clears_10 : decode cX11_clears 10 = .ok (.iconst 3, 1) := by decide +kernel
theorem dX11_clears_11 : decode cX11_clears 11 = .ok (.if_icmp .ge 15, 3) := by decide +kernel
theorem dX11_clears_14 : decode cX11_clears 14 = .ok (.aload_n 0, 1) := by decide +kernel
theorem dX11_clears_15 : decode cX11_clears 15 = .ok (.iload_n 1, 1) := by decide +kernel
theorem dX11_clears_16 : decode cX11_clears 16 = .ok (.iconst 0, 1) := by decide +kernel
set_option maxRecDepth 20000 in
theorem ggX11_clears_X11_tells : GoodIn wsX11_clears wsX11_tells := goodIn_r _ [6, 7, 8, 9, 10, 11, 12, 13, 14, 15, 16, 17, 18, 19, 20, 21, 22, 23, 24, 25, 26, 27, 28, 29, 30, 31, 32, 33, 34, 35, 36, 37, 38] (by decide +kernel) (by decide +kernel)
set_option maxRecDepth 20000 in
theorem gX11_clears_X11_tells : GoodIn wsX11_clears (wsV RX11 162 RX11 yX11_tells wsX11_tells) := goodIn_app (goodIn_of _ (by decide +kernel)) ggX11_clears_X11_tells
theorem dX11_clears_17 : decode cX11_clears 17 = .ok (.invokevirtual 162, 3) := by decide +kernel
theorem dX11_clears_20 : decode cX11_clears 20 = .ok (.iinc 1 1, 3) := by decide +kernel
theorem dX11_clears_23 : decode cX11_clears 23 = .ok (.goto (-14), 3) := by decide +kernel
theorem dX11_clears_26 : decode cX11_clears 26 = .ok (.return_, 1) := by decide +kernel
theorem dX11_isByte_0 : decode cX11_isByte 0 = .ok (.iload_n 1, 1) := by decide +kernel
theorem dX11_isByte_1 : decode cX11_isByte 1 = .ok (.aload_n 0, 1) := by decide +kernel
theorem dX11_isByte_2 : decode cX11_isByte 2 = .ok (.getfield 76, 3) := by decide +kernel
theorem dX11_isByte_5 : decode cX11_isByte 5 = .ok (.if_icmp .ge 27, 3) := by decide +kernel
theorem dX11_isByte_32 : decode cX11_isByte 32 = .ok (.iconst 0, 1) := by decide +kernel
theorem dX11_isByte_33 : decode cX11_isByte 33 = .ok (.ireturn, 1) := by decide +kernel
theorem dX11_next_0 : decode cX11_next 0 = .ok (.aload_n 0, 1) := by decide +kernel
theorem dX11_next_1 : decode cX11_next 1 = .ok (.aload_n 0, 1) := by decide +kernel
theorem dX11_next_2 : decode cX11_next 2 = .ok (.getfield 83, 3) := by decide +kernel
theorem dX11_next_5 : decode cX11_next 5 = .ok (.bipush 32, 2) := by decide +kernel
theorem dX11_next_7 : decode cX11_next 7 = .ok (.bipush 32, 2) := by decide +kernel
set_option maxRecDepth 20000 in
theorem ggX11_next_X11_isByte : GoodIn wsX11_next wsX11_isByte := goodIn_r _ [17, 5, 9, 18, 19, 20, 21, 22, 23, 24, 25, 26, 27, 28, 29, 30, 31, 32, 33, 34, 35, 36, 37, 38, 39, 40, 41, 42, 43, 44, 45, 46, 47, 48] (by decide +kernel) (by decide +kernel)
set_option maxRecDepth 20000 in
theorem gX11_next_X11_isByte : GoodIn wsX11_next (wsV RX11 86 RX11 yX11_isByte wsX11_isByte) := goodIn_app (goodIn_of _ (by decide +kernel)) ggX11_next_X11_isByte
theorem dX11_next_9 : decode cX11_next 9 = .ok (.invokevirtual 86, 3) := by decide +kernel
theorem dX11_next_12 : decode cX11_next 12 = .ok (.ifCond .ne 18, 3) := by decide +kernel
theorem dX11_next_15 : decode cX11_next 15 = .ok (.aload_n 0, 1) := by decide +kernel
theorem dX11_next_16 : decode cX11_next 16 = .ok (.aload_n 0, 1) := by decide +kernel
theorem dX11_next_17 : decode cX11_next 17 = .ok (.getfield 83, 3) := by decide +kernel
theorem dX11_next_20 : decode cX11_next 20 = .ok (.bipush 10, 2) := by decide +kernel
theorem dX11_next_22 : decode cX11_next 22 = .ok (.bipush 10, 2) := by decide +kernel
theorem dX11_next_24 : decode cX11_next 24 = .ok (.invokevirtual 86, 3) := by decide +kernel
theorem dX11_next_27 : decode cX11_next 27 = .ok (.ifCond .eq 16, 3) := by decide +kernel
theorem dX11_next_43 : decode cX11_next 43 = .ok (.aload_n 0, 1) := by decide +kernel
theorem dX11_next_44 : decode cX11_next 44 = .ok (.aload_n 0, 1) := by decide +kernel
theorem dX11_next_45 : decode cX11_next 45 = .ok (.getfield 83, 3) := by decide +kernel
theorem dX11_next_48 : decode cX11_next 48 = .ok (.putfield 90, 3) := by decide +kernel
theorem dX11_next_51 : decode cX11_next 51 = .ok (.aload_n 0, 1) := by decide +kernel
theorem dX11_next_52 : decode cX11_next 52 = .ok (.iconst 0, 1) := by decide +kernel
theorem dX11_next_53 : decode cX11_next 53 = .ok (.putfield 93, 3) := by decide +kernel
theorem dX11_next_56 : decode cX11_next 56 = .ok (.aload_n 0, 1) := by decide +kernel
theorem dX11_next_57 : decode cX11_next 57 = .ok (.lconst 0, 1) := by decide +kernel
theorem dX11_next_58 : decode cX11_next 58 = .ok (.putfield 96, 3) := by decide +kernel
theorem dX11_next_61 : decode cX11_next 61 = .ok (.aload_n 0, 1) := by decide +kernel
theorem dX11_next_62 : decode cX11_next 62 = .ok (.getfield 83, 3) := by decide +kernel
theorem dX11_next_65 : decode cX11_next 65 = .ok (.aload_n 0, 1) := by decide +kernel
theorem dX11_next_66 : decode cX11_next 66 = .ok (.getfield 76, 3) := by decide +kernel
theorem dX11_next_69 : decode cX11_next 69 = .ok (.if_icmp .ne 11, 3) := by decide +kernel
theorem dX11_next_72 : decode cX11_next 72 = .ok (.aload_n 0, 1) := by decide +kernel
theorem dX11_next_73 : decode cX11_next 73 = .ok (.iconst 0, 1) := by decide +kernel
theorem dX11_next_74 : decode cX11_next 74 = .ok (.putfield 100, 3) := by decide +kernel
theorem dX11_next_77 : decode cX11_next 77 = .ok (.goto 230, 3) := by decide +kernel
theorem dX11_next_307 : decode cX11_next 307 = .ok (.return_, 1) := by decide +kernel
theorem dX11_begins_0 : decode cX11_begins 0 = .ok (.aload_n 0, 1) := by decide +kernel
theorem dX11_begins_1 : decode cX11_begins 1 = .ok (.iconst 0, 1) := by decide +kernel
theorem dX11_begins_2 : decode cX11_begins 2 = .ok (.putfield 111, 3) := by decide +kernel
theorem dX11_begins_5 : decode cX11_begins 5 = .ok (.aload_n 0, 1) := by decide +kernel
theorem dX11_begins_6 : decode cX11_begins 6 = .ok (.iconst (-1), 1) := by decide +kernel
theorem dX11_begins_7 : decode cX11_begins 7 = .ok (.putfield 114, 3) := by decide +kernel
theorem dX11_begins_10 : decode cX11_begins 10 = .ok (.aload_n 0, 1) := by decide +kernel
theorem dX11_begins_11 : decode cX11_begins 11 = .ok (.iconst 0, 1) := by decide +kernel
theorem dX11_begins_12 : decode cX11_begins 12 = .ok (.putfield 83, 3) := by decide +kernel
theorem dX11_begins_15 : decode cX11_begins 15 = .ok (.aload_n 0, 1) := by decide +kernel
set_option maxRecDepth 20000 in
theorem ggX11_begins_X11_next : GoodIn wsX11_begins wsX11_next := goodIn_r _ [8, 3, 9, 10, 11, 12, 13, 14, 15, 16, 17, 18, 19, 20, 21, 22, 7, 23, 24, 25, 26, 27, 28, 29, 30, 31, 32, 33, 34, 35, 36, 37, 38, 39, 40, 41, 42, 43, 44, 45, 46, 47, 48, 49, 50, 51, 52, 53, 54] (by decide +kernel) (by decide +kernel)
set_option maxRecDepth 20000 in
theorem gX11_begins_X11_next : GoodIn wsX11_begins (wsV RX11 121 RX11 yX11_next wsX11_next) := goodIn_app (goodIn_of _ (by decide +kernel)) ggX11_begins_X11_next
theorem dX11_begins_16 : decode cX11_begins 16 = .ok (.invokevirtual 121, 3) := by decide +kernel
theorem dX11_begins_19 : decode cX11_begins 19 = .ok (.return_, 1) := by decide +kernel
theorem dX11_isGood_0 : decode cX11_isGood 0 = .ok (.aload_n 0, 1) := by decide +kernel
theorem dX11_isGood_1 : decode cX11_isGood 1 = .ok (.getfield 111, 3) := by decide +kernel
theorem dX11_isGood_4 : decode cX11_isGood 4 = .ok (.ifCond .ne 7, 3) := by decide +kernel
theorem dX11_isGood_7 : decode cX11_isGood 7 = .ok (.iconst 1, 1) := by decide +kernel
theorem dX11_isGood_8 : decode cX11_isGood 8 = .ok (.goto 4, 3) := by decide +kernel
theorem dX11_isGood_12 : decode cX11_isGood 12 = .ok (.ireturn, 1) := by decide +kernel
theorem dX11_isOver_0 : decode cX11_isOver 0 = .ok (.aload_n 0, 1) := by decide +kernel
theorem dX11_isOver_1 : decode cX11_isOver 1 = .ok (.iconst 0, 1) := by decide +kernel
theorem dX11_isOver_2 : decode cX11_isOver 2 = .ok (.putfield 76, 3) := by decide +kernel
theorem dX11_isOver_5 : decode cX11_isOver 5 = .ok (.aload_n 0, 1) := by decide +kernel
theorem dX11_isOver_6 : decode cX11_isOver 6 = .ok (.aload_n 0, 1) := by decide +kernel
theorem dX11_isOver_7 : decode cX11_isOver 7 = .ok (.getfield 111, 3) := by decide +kernel
theorem dX11_isOver_10 : decode cX11_isOver 10 = .ok (.putfield 138, 3) := by decide +kernel
theorem dX11_isOver_13 : decode cX11_isOver 13 = .ok (.aload_n 0, 1) := by decide +kernel
theorem dX11_isOver_14 : decode cX11_isOver 14 = .ok (.aload_n 0, 1) := by decide +kernel
theorem dX11_isOver_15 : decode cX11_isOver 15 = .ok (.getfield 111, 3) := by decide +kernel
theorem dX11_isOver_18 : decode cX11_isOver 18 = .ok (.ifCond .ne 7, 3) := by decide +kernel
theorem dX11_isOver_21 : decode cX11_isOver 21 = .ok (.iconst (-1), 1) := by decide +kernel
theorem dX11_isOver_22 : decode cX11_isOver 22 = .ok (.goto 7, 3) := by decide +kernel
theorem dX11_isOver_29 : decode cX11_isOver 29 = .ok (.putfield 27, 3) := by decide +kernel
theorem dX11_isOver_32 : decode cX11_isOver 32 = .ok (.return_, 1) := by decide +kernel
theorem dX11_city_0 : decode cX11_city 0 = .ok (.aload_n 0, 1) := by decide +kernel
theorem dX11_city_1 : decode cX11_city 1 = .ok (.iconst 0, 1) := by decide +kernel
theorem dX11_city_2 : decode cX11_city 2 = .ok (.putfield 59, 3) := by decide +kernel
theorem dX11_city_5 : decode cX11_city 5 = .ok (.aload_n 0, 1) := by decide +kernel
set_option maxRecDepth 20000 in
theorem ggX11_city_X11_clears : GoodIn wsX11_city wsX11_clears := goodIn_r _ [11, 3, 12, 13, 14, 10, 15, 16, 118, 119, 120, 121, 122, 123, 124, 125, 126, 127, 128, 129, 130, 131, 132, 133, 134, 135, 136, 137, 138, 139, 140, 141, 142, 143, 144, 145, 146, 147, 148] (by decide +kernel) (by decide +kernel)
set_option maxRecDepth 20000 in
theorem gX11_city_X11_clears : GoodIn wsX11_city (wsV RX11 180 RX11 yX11_clears wsX11_clears) := goodIn_app (goodIn_of _ (by decide +kernel)) ggX11_city_X11_clears
theorem dX11_city_6 : decode cX11_city 6 = .ok (.invokevirtual 180, 3) := by decide +kernel
theorem dX11_city_9 : decode cX11_city 9 = .ok (.aload_n 0, 1) := by decide +kernel
set_option maxRecDepth 20000 in
theorem ggX11_city_X11_begins : GoodIn wsX11_city wsX11_begins := goodIn_r _ [20, 6, 21, 22, 23, 24, 25, 10, 26, 27, 28, 29, 30, 2, 31, 32, 33, 34, 35, 36, 37, 38, 39, 40, 118, 119, 120, 121, 122, 123, 124, 125, 126, 127, 128, 129, 130, 131, 132, 133, 134, 135, 136, 137, 138, 139, 140, 141, 142, 143, 144, 145, 146, 147, 148] (by decide +kernel) (by decide +kernel)
set_option maxRecDepth 20000 in
theorem gX11_city_X11_begins : GoodIn wsX11_city (wsV RX11 183 RX11 yX11_begins wsX11_begins) := goodIn_app (goodIn_of _ (by decide +kernel)) ggX11_city_X11_begins
theorem dX11_city_10 : decode cX11_city 10 = .ok (.invokevirtual 183, 3) := by decide +kernel
theorem dX11_city_13 : decode cX11_city 13 = .ok (.aload_n 0, 1) := by decide +kernel
set_option maxRecDepth 20000 in
theorem ggX11_city_X11_isGood : GoodIn wsX11_city wsX11_isGood := goodIn_r _ [44, 6, 118, 119, 120, 121, 122, 123, 124, 125, 126, 127, 128, 129, 130, 131, 132, 133, 134, 135, 136, 137, 138, 139, 140, 141, 142, 143, 144, 145, 146, 147, 148] (by decide +kernel) (by decide +kernel)
set_option maxRecDepth 20000 in
theorem gX11_city_X11_isGood : GoodIn wsX11_city (wsV RX11 141 RX11 yX11_isGood wsX11_isGood) := goodIn_app (goodIn_of _ (by decide +kernel)) ggX11_city_X11_isGood
theorem dX11_city_14 : decode cX11_city 14 = .ok (.invokevirtual 141, 3) := by decide +kernel
theorem dX11_city_17 : decode cX11_city 17 = .ok (.ifCond .eq 72, 3) := by decide +kernel
theorem dX11_city_20 : decode cX11_city 20 = .ok (.aload_n 0, 1) := by decide +kernel
theorem dX11_city_21 : decode cX11_city 21 = .ok (.getfield 100, 3) := by decide +kernel
theorem dX11_city_24 : decode cX11_city 24 = .ok (.ifCond .eq 65, 3) := by decide +kernel
theorem dX11_city_89 : decode cX11_city 89 = .ok (.aload_n 0, 1) := by decide +kernel
set_option maxRecDepth 20000 in
theorem ggX11_city_X11_isOver : GoodIn wsX11_city wsX11_isOver := goodIn_r _ [107, 30, 6, 108, 21, 109, 118, 119, 120, 121, 122, 123, 124, 125, 126, 127, 128, 129, 130, 131, 132, 133, 134, 135, 136, 137, 138, 139, 140, 141, 142, 143, 144, 145, 146, 147, 148] (by decide +kernel) (by decide +kernel)
set_option maxRecDepth 20000 in
theorem gX11_city_X11_isOver : GoodIn wsX11_city (wsV RX11 196 RX11 yX11_isOver wsX11_isOver) := goodIn_app (goodIn_of _ (by decide +kernel)) ggX11_city_X11_isOver
theorem dX11_city_90 : decode cX11_city 90 = .ok (.invokevirtual 196, 3) := by decide +kernel
theorem dX11_city_93 : decode cX11_city 93 = .ok (.aload_n 0, 1) := by decide +kernel
theorem dX11_city_94 : decode cX11_city 94 = .ok (.getfield 111, 3) := by decide +kernel
theorem dX11_city_97 : decode cX11_city 97 = .ok (.ifCond .eq 6, 3) := by decide +kernel
theorem dX11_city_103 : decode cX11_city 103 = .ok (.aload_n 0, 1) := by decide +kernel
theorem dX11_city_104 : decode cX11_city 104 = .ok (.iconst 4, 1) := by decide +kernel
theorem dX11_city_105 : decode cX11_city 105 = .ok (.iconst 0, 1) := by decide +kernel
set_option maxRecDepth 20000 in
theorem ggX11_city_X11_copyCity : GoodIn wsX11_city wsX11_copyCity := goodIn_r _ [113, 3, 16, 86, 114, 115, 116, 10, 117, 118, 119, 120, 121, 122, 123, 124, 125, 126, 127, 128, 129, 130, 131, 132, 133, 134, 135, 136, 137, 138, 139, 140, 141, 142, 143, 144, 145, 146, 147, 148] (by decide +kernel) (by decide +kernel)
set_option maxRecDepth 20000 in
theorem gX11_city_X11_copyCity : GoodIn wsX11_city (wsV RX11 199 RX11 yX11_copyCity wsX11_copyCity) := goodIn_app (goodIn_of _ (by decide +kernel)) ggX11_city_X11_copyCity
theorem dX11_city_106 : decode cX11_city 106 = .ok (.invokevirtual 199, 3) := by decide +kernel
theorem dX11_city_109 : decode cX11_city 109 = .ok (.aload_n 0, 1) := by decide +kernel
theorem dX11_city_110 : decode cX11_city 110 = .ok (.getfield 31, 3) := by decide +kernel
theorem dX11_city_113 : decode cX11_city 113 = .ok (.iconst 0, 1) := by decide +kernel
theorem dX11_city_114 : decode cX11_city 114 = .ok (.iaload, 1) := by decide +kernel
theorem dX11_city_115 : decode cX11_city 115 = .ok (.ireturn, 1) := by decide +kernel
set_option maxHeartbeats 4000000 in
set_option maxRecDepth 100000 in
theorem c_X11_tells (l : Launch) (G : va_G) (ct : Nat → ClassId) (b : Nat → Nat) (k : Nat) (f : Nat → Int32) (p1 : Int32) (hk : k ≤ 2) : Met l yX11_tells wsX11_tells ({ frames := 0, cells := 0, slots := 0, locals := 0 }) (va_Pc [.ref (b 0), .int (nI k), .int p1] (wrP G ct [((b 0), .inr (11, [.int 0, .ref (b 1), .ref (b 2), .ref (b 3), .ref (b 4), .ref (b 5), .int 0, .int 0, .int 0, .int 0, .int 0, .long 0, .int 0, .int 0, .int 0, .int (-1), .ref (b 6), .ref (b 7), .ref (b 8), .ref (b 9), .ref (b 10), .ref (b 11), .ref (b 12), .ref (b 13), .int 0, .int 0, .int 0, .int 0, .ref (b 14), .int 0, .int 0])), ((b 7), .inl (ct 0, 15, .inl f))])) (va_Qv (fun u : Unit => True) (fun u t => va_P G vwCl ((fun _ : Unit => [((b 0), .inr (11, [.int 0, .ref (b 1), .ref (b 2), .ref (b 3), .ref (b 4), .ref (b 5), .int 0, .int 0, .int 0, .int 0, .int 0, .long 0, .int 0, .int 0, .int 0, .int (-1), .ref (b 6), .ref (b 7), .ref (b 8), .ref (b 9), .ref (b 10), .ref (b 11), .ref (b 12), .ref (b 13), .int 0, .int 0, .int 0, .int 0, .ref (b 14), .int 0, .int 0])), ((b 7), .inl (ct 0, 15, .inl (upd f (nI (12 + k)).toNatClampNeg p1)))]) u) t.heap) (aset [((b 0), .inr (11, [.int 0, .ref (b 1), .ref (b 2), .ref (b 3), .ref (b 4), .ref (b 5), .int 0, .int 0, .int 0, .int 0, .int 0, .long 0, .int 0, .int 0, .int 0, .int (-1), .ref (b 6), .ref (b 7), .ref (b 8), .ref (b 9), .ref (b 10), .ref (b 11), .ref (b 12), .ref (b 13), .int 0, .int 0, .int 0, .int 0, .ref (b 14), .int 0, .int 0])), ((b 7), .inl (ct 0, 15, .inl f))])) 0 0 (aset [((b 0), .inr (11, [.int 0, .ref (b 1), .ref (b 2), .ref (b 3), .ref (b 4), .ref (b 5), .int 0, .int 0, .int 0, .int 0, .int 0, .long 0, .int 0, .int 0, .int 0, .int (-1), .ref (b 6), .ref (b 7), .ref (b 8), .ref (b 9), .ref (b 10), .ref (b 11), .ref (b 12), .ref (b 13), .int 0, .int 0, .int 0, .int 0, .ref (b 14), .int 0, .int 0])), ((b 7), .inl (ct 0, 15, .inl f))]) := by
  refine Met.ofW (cc := cX11_tells) (maxL := 3) (ret := none) (by decide) rfl ?_
  intro p e s m args below meth c s₁ B hml hv
  obtain ⟨rfl, hP, hK, hD0⟩ := hv
  have hx := B.exec
  have hb := B.bytes
  have hr := B.returns
  have hts := atoms_spec (ws := wsX11_tells) B.pre
  have hown : s.vm.findClass RX11 = some m.cls := findClass_of_methodNamed B.named
  have hlocks := B.notSynchronized
  have hD := hD0.aself
  generalize hAe : aset [((b 0), .inr (11, [.int 0, .ref (b 1), .ref (b 2), .ref (b 3), .ref (b 4), .ref (b 5), .int 0, .int 0, .int 0, .int 0, .int 0, .long 0, .int 0, .int 0, .int 0, .int (-1), .ref (b 6), .ref (b 7), .ref (b 8), .ref (b 9), .ref (b 10), .ref (b 11), .ref (b 12), .ref (b 13), .int 0, .int 0, .int 0, .int 0, .ref (b 14), .int 0, .int 0])), ((b 7), .inl (ct 0, 15, .inl f))] = A at hD ⊢
  have hS : va_S A s.heap s.heap [] := va_S.rf
  have hl := lv_entry ([.ref (b 0), .int (nI k), .int p1]) (n := 3) (Nat.le_of_ble_eq_true rfl)
  rw [lg_entry_eq]
  generalize (lg_sl ([.ref (b 0), .int (nI k), .int p1]) ++ List.replicate (3 - (lg_sl ([.ref (b 0), .int (nI k), .int p1])).length) Slot.unset).toArray = ls at hl ⊢
  have hl : lv_has ls 3 [(0, .ref (b 0)), (1, .int (nI k)), (2, .int p1)] := hl
  refine lv_aload_n hx hb dX11_tells_0 rfl (lv_at hl 0 rfl) ?_
  refine va_get (D := G) (ci := 11) (v := .ref (b 7)) (C := RX11) (T := TX11) (N := 31) hx hb hts (by decide +kernel) hown hK.1 hP 0 rfl rfl 17 (by decide) (hts (.fieldLink RX11 34 "CardHolderModel" "has" "[I") (by decide +kernel)) (fun _ h9 => h9) rfl dX11_tells_1 ?_
  refine lv_bipush (v := 12) hx hb dX11_tells_4 (by decide) ?_
  refine lv_iload_n hx hb dX11_tells_6 rfl (lv_at hl 1 rfl) ?_
  refine lv_iadd hx hb dX11_tells_7 ?_
  refine ix_i (y := nI (12 + k)) (nI_add 12 k) ?_
  refine lv_iload_n hx hb dX11_tells_8 rfl (lv_at hl 2 rfl) ?_
  refine va_iast hx hb hK.1 hP hD hS 1 0 rfl rfl (vp_in_nI (n := 12 + k) (by skip; omega) (by omega)) dX11_tells_9 (fun H locs hP hD hS => ?_)
  exact W.vret hx hb hr (fun t ht hW => ⟨⟨(), rfl, trivial, hp_at ht hP⟩, hS.F ht⟩) hS.2.2 dX11_tells_10

set_option maxHeartbeats 4000000 in
set_option maxRecDepth 100000 in
theorem c_X11_clears (l : Launch) (G : va_G) (ct : Nat → ClassId) (b : Nat → Nat)  : Met l yX11_clears wsX11_clears ({ frames := 1, cells := 0, slots := 0, locals := 22 }) (va_Pc [.ref (b 0)] (wrP G ct [((b 0), .inr (11, [.int 0, .ref (b 1), .ref (b 2), .ref (b 3), .ref (b 4), .ref (b 5), .int 0, .int 0, .int 0, .int 0, .int 0, .long 0, .int 0, .int 0, .int 0, .int (-1), .ref (b 6), .ref (b 7), .ref (b 8), .ref (b 9), .ref (b 10), .ref (b 11), .ref (b 12), .ref (b 13), .int 0, .int 0, .int 0, .int 0, .ref (b 14), .int 0, .int 0])), ((b 6), .inl (ct 0, 5, .inl (fun _ => 0))), ((b 7), .inl (ct 0, 15, .inl (fun _ => 0)))])) (va_Qv (fun u : Unit => True) (fun u t => va_P G vwCl ((fun _ : Unit => [((b 0), .inr (11, [.int 0, .ref (b 1), .ref (b 2), .ref (b 3), .ref (b 4), .ref (b 5), .int 0, .int 0, .int 0, .int 0, .int 0, .long 0, .int 0, .int 0, .int 0, .int (-1), .ref (b 6), .ref (b 7), .ref (b 8), .ref (b 9), .ref (b 10), .ref (b 11), .ref (b 12), .ref (b 13), .int 0, .int 0, .int 0, .int 0, .ref (b 14), .int 0, .int 0])), ((b 6), .inl (ct 0, 5, .inl (upd (fun _ => 0) (4 : Int32).toNatClampNeg 0))), ((b 7), .inl (ct 0, 15, .inl (upd (upd (upd (fun _ => 0) (nI (12 + 0)).toNatClampNeg 0) (nI (12 + 1)).toNatClampNeg 0) (nI (12 + 2)).toNatClampNeg 0)))]) u) t.heap) (aset [((b 0), .inr (11, [.int 0, .ref (b 1), .ref (b 2), .ref (b 3), .ref (b 4), .ref (b 5), .int 0, .int 0, .int 0, .int 0, .int 0, .long 0, .int 0, .int 0, .int 0, .int (-1), .ref (b 6), .ref (b 7), .ref (b 8), .ref (b 9), .ref (b 10), .ref (b 11), .ref (b 12), .ref (b 13), .int 0, .int 0, .int 0, .int 0, .ref (b 14), .int 0, .int 0])), ((b 6), .inl (ct 0, 5, .inl (fun _ => 0))), ((b 7), .inl (ct 0, 15, .inl (fun _ => 0)))])) 0 0 (aset [((b 0), .inr (11, [.int 0, .ref (b 1), .ref (b 2), .ref (b 3), .ref (b 4), .ref (b 5), .int 0, .int 0, .int 0, .int 0, .int 0, .long 0, .int 0, .int 0, .int 0, .int (-1), .ref (b 6), .ref (b 7), .ref (b 8), .ref (b 9), .ref (b 10), .ref (b 11), .ref (b 12), .ref (b 13), .int 0, .int 0, .int 0, .int 0, .ref (b 14), .int 0, .int 0])), ((b 6), .inl (ct 0, 5, .inl (fun _ => 0))), ((b 7), .inl (ct 0, 15, .inl (fun _ => 0)))]) := by
  refine Met.ofW (cc := cX11_clears) (maxL := 2) (ret := none) (by decide) rfl ?_
  intro p e s m args below meth c s₁ B hml hv
  obtain ⟨rfl, hP, hK, hD0⟩ := hv
  have hx := B.exec
  have hb := B.bytes
  have hr := B.returns
  have hts := atoms_spec (ws := wsX11_clears) B.pre
  have hown : s.vm.findClass RX11 = some m.cls := findClass_of_methodNamed B.named
  have hlocks := B.notSynchronized
  have hD := hD0.aself
  generalize hAe : aset [((b 0), .inr (11, [.int 0, .ref (b 1), .ref (b 2), .ref (b 3), .ref (b 4), .ref (b 5), .int 0, .int 0, .int 0, .int 0, .int 0, .long 0, .int 0, .int 0, .int 0, .int (-1), .ref (b 6), .ref (b 7), .ref (b 8), .ref (b 9), .ref (b 10), .ref (b 11), .ref (b 12), .ref (b 13), .int 0, .int 0, .int 0, .int 0, .ref (b 14), .int 0, .int 0])), ((b 6), .inl (ct 0, 5, .inl (fun _ => 0))), ((b 7), .inl (ct 0, 15, .inl (fun _ => 0)))] = A at hD ⊢
  have hS : va_S A s.heap s.heap [] := va_S.rf
  have hl := lv_entry ([.ref (b 0)]) (n := 2) (Nat.le_of_ble_eq_true rfl)
  rw [lg_entry_eq]
  generalize (lg_sl ([.ref (b 0)]) ++ List.replicate (2 - (lg_sl ([.ref (b 0)])).length) Slot.unset).toArray = ls at hl ⊢
  have hl : lv_has ls 2 [(0, .ref (b 0))] := hl
  refine lv_aload_n hx hb dX11_clears_0 rfl (lv_at hl 0 rfl) ?_
  refine va_get (D := G) (ci := 11) (v := .ref (b 6)) (C := RX11) (T := TX11) (N := 31) hx hb hts (by decide +kernel) hown hK.1 hP 0 rfl rfl 16 (by decide) (hts (.fieldLink RX11 31 "CardHolderModel" "lines" "[I") (by decide +kernel)) (fun _ h9 => h9) rfl dX11_clears_1 ?_
  refine lv_iconst (v := 4) hx hb dX11_clears_4 (by decide) ?_
  refine lv_iconst (v := 0) hx hb dX11_clears_5 (by decide) ?_
  refine va_iast hx hb hK.1 hP hD hS 1 0 rfl rfl (in_lit (by decide)) dX11_clears_6 (fun H locs hP hD hS => ?_)
  refine lv_iconst (v := 0) hx hb dX11_clears_7 (by decide) ?_
  refine lv_istore_n (lv' := [(1, .int 0), (0, .ref (b 0))]) hx hb dX11_clears_8 rfl hl (by decide) rfl (fun ls hl => ?_)
  refine lv_iload_n hx hb dX11_clears_9 rfl (lv_at hl 0 rfl) ?_
  refine lv_iconst (v := 3) hx hb dX11_clears_10 (by decide) ?_
  refine lv_icmp_ge (tgt := 26) hx hb dX11_clears_11 (by decide) (fun c_1 => ?_) (fun c_1 => ?_)
  · exact absurd c_1 (by decide)
  · refine lv_aload_n hx hb dX11_clears_14 rfl (lv_at hl 1 rfl) ?_
    refine lv_iload_n hx hb dX11_clears_15 rfl (lv_at hl 0 rfl) ?_
    refine lv_iconst (v := 0) hx hb dX11_clears_16 (by decide) ?_
    refine wj_callv (wr := [((b 6), .inl (ct 0, 5, .inl (upd (fun _ => 0) (4 : Int32).toNatClampNeg 0)))]) (w1 := (fun _ : Unit => [((b 0), .inr (11, [.int 0, .ref (b 1), .ref (b 2), .ref (b 3), .ref (b 4), .ref (b 5), .int 0, .int 0, .int 0, .int 0, .int 0, .long 0, .int 0, .int 0, .int 0, .int (-1), .ref (b 6), .ref (b 7), .ref (b 8), .ref (b 9), .ref (b 10), .ref (b 11), .ref (b 12), .ref (b 13), .int 0, .int 0, .int 0, .int 0, .ref (b 14), .int 0, .int 0])), ((b 7), .inl (ct 0, 15, .inl (upd (fun _ => 0) (nI (12 + 0)).toNatClampNeg 0)))])) (va_runV (As := [.int 0, .int 0]) (rest := []) ⟨hx, hb, hml, hown, hts⟩ (c_X11_tells l G ct b 0 (fun _ => 0) 0 (by omega)) (cwV 2 hts gX11_clears_X11_tells rfl rfl rfl (by decide +kernel) ⟨Nat.le_of_ble_eq_true rfl, Nat.le_of_ble_eq_true rfl⟩) (wr_preV 11 0 hK (hP.sub [0, 2] rfl) (hD.sub [0, 2] (by decide) rfl) rfl rfl) rfl rfl hl.1 rfl (lv_room (Nat.le_of_ble_eq_true rfl)) dX11_clears_17 ⟨Nat.zero_le _, Nat.zero_le _⟩) hS hP hD [0, 2] [1] rfl rfl (by decide) (fun _ => rfl) (fun u_2 H locs wu_2 hP hD hS => ?_)
    have hP : va_P G vwCl [((b 0), .inr (11, [.int 0, .ref (b 1), .ref (b 2), .ref (b 3), .ref (b 4), .ref (b 5), .int 0, .int 0, .int 0, .int 0, .int 0, .long 0, .int 0, .int 0, .int 0, .int (-1), .ref (b 6), .ref (b 7), .ref (b 8), .ref (b 9), .ref (b 10), .ref (b 11), .ref (b 12), .ref (b 13), .int 0, .int 0, .int 0, .int 0, .ref (b 14), .int 0, .int 0])), ((b 6), .inl (ct 0, 5, .inl (upd (fun _ => 0) (4 : Int32).toNatClampNeg 0))), ((b 7), .inl (ct 0, 15, .inl (upd (fun _ => 0) (nI (12 + 0)).toNatClampNeg 0)))] H := hP.sub [1, 0, 2] rfl
    have hD : va_D A [((b 0), .inr (11, [.int 0, .ref (b 1), .ref (b 2), .ref (b 3), .ref (b 4), .ref (b 5), .int 0, .int 0, .int 0, .int 0, .int 0, .long 0, .int 0, .int 0, .int 0, .int (-1), .ref (b 6), .ref (b 7), .ref (b 8), .ref (b 9), .ref (b 10), .ref (b 11), .ref (b 12), .ref (b 13), .int 0, .int 0, .int 0, .int 0, .ref (b 14), .int 0, .int 0])), ((b 6), .inl (ct 0, 5, .inl (upd (fun _ => 0) (4 : Int32).toNatClampNeg 0))), ((b 7), .inl (ct 0, 15, .inl (upd (fun _ => 0) (nI (12 + 0)).toNatClampNeg 0)))] := hD.sub [1, 0, 2] (by decide) rfl
    refine lv_iinc (v := 1) (lv' := [(1, .int 1), (0, .ref (b 0))]) hx hb dX11_clears_20 hl (k := 0) rfl (by decide) (by decide) rfl (fun ls hl => ?_)
    refine lv_goto (tgt := 9) hx hb dX11_clears_23 (by decide) ?_
    refine lv_iload_n hx hb dX11_clears_9 rfl (lv_at hl 0 rfl) ?_
    refine lv_iconst (v := 3) hx hb dX11_clears_10 (by decide) ?_
    refine lv_icmp_ge (tgt := 26) hx hb dX11_clears_11 (by decide) (fun c_3 => ?_) (fun c_3 => ?_)
    · exact absurd c_3 (by decide)
    · refine lv_aload_n hx hb dX11_clears_14 rfl (lv_at hl 1 rfl) ?_
      refine lv_iload_n hx hb dX11_clears_15 rfl (lv_at hl 0 rfl) ?_
      refine lv_iconst (v := 0) hx hb dX11_clears_16 (by decide) ?_
      refine wj_callv (wr := [((b 6), .inl (ct 0, 5, .inl (upd (fun _ => 0) (4 : Int32).toNatClampNeg 0)))]) (w1 := (fun _ : Unit => [((b 0), .inr (11, [.int 0, .ref (b 1), .ref (b 2), .ref (b 3), .ref (b 4), .ref (b 5), .int 0, .int 0, .int 0, .int 0, .int 0, .long 0, .int 0, .int 0, .int 0, .int (-1), .ref (b 6), .ref (b 7), .ref (b 8), .ref (b 9), .ref (b 10), .ref (b 11), .ref (b 12), .ref (b 13), .int 0, .int 0, .int 0, .int 0, .ref (b 14), .int 0, .int 0])), ((b 7), .inl (ct 0, 15, .inl (upd (upd (fun _ => 0) (nI (12 + 0)).toNatClampNeg 0) (nI (12 + 1)).toNatClampNeg 0)))])) (va_runV (As := [.int 1, .int 0]) (rest := []) ⟨hx, hb, hml, hown, hts⟩ (c_X11_tells l G ct b 1 (upd (fun _ => 0) (nI (12 + 0)).toNatClampNeg 0) 0 (by omega)) (cwV 2 hts gX11_clears_X11_tells rfl rfl rfl (by decide +kernel) ⟨Nat.le_of_ble_eq_true rfl, Nat.le_of_ble_eq_true rfl⟩) (wr_preV 11 0 hK (hP.sub [0, 2] rfl) (hD.sub [0, 2] (by decide) rfl) rfl rfl) rfl rfl hl.1 rfl (lv_room (Nat.le_of_ble_eq_true rfl)) dX11_clears_17 ⟨Nat.zero_le _, Nat.zero_le _⟩) hS hP hD [0, 2] [1] rfl rfl (by decide) (fun _ => rfl) (fun u_4 H locs wu_4 hP hD hS => ?_)
      have hP : va_P G vwCl [((b 0), .inr (11, [.int 0, .ref (b 1), .ref (b 2), .ref (b 3), .ref (b 4), .ref (b 5), .int 0, .int 0, .int 0, .int 0, .int 0, .long 0, .int 0, .int 0, .int 0, .int (-1), .ref (b 6), .ref (b 7), .ref (b 8), .ref (b 9), .ref (b 10), .ref (b 11), .ref (b 12), .ref (b 13), .int 0, .int 0, .int 0, .int 0, .ref (b 14), .int 0, .int 0])), ((b 6), .inl (ct 0, 5, .inl (upd (fun _ => 0) (4 : Int32).toNatClampNeg 0))), ((b 7), .inl (ct 0, 15, .inl (upd (upd (fun _ => 0) (nI (12 + 0)).toNatClampNeg 0) (nI (12 + 1)).toNatClampNeg 0)))] H := hP.sub [1, 0, 2] rfl
      have hD : va_D A [((b 0), .inr (11, [.int 0, .ref (b 1), .ref (b 2), .ref (b 3), .ref (b 4), .ref (b 5), .int 0, .int 0, .int 0, .int 0, .int 0, .long 0, .int 0, .int 0, .int 0, .int (-1), .ref (b 6), .ref (b 7), .ref (b 8), .ref (b 9), .ref (b 10), .ref (b 11), .ref (b 12), .ref (b 13), .int 0, .int 0, .int 0, .int 0, .ref (b 14), .int 0, .int 0])), ((b 6), .inl (ct 0, 5, .inl (upd (fun _ => 0) (4 : Int32).toNatClampNeg 0))), ((b 7), .inl (ct 0, 15, .inl (upd (upd (fun _ => 0) (nI (12 + 0)).toNatClampNeg 0) (nI (12 + 1)).toNatClampNeg 0)))] := hD.sub [1, 0, 2] (by decide) rfl
      refine lv_iinc (v := 2) (lv' := [(1, .int 2), (0, .ref (b 0))]) hx hb dX11_clears_20 hl (k := 0) rfl (by decide) (by decide) rfl (fun ls hl => ?_)
      refine lv_goto (tgt := 9) hx hb dX11_clears_23 (by decide) ?_
      refine lv_iload_n hx hb dX11_clears_9 rfl (lv_at hl 0 rfl) ?_
      refine lv_iconst (v := 3) hx hb dX11_clears_10 (by decide) ?_
      refine lv_icmp_ge (tgt := 26) hx hb dX11_clears_11 (by decide) (fun c_5 => ?_) (fun c_5 => ?_)
      · exact absurd c_5 (by decide)
      · refine lv_aload_n hx hb dX11_clears_14 rfl (lv_at hl 1 rfl) ?_
        refine lv_iload_n hx hb dX11_clears_15 rfl (lv_at hl 0 rfl) ?_
        refine lv_iconst (v := 0) hx hb dX11_clears_16 (by decide) ?_
        refine wj_callv (wr := [((b 6), .inl (ct 0, 5, .inl (upd (fun _ => 0) (4 : Int32).toNatClampNeg 0)))]) (w1 := (fun _ : Unit => [((b 0), .inr (11, [.int 0, .ref (b 1), .ref (b 2), .ref (b 3), .ref (b 4), .ref (b 5), .int 0, .int 0, .int 0, .int 0, .int 0, .long 0, .int 0, .int 0, .int 0, .int (-1), .ref (b 6), .ref (b 7), .ref (b 8), .ref (b 9), .ref (b 10), .ref (b 11), .ref (b 12), .ref (b 13), .int 0, .int 0, .int 0, .int 0, .ref (b 14), .int 0, .int 0])), ((b 7), .inl (ct 0, 15, .inl (upd (upd (upd (fun _ => 0) (nI (12 + 0)).toNatClampNeg 0) (nI (12 + 1)).toNatClampNeg 0) (nI (12 + 2)).toNatClampNeg 0)))])) (va_runV (As := [.int 2, .int 0]) (rest := []) ⟨hx, hb, hml, hown, hts⟩ (c_X11_tells l G ct b 2 (upd (upd (fun _ => 0) (nI (12 + 0)).toNatClampNeg 0) (nI (12 + 1)).toNatClampNeg 0) 0 (by omega)) (cwV 2 hts gX11_clears_X11_tells rfl rfl rfl (by decide +kernel) ⟨Nat.le_of_ble_eq_true rfl, Nat.le_of_ble_eq_true rfl⟩) (wr_preV 11 0 hK (hP.sub [0, 2] rfl) (hD.sub [0, 2] (by decide) rfl) rfl rfl) rfl rfl hl.1 rfl (lv_room (Nat.le_of_ble_eq_true rfl)) dX11_clears_17 ⟨Nat.zero_le _, Nat.zero_le _⟩) hS hP hD [0, 2] [1] rfl rfl (by decide) (fun _ => rfl) (fun u_6 H locs wu_6 hP hD hS => ?_)
        have hP : va_P G vwCl [((b 0), .inr (11, [.int 0, .ref (b 1), .ref (b 2), .ref (b 3), .ref (b 4), .ref (b 5), .int 0, .int 0, .int 0, .int 0, .int 0, .long 0, .int 0, .int 0, .int 0, .int (-1), .ref (b 6), .ref (b 7), .ref (b 8), .ref (b 9), .ref (b 10), .ref (b 11), .ref (b 12), .ref (b 13), .int 0, .int 0, .int 0, .int 0, .ref (b 14), .int 0, .int 0])), ((b 6), .inl (ct 0, 5, .inl (upd (fun _ => 0) (4 : Int32).toNatClampNeg 0))), ((b 7), .inl (ct 0, 15, .inl (upd (upd (upd (fun _ => 0) (nI (12 + 0)).toNatClampNeg 0) (nI (12 + 1)).toNatClampNeg 0) (nI (12 + 2)).toNatClampNeg 0)))] H := hP.sub [1, 0, 2] rfl
        have hD : va_D A [((b 0), .inr (11, [.int 0, .ref (b 1), .ref (b 2), .ref (b 3), .ref (b 4), .ref (b 5), .int 0, .int 0, .int 0, .int 0, .int 0, .long 0, .int 0, .int 0, .int 0, .int (-1), .ref (b 6), .ref (b 7), .ref (b 8), .ref (b 9), .ref (b 10), .ref (b 11), .ref (b 12), .ref (b 13), .int 0, .int 0, .int 0, .int 0, .ref (b 14), .int 0, .int 0])), ((b 6), .inl (ct 0, 5, .inl (upd (fun _ => 0) (4 : Int32).toNatClampNeg 0))), ((b 7), .inl (ct 0, 15, .inl (upd (upd (upd (fun _ => 0) (nI (12 + 0)).toNatClampNeg 0) (nI (12 + 1)).toNatClampNeg 0) (nI (12 + 2)).toNatClampNeg 0)))] := hD.sub [1, 0, 2] (by decide) rfl
        refine lv_iinc (v := 3) (lv' := [(1, .int 3), (0, .ref (b 0))]) hx hb dX11_clears_20 hl (k := 0) rfl (by decide) (by decide) rfl (fun ls hl => ?_)
        refine lv_goto (tgt := 9) hx hb dX11_clears_23 (by decide) ?_
        refine lv_iload_n hx hb dX11_clears_9 rfl (lv_at hl 0 rfl) ?_
        refine lv_iconst (v := 3) hx hb dX11_clears_10 (by decide) ?_
        refine lv_icmp_ge (tgt := 26) hx hb dX11_clears_11 (by decide) (fun c_7 => ?_) (fun c_7 => ?_)
        · exact W.vret hx hb hr (fun t ht hW => ⟨⟨(), rfl, trivial, hp_at ht hP⟩, hS.F ht⟩) hS.2.2 dX11_clears_26
        · exact absurd c_7 (by decide)

set_option maxHeartbeats 4000000 in
set_option maxRecDepth 100000 in
theorem c0_X11_isByte (l : Launch) (G : va_G) (ct : Nat → ClassId) (b : Nat → Nat) (i13 : Int32) (p1 : Int32) (p2 : Int32)  : Met l yX11_isByte wsX11_isByte ({ frames := 0, cells := 0, slots := 0, locals := 0 }) (va_Pc [.ref (b 0), .int 0, .int p1, .int p2] (roP G ct [((b 0), .inr (11, [.int 0, .ref (b 1), .ref (b 2), .ref (b 3), .ref (b 4), .ref (b 5), .int 0, .int 0, .int 0, .int 0, .int 0, .long 0, .int 0, .int i13, .int 0, .int (-1), .ref (b 6), .ref (b 7), .ref (b 8), .ref (b 9), .ref (b 10), .ref (b 11), .ref (b 12), .ref (b 13), .int 0, .int 0, .int 0, .int 0, .ref (b 14), .int 0, .int 0]))])) (roQ (fun r => r = 0)) 0 0 no := by
  refine Met.ofW (cc := cX11_isByte) (maxL := 4) (ret := (some .boolean)) (by decide) rfl ?_
  intro p e s m args below meth c s₁ B hml hv
  obtain ⟨rfl, hP, hK⟩ := hv
  have hx := B.exec
  have hb := B.bytes
  have hr := B.returns
  have hts := atoms_spec (ws := wsX11_isByte) B.pre
  have hown : s.vm.findClass RX11 = some m.cls := findClass_of_methodNamed B.named
  have hlocks := B.notSynchronized
  have hS : va_S no s.heap s.heap [] := va_S.rf
  have hl := lv_entry ([.ref (b 0), .int 0, .int p1, .int p2]) (n := 4) (Nat.le_of_ble_eq_true rfl)
  rw [lg_entry_eq]
  generalize (lg_sl ([.ref (b 0), .int 0, .int p1, .int p2]) ++ List.replicate (4 - (lg_sl ([.ref (b 0), .int 0, .int p1, .int p2])).length) Slot.unset).toArray = ls at hl ⊢
  have hl : lv_has ls 4 [(0, .ref (b 0)), (1, .int 0), (2, .int p1), (3, .int p2)] := hl
  refine lv_iload_n hx hb dX11_isByte_0 rfl (lv_at hl 1 rfl) ?_
  refine lv_aload_n hx hb dX11_isByte_1 rfl (lv_at hl 0 rfl) ?_
  refine va_get (D := G) (ci := 11) (v := .int 0) (C := RX11) (T := TX11) (N := 31) hx hb hts (by decide +kernel) hown hK.1 hP 0 rfl rfl 6 (by decide) (hts (.fieldLink RX11 76 "CardHolderModel" "taped" "I") (by decide +kernel)) (fun _ h9 => h9) rfl dX11_isByte_2 ?_
  refine lv_icmp_ge (tgt := 32) hx hb dX11_isByte_5 (by decide) (fun c_1 => ?_) (fun c_1 => ?_)
  · refine lv_iconst (v := 0) hx hb dX11_isByte_32 (by decide) ?_
    exact W.zret (v := 0) (ty := .boolean) hx hb hr (rfl) (fun t ht hW => ⟨⟨0, (), rfl, rfl, trivial⟩, hS.F ht⟩) hS.2.2 dX11_isByte_33
  · exact absurd c_1 (by decide)

set_option maxHeartbeats 4000000 in
set_option maxRecDepth 100000 in
theorem c0_X11_next (l : Launch) (G : va_G) (ct : Nat → ClassId) (b : Nat → Nat) (i13 : Int32)  : Met l yX11_next wsX11_next ({ frames := 1, cells := 0, slots := 0, locals := 23 }) (va_Pc [.ref (b 0)] (wrP G ct [((b 0), .inr (11, [.int 0, .ref (b 1), .ref (b 2), .ref (b 3), .ref (b 4), .ref (b 5), .int 0, .int 0, .int 0, .int 0, .int 0, .long 0, .int 0, .int i13, .int 0, .int (-1), .ref (b 6), .ref (b 7), .ref (b 8), .ref (b 9), .ref (b 10), .ref (b 11), .ref (b 12), .ref (b 13), .int 0, .int 0, .int 0, .int 0, .ref (b 14), .int 0, .int 0]))])) (va_Qv (fun u : Unit => True) (fun u t => va_P G vwCl ((fun _ : Unit => [((b 0), .inr (11, [.int 0, .ref (b 1), .ref (b 2), .ref (b 3), .ref (b 4), .ref (b 5), .int 0, .int 0, .int 0, .int 0, .int 0, .long 0, .int 0, .int i13, .int 0, .int (-1), .ref (b 6), .ref (b 7), .ref (b 8), .ref (b 9), .ref (b 10), .ref (b 11), .ref (b 12), .ref (b 13), .int 0, .int 0, .int 0, .int 0, .ref (b 14), .int 0, .int 0]))]) u) t.heap) (aset [((b 0), .inr (11, [.int 0, .ref (b 1), .ref (b 2), .ref (b 3), .ref (b 4), .ref (b 5), .int 0, .int 0, .int 0, .int 0, .int 0, .long 0, .int 0, .int i13, .int 0, .int (-1), .ref (b 6), .ref (b 7), .ref (b 8), .ref (b 9), .ref (b 10), .ref (b 11), .ref (b 12), .ref (b 13), .int 0, .int 0, .int 0, .int 0, .ref (b 14), .int 0, .int 0]))])) 0 0 (aset [((b 0), .inr (11, [.int 0, .ref (b 1), .ref (b 2), .ref (b 3), .ref (b 4), .ref (b 5), .int 0, .int 0, .int 0, .int 0, .int 0, .long 0, .int 0, .int i13, .int 0, .int (-1), .ref (b 6), .ref (b 7), .ref (b 8), .ref (b 9), .ref (b 10), .ref (b 11), .ref (b 12), .ref (b 13), .int 0, .int 0, .int 0, .int 0, .ref (b 14), .int 0, .int 0]))]) := by
  refine Met.ofW (cc := cX11_next) (maxL := 2) (ret := none) (by decide) rfl ?_
  intro p e s m args below meth c s₁ B hml hv
  obtain ⟨rfl, hP, hK, hD0⟩ := hv
  have hx := B.exec
  have hb := B.bytes
  have hr := B.returns
  have hts := atoms_spec (ws := wsX11_next) B.pre
  have hown : s.vm.findClass RX11 = some m.cls := findClass_of_methodNamed B.named
  have hlocks := B.notSynchronized
  have hD := hD0.aself
  generalize hAe : aset [((b 0), .inr (11, [.int 0, .ref (b 1), .ref (b 2), .ref (b 3), .ref (b 4), .ref (b 5), .int 0, .int 0, .int 0, .int 0, .int 0, .long 0, .int 0, .int i13, .int 0, .int (-1), .ref (b 6), .ref (b 7), .ref (b 8), .ref (b 9), .ref (b 10), .ref (b 11), .ref (b 12), .ref (b 13), .int 0, .int 0, .int 0, .int 0, .ref (b 14), .int 0, .int 0]))] = A at hD ⊢
  have hS : va_S A s.heap s.heap [] := va_S.rf
  have hl := lv_entry ([.ref (b 0)]) (n := 2) (Nat.le_of_ble_eq_true rfl)
  rw [lg_entry_eq]
  generalize (lg_sl ([.ref (b 0)]) ++ List.replicate (2 - (lg_sl ([.ref (b 0)])).length) Slot.unset).toArray = ls at hl ⊢
  have hl : lv_has ls 2 [(0, .ref (b 0))] := hl
  refine lv_aload_n hx hb dX11_next_0 rfl (lv_at hl 0 rfl) ?_
  refine lv_aload_n hx hb dX11_next_1 rfl (lv_at hl 0 rfl) ?_
  refine va_get (D := G) (ci := 11) (v := .int 0) (C := RX11) (T := TX11) (N := 31) hx hb hts (by decide +kernel) hown hK.1 hP 0 rfl rfl 7 (by decide) (hts (.fieldLink RX11 83 "CardHolderModel" "at" "I") (by decide +kernel)) (fun _ h9 => h9) rfl dX11_next_2 ?_
  refine lv_bipush (v := 32) hx hb dX11_next_5 (by decide) ?_
  refine lv_bipush (v := 32) hx hb dX11_next_7 (by decide) ?_
  refine ro_calli (va_runV (As := [.int 0, .int 32, .int 32]) (rest := []) ⟨hx, hb, hml, hown, hts⟩ (c0_X11_isByte l G ct b i13 32 32) (cwV 3 hts gX11_next_X11_isByte rfl rfl rfl (by decide +kernel) ⟨Nat.le_of_ble_eq_true rfl, Nat.le_of_ble_eq_true rfl⟩) (ro_preV 11 0 hK (hP.sub [0] rfl) rfl rfl) rfl rfl hl.1 rfl (lv_room (Nat.le_of_ble_eq_true rfl)) dX11_next_9 ⟨Nat.zero_le _, Nat.zero_le _⟩) hS hP (fun r_1 H locs wr_1 hP hS => ?_)
  obtain rfl := wr_1
  refine lv_if_ne (tgt := 30) hx hb dX11_next_12 (by decide) (fun c_2 => ?_) (fun c_2 => ?_)
  · exact absurd c_2 (by decide)
  · refine lv_aload_n hx hb dX11_next_15 rfl (lv_at hl 0 rfl) ?_
    refine lv_aload_n hx hb dX11_next_16 rfl (lv_at hl 0 rfl) ?_
    refine va_get (D := G) (ci := 11) (v := .int 0) (C := RX11) (T := TX11) (N := 31) hx hb hts (by decide +kernel) hown hK.1 hP 0 rfl rfl 7 (by decide) (hts (.fieldLink RX11 83 "CardHolderModel" "at" "I") (by decide +kernel)) (fun _ h9 => h9) rfl dX11_next_17 ?_
    refine lv_bipush (v := 10) hx hb dX11_next_20 (by decide) ?_
    refine lv_bipush (v := 10) hx hb dX11_next_22 (by decide) ?_
    refine ro_calli (va_runV (As := [.int 0, .int 10, .int 10]) (rest := []) ⟨hx, hb, hml, hown, hts⟩ (c0_X11_isByte l G ct b i13 10 10) (cwV 3 hts gX11_next_X11_isByte rfl rfl rfl (by decide +kernel) ⟨Nat.le_of_ble_eq_true rfl, Nat.le_of_ble_eq_true rfl⟩) (ro_preV 11 0 hK (hP.sub [0] rfl) rfl rfl) rfl rfl hl.1 rfl (lv_room (Nat.le_of_ble_eq_true rfl)) dX11_next_24 ⟨Nat.zero_le _, Nat.zero_le _⟩) hS hP (fun r_3 H locs wr_3 hP hS => ?_)
    obtain rfl := wr_3
    refine lv_if_eq (tgt := 43) hx hb dX11_next_27 (by decide) (fun c_4 => ?_) (fun c_4 => ?_)
    · refine lv_aload_n hx hb dX11_next_43 rfl (lv_at hl 0 rfl) ?_
      refine lv_aload_n hx hb dX11_next_44 rfl (lv_at hl 0 rfl) ?_
      refine va_get (D := G) (ci := 11) (v := .int 0) (C := RX11) (T := TX11) (N := 31) hx hb hts (by decide +kernel) hown hK.1 hP 0 rfl rfl 7 (by decide) (hts (.fieldLink RX11 83 "CardHolderModel" "at" "I") (by decide +kernel)) (fun _ h9 => h9) rfl dX11_next_45 ?_
      refine va_put (D := G) (ci := 11) (v := .int 0) (ty := .int) (C := RX11) (T := TX11) (N := 31) hx hb hts (by decide +kernel) tyX11 tyX11_ok nmX11 hown hK.1 hP hD hS 0 rfl rfl 9 (by decide) (hts (.fieldLink RX11 90 "CardHolderModel" "place" "I") (by decide +kernel)) (fun _ h9 => h9) rfl (by decide +kernel) rfl rfl (Nat.le_of_ble_eq_true rfl) dX11_next_48 (fun H locs hP hD hS => ?_)
      refine lv_aload_n hx hb dX11_next_51 rfl (lv_at hl 0 rfl) ?_
      refine lv_iconst (v := 0) hx hb dX11_next_52 (by decide) ?_
      refine va_put (D := G) (ci := 11) (v := .int 0) (ty := .int) (C := RX11) (T := TX11) (N := 31) hx hb hts (by decide +kernel) tyX11 tyX11_ok nmX11 hown hK.1 hP hD hS 0 rfl rfl 10 (by decide) (hts (.fieldLink RX11 93 "CardHolderModel" "value" "I") (by decide +kernel)) (fun _ h9 => h9) rfl (by decide +kernel) rfl rfl (Nat.le_of_ble_eq_true rfl) dX11_next_53 (fun H locs hP hD hS => ?_)
      refine lv_aload_n hx hb dX11_next_56 rfl (lv_at hl 0 rfl) ?_
      refine lv_lconst (v := 0) hx hb dX11_next_57 (by decide) ?_
      refine va_put (D := G) (ci := 11) (v := .long 0) (ty := .long) (C := RX11) (T := TX11) (N := 31) hx hb hts (by decide +kernel) tyX11 tyX11_ok nmX11 hown hK.1 hP hD hS 0 rfl rfl 11 (by decide) (hts (.fieldLink RX11 96 "CardHolderModel" "word" "J") (by decide +kernel)) (fun _ h9 => h9) rfl (by decide +kernel) rfl rfl (Nat.le_of_ble_eq_true rfl) dX11_next_58 (fun H locs hP hD hS => ?_)
      refine lv_aload_n hx hb dX11_next_61 rfl (lv_at hl 0 rfl) ?_
      refine va_get (D := G) (ci := 11) (v := .int 0) (C := RX11) (T := TX11) (N := 31) hx hb hts (by decide +kernel) hown hK.1 hP 0 rfl rfl 7 (by decide) (hts (.fieldLink RX11 83 "CardHolderModel" "at" "I") (by decide +kernel)) (fun _ h9 => h9) rfl dX11_next_62 ?_
      refine lv_aload_n hx hb dX11_next_65 rfl (lv_at hl 0 rfl) ?_
      refine va_get (D := G) (ci := 11) (v := .int 0) (C := RX11) (T := TX11) (N := 31) hx hb hts (by decide +kernel) hown hK.1 hP 0 rfl rfl 6 (by decide) (hts (.fieldLink RX11 76 "CardHolderModel" "taped" "I") (by decide +kernel)) (fun _ h9 => h9) rfl dX11_next_66 ?_
      refine lv_icmp_ne (tgt := 80) hx hb dX11_next_69 (by decide) (fun c_5 => ?_) (fun c_5 => ?_)
      · exact absurd c_5 (by decide)
      · refine lv_aload_n hx hb dX11_next_72 rfl (lv_at hl 0 rfl) ?_
        refine lv_iconst (v := 0) hx hb dX11_next_73 (by decide) ?_
        refine va_put (D := G) (ci := 11) (v := .int 0) (ty := .int) (C := RX11) (T := TX11) (N := 31) hx hb hts (by decide +kernel) tyX11 tyX11_ok nmX11 hown hK.1 hP hD hS 0 rfl rfl 8 (by decide) (hts (.fieldLink RX11 100 "CardHolderModel" "token" "I") (by decide +kernel)) (fun _ h9 => h9) rfl (by decide +kernel) rfl rfl (Nat.le_of_ble_eq_true rfl) dX11_next_74 (fun H locs hP hD hS => ?_)
        refine lv_goto (tgt := 307) hx hb dX11_next_77 (by decide) ?_
        exact W.vret hx hb hr (fun t ht hW => ⟨⟨(), rfl, trivial, hp_at ht hP⟩, hS.F ht⟩) hS.2.2 dX11_next_307
    · exact absurd c_4 (by decide)

set_option maxHeartbeats 4000000 in
set_option maxRecDepth 100000 in
theorem c0_X11_begins (l : Launch) (G : va_G) (ct : Nat → ClassId) (b : Nat → Nat) (i13 : Int32)  : Met l yX11_begins wsX11_begins ({ frames := 2, cells := 0, slots := 0, locals := 44 }) (va_Pc [.ref (b 0)] (wrP G ct [((b 0), .inr (11, [.int 0, .ref (b 1), .ref (b 2), .ref (b 3), .ref (b 4), .ref (b 5), .int 0, .int 0, .int 0, .int 0, .int 0, .long 0, .int 0, .int i13, .int 0, .int (-1), .ref (b 6), .ref (b 7), .ref (b 8), .ref (b 9), .ref (b 10), .ref (b 11), .ref (b 12), .ref (b 13), .int 0, .int 0, .int 0, .int 0, .ref (b 14), .int 0, .int 0]))])) (va_Qv (fun u : Unit => True) (fun u t => va_P G vwCl ((fun _ : Unit => [((b 0), .inr (11, [.int 0, .ref (b 1), .ref (b 2), .ref (b 3), .ref (b 4), .ref (b 5), .int 0, .int 0, .int 0, .int 0, .int 0, .long 0, .int 0, .int (-1), .int 0, .int (-1), .ref (b 6), .ref (b 7), .ref (b 8), .ref (b 9), .ref (b 10), .ref (b 11), .ref (b 12), .ref (b 13), .int 0, .int 0, .int 0, .int 0, .ref (b 14), .int 0, .int 0]))]) u) t.heap) (aset [((b 0), .inr (11, [.int 0, .ref (b 1), .ref (b 2), .ref (b 3), .ref (b 4), .ref (b 5), .int 0, .int 0, .int 0, .int 0, .int 0, .long 0, .int 0, .int i13, .int 0, .int (-1), .ref (b 6), .ref (b 7), .ref (b 8), .ref (b 9), .ref (b 10), .ref (b 11), .ref (b 12), .ref (b 13), .int 0, .int 0, .int 0, .int 0, .ref (b 14), .int 0, .int 0]))])) 0 0 (aset [((b 0), .inr (11, [.int 0, .ref (b 1), .ref (b 2), .ref (b 3), .ref (b 4), .ref (b 5), .int 0, .int 0, .int 0, .int 0, .int 0, .long 0, .int 0, .int i13, .int 0, .int (-1), .ref (b 6), .ref (b 7), .ref (b 8), .ref (b 9), .ref (b 10), .ref (b 11), .ref (b 12), .ref (b 13), .int 0, .int 0, .int 0, .int 0, .ref (b 14), .int 0, .int 0]))]) := by
  refine Met.ofW (cc := cX11_begins) (maxL := 1) (ret := none) (by decide) rfl ?_
  intro p e s m args below meth c s₁ B hml hv
  obtain ⟨rfl, hP, hK, hD0⟩ := hv
  have hx := B.exec
  have hb := B.bytes
  have hr := B.returns
  have hts := atoms_spec (ws := wsX11_begins) B.pre
  have hown : s.vm.findClass RX11 = some m.cls := findClass_of_methodNamed B.named
  have hlocks := B.notSynchronized
  have hD := hD0.aself
  generalize hAe : aset [((b 0), .inr (11, [.int 0, .ref (b 1), .ref (b 2), .ref (b 3), .ref (b 4), .ref (b 5), .int 0, .int 0, .int 0, .int 0, .int 0, .long 0, .int 0, .int i13, .int 0, .int (-1), .ref (b 6), .ref (b 7), .ref (b 8), .ref (b 9), .ref (b 10), .ref (b 11), .ref (b 12), .ref (b 13), .int 0, .int 0, .int 0, .int 0, .ref (b 14), .int 0, .int 0]))] = A at hD ⊢
  have hS : va_S A s.heap s.heap [] := va_S.rf
  have hl := lv_entry ([.ref (b 0)]) (n := 1) (Nat.le_of_ble_eq_true rfl)
  rw [lg_entry_eq]
  generalize (lg_sl ([.ref (b 0)]) ++ List.replicate (1 - (lg_sl ([.ref (b 0)])).length) Slot.unset).toArray = ls at hl ⊢
  have hl : lv_has ls 1 [(0, .ref (b 0))] := hl
  refine lv_aload_n hx hb dX11_begins_0 rfl (lv_at hl 0 rfl) ?_
  refine lv_iconst (v := 0) hx hb dX11_begins_1 (by decide) ?_
  refine va_put (D := G) (ci := 11) (v := .int 0) (ty := .int) (C := RX11) (T := TX11) (N := 31) hx hb hts (by decide +kernel) tyX11 tyX11_ok nmX11 hown hK.1 hP hD hS 0 rfl rfl 12 (by decide) (hts (.fieldLink RX11 111 "CardHolderModel" "bad" "I") (by decide +kernel)) (fun _ h9 => h9) rfl (by decide +kernel) rfl rfl (Nat.le_of_ble_eq_true rfl) dX11_begins_2 (fun H locs hP hD hS => ?_)
  refine lv_aload_n hx hb dX11_begins_5 rfl (lv_at hl 0 rfl) ?_
  refine lv_iconst (v := (-1)) hx hb dX11_begins_6 (by decide) ?_
  refine va_put (D := G) (ci := 11) (v := .int (-1)) (ty := .int) (C := RX11) (T := TX11) (N := 31) hx hb hts (by decide +kernel) tyX11 tyX11_ok nmX11 hown hK.1 hP hD hS 0 rfl rfl 13 (by decide) (hts (.fieldLink RX11 114 "CardHolderModel" "badPlace" "I") (by decide +kernel)) (fun _ h9 => h9) rfl (by decide +kernel) rfl rfl (Nat.le_of_ble_eq_true rfl) dX11_begins_7 (fun H locs hP hD hS => ?_)
  refine lv_aload_n hx hb dX11_begins_10 rfl (lv_at hl 0 rfl) ?_
  refine lv_iconst (v := 0) hx hb dX11_begins_11 (by decide) ?_
  refine va_put (D := G) (ci := 11) (v := .int 0) (ty := .int) (C := RX11) (T := TX11) (N := 31) hx hb hts (by decide +kernel) tyX11 tyX11_ok nmX11 hown hK.1 hP hD hS 0 rfl rfl 7 (by decide) (hts (.fieldLink RX11 83 "CardHolderModel" "at" "I") (by decide +kernel)) (fun _ h9 => h9) rfl (by decide +kernel) rfl rfl (Nat.le_of_ble_eq_true rfl) dX11_begins_12 (fun H locs hP hD hS => ?_)
  refine lv_aload_n hx hb dX11_begins_15 rfl (lv_at hl 0 rfl) ?_
  refine wj_callv (wr := []) (w1 := (fun _ : Unit => [((b 0), .inr (11, [.int 0, .ref (b 1), .ref (b 2), .ref (b 3), .ref (b 4), .ref (b 5), .int 0, .int 0, .int 0, .int 0, .int 0, .long 0, .int 0, .int (-1), .int 0, .int (-1), .ref (b 6), .ref (b 7), .ref (b 8), .ref (b 9), .ref (b 10), .ref (b 11), .ref (b 12), .ref (b 13), .int 0, .int 0, .int 0, .int 0, .ref (b 14), .int 0, .int 0]))])) (va_runV (As := []) (rest := []) ⟨hx, hb, hml, hown, hts⟩ (c0_X11_next l G ct b (-1)) (cwV 0 hts gX11_begins_X11_next rfl rfl rfl (by decide +kernel) ⟨Nat.le_of_ble_eq_true rfl, Nat.le_of_ble_eq_true rfl⟩) (wr_preV 11 0 hK (hP.sub [0] rfl) (hD.sub [0] (by decide) rfl) rfl rfl) rfl rfl hl.1 rfl (lv_room (Nat.le_of_ble_eq_true rfl)) dX11_begins_16 ⟨Nat.zero_le _, Nat.zero_le _⟩) hS hP hD [0] [] rfl rfl (by decide) (fun _ => rfl) (fun u_1 H locs wu_1 hP hD hS => ?_)
  have hP : va_P G vwCl [((b 0), .inr (11, [.int 0, .ref (b 1), .ref (b 2), .ref (b 3), .ref (b 4), .ref (b 5), .int 0, .int 0, .int 0, .int 0, .int 0, .long 0, .int 0, .int (-1), .int 0, .int (-1), .ref (b 6), .ref (b 7), .ref (b 8), .ref (b 9), .ref (b 10), .ref (b 11), .ref (b 12), .ref (b 13), .int 0, .int 0, .int 0, .int 0, .ref (b 14), .int 0, .int 0]))] H := hP.sub [0] rfl
  have hD : va_D A [((b 0), .inr (11, [.int 0, .ref (b 1), .ref (b 2), .ref (b 3), .ref (b 4), .ref (b 5), .int 0, .int 0, .int 0, .int 0, .int 0, .long 0, .int 0, .int (-1), .int 0, .int (-1), .ref (b 6), .ref (b 7), .ref (b 8), .ref (b 9), .ref (b 10), .ref (b 11), .ref (b 12), .ref (b 13), .int 0, .int 0, .int 0, .int 0, .ref (b 14), .int 0, .int 0]))] := hD.sub [0] (by decide) rfl
  exact W.vret hx hb hr (fun t ht hW => ⟨⟨(), rfl, trivial, hp_at ht hP⟩, hS.F ht⟩) hS.2.2 dX11_begins_19

set_option maxHeartbeats 4000000 in
set_option maxRecDepth 100000 in
theorem c0_X11_isGood (l : Launch) (G : va_G) (ct : Nat → ClassId) (b : Nat → Nat) (i13 : Int32)  : Met l yX11_isGood wsX11_isGood ({ frames := 0, cells := 0, slots := 0, locals := 0 }) (va_Pc [.ref (b 0)] (roP G ct [((b 0), .inr (11, [.int 0, .ref (b 1), .ref (b 2), .ref (b 3), .ref (b 4), .ref (b 5), .int 0, .int 0, .int 0, .int 0, .int 0, .long 0, .int 0, .int i13, .int 0, .int (-1), .ref (b 6), .ref (b 7), .ref (b 8), .ref (b 9), .ref (b 10), .ref (b 11), .ref (b 12), .ref (b 13), .int 0, .int 0, .int 0, .int 0, .ref (b 14), .int 0, .int 0]))])) (roQ (fun r => r = 1)) 0 0 no := by
  refine Met.ofW (cc := cX11_isGood) (maxL := 1) (ret := (some .boolean)) (by decide) rfl ?_
  intro p e s m args below meth c s₁ B hml hv
  obtain ⟨rfl, hP, hK⟩ := hv
  have hx := B.exec
  have hb := B.bytes
  have hr := B.returns
  have hts := atoms_spec (ws := wsX11_isGood) B.pre
  have hown : s.vm.findClass RX11 = some m.cls := findClass_of_methodNamed B.named
  have hlocks := B.notSynchronized
  have hS : va_S no s.heap s.heap [] := va_S.rf
  have hl := lv_entry ([.ref (b 0)]) (n := 1) (Nat.le_of_ble_eq_true rfl)
  rw [lg_entry_eq]
  generalize (lg_sl ([.ref (b 0)]) ++ List.replicate (1 - (lg_sl ([.ref (b 0)])).length) Slot.unset).toArray = ls at hl ⊢
  have hl : lv_has ls 1 [(0, .ref (b 0))] := hl
  refine lv_aload_n hx hb dX11_isGood_0 rfl (lv_at hl 0 rfl) ?_
  refine va_get (D := G) (ci := 11) (v := .int 0) (C := RX11) (T := TX11) (N := 31) hx hb hts (by decide +kernel) hown hK.1 hP 0 rfl rfl 12 (by decide) (hts (.fieldLink RX11 111 "CardHolderModel" "bad" "I") (by decide +kernel)) (fun _ h9 => h9) rfl dX11_isGood_1 ?_
  refine lv_if_ne (tgt := 11) hx hb dX11_isGood_4 (by decide) (fun c_1 => ?_) (fun c_1 => ?_)
  · exact absurd c_1 (by decide)
  · refine lv_iconst (v := 1) hx hb dX11_isGood_7 (by decide) ?_
    refine lv_goto (tgt := 12) hx hb dX11_isGood_8 (by decide) ?_
    exact W.zret (v := 1) (ty := .boolean) hx hb hr (rfl) (fun t ht hW => ⟨⟨1, (), rfl, rfl, trivial⟩, hS.F ht⟩) hS.2.2 dX11_isGood_12

set_option maxHeartbeats 4000000 in
set_option maxRecDepth 100000 in
theorem c0_X11_isOver (l : Launch) (G : va_G) (ct : Nat → ClassId) (b : Nat → Nat) (i13 : Int32)  : Met l yX11_isOver wsX11_isOver ({ frames := 0, cells := 0, slots := 0, locals := 0 }) (va_Pc [.ref (b 0)] (wrP G ct [((b 0), .inr (11, [.int 0, .ref (b 1), .ref (b 2), .ref (b 3), .ref (b 4), .ref (b 5), .int 0, .int 0, .int 0, .int 0, .int 0, .long 0, .int 0, .int i13, .int 0, .int (-1), .ref (b 6), .ref (b 7), .ref (b 8), .ref (b 9), .ref (b 10), .ref (b 11), .ref (b 12), .ref (b 13), .int 0, .int 0, .int 0, .int 0, .ref (b 14), .int 0, .int 0]))])) (va_Qv (fun u : Unit => True) (fun u t => va_P G vwCl ((fun _ : Unit => [((b 0), .inr (11, [.int 0, .ref (b 1), .ref (b 2), .ref (b 3), .ref (b 4), .ref (b 5), .int 0, .int 0, .int 0, .int 0, .int 0, .long 0, .int 0, .int i13, .int 0, .int (-1), .ref (b 6), .ref (b 7), .ref (b 8), .ref (b 9), .ref (b 10), .ref (b 11), .ref (b 12), .ref (b 13), .int 0, .int 0, .int 0, .int 0, .ref (b 14), .int 0, .int 0]))]) u) t.heap) (aset [((b 0), .inr (11, [.int 0, .ref (b 1), .ref (b 2), .ref (b 3), .ref (b 4), .ref (b 5), .int 0, .int 0, .int 0, .int 0, .int 0, .long 0, .int 0, .int i13, .int 0, .int (-1), .ref (b 6), .ref (b 7), .ref (b 8), .ref (b 9), .ref (b 10), .ref (b 11), .ref (b 12), .ref (b 13), .int 0, .int 0, .int 0, .int 0, .ref (b 14), .int 0, .int 0]))])) 0 0 (aset [((b 0), .inr (11, [.int 0, .ref (b 1), .ref (b 2), .ref (b 3), .ref (b 4), .ref (b 5), .int 0, .int 0, .int 0, .int 0, .int 0, .long 0, .int 0, .int i13, .int 0, .int (-1), .ref (b 6), .ref (b 7), .ref (b 8), .ref (b 9), .ref (b 10), .ref (b 11), .ref (b 12), .ref (b 13), .int 0, .int 0, .int 0, .int 0, .ref (b 14), .int 0, .int 0]))]) := by
  refine Met.ofW (cc := cX11_isOver) (maxL := 1) (ret := none) (by decide) rfl ?_
  intro p e s m args below meth c s₁ B hml hv
  obtain ⟨rfl, hP, hK, hD0⟩ := hv
  have hx := B.exec
  have hb := B.bytes
  have hr := B.returns
  have hts := atoms_spec (ws := wsX11_isOver) B.pre
  have hown : s.vm.findClass RX11 = some m.cls := findClass_of_methodNamed B.named
  have hlocks := B.notSynchronized
  have hD := hD0.aself
  generalize hAe : aset [((b 0), .inr (11, [.int 0, .ref (b 1), .ref (b 2), .ref (b 3), .ref (b 4), .ref (b 5), .int 0, .int 0, .int 0, .int 0, .int 0, .long 0, .int 0, .int i13, .int 0, .int (-1), .ref (b 6), .ref (b 7), .ref (b 8), .ref (b 9), .ref (b 10), .ref (b 11), .ref (b 12), .ref (b 13), .int 0, .int 0, .int 0, .int 0, .ref (b 14), .int 0, .int 0]))] = A at hD ⊢
  have hS : va_S A s.heap s.heap [] := va_S.rf
  have hl := lv_entry ([.ref (b 0)]) (n := 1) (Nat.le_of_ble_eq_true rfl)
  rw [lg_entry_eq]
  generalize (lg_sl ([.ref (b 0)]) ++ List.replicate (1 - (lg_sl ([.ref (b 0)])).length) Slot.unset).toArray = ls at hl ⊢
  have hl : lv_has ls 1 [(0, .ref (b 0))] := hl
  refine lv_aload_n hx hb dX11_isOver_0 rfl (lv_at hl 0 rfl) ?_
  refine lv_iconst (v := 0) hx hb dX11_isOver_1 (by decide) ?_
  refine va_put (D := G) (ci := 11) (v := .int 0) (ty := .int) (C := RX11) (T := TX11) (N := 31) hx hb hts (by decide +kernel) tyX11 tyX11_ok nmX11 hown hK.1 hP hD hS 0 rfl rfl 6 (by decide) (hts (.fieldLink RX11 76 "CardHolderModel" "taped" "I") (by decide +kernel)) (fun _ h9 => h9) rfl (by decide +kernel) rfl rfl (Nat.le_of_ble_eq_true rfl) dX11_isOver_2 (fun H locs hP hD hS => ?_)
  refine lv_aload_n hx hb dX11_isOver_5 rfl (lv_at hl 0 rfl) ?_
  refine lv_aload_n hx hb dX11_isOver_6 rfl (lv_at hl 0 rfl) ?_
  refine va_get (D := G) (ci := 11) (v := .int 0) (C := RX11) (T := TX11) (N := 31) hx hb hts (by decide +kernel) hown hK.1 hP 0 rfl rfl 12 (by decide) (hts (.fieldLink RX11 111 "CardHolderModel" "bad" "I") (by decide +kernel)) (fun _ h9 => h9) rfl dX11_isOver_7 ?_
  refine va_put (D := G) (ci := 11) (v := .int 0) (ty := .int) (C := RX11) (T := TX11) (N := 31) hx hb hts (by decide +kernel) tyX11 tyX11_ok nmX11 hown hK.1 hP hD hS 0 rfl rfl 14 (by decide) (hts (.fieldLink RX11 138 "CardHolderModel" "fault" "I") (by decide +kernel)) (fun _ h9 => h9) rfl (by decide +kernel) rfl rfl (Nat.le_of_ble_eq_true rfl) dX11_isOver_10 (fun H locs hP hD hS => ?_)
  refine lv_aload_n hx hb dX11_isOver_13 rfl (lv_at hl 0 rfl) ?_
  refine lv_aload_n hx hb dX11_isOver_14 rfl (lv_at hl 0 rfl) ?_
  refine va_get (D := G) (ci := 11) (v := .int 0) (C := RX11) (T := TX11) (N := 31) hx hb hts (by decide +kernel) hown hK.1 hP 0 rfl rfl 12 (by decide) (hts (.fieldLink RX11 111 "CardHolderModel" "bad" "I") (by decide +kernel)) (fun _ h9 => h9) rfl dX11_isOver_15 ?_
  refine lv_if_ne (tgt := 25) hx hb dX11_isOver_18 (by decide) (fun c_1 => ?_) (fun c_1 => ?_)
  · exact absurd c_1 (by decide)
  · refine lv_iconst (v := (-1)) hx hb dX11_isOver_21 (by decide) ?_
    refine lv_goto (tgt := 29) hx hb dX11_isOver_22 (by decide) ?_
    refine va_put (D := G) (ci := 11) (v := .int (-1)) (ty := .int) (C := RX11) (T := TX11) (N := 31) hx hb hts (by decide +kernel) tyX11 tyX11_ok nmX11 hown hK.1 hP hD hS 0 rfl rfl 15 (by decide) (hts (.fieldLink RX11 27 "CardHolderModel" "faultPlace" "I") (by decide +kernel)) (fun _ h9 => h9) rfl (by decide +kernel) rfl rfl (Nat.le_of_ble_eq_true rfl) dX11_isOver_29 (fun H locs hP hD hS => ?_)
    exact W.vret hx hb hr (fun t ht hW => ⟨⟨(), rfl, trivial, hp_at ht hP⟩, hS.F ht⟩) hS.2.2 dX11_isOver_32

set_option maxHeartbeats 4000000 in
set_option maxRecDepth 100000 in
theorem c_X11_city (l : Launch) (G : va_G) (ct : Nat → ClassId) (b : Nat → Nat)  : Met l yX11_city wsX11_city ({ frames := 7, cells := 0, slots := 0, locals := 153 }) (va_Pc [.ref (b 0)] (wrP G ct (mF b ct))) (va_Qi (fun (r : Int32) (u : Unit) => r = 0) (fun _ _ => True) (aset (mF b ct))) 0 0 (aset (mF b ct)) := by
  refine Met.ofW (cc := cX11_city) (maxL := 1) (ret := (some .int)) (by decide) rfl ?_
  intro p e s m args below meth c s₁ B hml hv
  obtain ⟨rfl, hP, hK, hD0⟩ := hv
  have hx := B.exec
  have hb := B.bytes
  have hr := B.returns
  have hts := atoms_spec (ws := wsX11_city) B.pre
  have hown : s.vm.findClass RX11 = some m.cls := findClass_of_methodNamed B.named
  have hlocks := B.notSynchronized
  have hD := hD0.aself
  generalize hAe : aset (mF b ct) = A at hD ⊢
  have hS : va_S A s.heap s.heap [] := va_S.rf
  have hl := lv_entry ([.ref (b 0)]) (n := 1) (Nat.le_of_ble_eq_true rfl)
  rw [lg_entry_eq]
  generalize (lg_sl ([.ref (b 0)]) ++ List.replicate (1 - (lg_sl ([.ref (b 0)])).length) Slot.unset).toArray = ls at hl ⊢
  have hl : lv_has ls 1 [(0, .ref (b 0))] := hl
  have hP : va_P G vwCl [((b 0), .inr (11, [.int 0, .ref (b 1), .ref (b 2), .ref (b 3), .ref (b 4), .ref (b 5), .int 0, .int 0, .int 0, .int 0, .int 0, .long 0, .int 0, .int 0, .int 0, .int (-1), .ref (b 6), .ref (b 7), .ref (b 8), .ref (b 9), .ref (b 10), .ref (b 11), .ref (b 12), .ref (b 13), .int 0, .int 0, .int 0, .int 0, .ref (b 14), .int 0, .int 0])), ((b 6), .inl (ct 0, 5, .inl (fun _ => 0))), ((b 7), .inl (ct 0, 15, .inl (fun _ => 0))), ((b 8), .inl (ct 0, 200, .inl (fun _ => 0))), ((b 9), .inl (ct 0, 1000, .inl (fun _ => 0)))] _ := hP.sub [0, 6, 7, 8, 9] rfl
  have hD : va_D A [((b 0), .inr (11, [.int 0, .ref (b 1), .ref (b 2), .ref (b 3), .ref (b 4), .ref (b 5), .int 0, .int 0, .int 0, .int 0, .int 0, .long 0, .int 0, .int 0, .int 0, .int (-1), .ref (b 6), .ref (b 7), .ref (b 8), .ref (b 9), .ref (b 10), .ref (b 11), .ref (b 12), .ref (b 13), .int 0, .int 0, .int 0, .int 0, .ref (b 14), .int 0, .int 0])), ((b 6), .inl (ct 0, 5, .inl (fun _ => 0))), ((b 7), .inl (ct 0, 15, .inl (fun _ => 0))), ((b 8), .inl (ct 0, 200, .inl (fun _ => 0))), ((b 9), .inl (ct 0, 1000, .inl (fun _ => 0)))] := hD.sub [0, 6, 7, 8, 9] (by decide) rfl
  refine lv_aload_n hx hb dX11_city_0 rfl (lv_at hl 0 rfl) ?_
  refine lv_iconst (v := 0) hx hb dX11_city_1 (by decide) ?_
  refine va_put (D := G) (ci := 11) (v := .int 0) (ty := .int) (C := RX11) (T := TX11) (N := 31) hx hb hts (by decide +kernel) tyX11 tyX11_ok nmX11 hown hK.1 hP hD hS 0 rfl rfl 0 (by decide) (hts (.fieldLink RX11 59 "CardHolderModel" "thrown" "I") (by decide +kernel)) (fun _ h9 => h9) rfl (by decide +kernel) rfl rfl (Nat.le_of_ble_eq_true rfl) dX11_city_2 (fun H locs hP hD hS => ?_)
  refine lv_aload_n hx hb dX11_city_5 rfl (lv_at hl 0 rfl) ?_
  refine wj_callv (wr := [((b 8), .inl (ct 0, 200, .inl (fun _ => 0))), ((b 9), .inl (ct 0, 1000, .inl (fun _ => 0)))]) (w1 := (fun _ : Unit => [((b 0), .inr (11, [.int 0, .ref (b 1), .ref (b 2), .ref (b 3), .ref (b 4), .ref (b 5), .int 0, .int 0, .int 0, .int 0, .int 0, .long 0, .int 0, .int 0, .int 0, .int (-1), .ref (b 6), .ref (b 7), .ref (b 8), .ref (b 9), .ref (b 10), .ref (b 11), .ref (b 12), .ref (b 13), .int 0, .int 0, .int 0, .int 0, .ref (b 14), .int 0, .int 0])), ((b 6), .inl (ct 0, 5, .inl (upd (fun _ => 0) (4 : Int32).toNatClampNeg 0))), ((b 7), .inl (ct 0, 15, .inl (upd (upd (upd (fun _ => 0) (nI (12 + 0)).toNatClampNeg 0) (nI (12 + 1)).toNatClampNeg 0) (nI (12 + 2)).toNatClampNeg 0)))])) (va_runV (As := []) (rest := []) ⟨hx, hb, hml, hown, hts⟩ (c_X11_clears l G ct b) (cwV 0 hts gX11_city_X11_clears rfl rfl rfl (by decide +kernel) ⟨Nat.le_of_ble_eq_true rfl, Nat.le_of_ble_eq_true rfl⟩) (wr_preV 11 0 hK (hP.sub [0, 1, 2] rfl) (hD.sub [0, 1, 2] (by decide) rfl) rfl rfl) rfl rfl hl.1 rfl (lv_room (Nat.le_of_ble_eq_true rfl)) dX11_city_6 ⟨Nat.zero_le _, Nat.zero_le _⟩) hS hP hD [0, 1, 2] [3, 4] rfl rfl (by decide) (fun _ => rfl) (fun u_1 H locs wu_1 hP hD hS => ?_)
  have hP : va_P G vwCl [((b 0), .inr (11, [.int 0, .ref (b 1), .ref (b 2), .ref (b 3), .ref (b 4), .ref (b 5), .int 0, .int 0, .int 0, .int 0, .int 0, .long 0, .int 0, .int 0, .int 0, .int (-1), .ref (b 6), .ref (b 7), .ref (b 8), .ref (b 9), .ref (b 10), .ref (b 11), .ref (b 12), .ref (b 13), .int 0, .int 0, .int 0, .int 0, .ref (b 14), .int 0, .int 0])), ((b 6), .inl (ct 0, 5, .inl (upd (fun _ => 0) (4 : Int32).toNatClampNeg 0))), ((b 7), .inl (ct 0, 15, .inl (upd (upd (upd (fun _ => 0) (nI (12 + 0)).toNatClampNeg 0) (nI (12 + 1)).toNatClampNeg 0) (nI (12 + 2)).toNatClampNeg 0))), ((b 8), .inl (ct 0, 200, .inl (fun _ => 0))), ((b 9), .inl (ct 0, 1000, .inl (fun _ => 0)))] H := hP.sub [2, 3, 4, 0, 1] rfl
  have hD : va_D A [((b 0), .inr (11, [.int 0, .ref (b 1), .ref (b 2), .ref (b 3), .ref (b 4), .ref (b 5), .int 0, .int 0, .int 0, .int 0, .int 0, .long 0, .int 0, .int 0, .int 0, .int (-1), .ref (b 6), .ref (b 7), .ref (b 8), .ref (b 9), .ref (b 10), .ref (b 11), .ref (b 12), .ref (b 13), .int 0, .int 0, .int 0, .int 0, .ref (b 14), .int 0, .int 0])), ((b 6), .inl (ct 0, 5, .inl (upd (fun _ => 0) (4 : Int32).toNatClampNeg 0))), ((b 7), .inl (ct 0, 15, .inl (upd (upd (upd (fun _ => 0) (nI (12 + 0)).toNatClampNeg 0) (nI (12 + 1)).toNatClampNeg 0) (nI (12 + 2)).toNatClampNeg 0))), ((b 8), .inl (ct 0, 200, .inl (fun _ => 0))), ((b 9), .inl (ct 0, 1000, .inl (fun _ => 0)))] := hD.sub [2, 3, 4, 0, 1] (by decide) rfl
  refine lv_aload_n hx hb dX11_city_9 rfl (lv_at hl 0 rfl) ?_
  refine wj_callv (wr := [((b 6), .inl (ct 0, 5, .inl (upd (fun _ => 0) (4 : Int32).toNatClampNeg 0))), ((b 7), .inl (ct 0, 15, .inl (upd (upd (upd (fun _ => 0) (nI (12 + 0)).toNatClampNeg 0) (nI (12 + 1)).toNatClampNeg 0) (nI (12 + 2)).toNatClampNeg 0))), ((b 8), .inl (ct 0, 200, .inl (fun _ => 0))), ((b 9), .inl (ct 0, 1000, .inl (fun _ => 0)))]) (w1 := (fun _ : Unit => [((b 0), .inr (11, [.int 0, .ref (b 1), .ref (b 2), .ref (b 3), .ref (b 4), .ref (b 5), .int 0, .int 0, .int 0, .int 0, .int 0, .long 0, .int 0, .int (-1), .int 0, .int (-1), .ref (b 6), .ref (b 7), .ref (b 8), .ref (b 9), .ref (b 10), .ref (b 11), .ref (b 12), .ref (b 13), .int 0, .int 0, .int 0, .int 0, .ref (b 14), .int 0, .int 0]))])) (va_runV (As := []) (rest := []) ⟨hx, hb, hml, hown, hts⟩ (c0_X11_begins l G ct b 0) (cwV 0 hts gX11_city_X11_begins rfl rfl rfl (by decide +kernel) ⟨Nat.le_of_ble_eq_true rfl, Nat.le_of_ble_eq_true rfl⟩) (wr_preV 11 0 hK (hP.sub [0] rfl) (hD.sub [0] (by decide) rfl) rfl rfl) rfl rfl hl.1 rfl (lv_room (Nat.le_of_ble_eq_true rfl)) dX11_city_10 ⟨Nat.zero_le _, Nat.zero_le _⟩) hS hP hD [0] [1, 2, 3, 4] rfl rfl (by decide) (fun _ => rfl) (fun u_2 H locs wu_2 hP hD hS => ?_)
  have hP : va_P G vwCl [((b 0), .inr (11, [.int 0, .ref (b 1), .ref (b 2), .ref (b 3), .ref (b 4), .ref (b 5), .int 0, .int 0, .int 0, .int 0, .int 0, .long 0, .int 0, .int (-1), .int 0, .int (-1), .ref (b 6), .ref (b 7), .ref (b 8), .ref (b 9), .ref (b 10), .ref (b 11), .ref (b 12), .ref (b 13), .int 0, .int 0, .int 0, .int 0, .ref (b 14), .int 0, .int 0])), ((b 6), .inl (ct 0, 5, .inl (upd (fun _ => 0) (4 : Int32).toNatClampNeg 0))), ((b 7), .inl (ct 0, 15, .inl (upd (upd (upd (fun _ => 0) (nI (12 + 0)).toNatClampNeg 0) (nI (12 + 1)).toNatClampNeg 0) (nI (12 + 2)).toNatClampNeg 0))), ((b 8), .inl (ct 0, 200, .inl (fun _ => 0))), ((b 9), .inl (ct 0, 1000, .inl (fun _ => 0)))] H := hP.sub [4, 0, 1, 2, 3] rfl
  have hD : va_D A [((b 0), .inr (11, [.int 0, .ref (b 1), .ref (b 2), .ref (b 3), .ref (b 4), .ref (b 5), .int 0, .int 0, .int 0, .int 0, .int 0, .long 0, .int 0, .int (-1), .int 0, .int (-1), .ref (b 6), .ref (b 7), .ref (b 8), .ref (b 9), .ref (b 10), .ref (b 11), .ref (b 12), .ref (b 13), .int 0, .int 0, .int 0, .int 0, .ref (b 14), .int 0, .int 0])), ((b 6), .inl (ct 0, 5, .inl (upd (fun _ => 0) (4 : Int32).toNatClampNeg 0))), ((b 7), .inl (ct 0, 15, .inl (upd (upd (upd (fun _ => 0) (nI (12 + 0)).toNatClampNeg 0) (nI (12 + 1)).toNatClampNeg 0) (nI (12 + 2)).toNatClampNeg 0))), ((b 8), .inl (ct 0, 200, .inl (fun _ => 0))), ((b 9), .inl (ct 0, 1000, .inl (fun _ => 0)))] := hD.sub [4, 0, 1, 2, 3] (by decide) rfl
  refine lv_aload_n hx hb dX11_city_13 rfl (lv_at hl 0 rfl) ?_
  refine ro_calli (va_runV (As := []) (rest := []) ⟨hx, hb, hml, hown, hts⟩ (c0_X11_isGood l G ct b (-1)) (cwV 0 hts gX11_city_X11_isGood rfl rfl rfl (by decide +kernel) ⟨Nat.le_of_ble_eq_true rfl, Nat.le_of_ble_eq_true rfl⟩) (ro_preV 11 0 hK (hP.sub [0] rfl) rfl rfl) rfl rfl hl.1 rfl (lv_room (Nat.le_of_ble_eq_true rfl)) dX11_city_14 ⟨Nat.zero_le _, Nat.zero_le _⟩) hS hP (fun r_3 H locs wr_3 hP hS => ?_)
  obtain rfl := wr_3
  refine lv_if_eq (tgt := 89) hx hb dX11_city_17 (by decide) (fun c_4 => ?_) (fun c_4 => ?_)
  · exact absurd c_4 (by decide)
  · refine lv_aload_n hx hb dX11_city_20 rfl (lv_at hl 0 rfl) ?_
    refine va_get (D := G) (ci := 11) (v := .int 0) (C := RX11) (T := TX11) (N := 31) hx hb hts (by decide +kernel) hown hK.1 hP 0 rfl rfl 8 (by decide) (hts (.fieldLink RX11 100 "CardHolderModel" "token" "I") (by decide +kernel)) (fun _ h9 => h9) rfl dX11_city_21 ?_
    refine lv_if_eq (tgt := 89) hx hb dX11_city_24 (by decide) (fun c_5 => ?_) (fun c_5 => ?_)
    · refine lv_aload_n hx hb dX11_city_89 rfl (lv_at hl 0 rfl) ?_
      refine wj_callv (wr := [((b 6), .inl (ct 0, 5, .inl (upd (fun _ => 0) (4 : Int32).toNatClampNeg 0))), ((b 7), .inl (ct 0, 15, .inl (upd (upd (upd (fun _ => 0) (nI (12 + 0)).toNatClampNeg 0) (nI (12 + 1)).toNatClampNeg 0) (nI (12 + 2)).toNatClampNeg 0))), ((b 8), .inl (ct 0, 200, .inl (fun _ => 0))), ((b 9), .inl (ct 0, 1000, .inl (fun _ => 0)))]) (w1 := (fun _ : Unit => [((b 0), .inr (11, [.int 0, .ref (b 1), .ref (b 2), .ref (b 3), .ref (b 4), .ref (b 5), .int 0, .int 0, .int 0, .int 0, .int 0, .long 0, .int 0, .int (-1), .int 0, .int (-1), .ref (b 6), .ref (b 7), .ref (b 8), .ref (b 9), .ref (b 10), .ref (b 11), .ref (b 12), .ref (b 13), .int 0, .int 0, .int 0, .int 0, .ref (b 14), .int 0, .int 0]))])) (va_runV (As := []) (rest := []) ⟨hx, hb, hml, hown, hts⟩ (c0_X11_isOver l G ct b (-1)) (cwV 0 hts gX11_city_X11_isOver rfl rfl rfl (by decide +kernel) ⟨Nat.le_of_ble_eq_true rfl, Nat.le_of_ble_eq_true rfl⟩) (wr_preV 11 0 hK (hP.sub [0] rfl) (hD.sub [0] (by decide) rfl) rfl rfl) rfl rfl hl.1 rfl (lv_room (Nat.le_of_ble_eq_true rfl)) dX11_city_90 ⟨Nat.zero_le _, Nat.zero_le _⟩) hS hP hD [0] [1, 2, 3, 4] rfl rfl (by decide) (fun _ => rfl) (fun u_6 H locs wu_6 hP hD hS => ?_)
      have hP : va_P G vwCl [((b 0), .inr (11, [.int 0, .ref (b 1), .ref (b 2), .ref (b 3), .ref (b 4), .ref (b 5), .int 0, .int 0, .int 0, .int 0, .int 0, .long 0, .int 0, .int (-1), .int 0, .int (-1), .ref (b 6), .ref (b 7), .ref (b 8), .ref (b 9), .ref (b 10), .ref (b 11), .ref (b 12), .ref (b 13), .int 0, .int 0, .int 0, .int 0, .ref (b 14), .int 0, .int 0])), ((b 6), .inl (ct 0, 5, .inl (upd (fun _ => 0) (4 : Int32).toNatClampNeg 0))), ((b 7), .inl (ct 0, 15, .inl (upd (upd (upd (fun _ => 0) (nI (12 + 0)).toNatClampNeg 0) (nI (12 + 1)).toNatClampNeg 0) (nI (12 + 2)).toNatClampNeg 0))), ((b 8), .inl (ct 0, 200, .inl (fun _ => 0))), ((b 9), .inl (ct 0, 1000, .inl (fun _ => 0)))] H := hP.sub [4, 0, 1, 2, 3] rfl
      have hD : va_D A [((b 0), .inr (11, [.int 0, .ref (b 1), .ref (b 2), .ref (b 3), .ref (b 4), .ref (b 5), .int 0, .int 0, .int 0, .int 0, .int 0, .long 0, .int 0, .int (-1), .int 0, .int (-1), .ref (b 6), .ref (b 7), .ref (b 8), .ref (b 9), .ref (b 10), .ref (b 11), .ref (b 12), .ref (b 13), .int 0, .int 0, .int 0, .int 0, .ref (b 14), .int 0, .int 0])), ((b 6), .inl (ct 0, 5, .inl (upd (fun _ => 0) (4 : Int32).toNatClampNeg 0))), ((b 7), .inl (ct 0, 15, .inl (upd (upd (upd (fun _ => 0) (nI (12 + 0)).toNatClampNeg 0) (nI (12 + 1)).toNatClampNeg 0) (nI (12 + 2)).toNatClampNeg 0))), ((b 8), .inl (ct 0, 200, .inl (fun _ => 0))), ((b 9), .inl (ct 0, 1000, .inl (fun _ => 0)))] := hD.sub [4, 0, 1, 2, 3] (by decide) rfl
      refine lv_aload_n hx hb dX11_city_93 rfl (lv_at hl 0 rfl) ?_
      refine va_get (D := G) (ci := 11) (v := .int 0) (C := RX11) (T := TX11) (N := 31) hx hb hts (by decide +kernel) hown hK.1 hP 0 rfl rfl 12 (by decide) (hts (.fieldLink RX11 111 "CardHolderModel" "bad" "I") (by decide +kernel)) (fun _ h9 => h9) rfl dX11_city_94 ?_
      refine lv_if_eq (tgt := 103) hx hb dX11_city_97 (by decide) (fun c_7 => ?_) (fun c_7 => ?_)
      · refine lv_aload_n hx hb dX11_city_103 rfl (lv_at hl 0 rfl) ?_
        refine lv_iconst (v := 4) hx hb dX11_city_104 (by decide) ?_
        refine lv_iconst (v := 0) hx hb dX11_city_105 (by decide) ?_
        refine wj_callv (wr := []) (w1 := (fun u : (Nat → Int32) × (Nat → Int32) × (Nat → Int32) × (Nat → Int32) => [((b 0), .inr (11, [.int 0, .ref (b 1), .ref (b 2), .ref (b 3), .ref (b 4), .ref (b 5), .int 0, .int 0, .int 0, .int 0, .int 0, .long 0, .int 0, .int (-1), .int 0, .int (-1), .ref (b 6), .ref (b 7), .ref (b 8), .ref (b 9), .ref (b 10), .ref (b 11), .ref (b 12), .ref (b 13), .int 0, .int 0, .int 0, .int 0, .ref (b 14), .int 0, .int 0])), ((b 6), .inl (ct 0, 5, .inl u.1)), ((b 7), .inl (ct 0, 15, .inl u.2.1)), ((b 8), .inl (ct 0, 200, .inl u.2.2.1)), ((b 9), .inl (ct 0, 1000, .inl u.2.2.2))])) (va_runV (As := [.int 4, .int 0]) (rest := []) ⟨hx, hb, hml, hown, hts⟩ (c_copyCity_4_0 l G ct b (-1) (upd (fun _ => 0) (4 : Int32).toNatClampNeg 0) (upd (upd (upd (fun _ => 0) (nI (12 + 0)).toNatClampNeg 0) (nI (12 + 1)).toNatClampNeg 0) (nI (12 + 2)).toNatClampNeg 0) (fun _ => 0) (fun _ => 0)) (cwV 2 hts gX11_city_X11_copyCity rfl rfl rfl (by decide +kernel) ⟨Nat.le_of_ble_eq_true rfl, Nat.le_of_ble_eq_true rfl⟩) (wr_preV 11 0 hK (hP.sub [0, 1, 2, 3, 4] rfl) (hD.sub [0, 1, 2, 3, 4] (by decide) rfl) rfl rfl) rfl rfl hl.1 rfl (lv_room (Nat.le_of_ble_eq_true rfl)) dX11_city_106 ⟨Nat.zero_le _, Nat.zero_le _⟩) hS hP hD [0, 1, 2, 3, 4] [] rfl rfl (by decide) (fun _ => rfl) (fun u_8 H locs wu_8 hP hD hS => ?_)
        obtain ⟨l_9, l_10, l_11, l_12⟩ := u_8
        have hz9 := wu_8 (fun i => by unfold upd; split <;> rfl)
        have hP : va_P G vwCl [((b 0), .inr (11, [.int 0, .ref (b 1), .ref (b 2), .ref (b 3), .ref (b 4), .ref (b 5), .int 0, .int 0, .int 0, .int 0, .int 0, .long 0, .int 0, .int (-1), .int 0, .int (-1), .ref (b 6), .ref (b 7), .ref (b 8), .ref (b 9), .ref (b 10), .ref (b 11), .ref (b 12), .ref (b 13), .int 0, .int 0, .int 0, .int 0, .ref (b 14), .int 0, .int 0])), ((b 6), .inl (ct 0, 5, .inl l_9)), ((b 7), .inl (ct 0, 15, .inl l_10)), ((b 8), .inl (ct 0, 200, .inl l_11)), ((b 9), .inl (ct 0, 1000, .inl l_12))] H := hP.sub [0, 1, 2, 3, 4] rfl
        have hD : va_D A [((b 0), .inr (11, [.int 0, .ref (b 1), .ref (b 2), .ref (b 3), .ref (b 4), .ref (b 5), .int 0, .int 0, .int 0, .int 0, .int 0, .long 0, .int 0, .int (-1), .int 0, .int (-1), .ref (b 6), .ref (b 7), .ref (b 8), .ref (b 9), .ref (b 10), .ref (b 11), .ref (b 12), .ref (b 13), .int 0, .int 0, .int 0, .int 0, .ref (b 14), .int 0, .int 0])), ((b 6), .inl (ct 0, 5, .inl l_9)), ((b 7), .inl (ct 0, 15, .inl l_10)), ((b 8), .inl (ct 0, 200, .inl l_11)), ((b 9), .inl (ct 0, 1000, .inl l_12))] := hD.sub [0, 1, 2, 3, 4] (by decide) rfl
        refine lv_aload_n hx hb dX11_city_109 rfl (lv_at hl 0 rfl) ?_
        refine va_get (D := G) (ci := 11) (v := .ref (b 6)) (C := RX11) (T := TX11) (N := 31) hx hb hts (by decide +kernel) hown hK.1 hP 0 rfl rfl 16 (by decide) (hts (.fieldLink RX11 31 "CardHolderModel" "lines" "[I") (by decide +kernel)) (fun _ h9 => h9) rfl dX11_city_110 ?_
        refine lv_iconst (v := 0) hx hb dX11_city_113 (by decide) ?_
        refine va_iald hx hb hK.1 hP 1 0 rfl rfl (in_lit (by decide)) dX11_city_114 ?_
        refine ix_i (y := 0) (hz9 _) ?_
        exact W.iret (v := 0) hx hb hr (fun t ht hW => ⟨⟨0, (), rfl, rfl, trivial⟩, hS.F ht⟩) hS.2.2 dX11_city_115
      · exact absurd c_7 (by decide)
    · exact absurd c_5 (by decide)
