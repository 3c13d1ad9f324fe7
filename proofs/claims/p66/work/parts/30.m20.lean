theorem dX11_clears_0 : decode cX11_clears 0 = .ok (.aload_n 0, 1) := by decide +kernel
theorem dX11_clears_1 : decode cX11_clears 1 = .ok (.getfield 31, 3) := by decide +kernel
theorem dX11_clears_4 : decode cX11_clears 4 = .ok (.iconst 4, 1) := by decide +kernel
theorem dX11_clears_5 : decode cX11_clears 5 = .ok (.iconst 0, 1) := by decide +kernel
theorem dX11_clears_6 : decode cX11_clears 6 = .ok (.iastore, 1) := by decide +kernel
theorem dX11_clears_7 : decode cX11_clears 7 = .ok (.iconst 0, 1) := by decide +kernel
theorem dX11_clears_8 : decode cX11_clears 8 = .ok (.istore_n 1, 1) := by decide +kernel
theorem dX11_clears_9 : decode cX11_clears 9 = .ok (.iload_n 1, 1) := by decide +kernel
theorem dX11_clears_10 : decode cX11_clears 10 = .ok (.iconst 3, 1) := by decide +kernel
theorem dX11_clears_11 : decode cX11_clears 11 = .ok (.if_icmp .ge 15, 3) := by decide +kernel
theorem dX11_clears_26 : decode cX11_clears 26 = .ok (.return_, 1) := by decide +kernel
theorem dX11_clears_14 : decode cX11_clears 14 = .ok (.aload_n 0, 1) := by decide +kernel
theorem dX11_clears_15 : decode cX11_clears 15 = .ok (.iload_n 1, 1) := by decide +kernel
theorem dX11_clears_16 : decode cX11_clears 16 = .ok (.iconst 0, 1) := by decide +kernel
set_option maxRecDepth 20000 in
theorem ggX11_clears_X11_tells : GoodIn wsX11_clears wsX11_tells := goodIn_r _ [6, 7, 8, 9, 10, 11, 12, 13, 14, 15, 16, 17, 18, 19, 20, 21, 22, 23, 24, 25, 26, 27, 28, 29, 30, 31, 32, 33, 34, 35, 36, 37, 38] (by rfl) (by decide +kernel)
set_option maxRecDepth 20000 in
theorem gX11_clears_X11_tells : GoodIn wsX11_clears (wsV RX11 162 RX11 yX11_tells wsX11_tells) := goodIn_app (goodIn_r _ [2, 3, 4, 5] (by rfl) (by decide +kernel)) ggX11_clears_X11_tells
theorem dX11_clears_17 : decode cX11_clears 17 = .ok (.invokevirtual 162, 3) := by decide +kernel
theorem dX11_clears_20 : decode cX11_clears 20 = .ok (.iinc 1 1, 3) := by decide +kernel
theorem dX11_clears_23 : decode cX11_clears 23 = .ok (.goto (-14), 3) := by decide +kernel
theorem dX11_city_0 : decode cX11_city 0 = .ok (.aload_n 0, 1) := by decide +kernel
theorem dX11_city_1 : decode cX11_city 1 = .ok (.iconst 0, 1) := by decide +kernel
theorem dX11_city_2 : decode cX11_city 2 = .ok (.putfield 59, 3) := by decide +kernel
theorem dX11_city_5 : decode cX11_city 5 = .ok (.aload_n 0, 1) := by decide +kernel
set_option maxRecDepth 20000 in
theorem ggX11_city_X11_clears : GoodIn wsX11_city wsX11_clears := goodIn_r _ [11, 3, 12, 13, 14, 10, 15, 16, 118, 119, 120, 121, 122, 123, 124, 125, 126, 127, 128, 129, 130, 131, 132, 133, 134, 135, 136, 137, 138, 139, 140, 141, 142, 143, 144, 145, 146, 147, 148] (by rfl) (by decide +kernel)
set_option maxRecDepth 20000 in
theorem gX11_city_X11_clears : GoodIn wsX11_city (wsV RX11 180 RX11 yX11_clears wsX11_clears) := goodIn_app (goodIn_r _ [7, 8, 9, 10] (by rfl) (by decide +kernel)) ggX11_city_X11_clears
theorem dX11_city_6 : decode cX11_city 6 = .ok (.invokevirtual 180, 3) := by decide +kernel
theorem dX11_city_9 : decode cX11_city 9 = .ok (.aload_n 0, 1) := by decide +kernel
set_option maxRecDepth 20000 in
theorem ggX11_city_X11_begins : GoodIn wsX11_city wsX11_begins := goodIn_r _ [20, 6, 21, 22, 23, 24, 25, 10, 26, 27, 28, 29, 30, 2, 31, 32, 33, 34, 35, 36, 37, 38, 39, 40, 118, 119, 120, 121, 122, 123, 124, 125, 126, 127, 128, 129, 130, 131, 132, 133, 134, 135, 136, 137, 138, 139, 140, 141, 142, 143, 144, 145, 146, 147, 148] (by rfl) (by decide +kernel)
set_option maxRecDepth 20000 in
theorem gX11_city_X11_begins : GoodIn wsX11_city (wsV RX11 183 RX11 yX11_begins wsX11_begins) := goodIn_app (goodIn_r _ [17, 18, 19, 10] (by rfl) (by decide +kernel)) ggX11_city_X11_begins
theorem dX11_city_10 : decode cX11_city 10 = .ok (.invokevirtual 183, 3) := by decide +kernel
theorem dX11_city_13 : decode cX11_city 13 = .ok (.aload_n 0, 1) := by decide +kernel
set_option maxRecDepth 20000 in
theorem ggX11_city_X11_isGood : GoodIn wsX11_city wsX11_isGood := goodIn_r _ [44, 6, 118, 119, 120, 121, 122, 123, 124, 125, 126, 127, 128, 129, 130, 131, 132, 133, 134, 135, 136, 137, 138, 139, 140, 141, 142, 143, 144, 145, 146, 147, 148] (by rfl) (by decide +kernel)
set_option maxRecDepth 20000 in
theorem gX11_city_X11_isGood : GoodIn wsX11_city (wsV RX11 141 RX11 yX11_isGood wsX11_isGood) := goodIn_app (goodIn_r _ [41, 42, 43, 10] (by rfl) (by decide +kernel)) ggX11_city_X11_isGood
theorem dX11_city_14 : decode cX11_city 14 = .ok (.invokevirtual 141, 3) := by decide +kernel
theorem dX11_city_17 : decode cX11_city 17 = .ok (.ifCond .eq 72, 3) := by decide +kernel
theorem dX11_city_89 : decode cX11_city 89 = .ok (.aload_n 0, 1) := by decide +kernel
set_option maxRecDepth 20000 in
theorem ggX11_city_X11_isOver : GoodIn wsX11_city wsX11_isOver := goodIn_r _ [107, 30, 6, 108, 21, 109, 118, 119, 120, 121, 122, 123, 124, 125, 126, 127, 128, 129, 130, 131, 132, 133, 134, 135, 136, 137, 138, 139, 140, 141, 142, 143, 144, 145, 146, 147, 148] (by rfl) (by decide +kernel)
set_option maxRecDepth 20000 in
theorem gX11_city_X11_isOver : GoodIn wsX11_city (wsV RX11 196 RX11 yX11_isOver wsX11_isOver) := goodIn_app (goodIn_r _ [104, 105, 106, 10] (by rfl) (by decide +kernel)) ggX11_city_X11_isOver
theorem dX11_city_90 : decode cX11_city 90 = .ok (.invokevirtual 196, 3) := by decide +kernel
theorem dX11_city_93 : decode cX11_city 93 = .ok (.aload_n 0, 1) := by decide +kernel
theorem dX11_city_94 : decode cX11_city 94 = .ok (.getfield 111, 3) := by decide +kernel
theorem dX11_city_97 : decode cX11_city 97 = .ok (.ifCond .eq 6, 3) := by decide +kernel
theorem dX11_city_103 : decode cX11_city 103 = .ok (.aload_n 0, 1) := by decide +kernel
theorem dX11_city_104 : decode cX11_city 104 = .ok (.iconst 4, 1) := by decide +kernel
theorem dX11_city_105 : decode cX11_city 105 = .ok (.iconst 0, 1) := by decide +kernel
set_option maxRecDepth 20000 in
theorem ggX11_city_X11_copyCity : GoodIn wsX11_city wsX11_copyCity := goodIn_r _ [113, 3, 16, 86, 114, 115, 116, 10, 117, 118, 119, 120, 121, 122, 123, 124, 125, 126, 127, 128, 129, 130, 131, 132, 133, 134, 135, 136, 137, 138, 139, 140, 141, 142, 143, 144, 145, 146, 147, 148] (by rfl) (by decide +kernel)
set_option maxRecDepth 20000 in
theorem gX11_city_X11_copyCity : GoodIn wsX11_city (wsV RX11 199 RX11 yX11_copyCity wsX11_copyCity) := goodIn_app (goodIn_r _ [110, 111, 112, 10] (by rfl) (by decide +kernel)) ggX11_city_X11_copyCity
theorem dX11_city_106 : decode cX11_city 106 = .ok (.invokevirtual 199, 3) := by decide +kernel
theorem dX11_city_109 : decode cX11_city 109 = .ok (.aload_n 0, 1) := by decide +kernel
theorem dX11_city_110 : decode cX11_city 110 = .ok (.getfield 31, 3) := by decide +kernel
theorem dX11_city_113 : decode cX11_city 113 = .ok (.iconst 0, 1) := by decide +kernel
theorem dX11_city_114 : decode cX11_city 114 = .ok (.iaload, 1) := by decide +kernel
theorem dX11_city_115 : decode cX11_city 115 = .ok (.ireturn, 1) := by decide +kernel
theorem dX11_city_100 : decode cX11_city 100 = .ok (.bipush (-4), 2) := by decide +kernel
theorem dX11_city_102 : decode cX11_city 102 = .ok (.ireturn, 1) := by decide +kernel
theorem dX11_city_20 : decode cX11_city 20 = .ok (.aload_n 0, 1) := by decide +kernel
theorem dX11_city_21 : decode cX11_city 21 = .ok (.getfield 100, 3) := by decide +kernel
theorem dX11_city_24 : decode cX11_city 24 = .ok (.ifCond .eq 65, 3) := by decide +kernel
theorem dX11_city_27 : decode cX11_city 27 = .ok (.aload_n 0, 1) := by decide +kernel
theorem dX11_city_28 : decode cX11_city 28 = .ok (.getfield 31, 3) := by decide +kernel
theorem dX11_city_31 : decode cX11_city 31 = .ok (.iconst 4, 1) := by decide +kernel
theorem dX11_city_32 : decode cX11_city 32 = .ok (.iaload, 1) := by decide +kernel
theorem dX11_city_33 : decode cX11_city 33 = .ok (.ifCond .ne 28, 3) := by decide +kernel
theorem dX11_city_61 : decode cX11_city 61 = .ok (.aload_n 0, 1) := by decide +kernel
set_option maxRecDepth 20000 in
theorem ggX11_city_X11_line : GoodIn wsX11_city wsX11_line := goodIn_r _ [75, 76, 6, 77, 53, 54, 55, 10, 56, 2, 29, 78, 79, 80, 81, 16, 57, 58, 59, 60, 27, 21, 23, 24, 25, 26, 22, 28, 30, 31, 32, 33, 34, 35, 36, 37, 38, 39, 40, 82, 83, 84, 85, 86, 87, 88, 89, 61, 62, 63, 64, 45, 46, 47, 48, 49, 50, 51, 52, 65, 66, 67, 68, 69, 70, 71, 90, 91, 92, 93, 41, 42, 43, 44, 12, 13, 14, 15, 94, 95, 96, 97, 98, 99, 118, 119, 120, 121, 122, 123, 124, 125, 126, 127, 128, 129, 130, 131, 132, 133, 134, 135, 136, 137, 138, 139, 140, 141, 142, 143, 144, 145, 146, 147, 148] (by rfl) (by decide +kernel)
set_option maxRecDepth 20000 in
theorem gX11_city_X11_line : GoodIn wsX11_city (wsV RX11 190 RX11 yX11_line wsX11_line) := goodIn_app (goodIn_r _ [72, 73, 74, 10] (by rfl) (by decide +kernel)) ggX11_city_X11_line
theorem dX11_city_62 : decode cX11_city 62 = .ok (.invokevirtual 190, 3) := by decide +kernel
theorem dX11_city_65 : decode cX11_city 65 = .ok (.aload_n 0, 1) := by decide +kernel
theorem dX11_city_66 : decode cX11_city 66 = .ok (.invokevirtual 141, 3) := by decide +kernel
theorem dX11_city_69 : decode cX11_city 69 = .ok (.ifCond .eq 7, 3) := by decide +kernel
theorem dX11_city_76 : decode cX11_city 76 = .ok (.aload_n 0, 1) := by decide +kernel
theorem dX11_city_77 : decode cX11_city 77 = .ok (.getfield 31, 3) := by decide +kernel
theorem dX11_city_80 : decode cX11_city 80 = .ok (.iconst 4, 1) := by decide +kernel
theorem dX11_city_81 : decode cX11_city 81 = .ok (.dup2, 1) := by decide +kernel
theorem dX11_city_82 : decode cX11_city 82 = .ok (.iaload, 1) := by decide +kernel
theorem dX11_city_83 : decode cX11_city 83 = .ok (.iconst 1, 1) := by decide +kernel
theorem dX11_city_84 : decode cX11_city 84 = .ok (.iadd, 1) := by decide +kernel
theorem dX11_city_85 : decode cX11_city 85 = .ok (.iastore, 1) := by decide +kernel
theorem dX11_city_86 : decode cX11_city 86 = .ok (.goto (-73), 3) := by decide +kernel
theorem dX11_city_72 : decode cX11_city 72 = .ok (.aload_n 0, 1) := by decide +kernel
set_option maxRecDepth 20000 in
theorem ggX11_city_X11_ends : GoodIn wsX11_city wsX11_ends := goodIn_r _ [103, 2, 6, 57, 58, 59, 10, 60, 27, 21, 23, 24, 25, 26, 22, 28, 29, 30, 31, 32, 33, 34, 35, 36, 37, 38, 39, 40, 118, 119, 120, 121, 122, 123, 124, 125, 126, 127, 128, 129, 130, 131, 132, 133, 134, 135, 136, 137, 138, 139, 140, 141, 142, 143, 144, 145, 146, 147, 148] (by rfl) (by decide +kernel)
set_option maxRecDepth 20000 in
theorem gX11_city_X11_ends : GoodIn wsX11_city (wsV RX11 193 RX11 yX11_ends wsX11_ends) := goodIn_app (goodIn_r _ [100, 101, 102, 10] (by rfl) (by decide +kernel)) ggX11_city_X11_ends
theorem dX11_city_73 : decode cX11_city 73 = .ok (.invokevirtual 193, 3) := by decide +kernel
theorem dX11_city_36 : decode cX11_city 36 = .ok (.aload_n 0, 1) := by decide +kernel
theorem dX11_city_37 : decode cX11_city 37 = .ok (.ldc2_w 186, 3) := by decide +kernel
set_option maxRecDepth 20000 in
theorem ggX11_city_X11_asks : GoodIn wsX11_city wsX11_asks := goodIn_r _ [48, 49, 50, 51, 10, 52, 53, 54, 55, 56, 6, 2, 29, 23, 24, 25, 26, 22, 27, 28, 30, 31, 32, 33, 34, 35, 36, 37, 38, 39, 40, 57, 58, 59, 60, 21, 118, 119, 120, 121, 122, 123, 124, 125, 126, 127, 128, 129, 130, 131, 132, 133, 134, 135, 136, 137, 138, 139, 140, 141, 142, 143, 144, 145, 146, 147, 148] (by rfl) (by decide +kernel)
set_option maxRecDepth 20000 in
theorem gX11_city_X11_asks : GoodIn wsX11_city (wsV RX11 130 RX11 yX11_asks wsX11_asks) := goodIn_app (goodIn_r _ [45, 46, 47, 10] (by rfl) (by decide +kernel)) ggX11_city_X11_asks
theorem dX11_city_40 : decode cX11_city 40 = .ok (.invokevirtual 130, 3) := by decide +kernel
theorem dX11_city_43 : decode cX11_city 43 = .ok (.aload_n 0, 1) := by decide +kernel
theorem dX11_city_44 : decode cX11_city 44 = .ok (.iconst 0, 1) := by decide +kernel
theorem dX11_city_45 : decode cX11_city 45 = .ok (.aload_n 0, 1) := by decide +kernel
theorem dX11_city_46 : decode cX11_city 46 = .ok (.ldc2_w 188, 3) := by decide +kernel
theorem dX11_city_49 : decode cX11_city 49 = .ok (.iconst 1, 1) := by decide +kernel
theorem dX11_city_50 : decode cX11_city 50 = .ok (.bipush 9, 2) := by decide +kernel
set_option maxRecDepth 20000 in
theorem ggX11_city_X11_number_ : GoodIn wsX11_city wsX11_number_ := goodIn_r _ [64, 45, 46, 47, 10, 48, 49, 50, 51, 52, 53, 54, 55, 56, 6, 2, 29, 23, 24, 25, 26, 22, 27, 28, 30, 31, 32, 33, 34, 35, 36, 37, 38, 39, 40, 57, 58, 59, 60, 21, 65, 66, 67, 68, 69, 70, 71, 118, 119, 120, 121, 122, 123, 124, 125, 126, 127, 128, 129, 130, 131, 132, 133, 134, 135, 136, 137, 138, 139, 140, 141, 142, 143, 144, 145, 146, 147, 148] (by rfl) (by decide +kernel)
set_option maxRecDepth 20000 in
theorem gX11_city_X11_number_ : GoodIn wsX11_city (wsV RX11 151 RX11 yX11_number_ wsX11_number_) := goodIn_app (goodIn_r _ [61, 62, 63, 10] (by rfl) (by decide +kernel)) ggX11_city_X11_number_
theorem dX11_city_52 : decode cX11_city 52 = .ok (.invokevirtual 151, 3) := by decide +kernel
set_option maxRecDepth 20000 in
theorem ggX11_city_X11_tells : GoodIn wsX11_city wsX11_tells := goodIn_r _ [15, 16, 118, 119, 120, 121, 122, 123, 124, 125, 126, 127, 128, 129, 130, 131, 132, 133, 134, 135, 136, 137, 138, 139, 140, 141, 142, 143, 144, 145, 146, 147, 148] (by rfl) (by decide +kernel)
set_option maxRecDepth 20000 in
theorem gX11_city_X11_tells : GoodIn wsX11_city (wsV RX11 162 RX11 yX11_tells wsX11_tells) := goodIn_app (goodIn_r _ [12, 13, 14, 10] (by rfl) (by decide +kernel)) ggX11_city_X11_tells
theorem dX11_city_55 : decode cX11_city 55 = .ok (.invokevirtual 162, 3) := by decide +kernel
theorem dX11_city_58 : decode cX11_city 58 = .ok (.goto 7, 3) := by decide +kernel
theorem dX11_paste_0 : decode cX11_paste 0 = .ok (.aload_n 0, 1) := by decide +kernel
theorem dX11_paste_1 : decode cX11_paste 1 = .ok (.iconst 0, 1) := by decide +kernel
theorem dX11_paste_2 : decode cX11_paste 2 = .ok (.putfield 59, 3) := by decide +kernel
theorem dX11_paste_5 : decode cX11_paste 5 = .ok (.iload_n 1, 1) := by decide +kernel
set_option maxRecDepth 20000 in
theorem ggX11_paste_X11_isSlot : GoodIn wsX11_paste wsX11_isSlot := goodIn_r _ [9, 10, 11, 12, 8, 13] (by rfl) (by decide +kernel)
set_option maxRecDepth 20000 in
theorem gX11_paste_X11_isSlot : GoodIn wsX11_paste (va_wsS RX11 68 yX11_isSlot wsX11_isSlot) := goodIn_app (goodIn_r _ [6, 7, 8] (by rfl) (by decide +kernel)) ggX11_paste_X11_isSlot
theorem dX11_paste_6 : decode cX11_paste 6 = .ok (.invokestatic 68, 3) := by decide +kernel
theorem dX11_paste_9 : decode cX11_paste 9 = .ok (.ifCond .eq 10, 3) := by decide +kernel
theorem dX11_paste_19 : decode cX11_paste 19 = .ok (.bipush (-2), 2) := by decide +kernel
theorem dX11_paste_21 : decode cX11_paste 21 = .ok (.ireturn, 1) := by decide +kernel
theorem dX11_paste_12 : decode cX11_paste 12 = .ok (.iload_n 3, 1) := by decide +kernel
theorem dX11_paste_13 : decode cX11_paste 13 = .ok (.invokestatic 68, 3) := by decide +kernel
theorem dX11_paste_16 : decode cX11_paste 16 = .ok (.ifCond .ne 6, 3) := by decide +kernel
theorem dX11_paste_22 : decode cX11_paste 22 = .ok (.aload_n 0, 1) := by decide +kernel
theorem dX11_paste_23 : decode cX11_paste 23 = .ok (.getfield 7, 3) := by decide +kernel
theorem dX11_paste_26 : decode cX11_paste 26 = .ok (.iload_n 1, 1) := by decide +kernel
theorem dX11_paste_27 : decode cX11_paste 27 = .ok (.iaload, 1) := by decide +kernel
theorem dX11_paste_28 : decode cX11_paste 28 = .ok (.iconst (-1), 1) := by decide +kernel
theorem dX11_paste_29 : decode cX11_paste 29 = .ok (.if_icmp .eq 13, 3) := by decide +kernel
theorem dX11_paste_42 : decode cX11_paste 42 = .ok (.bipush (-6), 2) := by decide +kernel
theorem dX11_paste_44 : decode cX11_paste 44 = .ok (.ireturn, 1) := by decide +kernel
theorem dX11_paste_32 : decode cX11_paste 32 = .ok (.aload_n 0, 1) := by decide +kernel
theorem dX11_paste_33 : decode cX11_paste 33 = .ok (.getfield 7, 3) := by decide +kernel
theorem dX11_paste_36 : decode cX11_paste 36 = .ok (.iload_n 3, 1) := by decide +kernel
theorem dX11_paste_37 : decode cX11_paste 37 = .ok (.iaload, 1) := by decide +kernel
theorem dX11_paste_38 : decode cX11_paste 38 = .ok (.iconst (-1), 1) := by decide +kernel
theorem dX11_paste_39 : decode cX11_paste 39 = .ok (.if_icmp .ne 6, 3) := by decide +kernel
theorem dX11_paste_45 : decode cX11_paste 45 = .ok (.aload_n 0, 1) := by decide +kernel
theorem dX11_paste_46 : decode cX11_paste 46 = .ok (.getfield 7, 3) := by decide +kernel
theorem dX11_paste_49 : decode cX11_paste 49 = .ok (.iload_n 1, 1) := by decide +kernel
theorem dX11_paste_50 : decode cX11_paste 50 = .ok (.iaload, 1) := by decide +kernel
theorem dX11_paste_51 : decode cX11_paste 51 = .ok (.aload_n 0, 1) := by decide +kernel
theorem dX11_paste_52 : decode cX11_paste 52 = .ok (.getfield 7, 3) := by decide +kernel
theorem dX11_paste_55 : decode cX11_paste 55 = .ok (.iload_n 3, 1) := by decide +kernel
theorem dX11_paste_56 : decode cX11_paste 56 = .ok (.iaload, 1) := by decide +kernel
theorem dX11_paste_57 : decode cX11_paste 57 = .ok (.if_icmp .eq 6, 3) := by decide +kernel
theorem dX11_paste_63 : decode cX11_paste 63 = .ok (.iload_n 2, 1) := by decide +kernel
theorem dX11_paste_64 : decode cX11_paste 64 = .ok (.ifCond .lt 48, 3) := by decide +kernel
theorem dX11_paste_112 : decode cX11_paste 112 = .ok (.bipush (-7), 2) := by decide +kernel
theorem dX11_paste_114 : decode cX11_paste 114 = .ok (.ireturn, 1) := by decide +kernel
theorem dX11_paste_67 : decode cX11_paste 67 = .ok (.iload 4, 2) := by decide +kernel
theorem dX11_paste_69 : decode cX11_paste 69 = .ok (.ifCond .lt 43, 3) := by decide +kernel
theorem dX11_paste_72 : decode cX11_paste 72 = .ok (.iload 5, 2) := by decide +kernel
theorem dX11_paste_74 : decode cX11_paste 74 = .ok (.ifCond .lt 38, 3) := by decide +kernel
theorem dX11_paste_77 : decode cX11_paste 77 = .ok (.iload_n 2, 1) := by decide +kernel
theorem dX11_paste_78 : decode cX11_paste 78 = .ok (.i2l, 1) := by decide +kernel
theorem dX11_paste_79 : decode cX11_paste 79 = .ok (.iload 5, 2) := by decide +kernel
theorem dX11_paste_81 : decode cX11_paste 81 = .ok (.i2l, 1) := by decide +kernel
theorem dX11_paste_82 : decode cX11_paste 82 = .ok (.ladd, 1) := by decide +kernel
theorem dX11_paste_83 : decode cX11_paste 83 = .ok (.aload_n 0, 1) := by decide +kernel
theorem dX11_paste_84 : decode cX11_paste 84 = .ok (.getfield 13, 3) := by decide +kernel
theorem dX11_paste_87 : decode cX11_paste 87 = .ok (.iload_n 1, 1) := by decide +kernel
theorem dX11_paste_88 : decode cX11_paste 88 = .ok (.iaload, 1) := by decide +kernel
theorem dX11_paste_89 : decode cX11_paste 89 = .ok (.i2l, 1) := by decide +kernel
theorem dX11_paste_90 : decode cX11_paste 90 = .ok (.lcmp, 1) := by decide +kernel
theorem dX11_paste_91 : decode cX11_paste 91 = .ok (.ifCond .gt 21, 3) := by decide +kernel
theorem dX11_paste_94 : decode cX11_paste 94 = .ok (.iload 4, 2) := by decide +kernel
theorem dX11_paste_96 : decode cX11_paste 96 = .ok (.i2l, 1) := by decide +kernel
theorem dX11_paste_97 : decode cX11_paste 97 = .ok (.iload 5, 2) := by decide +kernel
theorem dX11_paste_99 : decode cX11_paste 99 = .ok (.i2l, 1) := by decide +kernel
theorem dX11_paste_100 : decode cX11_paste 100 = .ok (.ladd, 1) := by decide +kernel
theorem dX11_paste_101 : decode cX11_paste 101 = .ok (.aload_n 0, 1) := by decide +kernel
theorem dX11_paste_102 : decode cX11_paste 102 = .ok (.getfield 13, 3) := by decide +kernel
theorem dX11_paste_105 : decode cX11_paste 105 = .ok (.iload_n 3, 1) := by decide +kernel
theorem dX11_paste_106 : decode cX11_paste 106 = .ok (.iaload, 1) := by decide +kernel
theorem dX11_paste_107 : decode cX11_paste 107 = .ok (.i2l, 1) := by decide +kernel
theorem dX11_paste_108 : decode cX11_paste 108 = .ok (.lcmp, 1) := by decide +kernel
theorem dX11_paste_109 : decode cX11_paste 109 = .ok (.ifCond .le 6, 3) := by decide +kernel
theorem dX11_paste_115 : decode cX11_paste 115 = .ok (.iconst 0, 1) := by decide +kernel
theorem dX11_paste_116 : decode cX11_paste 116 = .ok (.istore 6, 2) := by decide +kernel
theorem dX11_paste_118 : decode cX11_paste 118 = .ok (.iload 6, 2) := by decide +kernel
theorem dX11_paste_120 : decode cX11_paste 120 = .ok (.iload 5, 2) := by decide +kernel
theorem dX11_paste_122 : decode cX11_paste 122 = .ok (.if_icmp .ge 30, 3) := by decide +kernel
theorem dX11_paste_152 : decode cX11_paste 152 = .ok (.iconst 0, 1) := by decide +kernel
theorem dX11_paste_153 : decode cX11_paste 153 = .ok (.istore 6, 2) := by decide +kernel
theorem dX11_paste_155 : decode cX11_paste 155 = .ok (.iload 6, 2) := by decide +kernel
theorem dX11_paste_157 : decode cX11_paste 157 = .ok (.iload 5, 2) := by decide +kernel
theorem dX11_paste_159 : decode cX11_paste 159 = .ok (.if_icmp .ge 31, 3) := by decide +kernel
theorem dX11_paste_190 : decode cX11_paste 190 = .ok (.iconst 0, 1) := by decide +kernel
theorem dX11_paste_191 : decode cX11_paste 191 = .ok (.ireturn, 1) := by decide +kernel
theorem dX11_paste_162 : decode cX11_paste 162 = .ok (.aload_n 0, 1) := by decide +kernel
theorem dX11_paste_163 : decode cX11_paste 163 = .ok (.getfield 16, 3) := by decide +kernel
theorem dX11_paste_166 : decode cX11_paste 166 = .ok (.bipush 60, 2) := by decide +kernel
theorem dX11_paste_168 : decode cX11_paste 168 = .ok (.iload_n 3, 1) := by decide +kernel
theorem dX11_paste_169 : decode cX11_paste 169 = .ok (.imul, 1) := by decide +kernel
theorem dX11_paste_170 : decode cX11_paste 170 = .ok (.iload 4, 2) := by decide +kernel
theorem dX11_paste_172 : decode cX11_paste 172 = .ok (.iadd, 1) := by decide +kernel
theorem dX11_paste_173 : decode cX11_paste 173 = .ok (.iload 6, 2) := by decide +kernel
theorem dX11_paste_175 : decode cX11_paste 175 = .ok (.iadd, 1) := by decide +kernel
theorem dX11_paste_176 : decode cX11_paste 176 = .ok (.aload_n 0, 1) := by decide +kernel
theorem dX11_paste_177 : decode cX11_paste 177 = .ok (.getfield 20, 3) := by decide +kernel
theorem dX11_paste_180 : decode cX11_paste 180 = .ok (.iload 6, 2) := by decide +kernel
theorem dX11_paste_182 : decode cX11_paste 182 = .ok (.laload, 1) := by decide +kernel
theorem dX11_paste_183 : decode cX11_paste 183 = .ok (.lastore, 1) := by decide +kernel
theorem dX11_paste_184 : decode cX11_paste 184 = .ok (.iinc 6 1, 3) := by decide +kernel
theorem dX11_paste_187 : decode cX11_paste 187 = .ok (.goto (-32), 3) := by decide +kernel
theorem dX11_paste_125 : decode cX11_paste 125 = .ok (.aload_n 0, 1) := by decide +kernel
theorem dX11_paste_126 : decode cX11_paste 126 = .ok (.getfield 20, 3) := by decide +kernel
theorem dX11_paste_129 : decode cX11_paste 129 = .ok (.iload 6, 2) := by decide +kernel
theorem dX11_paste_131 : decode cX11_paste 131 = .ok (.aload_n 0, 1) := by decide +kernel
theorem dX11_paste_132 : decode cX11_paste 132 = .ok (.getfield 16, 3) := by decide +kernel
theorem dX11_paste_135 : decode cX11_paste 135 = .ok (.bipush 60, 2) := by decide +kernel
theorem dX11_paste_137 : decode cX11_paste 137 = .ok (.iload_n 1, 1) := by decide +kernel
theorem dX11_paste_138 : decode cX11_paste 138 = .ok (.imul, 1) := by decide +kernel
theorem dX11_paste_139 : decode cX11_paste 139 = .ok (.iload_n 2, 1) := by decide +kernel
theorem dX11_paste_140 : decode cX11_paste 140 = .ok (.iadd, 1) := by decide +kernel
theorem dX11_paste_141 : decode cX11_paste 141 = .ok (.iload 6, 2) := by decide +kernel
theorem dX11_paste_143 : decode cX11_paste 143 = .ok (.iadd, 1) := by decide +kernel
theorem dX11_paste_144 : decode cX11_paste 144 = .ok (.laload, 1) := by decide +kernel
theorem dX11_paste_145 : decode cX11_paste 145 = .ok (.lastore, 1) := by decide +kernel
theorem dX11_paste_146 : decode cX11_paste 146 = .ok (.iinc 6 1, 3) := by decide +kernel
theorem dX11_paste_149 : decode cX11_paste 149 = .ok (.goto (-31), 3) := by decide +kernel
theorem dX11_paste_60 : decode cX11_paste 60 = .ok (.bipush (-8), 2) := by decide +kernel
theorem dX11_paste_62 : decode cX11_paste 62 = .ok (.ireturn, 1) := by decide +kernel
set_option maxHeartbeats 4000000 in
set_option maxRecDepth 100000 in
theorem a_X11_clears (l : Launch) (G : va_G) (ct : Nat → ClassId) (a0 : Nat) (n0_0 : Int32) (a1 : Nat) (a2 : Nat) (a3 : Nat) (a4 : Nat) (a5 : Nat) (n0_6 : Int32) (n0_7 : Int32) (n0_8 : Int32) (n0_9 : Int32) (n0_10 : Int32) (l0_11 : Int64) (n0_12 : Int32) (n0_13 : Int32) (n0_14 : Int32) (n0_15 : Int32) (a6 : Nat) (a7 : Nat) (a8 : Nat) (a9 : Nat) (a10 : Nat) (a11 : Nat) (a12 : Nat) (a13 : Nat) (n0_24 : Int32) (n0_25 : Int32) (n0_26 : Int32) (n0_27 : Int32) (a14 : Nat) (n0_29 : Int32) (n0_30 : Int32) (f6 : Nat → Int32) (f7 : Nat → Int32) (hp_n0_6 : rg 0 900 n0_6) (hp_f7 : hsI f7) : Met l yX11_clears wsX11_clears ({ frames := 1, cells := 0, slots := 0, locals := 22 }) (va_Pc [.ref a0] (wrP G ct [(a0, .inr (11, [.int n0_0, .ref a1, .ref a2, .ref a3, .ref a4, .ref a5, .int n0_6, .int n0_7, .int n0_8, .int n0_9, .int n0_10, .long l0_11, .int n0_12, .int n0_13, .int n0_14, .int n0_15, .ref a6, .ref a7, .ref a8, .ref a9, .ref a10, .ref a11, .ref a12, .ref a13, .int n0_24, .int n0_25, .int n0_26, .int n0_27, .ref a14, .int n0_29, .int n0_30])), (a6, .inl (ct 0, 5, .inl f6)), (a7, .inl (ct 0, 15, .inl f7))])) (va_Qv (fun u : SU => hsI (u.2.1 1) ∧ True) (fun u t => va_P G vwCl ((fun u : SU => [(a0, .inr (11, [.int n0_0, .ref a1, .ref a2, .ref a3, .ref a4, .ref a5, .int n0_6, .int n0_7, .int n0_8, .int n0_9, .int n0_10, .long l0_11, .int n0_12, .int n0_13, .int n0_14, .int n0_15, .ref a6, .ref a7, .ref a8, .ref a9, .ref a10, .ref a11, .ref a12, .ref a13, .int n0_24, .int n0_25, .int n0_26, .int n0_27, .ref a14, .int n0_29, .int n0_30])), (a6, .inl (ct 0, 5, .inl (u.2.1 0))), (a7, .inl (ct 0, 15, .inl (u.2.1 1)))]) u) t.heap) (aset [(a0, .inr (11, [.int n0_0, .ref a1, .ref a2, .ref a3, .ref a4, .ref a5, .int n0_6, .int n0_7, .int n0_8, .int n0_9, .int n0_10, .long l0_11, .int n0_12, .int n0_13, .int n0_14, .int n0_15, .ref a6, .ref a7, .ref a8, .ref a9, .ref a10, .ref a11, .ref a12, .ref a13, .int n0_24, .int n0_25, .int n0_26, .int n0_27, .ref a14, .int n0_29, .int n0_30])), (a6, .inl (ct 0, 5, .inl f6)), (a7, .inl (ct 0, 15, .inl f7))])) 0 0 (aset [(a0, .inr (11, [.int n0_0, .ref a1, .ref a2, .ref a3, .ref a4, .ref a5, .int n0_6, .int n0_7, .int n0_8, .int n0_9, .int n0_10, .long l0_11, .int n0_12, .int n0_13, .int n0_14, .int n0_15, .ref a6, .ref a7, .ref a8, .ref a9, .ref a10, .ref a11, .ref a12, .ref a13, .int n0_24, .int n0_25, .int n0_26, .int n0_27, .ref a14, .int n0_29, .int n0_30])), (a6, .inl (ct 0, 5, .inl f6)), (a7, .inl (ct 0, 15, .inl f7))]) := by
  refine Met.ofW (cc := cX11_clears) (maxL := 2) (ret := none) (by decide) rfl ?_
  intro p e s m args below meth c s₁ B hml hv
  obtain ⟨rfl, hP, hK, hD0⟩ := hv
  have hx := B.exec
  have hb := B.bytes
  have hr := B.returns
  have hts := atoms_spec (ws := wsX11_clears) B.pre
  have hown : s.vm.findClass RX11 = some m.cls := findClass_of_methodNamed B.named
  have hlocks := B.notSynchronized
  have hD := hD0.aself
  generalize hAe : aset [(a0, .inr (11, [.int n0_0, .ref a1, .ref a2, .ref a3, .ref a4, .ref a5, .int n0_6, .int n0_7, .int n0_8, .int n0_9, .int n0_10, .long l0_11, .int n0_12, .int n0_13, .int n0_14, .int n0_15, .ref a6, .ref a7, .ref a8, .ref a9, .ref a10, .ref a11, .ref a12, .ref a13, .int n0_24, .int n0_25, .int n0_26, .int n0_27, .ref a14, .int n0_29, .int n0_30])), (a6, .inl (ct 0, 5, .inl f6)), (a7, .inl (ct 0, 15, .inl f7))] = A at hD ⊢
  have hS : va_S A s.heap s.heap [] := va_S.rf
  have hl := lv_entry ([.ref a0]) (n := 2) (Nat.le_of_ble_eq_true rfl)
  rw [lg_entry_eq]
  generalize (lg_sl ([.ref a0]) ++ List.replicate (2 - (lg_sl ([.ref a0])).length) Slot.unset).toArray = ls at hl ⊢
  have hl : lv_has ls 2 [(0, .ref a0)] := hl
  refine lv_aload_n hx hb dX11_clears_0 rfl (lv_at hl 0 rfl) ?_
  refine va_get (D := G) (ci := 11) (v := .ref a6) (C := RX11) (T := TX11) (N := 31) hx hb hts (by decide +kernel) hown hK.1 hP 0 rfl rfl 16 (by decide) (hts (.fieldLink RX11 31 "CardHolderModel" "lines" "[I") (by decide +kernel)) (fun _ h9 => h9) rfl dX11_clears_1 ?_
  refine lv_iconst (v := 4) hx hb dX11_clears_4 (by decide) ?_
  refine lv_iconst (v := 0) hx hb dX11_clears_5 (by decide) ?_
  refine va_iast hx hb hK.1 hP hD hS 1 0 rfl rfl (in_lit (by decide)) dX11_clears_6 (fun H locs hP hD hS => ?_)
  refine lv_iconst (v := 0) hx hb dX11_clears_7 (by decide) ?_
  refine lv_istore_n (lv' := [(1, .int 0), (0, .ref a0)]) hx hb dX11_clears_8 rfl hl (by decide) rfl (fun ls hl => ?_)
  have j9 : ∀ (n : Nat) (x9_1 : Int32) (f9_2 : Nat → Int32) (H : Heap) (locs : List Loc) (ls : Array Slot), 2147483648 ≤ x9_1.toInt + (n : Int) → rg 0 3 x9_1 → hsI f9_2 → va_P G vwCl [(a0, .inr (11, [.int n0_0, .ref a1, .ref a2, .ref a3, .ref a4, .ref a5, .int n0_6, .int n0_7, .int n0_8, .int n0_9, .int n0_10, .long l0_11, .int n0_12, .int n0_13, .int n0_14, .int n0_15, .ref a6, .ref a7, .ref a8, .ref a9, .ref a10, .ref a11, .ref a12, .ref a13, .int n0_24, .int n0_25, .int n0_26, .int n0_27, .ref a14, .int n0_29, .int n0_30])), (a6, .inl (ct 0, 5, .inl (upd f6 (4 : Int32).toNatClampNeg 0))), (a7, .inl (ct 0, 15, .inl f9_2))] H → va_D A [(a0, .inr (11, [.int n0_0, .ref a1, .ref a2, .ref a3, .ref a4, .ref a5, .int n0_6, .int n0_7, .int n0_8, .int n0_9, .int n0_10, .long l0_11, .int n0_12, .int n0_13, .int n0_14, .int n0_15, .ref a6, .ref a7, .ref a8, .ref a9, .ref a10, .ref a11, .ref a12, .ref a13, .int n0_24, .int n0_25, .int n0_26, .int n0_27, .ref a14, .int n0_29, .int n0_30])), (a6, .inl (ct 0, 5, .inl (upd f6 (4 : Int32).toNatClampNeg 0))), (a7, .inl (ct 0, 15, .inl f9_2))] → va_S A s.heap H locs → lv_has ls 2 [(0, .ref a0), (1, .int x9_1)] → W p l e (headSpec wsX11_clears ({ frames := 1, cells := 0, slots := 0, locals := 22 })).room s m ([.ref a0] : List Value).toArray below meth c H locs 0 0 (MQ below (va_Qv (fun u : SU => hsI (u.2.1 1) ∧ True) (fun u t => va_P G vwCl ((fun u : SU => [(a0, .inr (11, [.int n0_0, .ref a1, .ref a2, .ref a3, .ref a4, .ref a5, .int n0_6, .int n0_7, .int n0_8, .int n0_9, .int n0_10, .long l0_11, .int n0_12, .int n0_13, .int n0_14, .int n0_15, .ref a6, .ref a7, .ref a8, .ref a9, .ref a10, .ref a11, .ref a12, .ref a13, .int n0_24, .int n0_25, .int n0_26, .int n0_27, .ref a14, .int n0_29, .int n0_30])), (a6, .inl (ct 0, 5, .inl (u.2.1 0))), (a7, .inl (ct 0, 15, .inl (u.2.1 1)))]) u) t.heap) A) ([.ref a0] : List Value).toArray s 0 0 A) (F0 m 9 ls []) := by
    intro n
    induction n with
    | zero => intro x9_1 f9_2 H locs ls hn9 hx9_1 hf9_2 hP hD hS hl; exact absurd hn9 (by have := Int32.toInt_lt x9_1; have := Int32.le_toInt x9_1; omega)
    | succ n ih9 =>
      intro x9_1 f9_2 H locs ls hn9 hx9_1 hf9_2 hP hD hS hl
      refine lv_iload_n hx hb dX11_clears_9 rfl (lv_at hl 1 rfl) ?_
      refine lv_iconst (v := 3) hx hb dX11_clears_10 (by decide) ?_
      refine lv_icmp_ge (tgt := 26) hx hb dX11_clears_11 (by decide) (fun c11 => ?_) (fun c11 => ?_)
      · have h_1 : rg 3 3 x9_1 := r_le_r_i c11 (rgn 3 (x := 3) (by decide)) hx9_1
        exact W.vret hx hb hr (fun t ht hW => ⟨⟨(fun k => ([] : List Int32).getD k 0, fun k => ([upd f6 (4 : Int32).toNatClampNeg 0, f9_2] : List (Nat → Int32)).getD k (fun _ => 0), fun k => ([] : List (Nat → Int64)).getD k (fun _ => 0)), rfl, ⟨hf9_2, trivial⟩, hp_at ht hP⟩, hS.F ht⟩) hS.2.2 dX11_clears_26
      · have h_2 : rg 0 2 x9_1 := r_lt_l_i (nle_i c11) hx9_1 (rgn 3 (x := 3) (by decide)) (by decide)
        refine lv_aload_n hx hb dX11_clears_14 rfl (lv_at hl 0 rfl) ?_
        refine lv_iload_n hx hb dX11_clears_15 rfl (lv_at hl 1 rfl) ?_
        refine lv_iconst (v := 0) hx hb dX11_clears_16 (by decide) ?_
        refine wj_callv (wr := [(a6, .inl (ct 0, 5, .inl (upd f6 (4 : Int32).toNatClampNeg 0)))]) (w1 := (fun u : SU => [(a0, .inr (11, [.int n0_0, .ref a1, .ref a2, .ref a3, .ref a4, .ref a5, .int n0_6, .int n0_7, .int n0_8, .int n0_9, .int n0_10, .long l0_11, .int n0_12, .int n0_13, .int n0_14, .int n0_15, .ref a6, .ref a7, .ref a8, .ref a9, .ref a10, .ref a11, .ref a12, .ref a13, .int n0_24, .int n0_25, .int n0_26, .int n0_27, .ref a14, .int n0_29, .int n0_30])), (a7, .inl (ct 0, 15, .inl (u.2.1 0)))])) (va_runV (As := [.int x9_1, .int 0]) (rest := []) ⟨hx, hb, hml, hown, hts⟩ (a_X11_tells l G ct a0 n0_0 a1 a2 a3 a4 a5 n0_6 n0_7 n0_8 n0_9 n0_10 l0_11 n0_12 n0_13 n0_14 n0_15 a6 a7 a8 a9 a10 a11 a12 a13 n0_24 n0_25 n0_26 n0_27 a14 n0_29 n0_30 f9_2 x9_1 (0 : Int32) hp_n0_6 hf9_2 h_2 (rg_w (c := 0) (d := 8) (rgn 0 (x := 0) (by decide)) (by decide))) (cwV 2 hts gX11_clears_X11_tells rfl rfl rfl (by decide +kernel) ⟨Nat.le_of_ble_eq_true rfl, Nat.le_of_ble_eq_true rfl⟩) (wr_preV 11 0 hK (hP.sub [0, 2] rfl) (hD.sub [0, 2] (by decide) rfl) rfl rfl) rfl rfl hl.1 rfl (lv_room (Nat.le_of_ble_eq_true rfl)) dX11_clears_17 ⟨Nat.zero_le _, Nat.zero_le _⟩) hS hP hD [0, 2] [1] rfl rfl (by decide) (fun _ => rfl) (fun ur17 H locs wr17 hP hD hS => ?_)
        have hP : va_P G vwCl [(a0, .inr (11, [.int n0_0, .ref a1, .ref a2, .ref a3, .ref a4, .ref a5, .int n0_6, .int n0_7, .int n0_8, .int n0_9, .int n0_10, .long l0_11, .int n0_12, .int n0_13, .int n0_14, .int n0_15, .ref a6, .ref a7, .ref a8, .ref a9, .ref a10, .ref a11, .ref a12, .ref a13, .int n0_24, .int n0_25, .int n0_26, .int n0_27, .ref a14, .int n0_29, .int n0_30])), (a6, .inl (ct 0, 5, .inl (upd f6 (4 : Int32).toNatClampNeg 0))), (a7, .inl (ct 0, 15, .inl (ur17.2.1 0)))] H := hP.sub [1, 0, 2] rfl
        have hD : va_D A [(a0, .inr (11, [.int n0_0, .ref a1, .ref a2, .ref a3, .ref a4, .ref a5, .int n0_6, .int n0_7, .int n0_8, .int n0_9, .int n0_10, .long l0_11, .int n0_12, .int n0_13, .int n0_14, .int n0_15, .ref a6, .ref a7, .ref a8, .ref a9, .ref a10, .ref a11, .ref a12, .ref a13, .int n0_24, .int n0_25, .int n0_26, .int n0_27, .ref a14, .int n0_29, .int n0_30])), (a6, .inl (ct 0, 5, .inl (upd f6 (4 : Int32).toNatClampNeg 0))), (a7, .inl (ct 0, 15, .inl (ur17.2.1 0)))] := hD.sub [1, 0, 2] (by decide) rfl
        obtain ⟨p_3, -⟩ := wr17
        obtain ⟨z20, qz20⟩ : ∃ y : Int32, y = x9_1 + Int32.ofInt 1 := ⟨_, rfl⟩
        obtain ⟨hz20, ez20⟩ := inc_z (e := 1) (f := 3) h_2 qz20 (by decide)
        refine lv_iinc (v := z20) (lv' := [(1, .int z20), (0, .ref a0)]) hx hb dX11_clears_20 hl (k := 1) rfl (qz20.symm) (by decide) rfl (fun ls hl => ?_)
        refine lv_goto (tgt := 9) hx hb dX11_clears_23 (by decide) ?_
        exact ih9 z20 (ur17.2.1 0) _ _ ls (by have q := hn9; have := ez20; omega) (rg_w (c := 0) (d := 3) hz20 (by decide)) p_3 hP hD hS (lv_sub hl [1, 0] rfl)
  exact j9 4294967296 (0 : Int32) f7 _ _ ls (ms_e (0 : Int32)) (rg_w (c := 0) (d := 3) (rgn 0 (x := 0) (by decide)) (by decide)) hp_f7 hP hD hS (lv_sub hl [1, 0] rfl)

set_option maxHeartbeats 4000000 in
set_option maxRecDepth 100000 in
theorem a_X11_city (l : Launch) (G : va_G) (ct : Nat → ClassId) (a0 : Nat) (n0_0 : Int32) (a1 : Nat) (a2 : Nat) (a3 : Nat) (a4 : Nat) (a5 : Nat) (n0_6 : Int32) (n0_7 : Int32) (n0_8 : Int32) (n0_9 : Int32) (n0_10 : Int32) (l0_11 : Int64) (n0_12 : Int32) (n0_13 : Int32) (n0_14 : Int32) (n0_15 : Int32) (a6 : Nat) (a7 : Nat) (a8 : Nat) (a9 : Nat) (a10 : Nat) (a11 : Nat) (a12 : Nat) (a13 : Nat) (n0_24 : Int32) (n0_25 : Int32) (n0_26 : Int32) (n0_27 : Int32) (a14 : Nat) (n0_29 : Int32) (n0_30 : Int32) (f5 : Nat → Int32) (f6 : Nat → Int32) (f7 : Nat → Int32) (f8 : Nat → Int32) (f9 : Nat → Int32) (hp_n0_6 : rg 0 900 n0_6) (hp_f7 : hsI f7) (hp_f8 : psI f8) (hp_f9 : ar 0 7 f9) : Met l yX11_city wsX11_city ({ frames := 7, cells := 0, slots := 0, locals := 153 }) (va_Pc [.ref a0] (wrP G ct [(a0, .inr (11, [.int n0_0, .ref a1, .ref a2, .ref a3, .ref a4, .ref a5, .int n0_6, .int n0_7, .int n0_8, .int n0_9, .int n0_10, .long l0_11, .int n0_12, .int n0_13, .int n0_14, .int n0_15, .ref a6, .ref a7, .ref a8, .ref a9, .ref a10, .ref a11, .ref a12, .ref a13, .int n0_24, .int n0_25, .int n0_26, .int n0_27, .ref a14, .int n0_29, .int n0_30])), (a5, .inl (ct 1, 900, .inl f5)), (a6, .inl (ct 0, 5, .inl f6)), (a7, .inl (ct 0, 15, .inl f7)), (a8, .inl (ct 0, 200, .inl f8)), (a9, .inl (ct 0, 1000, .inl f9))])) (va_Qi (fun (r : Int32) (u : SU) => hsI (u.2.1 1) ∧ psI (u.2.1 2) ∧ ar 0 7 (u.2.1 3) ∧ rg 0 0 (u.1 0) ∧ rg 0 0 (u.1 1) ∧ rg 0 900 (u.1 2) ∧ rg 0 4 (u.1 3) ∧ rg 0 1000009 (u.1 5) ∧ True) (fun u t => va_P G vwCl ((fun u : SU => [(a0, .inr (11, [.int (u.1 0), .ref a1, .ref a2, .ref a3, .ref a4, .ref a5, .int (u.1 1), .int (u.1 2), .int (u.1 3), .int (u.1 4), .int (u.1 5), .long (u.2.2 0 0), .int (u.1 6), .int (u.1 7), .int (u.1 8), .int (u.1 9), .ref a6, .ref a7, .ref a8, .ref a9, .ref a10, .ref a11, .ref a12, .ref a13, .int n0_24, .int n0_25, .int n0_26, .int n0_27, .ref a14, .int n0_29, .int n0_30])), (a5, .inl (ct 1, 900, .inl f5)), (a6, .inl (ct 0, 5, .inl (u.2.1 0))), (a7, .inl (ct 0, 15, .inl (u.2.1 1))), (a8, .inl (ct 0, 200, .inl (u.2.1 2))), (a9, .inl (ct 0, 1000, .inl (u.2.1 3)))]) u) t.heap) (aset [(a0, .inr (11, [.int n0_0, .ref a1, .ref a2, .ref a3, .ref a4, .ref a5, .int n0_6, .int n0_7, .int n0_8, .int n0_9, .int n0_10, .long l0_11, .int n0_12, .int n0_13, .int n0_14, .int n0_15, .ref a6, .ref a7, .ref a8, .ref a9, .ref a10, .ref a11, .ref a12, .ref a13, .int n0_24, .int n0_25, .int n0_26, .int n0_27, .ref a14, .int n0_29, .int n0_30])), (a5, .inl (ct 1, 900, .inl f5)), (a6, .inl (ct 0, 5, .inl f6)), (a7, .inl (ct 0, 15, .inl f7)), (a8, .inl (ct 0, 200, .inl f8)), (a9, .inl (ct 0, 1000, .inl f9))])) 0 0 (aset [(a0, .inr (11, [.int n0_0, .ref a1, .ref a2, .ref a3, .ref a4, .ref a5, .int n0_6, .int n0_7, .int n0_8, .int n0_9, .int n0_10, .long l0_11, .int n0_12, .int n0_13, .int n0_14, .int n0_15, .ref a6, .ref a7, .ref a8, .ref a9, .ref a10, .ref a11, .ref a12, .ref a13, .int n0_24, .int n0_25, .int n0_26, .int n0_27, .ref a14, .int n0_29, .int n0_30])), (a5, .inl (ct 1, 900, .inl f5)), (a6, .inl (ct 0, 5, .inl f6)), (a7, .inl (ct 0, 15, .inl f7)), (a8, .inl (ct 0, 200, .inl f8)), (a9, .inl (ct 0, 1000, .inl f9))]) := by
  refine Met.ofW (cc := cX11_city) (maxL := 1) (ret := (some .int)) (by decide) rfl ?_
  intro p e s m args below meth c s₁ B hml hv
  obtain ⟨rfl, hP, hK, hD0⟩ := hv
  have hx := B.exec
  have hb := B.bytes
  have hr := B.returns
  have hts := atoms_spec (ws := wsX11_city) B.pre
  have hown : s.vm.findClass RX11 = some m.cls := findClass_of_methodNamed B.named
  have hlocks := B.notSynchronized
  have hD := hD0.aself
  generalize hAe : aset [(a0, .inr (11, [.int n0_0, .ref a1, .ref a2, .ref a3, .ref a4, .ref a5, .int n0_6, .int n0_7, .int n0_8, .int n0_9, .int n0_10, .long l0_11, .int n0_12, .int n0_13, .int n0_14, .int n0_15, .ref a6, .ref a7, .ref a8, .ref a9, .ref a10, .ref a11, .ref a12, .ref a13, .int n0_24, .int n0_25, .int n0_26, .int n0_27, .ref a14, .int n0_29, .int n0_30])), (a5, .inl (ct 1, 900, .inl f5)), (a6, .inl (ct 0, 5, .inl f6)), (a7, .inl (ct 0, 15, .inl f7)), (a8, .inl (ct 0, 200, .inl f8)), (a9, .inl (ct 0, 1000, .inl f9))] = A at hD ⊢
  have hS : va_S A s.heap s.heap [] := va_S.rf
  have hl := lv_entry ([.ref a0]) (n := 1) (Nat.le_of_ble_eq_true rfl)
  rw [lg_entry_eq]
  generalize (lg_sl ([.ref a0]) ++ List.replicate (1 - (lg_sl ([.ref a0])).length) Slot.unset).toArray = ls at hl ⊢
  have hl : lv_has ls 1 [(0, .ref a0)] := hl
  refine lv_aload_n hx hb dX11_city_0 rfl (lv_at hl 0 rfl) ?_
  refine lv_iconst (v := 0) hx hb dX11_city_1 (by decide) ?_
  refine va_put (D := G) (ci := 11) (v := .int 0) (ty := .int) (C := RX11) (T := TX11) (N := 31) hx hb hts (by decide +kernel) tyX11 tyX11_ok nmX11 hown hK.1 hP hD hS 0 rfl rfl 0 (by decide) (hts (.fieldLink RX11 59 "CardHolderModel" "thrown" "I") (by decide +kernel)) (fun _ h9 => h9) rfl (by decide +kernel) rfl rfl (Nat.le_of_ble_eq_true rfl) dX11_city_2 (fun H locs hP hD hS => ?_)
  refine lv_aload_n hx hb dX11_city_5 rfl (lv_at hl 0 rfl) ?_
  refine wj_callv (wr := [(a5, .inl (ct 1, 900, .inl f5)), (a8, .inl (ct 0, 200, .inl f8)), (a9, .inl (ct 0, 1000, .inl f9))]) (w1 := (fun u : SU => [(a0, .inr (11, [.int 0, .ref a1, .ref a2, .ref a3, .ref a4, .ref a5, .int n0_6, .int n0_7, .int n0_8, .int n0_9, .int n0_10, .long l0_11, .int n0_12, .int n0_13, .int n0_14, .int n0_15, .ref a6, .ref a7, .ref a8, .ref a9, .ref a10, .ref a11, .ref a12, .ref a13, .int n0_24, .int n0_25, .int n0_26, .int n0_27, .ref a14, .int n0_29, .int n0_30])), (a6, .inl (ct 0, 5, .inl (u.2.1 0))), (a7, .inl (ct 0, 15, .inl (u.2.1 1)))])) (va_runV (As := []) (rest := []) ⟨hx, hb, hml, hown, hts⟩ (a_X11_clears l G ct a0 (0 : Int32) a1 a2 a3 a4 a5 n0_6 n0_7 n0_8 n0_9 n0_10 l0_11 n0_12 n0_13 n0_14 n0_15 a6 a7 a8 a9 a10 a11 a12 a13 n0_24 n0_25 n0_26 n0_27 a14 n0_29 n0_30 f6 f7 hp_n0_6 hp_f7) (cwV 0 hts gX11_city_X11_clears rfl rfl rfl (by decide +kernel) ⟨Nat.le_of_ble_eq_true rfl, Nat.le_of_ble_eq_true rfl⟩) (wr_preV 11 0 hK (hP.sub [0, 2, 3] rfl) (hD.sub [0, 2, 3] (by decide) rfl) rfl rfl) rfl rfl hl.1 rfl (lv_room (Nat.le_of_ble_eq_true rfl)) dX11_city_6 ⟨Nat.zero_le _, Nat.zero_le _⟩) hS hP hD [0, 2, 3] [1, 4, 5] rfl rfl (by decide) (fun _ => rfl) (fun ur6 H locs wr6 hP hD hS => ?_)
  have hP : va_P G vwCl [(a0, .inr (11, [.int 0, .ref a1, .ref a2, .ref a3, .ref a4, .ref a5, .int n0_6, .int n0_7, .int n0_8, .int n0_9, .int n0_10, .long l0_11, .int n0_12, .int n0_13, .int n0_14, .int n0_15, .ref a6, .ref a7, .ref a8, .ref a9, .ref a10, .ref a11, .ref a12, .ref a13, .int n0_24, .int n0_25, .int n0_26, .int n0_27, .ref a14, .int n0_29, .int n0_30])), (a5, .inl (ct 1, 900, .inl f5)), (a6, .inl (ct 0, 5, .inl (ur6.2.1 0))), (a7, .inl (ct 0, 15, .inl (ur6.2.1 1))), (a8, .inl (ct 0, 200, .inl f8)), (a9, .inl (ct 0, 1000, .inl f9))] H := hP.sub [3, 0, 4, 5, 1, 2] rfl
  have hD : va_D A [(a0, .inr (11, [.int 0, .ref a1, .ref a2, .ref a3, .ref a4, .ref a5, .int n0_6, .int n0_7, .int n0_8, .int n0_9, .int n0_10, .long l0_11, .int n0_12, .int n0_13, .int n0_14, .int n0_15, .ref a6, .ref a7, .ref a8, .ref a9, .ref a10, .ref a11, .ref a12, .ref a13, .int n0_24, .int n0_25, .int n0_26, .int n0_27, .ref a14, .int n0_29, .int n0_30])), (a5, .inl (ct 1, 900, .inl f5)), (a6, .inl (ct 0, 5, .inl (ur6.2.1 0))), (a7, .inl (ct 0, 15, .inl (ur6.2.1 1))), (a8, .inl (ct 0, 200, .inl f8)), (a9, .inl (ct 0, 1000, .inl f9))] := hD.sub [3, 0, 4, 5, 1, 2] (by decide) rfl
  obtain ⟨p_1, -⟩ := wr6
  refine lv_aload_n hx hb dX11_city_9 rfl (lv_at hl 0 rfl) ?_
  refine wj_callv (wr := [(a6, .inl (ct 0, 5, .inl (ur6.2.1 0))), (a7, .inl (ct 0, 15, .inl (ur6.2.1 1))), (a8, .inl (ct 0, 200, .inl f8)), (a9, .inl (ct 0, 1000, .inl f9))]) (w1 := (fun u : SU => [(a0, .inr (11, [.int 0, .ref a1, .ref a2, .ref a3, .ref a4, .ref a5, .int n0_6, .int (u.1 0), .int (u.1 1), .int (u.1 2), .int (u.1 3), .long (u.2.2 0 0), .int (u.1 4), .int (u.1 5), .int n0_14, .int n0_15, .ref a6, .ref a7, .ref a8, .ref a9, .ref a10, .ref a11, .ref a12, .ref a13, .int n0_24, .int n0_25, .int n0_26, .int n0_27, .ref a14, .int n0_29, .int n0_30])), (a5, .inl (ct 1, 900, .inl f5))])) (va_runV (As := []) (rest := []) ⟨hx, hb, hml, hown, hts⟩ (a_X11_begins l G ct a0 (0 : Int32) a1 a2 a3 a4 a5 n0_6 n0_7 n0_8 n0_9 n0_10 l0_11 n0_12 n0_13 n0_14 n0_15 a6 a7 a8 a9 a10 a11 a12 a13 n0_24 n0_25 n0_26 n0_27 a14 n0_29 n0_30 f5 hp_n0_6) (cwV 0 hts gX11_city_X11_begins rfl rfl rfl (by decide +kernel) ⟨Nat.le_of_ble_eq_true rfl, Nat.le_of_ble_eq_true rfl⟩) (wr_preV 11 0 hK (hP.sub [0, 1] rfl) (hD.sub [0, 1] (by decide) rfl) rfl rfl) rfl rfl hl.1 rfl (lv_room (Nat.le_of_ble_eq_true rfl)) dX11_city_10 ⟨Nat.zero_le _, Nat.zero_le _⟩) hS hP hD [0, 1] [2, 3, 4, 5] rfl rfl (by decide) (fun _ => rfl) (fun ur10 H locs wr10 hP hD hS => ?_)
  have hP : va_P G vwCl [(a0, .inr (11, [.int 0, .ref a1, .ref a2, .ref a3, .ref a4, .ref a5, .int n0_6, .int (ur10.1 0), .int (ur10.1 1), .int (ur10.1 2), .int (ur10.1 3), .long (ur10.2.2 0 0), .int (ur10.1 4), .int (ur10.1 5), .int n0_14, .int n0_15, .ref a6, .ref a7, .ref a8, .ref a9, .ref a10, .ref a11, .ref a12, .ref a13, .int n0_24, .int n0_25, .int n0_26, .int n0_27, .ref a14, .int n0_29, .int n0_30])), (a5, .inl (ct 1, 900, .inl f5)), (a6, .inl (ct 0, 5, .inl (ur6.2.1 0))), (a7, .inl (ct 0, 15, .inl (ur6.2.1 1))), (a8, .inl (ct 0, 200, .inl f8)), (a9, .inl (ct 0, 1000, .inl f9))] H := hP.sub [4, 5, 0, 1, 2, 3] rfl
  have hD : va_D A [(a0, .inr (11, [.int 0, .ref a1, .ref a2, .ref a3, .ref a4, .ref a5, .int n0_6, .int (ur10.1 0), .int (ur10.1 1), .int (ur10.1 2), .int (ur10.1 3), .long (ur10.2.2 0 0), .int (ur10.1 4), .int (ur10.1 5), .int n0_14, .int n0_15, .ref a6, .ref a7, .ref a8, .ref a9, .ref a10, .ref a11, .ref a12, .ref a13, .int n0_24, .int n0_25, .int n0_26, .int n0_27, .ref a14, .int n0_29, .int n0_30])), (a5, .inl (ct 1, 900, .inl f5)), (a6, .inl (ct 0, 5, .inl (ur6.2.1 0))), (a7, .inl (ct 0, 15, .inl (ur6.2.1 1))), (a8, .inl (ct 0, 200, .inl f8)), (a9, .inl (ct 0, 1000, .inl f9))] := hD.sub [4, 5, 0, 1, 2, 3] (by decide) rfl
  obtain ⟨p_2, p_3, p_4, p_5, p_6, p_7, p_8, -⟩ := wr10
  have j13 : ∀ (n : Nat) (v13_0_7 : Int32) (v13_0_8 : Int32) (v13_0_9 : Int32) (v13_0_10 : Int32) (v13_0_11 : Int64) (v13_0_12 : Int32) (v13_0_13 : Int32) (f13_2 : Nat → Int32) (f13_3 : Nat → Int32) (f13_4 : Nat → Int32) (H : Heap) (locs : List Loc) (ls : Array Slot), (1 ≤ n ∧ (v13_0_12 = 0 → ¬ v13_0_8 = 0 → 902 ≤ v13_0_7.toInt + (n : Int))) → rg 0 900 v13_0_7 → rg 0 4 v13_0_8 → rg 0 1000009 v13_0_10 → hsI f13_3 → psI f13_4 → v13_0_7.toInt ≤ n0_6.toInt → va_P G vwCl [(a0, .inr (11, [.int 0, .ref a1, .ref a2, .ref a3, .ref a4, .ref a5, .int n0_6, .int v13_0_7, .int v13_0_8, .int v13_0_9, .int v13_0_10, .long v13_0_11, .int v13_0_12, .int v13_0_13, .int n0_14, .int n0_15, .ref a6, .ref a7, .ref a8, .ref a9, .ref a10, .ref a11, .ref a12, .ref a13, .int n0_24, .int n0_25, .int n0_26, .int n0_27, .ref a14, .int n0_29, .int n0_30])), (a5, .inl (ct 1, 900, .inl f5)), (a6, .inl (ct 0, 5, .inl f13_2)), (a7, .inl (ct 0, 15, .inl f13_3)), (a8, .inl (ct 0, 200, .inl f13_4)), (a9, .inl (ct 0, 1000, .inl f9))] H → va_D A [(a0, .inr (11, [.int 0, .ref a1, .ref a2, .ref a3, .ref a4, .ref a5, .int n0_6, .int v13_0_7, .int v13_0_8, .int v13_0_9, .int v13_0_10, .long v13_0_11, .int v13_0_12, .int v13_0_13, .int n0_14, .int n0_15, .ref a6, .ref a7, .ref a8, .ref a9, .ref a10, .ref a11, .ref a12, .ref a13, .int n0_24, .int n0_25, .int n0_26, .int n0_27, .ref a14, .int n0_29, .int n0_30])), (a5, .inl (ct 1, 900, .inl f5)), (a6, .inl (ct 0, 5, .inl f13_2)), (a7, .inl (ct 0, 15, .inl f13_3)), (a8, .inl (ct 0, 200, .inl f13_4)), (a9, .inl (ct 0, 1000, .inl f9))] → va_S A s.heap H locs → lv_has ls 1 [(0, .ref a0)] → W p l e (headSpec wsX11_city ({ frames := 7, cells := 0, slots := 0, locals := 153 })).room s m ([.ref a0] : List Value).toArray below meth c H locs 0 0 (MQ below (va_Qi (fun (r : Int32) (u : SU) => hsI (u.2.1 1) ∧ psI (u.2.1 2) ∧ ar 0 7 (u.2.1 3) ∧ rg 0 0 (u.1 0) ∧ rg 0 0 (u.1 1) ∧ rg 0 900 (u.1 2) ∧ rg 0 4 (u.1 3) ∧ rg 0 1000009 (u.1 5) ∧ True) (fun u t => va_P G vwCl ((fun u : SU => [(a0, .inr (11, [.int (u.1 0), .ref a1, .ref a2, .ref a3, .ref a4, .ref a5, .int (u.1 1), .int (u.1 2), .int (u.1 3), .int (u.1 4), .int (u.1 5), .long (u.2.2 0 0), .int (u.1 6), .int (u.1 7), .int (u.1 8), .int (u.1 9), .ref a6, .ref a7, .ref a8, .ref a9, .ref a10, .ref a11, .ref a12, .ref a13, .int n0_24, .int n0_25, .int n0_26, .int n0_27, .ref a14, .int n0_29, .int n0_30])), (a5, .inl (ct 1, 900, .inl f5)), (a6, .inl (ct 0, 5, .inl (u.2.1 0))), (a7, .inl (ct 0, 15, .inl (u.2.1 1))), (a8, .inl (ct 0, 200, .inl (u.2.1 2))), (a9, .inl (ct 0, 1000, .inl (u.2.1 3)))]) u) t.heap) A) ([.ref a0] : List Value).toArray s 0 0 A) (F0 m 13 ls []) := by
    intro n
    induction n with
    | zero => intro v13_0_7 v13_0_8 v13_0_9 v13_0_10 v13_0_11 v13_0_12 v13_0_13 f13_2 f13_3 f13_4 H locs ls hn13 hv13_0_7 hv13_0_8 hv13_0_10 hf13_3 hf13_4 ha13 hP hD hS hl; exact absurd hn13.1 (by decide)
    | succ n ih13 =>
      intro v13_0_7 v13_0_8 v13_0_9 v13_0_10 v13_0_11 v13_0_12 v13_0_13 f13_2 f13_3 f13_4 H locs ls hn13 hv13_0_7 hv13_0_8 hv13_0_10 hf13_3 hf13_4 ha13 hP hD hS hl
      refine lv_aload_n hx hb dX11_city_13 rfl (lv_at hl 0 rfl) ?_
      refine ro_calli (va_runV (As := []) (rest := []) ⟨hx, hb, hml, hown, hts⟩ (a_X11_isGood l G ct a0 (0 : Int32) a1 a2 a3 a4 a5 n0_6 v13_0_7 v13_0_8 v13_0_9 v13_0_10 v13_0_11 v13_0_12 v13_0_13 n0_14 n0_15 a6 a7 a8 a9 a10 a11 a12 a13 n0_24 n0_25 n0_26 n0_27 a14 n0_29 n0_30 hp_n0_6) (cwV 0 hts gX11_city_X11_isGood rfl rfl rfl (by decide +kernel) ⟨Nat.le_of_ble_eq_true rfl, Nat.le_of_ble_eq_true rfl⟩) (ro_preV 11 0 hK (hP.sub [0] rfl) rfl rfl) rfl rfl hl.1 rfl (lv_room (Nat.le_of_ble_eq_true rfl)) dX11_city_14 ⟨Nat.zero_le _, Nat.zero_le _⟩) hS hP (fun r14 H locs wr14 hP hS => ?_)
      obtain ⟨p_9, p_10, p_11, -⟩ := wr14
      refine lv_if_eq (tgt := 89) hx hb dX11_city_17 (by decide) (fun c17 => ?_) (fun c17 => ?_)
      · have h_12 : rg 0 0 r14 := r_eq_l_i (e := 0) (f := 0) c17 p_9 (rgn 0 (x := 0) (by decide)) (by decide)
        refine lv_aload_n hx hb dX11_city_89 rfl (lv_at hl 0 rfl) ?_
        refine wj_callv (wr := [(a5, .inl (ct 1, 900, .inl f5)), (a6, .inl (ct 0, 5, .inl f13_2)), (a7, .inl (ct 0, 15, .inl f13_3)), (a8, .inl (ct 0, 200, .inl f13_4)), (a9, .inl (ct 0, 1000, .inl f9))]) (w1 := (fun u : SU => [(a0, .inr (11, [.int 0, .ref a1, .ref a2, .ref a3, .ref a4, .ref a5, .int (u.1 0), .int v13_0_7, .int v13_0_8, .int v13_0_9, .int v13_0_10, .long v13_0_11, .int v13_0_12, .int v13_0_13, .int (u.1 1), .int (u.1 2), .ref a6, .ref a7, .ref a8, .ref a9, .ref a10, .ref a11, .ref a12, .ref a13, .int n0_24, .int n0_25, .int n0_26, .int n0_27, .ref a14, .int n0_29, .int n0_30]))])) (va_runV (As := []) (rest := []) ⟨hx, hb, hml, hown, hts⟩ (a_X11_isOver l G ct a0 (0 : Int32) a1 a2 a3 a4 a5 n0_6 v13_0_7 v13_0_8 v13_0_9 v13_0_10 v13_0_11 v13_0_12 v13_0_13 n0_14 n0_15 a6 a7 a8 a9 a10 a11 a12 a13 n0_24 n0_25 n0_26 n0_27 a14 n0_29 n0_30 hp_n0_6) (cwV 0 hts gX11_city_X11_isOver rfl rfl rfl (by decide +kernel) ⟨Nat.le_of_ble_eq_true rfl, Nat.le_of_ble_eq_true rfl⟩) (wr_preV 11 0 hK (hP.sub [0] rfl) (hD.sub [0] (by decide) rfl) rfl rfl) rfl rfl hl.1 rfl (lv_room (Nat.le_of_ble_eq_true rfl)) dX11_city_90 ⟨Nat.zero_le _, Nat.zero_le _⟩) hS hP hD [0] [1, 2, 3, 4, 5] rfl rfl (by decide) (fun _ => rfl) (fun ur90 H locs wr90 hP hD hS => ?_)
        have hP : va_P G vwCl [(a0, .inr (11, [.int 0, .ref a1, .ref a2, .ref a3, .ref a4, .ref a5, .int (ur90.1 0), .int v13_0_7, .int v13_0_8, .int v13_0_9, .int v13_0_10, .long v13_0_11, .int v13_0_12, .int v13_0_13, .int (ur90.1 1), .int (ur90.1 2), .ref a6, .ref a7, .ref a8, .ref a9, .ref a10, .ref a11, .ref a12, .ref a13, .int n0_24, .int n0_25, .int n0_26, .int n0_27, .ref a14, .int n0_29, .int n0_30])), (a5, .inl (ct 1, 900, .inl f5)), (a6, .inl (ct 0, 5, .inl f13_2)), (a7, .inl (ct 0, 15, .inl f13_3)), (a8, .inl (ct 0, 200, .inl f13_4)), (a9, .inl (ct 0, 1000, .inl f9))] H := hP.sub [5, 0, 1, 2, 3, 4] rfl
        have hD : va_D A [(a0, .inr (11, [.int 0, .ref a1, .ref a2, .ref a3, .ref a4, .ref a5, .int (ur90.1 0), .int v13_0_7, .int v13_0_8, .int v13_0_9, .int v13_0_10, .long v13_0_11, .int v13_0_12, .int v13_0_13, .int (ur90.1 1), .int (ur90.1 2), .ref a6, .ref a7, .ref a8, .ref a9, .ref a10, .ref a11, .ref a12, .ref a13, .int n0_24, .int n0_25, .int n0_26, .int n0_27, .ref a14, .int n0_29, .int n0_30])), (a5, .inl (ct 1, 900, .inl f5)), (a6, .inl (ct 0, 5, .inl f13_2)), (a7, .inl (ct 0, 15, .inl f13_3)), (a8, .inl (ct 0, 200, .inl f13_4)), (a9, .inl (ct 0, 1000, .inl f9))] := hD.sub [5, 0, 1, 2, 3, 4] (by decide) rfl
        obtain ⟨p_13, -⟩ := wr90
        refine lv_aload_n hx hb dX11_city_93 rfl (lv_at hl 0 rfl) ?_
        refine va_get (D := G) (ci := 11) (v := .int v13_0_12) (C := RX11) (T := TX11) (N := 31) hx hb hts (by decide +kernel) hown hK.1 hP 0 rfl rfl 12 (by decide) (hts (.fieldLink RX11 111 "CardHolderModel" "bad" "I") (by decide +kernel)) (fun _ h9 => h9) rfl dX11_city_94 ?_
        refine lv_if_eq (tgt := 103) hx hb dX11_city_97 (by decide) (fun c97 => ?_) (fun c97 => ?_)
        · have h_14 : rg 0 0 v13_0_12 := r_eq_l_i (e := 0) (f := 0) c97 (rg_t v13_0_12) (rgn 0 (x := 0) (by decide)) (by decide)
          refine lv_aload_n hx hb dX11_city_103 rfl (lv_at hl 0 rfl) ?_
          refine lv_iconst (v := 4) hx hb dX11_city_104 (by decide) ?_
          refine lv_iconst (v := 0) hx hb dX11_city_105 (by decide) ?_
          refine wj_callv (wr := [(a5, .inl (ct 1, 900, .inl f5))]) (w1 := (fun u : SU => [(a0, .inr (11, [.int 0, .ref a1, .ref a2, .ref a3, .ref a4, .ref a5, .int (ur90.1 0), .int v13_0_7, .int v13_0_8, .int v13_0_9, .int v13_0_10, .long v13_0_11, .int v13_0_12, .int v13_0_13, .int (ur90.1 1), .int (ur90.1 2), .ref a6, .ref a7, .ref a8, .ref a9, .ref a10, .ref a11, .ref a12, .ref a13, .int n0_24, .int n0_25, .int n0_26, .int n0_27, .ref a14, .int n0_29, .int n0_30])), (a6, .inl (ct 0, 5, .inl (u.2.1 0))), (a7, .inl (ct 0, 15, .inl (u.2.1 1))), (a8, .inl (ct 0, 200, .inl (u.2.1 2))), (a9, .inl (ct 0, 1000, .inl (u.2.1 3)))])) (va_runV (As := [.int 4, .int 0]) (rest := []) ⟨hx, hb, hml, hown, hts⟩ (a_X11_copyCity l G ct a0 (0 : Int32) a1 a2 a3 a4 a5 (ur90.1 0) v13_0_7 v13_0_8 v13_0_9 v13_0_10 v13_0_11 v13_0_12 v13_0_13 (ur90.1 1) (ur90.1 2) a6 a7 a8 a9 a10 a11 a12 a13 n0_24 n0_25 n0_26 n0_27 a14 n0_29 n0_30 f13_2 f13_3 f13_4 f9 (4 : Int32) (0 : Int32) (rg_w (c := 0) (d := 900) p_13 (by decide)) hf13_3 hf13_4 hp_f9 (rg_w (c := 0) (d := 4) (rgn 4 (x := 4) (by decide)) (by decide)) (rg_w (c := 0) (d := 4) (rgn 0 (x := 0) (by decide)) (by decide))) (cwV 2 hts gX11_city_X11_copyCity rfl rfl rfl (by decide +kernel) ⟨Nat.le_of_ble_eq_true rfl, Nat.le_of_ble_eq_true rfl⟩) (wr_preV 11 0 hK (hP.sub [0, 2, 3, 4, 5] rfl) (hD.sub [0, 2, 3, 4, 5] (by decide) rfl) rfl rfl) rfl rfl hl.1 rfl (lv_room (Nat.le_of_ble_eq_true rfl)) dX11_city_106 ⟨Nat.zero_le _, Nat.zero_le _⟩) hS hP hD [0, 2, 3, 4, 5] [1] rfl rfl (by decide) (fun _ => rfl) (fun ur106 H locs wr106 hP hD hS => ?_)
          have hP : va_P G vwCl [(a0, .inr (11, [.int 0, .ref a1, .ref a2, .ref a3, .ref a4, .ref a5, .int (ur90.1 0), .int v13_0_7, .int v13_0_8, .int v13_0_9, .int v13_0_10, .long v13_0_11, .int v13_0_12, .int v13_0_13, .int (ur90.1 1), .int (ur90.1 2), .ref a6, .ref a7, .ref a8, .ref a9, .ref a10, .ref a11, .ref a12, .ref a13, .int n0_24, .int n0_25, .int n0_26, .int n0_27, .ref a14, .int n0_29, .int n0_30])), (a5, .inl (ct 1, 900, .inl f5)), (a6, .inl (ct 0, 5, .inl (ur106.2.1 0))), (a7, .inl (ct 0, 15, .inl (ur106.2.1 1))), (a8, .inl (ct 0, 200, .inl (ur106.2.1 2))), (a9, .inl (ct 0, 1000, .inl (ur106.2.1 3)))] H := hP.sub [1, 0, 2, 3, 4, 5] rfl
          have hD : va_D A [(a0, .inr (11, [.int 0, .ref a1, .ref a2, .ref a3, .ref a4, .ref a5, .int (ur90.1 0), .int v13_0_7, .int v13_0_8, .int v13_0_9, .int v13_0_10, .long v13_0_11, .int v13_0_12, .int v13_0_13, .int (ur90.1 1), .int (ur90.1 2), .ref a6, .ref a7, .ref a8, .ref a9, .ref a10, .ref a11, .ref a12, .ref a13, .int n0_24, .int n0_25, .int n0_26, .int n0_27, .ref a14, .int n0_29, .int n0_30])), (a5, .inl (ct 1, 900, .inl f5)), (a6, .inl (ct 0, 5, .inl (ur106.2.1 0))), (a7, .inl (ct 0, 15, .inl (ur106.2.1 1))), (a8, .inl (ct 0, 200, .inl (ur106.2.1 2))), (a9, .inl (ct 0, 1000, .inl (ur106.2.1 3)))] := hD.sub [1, 0, 2, 3, 4, 5] (by decide) rfl
          obtain ⟨p_15, p_16, p_17, -⟩ := wr106
          refine lv_aload_n hx hb dX11_city_109 rfl (lv_at hl 0 rfl) ?_
          refine va_get (D := G) (ci := 11) (v := .ref a6) (C := RX11) (T := TX11) (N := 31) hx hb hts (by decide +kernel) hown hK.1 hP 0 rfl rfl 16 (by decide) (hts (.fieldLink RX11 31 "CardHolderModel" "lines" "[I") (by decide +kernel)) (fun _ h9 => h9) rfl dX11_city_110 ?_
          refine lv_iconst (v := 0) hx hb dX11_city_113 (by decide) ?_
          refine va_iald hx hb hK.1 hP 2 0 rfl rfl (in_lit (by decide)) dX11_city_114 ?_
          refine lv_topi (fun z114 gz114 => ?_)
          exact W.iret (v := z114) hx hb hr (fun t ht hW => ⟨⟨z114, (fun k => ([0, ur90.1 0, v13_0_7, v13_0_8, v13_0_9, v13_0_10, v13_0_12, v13_0_13, ur90.1 1, ur90.1 2] : List Int32).getD k 0, fun k => ([ur106.2.1 0, ur106.2.1 1, ur106.2.1 2, ur106.2.1 3] : List (Nat → Int32)).getD k (fun _ => 0), fun k => ([fun _ => v13_0_11] : List (Nat → Int64)).getD k (fun _ => 0)), rfl, ⟨p_15, p_16, p_17, (rgn 0 (x := 0) (by decide)), p_13, hv13_0_7, hv13_0_8, hv13_0_10, trivial⟩, hp_at ht hP⟩, hS.F ht⟩) hS.2.2 dX11_city_115
        · refine lv_bipush (v := (-4)) hx hb dX11_city_100 (by decide) ?_
          exact W.iret (v := (-4)) hx hb hr (fun t ht hW => ⟨⟨(-4), (fun k => ([0, ur90.1 0, v13_0_7, v13_0_8, v13_0_9, v13_0_10, v13_0_12, v13_0_13, ur90.1 1, ur90.1 2] : List Int32).getD k 0, fun k => ([f13_2, f13_3, f13_4, f9] : List (Nat → Int32)).getD k (fun _ => 0), fun k => ([fun _ => v13_0_11] : List (Nat → Int64)).getD k (fun _ => 0)), rfl, ⟨hf13_3, hf13_4, hp_f9, (rgn 0 (x := 0) (by decide)), p_13, hv13_0_7, hv13_0_8, hv13_0_10, trivial⟩, hp_at ht hP⟩, hS.F ht⟩) hS.2.2 dX11_city_102
      · have h_18 : rg 1 1 r14 := r_ne_lo_i c17 p_9 (by decide) (by decide)
        have h_19 : rg 0 0 v13_0_12 := (p_10 (rne h_18 (y := 0) (c := 0) (by decide) (by decide)))
        refine lv_aload_n hx hb dX11_city_20 rfl (lv_at hl 0 rfl) ?_
        refine va_get (D := G) (ci := 11) (v := .int v13_0_8) (C := RX11) (T := TX11) (N := 31) hx hb hts (by decide +kernel) hown hK.1 hP 0 rfl rfl 8 (by decide) (hts (.fieldLink RX11 100 "CardHolderModel" "token" "I") (by decide +kernel)) (fun _ h9 => h9) rfl dX11_city_21 ?_
        refine lv_if_eq (tgt := 89) hx hb dX11_city_24 (by decide) (fun c24 => ?_) (fun c24 => ?_)
        · have h_20 : rg 0 0 v13_0_8 := r_eq_l_i (e := 0) (f := 0) c24 hv13_0_8 (rgn 0 (x := 0) (by decide)) (by decide)
          refine lv_aload_n hx hb dX11_city_89 rfl (lv_at hl 0 rfl) ?_
          refine wj_callv (wr := [(a5, .inl (ct 1, 900, .inl f5)), (a6, .inl (ct 0, 5, .inl f13_2)), (a7, .inl (ct 0, 15, .inl f13_3)), (a8, .inl (ct 0, 200, .inl f13_4)), (a9, .inl (ct 0, 1000, .inl f9))]) (w1 := (fun u : SU => [(a0, .inr (11, [.int 0, .ref a1, .ref a2, .ref a3, .ref a4, .ref a5, .int (u.1 0), .int v13_0_7, .int v13_0_8, .int v13_0_9, .int v13_0_10, .long v13_0_11, .int v13_0_12, .int v13_0_13, .int (u.1 1), .int (u.1 2), .ref a6, .ref a7, .ref a8, .ref a9, .ref a10, .ref a11, .ref a12, .ref a13, .int n0_24, .int n0_25, .int n0_26, .int n0_27, .ref a14, .int n0_29, .int n0_30]))])) (va_runV (As := []) (rest := []) ⟨hx, hb, hml, hown, hts⟩ (a_X11_isOver l G ct a0 (0 : Int32) a1 a2 a3 a4 a5 n0_6 v13_0_7 v13_0_8 v13_0_9 v13_0_10 v13_0_11 v13_0_12 v13_0_13 n0_14 n0_15 a6 a7 a8 a9 a10 a11 a12 a13 n0_24 n0_25 n0_26 n0_27 a14 n0_29 n0_30 hp_n0_6) (cwV 0 hts gX11_city_X11_isOver rfl rfl rfl (by decide +kernel) ⟨Nat.le_of_ble_eq_true rfl, Nat.le_of_ble_eq_true rfl⟩) (wr_preV 11 0 hK (hP.sub [0] rfl) (hD.sub [0] (by decide) rfl) rfl rfl) rfl rfl hl.1 rfl (lv_room (Nat.le_of_ble_eq_true rfl)) dX11_city_90 ⟨Nat.zero_le _, Nat.zero_le _⟩) hS hP hD [0] [1, 2, 3, 4, 5] rfl rfl (by decide) (fun _ => rfl) (fun ur90 H locs wr90 hP hD hS => ?_)
          have hP : va_P G vwCl [(a0, .inr (11, [.int 0, .ref a1, .ref a2, .ref a3, .ref a4, .ref a5, .int (ur90.1 0), .int v13_0_7, .int v13_0_8, .int v13_0_9, .int v13_0_10, .long v13_0_11, .int v13_0_12, .int v13_0_13, .int (ur90.1 1), .int (ur90.1 2), .ref a6, .ref a7, .ref a8, .ref a9, .ref a10, .ref a11, .ref a12, .ref a13, .int n0_24, .int n0_25, .int n0_26, .int n0_27, .ref a14, .int n0_29, .int n0_30])), (a5, .inl (ct 1, 900, .inl f5)), (a6, .inl (ct 0, 5, .inl f13_2)), (a7, .inl (ct 0, 15, .inl f13_3)), (a8, .inl (ct 0, 200, .inl f13_4)), (a9, .inl (ct 0, 1000, .inl f9))] H := hP.sub [5, 0, 1, 2, 3, 4] rfl
          have hD : va_D A [(a0, .inr (11, [.int 0, .ref a1, .ref a2, .ref a3, .ref a4, .ref a5, .int (ur90.1 0), .int v13_0_7, .int v13_0_8, .int v13_0_9, .int v13_0_10, .long v13_0_11, .int v13_0_12, .int v13_0_13, .int (ur90.1 1), .int (ur90.1 2), .ref a6, .ref a7, .ref a8, .ref a9, .ref a10, .ref a11, .ref a12, .ref a13, .int n0_24, .int n0_25, .int n0_26, .int n0_27, .ref a14, .int n0_29, .int n0_30])), (a5, .inl (ct 1, 900, .inl f5)), (a6, .inl (ct 0, 5, .inl f13_2)), (a7, .inl (ct 0, 15, .inl f13_3)), (a8, .inl (ct 0, 200, .inl f13_4)), (a9, .inl (ct 0, 1000, .inl f9))] := hD.sub [5, 0, 1, 2, 3, 4] (by decide) rfl
          obtain ⟨p_21, -⟩ := wr90
          refine lv_aload_n hx hb dX11_city_93 rfl (lv_at hl 0 rfl) ?_
          refine va_get (D := G) (ci := 11) (v := .int v13_0_12) (C := RX11) (T := TX11) (N := 31) hx hb hts (by decide +kernel) hown hK.1 hP 0 rfl rfl 12 (by decide) (hts (.fieldLink RX11 111 "CardHolderModel" "bad" "I") (by decide +kernel)) (fun _ h9 => h9) rfl dX11_city_94 ?_
          refine lv_if_eq (tgt := 103) hx hb dX11_city_97 (by decide) (fun c97 => ?_) (fun c97 => ?_)
          · refine lv_aload_n hx hb dX11_city_103 rfl (lv_at hl 0 rfl) ?_
            refine lv_iconst (v := 4) hx hb dX11_city_104 (by decide) ?_
            refine lv_iconst (v := 0) hx hb dX11_city_105 (by decide) ?_
            refine wj_callv (wr := [(a5, .inl (ct 1, 900, .inl f5))]) (w1 := (fun u : SU => [(a0, .inr (11, [.int 0, .ref a1, .ref a2, .ref a3, .ref a4, .ref a5, .int (ur90.1 0), .int v13_0_7, .int v13_0_8, .int v13_0_9, .int v13_0_10, .long v13_0_11, .int v13_0_12, .int v13_0_13, .int (ur90.1 1), .int (ur90.1 2), .ref a6, .ref a7, .ref a8, .ref a9, .ref a10, .ref a11, .ref a12, .ref a13, .int n0_24, .int n0_25, .int n0_26, .int n0_27, .ref a14, .int n0_29, .int n0_30])), (a6, .inl (ct 0, 5, .inl (u.2.1 0))), (a7, .inl (ct 0, 15, .inl (u.2.1 1))), (a8, .inl (ct 0, 200, .inl (u.2.1 2))), (a9, .inl (ct 0, 1000, .inl (u.2.1 3)))])) (va_runV (As := [.int 4, .int 0]) (rest := []) ⟨hx, hb, hml, hown, hts⟩ (a_X11_copyCity l G ct a0 (0 : Int32) a1 a2 a3 a4 a5 (ur90.1 0) v13_0_7 v13_0_8 v13_0_9 v13_0_10 v13_0_11 v13_0_12 v13_0_13 (ur90.1 1) (ur90.1 2) a6 a7 a8 a9 a10 a11 a12 a13 n0_24 n0_25 n0_26 n0_27 a14 n0_29 n0_30 f13_2 f13_3 f13_4 f9 (4 : Int32) (0 : Int32) (rg_w (c := 0) (d := 900) p_21 (by decide)) hf13_3 hf13_4 hp_f9 (rg_w (c := 0) (d := 4) (rgn 4 (x := 4) (by decide)) (by decide)) (rg_w (c := 0) (d := 4) (rgn 0 (x := 0) (by decide)) (by decide))) (cwV 2 hts gX11_city_X11_copyCity rfl rfl rfl (by decide +kernel) ⟨Nat.le_of_ble_eq_true rfl, Nat.le_of_ble_eq_true rfl⟩) (wr_preV 11 0 hK (hP.sub [0, 2, 3, 4, 5] rfl) (hD.sub [0, 2, 3, 4, 5] (by decide) rfl) rfl rfl) rfl rfl hl.1 rfl (lv_room (Nat.le_of_ble_eq_true rfl)) dX11_city_106 ⟨Nat.zero_le _, Nat.zero_le _⟩) hS hP hD [0, 2, 3, 4, 5] [1] rfl rfl (by decide) (fun _ => rfl) (fun ur106 H locs wr106 hP hD hS => ?_)
            have hP : va_P G vwCl [(a0, .inr (11, [.int 0, .ref a1, .ref a2, .ref a3, .ref a4, .ref a5, .int (ur90.1 0), .int v13_0_7, .int v13_0_8, .int v13_0_9, .int v13_0_10, .long v13_0_11, .int v13_0_12, .int v13_0_13, .int (ur90.1 1), .int (ur90.1 2), .ref a6, .ref a7, .ref a8, .ref a9, .ref a10, .ref a11, .ref a12, .ref a13, .int n0_24, .int n0_25, .int n0_26, .int n0_27, .ref a14, .int n0_29, .int n0_30])), (a5, .inl (ct 1, 900, .inl f5)), (a6, .inl (ct 0, 5, .inl (ur106.2.1 0))), (a7, .inl (ct 0, 15, .inl (ur106.2.1 1))), (a8, .inl (ct 0, 200, .inl (ur106.2.1 2))), (a9, .inl (ct 0, 1000, .inl (ur106.2.1 3)))] H := hP.sub [1, 0, 2, 3, 4, 5] rfl
            have hD : va_D A [(a0, .inr (11, [.int 0, .ref a1, .ref a2, .ref a3, .ref a4, .ref a5, .int (ur90.1 0), .int v13_0_7, .int v13_0_8, .int v13_0_9, .int v13_0_10, .long v13_0_11, .int v13_0_12, .int v13_0_13, .int (ur90.1 1), .int (ur90.1 2), .ref a6, .ref a7, .ref a8, .ref a9, .ref a10, .ref a11, .ref a12, .ref a13, .int n0_24, .int n0_25, .int n0_26, .int n0_27, .ref a14, .int n0_29, .int n0_30])), (a5, .inl (ct 1, 900, .inl f5)), (a6, .inl (ct 0, 5, .inl (ur106.2.1 0))), (a7, .inl (ct 0, 15, .inl (ur106.2.1 1))), (a8, .inl (ct 0, 200, .inl (ur106.2.1 2))), (a9, .inl (ct 0, 1000, .inl (ur106.2.1 3)))] := hD.sub [1, 0, 2, 3, 4, 5] (by decide) rfl
            obtain ⟨p_22, p_23, p_24, -⟩ := wr106
            refine lv_aload_n hx hb dX11_city_109 rfl (lv_at hl 0 rfl) ?_
            refine va_get (D := G) (ci := 11) (v := .ref a6) (C := RX11) (T := TX11) (N := 31) hx hb hts (by decide +kernel) hown hK.1 hP 0 rfl rfl 16 (by decide) (hts (.fieldLink RX11 31 "CardHolderModel" "lines" "[I") (by decide +kernel)) (fun _ h9 => h9) rfl dX11_city_110 ?_
            refine lv_iconst (v := 0) hx hb dX11_city_113 (by decide) ?_
            refine va_iald hx hb hK.1 hP 2 0 rfl rfl (in_lit (by decide)) dX11_city_114 ?_
            refine lv_topi (fun z114 gz114 => ?_)
            exact W.iret (v := z114) hx hb hr (fun t ht hW => ⟨⟨z114, (fun k => ([0, ur90.1 0, v13_0_7, v13_0_8, v13_0_9, v13_0_10, v13_0_12, v13_0_13, ur90.1 1, ur90.1 2] : List Int32).getD k 0, fun k => ([ur106.2.1 0, ur106.2.1 1, ur106.2.1 2, ur106.2.1 3] : List (Nat → Int32)).getD k (fun _ => 0), fun k => ([fun _ => v13_0_11] : List (Nat → Int64)).getD k (fun _ => 0)), rfl, ⟨p_22, p_23, p_24, (rgn 0 (x := 0) (by decide)), p_21, hv13_0_7, (rg_w (c := 0) (d := 4) h_20 (by decide)), hv13_0_10, trivial⟩, hp_at ht hP⟩, hS.F ht⟩) hS.2.2 dX11_city_115
          · exact (dd_ne_i c97 h_19 (rgn 0 (x := 0) (by decide))).elim
        · have h_25 : rg 1 4 v13_0_8 := r_ne_lo_i c24 hv13_0_8 (by decide) (by decide)
          refine lv_aload_n hx hb dX11_city_27 rfl (lv_at hl 0 rfl) ?_
          refine va_get (D := G) (ci := 11) (v := .ref a6) (C := RX11) (T := TX11) (N := 31) hx hb hts (by decide +kernel) hown hK.1 hP 0 rfl rfl 16 (by decide) (hts (.fieldLink RX11 31 "CardHolderModel" "lines" "[I") (by decide +kernel)) (fun _ h9 => h9) rfl dX11_city_28 ?_
          refine lv_iconst (v := 4) hx hb dX11_city_31 (by decide) ?_
          refine va_iald hx hb hK.1 hP 2 0 rfl rfl (in_lit (by decide)) dX11_city_32 ?_
          refine lv_topi (fun z32 gz32 => ?_)
          refine lv_if_ne (tgt := 61) hx hb dX11_city_33 (by decide) (fun c33 => ?_) (fun c33 => ?_)
          · refine lv_aload_n hx hb dX11_city_61 rfl (lv_at hl 0 rfl) ?_
            refine wj_callv (wr := [(a6, .inl (ct 0, 5, .inl f13_2)), (a9, .inl (ct 0, 1000, .inl f9))]) (w1 := (fun u : SU => [(a0, .inr (11, [.int 0, .ref a1, .ref a2, .ref a3, .ref a4, .ref a5, .int n0_6, .int (u.1 0), .int (u.1 1), .int (u.1 2), .int (u.1 3), .long (u.2.2 0 0), .int (u.1 4), .int (u.1 5), .int n0_14, .int n0_15, .ref a6, .ref a7, .ref a8, .ref a9, .ref a10, .ref a11, .ref a12, .ref a13, .int n0_24, .int n0_25, .int n0_26, .int n0_27, .ref a14, .int n0_29, .int n0_30])), (a5, .inl (ct 1, 900, .inl f5)), (a7, .inl (ct 0, 15, .inl (u.2.1 0))), (a8, .inl (ct 0, 200, .inl (u.2.1 1)))])) (va_runV (As := []) (rest := []) ⟨hx, hb, hml, hown, hts⟩ (a_X11_line l G ct a0 (0 : Int32) a1 a2 a3 a4 a5 n0_6 v13_0_7 v13_0_8 v13_0_9 v13_0_10 v13_0_11 v13_0_12 v13_0_13 n0_14 n0_15 a6 a7 a8 a9 a10 a11 a12 a13 n0_24 n0_25 n0_26 n0_27 a14 n0_29 n0_30 f5 f13_3 f13_4 hp_n0_6 hf13_3 hf13_4 hv13_0_7 (rg_w (c := 0) (d := 4) h_25 (by decide)) hv13_0_10 ha13) (cwV 0 hts gX11_city_X11_line rfl rfl rfl (by decide +kernel) ⟨Nat.le_of_ble_eq_true rfl, Nat.le_of_ble_eq_true rfl⟩) (wr_preV 11 0 hK (hP.sub [0, 1, 3, 4] rfl) (hD.sub [0, 1, 3, 4] (by decide) rfl) rfl rfl) rfl rfl hl.1 rfl (lv_room (Nat.le_of_ble_eq_true rfl)) dX11_city_62 ⟨Nat.zero_le _, Nat.zero_le _⟩) hS hP hD [0, 1, 3, 4] [2, 5] rfl rfl (by decide) (fun _ => rfl) (fun ur62 H locs wr62 hP hD hS => ?_)
            have hP : va_P G vwCl [(a0, .inr (11, [.int 0, .ref a1, .ref a2, .ref a3, .ref a4, .ref a5, .int n0_6, .int (ur62.1 0), .int (ur62.1 1), .int (ur62.1 2), .int (ur62.1 3), .long (ur62.2.2 0 0), .int (ur62.1 4), .int (ur62.1 5), .int n0_14, .int n0_15, .ref a6, .ref a7, .ref a8, .ref a9, .ref a10, .ref a11, .ref a12, .ref a13, .int n0_24, .int n0_25, .int n0_26, .int n0_27, .ref a14, .int n0_29, .int n0_30])), (a5, .inl (ct 1, 900, .inl f5)), (a6, .inl (ct 0, 5, .inl f13_2)), (a7, .inl (ct 0, 15, .inl (ur62.2.1 0))), (a8, .inl (ct 0, 200, .inl (ur62.2.1 1))), (a9, .inl (ct 0, 1000, .inl f9))] H := hP.sub [2, 3, 0, 4, 5, 1] rfl
            have hD : va_D A [(a0, .inr (11, [.int 0, .ref a1, .ref a2, .ref a3, .ref a4, .ref a5, .int n0_6, .int (ur62.1 0), .int (ur62.1 1), .int (ur62.1 2), .int (ur62.1 3), .long (ur62.2.2 0 0), .int (ur62.1 4), .int (ur62.1 5), .int n0_14, .int n0_15, .ref a6, .ref a7, .ref a8, .ref a9, .ref a10, .ref a11, .ref a12, .ref a13, .int n0_24, .int n0_25, .int n0_26, .int n0_27, .ref a14, .int n0_29, .int n0_30])), (a5, .inl (ct 1, 900, .inl f5)), (a6, .inl (ct 0, 5, .inl f13_2)), (a7, .inl (ct 0, 15, .inl (ur62.2.1 0))), (a8, .inl (ct 0, 200, .inl (ur62.2.1 1))), (a9, .inl (ct 0, 1000, .inl f9))] := hD.sub [2, 3, 0, 4, 5, 1] (by decide) rfl
            obtain ⟨p_26, p_27, p_28, p_29, p_30, p_31, -⟩ := wr62
            refine lv_aload_n hx hb dX11_city_65 rfl (lv_at hl 0 rfl) ?_
            refine ro_calli (va_runV (As := []) (rest := []) ⟨hx, hb, hml, hown, hts⟩ (a_X11_isGood l G ct a0 (0 : Int32) a1 a2 a3 a4 a5 n0_6 (ur62.1 0) (ur62.1 1) (ur62.1 2) (ur62.1 3) (ur62.2.2 0 0) (ur62.1 4) (ur62.1 5) n0_14 n0_15 a6 a7 a8 a9 a10 a11 a12 a13 n0_24 n0_25 n0_26 n0_27 a14 n0_29 n0_30 hp_n0_6) (cwV 0 hts gX11_city_X11_isGood rfl rfl rfl (by decide +kernel) ⟨Nat.le_of_ble_eq_true rfl, Nat.le_of_ble_eq_true rfl⟩) (ro_preV 11 0 hK (hP.sub [0] rfl) rfl rfl) rfl rfl hl.1 rfl (lv_room (Nat.le_of_ble_eq_true rfl)) dX11_city_66 ⟨Nat.zero_le _, Nat.zero_le _⟩) hS hP (fun r66 H locs wr66 hP hS => ?_)
            obtain ⟨p_32, p_33, p_34, -⟩ := wr66
            refine lv_if_eq (tgt := 76) hx hb dX11_city_69 (by decide) (fun c69 => ?_) (fun c69 => ?_)
            · have h_35 : rg 0 0 r66 := r_eq_l_i (e := 0) (f := 0) c69 p_32 (rgn 0 (x := 0) (by decide)) (by decide)
              refine lv_aload_n hx hb dX11_city_76 rfl (lv_at hl 0 rfl) ?_
              refine va_get (D := G) (ci := 11) (v := .ref a6) (C := RX11) (T := TX11) (N := 31) hx hb hts (by decide +kernel) hown hK.1 hP 0 rfl rfl 16 (by decide) (hts (.fieldLink RX11 31 "CardHolderModel" "lines" "[I") (by decide +kernel)) (fun _ h9 => h9) rfl dX11_city_77 ?_
              refine lv_iconst (v := 4) hx hb dX11_city_80 (by decide) ?_
              refine lv_dup2_11 hx hb dX11_city_81 rfl rfl ?_
              refine va_iald hx hb hK.1 hP 2 0 rfl rfl (in_lit (by decide)) dX11_city_82 ?_
              refine ix_i (y := z32) gz32.symm ?_
              refine lv_iconst (v := 1) hx hb dX11_city_83 (by decide) ?_
              refine lv_iadd hx hb dX11_city_84 ?_
              refine nm_0 (fun z84 => ?_)
              refine va_iast hx hb hK.1 hP hD hS 2 0 rfl rfl (in_lit (by decide)) dX11_city_85 (fun H locs hP hD hS => ?_)
              refine lv_goto (tgt := 13) hx hb dX11_city_86 (by decide) ?_
              exact ih13 (ur62.1 0) (ur62.1 1) (ur62.1 2) (ur62.1 3) (ur62.2.2 0 0) (ur62.1 4) (ur62.1 5) (upd f13_2 (4 : Int32).toNatClampNeg z84) (ur62.2.1 0) (ur62.2.1 1) _ _ ls ⟨by have q13 := hn13.2 (req h_19 (y := 0) (by decide)) (rne h_25 (y := 0) (c := 0) (by decide) (by decide)); have := hv13_0_7; omega, fun hb _ => absurd hb (p_34 (req h_35 (y := 0) (by decide)))⟩ p_28 p_29 p_30 p_26 p_27 p_31.2 hP hD hS (lv_sub hl [0] rfl)
            · have h_36 : rg 1 1 r66 := r_ne_lo_i c69 p_32 (by decide) (by decide)
              have h_37 : rg 0 0 (ur62.1 4) := (p_33 (rne h_36 (y := 0) (c := 0) (by decide) (by decide)))
              refine lv_aload_n hx hb dX11_city_72 rfl (lv_at hl 0 rfl) ?_
              refine wj_callv (wr := [(a6, .inl (ct 0, 5, .inl f13_2)), (a7, .inl (ct 0, 15, .inl (ur62.2.1 0))), (a8, .inl (ct 0, 200, .inl (ur62.2.1 1))), (a9, .inl (ct 0, 1000, .inl f9))]) (w1 := (fun u : SU => [(a0, .inr (11, [.int 0, .ref a1, .ref a2, .ref a3, .ref a4, .ref a5, .int n0_6, .int (u.1 0), .int (u.1 1), .int (u.1 2), .int (u.1 3), .long (u.2.2 0 0), .int (u.1 4), .int (u.1 5), .int n0_14, .int n0_15, .ref a6, .ref a7, .ref a8, .ref a9, .ref a10, .ref a11, .ref a12, .ref a13, .int n0_24, .int n0_25, .int n0_26, .int n0_27, .ref a14, .int n0_29, .int n0_30])), (a5, .inl (ct 1, 900, .inl f5))])) (va_runV (As := []) (rest := []) ⟨hx, hb, hml, hown, hts⟩ (a_X11_ends l G ct a0 (0 : Int32) a1 a2 a3 a4 a5 n0_6 (ur62.1 0) (ur62.1 1) (ur62.1 2) (ur62.1 3) (ur62.2.2 0 0) (ur62.1 4) (ur62.1 5) n0_14 n0_15 a6 a7 a8 a9 a10 a11 a12 a13 n0_24 n0_25 n0_26 n0_27 a14 n0_29 n0_30 f5 hp_n0_6 p_28 p_29 p_30 p_31.2) (cwV 0 hts gX11_city_X11_ends rfl rfl rfl (by decide +kernel) ⟨Nat.le_of_ble_eq_true rfl, Nat.le_of_ble_eq_true rfl⟩) (wr_preV 11 0 hK (hP.sub [0, 1] rfl) (hD.sub [0, 1] (by decide) rfl) rfl rfl) rfl rfl hl.1 rfl (lv_room (Nat.le_of_ble_eq_true rfl)) dX11_city_73 ⟨Nat.zero_le _, Nat.zero_le _⟩) hS hP hD [0, 1] [2, 3, 4, 5] rfl rfl (by decide) (fun _ => rfl) (fun ur73 H locs wr73 hP hD hS => ?_)
              have hP : va_P G vwCl [(a0, .inr (11, [.int 0, .ref a1, .ref a2, .ref a3, .ref a4, .ref a5, .int n0_6, .int (ur73.1 0), .int (ur73.1 1), .int (ur73.1 2), .int (ur73.1 3), .long (ur73.2.2 0 0), .int (ur73.1 4), .int (ur73.1 5), .int n0_14, .int n0_15, .ref a6, .ref a7, .ref a8, .ref a9, .ref a10, .ref a11, .ref a12, .ref a13, .int n0_24, .int n0_25, .int n0_26, .int n0_27, .ref a14, .int n0_29, .int n0_30])), (a5, .inl (ct 1, 900, .inl f5)), (a6, .inl (ct 0, 5, .inl f13_2)), (a7, .inl (ct 0, 15, .inl (ur62.2.1 0))), (a8, .inl (ct 0, 200, .inl (ur62.2.1 1))), (a9, .inl (ct 0, 1000, .inl f9))] H := hP.sub [4, 5, 0, 1, 2, 3] rfl
              have hD : va_D A [(a0, .inr (11, [.int 0, .ref a1, .ref a2, .ref a3, .ref a4, .ref a5, .int n0_6, .int (ur73.1 0), .int (ur73.1 1), .int (ur73.1 2), .int (ur73.1 3), .long (ur73.2.2 0 0), .int (ur73.1 4), .int (ur73.1 5), .int n0_14, .int n0_15, .ref a6, .ref a7, .ref a8, .ref a9, .ref a10, .ref a11, .ref a12, .ref a13, .int n0_24, .int n0_25, .int n0_26, .int n0_27, .ref a14, .int n0_29, .int n0_30])), (a5, .inl (ct 1, 900, .inl f5)), (a6, .inl (ct 0, 5, .inl f13_2)), (a7, .inl (ct 0, 15, .inl (ur62.2.1 0))), (a8, .inl (ct 0, 200, .inl (ur62.2.1 1))), (a9, .inl (ct 0, 1000, .inl f9))] := hD.sub [4, 5, 0, 1, 2, 3] (by decide) rfl
              obtain ⟨p_38, p_39, p_40, p_41, -⟩ := wr73
              refine lv_aload_n hx hb dX11_city_76 rfl (lv_at hl 0 rfl) ?_
              refine va_get (D := G) (ci := 11) (v := .ref a6) (C := RX11) (T := TX11) (N := 31) hx hb hts (by decide +kernel) hown hK.1 hP 0 rfl rfl 16 (by decide) (hts (.fieldLink RX11 31 "CardHolderModel" "lines" "[I") (by decide +kernel)) (fun _ h9 => h9) rfl dX11_city_77 ?_
              refine lv_iconst (v := 4) hx hb dX11_city_80 (by decide) ?_
              refine lv_dup2_11 hx hb dX11_city_81 rfl rfl ?_
              refine va_iald hx hb hK.1 hP 2 0 rfl rfl (in_lit (by decide)) dX11_city_82 ?_
              refine ix_i (y := z32) gz32.symm ?_
              refine lv_iconst (v := 1) hx hb dX11_city_83 (by decide) ?_
              refine lv_iadd hx hb dX11_city_84 ?_
              refine nm_0 (fun z84 => ?_)
              refine va_iast hx hb hK.1 hP hD hS 2 0 rfl rfl (in_lit (by decide)) dX11_city_85 (fun H locs hP hD hS => ?_)
              refine lv_goto (tgt := 13) hx hb dX11_city_86 (by decide) ?_
              exact ih13 (ur73.1 0) (ur73.1 1) (ur73.1 2) (ur73.1 3) (ur73.2.2 0 0) (ur73.1 4) (ur73.1 5) (upd f13_2 (4 : Int32).toNatClampNeg z84) (ur62.2.1 0) (ur62.2.1 1) _ _ ls ⟨by have q13 := hn13.2 (req h_19 (y := 0) (by decide)) (rne h_25 (y := 0) (c := 0) (by decide) (by decide)); have := hv13_0_7; omega, fun hb ht => by have q13 := hn13.2 (req h_19 (y := 0) (by decide)) (rne h_25 (y := 0) (c := 0) (by decide) (by decide)); have := p_41.2.2 hb ht; have := (Int.le_trans (Int.le_refl _) p_31.1); omega⟩ p_38 p_39 p_40 p_26 p_27 p_41.2.1 hP hD hS (lv_sub hl [0] rfl)
          · have h_42 : rg 0 0 z32 := r_eq_l_i (e := 0) (f := 0) c33 (rg_t z32) (rgn 0 (x := 0) (by decide)) (by decide)
            refine lv_aload_n hx hb dX11_city_36 rfl (lv_at hl 0 rfl) ?_
            refine lv_ldc2 (own := RX11) (v := 66175) hx hb hown (hts (.constantLong RX11 186 (66175)) (by decide +kernel)) dX11_city_37 ?_
            refine wj_callv (wr := [(a6, .inl (ct 0, 5, .inl f13_2)), (a7, .inl (ct 0, 15, .inl f13_3)), (a8, .inl (ct 0, 200, .inl f13_4)), (a9, .inl (ct 0, 1000, .inl f9))]) (w1 := (fun u : SU => [(a0, .inr (11, [.int 0, .ref a1, .ref a2, .ref a3, .ref a4, .ref a5, .int n0_6, .int (u.1 0), .int (u.1 1), .int (u.1 2), .int (u.1 3), .long (u.2.2 0 0), .int (u.1 4), .int (u.1 5), .int n0_14, .int n0_15, .ref a6, .ref a7, .ref a8, .ref a9, .ref a10, .ref a11, .ref a12, .ref a13, .int n0_24, .int n0_25, .int n0_26, .int n0_27, .ref a14, .int n0_29, .int n0_30])), (a5, .inl (ct 1, 900, .inl f5))])) (va_runV (As := [.long 66175]) (rest := []) ⟨hx, hb, hml, hown, hts⟩ (a_X11_asks l G ct a0 (0 : Int32) a1 a2 a3 a4 a5 n0_6 v13_0_7 v13_0_8 v13_0_9 v13_0_10 v13_0_11 v13_0_12 v13_0_13 n0_14 n0_15 a6 a7 a8 a9 a10 a11 a12 a13 n0_24 n0_25 n0_26 n0_27 a14 n0_29 n0_30 f5 (66175 : Int64) hp_n0_6 hv13_0_7 (rg_w (c := 0) (d := 4) h_25 (by decide)) hv13_0_10 ha13) (cwV 1 hts gX11_city_X11_asks rfl rfl rfl (by decide +kernel) ⟨Nat.le_of_ble_eq_true rfl, Nat.le_of_ble_eq_true rfl⟩) (wr_preV 11 0 hK (hP.sub [0, 1] rfl) (hD.sub [0, 1] (by decide) rfl) rfl rfl) rfl rfl hl.1 rfl (lv_room (Nat.le_of_ble_eq_true rfl)) dX11_city_40 ⟨Nat.zero_le _, Nat.zero_le _⟩) hS hP hD [0, 1] [2, 3, 4, 5] rfl rfl (by decide) (fun _ => rfl) (fun ur40 H locs wr40 hP hD hS => ?_)
            have hP : va_P G vwCl [(a0, .inr (11, [.int 0, .ref a1, .ref a2, .ref a3, .ref a4, .ref a5, .int n0_6, .int (ur40.1 0), .int (ur40.1 1), .int (ur40.1 2), .int (ur40.1 3), .long (ur40.2.2 0 0), .int (ur40.1 4), .int (ur40.1 5), .int n0_14, .int n0_15, .ref a6, .ref a7, .ref a8, .ref a9, .ref a10, .ref a11, .ref a12, .ref a13, .int n0_24, .int n0_25, .int n0_26, .int n0_27, .ref a14, .int n0_29, .int n0_30])), (a5, .inl (ct 1, 900, .inl f5)), (a6, .inl (ct 0, 5, .inl f13_2)), (a7, .inl (ct 0, 15, .inl f13_3)), (a8, .inl (ct 0, 200, .inl f13_4)), (a9, .inl (ct 0, 1000, .inl f9))] H := hP.sub [4, 5, 0, 1, 2, 3] rfl
            have hD : va_D A [(a0, .inr (11, [.int 0, .ref a1, .ref a2, .ref a3, .ref a4, .ref a5, .int n0_6, .int (ur40.1 0), .int (ur40.1 1), .int (ur40.1 2), .int (ur40.1 3), .long (ur40.2.2 0 0), .int (ur40.1 4), .int (ur40.1 5), .int n0_14, .int n0_15, .ref a6, .ref a7, .ref a8, .ref a9, .ref a10, .ref a11, .ref a12, .ref a13, .int n0_24, .int n0_25, .int n0_26, .int n0_27, .ref a14, .int n0_29, .int n0_30])), (a5, .inl (ct 1, 900, .inl f5)), (a6, .inl (ct 0, 5, .inl f13_2)), (a7, .inl (ct 0, 15, .inl f13_3)), (a8, .inl (ct 0, 200, .inl f13_4)), (a9, .inl (ct 0, 1000, .inl f9))] := hD.sub [4, 5, 0, 1, 2, 3] (by decide) rfl
            obtain ⟨p_43, p_44, p_45, p_46, -⟩ := wr40
            refine lv_aload_n hx hb dX11_city_43 rfl (lv_at hl 0 rfl) ?_
            refine lv_iconst (v := 0) hx hb dX11_city_44 (by decide) ?_
            refine lv_aload_n hx hb dX11_city_45 rfl (lv_at hl 0 rfl) ?_
            refine lv_ldc2 (own := RX11) (v := 456399) hx hb hown (hts (.constantLong RX11 188 (456399)) (by decide +kernel)) dX11_city_46 ?_
            refine lv_iconst (v := 1) hx hb dX11_city_49 (by decide) ?_
            refine lv_bipush (v := 9) hx hb dX11_city_50 (by decide) ?_
            refine wj_calli (wr := [(a6, .inl (ct 0, 5, .inl f13_2)), (a7, .inl (ct 0, 15, .inl f13_3)), (a8, .inl (ct 0, 200, .inl f13_4)), (a9, .inl (ct 0, 1000, .inl f9))]) (w1 := (fun u : SU => [(a0, .inr (11, [.int 0, .ref a1, .ref a2, .ref a3, .ref a4, .ref a5, .int n0_6, .int (u.1 0), .int (u.1 1), .int (u.1 2), .int (u.1 3), .long (u.2.2 0 0), .int (u.1 4), .int (u.1 5), .int n0_14, .int n0_15, .ref a6, .ref a7, .ref a8, .ref a9, .ref a10, .ref a11, .ref a12, .ref a13, .int n0_24, .int n0_25, .int n0_26, .int n0_27, .ref a14, .int n0_29, .int n0_30])), (a5, .inl (ct 1, 900, .inl f5))])) (va_runV (As := [.long 456399, .int 1, .int 9]) (rest := [.int 0, .ref a0]) ⟨hx, hb, hml, hown, hts⟩ (a_X11_numberw9 l G ct a0 (0 : Int32) a1 a2 a3 a4 a5 n0_6 (ur40.1 0) (ur40.1 1) (ur40.1 2) (ur40.1 3) (ur40.2.2 0 0) (ur40.1 4) (ur40.1 5) n0_14 n0_15 a6 a7 a8 a9 a10 a11 a12 a13 n0_24 n0_25 n0_26 n0_27 a14 n0_29 n0_30 f5 (456399 : Int64) hp_n0_6 p_43 p_44 p_45 p_46.2) (cwV 3 hts gX11_city_X11_number_ rfl rfl rfl (by decide +kernel) ⟨Nat.le_of_ble_eq_true rfl, Nat.le_of_ble_eq_true rfl⟩) (wr_preV 11 0 hK (hP.sub [0, 1] rfl) (hD.sub [0, 1] (by decide) rfl) rfl rfl) rfl rfl hl.1 rfl (lv_room (Nat.le_of_ble_eq_true rfl)) dX11_city_52 ⟨Nat.zero_le _, Nat.zero_le _⟩) hS hP hD [0, 1] [2, 3, 4, 5] rfl rfl (by decide) (fun _ => rfl) (fun r52 ur52 H locs wr52 hP hD hS => ?_)
            have hP : va_P G vwCl [(a0, .inr (11, [.int 0, .ref a1, .ref a2, .ref a3, .ref a4, .ref a5, .int n0_6, .int (ur52.1 0), .int (ur52.1 1), .int (ur52.1 2), .int (ur52.1 3), .long (ur52.2.2 0 0), .int (ur52.1 4), .int (ur52.1 5), .int n0_14, .int n0_15, .ref a6, .ref a7, .ref a8, .ref a9, .ref a10, .ref a11, .ref a12, .ref a13, .int n0_24, .int n0_25, .int n0_26, .int n0_27, .ref a14, .int n0_29, .int n0_30])), (a5, .inl (ct 1, 900, .inl f5)), (a6, .inl (ct 0, 5, .inl f13_2)), (a7, .inl (ct 0, 15, .inl f13_3)), (a8, .inl (ct 0, 200, .inl f13_4)), (a9, .inl (ct 0, 1000, .inl f9))] H := hP.sub [4, 5, 0, 1, 2, 3] rfl
            have hD : va_D A [(a0, .inr (11, [.int 0, .ref a1, .ref a2, .ref a3, .ref a4, .ref a5, .int n0_6, .int (ur52.1 0), .int (ur52.1 1), .int (ur52.1 2), .int (ur52.1 3), .long (ur52.2.2 0 0), .int (ur52.1 4), .int (ur52.1 5), .int n0_14, .int n0_15, .ref a6, .ref a7, .ref a8, .ref a9, .ref a10, .ref a11, .ref a12, .ref a13, .int n0_24, .int n0_25, .int n0_26, .int n0_27, .ref a14, .int n0_29, .int n0_30])), (a5, .inl (ct 1, 900, .inl f5)), (a6, .inl (ct 0, 5, .inl f13_2)), (a7, .inl (ct 0, 15, .inl f13_3)), (a8, .inl (ct 0, 200, .inl f13_4)), (a9, .inl (ct 0, 1000, .inl f9))] := hD.sub [4, 5, 0, 1, 2, 3] (by decide) rfl
            obtain ⟨p_47, p_48, p_49, p_50, p_51, -⟩ := wr52
            refine wj_callv (wr := [(a5, .inl (ct 1, 900, .inl f5)), (a6, .inl (ct 0, 5, .inl f13_2)), (a8, .inl (ct 0, 200, .inl f13_4)), (a9, .inl (ct 0, 1000, .inl f9))]) (w1 := (fun u : SU => [(a0, .inr (11, [.int 0, .ref a1, .ref a2, .ref a3, .ref a4, .ref a5, .int n0_6, .int (ur52.1 0), .int (ur52.1 1), .int (ur52.1 2), .int (ur52.1 3), .long (ur52.2.2 0 0), .int (ur52.1 4), .int (ur52.1 5), .int n0_14, .int n0_15, .ref a6, .ref a7, .ref a8, .ref a9, .ref a10, .ref a11, .ref a12, .ref a13, .int n0_24, .int n0_25, .int n0_26, .int n0_27, .ref a14, .int n0_29, .int n0_30])), (a7, .inl (ct 0, 15, .inl (u.2.1 0)))])) (va_runV (As := [.int 0, .int r52]) (rest := []) ⟨hx, hb, hml, hown, hts⟩ (a_X11_tells0 l G ct a0 (0 : Int32) a1 a2 a3 a4 a5 n0_6 (ur52.1 0) (ur52.1 1) (ur52.1 2) (ur52.1 3) (ur52.2.2 0 0) (ur52.1 4) (ur52.1 5) n0_14 n0_15 a6 a7 a8 a9 a10 a11 a12 a13 n0_24 n0_25 n0_26 n0_27 a14 n0_29 n0_30 f13_3 r52 hp_n0_6 hf13_3) (cwV 2 hts gX11_city_X11_tells rfl rfl rfl (by decide +kernel) ⟨Nat.le_of_ble_eq_true rfl, Nat.le_of_ble_eq_true rfl⟩) (wr_preV 11 0 hK (hP.sub [0, 3] rfl) (hD.sub [0, 3] (by decide) rfl) rfl rfl) rfl rfl hl.1 rfl (lv_room (Nat.le_of_ble_eq_true rfl)) dX11_city_55 ⟨Nat.zero_le _, Nat.zero_le _⟩) hS hP hD [0, 3] [1, 2, 4, 5] rfl rfl (by decide) (fun _ => rfl) (fun ur55 H locs wr55 hP hD hS => ?_)
            have hP : va_P G vwCl [(a0, .inr (11, [.int 0, .ref a1, .ref a2, .ref a3, .ref a4, .ref a5, .int n0_6, .int (ur52.1 0), .int (ur52.1 1), .int (ur52.1 2), .int (ur52.1 3), .long (ur52.2.2 0 0), .int (ur52.1 4), .int (ur52.1 5), .int n0_14, .int n0_15, .ref a6, .ref a7, .ref a8, .ref a9, .ref a10, .ref a11, .ref a12, .ref a13, .int n0_24, .int n0_25, .int n0_26, .int n0_27, .ref a14, .int n0_29, .int n0_30])), (a5, .inl (ct 1, 900, .inl f5)), (a6, .inl (ct 0, 5, .inl f13_2)), (a7, .inl (ct 0, 15, .inl (ur55.2.1 0))), (a8, .inl (ct 0, 200, .inl f13_4)), (a9, .inl (ct 0, 1000, .inl f9))] H := hP.sub [4, 0, 1, 5, 2, 3] rfl
            have hD : va_D A [(a0, .inr (11, [.int 0, .ref a1, .ref a2, .ref a3, .ref a4, .ref a5, .int n0_6, .int (ur52.1 0), .int (ur52.1 1), .int (ur52.1 2), .int (ur52.1 3), .long (ur52.2.2 0 0), .int (ur52.1 4), .int (ur52.1 5), .int n0_14, .int n0_15, .ref a6, .ref a7, .ref a8, .ref a9, .ref a10, .ref a11, .ref a12, .ref a13, .int n0_24, .int n0_25, .int n0_26, .int n0_27, .ref a14, .int n0_29, .int n0_30])), (a5, .inl (ct 1, 900, .inl f5)), (a6, .inl (ct 0, 5, .inl f13_2)), (a7, .inl (ct 0, 15, .inl (ur55.2.1 0))), (a8, .inl (ct 0, 200, .inl f13_4)), (a9, .inl (ct 0, 1000, .inl f9))] := hD.sub [4, 0, 1, 5, 2, 3] (by decide) rfl
            obtain ⟨p_52, -⟩ := wr55
            refine lv_goto (tgt := 65) hx hb dX11_city_58 (by decide) ?_
            refine lv_aload_n hx hb dX11_city_65 rfl (lv_at hl 0 rfl) ?_
            refine ro_calli (va_runV (As := []) (rest := []) ⟨hx, hb, hml, hown, hts⟩ (a_X11_isGood l G ct a0 (0 : Int32) a1 a2 a3 a4 a5 n0_6 (ur52.1 0) (ur52.1 1) (ur52.1 2) (ur52.1 3) (ur52.2.2 0 0) (ur52.1 4) (ur52.1 5) n0_14 n0_15 a6 a7 a8 a9 a10 a11 a12 a13 n0_24 n0_25 n0_26 n0_27 a14 n0_29 n0_30 hp_n0_6) (cwV 0 hts gX11_city_X11_isGood rfl rfl rfl (by decide +kernel) ⟨Nat.le_of_ble_eq_true rfl, Nat.le_of_ble_eq_true rfl⟩) (ro_preV 11 0 hK (hP.sub [0] rfl) rfl rfl) rfl rfl hl.1 rfl (lv_room (Nat.le_of_ble_eq_true rfl)) dX11_city_66 ⟨Nat.zero_le _, Nat.zero_le _⟩) hS hP (fun r66 H locs wr66 hP hS => ?_)
            obtain ⟨p_53, p_54, p_55, -⟩ := wr66
            refine lv_if_eq (tgt := 76) hx hb dX11_city_69 (by decide) (fun c69 => ?_) (fun c69 => ?_)
            · have h_56 : rg 0 0 r66 := r_eq_l_i (e := 0) (f := 0) c69 p_53 (rgn 0 (x := 0) (by decide)) (by decide)
              refine lv_aload_n hx hb dX11_city_76 rfl (lv_at hl 0 rfl) ?_
              refine va_get (D := G) (ci := 11) (v := .ref a6) (C := RX11) (T := TX11) (N := 31) hx hb hts (by decide +kernel) hown hK.1 hP 0 rfl rfl 16 (by decide) (hts (.fieldLink RX11 31 "CardHolderModel" "lines" "[I") (by decide +kernel)) (fun _ h9 => h9) rfl dX11_city_77 ?_
              refine lv_iconst (v := 4) hx hb dX11_city_80 (by decide) ?_
              refine lv_dup2_11 hx hb dX11_city_81 rfl rfl ?_
              refine va_iald hx hb hK.1 hP 2 0 rfl rfl (in_lit (by decide)) dX11_city_82 ?_
              refine ix_i (y := z32) gz32.symm ?_
              refine lv_iconst (v := 1) hx hb dX11_city_83 (by decide) ?_
              refine lv_iadd hx hb dX11_city_84 ?_
              refine nm_add (e1 := 1) (f := 1) h_42 (rgn 1 (x := 1) (by decide)) (by decide) (fun z84 hz84 ez84 => ?_)
              replace ez84 := eqc_r ez84 (c := 1) (by decide)
              refine va_iast hx hb hK.1 hP hD hS 2 0 rfl rfl (in_lit (by decide)) dX11_city_85 (fun H locs hP hD hS => ?_)
              refine lv_goto (tgt := 13) hx hb dX11_city_86 (by decide) ?_
              exact ih13 (ur52.1 0) (ur52.1 1) (ur52.1 2) (ur52.1 3) (ur52.2.2 0 0) (ur52.1 4) (ur52.1 5) (upd f13_2 (4 : Int32).toNatClampNeg z84) (ur55.2.1 0) f13_4 _ _ ls ⟨by have q13 := hn13.2 (req h_19 (y := 0) (by decide)) (rne h_25 (y := 0) (c := 0) (by decide) (by decide)); have := hv13_0_7; omega, fun hb _ => absurd hb (p_55 (req h_56 (y := 0) (by decide)))⟩ p_48 p_49 p_50 p_52 hf13_4 p_51.2 hP hD hS (lv_sub hl [0] rfl)
            · have h_57 : rg 1 1 r66 := r_ne_lo_i c69 p_53 (by decide) (by decide)
              have h_58 : rg 0 0 (ur52.1 4) := (p_54 (rne h_57 (y := 0) (c := 0) (by decide) (by decide)))
              refine lv_aload_n hx hb dX11_city_72 rfl (lv_at hl 0 rfl) ?_
              refine wj_callv (wr := [(a6, .inl (ct 0, 5, .inl f13_2)), (a7, .inl (ct 0, 15, .inl (ur55.2.1 0))), (a8, .inl (ct 0, 200, .inl f13_4)), (a9, .inl (ct 0, 1000, .inl f9))]) (w1 := (fun u : SU => [(a0, .inr (11, [.int 0, .ref a1, .ref a2, .ref a3, .ref a4, .ref a5, .int n0_6, .int (u.1 0), .int (u.1 1), .int (u.1 2), .int (u.1 3), .long (u.2.2 0 0), .int (u.1 4), .int (u.1 5), .int n0_14, .int n0_15, .ref a6, .ref a7, .ref a8, .ref a9, .ref a10, .ref a11, .ref a12, .ref a13, .int n0_24, .int n0_25, .int n0_26, .int n0_27, .ref a14, .int n0_29, .int n0_30])), (a5, .inl (ct 1, 900, .inl f5))])) (va_runV (As := []) (rest := []) ⟨hx, hb, hml, hown, hts⟩ (a_X11_ends l G ct a0 (0 : Int32) a1 a2 a3 a4 a5 n0_6 (ur52.1 0) (ur52.1 1) (ur52.1 2) (ur52.1 3) (ur52.2.2 0 0) (ur52.1 4) (ur52.1 5) n0_14 n0_15 a6 a7 a8 a9 a10 a11 a12 a13 n0_24 n0_25 n0_26 n0_27 a14 n0_29 n0_30 f5 hp_n0_6 p_48 p_49 p_50 p_51.2) (cwV 0 hts gX11_city_X11_ends rfl rfl rfl (by decide +kernel) ⟨Nat.le_of_ble_eq_true rfl, Nat.le_of_ble_eq_true rfl⟩) (wr_preV 11 0 hK (hP.sub [0, 1] rfl) (hD.sub [0, 1] (by decide) rfl) rfl rfl) rfl rfl hl.1 rfl (lv_room (Nat.le_of_ble_eq_true rfl)) dX11_city_73 ⟨Nat.zero_le _, Nat.zero_le _⟩) hS hP hD [0, 1] [2, 3, 4, 5] rfl rfl (by decide) (fun _ => rfl) (fun ur73 H locs wr73 hP hD hS => ?_)
              have hP : va_P G vwCl [(a0, .inr (11, [.int 0, .ref a1, .ref a2, .ref a3, .ref a4, .ref a5, .int n0_6, .int (ur73.1 0), .int (ur73.1 1), .int (ur73.1 2), .int (ur73.1 3), .long (ur73.2.2 0 0), .int (ur73.1 4), .int (ur73.1 5), .int n0_14, .int n0_15, .ref a6, .ref a7, .ref a8, .ref a9, .ref a10, .ref a11, .ref a12, .ref a13, .int n0_24, .int n0_25, .int n0_26, .int n0_27, .ref a14, .int n0_29, .int n0_30])), (a5, .inl (ct 1, 900, .inl f5)), (a6, .inl (ct 0, 5, .inl f13_2)), (a7, .inl (ct 0, 15, .inl (ur55.2.1 0))), (a8, .inl (ct 0, 200, .inl f13_4)), (a9, .inl (ct 0, 1000, .inl f9))] H := hP.sub [4, 5, 0, 1, 2, 3] rfl
              have hD : va_D A [(a0, .inr (11, [.int 0, .ref a1, .ref a2, .ref a3, .ref a4, .ref a5, .int n0_6, .int (ur73.1 0), .int (ur73.1 1), .int (ur73.1 2), .int (ur73.1 3), .long (ur73.2.2 0 0), .int (ur73.1 4), .int (ur73.1 5), .int n0_14, .int n0_15, .ref a6, .ref a7, .ref a8, .ref a9, .ref a10, .ref a11, .ref a12, .ref a13, .int n0_24, .int n0_25, .int n0_26, .int n0_27, .ref a14, .int n0_29, .int n0_30])), (a5, .inl (ct 1, 900, .inl f5)), (a6, .inl (ct 0, 5, .inl f13_2)), (a7, .inl (ct 0, 15, .inl (ur55.2.1 0))), (a8, .inl (ct 0, 200, .inl f13_4)), (a9, .inl (ct 0, 1000, .inl f9))] := hD.sub [4, 5, 0, 1, 2, 3] (by decide) rfl
              obtain ⟨p_59, p_60, p_61, p_62, -⟩ := wr73
              refine lv_aload_n hx hb dX11_city_76 rfl (lv_at hl 0 rfl) ?_
              refine va_get (D := G) (ci := 11) (v := .ref a6) (C := RX11) (T := TX11) (N := 31) hx hb hts (by decide +kernel) hown hK.1 hP 0 rfl rfl 16 (by decide) (hts (.fieldLink RX11 31 "CardHolderModel" "lines" "[I") (by decide +kernel)) (fun _ h9 => h9) rfl dX11_city_77 ?_
              refine lv_iconst (v := 4) hx hb dX11_city_80 (by decide) ?_
              refine lv_dup2_11 hx hb dX11_city_81 rfl rfl ?_
              refine va_iald hx hb hK.1 hP 2 0 rfl rfl (in_lit (by decide)) dX11_city_82 ?_
              refine ix_i (y := z32) gz32.symm ?_
              refine lv_iconst (v := 1) hx hb dX11_city_83 (by decide) ?_
              refine lv_iadd hx hb dX11_city_84 ?_
              refine nm_add (e1 := 1) (f := 1) h_42 (rgn 1 (x := 1) (by decide)) (by decide) (fun z84 hz84 ez84 => ?_)
              replace ez84 := eqc_r ez84 (c := 1) (by decide)
              refine va_iast hx hb hK.1 hP hD hS 2 0 rfl rfl (in_lit (by decide)) dX11_city_85 (fun H locs hP hD hS => ?_)
              refine lv_goto (tgt := 13) hx hb dX11_city_86 (by decide) ?_
              exact ih13 (ur73.1 0) (ur73.1 1) (ur73.1 2) (ur73.1 3) (ur73.2.2 0 0) (ur73.1 4) (ur73.1 5) (upd f13_2 (4 : Int32).toNatClampNeg z84) (ur55.2.1 0) f13_4 _ _ ls ⟨by have q13 := hn13.2 (req h_19 (y := 0) (by decide)) (rne h_25 (y := 0) (c := 0) (by decide) (by decide)); have := hv13_0_7; omega, fun hb ht => by have q13 := hn13.2 (req h_19 (y := 0) (by decide)) (rne h_25 (y := 0) (c := 0) (by decide) (by decide)); have := p_62.2.2 hb ht; have := (Int.le_trans (Int.le_trans (Int.le_refl _) p_46.1) p_51.1); omega⟩ p_59 p_60 p_61 p_52 hf13_4 p_62.2.1 hP hD hS (lv_sub hl [0] rfl)
  exact j13 1000 (ur10.1 0) (ur10.1 1) (ur10.1 2) (ur10.1 3) (ur10.2.2 0 0) (ur10.1 4) (ur10.1 5) (ur6.2.1 0) (ur6.2.1 1) f8 _ _ ls ⟨by decide, fun _ _ => by have := p_2.1; omega⟩ p_2 p_3 p_5 p_1 hp_f8 p_8 hP hD hS (lv_sub hl [0] rfl)

set_option maxHeartbeats 4000000 in
set_option maxRecDepth 100000 in
theorem a_X11_paste (l : Launch) (G : va_G) (ct : Nat → ClassId) (a0 : Nat) (n0_0 : Int32) (a1 : Nat) (a2 : Nat) (a3 : Nat) (a4 : Nat) (a5 : Nat) (n0_6 : Int32) (n0_7 : Int32) (n0_8 : Int32) (n0_9 : Int32) (n0_10 : Int32) (l0_11 : Int64) (n0_12 : Int32) (n0_13 : Int32) (n0_14 : Int32) (n0_15 : Int32) (a6 : Nat) (a7 : Nat) (a8 : Nat) (a9 : Nat) (a10 : Nat) (a11 : Nat) (a12 : Nat) (a13 : Nat) (n0_24 : Int32) (n0_25 : Int32) (n0_26 : Int32) (n0_27 : Int32) (a14 : Nat) (n0_29 : Int32) (n0_30 : Int32) (f1 : Nat → Int32) (f2 : Nat → Int32) (f3 : Nat → Int64) (f4 : Nat → Int64) (p0 : Int32) (p1 : Int32) (p2 : Int32) (p3 : Int32) (p4 : Int32) (hp_f2 : ar 0 60 f2) (hp_n0_6 : rg 0 900 n0_6) : Met l yX11_paste wsX11_paste ({ frames := 2, cells := 0, slots := 0, locals := 45 }) (va_Pc [.ref a0, .int p0, .int p1, .int p2, .int p3, .int p4] (wrP G ct [(a0, .inr (11, [.int n0_0, .ref a1, .ref a2, .ref a3, .ref a4, .ref a5, .int n0_6, .int n0_7, .int n0_8, .int n0_9, .int n0_10, .long l0_11, .int n0_12, .int n0_13, .int n0_14, .int n0_15, .ref a6, .ref a7, .ref a8, .ref a9, .ref a10, .ref a11, .ref a12, .ref a13, .int n0_24, .int n0_25, .int n0_26, .int n0_27, .ref a14, .int n0_29, .int n0_30])), (a1, .inl (ct 0, 4, .inl f1)), (a2, .inl (ct 0, 4, .inl f2)), (a3, .inl (ct 3, 240, .inr (.inl f3))), (a4, .inl (ct 3, 60, .inr (.inl f4)))])) (va_Qi (fun (r : Int32) (u : SU) => rg (-8) 0 r ∧ (r = 0 → rg 0 3 p0) ∧ (¬ r = (-2) → rg 0 3 p0) ∧ (r = 0 → rg 0 60 p1) ∧ (r = 0 → rg 0 3 p2) ∧ (¬ r = (-2) → rg 0 3 p2) ∧ (r = 0 → rg 0 60 p3) ∧ (r = 0 → rg 0 60 p4) ∧ rg 0 0 (u.1 0) ∧ True) (fun u t => va_P G vwCl ((fun u : SU => [(a0, .inr (11, [.int (u.1 0), .ref a1, .ref a2, .ref a3, .ref a4, .ref a5, .int n0_6, .int n0_7, .int n0_8, .int n0_9, .int n0_10, .long l0_11, .int n0_12, .int n0_13, .int n0_14, .int n0_15, .ref a6, .ref a7, .ref a8, .ref a9, .ref a10, .ref a11, .ref a12, .ref a13, .int n0_24, .int n0_25, .int n0_26, .int n0_27, .ref a14, .int n0_29, .int n0_30])), (a1, .inl (ct 0, 4, .inl f1)), (a2, .inl (ct 0, 4, .inl f2)), (a3, .inl (ct 3, 240, .inr (.inl (u.2.2 0)))), (a4, .inl (ct 3, 60, .inr (.inl (u.2.2 1))))]) u) t.heap) (aset [(a0, .inr (11, [.int n0_0, .ref a1, .ref a2, .ref a3, .ref a4, .ref a5, .int n0_6, .int n0_7, .int n0_8, .int n0_9, .int n0_10, .long l0_11, .int n0_12, .int n0_13, .int n0_14, .int n0_15, .ref a6, .ref a7, .ref a8, .ref a9, .ref a10, .ref a11, .ref a12, .ref a13, .int n0_24, .int n0_25, .int n0_26, .int n0_27, .ref a14, .int n0_29, .int n0_30])), (a1, .inl (ct 0, 4, .inl f1)), (a2, .inl (ct 0, 4, .inl f2)), (a3, .inl (ct 3, 240, .inr (.inl f3))), (a4, .inl (ct 3, 60, .inr (.inl f4)))])) 0 0 (aset [(a0, .inr (11, [.int n0_0, .ref a1, .ref a2, .ref a3, .ref a4, .ref a5, .int n0_6, .int n0_7, .int n0_8, .int n0_9, .int n0_10, .long l0_11, .int n0_12, .int n0_13, .int n0_14, .int n0_15, .ref a6, .ref a7, .ref a8, .ref a9, .ref a10, .ref a11, .ref a12, .ref a13, .int n0_24, .int n0_25, .int n0_26, .int n0_27, .ref a14, .int n0_29, .int n0_30])), (a1, .inl (ct 0, 4, .inl f1)), (a2, .inl (ct 0, 4, .inl f2)), (a3, .inl (ct 3, 240, .inr (.inl f3))), (a4, .inl (ct 3, 60, .inr (.inl f4)))]) := by
  refine Met.ofW (cc := cX11_paste) (maxL := 7) (ret := (some .int)) (by decide) rfl ?_
  intro p e s m args below meth c s₁ B hml hv
  obtain ⟨rfl, hP, hK, hD0⟩ := hv
  have hx := B.exec
  have hb := B.bytes
  have hr := B.returns
  have hts := atoms_spec (ws := wsX11_paste) B.pre
  have hown : s.vm.findClass RX11 = some m.cls := findClass_of_methodNamed B.named
  have hlocks := B.notSynchronized
  have hD := hD0.aself
  generalize hAe : aset [(a0, .inr (11, [.int n0_0, .ref a1, .ref a2, .ref a3, .ref a4, .ref a5, .int n0_6, .int n0_7, .int n0_8, .int n0_9, .int n0_10, .long l0_11, .int n0_12, .int n0_13, .int n0_14, .int n0_15, .ref a6, .ref a7, .ref a8, .ref a9, .ref a10, .ref a11, .ref a12, .ref a13, .int n0_24, .int n0_25, .int n0_26, .int n0_27, .ref a14, .int n0_29, .int n0_30])), (a1, .inl (ct 0, 4, .inl f1)), (a2, .inl (ct 0, 4, .inl f2)), (a3, .inl (ct 3, 240, .inr (.inl f3))), (a4, .inl (ct 3, 60, .inr (.inl f4)))] = A at hD ⊢
  have hS : va_S A s.heap s.heap [] := va_S.rf
  have hl := lv_entry ([.ref a0, .int p0, .int p1, .int p2, .int p3, .int p4]) (n := 7) (Nat.le_of_ble_eq_true rfl)
  rw [lg_entry_eq]
  generalize (lg_sl ([.ref a0, .int p0, .int p1, .int p2, .int p3, .int p4]) ++ List.replicate (7 - (lg_sl ([.ref a0, .int p0, .int p1, .int p2, .int p3, .int p4])).length) Slot.unset).toArray = ls at hl ⊢
  have hl : lv_has ls 7 [(0, .ref a0), (1, .int p0), (2, .int p1), (3, .int p2), (4, .int p3), (5, .int p4)] := hl
  refine lv_aload_n hx hb dX11_paste_0 rfl (lv_at hl 0 rfl) ?_
  refine lv_iconst (v := 0) hx hb dX11_paste_1 (by decide) ?_
  refine va_put (D := G) (ci := 11) (v := .int 0) (ty := .int) (C := RX11) (T := TX11) (N := 31) hx hb hts (by decide +kernel) tyX11 tyX11_ok nmX11 hown hK.1 hP hD hS 0 rfl rfl 0 (by decide) (hts (.fieldLink RX11 59 "CardHolderModel" "thrown" "I") (by decide +kernel)) (fun _ h9 => h9) rfl (by decide +kernel) rfl rfl (Nat.le_of_ble_eq_true rfl) dX11_paste_2 (fun H locs hP hD hS => ?_)
  refine lv_iload_n hx hb dX11_paste_5 rfl (lv_at hl 1 rfl) ?_
  refine ro_calli (va_runS (As := [.int p0]) (rest := []) ⟨hx, hb, hml, hown, hts⟩ (a_X11_isSlot l G ct p0) (va_cwS 1 hts gX11_paste_X11_isSlot rfl rfl rfl (by decide +kernel) ⟨Nat.le_of_ble_eq_true rfl, Nat.le_of_ble_eq_true rfl⟩) (ro_pre hK (hP.sub [] rfl)) rfl rfl hl.1 rfl (lv_room (Nat.le_of_ble_eq_true rfl)) dX11_paste_6 ⟨Nat.zero_le _, Nat.zero_le _⟩) hS hP (fun r6 H locs wr6 hP hS => ?_)
  obtain ⟨p_1, p_2, -⟩ := wr6
  refine lv_if_eq (tgt := 19) hx hb dX11_paste_9 (by decide) (fun c9 => ?_) (fun c9 => ?_)
  · have h_3 : rg 0 0 r6 := r_eq_l_i (e := 0) (f := 0) c9 p_1 (rgn 0 (x := 0) (by decide)) (by decide)
    refine lv_bipush (v := (-2)) hx hb dX11_paste_19 (by decide) ?_
    exact W.iret (v := (-2)) hx hb hr (fun t ht hW => ⟨⟨(-2), (fun k => ([0] : List Int32).getD k 0, fun k => ([] : List (Nat → Int32)).getD k (fun _ => 0), fun k => ([f3, f4] : List (Nat → Int64)).getD k (fun _ => 0)), rfl, ⟨(rg_w (c := (-8)) (d := 0) (rgn (-2) (x := (-2)) (by decide)) (by decide)), (fun hq => absurd hq (rne (rgn (-2) (x := (-2)) (by decide)) (y := 0) (c := 0) (by decide) (by decide))), (fun hq => absurd (req (rgn (-2) (x := (-2)) (by decide)) (y := (-2)) (by decide)) hq), (fun hq => absurd hq (rne (rgn (-2) (x := (-2)) (by decide)) (y := 0) (c := 0) (by decide) (by decide))), (fun hq => absurd hq (rne (rgn (-2) (x := (-2)) (by decide)) (y := 0) (c := 0) (by decide) (by decide))), (fun hq => absurd (req (rgn (-2) (x := (-2)) (by decide)) (y := (-2)) (by decide)) hq), (fun hq => absurd hq (rne (rgn (-2) (x := (-2)) (by decide)) (y := 0) (c := 0) (by decide) (by decide))), (fun hq => absurd hq (rne (rgn (-2) (x := (-2)) (by decide)) (y := 0) (c := 0) (by decide) (by decide))), (rgn 0 (x := 0) (by decide)), trivial⟩, hp_at ht hP⟩, hS.F ht⟩) hS.2.2 dX11_paste_21
  · have h_4 : rg 1 1 r6 := r_ne_lo_i c9 p_1 (by decide) (by decide)
    have h_5 : rg 0 3 p0 := (p_2 (rne h_4 (y := 0) (c := 0) (by decide) (by decide)))
    refine lv_iload_n hx hb dX11_paste_12 rfl (lv_at hl 3 rfl) ?_
    refine ro_calli (va_runS (As := [.int p2]) (rest := []) ⟨hx, hb, hml, hown, hts⟩ (a_X11_isSlot l G ct p2) (va_cwS 1 hts gX11_paste_X11_isSlot rfl rfl rfl (by decide +kernel) ⟨Nat.le_of_ble_eq_true rfl, Nat.le_of_ble_eq_true rfl⟩) (ro_pre hK (hP.sub [] rfl)) rfl rfl hl.1 rfl (lv_room (Nat.le_of_ble_eq_true rfl)) dX11_paste_13 ⟨Nat.zero_le _, Nat.zero_le _⟩) hS hP (fun r13 H locs wr13 hP hS => ?_)
    obtain ⟨p_6, p_7, -⟩ := wr13
    refine lv_if_ne (tgt := 22) hx hb dX11_paste_16 (by decide) (fun c16 => ?_) (fun c16 => ?_)
    · have h_8 : rg 1 1 r13 := r_ne_lo_i c16 p_6 (by decide) (by decide)
      have h_9 : rg 0 3 p2 := (p_7 (rne h_8 (y := 0) (c := 0) (by decide) (by decide)))
      refine lv_aload_n hx hb dX11_paste_22 rfl (lv_at hl 0 rfl) ?_
      refine va_get (D := G) (ci := 11) (v := .ref a1) (C := RX11) (T := TX11) (N := 31) hx hb hts (by decide +kernel) hown hK.1 hP 0 rfl rfl 1 (by decide) (hts (.fieldLink RX11 7 "CardHolderModel" "width" "[I") (by decide +kernel)) (fun _ h9 => h9) rfl dX11_paste_23 ?_
      refine lv_iload_n hx hb dX11_paste_26 rfl (lv_at hl 1 rfl) ?_
      refine va_iald hx hb hK.1 hP 1 0 rfl rfl (in_rg h_5 (by decide)) dX11_paste_27 ?_
      refine lv_topi (fun z27 gz27 => ?_)
      refine lv_iconst (v := (-1)) hx hb dX11_paste_28 (by decide) ?_
      refine lv_icmp_eq (tgt := 42) hx hb dX11_paste_29 (by decide) (fun c29 => ?_) (fun c29 => ?_)
      · have h_10 : rg (-1) (-1) z27 := r_eq_l_i (e := (-1)) (f := (-1)) c29 (rg_t z27) (rgn (-1) (x := (-1)) (by decide)) (by decide)
        refine lv_bipush (v := (-6)) hx hb dX11_paste_42 (by decide) ?_
        exact W.iret (v := (-6)) hx hb hr (fun t ht hW => ⟨⟨(-6), (fun k => ([0] : List Int32).getD k 0, fun k => ([] : List (Nat → Int32)).getD k (fun _ => 0), fun k => ([f3, f4] : List (Nat → Int64)).getD k (fun _ => 0)), rfl, ⟨(rg_w (c := (-8)) (d := 0) (rgn (-6) (x := (-6)) (by decide)) (by decide)), (fun _ => h_5), (fun _ => h_5), (fun hq => absurd hq (rne (rgn (-6) (x := (-6)) (by decide)) (y := 0) (c := 0) (by decide) (by decide))), (fun _ => h_9), (fun _ => h_9), (fun hq => absurd hq (rne (rgn (-6) (x := (-6)) (by decide)) (y := 0) (c := 0) (by decide) (by decide))), (fun hq => absurd hq (rne (rgn (-6) (x := (-6)) (by decide)) (y := 0) (c := 0) (by decide) (by decide))), (rgn 0 (x := 0) (by decide)), trivial⟩, hp_at ht hP⟩, hS.F ht⟩) hS.2.2 dX11_paste_44
      · refine lv_aload_n hx hb dX11_paste_32 rfl (lv_at hl 0 rfl) ?_
        refine va_get (D := G) (ci := 11) (v := .ref a1) (C := RX11) (T := TX11) (N := 31) hx hb hts (by decide +kernel) hown hK.1 hP 0 rfl rfl 1 (by decide) (hts (.fieldLink RX11 7 "CardHolderModel" "width" "[I") (by decide +kernel)) (fun _ h9 => h9) rfl dX11_paste_33 ?_
        refine lv_iload_n hx hb dX11_paste_36 rfl (lv_at hl 3 rfl) ?_
        refine va_iald hx hb hK.1 hP 1 0 rfl rfl (in_rg h_9 (by decide)) dX11_paste_37 ?_
        refine lv_topi (fun z37 gz37 => ?_)
        refine lv_iconst (v := (-1)) hx hb dX11_paste_38 (by decide) ?_
        refine lv_icmp_ne (tgt := 45) hx hb dX11_paste_39 (by decide) (fun c39 => ?_) (fun c39 => ?_)
        · refine lv_aload_n hx hb dX11_paste_45 rfl (lv_at hl 0 rfl) ?_
          refine va_get (D := G) (ci := 11) (v := .ref a1) (C := RX11) (T := TX11) (N := 31) hx hb hts (by decide +kernel) hown hK.1 hP 0 rfl rfl 1 (by decide) (hts (.fieldLink RX11 7 "CardHolderModel" "width" "[I") (by decide +kernel)) (fun _ h9 => h9) rfl dX11_paste_46 ?_
          refine lv_iload_n hx hb dX11_paste_49 rfl (lv_at hl 1 rfl) ?_
          refine va_iald hx hb hK.1 hP 1 0 rfl rfl (in_rg h_5 (by decide)) dX11_paste_50 ?_
          refine ix_i (y := z27) gz27.symm ?_
          refine lv_aload_n hx hb dX11_paste_51 rfl (lv_at hl 0 rfl) ?_
          refine va_get (D := G) (ci := 11) (v := .ref a1) (C := RX11) (T := TX11) (N := 31) hx hb hts (by decide +kernel) hown hK.1 hP 0 rfl rfl 1 (by decide) (hts (.fieldLink RX11 7 "CardHolderModel" "width" "[I") (by decide +kernel)) (fun _ h9 => h9) rfl dX11_paste_52 ?_
          refine lv_iload_n hx hb dX11_paste_55 rfl (lv_at hl 3 rfl) ?_
          refine va_iald hx hb hK.1 hP 1 0 rfl rfl (in_rg h_9 (by decide)) dX11_paste_56 ?_
          refine ix_i (y := z37) gz37.symm ?_
          refine lv_icmp_eq (tgt := 63) hx hb dX11_paste_57 (by decide) (fun c57 => ?_) (fun c57 => ?_)
          · refine lv_iload_n hx hb dX11_paste_63 rfl (lv_at hl 2 rfl) ?_
            refine lv_if_lt (tgt := 112) hx hb dX11_paste_64 (by decide) (fun c64 => ?_) (fun c64 => ?_)
            · have h_11 : rg (-2147483648) (-1) p1 := r_lt_l_i c64 (rg_t p1) (rgn 0 (x := 0) (by decide)) (by decide)
              refine lv_bipush (v := (-7)) hx hb dX11_paste_112 (by decide) ?_
              exact W.iret (v := (-7)) hx hb hr (fun t ht hW => ⟨⟨(-7), (fun k => ([0] : List Int32).getD k 0, fun k => ([] : List (Nat → Int32)).getD k (fun _ => 0), fun k => ([f3, f4] : List (Nat → Int64)).getD k (fun _ => 0)), rfl, ⟨(rg_w (c := (-8)) (d := 0) (rgn (-7) (x := (-7)) (by decide)) (by decide)), (fun _ => h_5), (fun _ => h_5), (fun hq => absurd hq (rne (rgn (-7) (x := (-7)) (by decide)) (y := 0) (c := 0) (by decide) (by decide))), (fun _ => h_9), (fun _ => h_9), (fun hq => absurd hq (rne (rgn (-7) (x := (-7)) (by decide)) (y := 0) (c := 0) (by decide) (by decide))), (fun hq => absurd hq (rne (rgn (-7) (x := (-7)) (by decide)) (y := 0) (c := 0) (by decide) (by decide))), (rgn 0 (x := 0) (by decide)), trivial⟩, hp_at ht hP⟩, hS.F ht⟩) hS.2.2 dX11_paste_114
            · have h_12 : rg 0 2147483647 p1 := r_le_r_i (nlt_i c64) (rgn 0 (x := 0) (by decide)) (rg_t p1)
              refine lv_iload hx hb dX11_paste_67 (lv_at hl 4 rfl) ?_
              refine lv_if_lt (tgt := 112) hx hb dX11_paste_69 (by decide) (fun c69 => ?_) (fun c69 => ?_)
              · have h_13 : rg (-2147483648) (-1) p3 := r_lt_l_i c69 (rg_t p3) (rgn 0 (x := 0) (by decide)) (by decide)
                refine lv_bipush (v := (-7)) hx hb dX11_paste_112 (by decide) ?_
                exact W.iret (v := (-7)) hx hb hr (fun t ht hW => ⟨⟨(-7), (fun k => ([0] : List Int32).getD k 0, fun k => ([] : List (Nat → Int32)).getD k (fun _ => 0), fun k => ([f3, f4] : List (Nat → Int64)).getD k (fun _ => 0)), rfl, ⟨(rg_w (c := (-8)) (d := 0) (rgn (-7) (x := (-7)) (by decide)) (by decide)), (fun _ => h_5), (fun _ => h_5), (fun hq => absurd hq (rne (rgn (-7) (x := (-7)) (by decide)) (y := 0) (c := 0) (by decide) (by decide))), (fun _ => h_9), (fun _ => h_9), (fun hq => absurd hq (rne (rgn (-7) (x := (-7)) (by decide)) (y := 0) (c := 0) (by decide) (by decide))), (fun hq => absurd hq (rne (rgn (-7) (x := (-7)) (by decide)) (y := 0) (c := 0) (by decide) (by decide))), (rgn 0 (x := 0) (by decide)), trivial⟩, hp_at ht hP⟩, hS.F ht⟩) hS.2.2 dX11_paste_114
              · have h_14 : rg 0 2147483647 p3 := r_le_r_i (nlt_i c69) (rgn 0 (x := 0) (by decide)) (rg_t p3)
                refine lv_iload hx hb dX11_paste_72 (lv_at hl 5 rfl) ?_
                refine lv_if_lt (tgt := 112) hx hb dX11_paste_74 (by decide) (fun c74 => ?_) (fun c74 => ?_)
                · have h_15 : rg (-2147483648) (-1) p4 := r_lt_l_i c74 (rg_t p4) (rgn 0 (x := 0) (by decide)) (by decide)
                  refine lv_bipush (v := (-7)) hx hb dX11_paste_112 (by decide) ?_
                  exact W.iret (v := (-7)) hx hb hr (fun t ht hW => ⟨⟨(-7), (fun k => ([0] : List Int32).getD k 0, fun k => ([] : List (Nat → Int32)).getD k (fun _ => 0), fun k => ([f3, f4] : List (Nat → Int64)).getD k (fun _ => 0)), rfl, ⟨(rg_w (c := (-8)) (d := 0) (rgn (-7) (x := (-7)) (by decide)) (by decide)), (fun _ => h_5), (fun _ => h_5), (fun hq => absurd hq (rne (rgn (-7) (x := (-7)) (by decide)) (y := 0) (c := 0) (by decide) (by decide))), (fun _ => h_9), (fun _ => h_9), (fun hq => absurd hq (rne (rgn (-7) (x := (-7)) (by decide)) (y := 0) (c := 0) (by decide) (by decide))), (fun hq => absurd hq (rne (rgn (-7) (x := (-7)) (by decide)) (y := 0) (c := 0) (by decide) (by decide))), (rgn 0 (x := 0) (by decide)), trivial⟩, hp_at ht hP⟩, hS.F ht⟩) hS.2.2 dX11_paste_114
                · have h_16 : rg 0 2147483647 p4 := r_le_r_i (nlt_i c74) (rgn 0 (x := 0) (by decide)) (rg_t p4)
                  refine lv_iload_n hx hb dX11_paste_77 rfl (lv_at hl 2 rfl) ?_
                  refine lv_i2l hx hb dX11_paste_78 rfl ?_
                  refine nl_i2l h_12 (fun z78 hz78 ez78 => ?_)
                  refine lv_iload hx hb dX11_paste_79 (lv_at hl 5 rfl) ?_
                  refine lv_i2l hx hb dX11_paste_81 rfl ?_
                  refine nl_i2l h_16 (fun z81 hz81 ez81 => ?_)
                  refine lv_ladd hx hb dX11_paste_82 ?_
                  refine nl_add (e1 := 0) (f := 4294967294) hz78 hz81 (by decide) (fun z82 hz82 ez82 => ?_)
                  refine lv_aload_n hx hb dX11_paste_83 rfl (lv_at hl 0 rfl) ?_
                  refine va_get (D := G) (ci := 11) (v := .ref a2) (C := RX11) (T := TX11) (N := 31) hx hb hts (by decide +kernel) hown hK.1 hP 0 rfl rfl 2 (by decide) (hts (.fieldLink RX11 13 "CardHolderModel" "many" "[I") (by decide +kernel)) (fun _ h9 => h9) rfl dX11_paste_84 ?_
                  refine lv_iload_n hx hb dX11_paste_87 rfl (lv_at hl 1 rfl) ?_
                  refine va_iald hx hb hK.1 hP 2 0 rfl rfl (in_rg h_5 (by decide)) dX11_paste_88 ?_
                  refine lv_topi (fun z88 gz88 => ?_)
                  have hz88 : rg 0 60 z88 := by rw [gz88]; exact hp_f2 _
                  refine lv_i2l hx hb dX11_paste_89 rfl ?_
                  refine nl_i2l hz88 (fun z89 hz89 ez89 => ?_)
                  refine W.lcmp hx hb dX11_paste_90 ?_
                  refine lb_gt (tgt := 112) hx hb dX11_paste_91 (by decide) (fun c91 => ?_) (fun c91 => ?_)
                  · have h_17 : rl 1 4294967294 z82 := r_lt_r_l c91 hz89 hz82 (by decide)
                    refine lv_bipush (v := (-7)) hx hb dX11_paste_112 (by decide) ?_
                    exact W.iret (v := (-7)) hx hb hr (fun t ht hW => ⟨⟨(-7), (fun k => ([0] : List Int32).getD k 0, fun k => ([] : List (Nat → Int32)).getD k (fun _ => 0), fun k => ([f3, f4] : List (Nat → Int64)).getD k (fun _ => 0)), rfl, ⟨(rg_w (c := (-8)) (d := 0) (rgn (-7) (x := (-7)) (by decide)) (by decide)), (fun _ => h_5), (fun _ => h_5), (fun hq => absurd hq (rne (rgn (-7) (x := (-7)) (by decide)) (y := 0) (c := 0) (by decide) (by decide))), (fun _ => h_9), (fun _ => h_9), (fun hq => absurd hq (rne (rgn (-7) (x := (-7)) (by decide)) (y := 0) (c := 0) (by decide) (by decide))), (fun hq => absurd hq (rne (rgn (-7) (x := (-7)) (by decide)) (y := 0) (c := 0) (by decide) (by decide))), (rgn 0 (x := 0) (by decide)), trivial⟩, hp_at ht hP⟩, hS.F ht⟩) hS.2.2 dX11_paste_114
                  · have h_18 : rl 0 60 z82 := r_le_l_l (nlt_l c91) hz82 hz89
                    have h_19 : rg 0 60 p4 := by have := l_nlt c91; have := ez82; have := ez78; have := ez81; have := ez89; have := h_12; have := h_16; have := hz88; omega
                    have h_20 : rg 0 60 p1 := by have := l_nlt c91; have := ez82; have := ez78; have := ez81; have := ez89; have := h_12; have := h_19; have := hz88; omega
                    refine lv_iload hx hb dX11_paste_94 (lv_at hl 4 rfl) ?_
                    refine lv_i2l hx hb dX11_paste_96 rfl ?_
                    refine nl_i2l h_14 (fun z96 hz96 ez96 => ?_)
                    refine lv_iload hx hb dX11_paste_97 (lv_at hl 5 rfl) ?_
                    refine lv_i2l hx hb dX11_paste_99 rfl ?_
                    refine nl_i2l h_19 (fun z99 hz99 ez99 => ?_)
                    refine lv_ladd hx hb dX11_paste_100 ?_
                    refine nl_add (e1 := 0) (f := 2147483707) hz96 hz99 (by decide) (fun z100 hz100 ez100 => ?_)
                    refine lv_aload_n hx hb dX11_paste_101 rfl (lv_at hl 0 rfl) ?_
                    refine va_get (D := G) (ci := 11) (v := .ref a2) (C := RX11) (T := TX11) (N := 31) hx hb hts (by decide +kernel) hown hK.1 hP 0 rfl rfl 2 (by decide) (hts (.fieldLink RX11 13 "CardHolderModel" "many" "[I") (by decide +kernel)) (fun _ h9 => h9) rfl dX11_paste_102 ?_
                    refine lv_iload_n hx hb dX11_paste_105 rfl (lv_at hl 3 rfl) ?_
                    refine va_iald hx hb hK.1 hP 2 0 rfl rfl (in_rg h_9 (by decide)) dX11_paste_106 ?_
                    refine lv_topi (fun z106 gz106 => ?_)
                    have hz106 : rg 0 60 z106 := by rw [gz106]; exact hp_f2 _
                    refine lv_i2l hx hb dX11_paste_107 rfl ?_
                    refine nl_i2l hz106 (fun z107 hz107 ez107 => ?_)
                    refine W.lcmp hx hb dX11_paste_108 ?_
                    refine lb_le (tgt := 115) hx hb dX11_paste_109 (by decide) (fun c109 => ?_) (fun c109 => ?_)
                    · have h_21 : rl 0 60 z100 := r_le_l_l c109 hz100 hz107
                      have h_22 : rg 0 60 p3 := by have := l_le c109; have := ez100; have := ez96; have := ez99; have := ez107; have := h_14; have := h_19; have := hz106; omega
                      refine lv_iconst (v := 0) hx hb dX11_paste_115 (by decide) ?_
                      refine lv_istore (lv' := [(6, .int 0), (0, .ref a0), (1, .int p0), (2, .int p1), (3, .int p2), (4, .int p3), (5, .int p4)]) hx hb dX11_paste_116 hl (by decide) rfl (fun ls hl => ?_)
                      have j118 : ∀ (n : Nat) (x118_6 : Int32) (f118_4 : Nat → Int64) (H : Heap) (locs : List Loc) (ls : Array Slot), 2147483648 ≤ x118_6.toInt + (n : Int) → rg 0 60 x118_6 → va_P G vwCl [(a0, .inr (11, [.int 0, .ref a1, .ref a2, .ref a3, .ref a4, .ref a5, .int n0_6, .int n0_7, .int n0_8, .int n0_9, .int n0_10, .long l0_11, .int n0_12, .int n0_13, .int n0_14, .int n0_15, .ref a6, .ref a7, .ref a8, .ref a9, .ref a10, .ref a11, .ref a12, .ref a13, .int n0_24, .int n0_25, .int n0_26, .int n0_27, .ref a14, .int n0_29, .int n0_30])), (a1, .inl (ct 0, 4, .inl f1)), (a2, .inl (ct 0, 4, .inl f2)), (a3, .inl (ct 3, 240, .inr (.inl f3))), (a4, .inl (ct 3, 60, .inr (.inl f118_4)))] H → va_D A [(a0, .inr (11, [.int 0, .ref a1, .ref a2, .ref a3, .ref a4, .ref a5, .int n0_6, .int n0_7, .int n0_8, .int n0_9, .int n0_10, .long l0_11, .int n0_12, .int n0_13, .int n0_14, .int n0_15, .ref a6, .ref a7, .ref a8, .ref a9, .ref a10, .ref a11, .ref a12, .ref a13, .int n0_24, .int n0_25, .int n0_26, .int n0_27, .ref a14, .int n0_29, .int n0_30])), (a1, .inl (ct 0, 4, .inl f1)), (a2, .inl (ct 0, 4, .inl f2)), (a3, .inl (ct 3, 240, .inr (.inl f3))), (a4, .inl (ct 3, 60, .inr (.inl f118_4)))] → va_S A s.heap H locs → lv_has ls 7 [(0, .ref a0), (1, .int p0), (2, .int p1), (3, .int p2), (4, .int p3), (5, .int p4), (6, .int x118_6)] → W p l e (headSpec wsX11_paste ({ frames := 2, cells := 0, slots := 0, locals := 45 })).room s m ([.ref a0, .int p0, .int p1, .int p2, .int p3, .int p4] : List Value).toArray below meth c H locs 0 0 (MQ below (va_Qi (fun (r : Int32) (u : SU) => rg (-8) 0 r ∧ (r = 0 → rg 0 3 p0) ∧ (¬ r = (-2) → rg 0 3 p0) ∧ (r = 0 → rg 0 60 p1) ∧ (r = 0 → rg 0 3 p2) ∧ (¬ r = (-2) → rg 0 3 p2) ∧ (r = 0 → rg 0 60 p3) ∧ (r = 0 → rg 0 60 p4) ∧ rg 0 0 (u.1 0) ∧ True) (fun u t => va_P G vwCl ((fun u : SU => [(a0, .inr (11, [.int (u.1 0), .ref a1, .ref a2, .ref a3, .ref a4, .ref a5, .int n0_6, .int n0_7, .int n0_8, .int n0_9, .int n0_10, .long l0_11, .int n0_12, .int n0_13, .int n0_14, .int n0_15, .ref a6, .ref a7, .ref a8, .ref a9, .ref a10, .ref a11, .ref a12, .ref a13, .int n0_24, .int n0_25, .int n0_26, .int n0_27, .ref a14, .int n0_29, .int n0_30])), (a1, .inl (ct 0, 4, .inl f1)), (a2, .inl (ct 0, 4, .inl f2)), (a3, .inl (ct 3, 240, .inr (.inl (u.2.2 0)))), (a4, .inl (ct 3, 60, .inr (.inl (u.2.2 1))))]) u) t.heap) A) ([.ref a0, .int p0, .int p1, .int p2, .int p3, .int p4] : List Value).toArray s 0 0 A) (F0 m 118 ls []) := by
                        intro n
                        induction n with
                        | zero => intro x118_6 f118_4 H locs ls hn118 hx118_6 hP hD hS hl; exact absurd hn118 (by have := Int32.toInt_lt x118_6; have := Int32.le_toInt x118_6; omega)
                        | succ n ih118 =>
                          intro x118_6 f118_4 H locs ls hn118 hx118_6 hP hD hS hl
                          refine lv_iload hx hb dX11_paste_118 (lv_at hl 6 rfl) ?_
                          refine lv_iload hx hb dX11_paste_120 (lv_at hl 5 rfl) ?_
                          refine lv_icmp_ge (tgt := 152) hx hb dX11_paste_122 (by decide) (fun c122 => ?_) (fun c122 => ?_)
                          · refine lv_iconst (v := 0) hx hb dX11_paste_152 (by decide) ?_
                            refine lv_istore (lv' := [(6, .int 0), (0, .ref a0), (1, .int p0), (2, .int p1), (3, .int p2), (4, .int p3), (5, .int p4)]) hx hb dX11_paste_153 hl (by decide) rfl (fun ls hl => ?_)
                            have j155 : ∀ (n : Nat) (x155_6 : Int32) (f155_3 : Nat → Int64) (H : Heap) (locs : List Loc) (ls : Array Slot), 2147483648 ≤ x155_6.toInt + (n : Int) → rg 0 60 x155_6 → va_P G vwCl [(a0, .inr (11, [.int 0, .ref a1, .ref a2, .ref a3, .ref a4, .ref a5, .int n0_6, .int n0_7, .int n0_8, .int n0_9, .int n0_10, .long l0_11, .int n0_12, .int n0_13, .int n0_14, .int n0_15, .ref a6, .ref a7, .ref a8, .ref a9, .ref a10, .ref a11, .ref a12, .ref a13, .int n0_24, .int n0_25, .int n0_26, .int n0_27, .ref a14, .int n0_29, .int n0_30])), (a1, .inl (ct 0, 4, .inl f1)), (a2, .inl (ct 0, 4, .inl f2)), (a3, .inl (ct 3, 240, .inr (.inl f155_3))), (a4, .inl (ct 3, 60, .inr (.inl f118_4)))] H → va_D A [(a0, .inr (11, [.int 0, .ref a1, .ref a2, .ref a3, .ref a4, .ref a5, .int n0_6, .int n0_7, .int n0_8, .int n0_9, .int n0_10, .long l0_11, .int n0_12, .int n0_13, .int n0_14, .int n0_15, .ref a6, .ref a7, .ref a8, .ref a9, .ref a10, .ref a11, .ref a12, .ref a13, .int n0_24, .int n0_25, .int n0_26, .int n0_27, .ref a14, .int n0_29, .int n0_30])), (a1, .inl (ct 0, 4, .inl f1)), (a2, .inl (ct 0, 4, .inl f2)), (a3, .inl (ct 3, 240, .inr (.inl f155_3))), (a4, .inl (ct 3, 60, .inr (.inl f118_4)))] → va_S A s.heap H locs → lv_has ls 7 [(0, .ref a0), (1, .int p0), (2, .int p1), (3, .int p2), (4, .int p3), (5, .int p4), (6, .int x155_6)] → W p l e (headSpec wsX11_paste ({ frames := 2, cells := 0, slots := 0, locals := 45 })).room s m ([.ref a0, .int p0, .int p1, .int p2, .int p3, .int p4] : List Value).toArray below meth c H locs 0 0 (MQ below (va_Qi (fun (r : Int32) (u : SU) => rg (-8) 0 r ∧ (r = 0 → rg 0 3 p0) ∧ (¬ r = (-2) → rg 0 3 p0) ∧ (r = 0 → rg 0 60 p1) ∧ (r = 0 → rg 0 3 p2) ∧ (¬ r = (-2) → rg 0 3 p2) ∧ (r = 0 → rg 0 60 p3) ∧ (r = 0 → rg 0 60 p4) ∧ rg 0 0 (u.1 0) ∧ True) (fun u t => va_P G vwCl ((fun u : SU => [(a0, .inr (11, [.int (u.1 0), .ref a1, .ref a2, .ref a3, .ref a4, .ref a5, .int n0_6, .int n0_7, .int n0_8, .int n0_9, .int n0_10, .long l0_11, .int n0_12, .int n0_13, .int n0_14, .int n0_15, .ref a6, .ref a7, .ref a8, .ref a9, .ref a10, .ref a11, .ref a12, .ref a13, .int n0_24, .int n0_25, .int n0_26, .int n0_27, .ref a14, .int n0_29, .int n0_30])), (a1, .inl (ct 0, 4, .inl f1)), (a2, .inl (ct 0, 4, .inl f2)), (a3, .inl (ct 3, 240, .inr (.inl (u.2.2 0)))), (a4, .inl (ct 3, 60, .inr (.inl (u.2.2 1))))]) u) t.heap) A) ([.ref a0, .int p0, .int p1, .int p2, .int p3, .int p4] : List Value).toArray s 0 0 A) (F0 m 155 ls []) := by
                              intro n
                              induction n with
                              | zero => intro x155_6 f155_3 H locs ls hn155 hx155_6 hP hD hS hl; exact absurd hn155 (by have := Int32.toInt_lt x155_6; have := Int32.le_toInt x155_6; omega)
                              | succ n ih155 =>
                                intro x155_6 f155_3 H locs ls hn155 hx155_6 hP hD hS hl
                                refine lv_iload hx hb dX11_paste_155 (lv_at hl 6 rfl) ?_
                                refine lv_iload hx hb dX11_paste_157 (lv_at hl 5 rfl) ?_
                                refine lv_icmp_ge (tgt := 190) hx hb dX11_paste_159 (by decide) (fun c159 => ?_) (fun c159 => ?_)
                                · refine lv_iconst (v := 0) hx hb dX11_paste_190 (by decide) ?_
                                  exact W.iret (v := 0) hx hb hr (fun t ht hW => ⟨⟨0, (fun k => ([0] : List Int32).getD k 0, fun k => ([] : List (Nat → Int32)).getD k (fun _ => 0), fun k => ([f155_3, f118_4] : List (Nat → Int64)).getD k (fun _ => 0)), rfl, ⟨(rg_w (c := (-8)) (d := 0) (rgn 0 (x := 0) (by decide)) (by decide)), (fun _ => h_5), (fun _ => h_5), (fun _ => h_20), (fun _ => h_9), (fun _ => h_9), (fun _ => h_22), (fun _ => h_19), (rgn 0 (x := 0) (by decide)), trivial⟩, hp_at ht hP⟩, hS.F ht⟩) hS.2.2 dX11_paste_191
                                · have h_23 : rg 0 59 x155_6 := r_lt_l_i (nle_i c159) hx155_6 h_19 (by decide)
                                  have h_24 : rg 1 60 p4 := r_lt_r_i (nle_i c159) hx155_6 h_19 (by decide)
                                  refine lv_aload_n hx hb dX11_paste_162 rfl (lv_at hl 0 rfl) ?_
                                  refine va_get (D := G) (ci := 11) (v := .ref a3) (C := RX11) (T := TX11) (N := 31) hx hb hts (by decide +kernel) hown hK.1 hP 0 rfl rfl 3 (by decide) (hts (.fieldLink RX11 16 "CardHolderModel" "cells" "[J") (by decide +kernel)) (fun _ h9 => h9) rfl dX11_paste_163 ?_
                                  refine lv_bipush (v := 60) hx hb dX11_paste_166 (by decide) ?_
                                  refine lv_iload_n hx hb dX11_paste_168 rfl (lv_at hl 3 rfl) ?_
                                  refine lv_imul hx hb dX11_paste_169 ?_
                                  refine nm_mul (e1 := 0) (f := 180) (rgn 60 (x := 60) (by decide)) h_9 (by decide) (fun z169 hz169 ez169 => ?_)
                                  refine lv_iload hx hb dX11_paste_170 (lv_at hl 4 rfl) ?_
                                  refine lv_iadd hx hb dX11_paste_172 ?_
                                  refine nm_add (e1 := 0) (f := 240) hz169 h_22 (by decide) (fun z172 hz172 ez172 => ?_)
                                  refine lv_iload hx hb dX11_paste_173 (lv_at hl 6 rfl) ?_
                                  refine lv_iadd hx hb dX11_paste_175 ?_
                                  refine nm_add (e1 := 0) (f := 299) hz172 h_23 (by decide) (fun z175 hz175 ez175 => ?_)
                                  refine lv_aload_n hx hb dX11_paste_176 rfl (lv_at hl 0 rfl) ?_
                                  refine va_get (D := G) (ci := 11) (v := .ref a4) (C := RX11) (T := TX11) (N := 31) hx hb hts (by decide +kernel) hown hK.1 hP 0 rfl rfl 4 (by decide) (hts (.fieldLink RX11 20 "CardHolderModel" "moved" "[J") (by decide +kernel)) (fun _ h9 => h9) rfl dX11_paste_177 ?_
                                  refine lv_iload hx hb dX11_paste_180 (lv_at hl 6 rfl) ?_
                                  refine va_lald hx hb hK.1 hP 4 3 rfl rfl (in_rg h_23 (by decide)) dX11_paste_182 ?_
                                  refine lv_topl (fun z182 gz182 => ?_)
                                  refine va_last hx hb hK.1 hP hD hS 3 3 rfl rfl (in_of (by have := hz175.1; omega) (by have := l_le c109; have := ez100; have := ez96; have := ez99; have := ez107; have := ez175; have := ez172; have := ez169; have h60 : (60 : Int32).toInt = 60 := (by decide); rw [h60] at *; have := i_nle c159; have := h_9; have := h_22; have := hz106; omega)) dX11_paste_183 (fun H locs hP hD hS => ?_)
                                  obtain ⟨z184, qz184⟩ : ∃ y : Int32, y = x155_6 + Int32.ofInt 1 := ⟨_, rfl⟩
                                  obtain ⟨hz184, ez184⟩ := inc_z (e := 1) (f := 60) h_23 qz184 (by decide)
                                  refine lv_iinc (v := z184) (lv' := [(6, .int z184), (0, .ref a0), (1, .int p0), (2, .int p1), (3, .int p2), (4, .int p3), (5, .int p4)]) hx hb dX11_paste_184 hl (k := 6) rfl (qz184.symm) (by decide) rfl (fun ls hl => ?_)
                                  refine lv_goto (tgt := 155) hx hb dX11_paste_187 (by decide) ?_
                                  exact ih155 z184 (vp_updL f155_3 z175.toNatClampNeg z182) _ _ ls (by have q := hn155; have := ez184; omega) (rg_w (c := 0) (d := 60) hz184 (by decide)) hP hD hS (lv_sub hl [1, 2, 3, 4, 5, 6, 0] rfl)
                            exact j155 4294967296 (0 : Int32) f3 _ _ ls (ms_e (0 : Int32)) (rg_w (c := 0) (d := 60) (rgn 0 (x := 0) (by decide)) (by decide)) hP hD hS (lv_sub hl [1, 2, 3, 4, 5, 6, 0] rfl)
                          · have h_25 : rg 0 59 x118_6 := r_lt_l_i (nle_i c122) hx118_6 h_19 (by decide)
                            have h_26 : rg 1 60 p4 := r_lt_r_i (nle_i c122) hx118_6 h_19 (by decide)
                            refine lv_aload_n hx hb dX11_paste_125 rfl (lv_at hl 0 rfl) ?_
                            refine va_get (D := G) (ci := 11) (v := .ref a4) (C := RX11) (T := TX11) (N := 31) hx hb hts (by decide +kernel) hown hK.1 hP 0 rfl rfl 4 (by decide) (hts (.fieldLink RX11 20 "CardHolderModel" "moved" "[J") (by decide +kernel)) (fun _ h9 => h9) rfl dX11_paste_126 ?_
                            refine lv_iload hx hb dX11_paste_129 (lv_at hl 6 rfl) ?_
                            refine lv_aload_n hx hb dX11_paste_131 rfl (lv_at hl 0 rfl) ?_
                            refine va_get (D := G) (ci := 11) (v := .ref a3) (C := RX11) (T := TX11) (N := 31) hx hb hts (by decide +kernel) hown hK.1 hP 0 rfl rfl 3 (by decide) (hts (.fieldLink RX11 16 "CardHolderModel" "cells" "[J") (by decide +kernel)) (fun _ h9 => h9) rfl dX11_paste_132 ?_
                            refine lv_bipush (v := 60) hx hb dX11_paste_135 (by decide) ?_
                            refine lv_iload_n hx hb dX11_paste_137 rfl (lv_at hl 1 rfl) ?_
                            refine lv_imul hx hb dX11_paste_138 ?_
                            refine nm_mul (e1 := 0) (f := 180) (rgn 60 (x := 60) (by decide)) h_5 (by decide) (fun z138 hz138 ez138 => ?_)
                            refine lv_iload_n hx hb dX11_paste_139 rfl (lv_at hl 2 rfl) ?_
                            refine lv_iadd hx hb dX11_paste_140 ?_
                            refine nm_add (e1 := 0) (f := 240) hz138 h_20 (by decide) (fun z140 hz140 ez140 => ?_)
                            refine lv_iload hx hb dX11_paste_141 (lv_at hl 6 rfl) ?_
                            refine lv_iadd hx hb dX11_paste_143 ?_
                            refine nm_add (e1 := 0) (f := 299) hz140 h_25 (by decide) (fun z143 hz143 ez143 => ?_)
                            refine va_lald hx hb hK.1 hP 3 3 rfl rfl (in_of (by have := hz143.1; omega) (by have := l_nlt c91; have := ez82; have := ez78; have := ez81; have := ez89; have := ez143; have := ez140; have := ez138; have h60 : (60 : Int32).toInt = 60 := (by decide); rw [h60] at *; have := i_nle c122; have := h_5; have := h_20; have := hz88; omega)) dX11_paste_144 ?_
                            refine lv_topl (fun z144 gz144 => ?_)
                            refine va_last hx hb hK.1 hP hD hS 4 3 rfl rfl (in_rg h_25 (by decide)) dX11_paste_145 (fun H locs hP hD hS => ?_)
                            obtain ⟨z146, qz146⟩ : ∃ y : Int32, y = x118_6 + Int32.ofInt 1 := ⟨_, rfl⟩
                            obtain ⟨hz146, ez146⟩ := inc_z (e := 1) (f := 60) h_25 qz146 (by decide)
                            refine lv_iinc (v := z146) (lv' := [(6, .int z146), (0, .ref a0), (1, .int p0), (2, .int p1), (3, .int p2), (4, .int p3), (5, .int p4)]) hx hb dX11_paste_146 hl (k := 6) rfl (qz146.symm) (by decide) rfl (fun ls hl => ?_)
                            refine lv_goto (tgt := 118) hx hb dX11_paste_149 (by decide) ?_
                            exact ih118 z146 (vp_updL f118_4 x118_6.toNatClampNeg z144) _ _ ls (by have q := hn118; have := ez146; omega) (rg_w (c := 0) (d := 60) hz146 (by decide)) hP hD hS (lv_sub hl [1, 2, 3, 4, 5, 6, 0] rfl)
                      exact j118 4294967296 (0 : Int32) f4 _ _ ls (ms_e (0 : Int32)) (rg_w (c := 0) (d := 60) (rgn 0 (x := 0) (by decide)) (by decide)) hP hD hS (lv_sub hl [1, 2, 3, 4, 5, 6, 0] rfl)
                    · have h_27 : rl 1 2147483707 z100 := r_lt_r_l (nle_l c109) hz107 hz100 (by decide)
                      refine lv_bipush (v := (-7)) hx hb dX11_paste_112 (by decide) ?_
                      exact W.iret (v := (-7)) hx hb hr (fun t ht hW => ⟨⟨(-7), (fun k => ([0] : List Int32).getD k 0, fun k => ([] : List (Nat → Int32)).getD k (fun _ => 0), fun k => ([f3, f4] : List (Nat → Int64)).getD k (fun _ => 0)), rfl, ⟨(rg_w (c := (-8)) (d := 0) (rgn (-7) (x := (-7)) (by decide)) (by decide)), (fun _ => h_5), (fun _ => h_5), (fun _ => h_20), (fun _ => h_9), (fun _ => h_9), (fun hq => absurd hq (rne (rgn (-7) (x := (-7)) (by decide)) (y := 0) (c := 0) (by decide) (by decide))), (fun _ => h_19), (rgn 0 (x := 0) (by decide)), trivial⟩, hp_at ht hP⟩, hS.F ht⟩) hS.2.2 dX11_paste_114
          · refine lv_bipush (v := (-8)) hx hb dX11_paste_60 (by decide) ?_
            exact W.iret (v := (-8)) hx hb hr (fun t ht hW => ⟨⟨(-8), (fun k => ([0] : List Int32).getD k 0, fun k => ([] : List (Nat → Int32)).getD k (fun _ => 0), fun k => ([f3, f4] : List (Nat → Int64)).getD k (fun _ => 0)), rfl, ⟨(rg_w (c := (-8)) (d := 0) (rgn (-8) (x := (-8)) (by decide)) (by decide)), (fun _ => h_5), (fun _ => h_5), (fun hq => absurd hq (rne (rgn (-8) (x := (-8)) (by decide)) (y := 0) (c := 0) (by decide) (by decide))), (fun _ => h_9), (fun _ => h_9), (fun hq => absurd hq (rne (rgn (-8) (x := (-8)) (by decide)) (y := 0) (c := 0) (by decide) (by decide))), (fun hq => absurd hq (rne (rgn (-8) (x := (-8)) (by decide)) (y := 0) (c := 0) (by decide) (by decide))), (rgn 0 (x := 0) (by decide)), trivial⟩, hp_at ht hP⟩, hS.F ht⟩) hS.2.2 dX11_paste_62
        · have h_28 : rg (-1) (-1) z37 := r_eq_l_i (e := (-1)) (f := (-1)) c39 (rg_t z37) (rgn (-1) (x := (-1)) (by decide)) (by decide)
          refine lv_bipush (v := (-6)) hx hb dX11_paste_42 (by decide) ?_
          exact W.iret (v := (-6)) hx hb hr (fun t ht hW => ⟨⟨(-6), (fun k => ([0] : List Int32).getD k 0, fun k => ([] : List (Nat → Int32)).getD k (fun _ => 0), fun k => ([f3, f4] : List (Nat → Int64)).getD k (fun _ => 0)), rfl, ⟨(rg_w (c := (-8)) (d := 0) (rgn (-6) (x := (-6)) (by decide)) (by decide)), (fun _ => h_5), (fun _ => h_5), (fun hq => absurd hq (rne (rgn (-6) (x := (-6)) (by decide)) (y := 0) (c := 0) (by decide) (by decide))), (fun _ => h_9), (fun _ => h_9), (fun hq => absurd hq (rne (rgn (-6) (x := (-6)) (by decide)) (y := 0) (c := 0) (by decide) (by decide))), (fun hq => absurd hq (rne (rgn (-6) (x := (-6)) (by decide)) (y := 0) (c := 0) (by decide) (by decide))), (rgn 0 (x := 0) (by decide)), trivial⟩, hp_at ht hP⟩, hS.F ht⟩) hS.2.2 dX11_paste_44
    · have h_29 : rg 0 0 r13 := r_eq_l_i (e := 0) (f := 0) c16 p_6 (rgn 0 (x := 0) (by decide)) (by decide)
      refine lv_bipush (v := (-2)) hx hb dX11_paste_19 (by decide) ?_
      exact W.iret (v := (-2)) hx hb hr (fun t ht hW => ⟨⟨(-2), (fun k => ([0] : List Int32).getD k 0, fun k => ([] : List (Nat → Int32)).getD k (fun _ => 0), fun k => ([f3, f4] : List (Nat → Int64)).getD k (fun _ => 0)), rfl, ⟨(rg_w (c := (-8)) (d := 0) (rgn (-2) (x := (-2)) (by decide)) (by decide)), (fun _ => h_5), (fun _ => h_5), (fun hq => absurd hq (rne (rgn (-2) (x := (-2)) (by decide)) (y := 0) (c := 0) (by decide) (by decide))), (fun hq => absurd hq (rne (rgn (-2) (x := (-2)) (by decide)) (y := 0) (c := 0) (by decide) (by decide))), (fun hq => absurd (req (rgn (-2) (x := (-2)) (by decide)) (y := (-2)) (by decide)) hq), (fun hq => absurd hq (rne (rgn (-2) (x := (-2)) (by decide)) (y := 0) (c := 0) (by decide) (by decide))), (fun hq => absurd hq (rne (rgn (-2) (x := (-2)) (by decide)) (y := 0) (c := 0) (by decide) (by decide))), (rgn 0 (x := 0) (by decide)), trivial⟩, hp_at ht hP⟩, hS.F ht⟩) hS.2.2 dX11_paste_21
