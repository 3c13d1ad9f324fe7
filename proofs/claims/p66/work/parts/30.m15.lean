theorem dX11_freed_0 : decode cX11_freed 0 = .ok (.aload_n 0, 1) := by decide +kernel
theorem dX11_freed_1 : decode cX11_freed 1 = .ok (.iconst 0, 1) := by decide +kernel
theorem dX11_freed_2 : decode cX11_freed 2 = .ok (.putfield 59, 3) := by decide +kernel
theorem dX11_freed_5 : decode cX11_freed 5 = .ok (.aload_n 0, 1) := by decide +kernel
theorem dX11_freed_6 : decode cX11_freed 6 = .ok (.iload_n 1, 1) := by decide +kernel
set_option maxRecDepth 20000 in
theorem ggX11_freed_X11_whyNotJudge : GoodIn wsX11_freed wsX11_whyNotJudge := goodIn_r _ [6, 7, 8, 9, 10, 11, 12, 5, 13, 14, 15, 16, 17, 18, 19, 20, 21, 22, 23, 24, 25, 26, 27, 28, 29, 30, 31, 75, 76, 77, 78, 79, 80, 81, 82, 83, 84, 85, 86, 87, 88, 89, 90, 91, 92, 93, 94, 95, 96, 97, 98, 99, 100, 101, 102, 103, 104, 105] (by rfl) (by decide +kernel)
set_option maxRecDepth 20000 in
theorem gX11_freed_X11_whyNotJudge : GoodIn wsX11_freed (wsV RX11 382 RX11 yX11_whyNotJudge wsX11_whyNotJudge) := goodIn_app (goodIn_r _ [2, 3, 4, 5] (by rfl) (by decide +kernel)) ggX11_freed_X11_whyNotJudge
theorem dX11_freed_7 : decode cX11_freed 7 = .ok (.invokevirtual 382, 3) := by decide +kernel
theorem dX11_freed_10 : decode cX11_freed 10 = .ok (.istore_n 2, 1) := by decide +kernel
theorem dX11_freed_11 : decode cX11_freed 11 = .ok (.iload_n 2, 1) := by decide +kernel
theorem dX11_freed_12 : decode cX11_freed 12 = .ok (.ifCond .eq 5, 3) := by decide +kernel
theorem dX11_freed_17 : decode cX11_freed 17 = .ok (.aload_n 0, 1) := by decide +kernel
theorem dX11_freed_18 : decode cX11_freed 18 = .ok (.iload_n 1, 1) := by decide +kernel
set_option maxRecDepth 20000 in
theorem ggX11_freed_X11_judges : GoodIn wsX11_freed wsX11_judges := goodIn_r _ [35, 8, 9, 10, 36, 37, 38, 5, 39, 27, 40, 41, 42, 43, 44, 45, 46, 47, 48, 49, 50, 51, 52, 53, 54, 55, 56, 57, 58, 59, 60, 61, 62, 63, 64, 65, 66, 67, 68, 69, 70, 75, 76, 77, 78, 79, 80, 81, 82, 83, 84, 85, 86, 87, 88, 89, 90, 91, 92, 93, 94, 95, 96, 97, 98, 99, 100, 101, 102, 103, 104, 105] (by rfl) (by decide +kernel)
set_option maxRecDepth 20000 in
theorem gX11_freed_X11_judges : GoodIn wsX11_freed (wsV RX11 385 RX11 yX11_judges wsX11_judges) := goodIn_app (goodIn_r _ [32, 33, 34, 5] (by rfl) (by decide +kernel)) ggX11_freed_X11_judges
theorem dX11_freed_19 : decode cX11_freed 19 = .ok (.invokevirtual 385, 3) := by decide +kernel
theorem dX11_freed_22 : decode cX11_freed 22 = .ok (.pop, 1) := by decide +kernel
theorem dX11_freed_23 : decode cX11_freed 23 = .ok (.aload_n 0, 1) := by decide +kernel
set_option maxRecDepth 20000 in
theorem ggX11_freed_X11_freeNow : GoodIn wsX11_freed wsX11_freeNow := goodIn_r _ [74, 27, 40, 75, 76, 77, 78, 79, 80, 81, 82, 83, 84, 85, 86, 87, 88, 89, 90, 91, 92, 93, 94, 95, 96, 97, 98, 99, 100, 101, 102, 103, 104, 105] (by rfl) (by decide +kernel)
set_option maxRecDepth 20000 in
theorem gX11_freed_X11_freeNow : GoodIn wsX11_freed (wsV RX11 260 RX11 yX11_freeNow wsX11_freeNow) := goodIn_app (goodIn_r _ [71, 72, 73, 5] (by rfl) (by decide +kernel)) ggX11_freed_X11_freeNow
theorem dX11_freed_24 : decode cX11_freed 24 = .ok (.invokevirtual 260, 3) := by decide +kernel
theorem dX11_freed_27 : decode cX11_freed 27 = .ok (.ireturn, 1) := by decide +kernel
theorem dX11_freed_15 : decode cX11_freed 15 = .ok (.iload_n 2, 1) := by decide +kernel
theorem dX11_freed_16 : decode cX11_freed 16 = .ok (.ireturn, 1) := by decide +kernel
theorem dX11_draws_0 : decode cX11_draws 0 = .ok (.aload_n 0, 1) := by decide +kernel
theorem dX11_draws_1 : decode cX11_draws 1 = .ok (.getfield 34, 3) := by decide +kernel
theorem dX11_draws_4 : decode cX11_draws 4 = .ok (.iconst 1, 1) := by decide +kernel
theorem dX11_draws_5 : decode cX11_draws 5 = .ok (.iaload, 1) := by decide +kernel
theorem dX11_draws_6 : decode cX11_draws 6 = .ok (.istore_n 3, 1) := by decide +kernel
theorem dX11_draws_7 : decode cX11_draws 7 = .ok (.lload_n 1, 1) := by decide +kernel
theorem dX11_draws_8 : decode cX11_draws 8 = .ok (.lstore 4, 2) := by decide +kernel
theorem dX11_draws_10 : decode cX11_draws 10 = .ok (.iconst 0, 1) := by decide +kernel
theorem dX11_draws_11 : decode cX11_draws 11 = .ok (.istore 6, 2) := by decide +kernel
theorem dX11_draws_13 : decode cX11_draws 13 = .ok (.iload 6, 2) := by decide +kernel
theorem dX11_draws_15 : decode cX11_draws 15 = .ok (.iload_n 3, 1) := by decide +kernel
theorem dX11_draws_16 : decode cX11_draws 16 = .ok (.if_icmp .ge 18, 3) := by decide +kernel
theorem dX11_draws_34 : decode cX11_draws 34 = .ok (.iload_n 3, 1) := by decide +kernel
theorem dX11_draws_35 : decode cX11_draws 35 = .ok (.iconst 1, 1) := by decide +kernel
theorem dX11_draws_36 : decode cX11_draws 36 = .ok (.isub, 1) := by decide +kernel
theorem dX11_draws_37 : decode cX11_draws 37 = .ok (.istore 6, 2) := by decide +kernel
theorem dX11_draws_39 : decode cX11_draws 39 = .ok (.iload 6, 2) := by decide +kernel
theorem dX11_draws_41 : decode cX11_draws 41 = .ok (.ifCond .le 72, 3) := by decide +kernel
theorem dX11_draws_113 : decode cX11_draws 113 = .ok (.iconst 0, 1) := by decide +kernel
theorem dX11_draws_114 : decode cX11_draws 114 = .ok (.istore 6, 2) := by decide +kernel
theorem dX11_draws_116 : decode cX11_draws 116 = .ok (.iload 6, 2) := by decide +kernel
theorem dX11_draws_118 : decode cX11_draws 118 = .ok (.iload_n 3, 1) := by decide +kernel
theorem dX11_draws_119 : decode cX11_draws 119 = .ok (.if_icmp .ge 23, 3) := by decide +kernel
theorem dX11_draws_142 : decode cX11_draws 142 = .ok (.return_, 1) := by decide +kernel
theorem dX11_draws_122 : decode cX11_draws 122 = .ok (.aload_n 0, 1) := by decide +kernel
theorem dX11_draws_123 : decode cX11_draws 123 = .ok (.getfield 47, 3) := by decide +kernel
theorem dX11_draws_126 : decode cX11_draws 126 = .ok (.aload_n 0, 1) := by decide +kernel
theorem dX11_draws_127 : decode cX11_draws 127 = .ok (.getfield 50, 3) := by decide +kernel
theorem dX11_draws_130 : decode cX11_draws 130 = .ok (.iload 6, 2) := by decide +kernel
theorem dX11_draws_132 : decode cX11_draws 132 = .ok (.iaload, 1) := by decide +kernel
theorem dX11_draws_133 : decode cX11_draws 133 = .ok (.iload 6, 2) := by decide +kernel
theorem dX11_draws_135 : decode cX11_draws 135 = .ok (.iastore, 1) := by decide +kernel
theorem dX11_draws_136 : decode cX11_draws 136 = .ok (.iinc 6 1, 3) := by decide +kernel
theorem dX11_draws_139 : decode cX11_draws 139 = .ok (.goto (-23), 3) := by decide +kernel
theorem dX11_draws_44 : decode cX11_draws 44 = .ok (.ldc2_w 388, 3) := by decide +kernel
theorem dX11_draws_47 : decode cX11_draws 47 = .ok (.lload 4, 2) := by decide +kernel
theorem dX11_draws_49 : decode cX11_draws 49 = .ok (.lmul, 1) := by decide +kernel
theorem dX11_draws_50 : decode cX11_draws 50 = .ok (.ldc2_w 390, 3) := by decide +kernel
theorem dX11_draws_53 : decode cX11_draws 53 = .ok (.ladd, 1) := by decide +kernel
theorem dX11_draws_54 : decode cX11_draws 54 = .ok (.ldc2_w 392, 3) := by decide +kernel
theorem dX11_draws_57 : decode cX11_draws 57 = .ok (.lrem, 1) := by decide +kernel
theorem dX11_draws_58 : decode cX11_draws 58 = .ok (.lstore 4, 2) := by decide +kernel
theorem dX11_draws_60 : decode cX11_draws 60 = .ok (.lload 4, 2) := by decide +kernel
theorem dX11_draws_62 : decode cX11_draws 62 = .ok (.ldc2_w 394, 3) := by decide +kernel
theorem dX11_draws_65 : decode cX11_draws 65 = .ok (.ldiv, 1) := by decide +kernel
theorem dX11_draws_66 : decode cX11_draws 66 = .ok (.iload 6, 2) := by decide +kernel
theorem dX11_draws_68 : decode cX11_draws 68 = .ok (.iconst 1, 1) := by decide +kernel
theorem dX11_draws_69 : decode cX11_draws 69 = .ok (.iadd, 1) := by decide +kernel
theorem dX11_draws_70 : decode cX11_draws 70 = .ok (.i2l, 1) := by decide +kernel
theorem dX11_draws_71 : decode cX11_draws 71 = .ok (.lrem, 1) := by decide +kernel
theorem dX11_draws_72 : decode cX11_draws 72 = .ok (.l2i, 1) := by decide +kernel
theorem dX11_draws_73 : decode cX11_draws 73 = .ok (.istore 7, 2) := by decide +kernel
theorem dX11_draws_75 : decode cX11_draws 75 = .ok (.aload_n 0, 1) := by decide +kernel
theorem dX11_draws_76 : decode cX11_draws 76 = .ok (.getfield 50, 3) := by decide +kernel
theorem dX11_draws_79 : decode cX11_draws 79 = .ok (.iload 6, 2) := by decide +kernel
theorem dX11_draws_81 : decode cX11_draws 81 = .ok (.iaload, 1) := by decide +kernel
theorem dX11_draws_82 : decode cX11_draws 82 = .ok (.istore 8, 2) := by decide +kernel
theorem dX11_draws_84 : decode cX11_draws 84 = .ok (.aload_n 0, 1) := by decide +kernel
theorem dX11_draws_85 : decode cX11_draws 85 = .ok (.getfield 50, 3) := by decide +kernel
theorem dX11_draws_88 : decode cX11_draws 88 = .ok (.iload 6, 2) := by decide +kernel
theorem dX11_draws_90 : decode cX11_draws 90 = .ok (.aload_n 0, 1) := by decide +kernel
theorem dX11_draws_91 : decode cX11_draws 91 = .ok (.getfield 50, 3) := by decide +kernel
theorem dX11_draws_94 : decode cX11_draws 94 = .ok (.iload 7, 2) := by decide +kernel
theorem dX11_draws_96 : decode cX11_draws 96 = .ok (.iaload, 1) := by decide +kernel
theorem dX11_draws_97 : decode cX11_draws 97 = .ok (.iastore, 1) := by decide +kernel
theorem dX11_draws_98 : decode cX11_draws 98 = .ok (.aload_n 0, 1) := by decide +kernel
theorem dX11_draws_99 : decode cX11_draws 99 = .ok (.getfield 50, 3) := by decide +kernel
theorem dX11_draws_102 : decode cX11_draws 102 = .ok (.iload 7, 2) := by decide +kernel
theorem dX11_draws_104 : decode cX11_draws 104 = .ok (.iload 8, 2) := by decide +kernel
theorem dX11_draws_106 : decode cX11_draws 106 = .ok (.iastore, 1) := by decide +kernel
theorem dX11_draws_107 : decode cX11_draws 107 = .ok (.iinc 6 (-1), 3) := by decide +kernel
theorem dX11_draws_110 : decode cX11_draws 110 = .ok (.goto (-71), 3) := by decide +kernel
theorem dX11_draws_19 : decode cX11_draws 19 = .ok (.aload_n 0, 1) := by decide +kernel
theorem dX11_draws_20 : decode cX11_draws 20 = .ok (.getfield 50, 3) := by decide +kernel
theorem dX11_draws_23 : decode cX11_draws 23 = .ok (.iload 6, 2) := by decide +kernel
theorem dX11_draws_25 : decode cX11_draws 25 = .ok (.iload 6, 2) := by decide +kernel
theorem dX11_draws_27 : decode cX11_draws 27 = .ok (.iastore, 1) := by decide +kernel
theorem dX11_draws_28 : decode cX11_draws 28 = .ok (.iinc 6 1, 3) := by decide +kernel
theorem dX11_draws_31 : decode cX11_draws 31 = .ok (.goto (-18), 3) := by decide +kernel
theorem dX11_drawn_0 : decode cX11_drawn 0 = .ok (.aload_n 0, 1) := by decide +kernel
theorem dX11_drawn_1 : decode cX11_drawn 1 = .ok (.iconst 0, 1) := by decide +kernel
theorem dX11_drawn_2 : decode cX11_drawn 2 = .ok (.putfield 59, 3) := by decide +kernel
theorem dX11_drawn_5 : decode cX11_drawn 5 = .ok (.iload_n 1, 1) := by decide +kernel
set_option maxRecDepth 20000 in
theorem ggX11_drawn_X11_isSeed : GoodIn wsX11_drawn wsX11_isSeed := goodIn_r _ [6, 7, 8, 9, 5, 10] (by rfl) (by decide +kernel)
set_option maxRecDepth 20000 in
theorem gX11_drawn_X11_isSeed : GoodIn wsX11_drawn (va_wsS RX11 398 yX11_isSeed wsX11_isSeed) := goodIn_app (goodIn_r _ [3, 4, 5] (by rfl) (by decide +kernel)) ggX11_drawn_X11_isSeed
theorem dX11_drawn_6 : decode cX11_drawn 6 = .ok (.invokestatic 398, 3) := by decide +kernel
theorem dX11_drawn_9 : decode cX11_drawn 9 = .ok (.ifCond .eq 12, 3) := by decide +kernel
theorem dX11_drawn_21 : decode cX11_drawn 21 = .ok (.bipush (-2), 2) := by decide +kernel
theorem dX11_drawn_23 : decode cX11_drawn 23 = .ok (.ireturn, 1) := by decide +kernel
theorem dX11_drawn_12 : decode cX11_drawn 12 = .ok (.aload_n 0, 1) := by decide +kernel
theorem dX11_drawn_13 : decode cX11_drawn 13 = .ok (.iload_n 2, 1) := by decide +kernel
theorem dX11_drawn_14 : decode cX11_drawn 14 = .ok (.i2l, 1) := by decide +kernel
set_option maxRecDepth 20000 in
theorem ggX11_drawn_X11_isPerson : GoodIn wsX11_drawn wsX11_isPerson := goodIn_r _ [14, 15, 8, 9, 5, 10, 25, 26, 27, 28, 29, 30, 31, 32, 33, 34, 35, 36, 37, 38, 39, 40, 41, 42, 43, 44, 45, 46, 47, 48, 49, 50, 51, 52, 53, 54, 55] (by rfl) (by decide +kernel)
set_option maxRecDepth 20000 in
theorem gX11_drawn_X11_isPerson : GoodIn wsX11_drawn (wsV RX11 206 RX11 yX11_isPerson wsX11_isPerson) := goodIn_app (goodIn_r _ [11, 12, 13, 5] (by rfl) (by decide +kernel)) ggX11_drawn_X11_isPerson
theorem dX11_drawn_15 : decode cX11_drawn 15 = .ok (.invokevirtual 206, 3) := by decide +kernel
theorem dX11_drawn_18 : decode cX11_drawn 18 = .ok (.ifCond .ne 6, 3) := by decide +kernel
theorem dX11_drawn_24 : decode cX11_drawn 24 = .ok (.aload_n 0, 1) := by decide +kernel
theorem dX11_drawn_25 : decode cX11_drawn 25 = .ok (.iload_n 1, 1) := by decide +kernel
theorem dX11_drawn_26 : decode cX11_drawn 26 = .ok (.i2l, 1) := by decide +kernel
set_option maxRecDepth 20000 in
theorem ggX11_drawn_X11_draws : GoodIn wsX11_drawn wsX11_draws := goodIn_r _ [19, 15, 20, 21, 22, 23, 24, 2, 25, 26, 27, 28, 29, 30, 31, 32, 33, 34, 35, 36, 37, 38, 39, 40, 41, 42, 43, 44, 45, 46, 47, 48, 49, 50, 51, 52, 53, 54, 55] (by rfl) (by decide +kernel)
set_option maxRecDepth 20000 in
theorem gX11_drawn_X11_draws : GoodIn wsX11_drawn (wsV RX11 401 RX11 yX11_draws wsX11_draws) := goodIn_app (goodIn_r _ [16, 17, 18, 5] (by rfl) (by decide +kernel)) ggX11_drawn_X11_draws
theorem dX11_drawn_27 : decode cX11_drawn 27 = .ok (.invokevirtual 401, 3) := by decide +kernel
theorem dX11_drawn_30 : decode cX11_drawn 30 = .ok (.aload_n 0, 1) := by decide +kernel
theorem dX11_drawn_31 : decode cX11_drawn 31 = .ok (.getfield 47, 3) := by decide +kernel
theorem dX11_drawn_34 : decode cX11_drawn 34 = .ok (.iload_n 2, 1) := by decide +kernel
theorem dX11_drawn_35 : decode cX11_drawn 35 = .ok (.iaload, 1) := by decide +kernel
theorem dX11_drawn_36 : decode cX11_drawn 36 = .ok (.ireturn, 1) := by decide +kernel
theorem dX11_luck_0 : decode cX11_luck 0 = .ok (.aload_n 0, 1) := by decide +kernel
theorem dX11_luck_1 : decode cX11_luck 1 = .ok (.iconst 0, 1) := by decide +kernel
theorem dX11_luck_2 : decode cX11_luck 2 = .ok (.putfield 59, 3) := by decide +kernel
theorem dX11_luck_5 : decode cX11_luck 5 = .ok (.iload_n 1, 1) := by decide +kernel
set_option maxRecDepth 20000 in
theorem ggX11_luck_X11_isSeed : GoodIn wsX11_luck wsX11_isSeed := goodIn_r _ [7, 8, 9, 10, 6, 11] (by rfl) (by decide +kernel)
set_option maxRecDepth 20000 in
theorem gX11_luck_X11_isSeed : GoodIn wsX11_luck (va_wsS RX11 398 yX11_isSeed wsX11_isSeed) := goodIn_app (goodIn_r _ [4, 5, 6] (by rfl) (by decide +kernel)) ggX11_luck_X11_isSeed
theorem dX11_luck_6 : decode cX11_luck 6 = .ok (.invokestatic 398, 3) := by decide +kernel
theorem dX11_luck_9 : decode cX11_luck 9 = .ok (.ifCond .eq 24, 3) := by decide +kernel
theorem dX11_luck_33 : decode cX11_luck 33 = .ok (.bipush (-2), 2) := by decide +kernel
theorem dX11_luck_35 : decode cX11_luck 35 = .ok (.ireturn, 1) := by decide +kernel
theorem dX11_luck_12 : decode cX11_luck 12 = .ok (.iload_n 2, 1) := by decide +kernel
theorem dX11_luck_13 : decode cX11_luck 13 = .ok (.i2l, 1) := by decide +kernel
theorem dX11_luck_14 : decode cX11_luck 14 = .ok (.lconst 1, 1) := by decide +kernel
theorem dX11_luck_15 : decode cX11_luck 15 = .ok (.ldc2_w 404, 3) := by decide +kernel
set_option maxRecDepth 20000 in
theorem ggX11_luck_X11_in : GoodIn wsX11_luck wsX11_in := goodIn_r _ [11] (by rfl) (by decide +kernel)
set_option maxRecDepth 20000 in
theorem gX11_luck_X11_in : GoodIn wsX11_luck (va_wsS RX11 64 yX11_in wsX11_in) := goodIn_app (goodIn_r _ [9, 10, 6] (by rfl) (by decide +kernel)) ggX11_luck_X11_in
theorem dX11_luck_18 : decode cX11_luck 18 = .ok (.invokestatic 64, 3) := by decide +kernel
theorem dX11_luck_21 : decode cX11_luck 21 = .ok (.ifCond .eq 12, 3) := by decide +kernel
theorem dX11_luck_24 : decode cX11_luck 24 = .ok (.aload_n 0, 1) := by decide +kernel
theorem dX11_luck_25 : decode cX11_luck 25 = .ok (.iload_n 3, 1) := by decide +kernel
theorem dX11_luck_26 : decode cX11_luck 26 = .ok (.i2l, 1) := by decide +kernel
set_option maxRecDepth 20000 in
theorem ggX11_luck_X11_isPerson : GoodIn wsX11_luck wsX11_isPerson := goodIn_r _ [15, 16, 9, 10, 6, 11, 26, 27, 28, 29, 30, 31, 32, 33, 34, 35, 36, 37, 38, 39, 40, 41, 42, 43, 44, 45, 46, 47, 48, 49, 50, 51, 52, 53, 54, 55, 56] (by rfl) (by decide +kernel)
set_option maxRecDepth 20000 in
theorem gX11_luck_X11_isPerson : GoodIn wsX11_luck (wsV RX11 206 RX11 yX11_isPerson wsX11_isPerson) := goodIn_app (goodIn_r _ [12, 13, 14, 6] (by rfl) (by decide +kernel)) ggX11_luck_X11_isPerson
theorem dX11_luck_27 : decode cX11_luck 27 = .ok (.invokevirtual 206, 3) := by decide +kernel
theorem dX11_luck_30 : decode cX11_luck 30 = .ok (.ifCond .ne 6, 3) := by decide +kernel
theorem dX11_luck_36 : decode cX11_luck 36 = .ok (.iconst 0, 1) := by decide +kernel
theorem dX11_luck_37 : decode cX11_luck 37 = .ok (.istore 4, 2) := by decide +kernel
theorem dX11_luck_39 : decode cX11_luck 39 = .ok (.iconst 0, 1) := by decide +kernel
theorem dX11_luck_40 : decode cX11_luck 40 = .ok (.istore 5, 2) := by decide +kernel
theorem dX11_luck_42 : decode cX11_luck 42 = .ok (.iload 5, 2) := by decide +kernel
theorem dX11_luck_44 : decode cX11_luck 44 = .ok (.iload_n 2, 1) := by decide +kernel
theorem dX11_luck_45 : decode cX11_luck 45 = .ok (.if_icmp .ge 39, 3) := by decide +kernel
theorem dX11_luck_84 : decode cX11_luck 84 = .ok (.iload 4, 2) := by decide +kernel
theorem dX11_luck_86 : decode cX11_luck 86 = .ok (.ireturn, 1) := by decide +kernel
theorem dX11_luck_48 : decode cX11_luck 48 = .ok (.aload_n 0, 1) := by decide +kernel
theorem dX11_luck_49 : decode cX11_luck 49 = .ok (.iload_n 1, 1) := by decide +kernel
theorem dX11_luck_50 : decode cX11_luck 50 = .ok (.i2l, 1) := by decide +kernel
theorem dX11_luck_51 : decode cX11_luck 51 = .ok (.iload 5, 2) := by decide +kernel
theorem dX11_luck_53 : decode cX11_luck 53 = .ok (.i2l, 1) := by decide +kernel
theorem dX11_luck_54 : decode cX11_luck 54 = .ok (.ladd, 1) := by decide +kernel
set_option maxRecDepth 20000 in
theorem ggX11_luck_X11_draws : GoodIn wsX11_luck wsX11_draws := goodIn_r _ [20, 16, 21, 22, 23, 24, 25, 3, 26, 27, 28, 29, 30, 31, 32, 33, 34, 35, 36, 37, 38, 39, 40, 41, 42, 43, 44, 45, 46, 47, 48, 49, 50, 51, 52, 53, 54, 55, 56] (by rfl) (by decide +kernel)
set_option maxRecDepth 20000 in
theorem gX11_luck_X11_draws : GoodIn wsX11_luck (wsV RX11 401 RX11 yX11_draws wsX11_draws) := goodIn_app (goodIn_r _ [17, 18, 19, 6] (by rfl) (by decide +kernel)) ggX11_luck_X11_draws
theorem dX11_luck_55 : decode cX11_luck 55 = .ok (.invokevirtual 401, 3) := by decide +kernel
theorem dX11_luck_58 : decode cX11_luck 58 = .ok (.iload 4, 2) := by decide +kernel
theorem dX11_luck_60 : decode cX11_luck 60 = .ok (.aload_n 0, 1) := by decide +kernel
theorem dX11_luck_61 : decode cX11_luck 61 = .ok (.getfield 47, 3) := by decide +kernel
theorem dX11_luck_64 : decode cX11_luck 64 = .ok (.iload_n 3, 1) := by decide +kernel
theorem dX11_luck_65 : decode cX11_luck 65 = .ok (.iaload, 1) := by decide +kernel
theorem dX11_luck_66 : decode cX11_luck 66 = .ok (.iload_n 3, 1) := by decide +kernel
theorem dX11_luck_75 : decode cX11_luck 75 = .ok (.iadd, 1) := by decide +kernel
theorem dX11_luck_76 : decode cX11_luck 76 = .ok (.istore 4, 2) := by decide +kernel
theorem dX11_luck_78 : decode cX11_luck 78 = .ok (.iinc 5 1, 3) := by decide +kernel
theorem dX11_luck_81 : decode cX11_luck 81 = .ok (.goto (-39), 3) := by decide +kernel
theorem dX11_luck_67 : decode cX11_luck 67 = .ok (.if_icmp .ne 7, 3) := by decide +kernel
theorem dX11_luck_74 : decode cX11_luck 74 = .ok (.iconst 0, 1) := by decide +kernel
theorem dX11_luck_70 : decode cX11_luck 70 = .ok (.iconst 1, 1) := by decide +kernel
theorem dX11_luck_71 : decode cX11_luck 71 = .ok (.goto 4, 3) := by decide +kernel
theorem dX11_winds_0 : decode cX11_winds 0 = .ok (.aload_n 0, 1) := by decide +kernel
theorem dX11_winds_1 : decode cX11_winds 1 = .ok (.iconst 0, 1) := by decide +kernel
theorem dX11_winds_2 : decode cX11_winds 2 = .ok (.putfield 59, 3) := by decide +kernel
theorem dX11_winds_5 : decode cX11_winds 5 = .ok (.iload_n 1, 1) := by decide +kernel
set_option maxRecDepth 20000 in
theorem ggX11_winds_X11_isSeed : GoodIn wsX11_winds wsX11_isSeed := goodIn_r _ [6, 7, 8, 9, 5, 10] (by rfl) (by decide +kernel)
set_option maxRecDepth 20000 in
theorem gX11_winds_X11_isSeed : GoodIn wsX11_winds (va_wsS RX11 398 yX11_isSeed wsX11_isSeed) := goodIn_app (goodIn_r _ [3, 4, 5] (by rfl) (by decide +kernel)) ggX11_winds_X11_isSeed
theorem dX11_winds_6 : decode cX11_winds 6 = .ok (.invokestatic 398, 3) := by decide +kernel
theorem dX11_winds_9 : decode cX11_winds 9 = .ok (.ifCond .eq 22, 3) := by decide +kernel
theorem dX11_winds_31 : decode cX11_winds 31 = .ok (.bipush (-2), 2) := by decide +kernel
theorem dX11_winds_33 : decode cX11_winds 33 = .ok (.ireturn, 1) := by decide +kernel
theorem dX11_winds_12 : decode cX11_winds 12 = .ok (.iload_n 2, 1) := by decide +kernel
theorem dX11_winds_13 : decode cX11_winds 13 = .ok (.i2l, 1) := by decide +kernel
theorem dX11_winds_14 : decode cX11_winds 14 = .ok (.lconst 1, 1) := by decide +kernel
theorem dX11_winds_15 : decode cX11_winds 15 = .ok (.ldc2_w 404, 3) := by decide +kernel
set_option maxRecDepth 20000 in
theorem ggX11_winds_X11_in : GoodIn wsX11_winds wsX11_in := goodIn_r _ [10] (by rfl) (by decide +kernel)
set_option maxRecDepth 20000 in
theorem gX11_winds_X11_in : GoodIn wsX11_winds (va_wsS RX11 64 yX11_in wsX11_in) := goodIn_app (goodIn_r _ [8, 9, 5] (by rfl) (by decide +kernel)) ggX11_winds_X11_in
theorem dX11_winds_18 : decode cX11_winds 18 = .ok (.invokestatic 64, 3) := by decide +kernel
theorem dX11_winds_21 : decode cX11_winds 21 = .ok (.ifCond .eq 10, 3) := by decide +kernel
theorem dX11_winds_24 : decode cX11_winds 24 = .ok (.aload_n 0, 1) := by decide +kernel
set_option maxRecDepth 20000 in
theorem ggX11_winds_X11_isCity : GoodIn wsX11_winds wsX11_isCity := goodIn_r _ [14, 15, 35, 36, 37, 38, 39, 40, 41, 42, 43, 44, 45, 46, 47, 48, 49, 50, 51, 52, 53, 54, 55, 56, 57, 58, 59, 60, 61, 62, 63, 64, 65] (by rfl) (by decide +kernel)
set_option maxRecDepth 20000 in
theorem gX11_winds_X11_isCity : GoodIn wsX11_winds (wsV RX11 209 RX11 yX11_isCity wsX11_isCity) := goodIn_app (goodIn_r _ [11, 12, 13, 5] (by rfl) (by decide +kernel)) ggX11_winds_X11_isCity
theorem dX11_winds_25 : decode cX11_winds 25 = .ok (.invokevirtual 209, 3) := by decide +kernel
theorem dX11_winds_28 : decode cX11_winds 28 = .ok (.ifCond .ne 6, 3) := by decide +kernel
theorem dX11_winds_34 : decode cX11_winds 34 = .ok (.iconst 0, 1) := by decide +kernel
theorem dX11_winds_35 : decode cX11_winds 35 = .ok (.istore_n 3, 1) := by decide +kernel
theorem dX11_winds_36 : decode cX11_winds 36 = .ok (.iconst 0, 1) := by decide +kernel
theorem dX11_winds_37 : decode cX11_winds 37 = .ok (.istore 4, 2) := by decide +kernel
theorem dX11_winds_39 : decode cX11_winds 39 = .ok (.iload 4, 2) := by decide +kernel
theorem dX11_winds_41 : decode cX11_winds 41 = .ok (.iload_n 2, 1) := by decide +kernel
theorem dX11_winds_42 : decode cX11_winds 42 = .ok (.if_icmp .ge 26, 3) := by decide +kernel
theorem dX11_winds_68 : decode cX11_winds 68 = .ok (.iload_n 3, 1) := by decide +kernel
theorem dX11_winds_69 : decode cX11_winds 69 = .ok (.ireturn, 1) := by decide +kernel
theorem dX11_winds_45 : decode cX11_winds 45 = .ok (.aload_n 0, 1) := by decide +kernel
theorem dX11_winds_46 : decode cX11_winds 46 = .ok (.iload_n 1, 1) := by decide +kernel
theorem dX11_winds_47 : decode cX11_winds 47 = .ok (.i2l, 1) := by decide +kernel
theorem dX11_winds_48 : decode cX11_winds 48 = .ok (.iload 4, 2) := by decide +kernel
theorem dX11_winds_50 : decode cX11_winds 50 = .ok (.i2l, 1) := by decide +kernel
theorem dX11_winds_51 : decode cX11_winds 51 = .ok (.ladd, 1) := by decide +kernel
set_option maxRecDepth 20000 in
theorem ggX11_winds_X11_draws : GoodIn wsX11_winds wsX11_draws := goodIn_r _ [19, 20, 21, 22, 23, 24, 25, 26, 35, 36, 37, 38, 39, 40, 41, 42, 43, 44, 45, 46, 47, 48, 49, 50, 51, 52, 53, 54, 55, 56, 57, 58, 59, 60, 61, 62, 63, 64, 65] (by rfl) (by decide +kernel)
set_option maxRecDepth 20000 in
theorem gX11_winds_X11_draws : GoodIn wsX11_winds (wsV RX11 401 RX11 yX11_draws wsX11_draws) := goodIn_app (goodIn_r _ [16, 17, 18, 5] (by rfl) (by decide +kernel)) ggX11_winds_X11_draws
theorem dX11_winds_52 : decode cX11_winds 52 = .ok (.invokevirtual 401, 3) := by decide +kernel
theorem dX11_winds_55 : decode cX11_winds 55 = .ok (.iload_n 3, 1) := by decide +kernel
theorem dX11_winds_56 : decode cX11_winds 56 = .ok (.aload_n 0, 1) := by decide +kernel
set_option maxRecDepth 20000 in
theorem ggX11_winds_X11_ringsNow : GoodIn wsX11_winds wsX11_ringsNow := goodIn_r _ [30, 20, 26, 31, 32, 33, 5, 34, 35, 36, 37, 38, 39, 40, 41, 42, 43, 44, 45, 46, 47, 48, 49, 50, 51, 52, 53, 54, 55, 56, 57, 58, 59, 60, 61, 62, 63, 64, 65] (by rfl) (by decide +kernel)
set_option maxRecDepth 20000 in
theorem gX11_winds_X11_ringsNow : GoodIn wsX11_winds (wsV RX11 275 RX11 yX11_ringsNow wsX11_ringsNow) := goodIn_app (goodIn_r _ [27, 28, 29, 5] (by rfl) (by decide +kernel)) ggX11_winds_X11_ringsNow
theorem dX11_winds_57 : decode cX11_winds 57 = .ok (.invokevirtual 275, 3) := by decide +kernel
theorem dX11_winds_60 : decode cX11_winds 60 = .ok (.iadd, 1) := by decide +kernel
theorem dX11_winds_61 : decode cX11_winds 61 = .ok (.istore_n 3, 1) := by decide +kernel
theorem dX11_winds_62 : decode cX11_winds 62 = .ok (.iinc 4 1, 3) := by decide +kernel
theorem dX11_winds_65 : decode cX11_winds 65 = .ok (.goto (-26), 3) := by decide +kernel
theorem dX11_rate_0 : decode cX11_rate 0 = .ok (.aload_n 0, 1) := by decide +kernel
theorem dX11_rate_1 : decode cX11_rate 1 = .ok (.iconst 0, 1) := by decide +kernel
theorem dX11_rate_2 : decode cX11_rate 2 = .ok (.putfield 59, 3) := by decide +kernel
theorem dX11_rate_5 : decode cX11_rate 5 = .ok (.aload_n 0, 1) := by decide +kernel
theorem dX11_rate_6 : decode cX11_rate 6 = .ok (.iload_n 1, 1) := by decide +kernel
theorem dX11_rate_7 : decode cX11_rate 7 = .ok (.i2l, 1) := by decide +kernel
set_option maxRecDepth 20000 in
theorem ggX11_rate_X11_isPerson : GoodIn wsX11_rate wsX11_isPerson := goodIn_r _ [9, 3, 10, 11, 8, 12, 13, 14, 15, 16, 17, 18, 19, 20, 21, 22, 23, 24, 25, 26, 27, 28, 29, 30, 31, 32, 33, 34, 35, 36, 37, 38, 39, 40, 41, 42, 43] (by rfl) (by decide +kernel)
set_option maxRecDepth 20000 in
theorem gX11_rate_X11_isPerson : GoodIn wsX11_rate (wsV RX11 206 RX11 yX11_isPerson wsX11_isPerson) := goodIn_app (goodIn_r _ [5, 6, 7, 8] (by rfl) (by decide +kernel)) ggX11_rate_X11_isPerson
theorem dX11_rate_8 : decode cX11_rate 8 = .ok (.invokevirtual 206, 3) := by decide +kernel
theorem dX11_rate_11 : decode cX11_rate 11 = .ok (.ifCond .eq 15, 3) := by decide +kernel
theorem dX11_rate_26 : decode cX11_rate 26 = .ok (.bipush (-2), 2) := by decide +kernel
theorem dX11_rate_28 : decode cX11_rate 28 = .ok (.ireturn, 1) := by decide +kernel
theorem dX11_rate_14 : decode cX11_rate 14 = .ok (.iload_n 2, 1) := by decide +kernel
theorem dX11_rate_15 : decode cX11_rate 15 = .ok (.i2l, 1) := by decide +kernel
theorem dX11_rate_16 : decode cX11_rate 16 = .ok (.lconst 1, 1) := by decide +kernel
theorem dX11_rate_17 : decode cX11_rate 17 = .ok (.ldc2_w 406, 3) := by decide +kernel
set_option maxRecDepth 20000 in
theorem ggX11_rate_X11_in : GoodIn wsX11_rate wsX11_in := goodIn_r _ [12] (by rfl) (by decide +kernel)
set_option maxRecDepth 20000 in
theorem gX11_rate_X11_in : GoodIn wsX11_rate (va_wsS RX11 64 yX11_in wsX11_in) := goodIn_app (goodIn_r _ [10, 11, 8] (by rfl) (by decide +kernel)) ggX11_rate_X11_in
theorem dX11_rate_20 : decode cX11_rate 20 = .ok (.invokestatic 64, 3) := by decide +kernel
theorem dX11_rate_23 : decode cX11_rate 23 = .ok (.ifCond .ne 6, 3) := by decide +kernel
theorem dX11_rate_29 : decode cX11_rate 29 = .ok (.aload_n 0, 1) := by decide +kernel
theorem dX11_rate_30 : decode cX11_rate 30 = .ok (.getfield 34, 3) := by decide +kernel
theorem dX11_rate_33 : decode cX11_rate 33 = .ok (.iconst 2, 1) := by decide +kernel
theorem dX11_rate_34 : decode cX11_rate 34 = .ok (.iaload, 1) := by decide +kernel
theorem dX11_rate_35 : decode cX11_rate 35 = .ok (.ifCond .le 6, 3) := by decide +kernel
theorem dX11_rate_41 : decode cX11_rate 41 = .ok (.aload_n 0, 1) := by decide +kernel
theorem dX11_rate_42 : decode cX11_rate 42 = .ok (.getfield 37, 3) := by decide +kernel
theorem dX11_rate_45 : decode cX11_rate 45 = .ok (.iconst 5, 1) := by decide +kernel
theorem dX11_rate_46 : decode cX11_rate 46 = .ok (.iload_n 1, 1) := by decide +kernel
theorem dX11_rate_47 : decode cX11_rate 47 = .ok (.imul, 1) := by decide +kernel
theorem dX11_rate_48 : decode cX11_rate 48 = .ok (.iaload, 1) := by decide +kernel
theorem dX11_rate_49 : decode cX11_rate 49 = .ok (.istore_n 3, 1) := by decide +kernel
theorem dX11_rate_50 : decode cX11_rate 50 = .ok (.aload_n 0, 1) := by decide +kernel
theorem dX11_rate_51 : decode cX11_rate 51 = .ok (.getfield 37, 3) := by decide +kernel
theorem dX11_rate_54 : decode cX11_rate 54 = .ok (.iconst 5, 1) := by decide +kernel
theorem dX11_rate_55 : decode cX11_rate 55 = .ok (.iload_n 1, 1) := by decide +kernel
theorem dX11_rate_56 : decode cX11_rate 56 = .ok (.imul, 1) := by decide +kernel
theorem dX11_rate_57 : decode cX11_rate 57 = .ok (.iload_n 2, 1) := by decide +kernel
theorem dX11_rate_58 : decode cX11_rate 58 = .ok (.iastore, 1) := by decide +kernel
theorem dX11_rate_59 : decode cX11_rate 59 = .ok (.iload_n 3, 1) := by decide +kernel
theorem dX11_rate_60 : decode cX11_rate 60 = .ok (.ireturn, 1) := by decide +kernel
theorem dX11_rate_38 : decode cX11_rate 38 = .ok (.bipush (-5), 2) := by decide +kernel
theorem dX11_rate_40 : decode cX11_rate 40 = .ok (.ireturn, 1) := by decide +kernel
theorem dX11_forge_0 : decode cX11_forge 0 = .ok (.aload_n 0, 1) := by decide +kernel
theorem dX11_forge_1 : decode cX11_forge 1 = .ok (.iconst 0, 1) := by decide +kernel
theorem dX11_forge_2 : decode cX11_forge 2 = .ok (.putfield 59, 3) := by decide +kernel
theorem dX11_forge_5 : decode cX11_forge 5 = .ok (.aload_n 0, 1) := by decide +kernel
theorem dX11_forge_6 : decode cX11_forge 6 = .ok (.iload_n 1, 1) := by decide +kernel
theorem dX11_forge_7 : decode cX11_forge 7 = .ok (.i2l, 1) := by decide +kernel
set_option maxRecDepth 20000 in
theorem ggX11_forge_X11_isPerson : GoodIn wsX11_forge wsX11_isPerson := goodIn_r _ [8, 2, 9, 10, 7, 11, 12, 13, 14, 15, 16, 17, 18, 19, 20, 21, 22, 23, 24, 25, 26, 27, 28, 29, 30, 31, 32, 33, 34, 35, 36, 37, 38, 39, 40, 41, 42] (by rfl) (by decide +kernel)
set_option maxRecDepth 20000 in
theorem gX11_forge_X11_isPerson : GoodIn wsX11_forge (wsV RX11 206 RX11 yX11_isPerson wsX11_isPerson) := goodIn_app (goodIn_r _ [4, 5, 6, 7] (by rfl) (by decide +kernel)) ggX11_forge_X11_isPerson
theorem dX11_forge_8 : decode cX11_forge 8 = .ok (.invokevirtual 206, 3) := by decide +kernel
theorem dX11_forge_11 : decode cX11_forge 11 = .ok (.ifCond .eq 13, 3) := by decide +kernel
theorem dX11_forge_24 : decode cX11_forge 24 = .ok (.bipush (-2), 2) := by decide +kernel
theorem dX11_forge_26 : decode cX11_forge 26 = .ok (.ireturn, 1) := by decide +kernel
theorem dX11_forge_14 : decode cX11_forge 14 = .ok (.iload_n 2, 1) := by decide +kernel
theorem dX11_forge_15 : decode cX11_forge 15 = .ok (.i2l, 1) := by decide +kernel
theorem dX11_forge_16 : decode cX11_forge 16 = .ok (.lconst 0, 1) := by decide +kernel
theorem dX11_forge_17 : decode cX11_forge 17 = .ok (.lconst 1, 1) := by decide +kernel
set_option maxRecDepth 20000 in
theorem ggX11_forge_X11_in : GoodIn wsX11_forge wsX11_in := goodIn_r _ [11] (by rfl) (by decide +kernel)
set_option maxRecDepth 20000 in
theorem gX11_forge_X11_in : GoodIn wsX11_forge (va_wsS RX11 64 yX11_in wsX11_in) := goodIn_app (goodIn_r _ [9, 10, 7] (by rfl) (by decide +kernel)) ggX11_forge_X11_in
theorem dX11_forge_18 : decode cX11_forge 18 = .ok (.invokestatic 64, 3) := by decide +kernel
theorem dX11_forge_21 : decode cX11_forge 21 = .ok (.ifCond .ne 6, 3) := by decide +kernel
theorem dX11_forge_27 : decode cX11_forge 27 = .ok (.aload_n 0, 1) := by decide +kernel
theorem dX11_forge_28 : decode cX11_forge 28 = .ok (.getfield 34, 3) := by decide +kernel
theorem dX11_forge_31 : decode cX11_forge 31 = .ok (.iconst 2, 1) := by decide +kernel
theorem dX11_forge_32 : decode cX11_forge 32 = .ok (.iaload, 1) := by decide +kernel
theorem dX11_forge_33 : decode cX11_forge 33 = .ok (.ifCond .le 6, 3) := by decide +kernel
theorem dX11_forge_39 : decode cX11_forge 39 = .ok (.aload_n 0, 1) := by decide +kernel
theorem dX11_forge_40 : decode cX11_forge 40 = .ok (.getfield 37, 3) := by decide +kernel
theorem dX11_forge_43 : decode cX11_forge 43 = .ok (.iconst 5, 1) := by decide +kernel
theorem dX11_forge_44 : decode cX11_forge 44 = .ok (.iload_n 1, 1) := by decide +kernel
theorem dX11_forge_45 : decode cX11_forge 45 = .ok (.imul, 1) := by decide +kernel
theorem dX11_forge_46 : decode cX11_forge 46 = .ok (.iconst 4, 1) := by decide +kernel
theorem dX11_forge_47 : decode cX11_forge 47 = .ok (.iadd, 1) := by decide +kernel
theorem dX11_forge_48 : decode cX11_forge 48 = .ok (.iaload, 1) := by decide +kernel
theorem dX11_forge_49 : decode cX11_forge 49 = .ok (.istore_n 3, 1) := by decide +kernel
theorem dX11_forge_50 : decode cX11_forge 50 = .ok (.aload_n 0, 1) := by decide +kernel
theorem dX11_forge_51 : decode cX11_forge 51 = .ok (.getfield 37, 3) := by decide +kernel
theorem dX11_forge_54 : decode cX11_forge 54 = .ok (.iconst 5, 1) := by decide +kernel
theorem dX11_forge_55 : decode cX11_forge 55 = .ok (.iload_n 1, 1) := by decide +kernel
theorem dX11_forge_56 : decode cX11_forge 56 = .ok (.imul, 1) := by decide +kernel
theorem dX11_forge_57 : decode cX11_forge 57 = .ok (.iconst 4, 1) := by decide +kernel
theorem dX11_forge_58 : decode cX11_forge 58 = .ok (.iadd, 1) := by decide +kernel
theorem dX11_forge_59 : decode cX11_forge 59 = .ok (.iload_n 2, 1) := by decide +kernel
theorem dX11_forge_60 : decode cX11_forge 60 = .ok (.iastore, 1) := by decide +kernel
theorem dX11_forge_61 : decode cX11_forge 61 = .ok (.iload_n 3, 1) := by decide +kernel
theorem dX11_forge_62 : decode cX11_forge 62 = .ok (.ireturn, 1) := by decide +kernel
theorem dX11_forge_36 : decode cX11_forge 36 = .ok (.bipush (-5), 2) := by decide +kernel
theorem dX11_forge_38 : decode cX11_forge 38 = .ok (.ireturn, 1) := by decide +kernel
set_option maxHeartbeats 4000000 in
set_option maxRecDepth 100000 in
theorem a_X11_freed (l : Launch) (G : va_G) (ct : Nat → ClassId) (a0 : Nat) (n0_0 : Int32) (a1 : Nat) (a2 : Nat) (a3 : Nat) (a4 : Nat) (a5 : Nat) (n0_6 : Int32) (n0_7 : Int32) (n0_8 : Int32) (n0_9 : Int32) (n0_10 : Int32) (l0_11 : Int64) (n0_12 : Int32) (n0_13 : Int32) (n0_14 : Int32) (n0_15 : Int32) (a6 : Nat) (a7 : Nat) (a8 : Nat) (a9 : Nat) (a10 : Nat) (a11 : Nat) (a12 : Nat) (a13 : Nat) (n0_24 : Int32) (n0_25 : Int32) (n0_26 : Int32) (n0_27 : Int32) (a14 : Nat) (n0_29 : Int32) (n0_30 : Int32) (f1 : Nat → Int32) (f2 : Nat → Int32) (f3 : Nat → Int64) (f6 : Nat → Int32) (f7 : Nat → Int32) (f8 : Nat → Int32) (f11 : Nat → Int32) (f12 : Nat → Int32) (f13 : Nat → Int32) (p0 : Int32) (hp_f2 : ar 0 60 f2) (hp_n0_6 : rg 0 900 n0_6) (hp_f7 : hsI f7) (hp_f8 : psI f8) (hp_f11 : ar (-1) 7 f11) (hp_f13 : ar (-1) 7 f13) : Met l yX11_freed wsX11_freed ({ frames := 4, cells := 0, slots := 0, locals := 87 }) (va_Pc [.ref a0, .int p0] (wrP G ct [(a0, .inr (11, [.int n0_0, .ref a1, .ref a2, .ref a3, .ref a4, .ref a5, .int n0_6, .int n0_7, .int n0_8, .int n0_9, .int n0_10, .long l0_11, .int n0_12, .int n0_13, .int n0_14, .int n0_15, .ref a6, .ref a7, .ref a8, .ref a9, .ref a10, .ref a11, .ref a12, .ref a13, .int n0_24, .int n0_25, .int n0_26, .int n0_27, .ref a14, .int n0_29, .int n0_30])), (a1, .inl (ct 0, 4, .inl f1)), (a2, .inl (ct 0, 4, .inl f2)), (a3, .inl (ct 3, 240, .inr (.inl f3))), (a6, .inl (ct 0, 5, .inl f6)), (a7, .inl (ct 0, 15, .inl f7)), (a8, .inl (ct 0, 200, .inl f8)), (a11, .inl (ct 0, 8, .inl f11)), (a12, .inl (ct 0, 8, .inl f12)), (a13, .inl (ct 0, 8, .inl f13))])) (va_Qi (fun (r : Int32) (u : SU) => rg (-6) 255 r ∧ (r = 0 → rg 0 3 p0) ∧ (¬ r = (-2) → rg 0 3 p0) ∧ ar (-1) 7 (u.2.1 0) ∧ ar (-1) 7 (u.2.1 2) ∧ rg 0 0 (u.1 0) ∧ True) (fun u t => va_P G vwCl ((fun u : SU => [(a0, .inr (11, [.int (u.1 0), .ref a1, .ref a2, .ref a3, .ref a4, .ref a5, .int n0_6, .int n0_7, .int n0_8, .int n0_9, .int n0_10, .long l0_11, .int n0_12, .int n0_13, .int n0_14, .int n0_15, .ref a6, .ref a7, .ref a8, .ref a9, .ref a10, .ref a11, .ref a12, .ref a13, .int (u.1 1), .int (u.1 2), .int (u.1 3), .int (u.1 4), .ref a14, .int n0_29, .int n0_30])), (a1, .inl (ct 0, 4, .inl f1)), (a2, .inl (ct 0, 4, .inl f2)), (a3, .inl (ct 3, 240, .inr (.inl f3))), (a6, .inl (ct 0, 5, .inl f6)), (a7, .inl (ct 0, 15, .inl f7)), (a8, .inl (ct 0, 200, .inl f8)), (a11, .inl (ct 0, 8, .inl (u.2.1 0))), (a12, .inl (ct 0, 8, .inl (u.2.1 1))), (a13, .inl (ct 0, 8, .inl (u.2.1 2)))]) u) t.heap) (aset [(a0, .inr (11, [.int n0_0, .ref a1, .ref a2, .ref a3, .ref a4, .ref a5, .int n0_6, .int n0_7, .int n0_8, .int n0_9, .int n0_10, .long l0_11, .int n0_12, .int n0_13, .int n0_14, .int n0_15, .ref a6, .ref a7, .ref a8, .ref a9, .ref a10, .ref a11, .ref a12, .ref a13, .int n0_24, .int n0_25, .int n0_26, .int n0_27, .ref a14, .int n0_29, .int n0_30])), (a1, .inl (ct 0, 4, .inl f1)), (a2, .inl (ct 0, 4, .inl f2)), (a3, .inl (ct 3, 240, .inr (.inl f3))), (a6, .inl (ct 0, 5, .inl f6)), (a7, .inl (ct 0, 15, .inl f7)), (a8, .inl (ct 0, 200, .inl f8)), (a11, .inl (ct 0, 8, .inl f11)), (a12, .inl (ct 0, 8, .inl f12)), (a13, .inl (ct 0, 8, .inl f13))])) 0 0 (aset [(a0, .inr (11, [.int n0_0, .ref a1, .ref a2, .ref a3, .ref a4, .ref a5, .int n0_6, .int n0_7, .int n0_8, .int n0_9, .int n0_10, .long l0_11, .int n0_12, .int n0_13, .int n0_14, .int n0_15, .ref a6, .ref a7, .ref a8, .ref a9, .ref a10, .ref a11, .ref a12, .ref a13, .int n0_24, .int n0_25, .int n0_26, .int n0_27, .ref a14, .int n0_29, .int n0_30])), (a1, .inl (ct 0, 4, .inl f1)), (a2, .inl (ct 0, 4, .inl f2)), (a3, .inl (ct 3, 240, .inr (.inl f3))), (a6, .inl (ct 0, 5, .inl f6)), (a7, .inl (ct 0, 15, .inl f7)), (a8, .inl (ct 0, 200, .inl f8)), (a11, .inl (ct 0, 8, .inl f11)), (a12, .inl (ct 0, 8, .inl f12)), (a13, .inl (ct 0, 8, .inl f13))]) := by
  refine Met.ofW (cc := cX11_freed) (maxL := 3) (ret := (some .int)) (by decide) rfl ?_
  intro p e s m args below meth c s₁ B hml hv
  obtain ⟨rfl, hP, hK, hD0⟩ := hv
  have hx := B.exec
  have hb := B.bytes
  have hr := B.returns
  have hts := atoms_spec (ws := wsX11_freed) B.pre
  have hown : s.vm.findClass RX11 = some m.cls := findClass_of_methodNamed B.named
  have hlocks := B.notSynchronized
  have hD := hD0.aself
  generalize hAe : aset [(a0, .inr (11, [.int n0_0, .ref a1, .ref a2, .ref a3, .ref a4, .ref a5, .int n0_6, .int n0_7, .int n0_8, .int n0_9, .int n0_10, .long l0_11, .int n0_12, .int n0_13, .int n0_14, .int n0_15, .ref a6, .ref a7, .ref a8, .ref a9, .ref a10, .ref a11, .ref a12, .ref a13, .int n0_24, .int n0_25, .int n0_26, .int n0_27, .ref a14, .int n0_29, .int n0_30])), (a1, .inl (ct 0, 4, .inl f1)), (a2, .inl (ct 0, 4, .inl f2)), (a3, .inl (ct 3, 240, .inr (.inl f3))), (a6, .inl (ct 0, 5, .inl f6)), (a7, .inl (ct 0, 15, .inl f7)), (a8, .inl (ct 0, 200, .inl f8)), (a11, .inl (ct 0, 8, .inl f11)), (a12, .inl (ct 0, 8, .inl f12)), (a13, .inl (ct 0, 8, .inl f13))] = A at hD ⊢
  have hS : va_S A s.heap s.heap [] := va_S.rf
  have hl := lv_entry ([.ref a0, .int p0]) (n := 3) (Nat.le_of_ble_eq_true rfl)
  rw [lg_entry_eq]
  generalize (lg_sl ([.ref a0, .int p0]) ++ List.replicate (3 - (lg_sl ([.ref a0, .int p0])).length) Slot.unset).toArray = ls at hl ⊢
  have hl : lv_has ls 3 [(0, .ref a0), (1, .int p0)] := hl
  refine lv_aload_n hx hb dX11_freed_0 rfl (lv_at hl 0 rfl) ?_
  refine lv_iconst (v := 0) hx hb dX11_freed_1 (by decide) ?_
  refine va_put (D := G) (ci := 11) (v := .int 0) (ty := .int) (C := RX11) (T := TX11) (N := 31) hx hb hts (by decide +kernel) tyX11 tyX11_ok nmX11 hown hK.1 hP hD hS 0 rfl rfl 0 (by decide) (hts (.fieldLink RX11 59 "CardHolderModel" "thrown" "I") (by decide +kernel)) (fun _ h9 => h9) rfl (by decide +kernel) rfl rfl (Nat.le_of_ble_eq_true rfl) dX11_freed_2 (fun H locs hP hD hS => ?_)
  refine lv_aload_n hx hb dX11_freed_5 rfl (lv_at hl 0 rfl) ?_
  refine lv_iload_n hx hb dX11_freed_6 rfl (lv_at hl 1 rfl) ?_
  refine ro_calli (va_runV (As := [.int p0]) (rest := []) ⟨hx, hb, hml, hown, hts⟩ (a_X11_whyNotJudge l G ct a0 (0 : Int32) a1 a2 a3 a4 a5 n0_6 n0_7 n0_8 n0_9 n0_10 l0_11 n0_12 n0_13 n0_14 n0_15 a6 a7 a8 a9 a10 a11 a12 a13 n0_24 n0_25 n0_26 n0_27 a14 n0_29 n0_30 f1 f2 f3 f6 f7 p0 hp_f2 hp_n0_6 hp_f7) (cwV 1 hts gX11_freed_X11_whyNotJudge rfl rfl rfl (by decide +kernel) ⟨Nat.le_of_ble_eq_true rfl, Nat.le_of_ble_eq_true rfl⟩) (ro_preV 11 0 hK (hP.sub [0, 1, 2, 3, 4, 5] rfl) rfl rfl) rfl rfl hl.1 rfl (lv_room (Nat.le_of_ble_eq_true rfl)) dX11_freed_7 ⟨Nat.zero_le _, Nat.zero_le _⟩) hS hP (fun r7 H locs wr7 hP hS => ?_)
  obtain ⟨p_1, p_2, p_3, p_4, -⟩ := wr7
  refine lv_istore_n (lv' := [(2, .int r7), (0, .ref a0), (1, .int p0)]) hx hb dX11_freed_10 rfl hl (by decide) rfl (fun ls hl => ?_)
  refine lv_iload_n hx hb dX11_freed_11 rfl (lv_at hl 0 rfl) ?_
  refine lv_if_eq (tgt := 17) hx hb dX11_freed_12 (by decide) (fun c12 => ?_) (fun c12 => ?_)
  · have h_5 : rg 0 0 r7 := r_eq_l_i (e := 0) (f := 0) c12 p_1 (rgn 0 (x := 0) (by decide)) (by decide)
    have h_6 : rg 0 3 p0 := (p_2 (req h_5 (y := 0) (by decide)))
    refine lv_aload_n hx hb dX11_freed_17 rfl (lv_at hl 1 rfl) ?_
    refine lv_iload_n hx hb dX11_freed_18 rfl (lv_at hl 2 rfl) ?_
    refine wj_calli (wr := [(a1, .inl (ct 0, 4, .inl f1)), (a6, .inl (ct 0, 5, .inl f6))]) (w1 := (fun u : SU => [(a0, .inr (11, [.int 0, .ref a1, .ref a2, .ref a3, .ref a4, .ref a5, .int n0_6, .int n0_7, .int n0_8, .int n0_9, .int n0_10, .long l0_11, .int n0_12, .int n0_13, .int n0_14, .int n0_15, .ref a6, .ref a7, .ref a8, .ref a9, .ref a10, .ref a11, .ref a12, .ref a13, .int (u.1 0), .int (u.1 1), .int (u.1 2), .int (u.1 3), .ref a14, .int n0_29, .int n0_30])), (a2, .inl (ct 0, 4, .inl f2)), (a3, .inl (ct 3, 240, .inr (.inl f3))), (a7, .inl (ct 0, 15, .inl f7)), (a8, .inl (ct 0, 200, .inl f8)), (a11, .inl (ct 0, 8, .inl (u.2.1 0))), (a12, .inl (ct 0, 8, .inl (u.2.1 1))), (a13, .inl (ct 0, 8, .inl (u.2.1 2)))])) (va_runV (As := [.int p0]) (rest := []) ⟨hx, hb, hml, hown, hts⟩ (a_X11_judges l G ct a0 (0 : Int32) a1 a2 a3 a4 a5 n0_6 n0_7 n0_8 n0_9 n0_10 l0_11 n0_12 n0_13 n0_14 n0_15 a6 a7 a8 a9 a10 a11 a12 a13 n0_24 n0_25 n0_26 n0_27 a14 n0_29 n0_30 f2 f3 f7 f8 f11 f12 f13 p0 hp_f2 hp_n0_6 hp_f7 hp_f8 hp_f11 hp_f13 h_6 (p_4 (req h_5 (y := 0) (by decide)))) (cwV 1 hts gX11_freed_X11_judges rfl rfl rfl (by decide +kernel) ⟨Nat.le_of_ble_eq_true rfl, Nat.le_of_ble_eq_true rfl⟩) (wr_preV 11 0 hK (hP.sub [0, 2, 3, 5, 6, 7, 8, 9] rfl) (hD.sub [0, 2, 3, 5, 6, 7, 8, 9] (by decide) rfl) rfl rfl) rfl rfl hl.1 rfl (lv_room (Nat.le_of_ble_eq_true rfl)) dX11_freed_19 ⟨Nat.zero_le _, Nat.zero_le _⟩) hS hP hD [0, 2, 3, 5, 6, 7, 8, 9] [1, 4] rfl rfl (by decide) (fun _ => rfl) (fun r19 ur19 H locs wr19 hP hD hS => ?_)
    have hP : va_P G vwCl [(a0, .inr (11, [.int 0, .ref a1, .ref a2, .ref a3, .ref a4, .ref a5, .int n0_6, .int n0_7, .int n0_8, .int n0_9, .int n0_10, .long l0_11, .int n0_12, .int n0_13, .int n0_14, .int n0_15, .ref a6, .ref a7, .ref a8, .ref a9, .ref a10, .ref a11, .ref a12, .ref a13, .int (ur19.1 0), .int (ur19.1 1), .int (ur19.1 2), .int (ur19.1 3), .ref a14, .int n0_29, .int n0_30])), (a1, .inl (ct 0, 4, .inl f1)), (a2, .inl (ct 0, 4, .inl f2)), (a3, .inl (ct 3, 240, .inr (.inl f3))), (a6, .inl (ct 0, 5, .inl f6)), (a7, .inl (ct 0, 15, .inl f7)), (a8, .inl (ct 0, 200, .inl f8)), (a11, .inl (ct 0, 8, .inl (ur19.2.1 0))), (a12, .inl (ct 0, 8, .inl (ur19.2.1 1))), (a13, .inl (ct 0, 8, .inl (ur19.2.1 2)))] H := hP.sub [2, 0, 3, 4, 1, 5, 6, 7, 8, 9] rfl
    have hD : va_D A [(a0, .inr (11, [.int 0, .ref a1, .ref a2, .ref a3, .ref a4, .ref a5, .int n0_6, .int n0_7, .int n0_8, .int n0_9, .int n0_10, .long l0_11, .int n0_12, .int n0_13, .int n0_14, .int n0_15, .ref a6, .ref a7, .ref a8, .ref a9, .ref a10, .ref a11, .ref a12, .ref a13, .int (ur19.1 0), .int (ur19.1 1), .int (ur19.1 2), .int (ur19.1 3), .ref a14, .int n0_29, .int n0_30])), (a1, .inl (ct 0, 4, .inl f1)), (a2, .inl (ct 0, 4, .inl f2)), (a3, .inl (ct 3, 240, .inr (.inl f3))), (a6, .inl (ct 0, 5, .inl f6)), (a7, .inl (ct 0, 15, .inl f7)), (a8, .inl (ct 0, 200, .inl f8)), (a11, .inl (ct 0, 8, .inl (ur19.2.1 0))), (a12, .inl (ct 0, 8, .inl (ur19.2.1 1))), (a13, .inl (ct 0, 8, .inl (ur19.2.1 2)))] := hD.sub [2, 0, 3, 4, 1, 5, 6, 7, 8, 9] (by decide) rfl
    obtain ⟨p_7, p_8, p_9, p_10, p_11, -⟩ := wr19
    refine lv_pop hx hb dX11_freed_22 rfl ?_
    refine lv_aload_n hx hb dX11_freed_23 rfl (lv_at hl 1 rfl) ?_
    refine ro_calli (va_runV (As := []) (rest := []) ⟨hx, hb, hml, hown, hts⟩ (a_X11_freeNow l G ct a0 (0 : Int32) a1 a2 a3 a4 a5 n0_6 n0_7 n0_8 n0_9 n0_10 l0_11 n0_12 n0_13 n0_14 n0_15 a6 a7 a8 a9 a10 a11 a12 a13 (ur19.1 0) (ur19.1 1) (ur19.1 2) (ur19.1 3) a14 n0_29 n0_30 f7 (ur19.2.1 0) hp_n0_6 hp_f7 p_8) (cwV 0 hts gX11_freed_X11_freeNow rfl rfl rfl (by decide +kernel) ⟨Nat.le_of_ble_eq_true rfl, Nat.le_of_ble_eq_true rfl⟩) (ro_preV 11 0 hK (hP.sub [0, 5, 7] rfl) rfl rfl) rfl rfl hl.1 rfl (lv_room (Nat.le_of_ble_eq_true rfl)) dX11_freed_24 ⟨Nat.zero_le _, Nat.zero_le _⟩) hS hP (fun r24 H locs wr24 hP hS => ?_)
    obtain ⟨p_12, -⟩ := wr24
    exact W.iret (v := r24) hx hb hr (fun t ht hW => ⟨⟨r24, (fun k => ([0, ur19.1 0, ur19.1 1, ur19.1 2, ur19.1 3] : List Int32).getD k 0, fun k => ([ur19.2.1 0, ur19.2.1 1, ur19.2.1 2] : List (Nat → Int32)).getD k (fun _ => 0), fun k => ([] : List (Nat → Int64)).getD k (fun _ => 0)), rfl, ⟨(rg_w (c := (-6)) (d := 255) p_12 (by decide)), (fun _ => h_6), (fun _ => h_6), p_8, p_9, (rgn 0 (x := 0) (by decide)), trivial⟩, hp_at ht hP⟩, hS.F ht⟩) hS.2.2 dX11_freed_27
  · have h_13 : rg (-6) (-1) r7 := r_ne_hi_i c12 p_1 (by decide) (by decide)
    refine lv_iload_n hx hb dX11_freed_15 rfl (lv_at hl 0 rfl) ?_
    exact W.iret (v := r7) hx hb hr (fun t ht hW => ⟨⟨r7, (fun k => ([0, n0_24, n0_25, n0_26, n0_27] : List Int32).getD k 0, fun k => ([f11, f12, f13] : List (Nat → Int32)).getD k (fun _ => 0), fun k => ([] : List (Nat → Int64)).getD k (fun _ => 0)), rfl, ⟨(rg_w (c := (-6)) (d := 255) h_13 (by decide)), (fun hq => rg_w (p_2 hq) (by decide)), (fun hq => rg_w (p_3 hq) (by decide)), hp_f11, hp_f13, (rgn 0 (x := 0) (by decide)), trivial⟩, hp_at ht hP⟩, hS.F ht⟩) hS.2.2 dX11_freed_16

set_option maxHeartbeats 4000000 in
set_option maxRecDepth 100000 in
theorem a_X11_draws (l : Launch) (G : va_G) (ct : Nat → ClassId) (a0 : Nat) (n0_0 : Int32) (a1 : Nat) (a2 : Nat) (a3 : Nat) (a4 : Nat) (a5 : Nat) (n0_6 : Int32) (n0_7 : Int32) (n0_8 : Int32) (n0_9 : Int32) (n0_10 : Int32) (l0_11 : Int64) (n0_12 : Int32) (n0_13 : Int32) (n0_14 : Int32) (n0_15 : Int32) (a6 : Nat) (a7 : Nat) (a8 : Nat) (a9 : Nat) (a10 : Nat) (a11 : Nat) (a12 : Nat) (a13 : Nat) (n0_24 : Int32) (n0_25 : Int32) (n0_26 : Int32) (n0_27 : Int32) (a14 : Nat) (n0_29 : Int32) (n0_30 : Int32) (f7 : Nat → Int32) (f11 : Nat → Int32) (f12 : Nat → Int32) (p0 : Int64) (hp_n0_6 : rg 0 900 n0_6) (hp_f7 : hsI f7) (hp_f11 : ar (-1) 7 f11) (hp_p0 : rl 0 2000000019 p0) : Met l yX11_draws wsX11_draws ({ frames := 0, cells := 0, slots := 0, locals := 0 }) (va_Pc [.ref a0, .long p0] (wrP G ct [(a0, .inr (11, [.int n0_0, .ref a1, .ref a2, .ref a3, .ref a4, .ref a5, .int n0_6, .int n0_7, .int n0_8, .int n0_9, .int n0_10, .long l0_11, .int n0_12, .int n0_13, .int n0_14, .int n0_15, .ref a6, .ref a7, .ref a8, .ref a9, .ref a10, .ref a11, .ref a12, .ref a13, .int n0_24, .int n0_25, .int n0_26, .int n0_27, .ref a14, .int n0_29, .int n0_30])), (a7, .inl (ct 0, 15, .inl f7)), (a11, .inl (ct 0, 8, .inl f11)), (a12, .inl (ct 0, 8, .inl f12))])) (va_Qv (fun u : SU => ar (-1) 7 (u.2.1 0) ∧ True) (fun u t => va_P G vwCl ((fun u : SU => [(a0, .inr (11, [.int n0_0, .ref a1, .ref a2, .ref a3, .ref a4, .ref a5, .int n0_6, .int n0_7, .int n0_8, .int n0_9, .int n0_10, .long l0_11, .int n0_12, .int n0_13, .int n0_14, .int n0_15, .ref a6, .ref a7, .ref a8, .ref a9, .ref a10, .ref a11, .ref a12, .ref a13, .int n0_24, .int n0_25, .int n0_26, .int n0_27, .ref a14, .int n0_29, .int n0_30])), (a7, .inl (ct 0, 15, .inl f7)), (a11, .inl (ct 0, 8, .inl (u.2.1 0))), (a12, .inl (ct 0, 8, .inl (u.2.1 1)))]) u) t.heap) (aset [(a0, .inr (11, [.int n0_0, .ref a1, .ref a2, .ref a3, .ref a4, .ref a5, .int n0_6, .int n0_7, .int n0_8, .int n0_9, .int n0_10, .long l0_11, .int n0_12, .int n0_13, .int n0_14, .int n0_15, .ref a6, .ref a7, .ref a8, .ref a9, .ref a10, .ref a11, .ref a12, .ref a13, .int n0_24, .int n0_25, .int n0_26, .int n0_27, .ref a14, .int n0_29, .int n0_30])), (a7, .inl (ct 0, 15, .inl f7)), (a11, .inl (ct 0, 8, .inl f11)), (a12, .inl (ct 0, 8, .inl f12))])) 0 0 (aset [(a0, .inr (11, [.int n0_0, .ref a1, .ref a2, .ref a3, .ref a4, .ref a5, .int n0_6, .int n0_7, .int n0_8, .int n0_9, .int n0_10, .long l0_11, .int n0_12, .int n0_13, .int n0_14, .int n0_15, .ref a6, .ref a7, .ref a8, .ref a9, .ref a10, .ref a11, .ref a12, .ref a13, .int n0_24, .int n0_25, .int n0_26, .int n0_27, .ref a14, .int n0_29, .int n0_30])), (a7, .inl (ct 0, 15, .inl f7)), (a11, .inl (ct 0, 8, .inl f11)), (a12, .inl (ct 0, 8, .inl f12))]) := by
  refine Met.ofW (cc := cX11_draws) (maxL := 9) (ret := none) (by decide) rfl ?_
  intro p e s m args below meth c s₁ B hml hv
  obtain ⟨rfl, hP, hK, hD0⟩ := hv
  have hx := B.exec
  have hb := B.bytes
  have hr := B.returns
  have hts := atoms_spec (ws := wsX11_draws) B.pre
  have hown : s.vm.findClass RX11 = some m.cls := findClass_of_methodNamed B.named
  have hlocks := B.notSynchronized
  have hD := hD0.aself
  generalize hAe : aset [(a0, .inr (11, [.int n0_0, .ref a1, .ref a2, .ref a3, .ref a4, .ref a5, .int n0_6, .int n0_7, .int n0_8, .int n0_9, .int n0_10, .long l0_11, .int n0_12, .int n0_13, .int n0_14, .int n0_15, .ref a6, .ref a7, .ref a8, .ref a9, .ref a10, .ref a11, .ref a12, .ref a13, .int n0_24, .int n0_25, .int n0_26, .int n0_27, .ref a14, .int n0_29, .int n0_30])), (a7, .inl (ct 0, 15, .inl f7)), (a11, .inl (ct 0, 8, .inl f11)), (a12, .inl (ct 0, 8, .inl f12))] = A at hD ⊢
  have hS : va_S A s.heap s.heap [] := va_S.rf
  have hl := lv_entry ([.ref a0, .long p0]) (n := 9) (Nat.le_of_ble_eq_true rfl)
  rw [lg_entry_eq]
  generalize (lg_sl ([.ref a0, .long p0]) ++ List.replicate (9 - (lg_sl ([.ref a0, .long p0])).length) Slot.unset).toArray = ls at hl ⊢
  have hl : lv_has ls 9 [(0, .ref a0), (1, .long p0)] := hl
  refine lv_aload_n hx hb dX11_draws_0 rfl (lv_at hl 0 rfl) ?_
  refine va_get (D := G) (ci := 11) (v := .ref a7) (C := RX11) (T := TX11) (N := 31) hx hb hts (by decide +kernel) hown hK.1 hP 0 rfl rfl 17 (by decide) (hts (.fieldLink RX11 34 "CardHolderModel" "has" "[I") (by decide +kernel)) (fun _ h9 => h9) rfl dX11_draws_1 ?_
  refine lv_iconst (v := 1) hx hb dX11_draws_4 (by decide) ?_
  refine va_iald hx hb hK.1 hP 1 0 rfl rfl (in_lit (by decide)) dX11_draws_5 ?_
  refine lv_topi (fun z5 gz5 => ?_)
  have hz5 : rg 0 8 z5 := by rw [gz5]; exact (hp_f7.1 0)
  refine lv_istore_n (lv' := [(3, .int z5), (0, .ref a0), (1, .long p0)]) hx hb dX11_draws_6 rfl hl (by decide) rfl (fun ls hl => ?_)
  refine lv_lload_n hx hb dX11_draws_7 rfl (lv_at hl 2 rfl) ?_
  refine lv_lstore (lv' := [(4, .long p0), (3, .int z5), (0, .ref a0), (1, .long p0)]) hx hb dX11_draws_8 hl (by decide) rfl (fun ls hl => ?_)
  refine lv_iconst (v := 0) hx hb dX11_draws_10 (by decide) ?_
  refine lv_istore (lv' := [(6, .int 0), (4, .long p0), (3, .int z5), (0, .ref a0), (1, .long p0)]) hx hb dX11_draws_11 hl (by decide) rfl (fun ls hl => ?_)
  have j13 : ∀ (n : Nat) (x13_6 : Int32) (f13_3 : Nat → Int32) (H : Heap) (locs : List Loc) (ls : Array Slot), 2147483648 ≤ x13_6.toInt + (n : Int) → rg 0 8 x13_6 → lw (x13_6).toInt f13_3 → va_P G vwCl [(a0, .inr (11, [.int n0_0, .ref a1, .ref a2, .ref a3, .ref a4, .ref a5, .int n0_6, .int n0_7, .int n0_8, .int n0_9, .int n0_10, .long l0_11, .int n0_12, .int n0_13, .int n0_14, .int n0_15, .ref a6, .ref a7, .ref a8, .ref a9, .ref a10, .ref a11, .ref a12, .ref a13, .int n0_24, .int n0_25, .int n0_26, .int n0_27, .ref a14, .int n0_29, .int n0_30])), (a7, .inl (ct 0, 15, .inl f7)), (a11, .inl (ct 0, 8, .inl f11)), (a12, .inl (ct 0, 8, .inl f13_3))] H → va_D A [(a0, .inr (11, [.int n0_0, .ref a1, .ref a2, .ref a3, .ref a4, .ref a5, .int n0_6, .int n0_7, .int n0_8, .int n0_9, .int n0_10, .long l0_11, .int n0_12, .int n0_13, .int n0_14, .int n0_15, .ref a6, .ref a7, .ref a8, .ref a9, .ref a10, .ref a11, .ref a12, .ref a13, .int n0_24, .int n0_25, .int n0_26, .int n0_27, .ref a14, .int n0_29, .int n0_30])), (a7, .inl (ct 0, 15, .inl f7)), (a11, .inl (ct 0, 8, .inl f11)), (a12, .inl (ct 0, 8, .inl f13_3))] → va_S A s.heap H locs → lv_has ls 9 [(0, .ref a0), (1, .long p0), (3, .int z5), (4, .long p0), (6, .int x13_6)] → W p l e (headSpec wsX11_draws ({ frames := 0, cells := 0, slots := 0, locals := 0 })).room s m ([.ref a0, .long p0] : List Value).toArray below meth c H locs 0 0 (MQ below (va_Qv (fun u : SU => ar (-1) 7 (u.2.1 0) ∧ True) (fun u t => va_P G vwCl ((fun u : SU => [(a0, .inr (11, [.int n0_0, .ref a1, .ref a2, .ref a3, .ref a4, .ref a5, .int n0_6, .int n0_7, .int n0_8, .int n0_9, .int n0_10, .long l0_11, .int n0_12, .int n0_13, .int n0_14, .int n0_15, .ref a6, .ref a7, .ref a8, .ref a9, .ref a10, .ref a11, .ref a12, .ref a13, .int n0_24, .int n0_25, .int n0_26, .int n0_27, .ref a14, .int n0_29, .int n0_30])), (a7, .inl (ct 0, 15, .inl f7)), (a11, .inl (ct 0, 8, .inl (u.2.1 0))), (a12, .inl (ct 0, 8, .inl (u.2.1 1)))]) u) t.heap) A) ([.ref a0, .long p0] : List Value).toArray s 0 0 A) (F0 m 13 ls []) := by
    intro n
    induction n with
    | zero => intro x13_6 f13_3 H locs ls hn13 hx13_6 hw13 hP hD hS hl; exact absurd hn13 (by have := Int32.toInt_lt x13_6; have := Int32.le_toInt x13_6; omega)
    | succ n ih13 =>
      intro x13_6 f13_3 H locs ls hn13 hx13_6 hw13 hP hD hS hl
      refine lv_iload hx hb dX11_draws_13 (lv_at hl 4 rfl) ?_
      refine lv_iload_n hx hb dX11_draws_15 rfl (lv_at hl 2 rfl) ?_
      refine lv_icmp_ge (tgt := 34) hx hb dX11_draws_16 (by decide) (fun c16 => ?_) (fun c16 => ?_)
      · refine lv_iload_n hx hb dX11_draws_34 rfl (lv_at hl 2 rfl) ?_
        refine lv_iconst (v := 1) hx hb dX11_draws_35 (by decide) ?_
        refine lv_isub hx hb dX11_draws_36 ?_
        refine nm_sub (e1 := (-1)) (f := 7) hz5 (rgn 1 (x := 1) (by decide)) (by decide) (fun z36 hz36 ez36 => ?_)
        replace ez36 := eqc_s ez36 (c := (-1)) (by decide)
        refine lv_istore (lv' := [(6, .int z36), (0, .ref a0), (1, .long p0), (3, .int z5), (4, .long p0)]) hx hb dX11_draws_37 hl (by decide) rfl (fun ls hl => ?_)
        have j39 : ∀ (n : Nat) (x39_4 : Int64) (x39_6 : Int32) (f39_3 : Nat → Int32) (H : Heap) (locs : List Loc) (ls : Array Slot), - 2147483649 ≥ x39_6.toInt - (n : Int) → rl 0 2147483647 x39_4 → rg (-1) 7 x39_6 → lw z5.toInt f39_3 → x39_6.toInt < z5.toInt → va_P G vwCl [(a0, .inr (11, [.int n0_0, .ref a1, .ref a2, .ref a3, .ref a4, .ref a5, .int n0_6, .int n0_7, .int n0_8, .int n0_9, .int n0_10, .long l0_11, .int n0_12, .int n0_13, .int n0_14, .int n0_15, .ref a6, .ref a7, .ref a8, .ref a9, .ref a10, .ref a11, .ref a12, .ref a13, .int n0_24, .int n0_25, .int n0_26, .int n0_27, .ref a14, .int n0_29, .int n0_30])), (a7, .inl (ct 0, 15, .inl f7)), (a11, .inl (ct 0, 8, .inl f11)), (a12, .inl (ct 0, 8, .inl f39_3))] H → va_D A [(a0, .inr (11, [.int n0_0, .ref a1, .ref a2, .ref a3, .ref a4, .ref a5, .int n0_6, .int n0_7, .int n0_8, .int n0_9, .int n0_10, .long l0_11, .int n0_12, .int n0_13, .int n0_14, .int n0_15, .ref a6, .ref a7, .ref a8, .ref a9, .ref a10, .ref a11, .ref a12, .ref a13, .int n0_24, .int n0_25, .int n0_26, .int n0_27, .ref a14, .int n0_29, .int n0_30])), (a7, .inl (ct 0, 15, .inl f7)), (a11, .inl (ct 0, 8, .inl f11)), (a12, .inl (ct 0, 8, .inl f39_3))] → va_S A s.heap H locs → lv_has ls 9 [(0, .ref a0), (1, .long p0), (3, .int z5), (4, .long x39_4), (6, .int x39_6)] → W p l e (headSpec wsX11_draws ({ frames := 0, cells := 0, slots := 0, locals := 0 })).room s m ([.ref a0, .long p0] : List Value).toArray below meth c H locs 0 0 (MQ below (va_Qv (fun u : SU => ar (-1) 7 (u.2.1 0) ∧ True) (fun u t => va_P G vwCl ((fun u : SU => [(a0, .inr (11, [.int n0_0, .ref a1, .ref a2, .ref a3, .ref a4, .ref a5, .int n0_6, .int n0_7, .int n0_8, .int n0_9, .int n0_10, .long l0_11, .int n0_12, .int n0_13, .int n0_14, .int n0_15, .ref a6, .ref a7, .ref a8, .ref a9, .ref a10, .ref a11, .ref a12, .ref a13, .int n0_24, .int n0_25, .int n0_26, .int n0_27, .ref a14, .int n0_29, .int n0_30])), (a7, .inl (ct 0, 15, .inl f7)), (a11, .inl (ct 0, 8, .inl (u.2.1 0))), (a12, .inl (ct 0, 8, .inl (u.2.1 1)))]) u) t.heap) A) ([.ref a0, .long p0] : List Value).toArray s 0 0 A) (F0 m 39 ls []) := by
          intro n
          induction n with
          | zero => intro x39_4 x39_6 f39_3 H locs ls hn39 hx39_4 hx39_6 hw39 hk39 hP hD hS hl; exact absurd hn39 (by have := Int32.toInt_lt x39_6; have := Int32.le_toInt x39_6; omega)
          | succ n ih39 =>
            intro x39_4 x39_6 f39_3 H locs ls hn39 hx39_4 hx39_6 hw39 hk39 hP hD hS hl
            refine lv_iload hx hb dX11_draws_39 (lv_at hl 4 rfl) ?_
            refine lv_if_le (tgt := 113) hx hb dX11_draws_41 (by decide) (fun c41 => ?_) (fun c41 => ?_)
            · have h_1 : rg (-1) 0 x39_6 := r_le_l_i c41 hx39_6 (rgn 0 (x := 0) (by decide))
              refine lv_iconst (v := 0) hx hb dX11_draws_113 (by decide) ?_
              refine lv_istore (lv' := [(6, .int 0), (0, .ref a0), (1, .long p0), (3, .int z5), (4, .long x39_4)]) hx hb dX11_draws_114 hl (by decide) rfl (fun ls hl => ?_)
              have j116 : ∀ (n : Nat) (x116_6 : Int32) (f116_2 : Nat → Int32) (H : Heap) (locs : List Loc) (ls : Array Slot), 2147483648 ≤ x116_6.toInt + (n : Int) → rg 0 8 x116_6 → ar (-1) 7 f116_2 → va_P G vwCl [(a0, .inr (11, [.int n0_0, .ref a1, .ref a2, .ref a3, .ref a4, .ref a5, .int n0_6, .int n0_7, .int n0_8, .int n0_9, .int n0_10, .long l0_11, .int n0_12, .int n0_13, .int n0_14, .int n0_15, .ref a6, .ref a7, .ref a8, .ref a9, .ref a10, .ref a11, .ref a12, .ref a13, .int n0_24, .int n0_25, .int n0_26, .int n0_27, .ref a14, .int n0_29, .int n0_30])), (a7, .inl (ct 0, 15, .inl f7)), (a11, .inl (ct 0, 8, .inl f116_2)), (a12, .inl (ct 0, 8, .inl f39_3))] H → va_D A [(a0, .inr (11, [.int n0_0, .ref a1, .ref a2, .ref a3, .ref a4, .ref a5, .int n0_6, .int n0_7, .int n0_8, .int n0_9, .int n0_10, .long l0_11, .int n0_12, .int n0_13, .int n0_14, .int n0_15, .ref a6, .ref a7, .ref a8, .ref a9, .ref a10, .ref a11, .ref a12, .ref a13, .int n0_24, .int n0_25, .int n0_26, .int n0_27, .ref a14, .int n0_29, .int n0_30])), (a7, .inl (ct 0, 15, .inl f7)), (a11, .inl (ct 0, 8, .inl f116_2)), (a12, .inl (ct 0, 8, .inl f39_3))] → va_S A s.heap H locs → lv_has ls 9 [(0, .ref a0), (1, .long p0), (3, .int z5), (4, .long x39_4), (6, .int x116_6)] → W p l e (headSpec wsX11_draws ({ frames := 0, cells := 0, slots := 0, locals := 0 })).room s m ([.ref a0, .long p0] : List Value).toArray below meth c H locs 0 0 (MQ below (va_Qv (fun u : SU => ar (-1) 7 (u.2.1 0) ∧ True) (fun u t => va_P G vwCl ((fun u : SU => [(a0, .inr (11, [.int n0_0, .ref a1, .ref a2, .ref a3, .ref a4, .ref a5, .int n0_6, .int n0_7, .int n0_8, .int n0_9, .int n0_10, .long l0_11, .int n0_12, .int n0_13, .int n0_14, .int n0_15, .ref a6, .ref a7, .ref a8, .ref a9, .ref a10, .ref a11, .ref a12, .ref a13, .int n0_24, .int n0_25, .int n0_26, .int n0_27, .ref a14, .int n0_29, .int n0_30])), (a7, .inl (ct 0, 15, .inl f7)), (a11, .inl (ct 0, 8, .inl (u.2.1 0))), (a12, .inl (ct 0, 8, .inl (u.2.1 1)))]) u) t.heap) A) ([.ref a0, .long p0] : List Value).toArray s 0 0 A) (F0 m 116 ls []) := by
                intro n
                induction n with
                | zero => intro x116_6 f116_2 H locs ls hn116 hx116_6 hf116_2 hP hD hS hl; exact absurd hn116 (by have := Int32.toInt_lt x116_6; have := Int32.le_toInt x116_6; omega)
                | succ n ih116 =>
                  intro x116_6 f116_2 H locs ls hn116 hx116_6 hf116_2 hP hD hS hl
                  refine lv_iload hx hb dX11_draws_116 (lv_at hl 4 rfl) ?_
                  refine lv_iload_n hx hb dX11_draws_118 rfl (lv_at hl 2 rfl) ?_
                  refine lv_icmp_ge (tgt := 142) hx hb dX11_draws_119 (by decide) (fun c119 => ?_) (fun c119 => ?_)
                  · exact W.vret hx hb hr (fun t ht hW => ⟨⟨(fun k => ([] : List Int32).getD k 0, fun k => ([f116_2, f39_3] : List (Nat → Int32)).getD k (fun _ => 0), fun k => ([] : List (Nat → Int64)).getD k (fun _ => 0)), rfl, ⟨hf116_2, trivial⟩, hp_at ht hP⟩, hS.F ht⟩) hS.2.2 dX11_draws_142
                  · have h_2 : rg 0 7 x116_6 := r_lt_l_i (nle_i c119) hx116_6 hz5 (by decide)
                    have h_3 : rg 1 8 z5 := r_lt_r_i (nle_i c119) hx116_6 hz5 (by decide)
                    refine lv_aload_n hx hb dX11_draws_122 rfl (lv_at hl 0 rfl) ?_
                    refine va_get (D := G) (ci := 11) (v := .ref a11) (C := RX11) (T := TX11) (N := 31) hx hb hts (by decide +kernel) hown hK.1 hP 0 rfl rfl 21 (by decide) (hts (.fieldLink RX11 47 "CardHolderModel" "holder" "[I") (by decide +kernel)) (fun _ h9 => h9) rfl dX11_draws_123 ?_
                    refine lv_aload_n hx hb dX11_draws_126 rfl (lv_at hl 0 rfl) ?_
                    refine va_get (D := G) (ci := 11) (v := .ref a12) (C := RX11) (T := TX11) (N := 31) hx hb hts (by decide +kernel) hown hK.1 hP 0 rfl rfl 22 (by decide) (hts (.fieldLink RX11 50 "CardHolderModel" "worn" "[I") (by decide +kernel)) (fun _ h9 => h9) rfl dX11_draws_127 ?_
                    refine lv_iload hx hb dX11_draws_130 (lv_at hl 4 rfl) ?_
                    refine va_iald hx hb hK.1 hP 3 0 rfl rfl (in_rg h_2 (by decide)) dX11_draws_132 ?_
                    refine lv_topi (fun z132 gz132 => ?_)
                    have h_4 : rg 0 7 z132 := lw_l hw39 h_2 (by decide) (i_nle c119) gz132
                    refine lv_iload hx hb dX11_draws_133 (lv_at hl 4 rfl) ?_
                    refine va_iast hx hb hK.1 hP hD hS 2 0 rfl rfl (in_rg h_4 (by decide)) dX11_draws_135 (fun H locs hP hD hS => ?_)
                    have h_5 : ar (-1) 7 (upd f116_2 z132.toNatClampNeg x116_6) := ar_u hf116_2 (rg_w (c := (-1)) (d := 7) h_2 (by decide))
                    obtain ⟨z136, qz136⟩ : ∃ y : Int32, y = x116_6 + Int32.ofInt 1 := ⟨_, rfl⟩
                    obtain ⟨hz136, ez136⟩ := inc_z (e := 1) (f := 8) h_2 qz136 (by decide)
                    refine lv_iinc (v := z136) (lv' := [(6, .int z136), (0, .ref a0), (1, .long p0), (3, .int z5), (4, .long x39_4)]) hx hb dX11_draws_136 hl (k := 4) rfl (qz136.symm) (by decide) rfl (fun ls hl => ?_)
                    refine lv_goto (tgt := 116) hx hb dX11_draws_139 (by decide) ?_
                    exact ih116 z136 (upd f116_2 z132.toNatClampNeg x116_6) _ _ ls (by have q := hn116; have := ez136; omega) (rg_w (c := 0) (d := 8) hz136 (by decide)) h_5 hP hD hS (lv_sub hl [1, 2, 3, 4, 0] rfl)
              exact j116 4294967296 (0 : Int32) f11 _ _ ls (ms_e (0 : Int32)) (rg_w (c := 0) (d := 8) (rgn 0 (x := 0) (by decide)) (by decide)) hp_f11 hP hD hS (lv_sub hl [1, 2, 3, 4, 0] rfl)
            · have h_6 : rg 1 7 x39_6 := r_lt_r_i (nle_i c41) (rgn 0 (x := 0) (by decide)) hx39_6 (by decide)
              refine lv_ldc2 (own := RX11) (v := 1103515245) hx hb hown (hts (.constantLong RX11 388 (1103515245)) (by decide +kernel)) dX11_draws_44 ?_
              refine lv_lload hx hb dX11_draws_47 (lv_at hl 3 rfl) ?_
              refine lv_lmul hx hb dX11_draws_49 ?_
              refine nl_mul (e1 := 0) (f := 2369780942852698515) (rln 1103515245 (x := 1103515245) (by decide)) hx39_4 (by decide) (fun z49 hz49 ez49 => ?_)
              refine lv_ldc2 (own := RX11) (v := 12345) hx hb hown (hts (.constantLong RX11 390 (12345)) (by decide +kernel)) dX11_draws_50 ?_
              refine lv_ladd hx hb dX11_draws_53 ?_
              refine nl_add (e1 := 12345) (f := 2369780942852710860) hz49 (rln 12345 (x := 12345) (by decide)) (by decide) (fun z53 hz53 ez53 => ?_)
              replace ez53 := eqc_rl ez53 (c := 12345) (by decide)
              refine lv_ldc2 (own := RX11) (v := 2147483648) hx hb hown (hts (.constantLong RX11 392 (2147483648)) (by decide +kernel)) dX11_draws_54 ?_
              refine lv_lrem hx hb dX11_draws_57 (by decide) ?_
              refine nl_rem (f := 2147483647) hz53 (rln 2147483648 (x := 2147483648) (by decide)) (by decide) (fun z57 hz57 tz57 => ?_)
              refine lv_lstore (lv' := [(4, .long z57), (0, .ref a0), (1, .long p0), (3, .int z5), (6, .int x39_6)]) hx hb dX11_draws_58 hl (by decide) rfl (fun ls hl => ?_)
              refine lv_lload hx hb dX11_draws_60 (lv_at hl 0 rfl) ?_
              refine lv_ldc2 (own := RX11) (v := 65536) hx hb hown (hts (.constantLong RX11 394 (65536)) (by decide +kernel)) dX11_draws_62 ?_
              refine lv_ldiv hx hb dX11_draws_65 (by decide) ?_
              refine nl_div (f := 32767) hz57 (rln 65536 (x := 65536) (by decide)) (by decide) (fun z65 hz65 => ?_)
              refine lv_iload hx hb dX11_draws_66 (lv_at hl 4 rfl) ?_
              refine lv_iconst (v := 1) hx hb dX11_draws_68 (by decide) ?_
              refine lv_iadd hx hb dX11_draws_69 ?_
              refine nm_add (e1 := 2) (f := 8) h_6 (rgn 1 (x := 1) (by decide)) (by decide) (fun z69 hz69 ez69 => ?_)
              replace ez69 := eqc_r ez69 (c := 1) (by decide)
              refine lv_i2l hx hb dX11_draws_70 rfl ?_
              refine nl_i2l hz69 (fun z70 hz70 ez70 => ?_)
              refine lv_lrem hx hb dX11_draws_71 (rlne0 hz70 (by decide)) ?_
              refine nl_rem (f := 7) hz65 hz70 (by decide) (fun z71 hz71 tz71 => ?_)
              refine lv_l2i hx hb dX11_draws_72 rfl ?_
              refine nm_l2i hz71 (by decide) (fun z72 hz72 ez72 => ?_)
              refine lv_istore (lv' := [(7, .int z72), (4, .long z57), (0, .ref a0), (1, .long p0), (3, .int z5), (6, .int x39_6)]) hx hb dX11_draws_73 hl (by decide) rfl (fun ls hl => ?_)
              refine lv_aload_n hx hb dX11_draws_75 rfl (lv_at hl 2 rfl) ?_
              refine va_get (D := G) (ci := 11) (v := .ref a12) (C := RX11) (T := TX11) (N := 31) hx hb hts (by decide +kernel) hown hK.1 hP 0 rfl rfl 22 (by decide) (hts (.fieldLink RX11 50 "CardHolderModel" "worn" "[I") (by decide +kernel)) (fun _ h9 => h9) rfl dX11_draws_76 ?_
              refine lv_iload hx hb dX11_draws_79 (lv_at hl 5 rfl) ?_
              refine va_iald hx hb hK.1 hP 3 0 rfl rfl (in_rg h_6 (by decide)) dX11_draws_81 ?_
              refine lv_topi (fun z81 gz81 => ?_)
              have h_7 : rg 0 7 z81 := lw_l hw39 h_6 (by decide) hk39 gz81
              refine lv_istore (lv' := [(8, .int z81), (7, .int z72), (4, .long z57), (0, .ref a0), (1, .long p0), (3, .int z5), (6, .int x39_6)]) hx hb dX11_draws_82 hl (by decide) rfl (fun ls hl => ?_)
              refine lv_aload_n hx hb dX11_draws_84 rfl (lv_at hl 3 rfl) ?_
              refine va_get (D := G) (ci := 11) (v := .ref a12) (C := RX11) (T := TX11) (N := 31) hx hb hts (by decide +kernel) hown hK.1 hP 0 rfl rfl 22 (by decide) (hts (.fieldLink RX11 50 "CardHolderModel" "worn" "[I") (by decide +kernel)) (fun _ h9 => h9) rfl dX11_draws_85 ?_
              refine lv_iload hx hb dX11_draws_88 (lv_at hl 6 rfl) ?_
              refine lv_aload_n hx hb dX11_draws_90 rfl (lv_at hl 3 rfl) ?_
              refine va_get (D := G) (ci := 11) (v := .ref a12) (C := RX11) (T := TX11) (N := 31) hx hb hts (by decide +kernel) hown hK.1 hP 0 rfl rfl 22 (by decide) (hts (.fieldLink RX11 50 "CardHolderModel" "worn" "[I") (by decide +kernel)) (fun _ h9 => h9) rfl dX11_draws_91 ?_
              refine lv_iload hx hb dX11_draws_94 (lv_at hl 1 rfl) ?_
              refine va_iald hx hb hK.1 hP 3 0 rfl rfl (in_rg hz72 (by decide)) dX11_draws_96 ?_
              refine lv_topi (fun z96 gz96 => ?_)
              have h_8 : rg 0 7 z96 := lw_l hw39 hz72 (by decide) (by have := tz71; have := ez72; have := ez70; have := ez69; have := hk39; omega) gz96
              refine va_iast hx hb hK.1 hP hD hS 3 0 rfl rfl (in_rg h_6 (by decide)) dX11_draws_97 (fun H locs hP hD hS => ?_)
              refine lv_aload_n hx hb dX11_draws_98 rfl (lv_at hl 3 rfl) ?_
              refine va_get (D := G) (ci := 11) (v := .ref a12) (C := RX11) (T := TX11) (N := 31) hx hb hts (by decide +kernel) hown hK.1 hP 0 rfl rfl 22 (by decide) (hts (.fieldLink RX11 50 "CardHolderModel" "worn" "[I") (by decide +kernel)) (fun _ h9 => h9) rfl dX11_draws_99 ?_
              refine lv_iload hx hb dX11_draws_102 (lv_at hl 1 rfl) ?_
              refine lv_iload hx hb dX11_draws_104 (lv_at hl 0 rfl) ?_
              refine va_iast hx hb hK.1 hP hD hS 3 0 rfl rfl (in_rg hz72 (by decide)) dX11_draws_106 (fun H locs hP hD hS => ?_)
              obtain ⟨z107, qz107⟩ : ∃ y : Int32, y = x39_6 + Int32.ofInt (-1) := ⟨_, rfl⟩
              obtain ⟨hz107, ez107⟩ := inc_z (e := 0) (f := 6) h_6 qz107 (by decide)
              refine lv_iinc (v := z107) (lv' := [(6, .int z107), (8, .int z81), (7, .int z72), (4, .long z57), (0, .ref a0), (1, .long p0), (3, .int z5)]) hx hb dX11_draws_107 hl (k := 6) rfl (qz107.symm) (by decide) rfl (fun ls hl => ?_)
              refine lv_goto (tgt := 39) hx hb dX11_draws_110 (by decide) ?_
              exact ih39 z57 z107 (upd (upd f39_3 x39_6.toNatClampNeg z96) z72.toNatClampNeg z81) _ _ ls (by have q := hn39; have := ez107; omega) hz57 (rg_w (c := (-1)) (d := 7) hz107 (by decide)) (lw_u (lw_u hw39 h_8) h_7) (by have := ez107; have := hk39; omega) hP hD hS (lv_sub hl [4, 5, 6, 3, 0] rfl)
        exact j39 4294967296 p0 z36 f13_3 _ _ ls (md_e z36) (rl_w (c := 0) (d := 2147483647) hp_p0 (by decide)) hz36 (lw_t hw13 c16) (by have := ez36; omega) hP hD hS (lv_sub hl [1, 2, 3, 4, 0] rfl)
      · have h_9 : rg 0 7 x13_6 := r_lt_l_i (nle_i c16) hx13_6 hz5 (by decide)
        have h_10 : rg 1 8 z5 := r_lt_r_i (nle_i c16) hx13_6 hz5 (by decide)
        refine lv_aload_n hx hb dX11_draws_19 rfl (lv_at hl 0 rfl) ?_
        refine va_get (D := G) (ci := 11) (v := .ref a12) (C := RX11) (T := TX11) (N := 31) hx hb hts (by decide +kernel) hown hK.1 hP 0 rfl rfl 22 (by decide) (hts (.fieldLink RX11 50 "CardHolderModel" "worn" "[I") (by decide +kernel)) (fun _ h9 => h9) rfl dX11_draws_20 ?_
        refine lv_iload hx hb dX11_draws_23 (lv_at hl 4 rfl) ?_
        refine lv_iload hx hb dX11_draws_25 (lv_at hl 4 rfl) ?_
        refine va_iast hx hb hK.1 hP hD hS 3 0 rfl rfl (in_rg h_9 (by decide)) dX11_draws_27 (fun H locs hP hD hS => ?_)
        obtain ⟨z28, qz28⟩ : ∃ y : Int32, y = x13_6 + Int32.ofInt 1 := ⟨_, rfl⟩
        obtain ⟨hz28, ez28⟩ := inc_z (e := 1) (f := 8) h_9 qz28 (by decide)
        refine lv_iinc (v := z28) (lv' := [(6, .int z28), (0, .ref a0), (1, .long p0), (3, .int z5), (4, .long p0)]) hx hb dX11_draws_28 hl (k := 4) rfl (qz28.symm) (by decide) rfl (fun ls hl => ?_)
        refine lv_goto (tgt := 13) hx hb dX11_draws_31 (by decide) ?_
        exact ih13 z28 (upd f13_3 x13_6.toNatClampNeg x13_6) _ _ ls (by have q := hn13; have := ez28; omega) (rg_w (c := 0) (d := 8) hz28 (by decide)) (lw_s hw13 h_9 ez28) hP hD hS (lv_sub hl [1, 2, 3, 4, 0] rfl)
  exact j13 4294967296 (0 : Int32) f12 _ _ ls (ms_e (0 : Int32)) (rg_w (c := 0) (d := 8) (rgn 0 (x := 0) (by decide)) (by decide)) lw_0 hP hD hS (lv_sub hl [3, 4, 2, 1, 0] rfl)

set_option maxHeartbeats 4000000 in
set_option maxRecDepth 100000 in
theorem a_X11_drawn (l : Launch) (G : va_G) (ct : Nat → ClassId) (a0 : Nat) (n0_0 : Int32) (a1 : Nat) (a2 : Nat) (a3 : Nat) (a4 : Nat) (a5 : Nat) (n0_6 : Int32) (n0_7 : Int32) (n0_8 : Int32) (n0_9 : Int32) (n0_10 : Int32) (l0_11 : Int64) (n0_12 : Int32) (n0_13 : Int32) (n0_14 : Int32) (n0_15 : Int32) (a6 : Nat) (a7 : Nat) (a8 : Nat) (a9 : Nat) (a10 : Nat) (a11 : Nat) (a12 : Nat) (a13 : Nat) (n0_24 : Int32) (n0_25 : Int32) (n0_26 : Int32) (n0_27 : Int32) (a14 : Nat) (n0_29 : Int32) (n0_30 : Int32) (f7 : Nat → Int32) (f11 : Nat → Int32) (f12 : Nat → Int32) (p0 : Int32) (p1 : Int32) (hp_n0_6 : rg 0 900 n0_6) (hp_f7 : hsI f7) (hp_f11 : ar (-1) 7 f11) : Met l yX11_drawn wsX11_drawn ({ frames := 2, cells := 0, slots := 0, locals := 47 }) (va_Pc [.ref a0, .int p0, .int p1] (wrP G ct [(a0, .inr (11, [.int n0_0, .ref a1, .ref a2, .ref a3, .ref a4, .ref a5, .int n0_6, .int n0_7, .int n0_8, .int n0_9, .int n0_10, .long l0_11, .int n0_12, .int n0_13, .int n0_14, .int n0_15, .ref a6, .ref a7, .ref a8, .ref a9, .ref a10, .ref a11, .ref a12, .ref a13, .int n0_24, .int n0_25, .int n0_26, .int n0_27, .ref a14, .int n0_29, .int n0_30])), (a7, .inl (ct 0, 15, .inl f7)), (a11, .inl (ct 0, 8, .inl f11)), (a12, .inl (ct 0, 8, .inl f12))])) (va_Qi (fun (r : Int32) (u : SU) => rg (-2) 7 r ∧ (r = 0 → rg 0 2000000000 p0) ∧ (r = (-1) → rg 0 2000000000 p0) ∧ (¬ r = (-2) → rg 0 2000000000 p0) ∧ (r = 0 → rg 0 7 p1) ∧ (r = (-1) → rg 0 7 p1) ∧ (¬ r = (-2) → rg 0 7 p1) ∧ ar (-1) 7 (u.2.1 0) ∧ rg 0 0 (u.1 0) ∧ True) (fun u t => va_P G vwCl ((fun u : SU => [(a0, .inr (11, [.int (u.1 0), .ref a1, .ref a2, .ref a3, .ref a4, .ref a5, .int n0_6, .int n0_7, .int n0_8, .int n0_9, .int n0_10, .long l0_11, .int n0_12, .int n0_13, .int n0_14, .int n0_15, .ref a6, .ref a7, .ref a8, .ref a9, .ref a10, .ref a11, .ref a12, .ref a13, .int n0_24, .int n0_25, .int n0_26, .int n0_27, .ref a14, .int n0_29, .int n0_30])), (a7, .inl (ct 0, 15, .inl f7)), (a11, .inl (ct 0, 8, .inl (u.2.1 0))), (a12, .inl (ct 0, 8, .inl (u.2.1 1)))]) u) t.heap) (aset [(a0, .inr (11, [.int n0_0, .ref a1, .ref a2, .ref a3, .ref a4, .ref a5, .int n0_6, .int n0_7, .int n0_8, .int n0_9, .int n0_10, .long l0_11, .int n0_12, .int n0_13, .int n0_14, .int n0_15, .ref a6, .ref a7, .ref a8, .ref a9, .ref a10, .ref a11, .ref a12, .ref a13, .int n0_24, .int n0_25, .int n0_26, .int n0_27, .ref a14, .int n0_29, .int n0_30])), (a7, .inl (ct 0, 15, .inl f7)), (a11, .inl (ct 0, 8, .inl f11)), (a12, .inl (ct 0, 8, .inl f12))])) 0 0 (aset [(a0, .inr (11, [.int n0_0, .ref a1, .ref a2, .ref a3, .ref a4, .ref a5, .int n0_6, .int n0_7, .int n0_8, .int n0_9, .int n0_10, .long l0_11, .int n0_12, .int n0_13, .int n0_14, .int n0_15, .ref a6, .ref a7, .ref a8, .ref a9, .ref a10, .ref a11, .ref a12, .ref a13, .int n0_24, .int n0_25, .int n0_26, .int n0_27, .ref a14, .int n0_29, .int n0_30])), (a7, .inl (ct 0, 15, .inl f7)), (a11, .inl (ct 0, 8, .inl f11)), (a12, .inl (ct 0, 8, .inl f12))]) := by
  refine Met.ofW (cc := cX11_drawn) (maxL := 3) (ret := (some .int)) (by decide) rfl ?_
  intro p e s m args below meth c s₁ B hml hv
  obtain ⟨rfl, hP, hK, hD0⟩ := hv
  have hx := B.exec
  have hb := B.bytes
  have hr := B.returns
  have hts := atoms_spec (ws := wsX11_drawn) B.pre
  have hown : s.vm.findClass RX11 = some m.cls := findClass_of_methodNamed B.named
  have hlocks := B.notSynchronized
  have hD := hD0.aself
  generalize hAe : aset [(a0, .inr (11, [.int n0_0, .ref a1, .ref a2, .ref a3, .ref a4, .ref a5, .int n0_6, .int n0_7, .int n0_8, .int n0_9, .int n0_10, .long l0_11, .int n0_12, .int n0_13, .int n0_14, .int n0_15, .ref a6, .ref a7, .ref a8, .ref a9, .ref a10, .ref a11, .ref a12, .ref a13, .int n0_24, .int n0_25, .int n0_26, .int n0_27, .ref a14, .int n0_29, .int n0_30])), (a7, .inl (ct 0, 15, .inl f7)), (a11, .inl (ct 0, 8, .inl f11)), (a12, .inl (ct 0, 8, .inl f12))] = A at hD ⊢
  have hS : va_S A s.heap s.heap [] := va_S.rf
  have hl := lv_entry ([.ref a0, .int p0, .int p1]) (n := 3) (Nat.le_of_ble_eq_true rfl)
  rw [lg_entry_eq]
  generalize (lg_sl ([.ref a0, .int p0, .int p1]) ++ List.replicate (3 - (lg_sl ([.ref a0, .int p0, .int p1])).length) Slot.unset).toArray = ls at hl ⊢
  have hl : lv_has ls 3 [(0, .ref a0), (1, .int p0), (2, .int p1)] := hl
  refine lv_aload_n hx hb dX11_drawn_0 rfl (lv_at hl 0 rfl) ?_
  refine lv_iconst (v := 0) hx hb dX11_drawn_1 (by decide) ?_
  refine va_put (D := G) (ci := 11) (v := .int 0) (ty := .int) (C := RX11) (T := TX11) (N := 31) hx hb hts (by decide +kernel) tyX11 tyX11_ok nmX11 hown hK.1 hP hD hS 0 rfl rfl 0 (by decide) (hts (.fieldLink RX11 59 "CardHolderModel" "thrown" "I") (by decide +kernel)) (fun _ h9 => h9) rfl (by decide +kernel) rfl rfl (Nat.le_of_ble_eq_true rfl) dX11_drawn_2 (fun H locs hP hD hS => ?_)
  refine lv_iload_n hx hb dX11_drawn_5 rfl (lv_at hl 1 rfl) ?_
  refine ro_calli (va_runS (As := [.int p0]) (rest := []) ⟨hx, hb, hml, hown, hts⟩ (a_X11_isSeed l G ct p0) (va_cwS 1 hts gX11_drawn_X11_isSeed rfl rfl rfl (by decide +kernel) ⟨Nat.le_of_ble_eq_true rfl, Nat.le_of_ble_eq_true rfl⟩) (ro_pre hK (hP.sub [] rfl)) rfl rfl hl.1 rfl (lv_room (Nat.le_of_ble_eq_true rfl)) dX11_drawn_6 ⟨Nat.zero_le _, Nat.zero_le _⟩) hS hP (fun r6 H locs wr6 hP hS => ?_)
  obtain ⟨p_1, p_2, -⟩ := wr6
  refine lv_if_eq (tgt := 21) hx hb dX11_drawn_9 (by decide) (fun c9 => ?_) (fun c9 => ?_)
  · have h_3 : rg 0 0 r6 := r_eq_l_i (e := 0) (f := 0) c9 p_1 (rgn 0 (x := 0) (by decide)) (by decide)
    refine lv_bipush (v := (-2)) hx hb dX11_drawn_21 (by decide) ?_
    exact W.iret (v := (-2)) hx hb hr (fun t ht hW => ⟨⟨(-2), (fun k => ([0] : List Int32).getD k 0, fun k => ([f11, f12] : List (Nat → Int32)).getD k (fun _ => 0), fun k => ([] : List (Nat → Int64)).getD k (fun _ => 0)), rfl, ⟨(rg_w (c := (-2)) (d := 7) (rgn (-2) (x := (-2)) (by decide)) (by decide)), (fun hq => absurd hq (rne (rgn (-2) (x := (-2)) (by decide)) (y := 0) (c := 0) (by decide) (by decide))), (fun hq => absurd hq (rne (rgn (-2) (x := (-2)) (by decide)) (y := (-1)) (c := (-1)) (by decide) (by decide))), (fun hq => absurd (req (rgn (-2) (x := (-2)) (by decide)) (y := (-2)) (by decide)) hq), (fun hq => absurd hq (rne (rgn (-2) (x := (-2)) (by decide)) (y := 0) (c := 0) (by decide) (by decide))), (fun hq => absurd hq (rne (rgn (-2) (x := (-2)) (by decide)) (y := (-1)) (c := (-1)) (by decide) (by decide))), (fun hq => absurd (req (rgn (-2) (x := (-2)) (by decide)) (y := (-2)) (by decide)) hq), hp_f11, (rgn 0 (x := 0) (by decide)), trivial⟩, hp_at ht hP⟩, hS.F ht⟩) hS.2.2 dX11_drawn_23
  · have h_4 : rg 1 1 r6 := r_ne_lo_i c9 p_1 (by decide) (by decide)
    have h_5 : rg 0 2000000000 p0 := (p_2 (rne h_4 (y := 0) (c := 0) (by decide) (by decide)))
    refine lv_aload_n hx hb dX11_drawn_12 rfl (lv_at hl 0 rfl) ?_
    refine lv_iload_n hx hb dX11_drawn_13 rfl (lv_at hl 2 rfl) ?_
    refine lv_i2l hx hb dX11_drawn_14 rfl ?_
    refine nl_i2l (rg_t p1) (fun z14 hz14 ez14 => ?_)
    refine ro_calli (va_runV (As := [.long z14]) (rest := []) ⟨hx, hb, hml, hown, hts⟩ (a_X11_isPerson l G ct a0 (0 : Int32) a1 a2 a3 a4 a5 n0_6 n0_7 n0_8 n0_9 n0_10 l0_11 n0_12 n0_13 n0_14 n0_15 a6 a7 a8 a9 a10 a11 a12 a13 n0_24 n0_25 n0_26 n0_27 a14 n0_29 n0_30 f7 z14 hp_n0_6 hp_f7) (cwV 1 hts gX11_drawn_X11_isPerson rfl rfl rfl (by decide +kernel) ⟨Nat.le_of_ble_eq_true rfl, Nat.le_of_ble_eq_true rfl⟩) (ro_preV 11 0 hK (hP.sub [0, 1] rfl) rfl rfl) rfl rfl hl.1 rfl (lv_room (Nat.le_of_ble_eq_true rfl)) dX11_drawn_15 ⟨Nat.zero_le _, Nat.zero_le _⟩) hS hP (fun r15 H locs wr15 hP hS => ?_)
    obtain ⟨p_6, p_7, -⟩ := wr15
    refine lv_if_ne (tgt := 24) hx hb dX11_drawn_18 (by decide) (fun c18 => ?_) (fun c18 => ?_)
    · have h_8 : rg 1 1 r15 := r_ne_lo_i c18 p_6 (by decide) (by decide)
      have h_9 : rl 0 7 z14 := (p_7 (rne h_8 (y := 0) (c := 0) (by decide) (by decide)))
      have h_10 : rg 0 7 p1 := bk_li (a := 0) (b := 7) ez14 h_9 (rg_t p1) (by decide)
      refine lv_aload_n hx hb dX11_drawn_24 rfl (lv_at hl 0 rfl) ?_
      refine lv_iload_n hx hb dX11_drawn_25 rfl (lv_at hl 1 rfl) ?_
      refine lv_i2l hx hb dX11_drawn_26 rfl ?_
      refine nl_i2l h_5 (fun z26 hz26 ez26 => ?_)
      refine wj_callv (wr := []) (w1 := (fun u : SU => [(a0, .inr (11, [.int 0, .ref a1, .ref a2, .ref a3, .ref a4, .ref a5, .int n0_6, .int n0_7, .int n0_8, .int n0_9, .int n0_10, .long l0_11, .int n0_12, .int n0_13, .int n0_14, .int n0_15, .ref a6, .ref a7, .ref a8, .ref a9, .ref a10, .ref a11, .ref a12, .ref a13, .int n0_24, .int n0_25, .int n0_26, .int n0_27, .ref a14, .int n0_29, .int n0_30])), (a7, .inl (ct 0, 15, .inl f7)), (a11, .inl (ct 0, 8, .inl (u.2.1 0))), (a12, .inl (ct 0, 8, .inl (u.2.1 1)))])) (va_runV (As := [.long z26]) (rest := []) ⟨hx, hb, hml, hown, hts⟩ (a_X11_draws l G ct a0 (0 : Int32) a1 a2 a3 a4 a5 n0_6 n0_7 n0_8 n0_9 n0_10 l0_11 n0_12 n0_13 n0_14 n0_15 a6 a7 a8 a9 a10 a11 a12 a13 n0_24 n0_25 n0_26 n0_27 a14 n0_29 n0_30 f7 f11 f12 z26 hp_n0_6 hp_f7 hp_f11 (rl_w (c := 0) (d := 2000000019) hz26 (by decide))) (cwV 1 hts gX11_drawn_X11_draws rfl rfl rfl (by decide +kernel) ⟨Nat.le_of_ble_eq_true rfl, Nat.le_of_ble_eq_true rfl⟩) (wr_preV 11 0 hK (hP.sub [0, 1, 2, 3] rfl) (hD.sub [0, 1, 2, 3] (by decide) rfl) rfl rfl) rfl rfl hl.1 rfl (lv_room (Nat.le_of_ble_eq_true rfl)) dX11_drawn_27 ⟨Nat.zero_le _, Nat.zero_le _⟩) hS hP hD [0, 1, 2, 3] [] rfl rfl (by decide) (fun _ => rfl) (fun ur27 H locs wr27 hP hD hS => ?_)
      have hP : va_P G vwCl [(a0, .inr (11, [.int 0, .ref a1, .ref a2, .ref a3, .ref a4, .ref a5, .int n0_6, .int n0_7, .int n0_8, .int n0_9, .int n0_10, .long l0_11, .int n0_12, .int n0_13, .int n0_14, .int n0_15, .ref a6, .ref a7, .ref a8, .ref a9, .ref a10, .ref a11, .ref a12, .ref a13, .int n0_24, .int n0_25, .int n0_26, .int n0_27, .ref a14, .int n0_29, .int n0_30])), (a7, .inl (ct 0, 15, .inl f7)), (a11, .inl (ct 0, 8, .inl (ur27.2.1 0))), (a12, .inl (ct 0, 8, .inl (ur27.2.1 1)))] H := hP.sub [0, 1, 2, 3] rfl
      have hD : va_D A [(a0, .inr (11, [.int 0, .ref a1, .ref a2, .ref a3, .ref a4, .ref a5, .int n0_6, .int n0_7, .int n0_8, .int n0_9, .int n0_10, .long l0_11, .int n0_12, .int n0_13, .int n0_14, .int n0_15, .ref a6, .ref a7, .ref a8, .ref a9, .ref a10, .ref a11, .ref a12, .ref a13, .int n0_24, .int n0_25, .int n0_26, .int n0_27, .ref a14, .int n0_29, .int n0_30])), (a7, .inl (ct 0, 15, .inl f7)), (a11, .inl (ct 0, 8, .inl (ur27.2.1 0))), (a12, .inl (ct 0, 8, .inl (ur27.2.1 1)))] := hD.sub [0, 1, 2, 3] (by decide) rfl
      obtain ⟨p_11, -⟩ := wr27
      refine lv_aload_n hx hb dX11_drawn_30 rfl (lv_at hl 0 rfl) ?_
      refine va_get (D := G) (ci := 11) (v := .ref a11) (C := RX11) (T := TX11) (N := 31) hx hb hts (by decide +kernel) hown hK.1 hP 0 rfl rfl 21 (by decide) (hts (.fieldLink RX11 47 "CardHolderModel" "holder" "[I") (by decide +kernel)) (fun _ h9 => h9) rfl dX11_drawn_31 ?_
      refine lv_iload_n hx hb dX11_drawn_34 rfl (lv_at hl 2 rfl) ?_
      refine va_iald hx hb hK.1 hP 2 0 rfl rfl (in_rg h_10 (by decide)) dX11_drawn_35 ?_
      refine lv_topi (fun z35 gz35 => ?_)
      have hz35 : rg (-1) 7 z35 := by rw [gz35]; exact p_11 _
      exact W.iret (v := z35) hx hb hr (fun t ht hW => ⟨⟨z35, (fun k => ([0] : List Int32).getD k 0, fun k => ([ur27.2.1 0, ur27.2.1 1] : List (Nat → Int32)).getD k (fun _ => 0), fun k => ([] : List (Nat → Int64)).getD k (fun _ => 0)), rfl, ⟨(rg_w (c := (-2)) (d := 7) hz35 (by decide)), (fun _ => h_5), (fun _ => h_5), (fun _ => h_5), (fun _ => h_10), (fun _ => h_10), (fun _ => h_10), p_11, (rgn 0 (x := 0) (by decide)), trivial⟩, hp_at ht hP⟩, hS.F ht⟩) hS.2.2 dX11_drawn_36
    · have h_12 : rg 0 0 r15 := r_eq_l_i (e := 0) (f := 0) c18 p_6 (rgn 0 (x := 0) (by decide)) (by decide)
      refine lv_bipush (v := (-2)) hx hb dX11_drawn_21 (by decide) ?_
      exact W.iret (v := (-2)) hx hb hr (fun t ht hW => ⟨⟨(-2), (fun k => ([0] : List Int32).getD k 0, fun k => ([f11, f12] : List (Nat → Int32)).getD k (fun _ => 0), fun k => ([] : List (Nat → Int64)).getD k (fun _ => 0)), rfl, ⟨(rg_w (c := (-2)) (d := 7) (rgn (-2) (x := (-2)) (by decide)) (by decide)), (fun _ => h_5), (fun _ => h_5), (fun _ => h_5), (fun hq => absurd hq (rne (rgn (-2) (x := (-2)) (by decide)) (y := 0) (c := 0) (by decide) (by decide))), (fun hq => absurd hq (rne (rgn (-2) (x := (-2)) (by decide)) (y := (-1)) (c := (-1)) (by decide) (by decide))), (fun hq => absurd (req (rgn (-2) (x := (-2)) (by decide)) (y := (-2)) (by decide)) hq), hp_f11, (rgn 0 (x := 0) (by decide)), trivial⟩, hp_at ht hP⟩, hS.F ht⟩) hS.2.2 dX11_drawn_23

set_option maxHeartbeats 4000000 in
set_option maxRecDepth 100000 in
theorem a_X11_luck (l : Launch) (G : va_G) (ct : Nat → ClassId) (a0 : Nat) (n0_0 : Int32) (a1 : Nat) (a2 : Nat) (a3 : Nat) (a4 : Nat) (a5 : Nat) (n0_6 : Int32) (n0_7 : Int32) (n0_8 : Int32) (n0_9 : Int32) (n0_10 : Int32) (l0_11 : Int64) (n0_12 : Int32) (n0_13 : Int32) (n0_14 : Int32) (n0_15 : Int32) (a6 : Nat) (a7 : Nat) (a8 : Nat) (a9 : Nat) (a10 : Nat) (a11 : Nat) (a12 : Nat) (a13 : Nat) (n0_24 : Int32) (n0_25 : Int32) (n0_26 : Int32) (n0_27 : Int32) (a14 : Nat) (n0_29 : Int32) (n0_30 : Int32) (f7 : Nat → Int32) (f11 : Nat → Int32) (f12 : Nat → Int32) (p0 : Int32) (p1 : Int32) (p2 : Int32) (hp_n0_6 : rg 0 900 n0_6) (hp_f7 : hsI f7) (hp_f11 : ar (-1) 7 f11) : Met l yX11_luck wsX11_luck ({ frames := 2, cells := 0, slots := 0, locals := 47 }) (va_Pc [.ref a0, .int p0, .int p1, .int p2] (wrP G ct [(a0, .inr (11, [.int n0_0, .ref a1, .ref a2, .ref a3, .ref a4, .ref a5, .int n0_6, .int n0_7, .int n0_8, .int n0_9, .int n0_10, .long l0_11, .int n0_12, .int n0_13, .int n0_14, .int n0_15, .ref a6, .ref a7, .ref a8, .ref a9, .ref a10, .ref a11, .ref a12, .ref a13, .int n0_24, .int n0_25, .int n0_26, .int n0_27, .ref a14, .int n0_29, .int n0_30])), (a7, .inl (ct 0, 15, .inl f7)), (a11, .inl (ct 0, 8, .inl f11)), (a12, .inl (ct 0, 8, .inl f12))])) (va_Qi (fun (r : Int32) (u : SU) => (r = 0 → rg 0 2000000000 p0) ∧ (r = (-1) → rg 0 2000000000 p0) ∧ (¬ r = (-2) → rg 0 2000000000 p0) ∧ (r = 0 → rg 1 20 p1) ∧ (r = (-1) → rg 1 20 p1) ∧ (¬ r = (-2) → rg 1 20 p1) ∧ (r = 0 → rg 0 7 p2) ∧ (r = (-1) → rg 0 7 p2) ∧ (¬ r = (-2) → rg 0 7 p2) ∧ ar (-1) 7 (u.2.1 0) ∧ rg 0 0 (u.1 0) ∧ True) (fun u t => va_P G vwCl ((fun u : SU => [(a0, .inr (11, [.int (u.1 0), .ref a1, .ref a2, .ref a3, .ref a4, .ref a5, .int n0_6, .int n0_7, .int n0_8, .int n0_9, .int n0_10, .long l0_11, .int n0_12, .int n0_13, .int n0_14, .int n0_15, .ref a6, .ref a7, .ref a8, .ref a9, .ref a10, .ref a11, .ref a12, .ref a13, .int n0_24, .int n0_25, .int n0_26, .int n0_27, .ref a14, .int n0_29, .int n0_30])), (a7, .inl (ct 0, 15, .inl f7)), (a11, .inl (ct 0, 8, .inl (u.2.1 0))), (a12, .inl (ct 0, 8, .inl (u.2.1 1)))]) u) t.heap) (aset [(a0, .inr (11, [.int n0_0, .ref a1, .ref a2, .ref a3, .ref a4, .ref a5, .int n0_6, .int n0_7, .int n0_8, .int n0_9, .int n0_10, .long l0_11, .int n0_12, .int n0_13, .int n0_14, .int n0_15, .ref a6, .ref a7, .ref a8, .ref a9, .ref a10, .ref a11, .ref a12, .ref a13, .int n0_24, .int n0_25, .int n0_26, .int n0_27, .ref a14, .int n0_29, .int n0_30])), (a7, .inl (ct 0, 15, .inl f7)), (a11, .inl (ct 0, 8, .inl f11)), (a12, .inl (ct 0, 8, .inl f12))])) 0 0 (aset [(a0, .inr (11, [.int n0_0, .ref a1, .ref a2, .ref a3, .ref a4, .ref a5, .int n0_6, .int n0_7, .int n0_8, .int n0_9, .int n0_10, .long l0_11, .int n0_12, .int n0_13, .int n0_14, .int n0_15, .ref a6, .ref a7, .ref a8, .ref a9, .ref a10, .ref a11, .ref a12, .ref a13, .int n0_24, .int n0_25, .int n0_26, .int n0_27, .ref a14, .int n0_29, .int n0_30])), (a7, .inl (ct 0, 15, .inl f7)), (a11, .inl (ct 0, 8, .inl f11)), (a12, .inl (ct 0, 8, .inl f12))]) := by
  refine Met.ofW (cc := cX11_luck) (maxL := 6) (ret := (some .int)) (by decide) rfl ?_
  intro p e s m args below meth c s₁ B hml hv
  obtain ⟨rfl, hP, hK, hD0⟩ := hv
  have hx := B.exec
  have hb := B.bytes
  have hr := B.returns
  have hts := atoms_spec (ws := wsX11_luck) B.pre
  have hown : s.vm.findClass RX11 = some m.cls := findClass_of_methodNamed B.named
  have hlocks := B.notSynchronized
  have hD := hD0.aself
  generalize hAe : aset [(a0, .inr (11, [.int n0_0, .ref a1, .ref a2, .ref a3, .ref a4, .ref a5, .int n0_6, .int n0_7, .int n0_8, .int n0_9, .int n0_10, .long l0_11, .int n0_12, .int n0_13, .int n0_14, .int n0_15, .ref a6, .ref a7, .ref a8, .ref a9, .ref a10, .ref a11, .ref a12, .ref a13, .int n0_24, .int n0_25, .int n0_26, .int n0_27, .ref a14, .int n0_29, .int n0_30])), (a7, .inl (ct 0, 15, .inl f7)), (a11, .inl (ct 0, 8, .inl f11)), (a12, .inl (ct 0, 8, .inl f12))] = A at hD ⊢
  have hS : va_S A s.heap s.heap [] := va_S.rf
  have hl := lv_entry ([.ref a0, .int p0, .int p1, .int p2]) (n := 6) (Nat.le_of_ble_eq_true rfl)
  rw [lg_entry_eq]
  generalize (lg_sl ([.ref a0, .int p0, .int p1, .int p2]) ++ List.replicate (6 - (lg_sl ([.ref a0, .int p0, .int p1, .int p2])).length) Slot.unset).toArray = ls at hl ⊢
  have hl : lv_has ls 6 [(0, .ref a0), (1, .int p0), (2, .int p1), (3, .int p2)] := hl
  refine lv_aload_n hx hb dX11_luck_0 rfl (lv_at hl 0 rfl) ?_
  refine lv_iconst (v := 0) hx hb dX11_luck_1 (by decide) ?_
  refine va_put (D := G) (ci := 11) (v := .int 0) (ty := .int) (C := RX11) (T := TX11) (N := 31) hx hb hts (by decide +kernel) tyX11 tyX11_ok nmX11 hown hK.1 hP hD hS 0 rfl rfl 0 (by decide) (hts (.fieldLink RX11 59 "CardHolderModel" "thrown" "I") (by decide +kernel)) (fun _ h9 => h9) rfl (by decide +kernel) rfl rfl (Nat.le_of_ble_eq_true rfl) dX11_luck_2 (fun H locs hP hD hS => ?_)
  refine lv_iload_n hx hb dX11_luck_5 rfl (lv_at hl 1 rfl) ?_
  refine ro_calli (va_runS (As := [.int p0]) (rest := []) ⟨hx, hb, hml, hown, hts⟩ (a_X11_isSeed l G ct p0) (va_cwS 1 hts gX11_luck_X11_isSeed rfl rfl rfl (by decide +kernel) ⟨Nat.le_of_ble_eq_true rfl, Nat.le_of_ble_eq_true rfl⟩) (ro_pre hK (hP.sub [] rfl)) rfl rfl hl.1 rfl (lv_room (Nat.le_of_ble_eq_true rfl)) dX11_luck_6 ⟨Nat.zero_le _, Nat.zero_le _⟩) hS hP (fun r6 H locs wr6 hP hS => ?_)
  obtain ⟨p_1, p_2, -⟩ := wr6
  refine lv_if_eq (tgt := 33) hx hb dX11_luck_9 (by decide) (fun c9 => ?_) (fun c9 => ?_)
  · have h_3 : rg 0 0 r6 := r_eq_l_i (e := 0) (f := 0) c9 p_1 (rgn 0 (x := 0) (by decide)) (by decide)
    refine lv_bipush (v := (-2)) hx hb dX11_luck_33 (by decide) ?_
    exact W.iret (v := (-2)) hx hb hr (fun t ht hW => ⟨⟨(-2), (fun k => ([0] : List Int32).getD k 0, fun k => ([f11, f12] : List (Nat → Int32)).getD k (fun _ => 0), fun k => ([] : List (Nat → Int64)).getD k (fun _ => 0)), rfl, ⟨(fun hq => absurd hq (rne (rgn (-2) (x := (-2)) (by decide)) (y := 0) (c := 0) (by decide) (by decide))), (fun hq => absurd hq (rne (rgn (-2) (x := (-2)) (by decide)) (y := (-1)) (c := (-1)) (by decide) (by decide))), (fun hq => absurd (req (rgn (-2) (x := (-2)) (by decide)) (y := (-2)) (by decide)) hq), (fun hq => absurd hq (rne (rgn (-2) (x := (-2)) (by decide)) (y := 0) (c := 0) (by decide) (by decide))), (fun hq => absurd hq (rne (rgn (-2) (x := (-2)) (by decide)) (y := (-1)) (c := (-1)) (by decide) (by decide))), (fun hq => absurd (req (rgn (-2) (x := (-2)) (by decide)) (y := (-2)) (by decide)) hq), (fun hq => absurd hq (rne (rgn (-2) (x := (-2)) (by decide)) (y := 0) (c := 0) (by decide) (by decide))), (fun hq => absurd hq (rne (rgn (-2) (x := (-2)) (by decide)) (y := (-1)) (c := (-1)) (by decide) (by decide))), (fun hq => absurd (req (rgn (-2) (x := (-2)) (by decide)) (y := (-2)) (by decide)) hq), hp_f11, (rgn 0 (x := 0) (by decide)), trivial⟩, hp_at ht hP⟩, hS.F ht⟩) hS.2.2 dX11_luck_35
  · have h_4 : rg 1 1 r6 := r_ne_lo_i c9 p_1 (by decide) (by decide)
    have h_5 : rg 0 2000000000 p0 := (p_2 (rne h_4 (y := 0) (c := 0) (by decide) (by decide)))
    refine lv_iload_n hx hb dX11_luck_12 rfl (lv_at hl 2 rfl) ?_
    refine lv_i2l hx hb dX11_luck_13 rfl ?_
    refine nl_i2l (rg_t p1) (fun z13 hz13 ez13 => ?_)
    refine lv_lconst (v := 1) hx hb dX11_luck_14 (by decide) ?_
    refine lv_ldc2 (own := RX11) (v := 20) hx hb hown (hts (.constantLong RX11 404 (20)) (by decide +kernel)) dX11_luck_15 ?_
    refine ro_calli (va_runS (As := [.long z13, .long 1, .long 20]) (rest := []) ⟨hx, hb, hml, hown, hts⟩ (a_X11_in l G ct z13 (1 : Int64) (20 : Int64)) (va_cwS 3 hts gX11_luck_X11_in rfl rfl rfl (by decide +kernel) ⟨Nat.le_of_ble_eq_true rfl, Nat.le_of_ble_eq_true rfl⟩) (ro_pre hK (hP.sub [] rfl)) rfl rfl hl.1 rfl (lv_room (Nat.le_of_ble_eq_true rfl)) dX11_luck_18 ⟨Nat.zero_le _, Nat.zero_le _⟩) hS hP (fun r18 H locs wr18 hP hS => ?_)
    obtain ⟨p_6, p_7, -⟩ := wr18
    refine lv_if_eq (tgt := 33) hx hb dX11_luck_21 (by decide) (fun c21 => ?_) (fun c21 => ?_)
    · have h_8 : rg 0 0 r18 := r_eq_l_i (e := 0) (f := 0) c21 p_6 (rgn 0 (x := 0) (by decide)) (by decide)
      refine lv_bipush (v := (-2)) hx hb dX11_luck_33 (by decide) ?_
      exact W.iret (v := (-2)) hx hb hr (fun t ht hW => ⟨⟨(-2), (fun k => ([0] : List Int32).getD k 0, fun k => ([f11, f12] : List (Nat → Int32)).getD k (fun _ => 0), fun k => ([] : List (Nat → Int64)).getD k (fun _ => 0)), rfl, ⟨(fun _ => h_5), (fun _ => h_5), (fun _ => h_5), (fun hq => absurd hq (rne (rgn (-2) (x := (-2)) (by decide)) (y := 0) (c := 0) (by decide) (by decide))), (fun hq => absurd hq (rne (rgn (-2) (x := (-2)) (by decide)) (y := (-1)) (c := (-1)) (by decide) (by decide))), (fun hq => absurd (req (rgn (-2) (x := (-2)) (by decide)) (y := (-2)) (by decide)) hq), (fun hq => absurd hq (rne (rgn (-2) (x := (-2)) (by decide)) (y := 0) (c := 0) (by decide) (by decide))), (fun hq => absurd hq (rne (rgn (-2) (x := (-2)) (by decide)) (y := (-1)) (c := (-1)) (by decide) (by decide))), (fun hq => absurd (req (rgn (-2) (x := (-2)) (by decide)) (y := (-2)) (by decide)) hq), hp_f11, (rgn 0 (x := 0) (by decide)), trivial⟩, hp_at ht hP⟩, hS.F ht⟩) hS.2.2 dX11_luck_35
    · have h_9 : rg 1 1 r18 := r_ne_lo_i c21 p_6 (by decide) (by decide)
      have h_10 : rl 1 20 z13 := ((fun hq => in_im (p_7 hq) (rln 1 (x := 1) (by decide)) (rln 20 (x := 20) (by decide))) (rne h_9 (y := 0) (c := 0) (by decide) (by decide)))
      have h_11 : rg 1 20 p1 := bk_li (a := 1) (b := 20) ez13 h_10 (rg_t p1) (by decide)
      refine lv_aload_n hx hb dX11_luck_24 rfl (lv_at hl 0 rfl) ?_
      refine lv_iload_n hx hb dX11_luck_25 rfl (lv_at hl 3 rfl) ?_
      refine lv_i2l hx hb dX11_luck_26 rfl ?_
      refine nl_i2l (rg_t p2) (fun z26 hz26 ez26 => ?_)
      refine ro_calli (va_runV (As := [.long z26]) (rest := []) ⟨hx, hb, hml, hown, hts⟩ (a_X11_isPerson l G ct a0 (0 : Int32) a1 a2 a3 a4 a5 n0_6 n0_7 n0_8 n0_9 n0_10 l0_11 n0_12 n0_13 n0_14 n0_15 a6 a7 a8 a9 a10 a11 a12 a13 n0_24 n0_25 n0_26 n0_27 a14 n0_29 n0_30 f7 z26 hp_n0_6 hp_f7) (cwV 1 hts gX11_luck_X11_isPerson rfl rfl rfl (by decide +kernel) ⟨Nat.le_of_ble_eq_true rfl, Nat.le_of_ble_eq_true rfl⟩) (ro_preV 11 0 hK (hP.sub [0, 1] rfl) rfl rfl) rfl rfl hl.1 rfl (lv_room (Nat.le_of_ble_eq_true rfl)) dX11_luck_27 ⟨Nat.zero_le _, Nat.zero_le _⟩) hS hP (fun r27 H locs wr27 hP hS => ?_)
      obtain ⟨p_12, p_13, -⟩ := wr27
      refine lv_if_ne (tgt := 36) hx hb dX11_luck_30 (by decide) (fun c30 => ?_) (fun c30 => ?_)
      · have h_14 : rg 1 1 r27 := r_ne_lo_i c30 p_12 (by decide) (by decide)
        have h_15 : rl 0 7 z26 := (p_13 (rne h_14 (y := 0) (c := 0) (by decide) (by decide)))
        have h_16 : rg 0 7 p2 := bk_li (a := 0) (b := 7) ez26 h_15 (rg_t p2) (by decide)
        refine lv_iconst (v := 0) hx hb dX11_luck_36 (by decide) ?_
        refine lv_istore (lv' := [(4, .int 0), (0, .ref a0), (1, .int p0), (2, .int p1), (3, .int p2)]) hx hb dX11_luck_37 hl (by decide) rfl (fun ls hl => ?_)
        refine lv_iconst (v := 0) hx hb dX11_luck_39 (by decide) ?_
        refine lv_istore (lv' := [(5, .int 0), (4, .int 0), (0, .ref a0), (1, .int p0), (2, .int p1), (3, .int p2)]) hx hb dX11_luck_40 hl (by decide) rfl (fun ls hl => ?_)
        have j42 : ∀ (n : Nat) (x42_4 : Int32) (x42_5 : Int32) (f42_2 : Nat → Int32) (f42_3 : Nat → Int32) (H : Heap) (locs : List Loc) (ls : Array Slot), 2147483648 ≤ x42_5.toInt + (n : Int) → rg 0 20 x42_5 → ar (-1) 7 f42_2 → va_P G vwCl [(a0, .inr (11, [.int 0, .ref a1, .ref a2, .ref a3, .ref a4, .ref a5, .int n0_6, .int n0_7, .int n0_8, .int n0_9, .int n0_10, .long l0_11, .int n0_12, .int n0_13, .int n0_14, .int n0_15, .ref a6, .ref a7, .ref a8, .ref a9, .ref a10, .ref a11, .ref a12, .ref a13, .int n0_24, .int n0_25, .int n0_26, .int n0_27, .ref a14, .int n0_29, .int n0_30])), (a7, .inl (ct 0, 15, .inl f7)), (a11, .inl (ct 0, 8, .inl f42_2)), (a12, .inl (ct 0, 8, .inl f42_3))] H → va_D A [(a0, .inr (11, [.int 0, .ref a1, .ref a2, .ref a3, .ref a4, .ref a5, .int n0_6, .int n0_7, .int n0_8, .int n0_9, .int n0_10, .long l0_11, .int n0_12, .int n0_13, .int n0_14, .int n0_15, .ref a6, .ref a7, .ref a8, .ref a9, .ref a10, .ref a11, .ref a12, .ref a13, .int n0_24, .int n0_25, .int n0_26, .int n0_27, .ref a14, .int n0_29, .int n0_30])), (a7, .inl (ct 0, 15, .inl f7)), (a11, .inl (ct 0, 8, .inl f42_2)), (a12, .inl (ct 0, 8, .inl f42_3))] → va_S A s.heap H locs → lv_has ls 6 [(0, .ref a0), (1, .int p0), (2, .int p1), (3, .int p2), (4, .int x42_4), (5, .int x42_5)] → W p l e (headSpec wsX11_luck ({ frames := 2, cells := 0, slots := 0, locals := 47 })).room s m ([.ref a0, .int p0, .int p1, .int p2] : List Value).toArray below meth c H locs 0 0 (MQ below (va_Qi (fun (r : Int32) (u : SU) => (r = 0 → rg 0 2000000000 p0) ∧ (r = (-1) → rg 0 2000000000 p0) ∧ (¬ r = (-2) → rg 0 2000000000 p0) ∧ (r = 0 → rg 1 20 p1) ∧ (r = (-1) → rg 1 20 p1) ∧ (¬ r = (-2) → rg 1 20 p1) ∧ (r = 0 → rg 0 7 p2) ∧ (r = (-1) → rg 0 7 p2) ∧ (¬ r = (-2) → rg 0 7 p2) ∧ ar (-1) 7 (u.2.1 0) ∧ rg 0 0 (u.1 0) ∧ True) (fun u t => va_P G vwCl ((fun u : SU => [(a0, .inr (11, [.int (u.1 0), .ref a1, .ref a2, .ref a3, .ref a4, .ref a5, .int n0_6, .int n0_7, .int n0_8, .int n0_9, .int n0_10, .long l0_11, .int n0_12, .int n0_13, .int n0_14, .int n0_15, .ref a6, .ref a7, .ref a8, .ref a9, .ref a10, .ref a11, .ref a12, .ref a13, .int n0_24, .int n0_25, .int n0_26, .int n0_27, .ref a14, .int n0_29, .int n0_30])), (a7, .inl (ct 0, 15, .inl f7)), (a11, .inl (ct 0, 8, .inl (u.2.1 0))), (a12, .inl (ct 0, 8, .inl (u.2.1 1)))]) u) t.heap) A) ([.ref a0, .int p0, .int p1, .int p2] : List Value).toArray s 0 0 A) (F0 m 42 ls []) := by
          intro n
          induction n with
          | zero => intro x42_4 x42_5 f42_2 f42_3 H locs ls hn42 hx42_5 hf42_2 hP hD hS hl; exact absurd hn42 (by have := Int32.toInt_lt x42_5; have := Int32.le_toInt x42_5; omega)
          | succ n ih42 =>
            intro x42_4 x42_5 f42_2 f42_3 H locs ls hn42 hx42_5 hf42_2 hP hD hS hl
            refine lv_iload hx hb dX11_luck_42 (lv_at hl 5 rfl) ?_
            refine lv_iload_n hx hb dX11_luck_44 rfl (lv_at hl 2 rfl) ?_
            refine lv_icmp_ge (tgt := 84) hx hb dX11_luck_45 (by decide) (fun c45 => ?_) (fun c45 => ?_)
            · have h_17 : rg 1 20 x42_5 := r_le_r_i c45 h_11 hx42_5
              refine lv_iload hx hb dX11_luck_84 (lv_at hl 4 rfl) ?_
              exact W.iret (v := x42_4) hx hb hr (fun t ht hW => ⟨⟨x42_4, (fun k => ([0] : List Int32).getD k 0, fun k => ([f42_2, f42_3] : List (Nat → Int32)).getD k (fun _ => 0), fun k => ([] : List (Nat → Int64)).getD k (fun _ => 0)), rfl, ⟨(fun _ => h_5), (fun _ => h_5), (fun _ => h_5), (fun _ => h_11), (fun _ => h_11), (fun _ => h_11), (fun _ => h_16), (fun _ => h_16), (fun _ => h_16), hf42_2, (rgn 0 (x := 0) (by decide)), trivial⟩, hp_at ht hP⟩, hS.F ht⟩) hS.2.2 dX11_luck_86
            · have h_18 : rg 0 19 x42_5 := r_lt_l_i (nle_i c45) hx42_5 h_11 (by decide)
              refine lv_aload_n hx hb dX11_luck_48 rfl (lv_at hl 0 rfl) ?_
              refine lv_iload_n hx hb dX11_luck_49 rfl (lv_at hl 1 rfl) ?_
              refine lv_i2l hx hb dX11_luck_50 rfl ?_
              refine nl_i2l h_5 (fun z50 hz50 ez50 => ?_)
              refine lv_iload hx hb dX11_luck_51 (lv_at hl 5 rfl) ?_
              refine lv_i2l hx hb dX11_luck_53 rfl ?_
              refine nl_i2l h_18 (fun z53 hz53 ez53 => ?_)
              refine lv_ladd hx hb dX11_luck_54 ?_
              refine nl_add (e1 := 0) (f := 2000000019) hz50 hz53 (by decide) (fun z54 hz54 ez54 => ?_)
              refine wj_callv (wr := []) (w1 := (fun u : SU => [(a0, .inr (11, [.int 0, .ref a1, .ref a2, .ref a3, .ref a4, .ref a5, .int n0_6, .int n0_7, .int n0_8, .int n0_9, .int n0_10, .long l0_11, .int n0_12, .int n0_13, .int n0_14, .int n0_15, .ref a6, .ref a7, .ref a8, .ref a9, .ref a10, .ref a11, .ref a12, .ref a13, .int n0_24, .int n0_25, .int n0_26, .int n0_27, .ref a14, .int n0_29, .int n0_30])), (a7, .inl (ct 0, 15, .inl f7)), (a11, .inl (ct 0, 8, .inl (u.2.1 0))), (a12, .inl (ct 0, 8, .inl (u.2.1 1)))])) (va_runV (As := [.long z54]) (rest := []) ⟨hx, hb, hml, hown, hts⟩ (a_X11_draws l G ct a0 (0 : Int32) a1 a2 a3 a4 a5 n0_6 n0_7 n0_8 n0_9 n0_10 l0_11 n0_12 n0_13 n0_14 n0_15 a6 a7 a8 a9 a10 a11 a12 a13 n0_24 n0_25 n0_26 n0_27 a14 n0_29 n0_30 f7 f42_2 f42_3 z54 hp_n0_6 hp_f7 hf42_2 hz54) (cwV 1 hts gX11_luck_X11_draws rfl rfl rfl (by decide +kernel) ⟨Nat.le_of_ble_eq_true rfl, Nat.le_of_ble_eq_true rfl⟩) (wr_preV 11 0 hK (hP.sub [0, 1, 2, 3] rfl) (hD.sub [0, 1, 2, 3] (by decide) rfl) rfl rfl) rfl rfl hl.1 rfl (lv_room (Nat.le_of_ble_eq_true rfl)) dX11_luck_55 ⟨Nat.zero_le _, Nat.zero_le _⟩) hS hP hD [0, 1, 2, 3] [] rfl rfl (by decide) (fun _ => rfl) (fun ur55 H locs wr55 hP hD hS => ?_)
              have hP : va_P G vwCl [(a0, .inr (11, [.int 0, .ref a1, .ref a2, .ref a3, .ref a4, .ref a5, .int n0_6, .int n0_7, .int n0_8, .int n0_9, .int n0_10, .long l0_11, .int n0_12, .int n0_13, .int n0_14, .int n0_15, .ref a6, .ref a7, .ref a8, .ref a9, .ref a10, .ref a11, .ref a12, .ref a13, .int n0_24, .int n0_25, .int n0_26, .int n0_27, .ref a14, .int n0_29, .int n0_30])), (a7, .inl (ct 0, 15, .inl f7)), (a11, .inl (ct 0, 8, .inl (ur55.2.1 0))), (a12, .inl (ct 0, 8, .inl (ur55.2.1 1)))] H := hP.sub [0, 1, 2, 3] rfl
              have hD : va_D A [(a0, .inr (11, [.int 0, .ref a1, .ref a2, .ref a3, .ref a4, .ref a5, .int n0_6, .int n0_7, .int n0_8, .int n0_9, .int n0_10, .long l0_11, .int n0_12, .int n0_13, .int n0_14, .int n0_15, .ref a6, .ref a7, .ref a8, .ref a9, .ref a10, .ref a11, .ref a12, .ref a13, .int n0_24, .int n0_25, .int n0_26, .int n0_27, .ref a14, .int n0_29, .int n0_30])), (a7, .inl (ct 0, 15, .inl f7)), (a11, .inl (ct 0, 8, .inl (ur55.2.1 0))), (a12, .inl (ct 0, 8, .inl (ur55.2.1 1)))] := hD.sub [0, 1, 2, 3] (by decide) rfl
              obtain ⟨p_19, -⟩ := wr55
              refine lv_iload hx hb dX11_luck_58 (lv_at hl 4 rfl) ?_
              refine lv_aload_n hx hb dX11_luck_60 rfl (lv_at hl 0 rfl) ?_
              refine va_get (D := G) (ci := 11) (v := .ref a11) (C := RX11) (T := TX11) (N := 31) hx hb hts (by decide +kernel) hown hK.1 hP 0 rfl rfl 21 (by decide) (hts (.fieldLink RX11 47 "CardHolderModel" "holder" "[I") (by decide +kernel)) (fun _ h9 => h9) rfl dX11_luck_61 ?_
              refine lv_iload_n hx hb dX11_luck_64 rfl (lv_at hl 3 rfl) ?_
              refine va_iald hx hb hK.1 hP 2 0 rfl rfl (in_rg h_16 (by decide)) dX11_luck_65 ?_
              refine lv_topi (fun z65 gz65 => ?_)
              have hz65 : rg (-1) 7 z65 := by rw [gz65]; exact p_19 _
              refine lv_iload_n hx hb dX11_luck_66 rfl (lv_at hl 3 rfl) ?_
              have j75 : ∀ (y75_0 : Int32) (H : Heap) (locs : List Loc) (ls : Array Slot), rg 0 1 y75_0 → va_P G vwCl [(a0, .inr (11, [.int 0, .ref a1, .ref a2, .ref a3, .ref a4, .ref a5, .int n0_6, .int n0_7, .int n0_8, .int n0_9, .int n0_10, .long l0_11, .int n0_12, .int n0_13, .int n0_14, .int n0_15, .ref a6, .ref a7, .ref a8, .ref a9, .ref a10, .ref a11, .ref a12, .ref a13, .int n0_24, .int n0_25, .int n0_26, .int n0_27, .ref a14, .int n0_29, .int n0_30])), (a7, .inl (ct 0, 15, .inl f7)), (a11, .inl (ct 0, 8, .inl (ur55.2.1 0))), (a12, .inl (ct 0, 8, .inl (ur55.2.1 1)))] H → va_D A [(a0, .inr (11, [.int 0, .ref a1, .ref a2, .ref a3, .ref a4, .ref a5, .int n0_6, .int n0_7, .int n0_8, .int n0_9, .int n0_10, .long l0_11, .int n0_12, .int n0_13, .int n0_14, .int n0_15, .ref a6, .ref a7, .ref a8, .ref a9, .ref a10, .ref a11, .ref a12, .ref a13, .int n0_24, .int n0_25, .int n0_26, .int n0_27, .ref a14, .int n0_29, .int n0_30])), (a7, .inl (ct 0, 15, .inl f7)), (a11, .inl (ct 0, 8, .inl (ur55.2.1 0))), (a12, .inl (ct 0, 8, .inl (ur55.2.1 1)))] → va_S A s.heap H locs → lv_has ls 6 [(0, .ref a0), (1, .int p0), (2, .int p1), (3, .int p2), (4, .int x42_4), (5, .int x42_5)] → W p l e (headSpec wsX11_luck ({ frames := 2, cells := 0, slots := 0, locals := 47 })).room s m ([.ref a0, .int p0, .int p1, .int p2] : List Value).toArray below meth c H locs 0 0 (MQ below (va_Qi (fun (r : Int32) (u : SU) => (r = 0 → rg 0 2000000000 p0) ∧ (r = (-1) → rg 0 2000000000 p0) ∧ (¬ r = (-2) → rg 0 2000000000 p0) ∧ (r = 0 → rg 1 20 p1) ∧ (r = (-1) → rg 1 20 p1) ∧ (¬ r = (-2) → rg 1 20 p1) ∧ (r = 0 → rg 0 7 p2) ∧ (r = (-1) → rg 0 7 p2) ∧ (¬ r = (-2) → rg 0 7 p2) ∧ ar (-1) 7 (u.2.1 0) ∧ rg 0 0 (u.1 0) ∧ True) (fun u t => va_P G vwCl ((fun u : SU => [(a0, .inr (11, [.int (u.1 0), .ref a1, .ref a2, .ref a3, .ref a4, .ref a5, .int n0_6, .int n0_7, .int n0_8, .int n0_9, .int n0_10, .long l0_11, .int n0_12, .int n0_13, .int n0_14, .int n0_15, .ref a6, .ref a7, .ref a8, .ref a9, .ref a10, .ref a11, .ref a12, .ref a13, .int n0_24, .int n0_25, .int n0_26, .int n0_27, .ref a14, .int n0_29, .int n0_30])), (a7, .inl (ct 0, 15, .inl f7)), (a11, .inl (ct 0, 8, .inl (u.2.1 0))), (a12, .inl (ct 0, 8, .inl (u.2.1 1)))]) u) t.heap) A) ([.ref a0, .int p0, .int p1, .int p2] : List Value).toArray s 0 0 A) (F0 m 75 ls [.int y75_0, .int x42_4]) := by
                intro y75_0 H locs ls hy75_0 hP hD hS hl
                refine lv_iadd hx hb dX11_luck_75 ?_
                refine nm_0 (fun z75 => ?_)
                refine lv_istore (lv' := [(4, .int z75), (0, .ref a0), (1, .int p0), (2, .int p1), (3, .int p2), (5, .int x42_5)]) hx hb dX11_luck_76 hl (by decide) rfl (fun ls hl => ?_)
                obtain ⟨z78, qz78⟩ : ∃ y : Int32, y = x42_5 + Int32.ofInt 1 := ⟨_, rfl⟩
                obtain ⟨hz78, ez78⟩ := inc_z (e := 1) (f := 20) h_18 qz78 (by decide)
                refine lv_iinc (v := z78) (lv' := [(5, .int z78), (4, .int z75), (0, .ref a0), (1, .int p0), (2, .int p1), (3, .int p2)]) hx hb dX11_luck_78 hl (k := 5) rfl (qz78.symm) (by decide) rfl (fun ls hl => ?_)
                refine lv_goto (tgt := 42) hx hb dX11_luck_81 (by decide) ?_
                exact ih42 z75 z78 (ur55.2.1 0) (ur55.2.1 1) _ _ ls (by have q := hn42; have := ez78; omega) (rg_w (c := 0) (d := 20) hz78 (by decide)) p_19 hP hD hS (lv_sub hl [2, 3, 4, 5, 1, 0] rfl)
              refine lv_icmp_ne (tgt := 74) hx hb dX11_luck_67 (by decide) (fun c67 => ?_) (fun c67 => ?_)
              · refine lv_iconst (v := 0) hx hb dX11_luck_74 (by decide) ?_
                exact j75 (0 : Int32) _ _ ls (rg_w (c := 0) (d := 1) (rgn 0 (x := 0) (by decide)) (by decide)) hP hD hS (lv_sub hl [0, 1, 2, 3, 4, 5] rfl)
              · have h_20 : rg 0 7 z65 := r_eq_l_i (e := 0) (f := 7) c67 hz65 h_16 (by decide)
                refine lv_iconst (v := 1) hx hb dX11_luck_70 (by decide) ?_
                refine lv_goto (tgt := 75) hx hb dX11_luck_71 (by decide) ?_
                exact j75 (1 : Int32) _ _ ls (rg_w (c := 0) (d := 1) (rgn 1 (x := 1) (by decide)) (by decide)) hP hD hS (lv_sub hl [0, 1, 2, 3, 4, 5] rfl)
        exact j42 4294967296 (0 : Int32) (0 : Int32) f11 f12 _ _ ls (ms_e (0 : Int32)) (rg_w (c := 0) (d := 20) (rgn 0 (x := 0) (by decide)) (by decide)) hp_f11 hP hD hS (lv_sub hl [2, 3, 4, 5, 1, 0] rfl)
      · have h_21 : rg 0 0 r27 := r_eq_l_i (e := 0) (f := 0) c30 p_12 (rgn 0 (x := 0) (by decide)) (by decide)
        refine lv_bipush (v := (-2)) hx hb dX11_luck_33 (by decide) ?_
        exact W.iret (v := (-2)) hx hb hr (fun t ht hW => ⟨⟨(-2), (fun k => ([0] : List Int32).getD k 0, fun k => ([f11, f12] : List (Nat → Int32)).getD k (fun _ => 0), fun k => ([] : List (Nat → Int64)).getD k (fun _ => 0)), rfl, ⟨(fun _ => h_5), (fun _ => h_5), (fun _ => h_5), (fun _ => h_11), (fun _ => h_11), (fun _ => h_11), (fun hq => absurd hq (rne (rgn (-2) (x := (-2)) (by decide)) (y := 0) (c := 0) (by decide) (by decide))), (fun hq => absurd hq (rne (rgn (-2) (x := (-2)) (by decide)) (y := (-1)) (c := (-1)) (by decide) (by decide))), (fun hq => absurd (req (rgn (-2) (x := (-2)) (by decide)) (y := (-2)) (by decide)) hq), hp_f11, (rgn 0 (x := 0) (by decide)), trivial⟩, hp_at ht hP⟩, hS.F ht⟩) hS.2.2 dX11_luck_35

set_option maxHeartbeats 4000000 in
set_option maxRecDepth 100000 in
theorem a_X11_winds (l : Launch) (G : va_G) (ct : Nat → ClassId) (a0 : Nat) (n0_0 : Int32) (a1 : Nat) (a2 : Nat) (a3 : Nat) (a4 : Nat) (a5 : Nat) (n0_6 : Int32) (n0_7 : Int32) (n0_8 : Int32) (n0_9 : Int32) (n0_10 : Int32) (l0_11 : Int64) (n0_12 : Int32) (n0_13 : Int32) (n0_14 : Int32) (n0_15 : Int32) (a6 : Nat) (a7 : Nat) (a8 : Nat) (a9 : Nat) (a10 : Nat) (a11 : Nat) (a12 : Nat) (a13 : Nat) (n0_24 : Int32) (n0_25 : Int32) (n0_26 : Int32) (n0_27 : Int32) (a14 : Nat) (n0_29 : Int32) (n0_30 : Int32) (f6 : Nat → Int32) (f7 : Nat → Int32) (f11 : Nat → Int32) (f12 : Nat → Int32) (p0 : Int32) (p1 : Int32) (hp_n0_6 : rg 0 900 n0_6) (hp_f7 : hsI f7) (hp_f11 : ar (-1) 7 f11) : Met l yX11_winds wsX11_winds ({ frames := 2, cells := 0, slots := 0, locals := 49 }) (va_Pc [.ref a0, .int p0, .int p1] (wrP G ct [(a0, .inr (11, [.int n0_0, .ref a1, .ref a2, .ref a3, .ref a4, .ref a5, .int n0_6, .int n0_7, .int n0_8, .int n0_9, .int n0_10, .long l0_11, .int n0_12, .int n0_13, .int n0_14, .int n0_15, .ref a6, .ref a7, .ref a8, .ref a9, .ref a10, .ref a11, .ref a12, .ref a13, .int n0_24, .int n0_25, .int n0_26, .int n0_27, .ref a14, .int n0_29, .int n0_30])), (a6, .inl (ct 0, 5, .inl f6)), (a7, .inl (ct 0, 15, .inl f7)), (a11, .inl (ct 0, 8, .inl f11)), (a12, .inl (ct 0, 8, .inl f12))])) (va_Qi (fun (r : Int32) (u : SU) => (r = 0 → rg 0 2000000000 p0) ∧ (r = (-1) → rg 0 2000000000 p0) ∧ (¬ r = (-2) → rg 0 2000000000 p0) ∧ (r = 0 → rg 1 20 p1) ∧ (r = (-1) → rg 1 20 p1) ∧ (¬ r = (-2) → rg 1 20 p1) ∧ ar (-1) 7 (u.2.1 0) ∧ rg 0 0 (u.1 0) ∧ True) (fun u t => va_P G vwCl ((fun u : SU => [(a0, .inr (11, [.int (u.1 0), .ref a1, .ref a2, .ref a3, .ref a4, .ref a5, .int n0_6, .int n0_7, .int n0_8, .int n0_9, .int n0_10, .long l0_11, .int n0_12, .int n0_13, .int n0_14, .int n0_15, .ref a6, .ref a7, .ref a8, .ref a9, .ref a10, .ref a11, .ref a12, .ref a13, .int n0_24, .int n0_25, .int n0_26, .int n0_27, .ref a14, .int n0_29, .int n0_30])), (a6, .inl (ct 0, 5, .inl f6)), (a7, .inl (ct 0, 15, .inl f7)), (a11, .inl (ct 0, 8, .inl (u.2.1 0))), (a12, .inl (ct 0, 8, .inl (u.2.1 1)))]) u) t.heap) (aset [(a0, .inr (11, [.int n0_0, .ref a1, .ref a2, .ref a3, .ref a4, .ref a5, .int n0_6, .int n0_7, .int n0_8, .int n0_9, .int n0_10, .long l0_11, .int n0_12, .int n0_13, .int n0_14, .int n0_15, .ref a6, .ref a7, .ref a8, .ref a9, .ref a10, .ref a11, .ref a12, .ref a13, .int n0_24, .int n0_25, .int n0_26, .int n0_27, .ref a14, .int n0_29, .int n0_30])), (a6, .inl (ct 0, 5, .inl f6)), (a7, .inl (ct 0, 15, .inl f7)), (a11, .inl (ct 0, 8, .inl f11)), (a12, .inl (ct 0, 8, .inl f12))])) 0 0 (aset [(a0, .inr (11, [.int n0_0, .ref a1, .ref a2, .ref a3, .ref a4, .ref a5, .int n0_6, .int n0_7, .int n0_8, .int n0_9, .int n0_10, .long l0_11, .int n0_12, .int n0_13, .int n0_14, .int n0_15, .ref a6, .ref a7, .ref a8, .ref a9, .ref a10, .ref a11, .ref a12, .ref a13, .int n0_24, .int n0_25, .int n0_26, .int n0_27, .ref a14, .int n0_29, .int n0_30])), (a6, .inl (ct 0, 5, .inl f6)), (a7, .inl (ct 0, 15, .inl f7)), (a11, .inl (ct 0, 8, .inl f11)), (a12, .inl (ct 0, 8, .inl f12))]) := by
  refine Met.ofW (cc := cX11_winds) (maxL := 5) (ret := (some .int)) (by decide) rfl ?_
  intro p e s m args below meth c s₁ B hml hv
  obtain ⟨rfl, hP, hK, hD0⟩ := hv
  have hx := B.exec
  have hb := B.bytes
  have hr := B.returns
  have hts := atoms_spec (ws := wsX11_winds) B.pre
  have hown : s.vm.findClass RX11 = some m.cls := findClass_of_methodNamed B.named
  have hlocks := B.notSynchronized
  have hD := hD0.aself
  generalize hAe : aset [(a0, .inr (11, [.int n0_0, .ref a1, .ref a2, .ref a3, .ref a4, .ref a5, .int n0_6, .int n0_7, .int n0_8, .int n0_9, .int n0_10, .long l0_11, .int n0_12, .int n0_13, .int n0_14, .int n0_15, .ref a6, .ref a7, .ref a8, .ref a9, .ref a10, .ref a11, .ref a12, .ref a13, .int n0_24, .int n0_25, .int n0_26, .int n0_27, .ref a14, .int n0_29, .int n0_30])), (a6, .inl (ct 0, 5, .inl f6)), (a7, .inl (ct 0, 15, .inl f7)), (a11, .inl (ct 0, 8, .inl f11)), (a12, .inl (ct 0, 8, .inl f12))] = A at hD ⊢
  have hS : va_S A s.heap s.heap [] := va_S.rf
  have hl := lv_entry ([.ref a0, .int p0, .int p1]) (n := 5) (Nat.le_of_ble_eq_true rfl)
  rw [lg_entry_eq]
  generalize (lg_sl ([.ref a0, .int p0, .int p1]) ++ List.replicate (5 - (lg_sl ([.ref a0, .int p0, .int p1])).length) Slot.unset).toArray = ls at hl ⊢
  have hl : lv_has ls 5 [(0, .ref a0), (1, .int p0), (2, .int p1)] := hl
  refine lv_aload_n hx hb dX11_winds_0 rfl (lv_at hl 0 rfl) ?_
  refine lv_iconst (v := 0) hx hb dX11_winds_1 (by decide) ?_
  refine va_put (D := G) (ci := 11) (v := .int 0) (ty := .int) (C := RX11) (T := TX11) (N := 31) hx hb hts (by decide +kernel) tyX11 tyX11_ok nmX11 hown hK.1 hP hD hS 0 rfl rfl 0 (by decide) (hts (.fieldLink RX11 59 "CardHolderModel" "thrown" "I") (by decide +kernel)) (fun _ h9 => h9) rfl (by decide +kernel) rfl rfl (Nat.le_of_ble_eq_true rfl) dX11_winds_2 (fun H locs hP hD hS => ?_)
  refine lv_iload_n hx hb dX11_winds_5 rfl (lv_at hl 1 rfl) ?_
  refine ro_calli (va_runS (As := [.int p0]) (rest := []) ⟨hx, hb, hml, hown, hts⟩ (a_X11_isSeed l G ct p0) (va_cwS 1 hts gX11_winds_X11_isSeed rfl rfl rfl (by decide +kernel) ⟨Nat.le_of_ble_eq_true rfl, Nat.le_of_ble_eq_true rfl⟩) (ro_pre hK (hP.sub [] rfl)) rfl rfl hl.1 rfl (lv_room (Nat.le_of_ble_eq_true rfl)) dX11_winds_6 ⟨Nat.zero_le _, Nat.zero_le _⟩) hS hP (fun r6 H locs wr6 hP hS => ?_)
  obtain ⟨p_1, p_2, -⟩ := wr6
  refine lv_if_eq (tgt := 31) hx hb dX11_winds_9 (by decide) (fun c9 => ?_) (fun c9 => ?_)
  · have h_3 : rg 0 0 r6 := r_eq_l_i (e := 0) (f := 0) c9 p_1 (rgn 0 (x := 0) (by decide)) (by decide)
    refine lv_bipush (v := (-2)) hx hb dX11_winds_31 (by decide) ?_
    exact W.iret (v := (-2)) hx hb hr (fun t ht hW => ⟨⟨(-2), (fun k => ([0] : List Int32).getD k 0, fun k => ([f11, f12] : List (Nat → Int32)).getD k (fun _ => 0), fun k => ([] : List (Nat → Int64)).getD k (fun _ => 0)), rfl, ⟨(fun hq => absurd hq (rne (rgn (-2) (x := (-2)) (by decide)) (y := 0) (c := 0) (by decide) (by decide))), (fun hq => absurd hq (rne (rgn (-2) (x := (-2)) (by decide)) (y := (-1)) (c := (-1)) (by decide) (by decide))), (fun hq => absurd (req (rgn (-2) (x := (-2)) (by decide)) (y := (-2)) (by decide)) hq), (fun hq => absurd hq (rne (rgn (-2) (x := (-2)) (by decide)) (y := 0) (c := 0) (by decide) (by decide))), (fun hq => absurd hq (rne (rgn (-2) (x := (-2)) (by decide)) (y := (-1)) (c := (-1)) (by decide) (by decide))), (fun hq => absurd (req (rgn (-2) (x := (-2)) (by decide)) (y := (-2)) (by decide)) hq), hp_f11, (rgn 0 (x := 0) (by decide)), trivial⟩, hp_at ht hP⟩, hS.F ht⟩) hS.2.2 dX11_winds_33
  · have h_4 : rg 1 1 r6 := r_ne_lo_i c9 p_1 (by decide) (by decide)
    have h_5 : rg 0 2000000000 p0 := (p_2 (rne h_4 (y := 0) (c := 0) (by decide) (by decide)))
    refine lv_iload_n hx hb dX11_winds_12 rfl (lv_at hl 2 rfl) ?_
    refine lv_i2l hx hb dX11_winds_13 rfl ?_
    refine nl_i2l (rg_t p1) (fun z13 hz13 ez13 => ?_)
    refine lv_lconst (v := 1) hx hb dX11_winds_14 (by decide) ?_
    refine lv_ldc2 (own := RX11) (v := 20) hx hb hown (hts (.constantLong RX11 404 (20)) (by decide +kernel)) dX11_winds_15 ?_
    refine ro_calli (va_runS (As := [.long z13, .long 1, .long 20]) (rest := []) ⟨hx, hb, hml, hown, hts⟩ (a_X11_in l G ct z13 (1 : Int64) (20 : Int64)) (va_cwS 3 hts gX11_winds_X11_in rfl rfl rfl (by decide +kernel) ⟨Nat.le_of_ble_eq_true rfl, Nat.le_of_ble_eq_true rfl⟩) (ro_pre hK (hP.sub [] rfl)) rfl rfl hl.1 rfl (lv_room (Nat.le_of_ble_eq_true rfl)) dX11_winds_18 ⟨Nat.zero_le _, Nat.zero_le _⟩) hS hP (fun r18 H locs wr18 hP hS => ?_)
    obtain ⟨p_6, p_7, -⟩ := wr18
    refine lv_if_eq (tgt := 31) hx hb dX11_winds_21 (by decide) (fun c21 => ?_) (fun c21 => ?_)
    · have h_8 : rg 0 0 r18 := r_eq_l_i (e := 0) (f := 0) c21 p_6 (rgn 0 (x := 0) (by decide)) (by decide)
      refine lv_bipush (v := (-2)) hx hb dX11_winds_31 (by decide) ?_
      exact W.iret (v := (-2)) hx hb hr (fun t ht hW => ⟨⟨(-2), (fun k => ([0] : List Int32).getD k 0, fun k => ([f11, f12] : List (Nat → Int32)).getD k (fun _ => 0), fun k => ([] : List (Nat → Int64)).getD k (fun _ => 0)), rfl, ⟨(fun _ => h_5), (fun _ => h_5), (fun _ => h_5), (fun hq => absurd hq (rne (rgn (-2) (x := (-2)) (by decide)) (y := 0) (c := 0) (by decide) (by decide))), (fun hq => absurd hq (rne (rgn (-2) (x := (-2)) (by decide)) (y := (-1)) (c := (-1)) (by decide) (by decide))), (fun hq => absurd (req (rgn (-2) (x := (-2)) (by decide)) (y := (-2)) (by decide)) hq), hp_f11, (rgn 0 (x := 0) (by decide)), trivial⟩, hp_at ht hP⟩, hS.F ht⟩) hS.2.2 dX11_winds_33
    · have h_9 : rg 1 1 r18 := r_ne_lo_i c21 p_6 (by decide) (by decide)
      have h_10 : rl 1 20 z13 := ((fun hq => in_im (p_7 hq) (rln 1 (x := 1) (by decide)) (rln 20 (x := 20) (by decide))) (rne h_9 (y := 0) (c := 0) (by decide) (by decide)))
      have h_11 : rg 1 20 p1 := bk_li (a := 1) (b := 20) ez13 h_10 (rg_t p1) (by decide)
      refine lv_aload_n hx hb dX11_winds_24 rfl (lv_at hl 0 rfl) ?_
      refine ro_calli (va_runV (As := []) (rest := []) ⟨hx, hb, hml, hown, hts⟩ (a_X11_isCity l G ct a0 (0 : Int32) a1 a2 a3 a4 a5 n0_6 n0_7 n0_8 n0_9 n0_10 l0_11 n0_12 n0_13 n0_14 n0_15 a6 a7 a8 a9 a10 a11 a12 a13 n0_24 n0_25 n0_26 n0_27 a14 n0_29 n0_30 f6 hp_n0_6) (cwV 0 hts gX11_winds_X11_isCity rfl rfl rfl (by decide +kernel) ⟨Nat.le_of_ble_eq_true rfl, Nat.le_of_ble_eq_true rfl⟩) (ro_preV 11 0 hK (hP.sub [0, 1] rfl) rfl rfl) rfl rfl hl.1 rfl (lv_room (Nat.le_of_ble_eq_true rfl)) dX11_winds_25 ⟨Nat.zero_le _, Nat.zero_le _⟩) hS hP (fun r25 H locs wr25 hP hS => ?_)
      obtain ⟨p_12, -⟩ := wr25
      refine lv_if_ne (tgt := 34) hx hb dX11_winds_28 (by decide) (fun c28 => ?_) (fun c28 => ?_)
      · have h_13 : rg 1 1 r25 := r_ne_lo_i c28 p_12 (by decide) (by decide)
        refine lv_iconst (v := 0) hx hb dX11_winds_34 (by decide) ?_
        refine lv_istore_n (lv' := [(3, .int 0), (0, .ref a0), (1, .int p0), (2, .int p1)]) hx hb dX11_winds_35 rfl hl (by decide) rfl (fun ls hl => ?_)
        refine lv_iconst (v := 0) hx hb dX11_winds_36 (by decide) ?_
        refine lv_istore (lv' := [(4, .int 0), (3, .int 0), (0, .ref a0), (1, .int p0), (2, .int p1)]) hx hb dX11_winds_37 hl (by decide) rfl (fun ls hl => ?_)
        have j39 : ∀ (n : Nat) (x39_3 : Int32) (x39_4 : Int32) (f39_3 : Nat → Int32) (f39_4 : Nat → Int32) (H : Heap) (locs : List Loc) (ls : Array Slot), 2147483648 ≤ x39_4.toInt + (n : Int) → rg 0 20 x39_4 → ar (-1) 7 f39_3 → va_P G vwCl [(a0, .inr (11, [.int 0, .ref a1, .ref a2, .ref a3, .ref a4, .ref a5, .int n0_6, .int n0_7, .int n0_8, .int n0_9, .int n0_10, .long l0_11, .int n0_12, .int n0_13, .int n0_14, .int n0_15, .ref a6, .ref a7, .ref a8, .ref a9, .ref a10, .ref a11, .ref a12, .ref a13, .int n0_24, .int n0_25, .int n0_26, .int n0_27, .ref a14, .int n0_29, .int n0_30])), (a6, .inl (ct 0, 5, .inl f6)), (a7, .inl (ct 0, 15, .inl f7)), (a11, .inl (ct 0, 8, .inl f39_3)), (a12, .inl (ct 0, 8, .inl f39_4))] H → va_D A [(a0, .inr (11, [.int 0, .ref a1, .ref a2, .ref a3, .ref a4, .ref a5, .int n0_6, .int n0_7, .int n0_8, .int n0_9, .int n0_10, .long l0_11, .int n0_12, .int n0_13, .int n0_14, .int n0_15, .ref a6, .ref a7, .ref a8, .ref a9, .ref a10, .ref a11, .ref a12, .ref a13, .int n0_24, .int n0_25, .int n0_26, .int n0_27, .ref a14, .int n0_29, .int n0_30])), (a6, .inl (ct 0, 5, .inl f6)), (a7, .inl (ct 0, 15, .inl f7)), (a11, .inl (ct 0, 8, .inl f39_3)), (a12, .inl (ct 0, 8, .inl f39_4))] → va_S A s.heap H locs → lv_has ls 5 [(0, .ref a0), (1, .int p0), (2, .int p1), (3, .int x39_3), (4, .int x39_4)] → W p l e (headSpec wsX11_winds ({ frames := 2, cells := 0, slots := 0, locals := 49 })).room s m ([.ref a0, .int p0, .int p1] : List Value).toArray below meth c H locs 0 0 (MQ below (va_Qi (fun (r : Int32) (u : SU) => (r = 0 → rg 0 2000000000 p0) ∧ (r = (-1) → rg 0 2000000000 p0) ∧ (¬ r = (-2) → rg 0 2000000000 p0) ∧ (r = 0 → rg 1 20 p1) ∧ (r = (-1) → rg 1 20 p1) ∧ (¬ r = (-2) → rg 1 20 p1) ∧ ar (-1) 7 (u.2.1 0) ∧ rg 0 0 (u.1 0) ∧ True) (fun u t => va_P G vwCl ((fun u : SU => [(a0, .inr (11, [.int (u.1 0), .ref a1, .ref a2, .ref a3, .ref a4, .ref a5, .int n0_6, .int n0_7, .int n0_8, .int n0_9, .int n0_10, .long l0_11, .int n0_12, .int n0_13, .int n0_14, .int n0_15, .ref a6, .ref a7, .ref a8, .ref a9, .ref a10, .ref a11, .ref a12, .ref a13, .int n0_24, .int n0_25, .int n0_26, .int n0_27, .ref a14, .int n0_29, .int n0_30])), (a6, .inl (ct 0, 5, .inl f6)), (a7, .inl (ct 0, 15, .inl f7)), (a11, .inl (ct 0, 8, .inl (u.2.1 0))), (a12, .inl (ct 0, 8, .inl (u.2.1 1)))]) u) t.heap) A) ([.ref a0, .int p0, .int p1] : List Value).toArray s 0 0 A) (F0 m 39 ls []) := by
          intro n
          induction n with
          | zero => intro x39_3 x39_4 f39_3 f39_4 H locs ls hn39 hx39_4 hf39_3 hP hD hS hl; exact absurd hn39 (by have := Int32.toInt_lt x39_4; have := Int32.le_toInt x39_4; omega)
          | succ n ih39 =>
            intro x39_3 x39_4 f39_3 f39_4 H locs ls hn39 hx39_4 hf39_3 hP hD hS hl
            refine lv_iload hx hb dX11_winds_39 (lv_at hl 4 rfl) ?_
            refine lv_iload_n hx hb dX11_winds_41 rfl (lv_at hl 2 rfl) ?_
            refine lv_icmp_ge (tgt := 68) hx hb dX11_winds_42 (by decide) (fun c42 => ?_) (fun c42 => ?_)
            · have h_14 : rg 1 20 x39_4 := r_le_r_i c42 h_11 hx39_4
              refine lv_iload_n hx hb dX11_winds_68 rfl (lv_at hl 3 rfl) ?_
              exact W.iret (v := x39_3) hx hb hr (fun t ht hW => ⟨⟨x39_3, (fun k => ([0] : List Int32).getD k 0, fun k => ([f39_3, f39_4] : List (Nat → Int32)).getD k (fun _ => 0), fun k => ([] : List (Nat → Int64)).getD k (fun _ => 0)), rfl, ⟨(fun _ => h_5), (fun _ => h_5), (fun _ => h_5), (fun _ => h_11), (fun _ => h_11), (fun _ => h_11), hf39_3, (rgn 0 (x := 0) (by decide)), trivial⟩, hp_at ht hP⟩, hS.F ht⟩) hS.2.2 dX11_winds_69
            · have h_15 : rg 0 19 x39_4 := r_lt_l_i (nle_i c42) hx39_4 h_11 (by decide)
              refine lv_aload_n hx hb dX11_winds_45 rfl (lv_at hl 0 rfl) ?_
              refine lv_iload_n hx hb dX11_winds_46 rfl (lv_at hl 1 rfl) ?_
              refine lv_i2l hx hb dX11_winds_47 rfl ?_
              refine nl_i2l h_5 (fun z47 hz47 ez47 => ?_)
              refine lv_iload hx hb dX11_winds_48 (lv_at hl 4 rfl) ?_
              refine lv_i2l hx hb dX11_winds_50 rfl ?_
              refine nl_i2l h_15 (fun z50 hz50 ez50 => ?_)
              refine lv_ladd hx hb dX11_winds_51 ?_
              refine nl_add (e1 := 0) (f := 2000000019) hz47 hz50 (by decide) (fun z51 hz51 ez51 => ?_)
              refine wj_callv (wr := [(a6, .inl (ct 0, 5, .inl f6))]) (w1 := (fun u : SU => [(a0, .inr (11, [.int 0, .ref a1, .ref a2, .ref a3, .ref a4, .ref a5, .int n0_6, .int n0_7, .int n0_8, .int n0_9, .int n0_10, .long l0_11, .int n0_12, .int n0_13, .int n0_14, .int n0_15, .ref a6, .ref a7, .ref a8, .ref a9, .ref a10, .ref a11, .ref a12, .ref a13, .int n0_24, .int n0_25, .int n0_26, .int n0_27, .ref a14, .int n0_29, .int n0_30])), (a7, .inl (ct 0, 15, .inl f7)), (a11, .inl (ct 0, 8, .inl (u.2.1 0))), (a12, .inl (ct 0, 8, .inl (u.2.1 1)))])) (va_runV (As := [.long z51]) (rest := []) ⟨hx, hb, hml, hown, hts⟩ (a_X11_draws l G ct a0 (0 : Int32) a1 a2 a3 a4 a5 n0_6 n0_7 n0_8 n0_9 n0_10 l0_11 n0_12 n0_13 n0_14 n0_15 a6 a7 a8 a9 a10 a11 a12 a13 n0_24 n0_25 n0_26 n0_27 a14 n0_29 n0_30 f7 f39_3 f39_4 z51 hp_n0_6 hp_f7 hf39_3 hz51) (cwV 1 hts gX11_winds_X11_draws rfl rfl rfl (by decide +kernel) ⟨Nat.le_of_ble_eq_true rfl, Nat.le_of_ble_eq_true rfl⟩) (wr_preV 11 0 hK (hP.sub [0, 2, 3, 4] rfl) (hD.sub [0, 2, 3, 4] (by decide) rfl) rfl rfl) rfl rfl hl.1 rfl (lv_room (Nat.le_of_ble_eq_true rfl)) dX11_winds_52 ⟨Nat.zero_le _, Nat.zero_le _⟩) hS hP hD [0, 2, 3, 4] [1] rfl rfl (by decide) (fun _ => rfl) (fun ur52 H locs wr52 hP hD hS => ?_)
              have hP : va_P G vwCl [(a0, .inr (11, [.int 0, .ref a1, .ref a2, .ref a3, .ref a4, .ref a5, .int n0_6, .int n0_7, .int n0_8, .int n0_9, .int n0_10, .long l0_11, .int n0_12, .int n0_13, .int n0_14, .int n0_15, .ref a6, .ref a7, .ref a8, .ref a9, .ref a10, .ref a11, .ref a12, .ref a13, .int n0_24, .int n0_25, .int n0_26, .int n0_27, .ref a14, .int n0_29, .int n0_30])), (a6, .inl (ct 0, 5, .inl f6)), (a7, .inl (ct 0, 15, .inl f7)), (a11, .inl (ct 0, 8, .inl (ur52.2.1 0))), (a12, .inl (ct 0, 8, .inl (ur52.2.1 1)))] H := hP.sub [1, 0, 2, 3, 4] rfl
              have hD : va_D A [(a0, .inr (11, [.int 0, .ref a1, .ref a2, .ref a3, .ref a4, .ref a5, .int n0_6, .int n0_7, .int n0_8, .int n0_9, .int n0_10, .long l0_11, .int n0_12, .int n0_13, .int n0_14, .int n0_15, .ref a6, .ref a7, .ref a8, .ref a9, .ref a10, .ref a11, .ref a12, .ref a13, .int n0_24, .int n0_25, .int n0_26, .int n0_27, .ref a14, .int n0_29, .int n0_30])), (a6, .inl (ct 0, 5, .inl f6)), (a7, .inl (ct 0, 15, .inl f7)), (a11, .inl (ct 0, 8, .inl (ur52.2.1 0))), (a12, .inl (ct 0, 8, .inl (ur52.2.1 1)))] := hD.sub [1, 0, 2, 3, 4] (by decide) rfl
              obtain ⟨p_16, -⟩ := wr52
              refine lv_iload_n hx hb dX11_winds_55 rfl (lv_at hl 3 rfl) ?_
              refine lv_aload_n hx hb dX11_winds_56 rfl (lv_at hl 0 rfl) ?_
              refine ro_calli (va_runV (As := []) (rest := [.int x39_3]) ⟨hx, hb, hml, hown, hts⟩ (a_X11_ringsNow l G ct a0 (0 : Int32) a1 a2 a3 a4 a5 n0_6 n0_7 n0_8 n0_9 n0_10 l0_11 n0_12 n0_13 n0_14 n0_15 a6 a7 a8 a9 a10 a11 a12 a13 n0_24 n0_25 n0_26 n0_27 a14 n0_29 n0_30 f7 (ur52.2.1 0) hp_n0_6 hp_f7 p_16) (cwV 0 hts gX11_winds_X11_ringsNow rfl rfl rfl (by decide +kernel) ⟨Nat.le_of_ble_eq_true rfl, Nat.le_of_ble_eq_true rfl⟩) (ro_preV 11 0 hK (hP.sub [0, 2, 3] rfl) rfl rfl) rfl rfl hl.1 rfl (lv_room (Nat.le_of_ble_eq_true rfl)) dX11_winds_57 ⟨Nat.zero_le _, Nat.zero_le _⟩) hS hP (fun r57 H locs wr57 hP hS => ?_)
              refine lv_iadd hx hb dX11_winds_60 ?_
              refine nm_0 (fun z60 => ?_)
              refine lv_istore_n (lv' := [(3, .int z60), (0, .ref a0), (1, .int p0), (2, .int p1), (4, .int x39_4)]) hx hb dX11_winds_61 rfl hl (by decide) rfl (fun ls hl => ?_)
              obtain ⟨z62, qz62⟩ : ∃ y : Int32, y = x39_4 + Int32.ofInt 1 := ⟨_, rfl⟩
              obtain ⟨hz62, ez62⟩ := inc_z (e := 1) (f := 20) h_15 qz62 (by decide)
              refine lv_iinc (v := z62) (lv' := [(4, .int z62), (3, .int z60), (0, .ref a0), (1, .int p0), (2, .int p1)]) hx hb dX11_winds_62 hl (k := 4) rfl (qz62.symm) (by decide) rfl (fun ls hl => ?_)
              refine lv_goto (tgt := 39) hx hb dX11_winds_65 (by decide) ?_
              exact ih39 z60 z62 (ur52.2.1 0) (ur52.2.1 1) _ _ ls (by have q := hn39; have := ez62; omega) (rg_w (c := 0) (d := 20) hz62 (by decide)) p_16 hP hD hS (lv_sub hl [2, 3, 4, 1, 0] rfl)
        exact j39 4294967296 (0 : Int32) (0 : Int32) f11 f12 _ _ ls (ms_e (0 : Int32)) (rg_w (c := 0) (d := 20) (rgn 0 (x := 0) (by decide)) (by decide)) hp_f11 hP hD hS (lv_sub hl [2, 3, 4, 1, 0] rfl)
      · have h_17 : rg 0 0 r25 := r_eq_l_i (e := 0) (f := 0) c28 p_12 (rgn 0 (x := 0) (by decide)) (by decide)
        refine lv_bipush (v := (-2)) hx hb dX11_winds_31 (by decide) ?_
        exact W.iret (v := (-2)) hx hb hr (fun t ht hW => ⟨⟨(-2), (fun k => ([0] : List Int32).getD k 0, fun k => ([f11, f12] : List (Nat → Int32)).getD k (fun _ => 0), fun k => ([] : List (Nat → Int64)).getD k (fun _ => 0)), rfl, ⟨(fun _ => h_5), (fun _ => h_5), (fun _ => h_5), (fun _ => h_11), (fun _ => h_11), (fun _ => h_11), hp_f11, (rgn 0 (x := 0) (by decide)), trivial⟩, hp_at ht hP⟩, hS.F ht⟩) hS.2.2 dX11_winds_33

set_option maxHeartbeats 4000000 in
set_option maxRecDepth 100000 in
theorem a_X11_rate (l : Launch) (G : va_G) (ct : Nat → ClassId) (a0 : Nat) (n0_0 : Int32) (a1 : Nat) (a2 : Nat) (a3 : Nat) (a4 : Nat) (a5 : Nat) (n0_6 : Int32) (n0_7 : Int32) (n0_8 : Int32) (n0_9 : Int32) (n0_10 : Int32) (l0_11 : Int64) (n0_12 : Int32) (n0_13 : Int32) (n0_14 : Int32) (n0_15 : Int32) (a6 : Nat) (a7 : Nat) (a8 : Nat) (a9 : Nat) (a10 : Nat) (a11 : Nat) (a12 : Nat) (a13 : Nat) (n0_24 : Int32) (n0_25 : Int32) (n0_26 : Int32) (n0_27 : Int32) (a14 : Nat) (n0_29 : Int32) (n0_30 : Int32) (f7 : Nat → Int32) (f8 : Nat → Int32) (p0 : Int32) (p1 : Int32) (hp_n0_6 : rg 0 900 n0_6) (hp_f7 : hsI f7) (hp_f8 : psI f8) : Met l yX11_rate wsX11_rate ({ frames := 2, cells := 0, slots := 0, locals := 47 }) (va_Pc [.ref a0, .int p0, .int p1] (wrP G ct [(a0, .inr (11, [.int n0_0, .ref a1, .ref a2, .ref a3, .ref a4, .ref a5, .int n0_6, .int n0_7, .int n0_8, .int n0_9, .int n0_10, .long l0_11, .int n0_12, .int n0_13, .int n0_14, .int n0_15, .ref a6, .ref a7, .ref a8, .ref a9, .ref a10, .ref a11, .ref a12, .ref a13, .int n0_24, .int n0_25, .int n0_26, .int n0_27, .ref a14, .int n0_29, .int n0_30])), (a7, .inl (ct 0, 15, .inl f7)), (a8, .inl (ct 0, 200, .inl f8))])) (va_Qi (fun (r : Int32) (u : SU) => (r = 0 → rg 0 7 p0) ∧ (r = (-1) → rg 0 7 p0) ∧ (¬ r = (-2) → rg 0 7 p0) ∧ (r = 0 → rg 1 999 p1) ∧ (r = (-1) → rg 1 999 p1) ∧ (¬ r = (-2) → rg 1 999 p1) ∧ psI (u.2.1 0) ∧ rg 0 0 (u.1 0) ∧ True) (fun u t => va_P G vwCl ((fun u : SU => [(a0, .inr (11, [.int (u.1 0), .ref a1, .ref a2, .ref a3, .ref a4, .ref a5, .int n0_6, .int n0_7, .int n0_8, .int n0_9, .int n0_10, .long l0_11, .int n0_12, .int n0_13, .int n0_14, .int n0_15, .ref a6, .ref a7, .ref a8, .ref a9, .ref a10, .ref a11, .ref a12, .ref a13, .int n0_24, .int n0_25, .int n0_26, .int n0_27, .ref a14, .int n0_29, .int n0_30])), (a7, .inl (ct 0, 15, .inl f7)), (a8, .inl (ct 0, 200, .inl (u.2.1 0)))]) u) t.heap) (aset [(a0, .inr (11, [.int n0_0, .ref a1, .ref a2, .ref a3, .ref a4, .ref a5, .int n0_6, .int n0_7, .int n0_8, .int n0_9, .int n0_10, .long l0_11, .int n0_12, .int n0_13, .int n0_14, .int n0_15, .ref a6, .ref a7, .ref a8, .ref a9, .ref a10, .ref a11, .ref a12, .ref a13, .int n0_24, .int n0_25, .int n0_26, .int n0_27, .ref a14, .int n0_29, .int n0_30])), (a7, .inl (ct 0, 15, .inl f7)), (a8, .inl (ct 0, 200, .inl f8))])) 0 0 (aset [(a0, .inr (11, [.int n0_0, .ref a1, .ref a2, .ref a3, .ref a4, .ref a5, .int n0_6, .int n0_7, .int n0_8, .int n0_9, .int n0_10, .long l0_11, .int n0_12, .int n0_13, .int n0_14, .int n0_15, .ref a6, .ref a7, .ref a8, .ref a9, .ref a10, .ref a11, .ref a12, .ref a13, .int n0_24, .int n0_25, .int n0_26, .int n0_27, .ref a14, .int n0_29, .int n0_30])), (a7, .inl (ct 0, 15, .inl f7)), (a8, .inl (ct 0, 200, .inl f8))]) := by
  refine Met.ofW (cc := cX11_rate) (maxL := 4) (ret := (some .int)) (by decide) rfl ?_
  intro p e s m args below meth c s₁ B hml hv
  obtain ⟨rfl, hP, hK, hD0⟩ := hv
  have hx := B.exec
  have hb := B.bytes
  have hr := B.returns
  have hts := atoms_spec (ws := wsX11_rate) B.pre
  have hown : s.vm.findClass RX11 = some m.cls := findClass_of_methodNamed B.named
  have hlocks := B.notSynchronized
  have hD := hD0.aself
  generalize hAe : aset [(a0, .inr (11, [.int n0_0, .ref a1, .ref a2, .ref a3, .ref a4, .ref a5, .int n0_6, .int n0_7, .int n0_8, .int n0_9, .int n0_10, .long l0_11, .int n0_12, .int n0_13, .int n0_14, .int n0_15, .ref a6, .ref a7, .ref a8, .ref a9, .ref a10, .ref a11, .ref a12, .ref a13, .int n0_24, .int n0_25, .int n0_26, .int n0_27, .ref a14, .int n0_29, .int n0_30])), (a7, .inl (ct 0, 15, .inl f7)), (a8, .inl (ct 0, 200, .inl f8))] = A at hD ⊢
  have hS : va_S A s.heap s.heap [] := va_S.rf
  have hl := lv_entry ([.ref a0, .int p0, .int p1]) (n := 4) (Nat.le_of_ble_eq_true rfl)
  rw [lg_entry_eq]
  generalize (lg_sl ([.ref a0, .int p0, .int p1]) ++ List.replicate (4 - (lg_sl ([.ref a0, .int p0, .int p1])).length) Slot.unset).toArray = ls at hl ⊢
  have hl : lv_has ls 4 [(0, .ref a0), (1, .int p0), (2, .int p1)] := hl
  refine lv_aload_n hx hb dX11_rate_0 rfl (lv_at hl 0 rfl) ?_
  refine lv_iconst (v := 0) hx hb dX11_rate_1 (by decide) ?_
  refine va_put (D := G) (ci := 11) (v := .int 0) (ty := .int) (C := RX11) (T := TX11) (N := 31) hx hb hts (by decide +kernel) tyX11 tyX11_ok nmX11 hown hK.1 hP hD hS 0 rfl rfl 0 (by decide) (hts (.fieldLink RX11 59 "CardHolderModel" "thrown" "I") (by decide +kernel)) (fun _ h9 => h9) rfl (by decide +kernel) rfl rfl (Nat.le_of_ble_eq_true rfl) dX11_rate_2 (fun H locs hP hD hS => ?_)
  refine lv_aload_n hx hb dX11_rate_5 rfl (lv_at hl 0 rfl) ?_
  refine lv_iload_n hx hb dX11_rate_6 rfl (lv_at hl 1 rfl) ?_
  refine lv_i2l hx hb dX11_rate_7 rfl ?_
  refine nl_i2l (rg_t p0) (fun z7 hz7 ez7 => ?_)
  refine ro_calli (va_runV (As := [.long z7]) (rest := []) ⟨hx, hb, hml, hown, hts⟩ (a_X11_isPerson l G ct a0 (0 : Int32) a1 a2 a3 a4 a5 n0_6 n0_7 n0_8 n0_9 n0_10 l0_11 n0_12 n0_13 n0_14 n0_15 a6 a7 a8 a9 a10 a11 a12 a13 n0_24 n0_25 n0_26 n0_27 a14 n0_29 n0_30 f7 z7 hp_n0_6 hp_f7) (cwV 1 hts gX11_rate_X11_isPerson rfl rfl rfl (by decide +kernel) ⟨Nat.le_of_ble_eq_true rfl, Nat.le_of_ble_eq_true rfl⟩) (ro_preV 11 0 hK (hP.sub [0, 1] rfl) rfl rfl) rfl rfl hl.1 rfl (lv_room (Nat.le_of_ble_eq_true rfl)) dX11_rate_8 ⟨Nat.zero_le _, Nat.zero_le _⟩) hS hP (fun r8 H locs wr8 hP hS => ?_)
  obtain ⟨p_1, p_2, -⟩ := wr8
  refine lv_if_eq (tgt := 26) hx hb dX11_rate_11 (by decide) (fun c11 => ?_) (fun c11 => ?_)
  · have h_3 : rg 0 0 r8 := r_eq_l_i (e := 0) (f := 0) c11 p_1 (rgn 0 (x := 0) (by decide)) (by decide)
    refine lv_bipush (v := (-2)) hx hb dX11_rate_26 (by decide) ?_
    exact W.iret (v := (-2)) hx hb hr (fun t ht hW => ⟨⟨(-2), (fun k => ([0] : List Int32).getD k 0, fun k => ([f8] : List (Nat → Int32)).getD k (fun _ => 0), fun k => ([] : List (Nat → Int64)).getD k (fun _ => 0)), rfl, ⟨(fun hq => absurd hq (rne (rgn (-2) (x := (-2)) (by decide)) (y := 0) (c := 0) (by decide) (by decide))), (fun hq => absurd hq (rne (rgn (-2) (x := (-2)) (by decide)) (y := (-1)) (c := (-1)) (by decide) (by decide))), (fun hq => absurd (req (rgn (-2) (x := (-2)) (by decide)) (y := (-2)) (by decide)) hq), (fun hq => absurd hq (rne (rgn (-2) (x := (-2)) (by decide)) (y := 0) (c := 0) (by decide) (by decide))), (fun hq => absurd hq (rne (rgn (-2) (x := (-2)) (by decide)) (y := (-1)) (c := (-1)) (by decide) (by decide))), (fun hq => absurd (req (rgn (-2) (x := (-2)) (by decide)) (y := (-2)) (by decide)) hq), hp_f8, (rgn 0 (x := 0) (by decide)), trivial⟩, hp_at ht hP⟩, hS.F ht⟩) hS.2.2 dX11_rate_28
  · have h_4 : rg 1 1 r8 := r_ne_lo_i c11 p_1 (by decide) (by decide)
    have h_5 : rl 0 7 z7 := (p_2 (rne h_4 (y := 0) (c := 0) (by decide) (by decide)))
    have h_6 : rg 0 7 p0 := bk_li (a := 0) (b := 7) ez7 h_5 (rg_t p0) (by decide)
    refine lv_iload_n hx hb dX11_rate_14 rfl (lv_at hl 2 rfl) ?_
    refine lv_i2l hx hb dX11_rate_15 rfl ?_
    refine nl_i2l (rg_t p1) (fun z15 hz15 ez15 => ?_)
    refine lv_lconst (v := 1) hx hb dX11_rate_16 (by decide) ?_
    refine lv_ldc2 (own := RX11) (v := 999) hx hb hown (hts (.constantLong RX11 406 (999)) (by decide +kernel)) dX11_rate_17 ?_
    refine ro_calli (va_runS (As := [.long z15, .long 1, .long 999]) (rest := []) ⟨hx, hb, hml, hown, hts⟩ (a_X11_in l G ct z15 (1 : Int64) (999 : Int64)) (va_cwS 3 hts gX11_rate_X11_in rfl rfl rfl (by decide +kernel) ⟨Nat.le_of_ble_eq_true rfl, Nat.le_of_ble_eq_true rfl⟩) (ro_pre hK (hP.sub [] rfl)) rfl rfl hl.1 rfl (lv_room (Nat.le_of_ble_eq_true rfl)) dX11_rate_20 ⟨Nat.zero_le _, Nat.zero_le _⟩) hS hP (fun r20 H locs wr20 hP hS => ?_)
    obtain ⟨p_7, p_8, -⟩ := wr20
    refine lv_if_ne (tgt := 29) hx hb dX11_rate_23 (by decide) (fun c23 => ?_) (fun c23 => ?_)
    · have h_9 : rg 1 1 r20 := r_ne_lo_i c23 p_7 (by decide) (by decide)
      have h_10 : rl 1 999 z15 := ((fun hq => in_im (p_8 hq) (rln 1 (x := 1) (by decide)) (rln 999 (x := 999) (by decide))) (rne h_9 (y := 0) (c := 0) (by decide) (by decide)))
      have h_11 : rg 1 999 p1 := bk_li (a := 1) (b := 999) ez15 h_10 (rg_t p1) (by decide)
      refine lv_aload_n hx hb dX11_rate_29 rfl (lv_at hl 0 rfl) ?_
      refine va_get (D := G) (ci := 11) (v := .ref a7) (C := RX11) (T := TX11) (N := 31) hx hb hts (by decide +kernel) hown hK.1 hP 0 rfl rfl 17 (by decide) (hts (.fieldLink RX11 34 "CardHolderModel" "has" "[I") (by decide +kernel)) (fun _ h9 => h9) rfl dX11_rate_30 ?_
      refine lv_iconst (v := 2) hx hb dX11_rate_33 (by decide) ?_
      refine va_iald hx hb hK.1 hP 1 0 rfl rfl (in_lit (by decide)) dX11_rate_34 ?_
      refine lv_topi (fun z34 gz34 => ?_)
      have hz34 : rg 0 40 z34 := by rw [gz34]; exact (hp_f7.2 0)
      refine lv_if_le (tgt := 41) hx hb dX11_rate_35 (by decide) (fun c35 => ?_) (fun c35 => ?_)
      · have h_12 : rg 0 0 z34 := r_le_l_i c35 hz34 (rgn 0 (x := 0) (by decide))
        refine lv_aload_n hx hb dX11_rate_41 rfl (lv_at hl 0 rfl) ?_
        refine va_get (D := G) (ci := 11) (v := .ref a8) (C := RX11) (T := TX11) (N := 31) hx hb hts (by decide +kernel) hown hK.1 hP 0 rfl rfl 18 (by decide) (hts (.fieldLink RX11 37 "CardHolderModel" "person" "[I") (by decide +kernel)) (fun _ h9 => h9) rfl dX11_rate_42 ?_
        refine lv_iconst (v := 5) hx hb dX11_rate_45 (by decide) ?_
        refine lv_iload_n hx hb dX11_rate_46 rfl (lv_at hl 1 rfl) ?_
        refine lv_imul hx hb dX11_rate_47 ?_
        refine nm_mul (e1 := 0) (f := 35) (rgn 5 (x := 5) (by decide)) h_6 (by decide) (fun z47 hz47 ez47 => ?_)
        replace ez47 : z47.toInt = 5 * p0.toInt := by have : (5 : Int32).toInt = 5 := (by decide); rw [this] at ez47; exact ez47
        refine va_iald hx hb hK.1 hP 2 0 rfl rfl (in_rg hz47 (by decide)) dX11_rate_48 ?_
        refine lv_topi (fun z48 gz48 => ?_)
        refine lv_istore_n (lv' := [(3, .int z48), (0, .ref a0), (1, .int p0), (2, .int p1)]) hx hb dX11_rate_49 rfl hl (by decide) rfl (fun ls hl => ?_)
        refine lv_aload_n hx hb dX11_rate_50 rfl (lv_at hl 1 rfl) ?_
        refine va_get (D := G) (ci := 11) (v := .ref a8) (C := RX11) (T := TX11) (N := 31) hx hb hts (by decide +kernel) hown hK.1 hP 0 rfl rfl 18 (by decide) (hts (.fieldLink RX11 37 "CardHolderModel" "person" "[I") (by decide +kernel)) (fun _ h9 => h9) rfl dX11_rate_51 ?_
        refine lv_iconst (v := 5) hx hb dX11_rate_54 (by decide) ?_
        refine lv_iload_n hx hb dX11_rate_55 rfl (lv_at hl 2 rfl) ?_
        refine lv_imul hx hb dX11_rate_56 ?_
        refine nm_mul (e1 := 0) (f := 35) (rgn 5 (x := 5) (by decide)) h_6 (by decide) (fun z56 hz56 ez56 => ?_)
        replace ez56 : z56.toInt = 5 * p0.toInt := by have : (5 : Int32).toInt = 5 := (by decide); rw [this] at ez56; exact ez56
        refine lv_iload_n hx hb dX11_rate_57 rfl (lv_at hl 3 rfl) ?_
        refine va_iast hx hb hK.1 hP hD hS 2 0 rfl rfl (in_rg hz56 (by decide)) dX11_rate_58 (fun H locs hP hD hS => ?_)
        have h_13 : psI (upd f8 z56.toNatClampNeg p1) := ps_u0 hp_f8 (i := z56) (c := 0) (by have := ez56; omega) (rg_w (c := 0) (d := 2147483647) hz56 (by decide)) (by decide)
        refine lv_iload_n hx hb dX11_rate_59 rfl (lv_at hl 0 rfl) ?_
        exact W.iret (v := z48) hx hb hr (fun t ht hW => ⟨⟨z48, (fun k => ([0] : List Int32).getD k 0, fun k => ([upd f8 z56.toNatClampNeg p1] : List (Nat → Int32)).getD k (fun _ => 0), fun k => ([] : List (Nat → Int64)).getD k (fun _ => 0)), rfl, ⟨(fun _ => h_6), (fun _ => h_6), (fun _ => h_6), (fun _ => h_11), (fun _ => h_11), (fun _ => h_11), h_13, (rgn 0 (x := 0) (by decide)), trivial⟩, hp_at ht hP⟩, hS.F ht⟩) hS.2.2 dX11_rate_60
      · have h_14 : rg 1 40 z34 := r_lt_r_i (nle_i c35) (rgn 0 (x := 0) (by decide)) hz34 (by decide)
        refine lv_bipush (v := (-5)) hx hb dX11_rate_38 (by decide) ?_
        exact W.iret (v := (-5)) hx hb hr (fun t ht hW => ⟨⟨(-5), (fun k => ([0] : List Int32).getD k 0, fun k => ([f8] : List (Nat → Int32)).getD k (fun _ => 0), fun k => ([] : List (Nat → Int64)).getD k (fun _ => 0)), rfl, ⟨(fun _ => h_6), (fun _ => h_6), (fun _ => h_6), (fun _ => h_11), (fun _ => h_11), (fun _ => h_11), hp_f8, (rgn 0 (x := 0) (by decide)), trivial⟩, hp_at ht hP⟩, hS.F ht⟩) hS.2.2 dX11_rate_40
    · have h_15 : rg 0 0 r20 := r_eq_l_i (e := 0) (f := 0) c23 p_7 (rgn 0 (x := 0) (by decide)) (by decide)
      refine lv_bipush (v := (-2)) hx hb dX11_rate_26 (by decide) ?_
      exact W.iret (v := (-2)) hx hb hr (fun t ht hW => ⟨⟨(-2), (fun k => ([0] : List Int32).getD k 0, fun k => ([f8] : List (Nat → Int32)).getD k (fun _ => 0), fun k => ([] : List (Nat → Int64)).getD k (fun _ => 0)), rfl, ⟨(fun _ => h_6), (fun _ => h_6), (fun _ => h_6), (fun hq => absurd hq (rne (rgn (-2) (x := (-2)) (by decide)) (y := 0) (c := 0) (by decide) (by decide))), (fun hq => absurd hq (rne (rgn (-2) (x := (-2)) (by decide)) (y := (-1)) (c := (-1)) (by decide) (by decide))), (fun hq => absurd (req (rgn (-2) (x := (-2)) (by decide)) (y := (-2)) (by decide)) hq), hp_f8, (rgn 0 (x := 0) (by decide)), trivial⟩, hp_at ht hP⟩, hS.F ht⟩) hS.2.2 dX11_rate_28

set_option maxHeartbeats 4000000 in
set_option maxRecDepth 100000 in
theorem a_X11_forge (l : Launch) (G : va_G) (ct : Nat → ClassId) (a0 : Nat) (n0_0 : Int32) (a1 : Nat) (a2 : Nat) (a3 : Nat) (a4 : Nat) (a5 : Nat) (n0_6 : Int32) (n0_7 : Int32) (n0_8 : Int32) (n0_9 : Int32) (n0_10 : Int32) (l0_11 : Int64) (n0_12 : Int32) (n0_13 : Int32) (n0_14 : Int32) (n0_15 : Int32) (a6 : Nat) (a7 : Nat) (a8 : Nat) (a9 : Nat) (a10 : Nat) (a11 : Nat) (a12 : Nat) (a13 : Nat) (n0_24 : Int32) (n0_25 : Int32) (n0_26 : Int32) (n0_27 : Int32) (a14 : Nat) (n0_29 : Int32) (n0_30 : Int32) (f7 : Nat → Int32) (f8 : Nat → Int32) (p0 : Int32) (p1 : Int32) (hp_n0_6 : rg 0 900 n0_6) (hp_f7 : hsI f7) (hp_f8 : psI f8) : Met l yX11_forge wsX11_forge ({ frames := 2, cells := 0, slots := 0, locals := 47 }) (va_Pc [.ref a0, .int p0, .int p1] (wrP G ct [(a0, .inr (11, [.int n0_0, .ref a1, .ref a2, .ref a3, .ref a4, .ref a5, .int n0_6, .int n0_7, .int n0_8, .int n0_9, .int n0_10, .long l0_11, .int n0_12, .int n0_13, .int n0_14, .int n0_15, .ref a6, .ref a7, .ref a8, .ref a9, .ref a10, .ref a11, .ref a12, .ref a13, .int n0_24, .int n0_25, .int n0_26, .int n0_27, .ref a14, .int n0_29, .int n0_30])), (a7, .inl (ct 0, 15, .inl f7)), (a8, .inl (ct 0, 200, .inl f8))])) (va_Qi (fun (r : Int32) (u : SU) => (r = 0 → rg 0 7 p0) ∧ (r = (-1) → rg 0 7 p0) ∧ (¬ r = (-2) → rg 0 7 p0) ∧ (r = 0 → rg 0 1 p1) ∧ (r = (-1) → rg 0 1 p1) ∧ (¬ r = (-2) → rg 0 1 p1) ∧ psI (u.2.1 0) ∧ rg 0 0 (u.1 0) ∧ True) (fun u t => va_P G vwCl ((fun u : SU => [(a0, .inr (11, [.int (u.1 0), .ref a1, .ref a2, .ref a3, .ref a4, .ref a5, .int n0_6, .int n0_7, .int n0_8, .int n0_9, .int n0_10, .long l0_11, .int n0_12, .int n0_13, .int n0_14, .int n0_15, .ref a6, .ref a7, .ref a8, .ref a9, .ref a10, .ref a11, .ref a12, .ref a13, .int n0_24, .int n0_25, .int n0_26, .int n0_27, .ref a14, .int n0_29, .int n0_30])), (a7, .inl (ct 0, 15, .inl f7)), (a8, .inl (ct 0, 200, .inl (u.2.1 0)))]) u) t.heap) (aset [(a0, .inr (11, [.int n0_0, .ref a1, .ref a2, .ref a3, .ref a4, .ref a5, .int n0_6, .int n0_7, .int n0_8, .int n0_9, .int n0_10, .long l0_11, .int n0_12, .int n0_13, .int n0_14, .int n0_15, .ref a6, .ref a7, .ref a8, .ref a9, .ref a10, .ref a11, .ref a12, .ref a13, .int n0_24, .int n0_25, .int n0_26, .int n0_27, .ref a14, .int n0_29, .int n0_30])), (a7, .inl (ct 0, 15, .inl f7)), (a8, .inl (ct 0, 200, .inl f8))])) 0 0 (aset [(a0, .inr (11, [.int n0_0, .ref a1, .ref a2, .ref a3, .ref a4, .ref a5, .int n0_6, .int n0_7, .int n0_8, .int n0_9, .int n0_10, .long l0_11, .int n0_12, .int n0_13, .int n0_14, .int n0_15, .ref a6, .ref a7, .ref a8, .ref a9, .ref a10, .ref a11, .ref a12, .ref a13, .int n0_24, .int n0_25, .int n0_26, .int n0_27, .ref a14, .int n0_29, .int n0_30])), (a7, .inl (ct 0, 15, .inl f7)), (a8, .inl (ct 0, 200, .inl f8))]) := by
  refine Met.ofW (cc := cX11_forge) (maxL := 4) (ret := (some .int)) (by decide) rfl ?_
  intro p e s m args below meth c s₁ B hml hv
  obtain ⟨rfl, hP, hK, hD0⟩ := hv
  have hx := B.exec
  have hb := B.bytes
  have hr := B.returns
  have hts := atoms_spec (ws := wsX11_forge) B.pre
  have hown : s.vm.findClass RX11 = some m.cls := findClass_of_methodNamed B.named
  have hlocks := B.notSynchronized
  have hD := hD0.aself
  generalize hAe : aset [(a0, .inr (11, [.int n0_0, .ref a1, .ref a2, .ref a3, .ref a4, .ref a5, .int n0_6, .int n0_7, .int n0_8, .int n0_9, .int n0_10, .long l0_11, .int n0_12, .int n0_13, .int n0_14, .int n0_15, .ref a6, .ref a7, .ref a8, .ref a9, .ref a10, .ref a11, .ref a12, .ref a13, .int n0_24, .int n0_25, .int n0_26, .int n0_27, .ref a14, .int n0_29, .int n0_30])), (a7, .inl (ct 0, 15, .inl f7)), (a8, .inl (ct 0, 200, .inl f8))] = A at hD ⊢
  have hS : va_S A s.heap s.heap [] := va_S.rf
  have hl := lv_entry ([.ref a0, .int p0, .int p1]) (n := 4) (Nat.le_of_ble_eq_true rfl)
  rw [lg_entry_eq]
  generalize (lg_sl ([.ref a0, .int p0, .int p1]) ++ List.replicate (4 - (lg_sl ([.ref a0, .int p0, .int p1])).length) Slot.unset).toArray = ls at hl ⊢
  have hl : lv_has ls 4 [(0, .ref a0), (1, .int p0), (2, .int p1)] := hl
  refine lv_aload_n hx hb dX11_forge_0 rfl (lv_at hl 0 rfl) ?_
  refine lv_iconst (v := 0) hx hb dX11_forge_1 (by decide) ?_
  refine va_put (D := G) (ci := 11) (v := .int 0) (ty := .int) (C := RX11) (T := TX11) (N := 31) hx hb hts (by decide +kernel) tyX11 tyX11_ok nmX11 hown hK.1 hP hD hS 0 rfl rfl 0 (by decide) (hts (.fieldLink RX11 59 "CardHolderModel" "thrown" "I") (by decide +kernel)) (fun _ h9 => h9) rfl (by decide +kernel) rfl rfl (Nat.le_of_ble_eq_true rfl) dX11_forge_2 (fun H locs hP hD hS => ?_)
  refine lv_aload_n hx hb dX11_forge_5 rfl (lv_at hl 0 rfl) ?_
  refine lv_iload_n hx hb dX11_forge_6 rfl (lv_at hl 1 rfl) ?_
  refine lv_i2l hx hb dX11_forge_7 rfl ?_
  refine nl_i2l (rg_t p0) (fun z7 hz7 ez7 => ?_)
  refine ro_calli (va_runV (As := [.long z7]) (rest := []) ⟨hx, hb, hml, hown, hts⟩ (a_X11_isPerson l G ct a0 (0 : Int32) a1 a2 a3 a4 a5 n0_6 n0_7 n0_8 n0_9 n0_10 l0_11 n0_12 n0_13 n0_14 n0_15 a6 a7 a8 a9 a10 a11 a12 a13 n0_24 n0_25 n0_26 n0_27 a14 n0_29 n0_30 f7 z7 hp_n0_6 hp_f7) (cwV 1 hts gX11_forge_X11_isPerson rfl rfl rfl (by decide +kernel) ⟨Nat.le_of_ble_eq_true rfl, Nat.le_of_ble_eq_true rfl⟩) (ro_preV 11 0 hK (hP.sub [0, 1] rfl) rfl rfl) rfl rfl hl.1 rfl (lv_room (Nat.le_of_ble_eq_true rfl)) dX11_forge_8 ⟨Nat.zero_le _, Nat.zero_le _⟩) hS hP (fun r8 H locs wr8 hP hS => ?_)
  obtain ⟨p_1, p_2, -⟩ := wr8
  refine lv_if_eq (tgt := 24) hx hb dX11_forge_11 (by decide) (fun c11 => ?_) (fun c11 => ?_)
  · have h_3 : rg 0 0 r8 := r_eq_l_i (e := 0) (f := 0) c11 p_1 (rgn 0 (x := 0) (by decide)) (by decide)
    refine lv_bipush (v := (-2)) hx hb dX11_forge_24 (by decide) ?_
    exact W.iret (v := (-2)) hx hb hr (fun t ht hW => ⟨⟨(-2), (fun k => ([0] : List Int32).getD k 0, fun k => ([f8] : List (Nat → Int32)).getD k (fun _ => 0), fun k => ([] : List (Nat → Int64)).getD k (fun _ => 0)), rfl, ⟨(fun hq => absurd hq (rne (rgn (-2) (x := (-2)) (by decide)) (y := 0) (c := 0) (by decide) (by decide))), (fun hq => absurd hq (rne (rgn (-2) (x := (-2)) (by decide)) (y := (-1)) (c := (-1)) (by decide) (by decide))), (fun hq => absurd (req (rgn (-2) (x := (-2)) (by decide)) (y := (-2)) (by decide)) hq), (fun hq => absurd hq (rne (rgn (-2) (x := (-2)) (by decide)) (y := 0) (c := 0) (by decide) (by decide))), (fun hq => absurd hq (rne (rgn (-2) (x := (-2)) (by decide)) (y := (-1)) (c := (-1)) (by decide) (by decide))), (fun hq => absurd (req (rgn (-2) (x := (-2)) (by decide)) (y := (-2)) (by decide)) hq), hp_f8, (rgn 0 (x := 0) (by decide)), trivial⟩, hp_at ht hP⟩, hS.F ht⟩) hS.2.2 dX11_forge_26
  · have h_4 : rg 1 1 r8 := r_ne_lo_i c11 p_1 (by decide) (by decide)
    have h_5 : rl 0 7 z7 := (p_2 (rne h_4 (y := 0) (c := 0) (by decide) (by decide)))
    have h_6 : rg 0 7 p0 := bk_li (a := 0) (b := 7) ez7 h_5 (rg_t p0) (by decide)
    refine lv_iload_n hx hb dX11_forge_14 rfl (lv_at hl 2 rfl) ?_
    refine lv_i2l hx hb dX11_forge_15 rfl ?_
    refine nl_i2l (rg_t p1) (fun z15 hz15 ez15 => ?_)
    refine lv_lconst (v := 0) hx hb dX11_forge_16 (by decide) ?_
    refine lv_lconst (v := 1) hx hb dX11_forge_17 (by decide) ?_
    refine ro_calli (va_runS (As := [.long z15, .long 0, .long 1]) (rest := []) ⟨hx, hb, hml, hown, hts⟩ (a_X11_in l G ct z15 (0 : Int64) (1 : Int64)) (va_cwS 3 hts gX11_forge_X11_in rfl rfl rfl (by decide +kernel) ⟨Nat.le_of_ble_eq_true rfl, Nat.le_of_ble_eq_true rfl⟩) (ro_pre hK (hP.sub [] rfl)) rfl rfl hl.1 rfl (lv_room (Nat.le_of_ble_eq_true rfl)) dX11_forge_18 ⟨Nat.zero_le _, Nat.zero_le _⟩) hS hP (fun r18 H locs wr18 hP hS => ?_)
    obtain ⟨p_7, p_8, -⟩ := wr18
    refine lv_if_ne (tgt := 27) hx hb dX11_forge_21 (by decide) (fun c21 => ?_) (fun c21 => ?_)
    · have h_9 : rg 1 1 r18 := r_ne_lo_i c21 p_7 (by decide) (by decide)
      have h_10 : rl 0 1 z15 := ((fun hq => in_im (p_8 hq) (rln 0 (x := 0) (by decide)) (rln 1 (x := 1) (by decide))) (rne h_9 (y := 0) (c := 0) (by decide) (by decide)))
      have h_11 : rg 0 1 p1 := bk_li (a := 0) (b := 1) ez15 h_10 (rg_t p1) (by decide)
      refine lv_aload_n hx hb dX11_forge_27 rfl (lv_at hl 0 rfl) ?_
      refine va_get (D := G) (ci := 11) (v := .ref a7) (C := RX11) (T := TX11) (N := 31) hx hb hts (by decide +kernel) hown hK.1 hP 0 rfl rfl 17 (by decide) (hts (.fieldLink RX11 34 "CardHolderModel" "has" "[I") (by decide +kernel)) (fun _ h9 => h9) rfl dX11_forge_28 ?_
      refine lv_iconst (v := 2) hx hb dX11_forge_31 (by decide) ?_
      refine va_iald hx hb hK.1 hP 1 0 rfl rfl (in_lit (by decide)) dX11_forge_32 ?_
      refine lv_topi (fun z32 gz32 => ?_)
      have hz32 : rg 0 40 z32 := by rw [gz32]; exact (hp_f7.2 0)
      refine lv_if_le (tgt := 39) hx hb dX11_forge_33 (by decide) (fun c33 => ?_) (fun c33 => ?_)
      · have h_12 : rg 0 0 z32 := r_le_l_i c33 hz32 (rgn 0 (x := 0) (by decide))
        refine lv_aload_n hx hb dX11_forge_39 rfl (lv_at hl 0 rfl) ?_
        refine va_get (D := G) (ci := 11) (v := .ref a8) (C := RX11) (T := TX11) (N := 31) hx hb hts (by decide +kernel) hown hK.1 hP 0 rfl rfl 18 (by decide) (hts (.fieldLink RX11 37 "CardHolderModel" "person" "[I") (by decide +kernel)) (fun _ h9 => h9) rfl dX11_forge_40 ?_
        refine lv_iconst (v := 5) hx hb dX11_forge_43 (by decide) ?_
        refine lv_iload_n hx hb dX11_forge_44 rfl (lv_at hl 1 rfl) ?_
        refine lv_imul hx hb dX11_forge_45 ?_
        refine nm_mul (e1 := 0) (f := 35) (rgn 5 (x := 5) (by decide)) h_6 (by decide) (fun z45 hz45 ez45 => ?_)
        replace ez45 : z45.toInt = 5 * p0.toInt := by have : (5 : Int32).toInt = 5 := (by decide); rw [this] at ez45; exact ez45
        refine lv_iconst (v := 4) hx hb dX11_forge_46 (by decide) ?_
        refine lv_iadd hx hb dX11_forge_47 ?_
        refine nm_add (e1 := 4) (f := 39) hz45 (rgn 4 (x := 4) (by decide)) (by decide) (fun z47 hz47 ez47 => ?_)
        replace ez47 := eqc_r ez47 (c := 4) (by decide)
        refine va_iald hx hb hK.1 hP 2 0 rfl rfl (in_rg hz47 (by decide)) dX11_forge_48 ?_
        refine lv_topi (fun z48 gz48 => ?_)
        refine lv_istore_n (lv' := [(3, .int z48), (0, .ref a0), (1, .int p0), (2, .int p1)]) hx hb dX11_forge_49 rfl hl (by decide) rfl (fun ls hl => ?_)
        refine lv_aload_n hx hb dX11_forge_50 rfl (lv_at hl 1 rfl) ?_
        refine va_get (D := G) (ci := 11) (v := .ref a8) (C := RX11) (T := TX11) (N := 31) hx hb hts (by decide +kernel) hown hK.1 hP 0 rfl rfl 18 (by decide) (hts (.fieldLink RX11 37 "CardHolderModel" "person" "[I") (by decide +kernel)) (fun _ h9 => h9) rfl dX11_forge_51 ?_
        refine lv_iconst (v := 5) hx hb dX11_forge_54 (by decide) ?_
        refine lv_iload_n hx hb dX11_forge_55 rfl (lv_at hl 2 rfl) ?_
        refine lv_imul hx hb dX11_forge_56 ?_
        refine nm_mul (e1 := 0) (f := 35) (rgn 5 (x := 5) (by decide)) h_6 (by decide) (fun z56 hz56 ez56 => ?_)
        replace ez56 : z56.toInt = 5 * p0.toInt := by have : (5 : Int32).toInt = 5 := (by decide); rw [this] at ez56; exact ez56
        refine lv_iconst (v := 4) hx hb dX11_forge_57 (by decide) ?_
        refine lv_iadd hx hb dX11_forge_58 ?_
        refine nm_add (e1 := 4) (f := 39) hz56 (rgn 4 (x := 4) (by decide)) (by decide) (fun z58 hz58 ez58 => ?_)
        replace ez58 := eqc_r ez58 (c := 4) (by decide)
        refine lv_iload_n hx hb dX11_forge_59 rfl (lv_at hl 3 rfl) ?_
        refine va_iast hx hb hK.1 hP hD hS 2 0 rfl rfl (in_rg hz58 (by decide)) dX11_forge_60 (fun H locs hP hD hS => ?_)
        have h_13 : psI (upd f8 z58.toNatClampNeg p1) := ps_u0 hp_f8 (i := z58) (c := 4) (by have := ez58; have := ez56; omega) (rg_w (c := 0) (d := 2147483647) hz58 (by decide)) (by decide)
        refine lv_iload_n hx hb dX11_forge_61 rfl (lv_at hl 0 rfl) ?_
        exact W.iret (v := z48) hx hb hr (fun t ht hW => ⟨⟨z48, (fun k => ([0] : List Int32).getD k 0, fun k => ([upd f8 z58.toNatClampNeg p1] : List (Nat → Int32)).getD k (fun _ => 0), fun k => ([] : List (Nat → Int64)).getD k (fun _ => 0)), rfl, ⟨(fun _ => h_6), (fun _ => h_6), (fun _ => h_6), (fun _ => h_11), (fun _ => h_11), (fun _ => h_11), h_13, (rgn 0 (x := 0) (by decide)), trivial⟩, hp_at ht hP⟩, hS.F ht⟩) hS.2.2 dX11_forge_62
      · have h_14 : rg 1 40 z32 := r_lt_r_i (nle_i c33) (rgn 0 (x := 0) (by decide)) hz32 (by decide)
        refine lv_bipush (v := (-5)) hx hb dX11_forge_36 (by decide) ?_
        exact W.iret (v := (-5)) hx hb hr (fun t ht hW => ⟨⟨(-5), (fun k => ([0] : List Int32).getD k 0, fun k => ([f8] : List (Nat → Int32)).getD k (fun _ => 0), fun k => ([] : List (Nat → Int64)).getD k (fun _ => 0)), rfl, ⟨(fun _ => h_6), (fun _ => h_6), (fun _ => h_6), (fun _ => h_11), (fun _ => h_11), (fun _ => h_11), hp_f8, (rgn 0 (x := 0) (by decide)), trivial⟩, hp_at ht hP⟩, hS.F ht⟩) hS.2.2 dX11_forge_38
    · have h_15 : rg 0 0 r18 := r_eq_l_i (e := 0) (f := 0) c21 p_7 (rgn 0 (x := 0) (by decide)) (by decide)
      refine lv_bipush (v := (-2)) hx hb dX11_forge_24 (by decide) ?_
      exact W.iret (v := (-2)) hx hb hr (fun t ht hW => ⟨⟨(-2), (fun k => ([0] : List Int32).getD k 0, fun k => ([f8] : List (Nat → Int32)).getD k (fun _ => 0), fun k => ([] : List (Nat → Int64)).getD k (fun _ => 0)), rfl, ⟨(fun _ => h_6), (fun _ => h_6), (fun _ => h_6), (fun hq => absurd hq (rne (rgn (-2) (x := (-2)) (by decide)) (y := 0) (c := 0) (by decide) (by decide))), (fun hq => absurd hq (rne (rgn (-2) (x := (-2)) (by decide)) (y := (-1)) (c := (-1)) (by decide) (by decide))), (fun hq => absurd (req (rgn (-2) (x := (-2)) (by decide)) (y := (-2)) (by decide)) hq), hp_f8, (rgn 0 (x := 0) (by decide)), trivial⟩, hp_at ht hP⟩, hS.F ht⟩) hS.2.2 dX11_forge_26
