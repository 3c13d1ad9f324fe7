theorem dX11_laysWatch_0 : decode cX11_laysWatch 0 = .ok (.aload_n 0, 1) := by decide +kernel
theorem dX11_laysWatch_1 : decode cX11_laysWatch 1 = .ok (.iload_n 1, 1) := by decide +kernel
set_option maxRecDepth 20000 in
theorem ggX11_laysWatch_X11_rowOf : GoodIn wsX11_laysWatch wsX11_rowOf := goodIn_r _ [7, 8, 9, 23, 24, 25, 26, 27, 28, 29, 30, 31, 32, 33, 34, 35, 36, 37, 38, 39, 40, 41, 42, 43, 44, 45, 46, 47, 48, 49, 50, 51, 52, 53] (by rfl) (by decide +kernel)
set_option maxRecDepth 20000 in
theorem gX11_laysWatch_X11_rowOf : GoodIn wsX11_laysWatch (wsV RX11 337 RX11 yX11_rowOf wsX11_rowOf) := goodIn_app (goodIn_r _ [3, 4, 5, 6] (by rfl) (by decide +kernel)) ggX11_laysWatch_X11_rowOf
theorem dX11_laysWatch_2 : decode cX11_laysWatch 2 = .ok (.invokevirtual 337, 3) := by decide +kernel
theorem dX11_laysWatch_5 : decode cX11_laysWatch 5 = .ok (.istore_n 2, 1) := by decide +kernel
theorem dX11_laysWatch_6 : decode cX11_laysWatch 6 = .ok (.aload_n 0, 1) := by decide +kernel
theorem dX11_laysWatch_7 : decode cX11_laysWatch 7 = .ok (.iload_n 2, 1) := by decide +kernel
set_option maxRecDepth 20000 in
theorem ggX11_laysWatch_X11_wishing : GoodIn wsX11_laysWatch wsX11_wishing := goodIn_r _ [13, 14, 15, 16, 17, 6, 18, 19, 23, 24, 25, 26, 27, 28, 29, 30, 31, 32, 33, 34, 35, 36, 37, 38, 39, 40, 41, 42, 43, 44, 45, 46, 47, 48, 49, 50, 51, 52, 53] (by rfl) (by decide +kernel)
set_option maxRecDepth 20000 in
theorem gX11_laysWatch_X11_wishing : GoodIn wsX11_laysWatch (wsV RX11 340 RX11 yX11_wishing wsX11_wishing) := goodIn_app (goodIn_r _ [10, 11, 12, 6] (by rfl) (by decide +kernel)) ggX11_laysWatch_X11_wishing
theorem dX11_laysWatch_8 : decode cX11_laysWatch 8 = .ok (.invokevirtual 340, 3) := by decide +kernel
set_option maxRecDepth 20000 in
theorem ggX11_laysWatch_X11_sizeOf : GoodIn wsX11_laysWatch wsX11_sizeOf := goodIn_r _ [22] (by rfl) (by decide +kernel)
set_option maxRecDepth 20000 in
theorem gX11_laysWatch_X11_sizeOf : GoodIn wsX11_laysWatch (va_wsS RX11 297 yX11_sizeOf wsX11_sizeOf) := goodIn_app (goodIn_r _ [20, 21, 6] (by rfl) (by decide +kernel)) ggX11_laysWatch_X11_sizeOf
theorem dX11_laysWatch_11 : decode cX11_laysWatch 11 = .ok (.invokestatic 297, 3) := by decide +kernel
theorem dX11_laysWatch_14 : decode cX11_laysWatch 14 = .ok (.istore_n 3, 1) := by decide +kernel
theorem dX11_laysWatch_15 : decode cX11_laysWatch 15 = .ok (.aload_n 0, 1) := by decide +kernel
theorem dX11_laysWatch_16 : decode cX11_laysWatch 16 = .ok (.iconst (-1), 1) := by decide +kernel
theorem dX11_laysWatch_17 : decode cX11_laysWatch 17 = .ok (.putfield 343, 3) := by decide +kernel
theorem dX11_laysWatch_20 : decode cX11_laysWatch 20 = .ok (.aload_n 0, 1) := by decide +kernel
theorem dX11_laysWatch_21 : decode cX11_laysWatch 21 = .ok (.iload_n 3, 1) := by decide +kernel
theorem dX11_laysWatch_22 : decode cX11_laysWatch 22 = .ok (.putfield 346, 3) := by decide +kernel
theorem dX11_laysWatch_25 : decode cX11_laysWatch 25 = .ok (.iconst 0, 1) := by decide +kernel
theorem dX11_laysWatch_26 : decode cX11_laysWatch 26 = .ok (.istore 4, 2) := by decide +kernel
theorem dX11_laysWatch_28 : decode cX11_laysWatch 28 = .ok (.iload 4, 2) := by decide +kernel
theorem dX11_laysWatch_30 : decode cX11_laysWatch 30 = .ok (.bipush 6, 2) := by decide +kernel
theorem dX11_laysWatch_32 : decode cX11_laysWatch 32 = .ok (.if_icmp .ge 68, 3) := by decide +kernel
theorem dX11_laysWatch_100 : decode cX11_laysWatch 100 = .ok (.return_, 1) := by decide +kernel
theorem dX11_laysWatch_35 : decode cX11_laysWatch 35 = .ok (.aload_n 0, 1) := by decide +kernel
theorem dX11_laysWatch_36 : decode cX11_laysWatch 36 = .ok (.iload_n 2, 1) := by decide +kernel
theorem dX11_laysWatch_37 : decode cX11_laysWatch 37 = .ok (.iconst 1, 1) := by decide +kernel
theorem dX11_laysWatch_38 : decode cX11_laysWatch 38 = .ok (.iload 4, 2) := by decide +kernel
theorem dX11_laysWatch_40 : decode cX11_laysWatch 40 = .ok (.ishl, 1) := by decide +kernel
theorem dX11_laysWatch_41 : decode cX11_laysWatch 41 = .ok (.ior, 1) := by decide +kernel
theorem dX11_laysWatch_42 : decode cX11_laysWatch 42 = .ok (.invokevirtual 340, 3) := by decide +kernel
theorem dX11_laysWatch_45 : decode cX11_laysWatch 45 = .ok (.invokestatic 297, 3) := by decide +kernel
theorem dX11_laysWatch_48 : decode cX11_laysWatch 48 = .ok (.istore 5, 2) := by decide +kernel
theorem dX11_laysWatch_50 : decode cX11_laysWatch 50 = .ok (.iload 5, 2) := by decide +kernel
theorem dX11_laysWatch_52 : decode cX11_laysWatch 52 = .ok (.iload_n 3, 1) := by decide +kernel
theorem dX11_laysWatch_53 : decode cX11_laysWatch 53 = .ok (.iload 5, 2) := by decide +kernel
theorem dX11_laysWatch_55 : decode cX11_laysWatch 55 = .ok (.isub, 1) := by decide +kernel
theorem dX11_laysWatch_68 : decode cX11_laysWatch 68 = .ok (.istore 6, 2) := by decide +kernel
theorem dX11_laysWatch_70 : decode cX11_laysWatch 70 = .ok (.iload 6, 2) := by decide +kernel
theorem dX11_laysWatch_72 : decode cX11_laysWatch 72 = .ok (.aload_n 0, 1) := by decide +kernel
theorem dX11_laysWatch_73 : decode cX11_laysWatch 73 = .ok (.getfield 346, 3) := by decide +kernel
theorem dX11_laysWatch_94 : decode cX11_laysWatch 94 = .ok (.iinc 4 1, 3) := by decide +kernel
theorem dX11_laysWatch_97 : decode cX11_laysWatch 97 = .ok (.goto (-69), 3) := by decide +kernel
theorem dX11_laysWatch_76 : decode cX11_laysWatch 76 = .ok (.if_icmp .lt 6, 3) := by decide +kernel
theorem dX11_laysWatch_82 : decode cX11_laysWatch 82 = .ok (.aload_n 0, 1) := by decide +kernel
theorem dX11_laysWatch_83 : decode cX11_laysWatch 83 = .ok (.iload 4, 2) := by decide +kernel
theorem dX11_laysWatch_85 : decode cX11_laysWatch 85 = .ok (.putfield 343, 3) := by decide +kernel
theorem dX11_laysWatch_88 : decode cX11_laysWatch 88 = .ok (.aload_n 0, 1) := by decide +kernel
theorem dX11_laysWatch_89 : decode cX11_laysWatch 89 = .ok (.iload 6, 2) := by decide +kernel
theorem dX11_laysWatch_91 : decode cX11_laysWatch 91 = .ok (.putfield 346, 3) := by decide +kernel
theorem dX11_laysWatch_79 : decode cX11_laysWatch 79 = .ok (.goto 15, 3) := by decide +kernel
theorem dX11_laysWatch_56 : decode cX11_laysWatch 56 = .ok (.if_icmp .le 8, 3) := by decide +kernel
theorem dX11_laysWatch_64 : decode cX11_laysWatch 64 = .ok (.iload_n 3, 1) := by decide +kernel
theorem dX11_laysWatch_65 : decode cX11_laysWatch 65 = .ok (.iload 5, 2) := by decide +kernel
theorem dX11_laysWatch_67 : decode cX11_laysWatch 67 = .ok (.isub, 1) := by decide +kernel
theorem dX11_laysWatch_59 : decode cX11_laysWatch 59 = .ok (.iload 5, 2) := by decide +kernel
theorem dX11_laysWatch_61 : decode cX11_laysWatch 61 = .ok (.goto 7, 3) := by decide +kernel
theorem dX11_suspects_0 : decode cX11_suspects 0 = .ok (.aload_n 0, 1) := by decide +kernel
theorem dX11_suspects_1 : decode cX11_suspects 1 = .ok (.iconst 0, 1) := by decide +kernel
theorem dX11_suspects_2 : decode cX11_suspects 2 = .ok (.putfield 59, 3) := by decide +kernel
theorem dX11_suspects_5 : decode cX11_suspects 5 = .ok (.aload_n 0, 1) := by decide +kernel
theorem dX11_suspects_6 : decode cX11_suspects 6 = .ok (.iload_n 1, 1) := by decide +kernel
set_option maxRecDepth 20000 in
theorem ggX11_suspects_X11_whyNot : GoodIn wsX11_suspects wsX11_whyNot := goodIn_r _ [6, 7, 8, 9, 10, 11, 5, 12, 13, 14, 15, 16, 17, 18, 19, 20, 21, 22, 23, 24, 25, 40, 41, 42, 43, 44, 45, 46, 47, 48, 49, 50, 51, 52, 53, 54, 55, 56, 57, 58, 59, 60, 61, 62, 63, 64, 65, 66, 67, 68, 69, 70] (by rfl) (by decide +kernel)
set_option maxRecDepth 20000 in
theorem gX11_suspects_X11_whyNot : GoodIn wsX11_suspects (wsV RX11 334 RX11 yX11_whyNot wsX11_whyNot) := goodIn_app (goodIn_r _ [2, 3, 4, 5] (by rfl) (by decide +kernel)) ggX11_suspects_X11_whyNot
theorem dX11_suspects_7 : decode cX11_suspects 7 = .ok (.invokevirtual 334, 3) := by decide +kernel
theorem dX11_suspects_10 : decode cX11_suspects 10 = .ok (.istore_n 2, 1) := by decide +kernel
theorem dX11_suspects_11 : decode cX11_suspects 11 = .ok (.iload_n 2, 1) := by decide +kernel
theorem dX11_suspects_12 : decode cX11_suspects 12 = .ok (.ifCond .eq 7, 3) := by decide +kernel
theorem dX11_suspects_19 : decode cX11_suspects 19 = .ok (.aload_n 0, 1) := by decide +kernel
theorem dX11_suspects_20 : decode cX11_suspects 20 = .ok (.aload_n 0, 1) := by decide +kernel
theorem dX11_suspects_21 : decode cX11_suspects 21 = .ok (.iload_n 1, 1) := by decide +kernel
set_option maxRecDepth 20000 in
theorem ggX11_suspects_X11_rowOf : GoodIn wsX11_suspects wsX11_rowOf := goodIn_r _ [29, 8, 9, 40, 41, 42, 43, 44, 45, 46, 47, 48, 49, 50, 51, 52, 53, 54, 55, 56, 57, 58, 59, 60, 61, 62, 63, 64, 65, 66, 67, 68, 69, 70] (by rfl) (by decide +kernel)
set_option maxRecDepth 20000 in
theorem gX11_suspects_X11_rowOf : GoodIn wsX11_suspects (wsV RX11 337 RX11 yX11_rowOf wsX11_rowOf) := goodIn_app (goodIn_r _ [26, 27, 28, 5] (by rfl) (by decide +kernel)) ggX11_suspects_X11_rowOf
theorem dX11_suspects_22 : decode cX11_suspects 22 = .ok (.invokevirtual 337, 3) := by decide +kernel
set_option maxRecDepth 20000 in
theorem ggX11_suspects_X11_wishing : GoodIn wsX11_suspects wsX11_wishing := goodIn_r _ [33, 34, 35, 36, 37, 5, 38, 39, 40, 41, 42, 43, 44, 45, 46, 47, 48, 49, 50, 51, 52, 53, 54, 55, 56, 57, 58, 59, 60, 61, 62, 63, 64, 65, 66, 67, 68, 69, 70] (by rfl) (by decide +kernel)
set_option maxRecDepth 20000 in
theorem gX11_suspects_X11_wishing : GoodIn wsX11_suspects (wsV RX11 340 RX11 yX11_wishing wsX11_wishing) := goodIn_app (goodIn_r _ [30, 31, 32, 5] (by rfl) (by decide +kernel)) ggX11_suspects_X11_wishing
theorem dX11_suspects_25 : decode cX11_suspects 25 = .ok (.invokevirtual 340, 3) := by decide +kernel
theorem dX11_suspects_28 : decode cX11_suspects 28 = .ok (.ireturn, 1) := by decide +kernel
theorem dX11_suspects_15 : decode cX11_suspects 15 = .ok (.iload_n 2, 1) := by decide +kernel
theorem dX11_suspects_16 : decode cX11_suspects 16 = .ok (.goto 12, 3) := by decide +kernel
theorem dX11_watch_0 : decode cX11_watch 0 = .ok (.aload_n 0, 1) := by decide +kernel
theorem dX11_watch_1 : decode cX11_watch 1 = .ok (.iconst 0, 1) := by decide +kernel
theorem dX11_watch_2 : decode cX11_watch 2 = .ok (.putfield 59, 3) := by decide +kernel
theorem dX11_watch_5 : decode cX11_watch 5 = .ok (.aload_n 0, 1) := by decide +kernel
theorem dX11_watch_6 : decode cX11_watch 6 = .ok (.iload_n 1, 1) := by decide +kernel
set_option maxRecDepth 20000 in
theorem ggX11_watch_X11_whyNot : GoodIn wsX11_watch wsX11_whyNot := goodIn_r _ [7, 8, 9, 10, 11, 12, 6, 13, 14, 15, 16, 17, 18, 19, 20, 21, 22, 23, 24, 25, 26, 49, 50, 51, 52, 53, 54, 55, 56, 57, 58, 59, 60, 61, 62, 63, 64, 65, 66, 67, 68, 69, 70, 71, 72, 73, 74, 75, 76, 77, 78, 79] (by rfl) (by decide +kernel)
set_option maxRecDepth 20000 in
theorem gX11_watch_X11_whyNot : GoodIn wsX11_watch (wsV RX11 334 RX11 yX11_whyNot wsX11_whyNot) := goodIn_app (goodIn_r _ [3, 4, 5, 6] (by rfl) (by decide +kernel)) ggX11_watch_X11_whyNot
theorem dX11_watch_7 : decode cX11_watch 7 = .ok (.invokevirtual 334, 3) := by decide +kernel
theorem dX11_watch_10 : decode cX11_watch 10 = .ok (.istore_n 2, 1) := by decide +kernel
theorem dX11_watch_11 : decode cX11_watch 11 = .ok (.iload_n 2, 1) := by decide +kernel
theorem dX11_watch_12 : decode cX11_watch 12 = .ok (.ifCond .eq 5, 3) := by decide +kernel
theorem dX11_watch_17 : decode cX11_watch 17 = .ok (.aload_n 0, 1) := by decide +kernel
theorem dX11_watch_18 : decode cX11_watch 18 = .ok (.iload_n 1, 1) := by decide +kernel
set_option maxRecDepth 20000 in
theorem ggX11_watch_X11_laysWatch : GoodIn wsX11_watch wsX11_laysWatch := goodIn_r _ [30, 2, 31, 32, 33, 34, 6, 35, 9, 10, 36, 37, 38, 39, 40, 41, 42, 43, 44, 45, 46, 47, 48, 49, 50, 51, 52, 53, 54, 55, 56, 57, 58, 59, 60, 61, 62, 63, 64, 65, 66, 67, 68, 69, 70, 71, 72, 73, 74, 75, 76, 77, 78, 79] (by rfl) (by decide +kernel)
set_option maxRecDepth 20000 in
theorem gX11_watch_X11_laysWatch : GoodIn wsX11_watch (wsV RX11 349 RX11 yX11_laysWatch wsX11_laysWatch) := goodIn_app (goodIn_r _ [27, 28, 29, 6] (by rfl) (by decide +kernel)) ggX11_watch_X11_laysWatch
theorem dX11_watch_19 : decode cX11_watch 19 = .ok (.invokevirtual 349, 3) := by decide +kernel
theorem dX11_watch_22 : decode cX11_watch 22 = .ok (.aload_n 0, 1) := by decide +kernel
theorem dX11_watch_23 : decode cX11_watch 23 = .ok (.getfield 343, 3) := by decide +kernel
theorem dX11_watch_26 : decode cX11_watch 26 = .ok (.ireturn, 1) := by decide +kernel
theorem dX11_watch_15 : decode cX11_watch 15 = .ok (.iload_n 2, 1) := by decide +kernel
theorem dX11_watch_16 : decode cX11_watch 16 = .ok (.ireturn, 1) := by decide +kernel
theorem dX11_leaves_0 : decode cX11_leaves 0 = .ok (.aload_n 0, 1) := by decide +kernel
theorem dX11_leaves_1 : decode cX11_leaves 1 = .ok (.iconst 0, 1) := by decide +kernel
theorem dX11_leaves_2 : decode cX11_leaves 2 = .ok (.putfield 59, 3) := by decide +kernel
theorem dX11_leaves_5 : decode cX11_leaves 5 = .ok (.aload_n 0, 1) := by decide +kernel
theorem dX11_leaves_6 : decode cX11_leaves 6 = .ok (.iload_n 1, 1) := by decide +kernel
set_option maxRecDepth 20000 in
theorem ggX11_leaves_X11_whyNot : GoodIn wsX11_leaves wsX11_whyNot := goodIn_r _ [7, 8, 9, 10, 11, 12, 6, 13, 14, 15, 16, 17, 18, 19, 20, 21, 22, 23, 24, 25, 26, 49, 50, 51, 52, 53, 54, 55, 56, 57, 58, 59, 60, 61, 62, 63, 64, 65, 66, 67, 68, 69, 70, 71, 72, 73, 74, 75, 76, 77, 78, 79] (by rfl) (by decide +kernel)
set_option maxRecDepth 20000 in
theorem gX11_leaves_X11_whyNot : GoodIn wsX11_leaves (wsV RX11 334 RX11 yX11_whyNot wsX11_whyNot) := goodIn_app (goodIn_r _ [3, 4, 5, 6] (by rfl) (by decide +kernel)) ggX11_leaves_X11_whyNot
theorem dX11_leaves_7 : decode cX11_leaves 7 = .ok (.invokevirtual 334, 3) := by decide +kernel
theorem dX11_leaves_10 : decode cX11_leaves 10 = .ok (.istore_n 2, 1) := by decide +kernel
theorem dX11_leaves_11 : decode cX11_leaves 11 = .ok (.iload_n 2, 1) := by decide +kernel
theorem dX11_leaves_12 : decode cX11_leaves 12 = .ok (.ifCond .eq 5, 3) := by decide +kernel
theorem dX11_leaves_17 : decode cX11_leaves 17 = .ok (.aload_n 0, 1) := by decide +kernel
theorem dX11_leaves_18 : decode cX11_leaves 18 = .ok (.iload_n 1, 1) := by decide +kernel
set_option maxRecDepth 20000 in
theorem ggX11_leaves_X11_laysWatch : GoodIn wsX11_leaves wsX11_laysWatch := goodIn_r _ [30, 31, 2, 32, 33, 34, 6, 35, 9, 10, 36, 37, 38, 39, 40, 41, 42, 43, 44, 45, 46, 47, 48, 49, 50, 51, 52, 53, 54, 55, 56, 57, 58, 59, 60, 61, 62, 63, 64, 65, 66, 67, 68, 69, 70, 71, 72, 73, 74, 75, 76, 77, 78, 79] (by rfl) (by decide +kernel)
set_option maxRecDepth 20000 in
theorem gX11_leaves_X11_laysWatch : GoodIn wsX11_leaves (wsV RX11 349 RX11 yX11_laysWatch wsX11_laysWatch) := goodIn_app (goodIn_r _ [27, 28, 29, 6] (by rfl) (by decide +kernel)) ggX11_leaves_X11_laysWatch
theorem dX11_leaves_19 : decode cX11_leaves 19 = .ok (.invokevirtual 349, 3) := by decide +kernel
theorem dX11_leaves_22 : decode cX11_leaves 22 = .ok (.aload_n 0, 1) := by decide +kernel
theorem dX11_leaves_23 : decode cX11_leaves 23 = .ok (.getfield 346, 3) := by decide +kernel
theorem dX11_leaves_26 : decode cX11_leaves 26 = .ok (.ireturn, 1) := by decide +kernel
theorem dX11_leaves_15 : decode cX11_leaves 15 = .ok (.iload_n 2, 1) := by decide +kernel
theorem dX11_leaves_16 : decode cX11_leaves 16 = .ok (.ireturn, 1) := by decide +kernel
theorem dX11_proof_0 : decode cX11_proof 0 = .ok (.aload_n 0, 1) := by decide +kernel
theorem dX11_proof_1 : decode cX11_proof 1 = .ok (.iconst 0, 1) := by decide +kernel
theorem dX11_proof_2 : decode cX11_proof 2 = .ok (.putfield 59, 3) := by decide +kernel
theorem dX11_proof_5 : decode cX11_proof 5 = .ok (.aload_n 0, 1) := by decide +kernel
theorem dX11_proof_6 : decode cX11_proof 6 = .ok (.iload_n 1, 1) := by decide +kernel
set_option maxRecDepth 20000 in
theorem ggX11_proof_X11_whyNot : GoodIn wsX11_proof wsX11_whyNot := goodIn_r _ [6, 7, 8, 9, 10, 11, 5, 12, 13, 14, 15, 16, 17, 18, 19, 20, 21, 22, 23, 24, 25, 43, 44, 45, 46, 47, 48, 49, 50, 51, 52, 53, 54, 55, 56, 57, 58, 59, 60, 61, 62, 63, 64, 65, 66, 67, 68, 69, 70, 71, 72, 73] (by rfl) (by decide +kernel)
set_option maxRecDepth 20000 in
theorem gX11_proof_X11_whyNot : GoodIn wsX11_proof (wsV RX11 334 RX11 yX11_whyNot wsX11_whyNot) := goodIn_app (goodIn_r _ [2, 3, 4, 5] (by rfl) (by decide +kernel)) ggX11_proof_X11_whyNot
theorem dX11_proof_7 : decode cX11_proof 7 = .ok (.invokevirtual 334, 3) := by decide +kernel
theorem dX11_proof_10 : decode cX11_proof 10 = .ok (.istore_n 2, 1) := by decide +kernel
theorem dX11_proof_11 : decode cX11_proof 11 = .ok (.iload_n 2, 1) := by decide +kernel
theorem dX11_proof_12 : decode cX11_proof 12 = .ok (.ifCond .eq 5, 3) := by decide +kernel
theorem dX11_proof_17 : decode cX11_proof 17 = .ok (.aload_n 0, 1) := by decide +kernel
theorem dX11_proof_18 : decode cX11_proof 18 = .ok (.iload_n 1, 1) := by decide +kernel
set_option maxRecDepth 20000 in
theorem ggX11_proof_X11_rowOf : GoodIn wsX11_proof wsX11_rowOf := goodIn_r _ [29, 8, 9, 43, 44, 45, 46, 47, 48, 49, 50, 51, 52, 53, 54, 55, 56, 57, 58, 59, 60, 61, 62, 63, 64, 65, 66, 67, 68, 69, 70, 71, 72, 73] (by rfl) (by decide +kernel)
set_option maxRecDepth 20000 in
theorem gX11_proof_X11_rowOf : GoodIn wsX11_proof (wsV RX11 337 RX11 yX11_rowOf wsX11_rowOf) := goodIn_app (goodIn_r _ [26, 27, 28, 5] (by rfl) (by decide +kernel)) ggX11_proof_X11_rowOf
theorem dX11_proof_19 : decode cX11_proof 19 = .ok (.invokevirtual 337, 3) := by decide +kernel
theorem dX11_proof_22 : decode cX11_proof 22 = .ok (.istore_n 3, 1) := by decide +kernel
theorem dX11_proof_23 : decode cX11_proof 23 = .ok (.iload_n 3, 1) := by decide +kernel
set_option maxRecDepth 20000 in
theorem ggX11_proof_X11_sizeOf : GoodIn wsX11_proof wsX11_sizeOf := goodIn_r _ [32] (by rfl) (by decide +kernel)
set_option maxRecDepth 20000 in
theorem gX11_proof_X11_sizeOf : GoodIn wsX11_proof (va_wsS RX11 297 yX11_sizeOf wsX11_sizeOf) := goodIn_app (goodIn_r _ [30, 31, 5] (by rfl) (by decide +kernel)) ggX11_proof_X11_sizeOf
theorem dX11_proof_24 : decode cX11_proof 24 = .ok (.invokestatic 297, 3) := by decide +kernel
theorem dX11_proof_27 : decode cX11_proof 27 = .ok (.istore 4, 2) := by decide +kernel
theorem dX11_proof_29 : decode cX11_proof 29 = .ok (.iconst 0, 1) := by decide +kernel
theorem dX11_proof_30 : decode cX11_proof 30 = .ok (.istore 5, 2) := by decide +kernel
theorem dX11_proof_32 : decode cX11_proof 32 = .ok (.iload 5, 2) := by decide +kernel
theorem dX11_proof_34 : decode cX11_proof 34 = .ok (.bipush 64, 2) := by decide +kernel
theorem dX11_proof_36 : decode cX11_proof 36 = .ok (.if_icmp .ge 49, 3) := by decide +kernel
theorem dX11_proof_85 : decode cX11_proof 85 = .ok (.iload 4, 2) := by decide +kernel
theorem dX11_proof_87 : decode cX11_proof 87 = .ok (.ireturn, 1) := by decide +kernel
theorem dX11_proof_39 : decode cX11_proof 39 = .ok (.iload 5, 2) := by decide +kernel
theorem dX11_proof_41 : decode cX11_proof 41 = .ok (.iload_n 3, 1) := by decide +kernel
theorem dX11_proof_42 : decode cX11_proof 42 = .ok (.iconst (-1), 1) := by decide +kernel
theorem dX11_proof_43 : decode cX11_proof 43 = .ok (.ixor, 1) := by decide +kernel
theorem dX11_proof_44 : decode cX11_proof 44 = .ok (.iand, 1) := by decide +kernel
theorem dX11_proof_79 : decode cX11_proof 79 = .ok (.iinc 5 1, 3) := by decide +kernel
theorem dX11_proof_82 : decode cX11_proof 82 = .ok (.goto (-50), 3) := by decide +kernel
theorem dX11_proof_45 : decode cX11_proof 45 = .ok (.ifCond .ne 34, 3) := by decide +kernel
theorem dX11_proof_48 : decode cX11_proof 48 = .ok (.aload_n 0, 1) := by decide +kernel
theorem dX11_proof_49 : decode cX11_proof 49 = .ok (.iload 5, 2) := by decide +kernel
set_option maxRecDepth 20000 in
theorem ggX11_proof_X11_wishing : GoodIn wsX11_proof wsX11_wishing := goodIn_r _ [36, 37, 38, 39, 40, 5, 41, 42, 43, 44, 45, 46, 47, 48, 49, 50, 51, 52, 53, 54, 55, 56, 57, 58, 59, 60, 61, 62, 63, 64, 65, 66, 67, 68, 69, 70, 71, 72, 73] (by rfl) (by decide +kernel)
set_option maxRecDepth 20000 in
theorem gX11_proof_X11_wishing : GoodIn wsX11_proof (wsV RX11 340 RX11 yX11_wishing wsX11_wishing) := goodIn_app (goodIn_r _ [33, 34, 35, 5] (by rfl) (by decide +kernel)) ggX11_proof_X11_wishing
theorem dX11_proof_51 : decode cX11_proof 51 = .ok (.invokevirtual 340, 3) := by decide +kernel
theorem dX11_proof_54 : decode cX11_proof 54 = .ok (.aload_n 0, 1) := by decide +kernel
theorem dX11_proof_55 : decode cX11_proof 55 = .ok (.iload_n 3, 1) := by decide +kernel
theorem dX11_proof_56 : decode cX11_proof 56 = .ok (.invokevirtual 340, 3) := by decide +kernel
theorem dX11_proof_59 : decode cX11_proof 59 = .ok (.if_icmp .ne 20, 3) := by decide +kernel
theorem dX11_proof_62 : decode cX11_proof 62 = .ok (.iload 5, 2) := by decide +kernel
theorem dX11_proof_64 : decode cX11_proof 64 = .ok (.invokestatic 297, 3) := by decide +kernel
theorem dX11_proof_67 : decode cX11_proof 67 = .ok (.iload 4, 2) := by decide +kernel
theorem dX11_proof_69 : decode cX11_proof 69 = .ok (.if_icmp .ge 10, 3) := by decide +kernel
theorem dX11_proof_72 : decode cX11_proof 72 = .ok (.iload 5, 2) := by decide +kernel
theorem dX11_proof_74 : decode cX11_proof 74 = .ok (.invokestatic 297, 3) := by decide +kernel
theorem dX11_proof_77 : decode cX11_proof 77 = .ok (.istore 4, 2) := by decide +kernel
theorem dX11_proof_15 : decode cX11_proof 15 = .ok (.iload_n 2, 1) := by decide +kernel
theorem dX11_proof_16 : decode cX11_proof 16 = .ok (.ireturn, 1) := by decide +kernel
theorem dX11_isDuel_0 : decode cX11_isDuel 0 = .ok (.aload_n 0, 1) := by decide +kernel
theorem dX11_isDuel_1 : decode cX11_isDuel 1 = .ok (.iload_n 1, 1) := by decide +kernel
theorem dX11_isDuel_2 : decode cX11_isDuel 2 = .ok (.iload_n 2, 1) := by decide +kernel
set_option maxRecDepth 20000 in
theorem ggX11_isDuel_X11_arePeople : GoodIn wsX11_isDuel wsX11_arePeople := goodIn_r _ [5, 6, 7, 8, 4, 9, 10, 11, 12, 13, 58, 59, 60, 61, 62, 63, 64, 65, 66, 67, 68, 69, 70, 71, 72, 73, 74, 75, 76, 77, 78, 79, 80, 81, 82, 83, 84, 85, 86, 87, 88] (by rfl) (by decide +kernel)
set_option maxRecDepth 20000 in
theorem gX11_isDuel_X11_arePeople : GoodIn wsX11_isDuel (wsV RX11 266 RX11 yX11_arePeople wsX11_arePeople) := goodIn_app (goodIn_r _ [1, 2, 3, 4] (by rfl) (by decide +kernel)) ggX11_isDuel_X11_arePeople
theorem dX11_isDuel_3 : decode cX11_isDuel 3 = .ok (.invokevirtual 266, 3) := by decide +kernel
theorem dX11_isDuel_6 : decode cX11_isDuel 6 = .ok (.ifCond .eq 8, 3) := by decide +kernel
theorem dX11_isDuel_14 : decode cX11_isDuel 14 = .ok (.iconst 0, 1) := by decide +kernel
theorem dX11_isDuel_15 : decode cX11_isDuel 15 = .ok (.ireturn, 1) := by decide +kernel
theorem dX11_isDuel_9 : decode cX11_isDuel 9 = .ok (.iload_n 1, 1) := by decide +kernel
theorem dX11_isDuel_10 : decode cX11_isDuel 10 = .ok (.iload_n 2, 1) := by decide +kernel
theorem dX11_isDuel_11 : decode cX11_isDuel 11 = .ok (.if_icmp .ne 5, 3) := by decide +kernel
theorem dX11_isDuel_16 : decode cX11_isDuel 16 = .ok (.aload_n 0, 1) := by decide +kernel
set_option maxRecDepth 20000 in
theorem ggX11_isDuel_X11_laysNow : GoodIn wsX11_isDuel wsX11_laysNow := goodIn_r _ [17, 10, 18, 19, 20, 21, 4, 22, 23, 24, 25, 26, 27, 28, 29, 30, 31, 32, 33, 34, 35, 36, 37, 38, 39, 40, 41, 42, 43, 44, 45, 46, 47, 48, 49, 50, 51, 52, 53, 58, 59, 60, 61, 62, 63, 64, 65, 66, 67, 68, 69, 70, 71, 72, 73, 74, 75, 76, 77, 78, 79, 80, 81, 82, 83, 84, 85, 86, 87, 88] (by rfl) (by decide +kernel)
set_option maxRecDepth 20000 in
theorem gX11_isDuel_X11_laysNow : GoodIn wsX11_isDuel (wsV RX11 251 RX11 yX11_laysNow wsX11_laysNow) := goodIn_app (goodIn_r _ [14, 15, 16, 4] (by rfl) (by decide +kernel)) ggX11_isDuel_X11_laysNow
theorem dX11_isDuel_17 : decode cX11_isDuel 17 = .ok (.invokevirtual 251, 3) := by decide +kernel
theorem dX11_isDuel_20 : decode cX11_isDuel 20 = .ok (.aload_n 0, 1) := by decide +kernel
theorem dX11_isDuel_21 : decode cX11_isDuel 21 = .ok (.iload_n 1, 1) := by decide +kernel
set_option maxRecDepth 20000 in
theorem ggX11_isDuel_X11_handOf : GoodIn wsX11_isDuel wsX11_handOf := goodIn_r _ [57, 10, 23, 58, 59, 60, 61, 62, 63, 64, 65, 66, 67, 68, 69, 70, 71, 72, 73, 74, 75, 76, 77, 78, 79, 80, 81, 82, 83, 84, 85, 86, 87, 88] (by rfl) (by decide +kernel)
set_option maxRecDepth 20000 in
theorem gX11_isDuel_X11_handOf : GoodIn wsX11_isDuel (wsV RX11 254 RX11 yX11_handOf wsX11_handOf) := goodIn_app (goodIn_r _ [54, 55, 56, 4] (by rfl) (by decide +kernel)) ggX11_isDuel_X11_handOf
theorem dX11_isDuel_22 : decode cX11_isDuel 22 = .ok (.invokevirtual 254, 3) := by decide +kernel
theorem dX11_isDuel_25 : decode cX11_isDuel 25 = .ok (.ifCond .eq 15, 3) := by decide +kernel
theorem dX11_isDuel_40 : decode cX11_isDuel 40 = .ok (.iconst 0, 1) := by decide +kernel
theorem dX11_isDuel_41 : decode cX11_isDuel 41 = .ok (.ireturn, 1) := by decide +kernel
theorem dX11_isDuel_28 : decode cX11_isDuel 28 = .ok (.aload_n 0, 1) := by decide +kernel
theorem dX11_isDuel_29 : decode cX11_isDuel 29 = .ok (.iload_n 2, 1) := by decide +kernel
theorem dX11_isDuel_30 : decode cX11_isDuel 30 = .ok (.invokevirtual 254, 3) := by decide +kernel
theorem dX11_isDuel_33 : decode cX11_isDuel 33 = .ok (.ifCond .eq 7, 3) := by decide +kernel
theorem dX11_isDuel_36 : decode cX11_isDuel 36 = .ok (.iconst 1, 1) := by decide +kernel
theorem dX11_isDuel_37 : decode cX11_isDuel 37 = .ok (.goto 4, 3) := by decide +kernel
theorem dX11_common_0 : decode cX11_common 0 = .ok (.iload_n 1, 1) := by decide +kernel
theorem dX11_common_1 : decode cX11_common 1 = .ok (.ifCond .ne 7, 3) := by decide +kernel
theorem dX11_common_4 : decode cX11_common 4 = .ok (.iload_n 0, 1) := by decide +kernel
theorem dX11_common_5 : decode cX11_common 5 = .ok (.goto 10, 3) := by decide +kernel
theorem dX11_common_15 : decode cX11_common 15 = .ok (.ireturn, 1) := by decide +kernel
theorem dX11_common_8 : decode cX11_common 8 = .ok (.iload_n 1, 1) := by decide +kernel
theorem dX11_common_9 : decode cX11_common 9 = .ok (.iload_n 0, 1) := by decide +kernel
theorem dX11_common_10 : decode cX11_common 10 = .ok (.iload_n 1, 1) := by decide +kernel
theorem dX11_common_11 : decode cX11_common 11 = .ok (.irem, 1) := by decide +kernel
set_option maxRecDepth 20000 in
theorem ggX11_common_X11_common : GoodIn wsX11_common wsX11_common := goodIn_r _ [0, 1, 2, 3] (by rfl) (by decide +kernel)
set_option maxRecDepth 20000 in
theorem gX11_common_X11_common : GoodIn wsX11_common (va_wsS RX11 352 yX11_common wsX11_common) := goodIn_app (goodIn_r _ [1, 2, 3] (by rfl) (by decide +kernel)) ggX11_common_X11_common
theorem dX11_common_12 : decode cX11_common 12 = .ok (.invokestatic 352, 3) := by decide +kernel
set_option maxHeartbeats 4000000 in
set_option maxRecDepth 100000 in
theorem a_X11_laysWatch (l : Launch) (G : va_G) (ct : Nat → ClassId) (a0 : Nat) (n0_0 : Int32) (a1 : Nat) (a2 : Nat) (a3 : Nat) (a4 : Nat) (a5 : Nat) (n0_6 : Int32) (n0_7 : Int32) (n0_8 : Int32) (n0_9 : Int32) (n0_10 : Int32) (l0_11 : Int64) (n0_12 : Int32) (n0_13 : Int32) (n0_14 : Int32) (n0_15 : Int32) (a6 : Nat) (a7 : Nat) (a8 : Nat) (a9 : Nat) (a10 : Nat) (a11 : Nat) (a12 : Nat) (a13 : Nat) (n0_24 : Int32) (n0_25 : Int32) (n0_26 : Int32) (n0_27 : Int32) (a14 : Nat) (n0_29 : Int32) (n0_30 : Int32) (f2 : Nat → Int32) (f3 : Nat → Int64) (f7 : Nat → Int32) (f8 : Nat → Int32) (p0 : Int32) (hp_f2 : ar 0 60 f2) (hp_n0_6 : rg 0 900 n0_6) (hp_f7 : hsI f7) (hp_f8 : psI f8) (hp_p0 : rg 0 3 p0) : Met l yX11_laysWatch wsX11_laysWatch ({ frames := 2, cells := 0, slots := 0, locals := 45 }) (va_Pc [.ref a0, .int p0] (wrP G ct [(a0, .inr (11, [.int n0_0, .ref a1, .ref a2, .ref a3, .ref a4, .ref a5, .int n0_6, .int n0_7, .int n0_8, .int n0_9, .int n0_10, .long l0_11, .int n0_12, .int n0_13, .int n0_14, .int n0_15, .ref a6, .ref a7, .ref a8, .ref a9, .ref a10, .ref a11, .ref a12, .ref a13, .int n0_24, .int n0_25, .int n0_26, .int n0_27, .ref a14, .int n0_29, .int n0_30])), (a2, .inl (ct 0, 4, .inl f2)), (a3, .inl (ct 3, 240, .inr (.inl f3))), (a7, .inl (ct 0, 15, .inl f7)), (a8, .inl (ct 0, 200, .inl f8))])) (va_Qv (fun u : SU => rg (-1) 5 (u.1 0) ∧ True) (fun u t => va_P G vwCl ((fun u : SU => [(a0, .inr (11, [.int n0_0, .ref a1, .ref a2, .ref a3, .ref a4, .ref a5, .int n0_6, .int n0_7, .int n0_8, .int n0_9, .int n0_10, .long l0_11, .int n0_12, .int n0_13, .int n0_14, .int n0_15, .ref a6, .ref a7, .ref a8, .ref a9, .ref a10, .ref a11, .ref a12, .ref a13, .int n0_24, .int n0_25, .int n0_26, .int n0_27, .ref a14, .int (u.1 0), .int (u.1 1)])), (a2, .inl (ct 0, 4, .inl f2)), (a3, .inl (ct 3, 240, .inr (.inl f3))), (a7, .inl (ct 0, 15, .inl f7)), (a8, .inl (ct 0, 200, .inl f8))]) u) t.heap) (aset [(a0, .inr (11, [.int n0_0, .ref a1, .ref a2, .ref a3, .ref a4, .ref a5, .int n0_6, .int n0_7, .int n0_8, .int n0_9, .int n0_10, .long l0_11, .int n0_12, .int n0_13, .int n0_14, .int n0_15, .ref a6, .ref a7, .ref a8, .ref a9, .ref a10, .ref a11, .ref a12, .ref a13, .int n0_24, .int n0_25, .int n0_26, .int n0_27, .ref a14, .int n0_29, .int n0_30])), (a2, .inl (ct 0, 4, .inl f2)), (a3, .inl (ct 3, 240, .inr (.inl f3))), (a7, .inl (ct 0, 15, .inl f7)), (a8, .inl (ct 0, 200, .inl f8))])) 0 0 (aset [(a0, .inr (11, [.int n0_0, .ref a1, .ref a2, .ref a3, .ref a4, .ref a5, .int n0_6, .int n0_7, .int n0_8, .int n0_9, .int n0_10, .long l0_11, .int n0_12, .int n0_13, .int n0_14, .int n0_15, .ref a6, .ref a7, .ref a8, .ref a9, .ref a10, .ref a11, .ref a12, .ref a13, .int n0_24, .int n0_25, .int n0_26, .int n0_27, .ref a14, .int n0_29, .int n0_30])), (a2, .inl (ct 0, 4, .inl f2)), (a3, .inl (ct 3, 240, .inr (.inl f3))), (a7, .inl (ct 0, 15, .inl f7)), (a8, .inl (ct 0, 200, .inl f8))]) := by
  refine Met.ofW (cc := cX11_laysWatch) (maxL := 7) (ret := none) (by decide) rfl ?_
  intro p e s m args below meth c s₁ B hml hv
  obtain ⟨rfl, hP, hK, hD0⟩ := hv
  have hx := B.exec
  have hb := B.bytes
  have hr := B.returns
  have hts := atoms_spec (ws := wsX11_laysWatch) B.pre
  have hown : s.vm.findClass RX11 = some m.cls := findClass_of_methodNamed B.named
  have hlocks := B.notSynchronized
  have hD := hD0.aself
  generalize hAe : aset [(a0, .inr (11, [.int n0_0, .ref a1, .ref a2, .ref a3, .ref a4, .ref a5, .int n0_6, .int n0_7, .int n0_8, .int n0_9, .int n0_10, .long l0_11, .int n0_12, .int n0_13, .int n0_14, .int n0_15, .ref a6, .ref a7, .ref a8, .ref a9, .ref a10, .ref a11, .ref a12, .ref a13, .int n0_24, .int n0_25, .int n0_26, .int n0_27, .ref a14, .int n0_29, .int n0_30])), (a2, .inl (ct 0, 4, .inl f2)), (a3, .inl (ct 3, 240, .inr (.inl f3))), (a7, .inl (ct 0, 15, .inl f7)), (a8, .inl (ct 0, 200, .inl f8))] = A at hD ⊢
  have hS : va_S A s.heap s.heap [] := va_S.rf
  have hl := lv_entry ([.ref a0, .int p0]) (n := 7) (Nat.le_of_ble_eq_true rfl)
  rw [lg_entry_eq]
  generalize (lg_sl ([.ref a0, .int p0]) ++ List.replicate (7 - (lg_sl ([.ref a0, .int p0])).length) Slot.unset).toArray = ls at hl ⊢
  have hl : lv_has ls 7 [(0, .ref a0), (1, .int p0)] := hl
  refine lv_aload_n hx hb dX11_laysWatch_0 rfl (lv_at hl 0 rfl) ?_
  refine lv_iload_n hx hb dX11_laysWatch_1 rfl (lv_at hl 1 rfl) ?_
  refine ro_calli (va_runV (As := [.int p0]) (rest := []) ⟨hx, hb, hml, hown, hts⟩ (a_X11_rowOf l G ct a0 n0_0 a1 a2 a3 a4 a5 n0_6 n0_7 n0_8 n0_9 n0_10 l0_11 n0_12 n0_13 n0_14 n0_15 a6 a7 a8 a9 a10 a11 a12 a13 n0_24 n0_25 n0_26 n0_27 a14 n0_29 n0_30 f2 f3 p0 hp_f2 hp_n0_6 hp_p0) (cwV 1 hts gX11_laysWatch_X11_rowOf rfl rfl rfl (by decide +kernel) ⟨Nat.le_of_ble_eq_true rfl, Nat.le_of_ble_eq_true rfl⟩) (ro_preV 11 0 hK (hP.sub [0, 1, 2] rfl) rfl rfl) rfl rfl hl.1 rfl (lv_room (Nat.le_of_ble_eq_true rfl)) dX11_laysWatch_2 ⟨Nat.zero_le _, Nat.zero_le _⟩) hS hP (fun r2 H locs wr2 hP hS => ?_)
  refine lv_istore_n (lv' := [(2, .int r2), (0, .ref a0), (1, .int p0)]) hx hb dX11_laysWatch_5 rfl hl (by decide) rfl (fun ls hl => ?_)
  refine lv_aload_n hx hb dX11_laysWatch_6 rfl (lv_at hl 1 rfl) ?_
  refine lv_iload_n hx hb dX11_laysWatch_7 rfl (lv_at hl 0 rfl) ?_
  refine ro_calli (va_runV (As := [.int r2]) (rest := []) ⟨hx, hb, hml, hown, hts⟩ (a_X11_wishing l G ct a0 n0_0 a1 a2 a3 a4 a5 n0_6 n0_7 n0_8 n0_9 n0_10 l0_11 n0_12 n0_13 n0_14 n0_15 a6 a7 a8 a9 a10 a11 a12 a13 n0_24 n0_25 n0_26 n0_27 a14 n0_29 n0_30 f7 f8 r2 hp_n0_6 hp_f7 hp_f8) (cwV 1 hts gX11_laysWatch_X11_wishing rfl rfl rfl (by decide +kernel) ⟨Nat.le_of_ble_eq_true rfl, Nat.le_of_ble_eq_true rfl⟩) (ro_preV 11 0 hK (hP.sub [0, 3, 4] rfl) rfl rfl) rfl rfl hl.1 rfl (lv_room (Nat.le_of_ble_eq_true rfl)) dX11_laysWatch_8 ⟨Nat.zero_le _, Nat.zero_le _⟩) hS hP (fun r8 H locs wr8 hP hS => ?_)
  obtain ⟨p_1, -⟩ := wr8
  refine ro_calli (va_runS (As := [.int r8]) (rest := []) ⟨hx, hb, hml, hown, hts⟩ (a_X11_sizeOf l G ct r8) (va_cwS 1 hts gX11_laysWatch_X11_sizeOf rfl rfl rfl (by decide +kernel) ⟨Nat.le_of_ble_eq_true rfl, Nat.le_of_ble_eq_true rfl⟩) (ro_pre hK (hP.sub [] rfl)) rfl rfl hl.1 rfl (lv_room (Nat.le_of_ble_eq_true rfl)) dX11_laysWatch_11 ⟨Nat.zero_le _, Nat.zero_le _⟩) hS hP (fun r11 H locs wr11 hP hS => ?_)
  refine lv_istore_n (lv' := [(3, .int r11), (2, .int r2), (0, .ref a0), (1, .int p0)]) hx hb dX11_laysWatch_14 rfl hl (by decide) rfl (fun ls hl => ?_)
  refine lv_aload_n hx hb dX11_laysWatch_15 rfl (lv_at hl 2 rfl) ?_
  refine lv_iconst (v := (-1)) hx hb dX11_laysWatch_16 (by decide) ?_
  refine va_put (D := G) (ci := 11) (v := .int (-1)) (ty := .int) (C := RX11) (T := TX11) (N := 31) hx hb hts (by decide +kernel) tyX11 tyX11_ok nmX11 hown hK.1 hP hD hS 0 rfl rfl 29 (by decide) (hts (.fieldLink RX11 343 "CardHolderModel" "watchBest" "I") (by decide +kernel)) (fun _ h9 => h9) rfl (by decide +kernel) rfl rfl (Nat.le_of_ble_eq_true rfl) dX11_laysWatch_17 (fun H locs hP hD hS => ?_)
  refine lv_aload_n hx hb dX11_laysWatch_20 rfl (lv_at hl 2 rfl) ?_
  refine lv_iload_n hx hb dX11_laysWatch_21 rfl (lv_at hl 0 rfl) ?_
  refine va_put (D := G) (ci := 11) (v := .int r11) (ty := .int) (C := RX11) (T := TX11) (N := 31) hx hb hts (by decide +kernel) tyX11 tyX11_ok nmX11 hown hK.1 hP hD hS 0 rfl rfl 30 (by decide) (hts (.fieldLink RX11 346 "CardHolderModel" "watchLeaves" "I") (by decide +kernel)) (fun _ h9 => h9) rfl (by decide +kernel) rfl rfl (Nat.le_of_ble_eq_true rfl) dX11_laysWatch_22 (fun H locs hP hD hS => ?_)
  refine lv_iconst (v := 0) hx hb dX11_laysWatch_25 (by decide) ?_
  refine lv_istore (lv' := [(4, .int 0), (3, .int r11), (2, .int r2), (0, .ref a0), (1, .int p0)]) hx hb dX11_laysWatch_26 hl (by decide) rfl (fun ls hl => ?_)
  have j28 : ∀ (n : Nat) (x28_4 : Int32) (v28_0_29 : Int32) (v28_0_30 : Int32) (H : Heap) (locs : List Loc) (ls : Array Slot), 2147483648 ≤ x28_4.toInt + (n : Int) → rg 0 6 x28_4 → rg (-1) 5 v28_0_29 → va_P G vwCl [(a0, .inr (11, [.int n0_0, .ref a1, .ref a2, .ref a3, .ref a4, .ref a5, .int n0_6, .int n0_7, .int n0_8, .int n0_9, .int n0_10, .long l0_11, .int n0_12, .int n0_13, .int n0_14, .int n0_15, .ref a6, .ref a7, .ref a8, .ref a9, .ref a10, .ref a11, .ref a12, .ref a13, .int n0_24, .int n0_25, .int n0_26, .int n0_27, .ref a14, .int v28_0_29, .int v28_0_30])), (a2, .inl (ct 0, 4, .inl f2)), (a3, .inl (ct 3, 240, .inr (.inl f3))), (a7, .inl (ct 0, 15, .inl f7)), (a8, .inl (ct 0, 200, .inl f8))] H → va_D A [(a0, .inr (11, [.int n0_0, .ref a1, .ref a2, .ref a3, .ref a4, .ref a5, .int n0_6, .int n0_7, .int n0_8, .int n0_9, .int n0_10, .long l0_11, .int n0_12, .int n0_13, .int n0_14, .int n0_15, .ref a6, .ref a7, .ref a8, .ref a9, .ref a10, .ref a11, .ref a12, .ref a13, .int n0_24, .int n0_25, .int n0_26, .int n0_27, .ref a14, .int v28_0_29, .int v28_0_30])), (a2, .inl (ct 0, 4, .inl f2)), (a3, .inl (ct 3, 240, .inr (.inl f3))), (a7, .inl (ct 0, 15, .inl f7)), (a8, .inl (ct 0, 200, .inl f8))] → va_S A s.heap H locs → lv_has ls 7 [(0, .ref a0), (1, .int p0), (2, .int r2), (3, .int r11), (4, .int x28_4)] → W p l e (headSpec wsX11_laysWatch ({ frames := 2, cells := 0, slots := 0, locals := 45 })).room s m ([.ref a0, .int p0] : List Value).toArray below meth c H locs 0 0 (MQ below (va_Qv (fun u : SU => rg (-1) 5 (u.1 0) ∧ True) (fun u t => va_P G vwCl ((fun u : SU => [(a0, .inr (11, [.int n0_0, .ref a1, .ref a2, .ref a3, .ref a4, .ref a5, .int n0_6, .int n0_7, .int n0_8, .int n0_9, .int n0_10, .long l0_11, .int n0_12, .int n0_13, .int n0_14, .int n0_15, .ref a6, .ref a7, .ref a8, .ref a9, .ref a10, .ref a11, .ref a12, .ref a13, .int n0_24, .int n0_25, .int n0_26, .int n0_27, .ref a14, .int (u.1 0), .int (u.1 1)])), (a2, .inl (ct 0, 4, .inl f2)), (a3, .inl (ct 3, 240, .inr (.inl f3))), (a7, .inl (ct 0, 15, .inl f7)), (a8, .inl (ct 0, 200, .inl f8))]) u) t.heap) A) ([.ref a0, .int p0] : List Value).toArray s 0 0 A) (F0 m 28 ls []) := by
    intro n
    induction n with
    | zero => intro x28_4 v28_0_29 v28_0_30 H locs ls hn28 hx28_4 hv28_0_29 hP hD hS hl; exact absurd hn28 (by have := Int32.toInt_lt x28_4; have := Int32.le_toInt x28_4; omega)
    | succ n ih28 =>
      intro x28_4 v28_0_29 v28_0_30 H locs ls hn28 hx28_4 hv28_0_29 hP hD hS hl
      refine lv_iload hx hb dX11_laysWatch_28 (lv_at hl 4 rfl) ?_
      refine lv_bipush (v := 6) hx hb dX11_laysWatch_30 (by decide) ?_
      refine lv_icmp_ge (tgt := 100) hx hb dX11_laysWatch_32 (by decide) (fun c32 => ?_) (fun c32 => ?_)
      · have h_2 : rg 6 6 x28_4 := r_le_r_i c32 (rgn 6 (x := 6) (by decide)) hx28_4
        exact W.vret hx hb hr (fun t ht hW => ⟨⟨(fun k => ([v28_0_29, v28_0_30] : List Int32).getD k 0, fun k => ([] : List (Nat → Int32)).getD k (fun _ => 0), fun k => ([] : List (Nat → Int64)).getD k (fun _ => 0)), rfl, ⟨hv28_0_29, trivial⟩, hp_at ht hP⟩, hS.F ht⟩) hS.2.2 dX11_laysWatch_100
      · have h_3 : rg 0 5 x28_4 := r_lt_l_i (nle_i c32) hx28_4 (rgn 6 (x := 6) (by decide)) (by decide)
        refine lv_aload_n hx hb dX11_laysWatch_35 rfl (lv_at hl 0 rfl) ?_
        refine lv_iload_n hx hb dX11_laysWatch_36 rfl (lv_at hl 2 rfl) ?_
        refine lv_iconst (v := 1) hx hb dX11_laysWatch_37 (by decide) ?_
        refine lv_iload hx hb dX11_laysWatch_38 (lv_at hl 4 rfl) ?_
        refine lv_ishl hx hb dX11_laysWatch_40 ?_
        refine nm_shl (e1 := 1) (f := 32) h_3 (by decide) (fun z40 hz40 => ?_)
        refine lv_ior hx hb dX11_laysWatch_41 ?_
        refine nm_0 (fun z41 => ?_)
        refine ro_calli (va_runV (As := [.int z41]) (rest := []) ⟨hx, hb, hml, hown, hts⟩ (a_X11_wishing l G ct a0 n0_0 a1 a2 a3 a4 a5 n0_6 n0_7 n0_8 n0_9 n0_10 l0_11 n0_12 n0_13 n0_14 n0_15 a6 a7 a8 a9 a10 a11 a12 a13 n0_24 n0_25 n0_26 n0_27 a14 v28_0_29 v28_0_30 f7 f8 z41 hp_n0_6 hp_f7 hp_f8) (cwV 1 hts gX11_laysWatch_X11_wishing rfl rfl rfl (by decide +kernel) ⟨Nat.le_of_ble_eq_true rfl, Nat.le_of_ble_eq_true rfl⟩) (ro_preV 11 0 hK (hP.sub [0, 3, 4] rfl) rfl rfl) rfl rfl hl.1 rfl (lv_room (Nat.le_of_ble_eq_true rfl)) dX11_laysWatch_42 ⟨Nat.zero_le _, Nat.zero_le _⟩) hS hP (fun r42 H locs wr42 hP hS => ?_)
        obtain ⟨p_4, -⟩ := wr42
        refine ro_calli (va_runS (As := [.int r42]) (rest := []) ⟨hx, hb, hml, hown, hts⟩ (a_X11_sizeOf l G ct r42) (va_cwS 1 hts gX11_laysWatch_X11_sizeOf rfl rfl rfl (by decide +kernel) ⟨Nat.le_of_ble_eq_true rfl, Nat.le_of_ble_eq_true rfl⟩) (ro_pre hK (hP.sub [] rfl)) rfl rfl hl.1 rfl (lv_room (Nat.le_of_ble_eq_true rfl)) dX11_laysWatch_45 ⟨Nat.zero_le _, Nat.zero_le _⟩) hS hP (fun r45 H locs wr45 hP hS => ?_)
        refine lv_istore (lv' := [(5, .int r45), (0, .ref a0), (1, .int p0), (2, .int r2), (3, .int r11), (4, .int x28_4)]) hx hb dX11_laysWatch_48 hl (by decide) rfl (fun ls hl => ?_)
        refine lv_iload hx hb dX11_laysWatch_50 (lv_at hl 0 rfl) ?_
        refine lv_iload_n hx hb dX11_laysWatch_52 rfl (lv_at hl 4 rfl) ?_
        refine lv_iload hx hb dX11_laysWatch_53 (lv_at hl 0 rfl) ?_
        refine lv_isub hx hb dX11_laysWatch_55 ?_
        refine nm_0 (fun z55 => ?_)
        have j68 : ∀ (y68_0 : Int32) (H : Heap) (locs : List Loc) (ls : Array Slot), va_P G vwCl [(a0, .inr (11, [.int n0_0, .ref a1, .ref a2, .ref a3, .ref a4, .ref a5, .int n0_6, .int n0_7, .int n0_8, .int n0_9, .int n0_10, .long l0_11, .int n0_12, .int n0_13, .int n0_14, .int n0_15, .ref a6, .ref a7, .ref a8, .ref a9, .ref a10, .ref a11, .ref a12, .ref a13, .int n0_24, .int n0_25, .int n0_26, .int n0_27, .ref a14, .int v28_0_29, .int v28_0_30])), (a2, .inl (ct 0, 4, .inl f2)), (a3, .inl (ct 3, 240, .inr (.inl f3))), (a7, .inl (ct 0, 15, .inl f7)), (a8, .inl (ct 0, 200, .inl f8))] H → va_D A [(a0, .inr (11, [.int n0_0, .ref a1, .ref a2, .ref a3, .ref a4, .ref a5, .int n0_6, .int n0_7, .int n0_8, .int n0_9, .int n0_10, .long l0_11, .int n0_12, .int n0_13, .int n0_14, .int n0_15, .ref a6, .ref a7, .ref a8, .ref a9, .ref a10, .ref a11, .ref a12, .ref a13, .int n0_24, .int n0_25, .int n0_26, .int n0_27, .ref a14, .int v28_0_29, .int v28_0_30])), (a2, .inl (ct 0, 4, .inl f2)), (a3, .inl (ct 3, 240, .inr (.inl f3))), (a7, .inl (ct 0, 15, .inl f7)), (a8, .inl (ct 0, 200, .inl f8))] → va_S A s.heap H locs → lv_has ls 7 [(0, .ref a0), (1, .int p0), (2, .int r2), (3, .int r11), (4, .int x28_4), (5, .int r45)] → W p l e (headSpec wsX11_laysWatch ({ frames := 2, cells := 0, slots := 0, locals := 45 })).room s m ([.ref a0, .int p0] : List Value).toArray below meth c H locs 0 0 (MQ below (va_Qv (fun u : SU => rg (-1) 5 (u.1 0) ∧ True) (fun u t => va_P G vwCl ((fun u : SU => [(a0, .inr (11, [.int n0_0, .ref a1, .ref a2, .ref a3, .ref a4, .ref a5, .int n0_6, .int n0_7, .int n0_8, .int n0_9, .int n0_10, .long l0_11, .int n0_12, .int n0_13, .int n0_14, .int n0_15, .ref a6, .ref a7, .ref a8, .ref a9, .ref a10, .ref a11, .ref a12, .ref a13, .int n0_24, .int n0_25, .int n0_26, .int n0_27, .ref a14, .int (u.1 0), .int (u.1 1)])), (a2, .inl (ct 0, 4, .inl f2)), (a3, .inl (ct 3, 240, .inr (.inl f3))), (a7, .inl (ct 0, 15, .inl f7)), (a8, .inl (ct 0, 200, .inl f8))]) u) t.heap) A) ([.ref a0, .int p0] : List Value).toArray s 0 0 A) (F0 m 68 ls [.int y68_0]) := by
          intro y68_0 H locs ls  hP hD hS hl
          refine lv_istore (lv' := [(6, .int y68_0), (0, .ref a0), (1, .int p0), (2, .int r2), (3, .int r11), (4, .int x28_4), (5, .int r45)]) hx hb dX11_laysWatch_68 hl (by decide) rfl (fun ls hl => ?_)
          refine lv_iload hx hb dX11_laysWatch_70 (lv_at hl 0 rfl) ?_
          refine lv_aload_n hx hb dX11_laysWatch_72 rfl (lv_at hl 1 rfl) ?_
          refine va_get (D := G) (ci := 11) (v := .int v28_0_30) (C := RX11) (T := TX11) (N := 31) hx hb hts (by decide +kernel) hown hK.1 hP 0 rfl rfl 30 (by decide) (hts (.fieldLink RX11 346 "CardHolderModel" "watchLeaves" "I") (by decide +kernel)) (fun _ h9 => h9) rfl dX11_laysWatch_73 ?_
          have j94 : ∀ (v94_0_29 : Int32) (v94_0_30 : Int32) (H : Heap) (locs : List Loc) (ls : Array Slot), rg (-1) 5 v94_0_29 → va_P G vwCl [(a0, .inr (11, [.int n0_0, .ref a1, .ref a2, .ref a3, .ref a4, .ref a5, .int n0_6, .int n0_7, .int n0_8, .int n0_9, .int n0_10, .long l0_11, .int n0_12, .int n0_13, .int n0_14, .int n0_15, .ref a6, .ref a7, .ref a8, .ref a9, .ref a10, .ref a11, .ref a12, .ref a13, .int n0_24, .int n0_25, .int n0_26, .int n0_27, .ref a14, .int v94_0_29, .int v94_0_30])), (a2, .inl (ct 0, 4, .inl f2)), (a3, .inl (ct 3, 240, .inr (.inl f3))), (a7, .inl (ct 0, 15, .inl f7)), (a8, .inl (ct 0, 200, .inl f8))] H → va_D A [(a0, .inr (11, [.int n0_0, .ref a1, .ref a2, .ref a3, .ref a4, .ref a5, .int n0_6, .int n0_7, .int n0_8, .int n0_9, .int n0_10, .long l0_11, .int n0_12, .int n0_13, .int n0_14, .int n0_15, .ref a6, .ref a7, .ref a8, .ref a9, .ref a10, .ref a11, .ref a12, .ref a13, .int n0_24, .int n0_25, .int n0_26, .int n0_27, .ref a14, .int v94_0_29, .int v94_0_30])), (a2, .inl (ct 0, 4, .inl f2)), (a3, .inl (ct 3, 240, .inr (.inl f3))), (a7, .inl (ct 0, 15, .inl f7)), (a8, .inl (ct 0, 200, .inl f8))] → va_S A s.heap H locs → lv_has ls 7 [(0, .ref a0), (1, .int p0), (2, .int r2), (3, .int r11), (4, .int x28_4), (5, .int r45), (6, .int y68_0)] → W p l e (headSpec wsX11_laysWatch ({ frames := 2, cells := 0, slots := 0, locals := 45 })).room s m ([.ref a0, .int p0] : List Value).toArray below meth c H locs 0 0 (MQ below (va_Qv (fun u : SU => rg (-1) 5 (u.1 0) ∧ True) (fun u t => va_P G vwCl ((fun u : SU => [(a0, .inr (11, [.int n0_0, .ref a1, .ref a2, .ref a3, .ref a4, .ref a5, .int n0_6, .int n0_7, .int n0_8, .int n0_9, .int n0_10, .long l0_11, .int n0_12, .int n0_13, .int n0_14, .int n0_15, .ref a6, .ref a7, .ref a8, .ref a9, .ref a10, .ref a11, .ref a12, .ref a13, .int n0_24, .int n0_25, .int n0_26, .int n0_27, .ref a14, .int (u.1 0), .int (u.1 1)])), (a2, .inl (ct 0, 4, .inl f2)), (a3, .inl (ct 3, 240, .inr (.inl f3))), (a7, .inl (ct 0, 15, .inl f7)), (a8, .inl (ct 0, 200, .inl f8))]) u) t.heap) A) ([.ref a0, .int p0] : List Value).toArray s 0 0 A) (F0 m 94 ls []) := by
            intro v94_0_29 v94_0_30 H locs ls hv94_0_29 hP hD hS hl
            obtain ⟨z94, qz94⟩ : ∃ y : Int32, y = x28_4 + Int32.ofInt 1 := ⟨_, rfl⟩
            obtain ⟨hz94, ez94⟩ := inc_z (e := 1) (f := 6) h_3 qz94 (by decide)
            refine lv_iinc (v := z94) (lv' := [(4, .int z94), (0, .ref a0), (1, .int p0), (2, .int r2), (3, .int r11), (5, .int r45), (6, .int y68_0)]) hx hb dX11_laysWatch_94 hl (k := 4) rfl (qz94.symm) (by decide) rfl (fun ls hl => ?_)
            refine lv_goto (tgt := 28) hx hb dX11_laysWatch_97 (by decide) ?_
            exact ih28 z94 v94_0_29 v94_0_30 _ _ ls (by have q := hn28; have := ez94; omega) (rg_w (c := 0) (d := 6) hz94 (by decide)) hv94_0_29 hP hD hS (lv_sub hl [1, 2, 3, 4, 0] rfl)
          refine lv_icmp_lt (tgt := 82) hx hb dX11_laysWatch_76 (by decide) (fun c76 => ?_) (fun c76 => ?_)
          · have h_5 : rg (-2147483648) 2147483646 y68_0 := r_lt_l_i c76 (rg_t y68_0) (rg_t v28_0_30) (by decide)
            have h_6 : rg (-2147483647) 2147483647 v28_0_30 := r_lt_r_i c76 (rg_t y68_0) (rg_t v28_0_30) (by decide)
            refine lv_aload_n hx hb dX11_laysWatch_82 rfl (lv_at hl 1 rfl) ?_
            refine lv_iload hx hb dX11_laysWatch_83 (lv_at hl 5 rfl) ?_
            refine va_put (D := G) (ci := 11) (v := .int x28_4) (ty := .int) (C := RX11) (T := TX11) (N := 31) hx hb hts (by decide +kernel) tyX11 tyX11_ok nmX11 hown hK.1 hP hD hS 0 rfl rfl 29 (by decide) (hts (.fieldLink RX11 343 "CardHolderModel" "watchBest" "I") (by decide +kernel)) (fun _ h9 => h9) rfl (by decide +kernel) rfl rfl (Nat.le_of_ble_eq_true rfl) dX11_laysWatch_85 (fun H locs hP hD hS => ?_)
            refine lv_aload_n hx hb dX11_laysWatch_88 rfl (lv_at hl 1 rfl) ?_
            refine lv_iload hx hb dX11_laysWatch_89 (lv_at hl 0 rfl) ?_
            refine va_put (D := G) (ci := 11) (v := .int y68_0) (ty := .int) (C := RX11) (T := TX11) (N := 31) hx hb hts (by decide +kernel) tyX11 tyX11_ok nmX11 hown hK.1 hP hD hS 0 rfl rfl 30 (by decide) (hts (.fieldLink RX11 346 "CardHolderModel" "watchLeaves" "I") (by decide +kernel)) (fun _ h9 => h9) rfl (by decide +kernel) rfl rfl (Nat.le_of_ble_eq_true rfl) dX11_laysWatch_91 (fun H locs hP hD hS => ?_)
            exact j94 x28_4 y68_0 _ _ ls (rg_w (c := (-1)) (d := 5) h_3 (by decide)) hP hD hS (lv_sub hl [1, 2, 3, 4, 5, 6, 0] rfl)
          · refine lv_goto (tgt := 94) hx hb dX11_laysWatch_79 (by decide) ?_
            exact j94 v28_0_29 v28_0_30 _ _ ls hv28_0_29 hP hD hS (lv_sub hl [1, 2, 3, 4, 5, 6, 0] rfl)
        refine lv_icmp_le (tgt := 64) hx hb dX11_laysWatch_56 (by decide) (fun c56 => ?_) (fun c56 => ?_)
        · refine lv_iload_n hx hb dX11_laysWatch_64 rfl (lv_at hl 4 rfl) ?_
          refine lv_iload hx hb dX11_laysWatch_65 (lv_at hl 0 rfl) ?_
          refine lv_isub hx hb dX11_laysWatch_67 ?_
          refine nm_0 (fun z67 => ?_)
          exact j68 z67 _ _ ls hP hD hS (lv_sub hl [1, 2, 3, 4, 5, 0] rfl)
        · have h_7 : rg (-2147483648) 2147483646 z55 := r_lt_l_i (nle_i c56) (rg_t z55) (rg_t r45) (by decide)
          have h_8 : rg (-2147483647) 2147483647 r45 := r_lt_r_i (nle_i c56) (rg_t z55) (rg_t r45) (by decide)
          refine lv_iload hx hb dX11_laysWatch_59 (lv_at hl 0 rfl) ?_
          refine lv_goto (tgt := 68) hx hb dX11_laysWatch_61 (by decide) ?_
          exact j68 r45 _ _ ls hP hD hS (lv_sub hl [1, 2, 3, 4, 5, 0] rfl)
  exact j28 4294967296 (0 : Int32) ((-1) : Int32) r11 _ _ ls (ms_e (0 : Int32)) (rg_w (c := 0) (d := 6) (rgn 0 (x := 0) (by decide)) (by decide)) (rg_w (c := (-1)) (d := 5) (rgn (-1) (x := (-1)) (by decide)) (by decide)) hP hD hS (lv_sub hl [3, 4, 2, 1, 0] rfl)

set_option maxHeartbeats 4000000 in
set_option maxRecDepth 100000 in
theorem a_X11_suspects (l : Launch) (G : va_G) (ct : Nat → ClassId) (a0 : Nat) (n0_0 : Int32) (a1 : Nat) (a2 : Nat) (a3 : Nat) (a4 : Nat) (a5 : Nat) (n0_6 : Int32) (n0_7 : Int32) (n0_8 : Int32) (n0_9 : Int32) (n0_10 : Int32) (l0_11 : Int64) (n0_12 : Int32) (n0_13 : Int32) (n0_14 : Int32) (n0_15 : Int32) (a6 : Nat) (a7 : Nat) (a8 : Nat) (a9 : Nat) (a10 : Nat) (a11 : Nat) (a12 : Nat) (a13 : Nat) (n0_24 : Int32) (n0_25 : Int32) (n0_26 : Int32) (n0_27 : Int32) (a14 : Nat) (n0_29 : Int32) (n0_30 : Int32) (f1 : Nat → Int32) (f2 : Nat → Int32) (f3 : Nat → Int64) (f6 : Nat → Int32) (f7 : Nat → Int32) (f8 : Nat → Int32) (p0 : Int32) (hp_f2 : ar 0 60 f2) (hp_n0_6 : rg 0 900 n0_6) (hp_f7 : hsI f7) (hp_f8 : psI f8) : Met l yX11_suspects wsX11_suspects ({ frames := 3, cells := 0, slots := 0, locals := 68 }) (va_Pc [.ref a0, .int p0] (wrP G ct [(a0, .inr (11, [.int n0_0, .ref a1, .ref a2, .ref a3, .ref a4, .ref a5, .int n0_6, .int n0_7, .int n0_8, .int n0_9, .int n0_10, .long l0_11, .int n0_12, .int n0_13, .int n0_14, .int n0_15, .ref a6, .ref a7, .ref a8, .ref a9, .ref a10, .ref a11, .ref a12, .ref a13, .int n0_24, .int n0_25, .int n0_26, .int n0_27, .ref a14, .int n0_29, .int n0_30])), (a1, .inl (ct 0, 4, .inl f1)), (a2, .inl (ct 0, 4, .inl f2)), (a3, .inl (ct 3, 240, .inr (.inl f3))), (a6, .inl (ct 0, 5, .inl f6)), (a7, .inl (ct 0, 15, .inl f7)), (a8, .inl (ct 0, 200, .inl f8))])) (va_Qi (fun (r : Int32) (u : SU) => rg (-6) 255 r ∧ (r = 0 → rg 0 3 p0) ∧ (¬ r = (-2) → rg 0 3 p0) ∧ rg 0 0 (u.1 0) ∧ True) (fun u t => va_P G vwCl ((fun u : SU => [(a0, .inr (11, [.int (u.1 0), .ref a1, .ref a2, .ref a3, .ref a4, .ref a5, .int n0_6, .int n0_7, .int n0_8, .int n0_9, .int n0_10, .long l0_11, .int n0_12, .int n0_13, .int n0_14, .int n0_15, .ref a6, .ref a7, .ref a8, .ref a9, .ref a10, .ref a11, .ref a12, .ref a13, .int n0_24, .int n0_25, .int n0_26, .int n0_27, .ref a14, .int n0_29, .int n0_30])), (a1, .inl (ct 0, 4, .inl f1)), (a2, .inl (ct 0, 4, .inl f2)), (a3, .inl (ct 3, 240, .inr (.inl f3))), (a6, .inl (ct 0, 5, .inl f6)), (a7, .inl (ct 0, 15, .inl f7)), (a8, .inl (ct 0, 200, .inl f8))]) u) t.heap) (aset [(a0, .inr (11, [.int n0_0, .ref a1, .ref a2, .ref a3, .ref a4, .ref a5, .int n0_6, .int n0_7, .int n0_8, .int n0_9, .int n0_10, .long l0_11, .int n0_12, .int n0_13, .int n0_14, .int n0_15, .ref a6, .ref a7, .ref a8, .ref a9, .ref a10, .ref a11, .ref a12, .ref a13, .int n0_24, .int n0_25, .int n0_26, .int n0_27, .ref a14, .int n0_29, .int n0_30])), (a1, .inl (ct 0, 4, .inl f1)), (a2, .inl (ct 0, 4, .inl f2)), (a3, .inl (ct 3, 240, .inr (.inl f3))), (a6, .inl (ct 0, 5, .inl f6)), (a7, .inl (ct 0, 15, .inl f7)), (a8, .inl (ct 0, 200, .inl f8))])) 0 0 (aset [(a0, .inr (11, [.int n0_0, .ref a1, .ref a2, .ref a3, .ref a4, .ref a5, .int n0_6, .int n0_7, .int n0_8, .int n0_9, .int n0_10, .long l0_11, .int n0_12, .int n0_13, .int n0_14, .int n0_15, .ref a6, .ref a7, .ref a8, .ref a9, .ref a10, .ref a11, .ref a12, .ref a13, .int n0_24, .int n0_25, .int n0_26, .int n0_27, .ref a14, .int n0_29, .int n0_30])), (a1, .inl (ct 0, 4, .inl f1)), (a2, .inl (ct 0, 4, .inl f2)), (a3, .inl (ct 3, 240, .inr (.inl f3))), (a6, .inl (ct 0, 5, .inl f6)), (a7, .inl (ct 0, 15, .inl f7)), (a8, .inl (ct 0, 200, .inl f8))]) := by
  refine Met.ofW (cc := cX11_suspects) (maxL := 3) (ret := (some .int)) (by decide) rfl ?_
  intro p e s m args below meth c s₁ B hml hv
  obtain ⟨rfl, hP, hK, hD0⟩ := hv
  have hx := B.exec
  have hb := B.bytes
  have hr := B.returns
  have hts := atoms_spec (ws := wsX11_suspects) B.pre
  have hown : s.vm.findClass RX11 = some m.cls := findClass_of_methodNamed B.named
  have hlocks := B.notSynchronized
  have hD := hD0.aself
  generalize hAe : aset [(a0, .inr (11, [.int n0_0, .ref a1, .ref a2, .ref a3, .ref a4, .ref a5, .int n0_6, .int n0_7, .int n0_8, .int n0_9, .int n0_10, .long l0_11, .int n0_12, .int n0_13, .int n0_14, .int n0_15, .ref a6, .ref a7, .ref a8, .ref a9, .ref a10, .ref a11, .ref a12, .ref a13, .int n0_24, .int n0_25, .int n0_26, .int n0_27, .ref a14, .int n0_29, .int n0_30])), (a1, .inl (ct 0, 4, .inl f1)), (a2, .inl (ct 0, 4, .inl f2)), (a3, .inl (ct 3, 240, .inr (.inl f3))), (a6, .inl (ct 0, 5, .inl f6)), (a7, .inl (ct 0, 15, .inl f7)), (a8, .inl (ct 0, 200, .inl f8))] = A at hD ⊢
  have hS : va_S A s.heap s.heap [] := va_S.rf
  have hl := lv_entry ([.ref a0, .int p0]) (n := 3) (Nat.le_of_ble_eq_true rfl)
  rw [lg_entry_eq]
  generalize (lg_sl ([.ref a0, .int p0]) ++ List.replicate (3 - (lg_sl ([.ref a0, .int p0])).length) Slot.unset).toArray = ls at hl ⊢
  have hl : lv_has ls 3 [(0, .ref a0), (1, .int p0)] := hl
  refine lv_aload_n hx hb dX11_suspects_0 rfl (lv_at hl 0 rfl) ?_
  refine lv_iconst (v := 0) hx hb dX11_suspects_1 (by decide) ?_
  refine va_put (D := G) (ci := 11) (v := .int 0) (ty := .int) (C := RX11) (T := TX11) (N := 31) hx hb hts (by decide +kernel) tyX11 tyX11_ok nmX11 hown hK.1 hP hD hS 0 rfl rfl 0 (by decide) (hts (.fieldLink RX11 59 "CardHolderModel" "thrown" "I") (by decide +kernel)) (fun _ h9 => h9) rfl (by decide +kernel) rfl rfl (Nat.le_of_ble_eq_true rfl) dX11_suspects_2 (fun H locs hP hD hS => ?_)
  refine lv_aload_n hx hb dX11_suspects_5 rfl (lv_at hl 0 rfl) ?_
  refine lv_iload_n hx hb dX11_suspects_6 rfl (lv_at hl 1 rfl) ?_
  refine ro_calli (va_runV (As := [.int p0]) (rest := []) ⟨hx, hb, hml, hown, hts⟩ (a_X11_whyNot l G ct a0 (0 : Int32) a1 a2 a3 a4 a5 n0_6 n0_7 n0_8 n0_9 n0_10 l0_11 n0_12 n0_13 n0_14 n0_15 a6 a7 a8 a9 a10 a11 a12 a13 n0_24 n0_25 n0_26 n0_27 a14 n0_29 n0_30 f1 f2 f3 f6 p0 hp_f2 hp_n0_6) (cwV 1 hts gX11_suspects_X11_whyNot rfl rfl rfl (by decide +kernel) ⟨Nat.le_of_ble_eq_true rfl, Nat.le_of_ble_eq_true rfl⟩) (ro_preV 11 0 hK (hP.sub [0, 1, 2, 3, 4] rfl) rfl rfl) rfl rfl hl.1 rfl (lv_room (Nat.le_of_ble_eq_true rfl)) dX11_suspects_7 ⟨Nat.zero_le _, Nat.zero_le _⟩) hS hP (fun r7 H locs wr7 hP hS => ?_)
  obtain ⟨p_1, p_2, p_3, -⟩ := wr7
  refine lv_istore_n (lv' := [(2, .int r7), (0, .ref a0), (1, .int p0)]) hx hb dX11_suspects_10 rfl hl (by decide) rfl (fun ls hl => ?_)
  refine lv_iload_n hx hb dX11_suspects_11 rfl (lv_at hl 0 rfl) ?_
  refine lv_if_eq (tgt := 19) hx hb dX11_suspects_12 (by decide) (fun c12 => ?_) (fun c12 => ?_)
  · have h_4 : rg 0 0 r7 := r_eq_l_i (e := 0) (f := 0) c12 p_1 (rgn 0 (x := 0) (by decide)) (by decide)
    have h_5 : rg 0 3 p0 := (p_2 (req h_4 (y := 0) (by decide)))
    refine lv_aload_n hx hb dX11_suspects_19 rfl (lv_at hl 1 rfl) ?_
    refine lv_aload_n hx hb dX11_suspects_20 rfl (lv_at hl 1 rfl) ?_
    refine lv_iload_n hx hb dX11_suspects_21 rfl (lv_at hl 2 rfl) ?_
    refine ro_calli (va_runV (As := [.int p0]) (rest := [.ref a0]) ⟨hx, hb, hml, hown, hts⟩ (a_X11_rowOf l G ct a0 (0 : Int32) a1 a2 a3 a4 a5 n0_6 n0_7 n0_8 n0_9 n0_10 l0_11 n0_12 n0_13 n0_14 n0_15 a6 a7 a8 a9 a10 a11 a12 a13 n0_24 n0_25 n0_26 n0_27 a14 n0_29 n0_30 f2 f3 p0 hp_f2 hp_n0_6 h_5) (cwV 1 hts gX11_suspects_X11_rowOf rfl rfl rfl (by decide +kernel) ⟨Nat.le_of_ble_eq_true rfl, Nat.le_of_ble_eq_true rfl⟩) (ro_preV 11 0 hK (hP.sub [0, 2, 3] rfl) rfl rfl) rfl rfl hl.1 rfl (lv_room (Nat.le_of_ble_eq_true rfl)) dX11_suspects_22 ⟨Nat.zero_le _, Nat.zero_le _⟩) hS hP (fun r22 H locs wr22 hP hS => ?_)
    refine ro_calli (va_runV (As := [.int r22]) (rest := []) ⟨hx, hb, hml, hown, hts⟩ (a_X11_wishing l G ct a0 (0 : Int32) a1 a2 a3 a4 a5 n0_6 n0_7 n0_8 n0_9 n0_10 l0_11 n0_12 n0_13 n0_14 n0_15 a6 a7 a8 a9 a10 a11 a12 a13 n0_24 n0_25 n0_26 n0_27 a14 n0_29 n0_30 f7 f8 r22 hp_n0_6 hp_f7 hp_f8) (cwV 1 hts gX11_suspects_X11_wishing rfl rfl rfl (by decide +kernel) ⟨Nat.le_of_ble_eq_true rfl, Nat.le_of_ble_eq_true rfl⟩) (ro_preV 11 0 hK (hP.sub [0, 5, 6] rfl) rfl rfl) rfl rfl hl.1 rfl (lv_room (Nat.le_of_ble_eq_true rfl)) dX11_suspects_25 ⟨Nat.zero_le _, Nat.zero_le _⟩) hS hP (fun r25 H locs wr25 hP hS => ?_)
    obtain ⟨p_6, -⟩ := wr25
    exact W.iret (v := r25) hx hb hr (fun t ht hW => ⟨⟨r25, (fun k => ([0] : List Int32).getD k 0, fun k => ([] : List (Nat → Int32)).getD k (fun _ => 0), fun k => ([] : List (Nat → Int64)).getD k (fun _ => 0)), rfl, ⟨(rg_w (c := (-6)) (d := 255) p_6 (by decide)), (fun _ => h_5), (fun _ => h_5), (rgn 0 (x := 0) (by decide)), trivial⟩, hp_at ht hP⟩, hS.F ht⟩) hS.2.2 dX11_suspects_28
  · have h_7 : rg (-6) (-1) r7 := r_ne_hi_i c12 p_1 (by decide) (by decide)
    refine lv_iload_n hx hb dX11_suspects_15 rfl (lv_at hl 0 rfl) ?_
    refine lv_goto (tgt := 28) hx hb dX11_suspects_16 (by decide) ?_
    exact W.iret (v := r7) hx hb hr (fun t ht hW => ⟨⟨r7, (fun k => ([0] : List Int32).getD k 0, fun k => ([] : List (Nat → Int32)).getD k (fun _ => 0), fun k => ([] : List (Nat → Int64)).getD k (fun _ => 0)), rfl, ⟨(rg_w (c := (-6)) (d := 255) h_7 (by decide)), (fun hq => rg_w (p_2 hq) (by decide)), (fun hq => rg_w (p_3 hq) (by decide)), (rgn 0 (x := 0) (by decide)), trivial⟩, hp_at ht hP⟩, hS.F ht⟩) hS.2.2 dX11_suspects_28

set_option maxHeartbeats 4000000 in
set_option maxRecDepth 100000 in
theorem a_X11_watch (l : Launch) (G : va_G) (ct : Nat → ClassId) (a0 : Nat) (n0_0 : Int32) (a1 : Nat) (a2 : Nat) (a3 : Nat) (a4 : Nat) (a5 : Nat) (n0_6 : Int32) (n0_7 : Int32) (n0_8 : Int32) (n0_9 : Int32) (n0_10 : Int32) (l0_11 : Int64) (n0_12 : Int32) (n0_13 : Int32) (n0_14 : Int32) (n0_15 : Int32) (a6 : Nat) (a7 : Nat) (a8 : Nat) (a9 : Nat) (a10 : Nat) (a11 : Nat) (a12 : Nat) (a13 : Nat) (n0_24 : Int32) (n0_25 : Int32) (n0_26 : Int32) (n0_27 : Int32) (a14 : Nat) (n0_29 : Int32) (n0_30 : Int32) (f1 : Nat → Int32) (f2 : Nat → Int32) (f3 : Nat → Int64) (f6 : Nat → Int32) (f7 : Nat → Int32) (f8 : Nat → Int32) (p0 : Int32) (hp_f2 : ar 0 60 f2) (hp_n0_6 : rg 0 900 n0_6) (hp_f7 : hsI f7) (hp_f8 : psI f8) : Met l yX11_watch wsX11_watch ({ frames := 3, cells := 0, slots := 0, locals := 71 }) (va_Pc [.ref a0, .int p0] (wrP G ct [(a0, .inr (11, [.int n0_0, .ref a1, .ref a2, .ref a3, .ref a4, .ref a5, .int n0_6, .int n0_7, .int n0_8, .int n0_9, .int n0_10, .long l0_11, .int n0_12, .int n0_13, .int n0_14, .int n0_15, .ref a6, .ref a7, .ref a8, .ref a9, .ref a10, .ref a11, .ref a12, .ref a13, .int n0_24, .int n0_25, .int n0_26, .int n0_27, .ref a14, .int n0_29, .int n0_30])), (a1, .inl (ct 0, 4, .inl f1)), (a2, .inl (ct 0, 4, .inl f2)), (a3, .inl (ct 3, 240, .inr (.inl f3))), (a6, .inl (ct 0, 5, .inl f6)), (a7, .inl (ct 0, 15, .inl f7)), (a8, .inl (ct 0, 200, .inl f8))])) (va_Qi (fun (r : Int32) (u : SU) => rg (-6) 5 r ∧ (r = 0 → rg 0 3 p0) ∧ (¬ r = (-2) → rg 0 3 p0) ∧ rg 0 0 (u.1 0) ∧ True) (fun u t => va_P G vwCl ((fun u : SU => [(a0, .inr (11, [.int (u.1 0), .ref a1, .ref a2, .ref a3, .ref a4, .ref a5, .int n0_6, .int n0_7, .int n0_8, .int n0_9, .int n0_10, .long l0_11, .int n0_12, .int n0_13, .int n0_14, .int n0_15, .ref a6, .ref a7, .ref a8, .ref a9, .ref a10, .ref a11, .ref a12, .ref a13, .int n0_24, .int n0_25, .int n0_26, .int n0_27, .ref a14, .int (u.1 1), .int (u.1 2)])), (a1, .inl (ct 0, 4, .inl f1)), (a2, .inl (ct 0, 4, .inl f2)), (a3, .inl (ct 3, 240, .inr (.inl f3))), (a6, .inl (ct 0, 5, .inl f6)), (a7, .inl (ct 0, 15, .inl f7)), (a8, .inl (ct 0, 200, .inl f8))]) u) t.heap) (aset [(a0, .inr (11, [.int n0_0, .ref a1, .ref a2, .ref a3, .ref a4, .ref a5, .int n0_6, .int n0_7, .int n0_8, .int n0_9, .int n0_10, .long l0_11, .int n0_12, .int n0_13, .int n0_14, .int n0_15, .ref a6, .ref a7, .ref a8, .ref a9, .ref a10, .ref a11, .ref a12, .ref a13, .int n0_24, .int n0_25, .int n0_26, .int n0_27, .ref a14, .int n0_29, .int n0_30])), (a1, .inl (ct 0, 4, .inl f1)), (a2, .inl (ct 0, 4, .inl f2)), (a3, .inl (ct 3, 240, .inr (.inl f3))), (a6, .inl (ct 0, 5, .inl f6)), (a7, .inl (ct 0, 15, .inl f7)), (a8, .inl (ct 0, 200, .inl f8))])) 0 0 (aset [(a0, .inr (11, [.int n0_0, .ref a1, .ref a2, .ref a3, .ref a4, .ref a5, .int n0_6, .int n0_7, .int n0_8, .int n0_9, .int n0_10, .long l0_11, .int n0_12, .int n0_13, .int n0_14, .int n0_15, .ref a6, .ref a7, .ref a8, .ref a9, .ref a10, .ref a11, .ref a12, .ref a13, .int n0_24, .int n0_25, .int n0_26, .int n0_27, .ref a14, .int n0_29, .int n0_30])), (a1, .inl (ct 0, 4, .inl f1)), (a2, .inl (ct 0, 4, .inl f2)), (a3, .inl (ct 3, 240, .inr (.inl f3))), (a6, .inl (ct 0, 5, .inl f6)), (a7, .inl (ct 0, 15, .inl f7)), (a8, .inl (ct 0, 200, .inl f8))]) := by
  refine Met.ofW (cc := cX11_watch) (maxL := 3) (ret := (some .int)) (by decide) rfl ?_
  intro p e s m args below meth c s₁ B hml hv
  obtain ⟨rfl, hP, hK, hD0⟩ := hv
  have hx := B.exec
  have hb := B.bytes
  have hr := B.returns
  have hts := atoms_spec (ws := wsX11_watch) B.pre
  have hown : s.vm.findClass RX11 = some m.cls := findClass_of_methodNamed B.named
  have hlocks := B.notSynchronized
  have hD := hD0.aself
  generalize hAe : aset [(a0, .inr (11, [.int n0_0, .ref a1, .ref a2, .ref a3, .ref a4, .ref a5, .int n0_6, .int n0_7, .int n0_8, .int n0_9, .int n0_10, .long l0_11, .int n0_12, .int n0_13, .int n0_14, .int n0_15, .ref a6, .ref a7, .ref a8, .ref a9, .ref a10, .ref a11, .ref a12, .ref a13, .int n0_24, .int n0_25, .int n0_26, .int n0_27, .ref a14, .int n0_29, .int n0_30])), (a1, .inl (ct 0, 4, .inl f1)), (a2, .inl (ct 0, 4, .inl f2)), (a3, .inl (ct 3, 240, .inr (.inl f3))), (a6, .inl (ct 0, 5, .inl f6)), (a7, .inl (ct 0, 15, .inl f7)), (a8, .inl (ct 0, 200, .inl f8))] = A at hD ⊢
  have hS : va_S A s.heap s.heap [] := va_S.rf
  have hl := lv_entry ([.ref a0, .int p0]) (n := 3) (Nat.le_of_ble_eq_true rfl)
  rw [lg_entry_eq]
  generalize (lg_sl ([.ref a0, .int p0]) ++ List.replicate (3 - (lg_sl ([.ref a0, .int p0])).length) Slot.unset).toArray = ls at hl ⊢
  have hl : lv_has ls 3 [(0, .ref a0), (1, .int p0)] := hl
  refine lv_aload_n hx hb dX11_watch_0 rfl (lv_at hl 0 rfl) ?_
  refine lv_iconst (v := 0) hx hb dX11_watch_1 (by decide) ?_
  refine va_put (D := G) (ci := 11) (v := .int 0) (ty := .int) (C := RX11) (T := TX11) (N := 31) hx hb hts (by decide +kernel) tyX11 tyX11_ok nmX11 hown hK.1 hP hD hS 0 rfl rfl 0 (by decide) (hts (.fieldLink RX11 59 "CardHolderModel" "thrown" "I") (by decide +kernel)) (fun _ h9 => h9) rfl (by decide +kernel) rfl rfl (Nat.le_of_ble_eq_true rfl) dX11_watch_2 (fun H locs hP hD hS => ?_)
  refine lv_aload_n hx hb dX11_watch_5 rfl (lv_at hl 0 rfl) ?_
  refine lv_iload_n hx hb dX11_watch_6 rfl (lv_at hl 1 rfl) ?_
  refine ro_calli (va_runV (As := [.int p0]) (rest := []) ⟨hx, hb, hml, hown, hts⟩ (a_X11_whyNot l G ct a0 (0 : Int32) a1 a2 a3 a4 a5 n0_6 n0_7 n0_8 n0_9 n0_10 l0_11 n0_12 n0_13 n0_14 n0_15 a6 a7 a8 a9 a10 a11 a12 a13 n0_24 n0_25 n0_26 n0_27 a14 n0_29 n0_30 f1 f2 f3 f6 p0 hp_f2 hp_n0_6) (cwV 1 hts gX11_watch_X11_whyNot rfl rfl rfl (by decide +kernel) ⟨Nat.le_of_ble_eq_true rfl, Nat.le_of_ble_eq_true rfl⟩) (ro_preV 11 0 hK (hP.sub [0, 1, 2, 3, 4] rfl) rfl rfl) rfl rfl hl.1 rfl (lv_room (Nat.le_of_ble_eq_true rfl)) dX11_watch_7 ⟨Nat.zero_le _, Nat.zero_le _⟩) hS hP (fun r7 H locs wr7 hP hS => ?_)
  obtain ⟨p_1, p_2, p_3, -⟩ := wr7
  refine lv_istore_n (lv' := [(2, .int r7), (0, .ref a0), (1, .int p0)]) hx hb dX11_watch_10 rfl hl (by decide) rfl (fun ls hl => ?_)
  refine lv_iload_n hx hb dX11_watch_11 rfl (lv_at hl 0 rfl) ?_
  refine lv_if_eq (tgt := 17) hx hb dX11_watch_12 (by decide) (fun c12 => ?_) (fun c12 => ?_)
  · have h_4 : rg 0 0 r7 := r_eq_l_i (e := 0) (f := 0) c12 p_1 (rgn 0 (x := 0) (by decide)) (by decide)
    have h_5 : rg 0 3 p0 := (p_2 (req h_4 (y := 0) (by decide)))
    refine lv_aload_n hx hb dX11_watch_17 rfl (lv_at hl 1 rfl) ?_
    refine lv_iload_n hx hb dX11_watch_18 rfl (lv_at hl 2 rfl) ?_
    refine wj_callv (wr := [(a1, .inl (ct 0, 4, .inl f1)), (a6, .inl (ct 0, 5, .inl f6))]) (w1 := (fun u : SU => [(a0, .inr (11, [.int 0, .ref a1, .ref a2, .ref a3, .ref a4, .ref a5, .int n0_6, .int n0_7, .int n0_8, .int n0_9, .int n0_10, .long l0_11, .int n0_12, .int n0_13, .int n0_14, .int n0_15, .ref a6, .ref a7, .ref a8, .ref a9, .ref a10, .ref a11, .ref a12, .ref a13, .int n0_24, .int n0_25, .int n0_26, .int n0_27, .ref a14, .int (u.1 0), .int (u.1 1)])), (a2, .inl (ct 0, 4, .inl f2)), (a3, .inl (ct 3, 240, .inr (.inl f3))), (a7, .inl (ct 0, 15, .inl f7)), (a8, .inl (ct 0, 200, .inl f8))])) (va_runV (As := [.int p0]) (rest := []) ⟨hx, hb, hml, hown, hts⟩ (a_X11_laysWatch l G ct a0 (0 : Int32) a1 a2 a3 a4 a5 n0_6 n0_7 n0_8 n0_9 n0_10 l0_11 n0_12 n0_13 n0_14 n0_15 a6 a7 a8 a9 a10 a11 a12 a13 n0_24 n0_25 n0_26 n0_27 a14 n0_29 n0_30 f2 f3 f7 f8 p0 hp_f2 hp_n0_6 hp_f7 hp_f8 h_5) (cwV 1 hts gX11_watch_X11_laysWatch rfl rfl rfl (by decide +kernel) ⟨Nat.le_of_ble_eq_true rfl, Nat.le_of_ble_eq_true rfl⟩) (wr_preV 11 0 hK (hP.sub [0, 2, 3, 5, 6] rfl) (hD.sub [0, 2, 3, 5, 6] (by decide) rfl) rfl rfl) rfl rfl hl.1 rfl (lv_room (Nat.le_of_ble_eq_true rfl)) dX11_watch_19 ⟨Nat.zero_le _, Nat.zero_le _⟩) hS hP hD [0, 2, 3, 5, 6] [1, 4] rfl rfl (by decide) (fun _ => rfl) (fun ur19 H locs wr19 hP hD hS => ?_)
    have hP : va_P G vwCl [(a0, .inr (11, [.int 0, .ref a1, .ref a2, .ref a3, .ref a4, .ref a5, .int n0_6, .int n0_7, .int n0_8, .int n0_9, .int n0_10, .long l0_11, .int n0_12, .int n0_13, .int n0_14, .int n0_15, .ref a6, .ref a7, .ref a8, .ref a9, .ref a10, .ref a11, .ref a12, .ref a13, .int n0_24, .int n0_25, .int n0_26, .int n0_27, .ref a14, .int (ur19.1 0), .int (ur19.1 1)])), (a1, .inl (ct 0, 4, .inl f1)), (a2, .inl (ct 0, 4, .inl f2)), (a3, .inl (ct 3, 240, .inr (.inl f3))), (a6, .inl (ct 0, 5, .inl f6)), (a7, .inl (ct 0, 15, .inl f7)), (a8, .inl (ct 0, 200, .inl f8))] H := hP.sub [2, 0, 3, 4, 1, 5, 6] rfl
    have hD : va_D A [(a0, .inr (11, [.int 0, .ref a1, .ref a2, .ref a3, .ref a4, .ref a5, .int n0_6, .int n0_7, .int n0_8, .int n0_9, .int n0_10, .long l0_11, .int n0_12, .int n0_13, .int n0_14, .int n0_15, .ref a6, .ref a7, .ref a8, .ref a9, .ref a10, .ref a11, .ref a12, .ref a13, .int n0_24, .int n0_25, .int n0_26, .int n0_27, .ref a14, .int (ur19.1 0), .int (ur19.1 1)])), (a1, .inl (ct 0, 4, .inl f1)), (a2, .inl (ct 0, 4, .inl f2)), (a3, .inl (ct 3, 240, .inr (.inl f3))), (a6, .inl (ct 0, 5, .inl f6)), (a7, .inl (ct 0, 15, .inl f7)), (a8, .inl (ct 0, 200, .inl f8))] := hD.sub [2, 0, 3, 4, 1, 5, 6] (by decide) rfl
    obtain ⟨p_6, -⟩ := wr19
    refine lv_aload_n hx hb dX11_watch_22 rfl (lv_at hl 1 rfl) ?_
    refine va_get (D := G) (ci := 11) (v := .int (ur19.1 0)) (C := RX11) (T := TX11) (N := 31) hx hb hts (by decide +kernel) hown hK.1 hP 0 rfl rfl 29 (by decide) (hts (.fieldLink RX11 343 "CardHolderModel" "watchBest" "I") (by decide +kernel)) (fun _ h9 => h9) rfl dX11_watch_23 ?_
    exact W.iret (v := ur19.1 0) hx hb hr (fun t ht hW => ⟨⟨ur19.1 0, (fun k => ([0, ur19.1 0, ur19.1 1] : List Int32).getD k 0, fun k => ([] : List (Nat → Int32)).getD k (fun _ => 0), fun k => ([] : List (Nat → Int64)).getD k (fun _ => 0)), rfl, ⟨(rg_w (c := (-6)) (d := 5) p_6 (by decide)), (fun _ => h_5), (fun _ => h_5), (rgn 0 (x := 0) (by decide)), trivial⟩, hp_at ht hP⟩, hS.F ht⟩) hS.2.2 dX11_watch_26
  · have h_7 : rg (-6) (-1) r7 := r_ne_hi_i c12 p_1 (by decide) (by decide)
    refine lv_iload_n hx hb dX11_watch_15 rfl (lv_at hl 0 rfl) ?_
    exact W.iret (v := r7) hx hb hr (fun t ht hW => ⟨⟨r7, (fun k => ([0, n0_29, n0_30] : List Int32).getD k 0, fun k => ([] : List (Nat → Int32)).getD k (fun _ => 0), fun k => ([] : List (Nat → Int64)).getD k (fun _ => 0)), rfl, ⟨(rg_w (c := (-6)) (d := 5) h_7 (by decide)), (fun hq => rg_w (p_2 hq) (by decide)), (fun hq => rg_w (p_3 hq) (by decide)), (rgn 0 (x := 0) (by decide)), trivial⟩, hp_at ht hP⟩, hS.F ht⟩) hS.2.2 dX11_watch_16

set_option maxHeartbeats 4000000 in
set_option maxRecDepth 100000 in
theorem a_X11_leaves (l : Launch) (G : va_G) (ct : Nat → ClassId) (a0 : Nat) (n0_0 : Int32) (a1 : Nat) (a2 : Nat) (a3 : Nat) (a4 : Nat) (a5 : Nat) (n0_6 : Int32) (n0_7 : Int32) (n0_8 : Int32) (n0_9 : Int32) (n0_10 : Int32) (l0_11 : Int64) (n0_12 : Int32) (n0_13 : Int32) (n0_14 : Int32) (n0_15 : Int32) (a6 : Nat) (a7 : Nat) (a8 : Nat) (a9 : Nat) (a10 : Nat) (a11 : Nat) (a12 : Nat) (a13 : Nat) (n0_24 : Int32) (n0_25 : Int32) (n0_26 : Int32) (n0_27 : Int32) (a14 : Nat) (n0_29 : Int32) (n0_30 : Int32) (f1 : Nat → Int32) (f2 : Nat → Int32) (f3 : Nat → Int64) (f6 : Nat → Int32) (f7 : Nat → Int32) (f8 : Nat → Int32) (p0 : Int32) (hp_f2 : ar 0 60 f2) (hp_n0_6 : rg 0 900 n0_6) (hp_f7 : hsI f7) (hp_f8 : psI f8) : Met l yX11_leaves wsX11_leaves ({ frames := 3, cells := 0, slots := 0, locals := 71 }) (va_Pc [.ref a0, .int p0] (wrP G ct [(a0, .inr (11, [.int n0_0, .ref a1, .ref a2, .ref a3, .ref a4, .ref a5, .int n0_6, .int n0_7, .int n0_8, .int n0_9, .int n0_10, .long l0_11, .int n0_12, .int n0_13, .int n0_14, .int n0_15, .ref a6, .ref a7, .ref a8, .ref a9, .ref a10, .ref a11, .ref a12, .ref a13, .int n0_24, .int n0_25, .int n0_26, .int n0_27, .ref a14, .int n0_29, .int n0_30])), (a1, .inl (ct 0, 4, .inl f1)), (a2, .inl (ct 0, 4, .inl f2)), (a3, .inl (ct 3, 240, .inr (.inl f3))), (a6, .inl (ct 0, 5, .inl f6)), (a7, .inl (ct 0, 15, .inl f7)), (a8, .inl (ct 0, 200, .inl f8))])) (va_Qi (fun (r : Int32) (u : SU) => (r = 0 → rg 0 3 p0) ∧ (¬ r = (-2) → rg 0 3 p0) ∧ rg 0 0 (u.1 0) ∧ True) (fun u t => va_P G vwCl ((fun u : SU => [(a0, .inr (11, [.int (u.1 0), .ref a1, .ref a2, .ref a3, .ref a4, .ref a5, .int n0_6, .int n0_7, .int n0_8, .int n0_9, .int n0_10, .long l0_11, .int n0_12, .int n0_13, .int n0_14, .int n0_15, .ref a6, .ref a7, .ref a8, .ref a9, .ref a10, .ref a11, .ref a12, .ref a13, .int n0_24, .int n0_25, .int n0_26, .int n0_27, .ref a14, .int (u.1 1), .int (u.1 2)])), (a1, .inl (ct 0, 4, .inl f1)), (a2, .inl (ct 0, 4, .inl f2)), (a3, .inl (ct 3, 240, .inr (.inl f3))), (a6, .inl (ct 0, 5, .inl f6)), (a7, .inl (ct 0, 15, .inl f7)), (a8, .inl (ct 0, 200, .inl f8))]) u) t.heap) (aset [(a0, .inr (11, [.int n0_0, .ref a1, .ref a2, .ref a3, .ref a4, .ref a5, .int n0_6, .int n0_7, .int n0_8, .int n0_9, .int n0_10, .long l0_11, .int n0_12, .int n0_13, .int n0_14, .int n0_15, .ref a6, .ref a7, .ref a8, .ref a9, .ref a10, .ref a11, .ref a12, .ref a13, .int n0_24, .int n0_25, .int n0_26, .int n0_27, .ref a14, .int n0_29, .int n0_30])), (a1, .inl (ct 0, 4, .inl f1)), (a2, .inl (ct 0, 4, .inl f2)), (a3, .inl (ct 3, 240, .inr (.inl f3))), (a6, .inl (ct 0, 5, .inl f6)), (a7, .inl (ct 0, 15, .inl f7)), (a8, .inl (ct 0, 200, .inl f8))])) 0 0 (aset [(a0, .inr (11, [.int n0_0, .ref a1, .ref a2, .ref a3, .ref a4, .ref a5, .int n0_6, .int n0_7, .int n0_8, .int n0_9, .int n0_10, .long l0_11, .int n0_12, .int n0_13, .int n0_14, .int n0_15, .ref a6, .ref a7, .ref a8, .ref a9, .ref a10, .ref a11, .ref a12, .ref a13, .int n0_24, .int n0_25, .int n0_26, .int n0_27, .ref a14, .int n0_29, .int n0_30])), (a1, .inl (ct 0, 4, .inl f1)), (a2, .inl (ct 0, 4, .inl f2)), (a3, .inl (ct 3, 240, .inr (.inl f3))), (a6, .inl (ct 0, 5, .inl f6)), (a7, .inl (ct 0, 15, .inl f7)), (a8, .inl (ct 0, 200, .inl f8))]) := by
  refine Met.ofW (cc := cX11_leaves) (maxL := 3) (ret := (some .int)) (by decide) rfl ?_
  intro p e s m args below meth c s₁ B hml hv
  obtain ⟨rfl, hP, hK, hD0⟩ := hv
  have hx := B.exec
  have hb := B.bytes
  have hr := B.returns
  have hts := atoms_spec (ws := wsX11_leaves) B.pre
  have hown : s.vm.findClass RX11 = some m.cls := findClass_of_methodNamed B.named
  have hlocks := B.notSynchronized
  have hD := hD0.aself
  generalize hAe : aset [(a0, .inr (11, [.int n0_0, .ref a1, .ref a2, .ref a3, .ref a4, .ref a5, .int n0_6, .int n0_7, .int n0_8, .int n0_9, .int n0_10, .long l0_11, .int n0_12, .int n0_13, .int n0_14, .int n0_15, .ref a6, .ref a7, .ref a8, .ref a9, .ref a10, .ref a11, .ref a12, .ref a13, .int n0_24, .int n0_25, .int n0_26, .int n0_27, .ref a14, .int n0_29, .int n0_30])), (a1, .inl (ct 0, 4, .inl f1)), (a2, .inl (ct 0, 4, .inl f2)), (a3, .inl (ct 3, 240, .inr (.inl f3))), (a6, .inl (ct 0, 5, .inl f6)), (a7, .inl (ct 0, 15, .inl f7)), (a8, .inl (ct 0, 200, .inl f8))] = A at hD ⊢
  have hS : va_S A s.heap s.heap [] := va_S.rf
  have hl := lv_entry ([.ref a0, .int p0]) (n := 3) (Nat.le_of_ble_eq_true rfl)
  rw [lg_entry_eq]
  generalize (lg_sl ([.ref a0, .int p0]) ++ List.replicate (3 - (lg_sl ([.ref a0, .int p0])).length) Slot.unset).toArray = ls at hl ⊢
  have hl : lv_has ls 3 [(0, .ref a0), (1, .int p0)] := hl
  refine lv_aload_n hx hb dX11_leaves_0 rfl (lv_at hl 0 rfl) ?_
  refine lv_iconst (v := 0) hx hb dX11_leaves_1 (by decide) ?_
  refine va_put (D := G) (ci := 11) (v := .int 0) (ty := .int) (C := RX11) (T := TX11) (N := 31) hx hb hts (by decide +kernel) tyX11 tyX11_ok nmX11 hown hK.1 hP hD hS 0 rfl rfl 0 (by decide) (hts (.fieldLink RX11 59 "CardHolderModel" "thrown" "I") (by decide +kernel)) (fun _ h9 => h9) rfl (by decide +kernel) rfl rfl (Nat.le_of_ble_eq_true rfl) dX11_leaves_2 (fun H locs hP hD hS => ?_)
  refine lv_aload_n hx hb dX11_leaves_5 rfl (lv_at hl 0 rfl) ?_
  refine lv_iload_n hx hb dX11_leaves_6 rfl (lv_at hl 1 rfl) ?_
  refine ro_calli (va_runV (As := [.int p0]) (rest := []) ⟨hx, hb, hml, hown, hts⟩ (a_X11_whyNot l G ct a0 (0 : Int32) a1 a2 a3 a4 a5 n0_6 n0_7 n0_8 n0_9 n0_10 l0_11 n0_12 n0_13 n0_14 n0_15 a6 a7 a8 a9 a10 a11 a12 a13 n0_24 n0_25 n0_26 n0_27 a14 n0_29 n0_30 f1 f2 f3 f6 p0 hp_f2 hp_n0_6) (cwV 1 hts gX11_leaves_X11_whyNot rfl rfl rfl (by decide +kernel) ⟨Nat.le_of_ble_eq_true rfl, Nat.le_of_ble_eq_true rfl⟩) (ro_preV 11 0 hK (hP.sub [0, 1, 2, 3, 4] rfl) rfl rfl) rfl rfl hl.1 rfl (lv_room (Nat.le_of_ble_eq_true rfl)) dX11_leaves_7 ⟨Nat.zero_le _, Nat.zero_le _⟩) hS hP (fun r7 H locs wr7 hP hS => ?_)
  obtain ⟨p_1, p_2, p_3, -⟩ := wr7
  refine lv_istore_n (lv' := [(2, .int r7), (0, .ref a0), (1, .int p0)]) hx hb dX11_leaves_10 rfl hl (by decide) rfl (fun ls hl => ?_)
  refine lv_iload_n hx hb dX11_leaves_11 rfl (lv_at hl 0 rfl) ?_
  refine lv_if_eq (tgt := 17) hx hb dX11_leaves_12 (by decide) (fun c12 => ?_) (fun c12 => ?_)
  · have h_4 : rg 0 0 r7 := r_eq_l_i (e := 0) (f := 0) c12 p_1 (rgn 0 (x := 0) (by decide)) (by decide)
    have h_5 : rg 0 3 p0 := (p_2 (req h_4 (y := 0) (by decide)))
    refine lv_aload_n hx hb dX11_leaves_17 rfl (lv_at hl 1 rfl) ?_
    refine lv_iload_n hx hb dX11_leaves_18 rfl (lv_at hl 2 rfl) ?_
    refine wj_callv (wr := [(a1, .inl (ct 0, 4, .inl f1)), (a6, .inl (ct 0, 5, .inl f6))]) (w1 := (fun u : SU => [(a0, .inr (11, [.int 0, .ref a1, .ref a2, .ref a3, .ref a4, .ref a5, .int n0_6, .int n0_7, .int n0_8, .int n0_9, .int n0_10, .long l0_11, .int n0_12, .int n0_13, .int n0_14, .int n0_15, .ref a6, .ref a7, .ref a8, .ref a9, .ref a10, .ref a11, .ref a12, .ref a13, .int n0_24, .int n0_25, .int n0_26, .int n0_27, .ref a14, .int (u.1 0), .int (u.1 1)])), (a2, .inl (ct 0, 4, .inl f2)), (a3, .inl (ct 3, 240, .inr (.inl f3))), (a7, .inl (ct 0, 15, .inl f7)), (a8, .inl (ct 0, 200, .inl f8))])) (va_runV (As := [.int p0]) (rest := []) ⟨hx, hb, hml, hown, hts⟩ (a_X11_laysWatch l G ct a0 (0 : Int32) a1 a2 a3 a4 a5 n0_6 n0_7 n0_8 n0_9 n0_10 l0_11 n0_12 n0_13 n0_14 n0_15 a6 a7 a8 a9 a10 a11 a12 a13 n0_24 n0_25 n0_26 n0_27 a14 n0_29 n0_30 f2 f3 f7 f8 p0 hp_f2 hp_n0_6 hp_f7 hp_f8 h_5) (cwV 1 hts gX11_leaves_X11_laysWatch rfl rfl rfl (by decide +kernel) ⟨Nat.le_of_ble_eq_true rfl, Nat.le_of_ble_eq_true rfl⟩) (wr_preV 11 0 hK (hP.sub [0, 2, 3, 5, 6] rfl) (hD.sub [0, 2, 3, 5, 6] (by decide) rfl) rfl rfl) rfl rfl hl.1 rfl (lv_room (Nat.le_of_ble_eq_true rfl)) dX11_leaves_19 ⟨Nat.zero_le _, Nat.zero_le _⟩) hS hP hD [0, 2, 3, 5, 6] [1, 4] rfl rfl (by decide) (fun _ => rfl) (fun ur19 H locs wr19 hP hD hS => ?_)
    have hP : va_P G vwCl [(a0, .inr (11, [.int 0, .ref a1, .ref a2, .ref a3, .ref a4, .ref a5, .int n0_6, .int n0_7, .int n0_8, .int n0_9, .int n0_10, .long l0_11, .int n0_12, .int n0_13, .int n0_14, .int n0_15, .ref a6, .ref a7, .ref a8, .ref a9, .ref a10, .ref a11, .ref a12, .ref a13, .int n0_24, .int n0_25, .int n0_26, .int n0_27, .ref a14, .int (ur19.1 0), .int (ur19.1 1)])), (a1, .inl (ct 0, 4, .inl f1)), (a2, .inl (ct 0, 4, .inl f2)), (a3, .inl (ct 3, 240, .inr (.inl f3))), (a6, .inl (ct 0, 5, .inl f6)), (a7, .inl (ct 0, 15, .inl f7)), (a8, .inl (ct 0, 200, .inl f8))] H := hP.sub [2, 0, 3, 4, 1, 5, 6] rfl
    have hD : va_D A [(a0, .inr (11, [.int 0, .ref a1, .ref a2, .ref a3, .ref a4, .ref a5, .int n0_6, .int n0_7, .int n0_8, .int n0_9, .int n0_10, .long l0_11, .int n0_12, .int n0_13, .int n0_14, .int n0_15, .ref a6, .ref a7, .ref a8, .ref a9, .ref a10, .ref a11, .ref a12, .ref a13, .int n0_24, .int n0_25, .int n0_26, .int n0_27, .ref a14, .int (ur19.1 0), .int (ur19.1 1)])), (a1, .inl (ct 0, 4, .inl f1)), (a2, .inl (ct 0, 4, .inl f2)), (a3, .inl (ct 3, 240, .inr (.inl f3))), (a6, .inl (ct 0, 5, .inl f6)), (a7, .inl (ct 0, 15, .inl f7)), (a8, .inl (ct 0, 200, .inl f8))] := hD.sub [2, 0, 3, 4, 1, 5, 6] (by decide) rfl
    obtain ⟨p_6, -⟩ := wr19
    refine lv_aload_n hx hb dX11_leaves_22 rfl (lv_at hl 1 rfl) ?_
    refine va_get (D := G) (ci := 11) (v := .int (ur19.1 1)) (C := RX11) (T := TX11) (N := 31) hx hb hts (by decide +kernel) hown hK.1 hP 0 rfl rfl 30 (by decide) (hts (.fieldLink RX11 346 "CardHolderModel" "watchLeaves" "I") (by decide +kernel)) (fun _ h9 => h9) rfl dX11_leaves_23 ?_
    exact W.iret (v := ur19.1 1) hx hb hr (fun t ht hW => ⟨⟨ur19.1 1, (fun k => ([0, ur19.1 0, ur19.1 1] : List Int32).getD k 0, fun k => ([] : List (Nat → Int32)).getD k (fun _ => 0), fun k => ([] : List (Nat → Int64)).getD k (fun _ => 0)), rfl, ⟨(fun _ => h_5), (fun _ => h_5), (rgn 0 (x := 0) (by decide)), trivial⟩, hp_at ht hP⟩, hS.F ht⟩) hS.2.2 dX11_leaves_26
  · have h_7 : rg (-6) (-1) r7 := r_ne_hi_i c12 p_1 (by decide) (by decide)
    refine lv_iload_n hx hb dX11_leaves_15 rfl (lv_at hl 0 rfl) ?_
    exact W.iret (v := r7) hx hb hr (fun t ht hW => ⟨⟨r7, (fun k => ([0, n0_29, n0_30] : List Int32).getD k 0, fun k => ([] : List (Nat → Int32)).getD k (fun _ => 0), fun k => ([] : List (Nat → Int64)).getD k (fun _ => 0)), rfl, ⟨(fun hq => rg_w (p_2 hq) (by decide)), (fun hq => rg_w (p_3 hq) (by decide)), (rgn 0 (x := 0) (by decide)), trivial⟩, hp_at ht hP⟩, hS.F ht⟩) hS.2.2 dX11_leaves_16

set_option maxHeartbeats 4000000 in
set_option maxRecDepth 100000 in
theorem a_X11_proof (l : Launch) (G : va_G) (ct : Nat → ClassId) (a0 : Nat) (n0_0 : Int32) (a1 : Nat) (a2 : Nat) (a3 : Nat) (a4 : Nat) (a5 : Nat) (n0_6 : Int32) (n0_7 : Int32) (n0_8 : Int32) (n0_9 : Int32) (n0_10 : Int32) (l0_11 : Int64) (n0_12 : Int32) (n0_13 : Int32) (n0_14 : Int32) (n0_15 : Int32) (a6 : Nat) (a7 : Nat) (a8 : Nat) (a9 : Nat) (a10 : Nat) (a11 : Nat) (a12 : Nat) (a13 : Nat) (n0_24 : Int32) (n0_25 : Int32) (n0_26 : Int32) (n0_27 : Int32) (a14 : Nat) (n0_29 : Int32) (n0_30 : Int32) (f1 : Nat → Int32) (f2 : Nat → Int32) (f3 : Nat → Int64) (f6 : Nat → Int32) (f7 : Nat → Int32) (f8 : Nat → Int32) (p0 : Int32) (hp_f2 : ar 0 60 f2) (hp_n0_6 : rg 0 900 n0_6) (hp_f7 : hsI f7) (hp_f8 : psI f8) : Met l yX11_proof wsX11_proof ({ frames := 3, cells := 0, slots := 0, locals := 68 }) (va_Pc [.ref a0, .int p0] (wrP G ct [(a0, .inr (11, [.int n0_0, .ref a1, .ref a2, .ref a3, .ref a4, .ref a5, .int n0_6, .int n0_7, .int n0_8, .int n0_9, .int n0_10, .long l0_11, .int n0_12, .int n0_13, .int n0_14, .int n0_15, .ref a6, .ref a7, .ref a8, .ref a9, .ref a10, .ref a11, .ref a12, .ref a13, .int n0_24, .int n0_25, .int n0_26, .int n0_27, .ref a14, .int n0_29, .int n0_30])), (a1, .inl (ct 0, 4, .inl f1)), (a2, .inl (ct 0, 4, .inl f2)), (a3, .inl (ct 3, 240, .inr (.inl f3))), (a6, .inl (ct 0, 5, .inl f6)), (a7, .inl (ct 0, 15, .inl f7)), (a8, .inl (ct 0, 200, .inl f8))])) (va_Qi (fun (r : Int32) (u : SU) => (r = 0 → rg 0 3 p0) ∧ (¬ r = (-2) → rg 0 3 p0) ∧ rg 0 0 (u.1 0) ∧ True) (fun u t => va_P G vwCl ((fun u : SU => [(a0, .inr (11, [.int (u.1 0), .ref a1, .ref a2, .ref a3, .ref a4, .ref a5, .int n0_6, .int n0_7, .int n0_8, .int n0_9, .int n0_10, .long l0_11, .int n0_12, .int n0_13, .int n0_14, .int n0_15, .ref a6, .ref a7, .ref a8, .ref a9, .ref a10, .ref a11, .ref a12, .ref a13, .int n0_24, .int n0_25, .int n0_26, .int n0_27, .ref a14, .int n0_29, .int n0_30])), (a1, .inl (ct 0, 4, .inl f1)), (a2, .inl (ct 0, 4, .inl f2)), (a3, .inl (ct 3, 240, .inr (.inl f3))), (a6, .inl (ct 0, 5, .inl f6)), (a7, .inl (ct 0, 15, .inl f7)), (a8, .inl (ct 0, 200, .inl f8))]) u) t.heap) (aset [(a0, .inr (11, [.int n0_0, .ref a1, .ref a2, .ref a3, .ref a4, .ref a5, .int n0_6, .int n0_7, .int n0_8, .int n0_9, .int n0_10, .long l0_11, .int n0_12, .int n0_13, .int n0_14, .int n0_15, .ref a6, .ref a7, .ref a8, .ref a9, .ref a10, .ref a11, .ref a12, .ref a13, .int n0_24, .int n0_25, .int n0_26, .int n0_27, .ref a14, .int n0_29, .int n0_30])), (a1, .inl (ct 0, 4, .inl f1)), (a2, .inl (ct 0, 4, .inl f2)), (a3, .inl (ct 3, 240, .inr (.inl f3))), (a6, .inl (ct 0, 5, .inl f6)), (a7, .inl (ct 0, 15, .inl f7)), (a8, .inl (ct 0, 200, .inl f8))])) 0 0 (aset [(a0, .inr (11, [.int n0_0, .ref a1, .ref a2, .ref a3, .ref a4, .ref a5, .int n0_6, .int n0_7, .int n0_8, .int n0_9, .int n0_10, .long l0_11, .int n0_12, .int n0_13, .int n0_14, .int n0_15, .ref a6, .ref a7, .ref a8, .ref a9, .ref a10, .ref a11, .ref a12, .ref a13, .int n0_24, .int n0_25, .int n0_26, .int n0_27, .ref a14, .int n0_29, .int n0_30])), (a1, .inl (ct 0, 4, .inl f1)), (a2, .inl (ct 0, 4, .inl f2)), (a3, .inl (ct 3, 240, .inr (.inl f3))), (a6, .inl (ct 0, 5, .inl f6)), (a7, .inl (ct 0, 15, .inl f7)), (a8, .inl (ct 0, 200, .inl f8))]) := by
  refine Met.ofW (cc := cX11_proof) (maxL := 6) (ret := (some .int)) (by decide) rfl ?_
  intro p e s m args below meth c s₁ B hml hv
  obtain ⟨rfl, hP, hK, hD0⟩ := hv
  have hx := B.exec
  have hb := B.bytes
  have hr := B.returns
  have hts := atoms_spec (ws := wsX11_proof) B.pre
  have hown : s.vm.findClass RX11 = some m.cls := findClass_of_methodNamed B.named
  have hlocks := B.notSynchronized
  have hD := hD0.aself
  generalize hAe : aset [(a0, .inr (11, [.int n0_0, .ref a1, .ref a2, .ref a3, .ref a4, .ref a5, .int n0_6, .int n0_7, .int n0_8, .int n0_9, .int n0_10, .long l0_11, .int n0_12, .int n0_13, .int n0_14, .int n0_15, .ref a6, .ref a7, .ref a8, .ref a9, .ref a10, .ref a11, .ref a12, .ref a13, .int n0_24, .int n0_25, .int n0_26, .int n0_27, .ref a14, .int n0_29, .int n0_30])), (a1, .inl (ct 0, 4, .inl f1)), (a2, .inl (ct 0, 4, .inl f2)), (a3, .inl (ct 3, 240, .inr (.inl f3))), (a6, .inl (ct 0, 5, .inl f6)), (a7, .inl (ct 0, 15, .inl f7)), (a8, .inl (ct 0, 200, .inl f8))] = A at hD ⊢
  have hS : va_S A s.heap s.heap [] := va_S.rf
  have hl := lv_entry ([.ref a0, .int p0]) (n := 6) (Nat.le_of_ble_eq_true rfl)
  rw [lg_entry_eq]
  generalize (lg_sl ([.ref a0, .int p0]) ++ List.replicate (6 - (lg_sl ([.ref a0, .int p0])).length) Slot.unset).toArray = ls at hl ⊢
  have hl : lv_has ls 6 [(0, .ref a0), (1, .int p0)] := hl
  refine lv_aload_n hx hb dX11_proof_0 rfl (lv_at hl 0 rfl) ?_
  refine lv_iconst (v := 0) hx hb dX11_proof_1 (by decide) ?_
  refine va_put (D := G) (ci := 11) (v := .int 0) (ty := .int) (C := RX11) (T := TX11) (N := 31) hx hb hts (by decide +kernel) tyX11 tyX11_ok nmX11 hown hK.1 hP hD hS 0 rfl rfl 0 (by decide) (hts (.fieldLink RX11 59 "CardHolderModel" "thrown" "I") (by decide +kernel)) (fun _ h9 => h9) rfl (by decide +kernel) rfl rfl (Nat.le_of_ble_eq_true rfl) dX11_proof_2 (fun H locs hP hD hS => ?_)
  refine lv_aload_n hx hb dX11_proof_5 rfl (lv_at hl 0 rfl) ?_
  refine lv_iload_n hx hb dX11_proof_6 rfl (lv_at hl 1 rfl) ?_
  refine ro_calli (va_runV (As := [.int p0]) (rest := []) ⟨hx, hb, hml, hown, hts⟩ (a_X11_whyNot l G ct a0 (0 : Int32) a1 a2 a3 a4 a5 n0_6 n0_7 n0_8 n0_9 n0_10 l0_11 n0_12 n0_13 n0_14 n0_15 a6 a7 a8 a9 a10 a11 a12 a13 n0_24 n0_25 n0_26 n0_27 a14 n0_29 n0_30 f1 f2 f3 f6 p0 hp_f2 hp_n0_6) (cwV 1 hts gX11_proof_X11_whyNot rfl rfl rfl (by decide +kernel) ⟨Nat.le_of_ble_eq_true rfl, Nat.le_of_ble_eq_true rfl⟩) (ro_preV 11 0 hK (hP.sub [0, 1, 2, 3, 4] rfl) rfl rfl) rfl rfl hl.1 rfl (lv_room (Nat.le_of_ble_eq_true rfl)) dX11_proof_7 ⟨Nat.zero_le _, Nat.zero_le _⟩) hS hP (fun r7 H locs wr7 hP hS => ?_)
  obtain ⟨p_1, p_2, p_3, -⟩ := wr7
  refine lv_istore_n (lv' := [(2, .int r7), (0, .ref a0), (1, .int p0)]) hx hb dX11_proof_10 rfl hl (by decide) rfl (fun ls hl => ?_)
  refine lv_iload_n hx hb dX11_proof_11 rfl (lv_at hl 0 rfl) ?_
  refine lv_if_eq (tgt := 17) hx hb dX11_proof_12 (by decide) (fun c12 => ?_) (fun c12 => ?_)
  · have h_4 : rg 0 0 r7 := r_eq_l_i (e := 0) (f := 0) c12 p_1 (rgn 0 (x := 0) (by decide)) (by decide)
    have h_5 : rg 0 3 p0 := (p_2 (req h_4 (y := 0) (by decide)))
    refine lv_aload_n hx hb dX11_proof_17 rfl (lv_at hl 1 rfl) ?_
    refine lv_iload_n hx hb dX11_proof_18 rfl (lv_at hl 2 rfl) ?_
    refine ro_calli (va_runV (As := [.int p0]) (rest := []) ⟨hx, hb, hml, hown, hts⟩ (a_X11_rowOf l G ct a0 (0 : Int32) a1 a2 a3 a4 a5 n0_6 n0_7 n0_8 n0_9 n0_10 l0_11 n0_12 n0_13 n0_14 n0_15 a6 a7 a8 a9 a10 a11 a12 a13 n0_24 n0_25 n0_26 n0_27 a14 n0_29 n0_30 f2 f3 p0 hp_f2 hp_n0_6 h_5) (cwV 1 hts gX11_proof_X11_rowOf rfl rfl rfl (by decide +kernel) ⟨Nat.le_of_ble_eq_true rfl, Nat.le_of_ble_eq_true rfl⟩) (ro_preV 11 0 hK (hP.sub [0, 2, 3] rfl) rfl rfl) rfl rfl hl.1 rfl (lv_room (Nat.le_of_ble_eq_true rfl)) dX11_proof_19 ⟨Nat.zero_le _, Nat.zero_le _⟩) hS hP (fun r19 H locs wr19 hP hS => ?_)
    refine lv_istore_n (lv' := [(3, .int r19), (2, .int r7), (0, .ref a0), (1, .int p0)]) hx hb dX11_proof_22 rfl hl (by decide) rfl (fun ls hl => ?_)
    refine lv_iload_n hx hb dX11_proof_23 rfl (lv_at hl 0 rfl) ?_
    refine ro_calli (va_runS (As := [.int r19]) (rest := []) ⟨hx, hb, hml, hown, hts⟩ (a_X11_sizeOf l G ct r19) (va_cwS 1 hts gX11_proof_X11_sizeOf rfl rfl rfl (by decide +kernel) ⟨Nat.le_of_ble_eq_true rfl, Nat.le_of_ble_eq_true rfl⟩) (ro_pre hK (hP.sub [] rfl)) rfl rfl hl.1 rfl (lv_room (Nat.le_of_ble_eq_true rfl)) dX11_proof_24 ⟨Nat.zero_le _, Nat.zero_le _⟩) hS hP (fun r24 H locs wr24 hP hS => ?_)
    refine lv_istore (lv' := [(4, .int r24), (3, .int r19), (2, .int r7), (0, .ref a0), (1, .int p0)]) hx hb dX11_proof_27 hl (by decide) rfl (fun ls hl => ?_)
    refine lv_iconst (v := 0) hx hb dX11_proof_29 (by decide) ?_
    refine lv_istore (lv' := [(5, .int 0), (4, .int r24), (3, .int r19), (2, .int r7), (0, .ref a0), (1, .int p0)]) hx hb dX11_proof_30 hl (by decide) rfl (fun ls hl => ?_)
    have j32 : ∀ (n : Nat) (x32_4 : Int32) (x32_5 : Int32) (H : Heap) (locs : List Loc) (ls : Array Slot), 2147483648 ≤ x32_5.toInt + (n : Int) → rg 0 64 x32_5 → va_P G vwCl [(a0, .inr (11, [.int 0, .ref a1, .ref a2, .ref a3, .ref a4, .ref a5, .int n0_6, .int n0_7, .int n0_8, .int n0_9, .int n0_10, .long l0_11, .int n0_12, .int n0_13, .int n0_14, .int n0_15, .ref a6, .ref a7, .ref a8, .ref a9, .ref a10, .ref a11, .ref a12, .ref a13, .int n0_24, .int n0_25, .int n0_26, .int n0_27, .ref a14, .int n0_29, .int n0_30])), (a1, .inl (ct 0, 4, .inl f1)), (a2, .inl (ct 0, 4, .inl f2)), (a3, .inl (ct 3, 240, .inr (.inl f3))), (a6, .inl (ct 0, 5, .inl f6)), (a7, .inl (ct 0, 15, .inl f7)), (a8, .inl (ct 0, 200, .inl f8))] H → va_D A [(a0, .inr (11, [.int 0, .ref a1, .ref a2, .ref a3, .ref a4, .ref a5, .int n0_6, .int n0_7, .int n0_8, .int n0_9, .int n0_10, .long l0_11, .int n0_12, .int n0_13, .int n0_14, .int n0_15, .ref a6, .ref a7, .ref a8, .ref a9, .ref a10, .ref a11, .ref a12, .ref a13, .int n0_24, .int n0_25, .int n0_26, .int n0_27, .ref a14, .int n0_29, .int n0_30])), (a1, .inl (ct 0, 4, .inl f1)), (a2, .inl (ct 0, 4, .inl f2)), (a3, .inl (ct 3, 240, .inr (.inl f3))), (a6, .inl (ct 0, 5, .inl f6)), (a7, .inl (ct 0, 15, .inl f7)), (a8, .inl (ct 0, 200, .inl f8))] → va_S A s.heap H locs → lv_has ls 6 [(0, .ref a0), (1, .int p0), (2, .int r7), (3, .int r19), (4, .int x32_4), (5, .int x32_5)] → W p l e (headSpec wsX11_proof ({ frames := 3, cells := 0, slots := 0, locals := 68 })).room s m ([.ref a0, .int p0] : List Value).toArray below meth c H locs 0 0 (MQ below (va_Qi (fun (r : Int32) (u : SU) => (r = 0 → rg 0 3 p0) ∧ (¬ r = (-2) → rg 0 3 p0) ∧ rg 0 0 (u.1 0) ∧ True) (fun u t => va_P G vwCl ((fun u : SU => [(a0, .inr (11, [.int (u.1 0), .ref a1, .ref a2, .ref a3, .ref a4, .ref a5, .int n0_6, .int n0_7, .int n0_8, .int n0_9, .int n0_10, .long l0_11, .int n0_12, .int n0_13, .int n0_14, .int n0_15, .ref a6, .ref a7, .ref a8, .ref a9, .ref a10, .ref a11, .ref a12, .ref a13, .int n0_24, .int n0_25, .int n0_26, .int n0_27, .ref a14, .int n0_29, .int n0_30])), (a1, .inl (ct 0, 4, .inl f1)), (a2, .inl (ct 0, 4, .inl f2)), (a3, .inl (ct 3, 240, .inr (.inl f3))), (a6, .inl (ct 0, 5, .inl f6)), (a7, .inl (ct 0, 15, .inl f7)), (a8, .inl (ct 0, 200, .inl f8))]) u) t.heap) A) ([.ref a0, .int p0] : List Value).toArray s 0 0 A) (F0 m 32 ls []) := by
      intro n
      induction n with
      | zero => intro x32_4 x32_5 H locs ls hn32 hx32_5 hP hD hS hl; exact absurd hn32 (by have := Int32.toInt_lt x32_5; have := Int32.le_toInt x32_5; omega)
      | succ n ih32 =>
        intro x32_4 x32_5 H locs ls hn32 hx32_5 hP hD hS hl
        refine lv_iload hx hb dX11_proof_32 (lv_at hl 5 rfl) ?_
        refine lv_bipush (v := 64) hx hb dX11_proof_34 (by decide) ?_
        refine lv_icmp_ge (tgt := 85) hx hb dX11_proof_36 (by decide) (fun c36 => ?_) (fun c36 => ?_)
        · have h_6 : rg 64 64 x32_5 := r_le_r_i c36 (rgn 64 (x := 64) (by decide)) hx32_5
          refine lv_iload hx hb dX11_proof_85 (lv_at hl 4 rfl) ?_
          exact W.iret (v := x32_4) hx hb hr (fun t ht hW => ⟨⟨x32_4, (fun k => ([0] : List Int32).getD k 0, fun k => ([] : List (Nat → Int32)).getD k (fun _ => 0), fun k => ([] : List (Nat → Int64)).getD k (fun _ => 0)), rfl, ⟨(fun _ => h_5), (fun _ => h_5), (rgn 0 (x := 0) (by decide)), trivial⟩, hp_at ht hP⟩, hS.F ht⟩) hS.2.2 dX11_proof_87
        · have h_7 : rg 0 63 x32_5 := r_lt_l_i (nle_i c36) hx32_5 (rgn 64 (x := 64) (by decide)) (by decide)
          refine lv_iload hx hb dX11_proof_39 (lv_at hl 5 rfl) ?_
          refine lv_iload_n hx hb dX11_proof_41 rfl (lv_at hl 3 rfl) ?_
          refine lv_iconst (v := (-1)) hx hb dX11_proof_42 (by decide) ?_
          refine lv_ixor hx hb dX11_proof_43 ?_
          refine nm_0 (fun z43 => ?_)
          refine lv_iand hx hb dX11_proof_44 ?_
          refine nm_andl h_7 (by decide) (fun z44 hz44 => ?_)
          have j79 : ∀ (x79_4 : Int32) (H : Heap) (locs : List Loc) (ls : Array Slot), va_P G vwCl [(a0, .inr (11, [.int 0, .ref a1, .ref a2, .ref a3, .ref a4, .ref a5, .int n0_6, .int n0_7, .int n0_8, .int n0_9, .int n0_10, .long l0_11, .int n0_12, .int n0_13, .int n0_14, .int n0_15, .ref a6, .ref a7, .ref a8, .ref a9, .ref a10, .ref a11, .ref a12, .ref a13, .int n0_24, .int n0_25, .int n0_26, .int n0_27, .ref a14, .int n0_29, .int n0_30])), (a1, .inl (ct 0, 4, .inl f1)), (a2, .inl (ct 0, 4, .inl f2)), (a3, .inl (ct 3, 240, .inr (.inl f3))), (a6, .inl (ct 0, 5, .inl f6)), (a7, .inl (ct 0, 15, .inl f7)), (a8, .inl (ct 0, 200, .inl f8))] H → va_D A [(a0, .inr (11, [.int 0, .ref a1, .ref a2, .ref a3, .ref a4, .ref a5, .int n0_6, .int n0_7, .int n0_8, .int n0_9, .int n0_10, .long l0_11, .int n0_12, .int n0_13, .int n0_14, .int n0_15, .ref a6, .ref a7, .ref a8, .ref a9, .ref a10, .ref a11, .ref a12, .ref a13, .int n0_24, .int n0_25, .int n0_26, .int n0_27, .ref a14, .int n0_29, .int n0_30])), (a1, .inl (ct 0, 4, .inl f1)), (a2, .inl (ct 0, 4, .inl f2)), (a3, .inl (ct 3, 240, .inr (.inl f3))), (a6, .inl (ct 0, 5, .inl f6)), (a7, .inl (ct 0, 15, .inl f7)), (a8, .inl (ct 0, 200, .inl f8))] → va_S A s.heap H locs → lv_has ls 6 [(0, .ref a0), (1, .int p0), (2, .int r7), (3, .int r19), (4, .int x79_4), (5, .int x32_5)] → W p l e (headSpec wsX11_proof ({ frames := 3, cells := 0, slots := 0, locals := 68 })).room s m ([.ref a0, .int p0] : List Value).toArray below meth c H locs 0 0 (MQ below (va_Qi (fun (r : Int32) (u : SU) => (r = 0 → rg 0 3 p0) ∧ (¬ r = (-2) → rg 0 3 p0) ∧ rg 0 0 (u.1 0) ∧ True) (fun u t => va_P G vwCl ((fun u : SU => [(a0, .inr (11, [.int (u.1 0), .ref a1, .ref a2, .ref a3, .ref a4, .ref a5, .int n0_6, .int n0_7, .int n0_8, .int n0_9, .int n0_10, .long l0_11, .int n0_12, .int n0_13, .int n0_14, .int n0_15, .ref a6, .ref a7, .ref a8, .ref a9, .ref a10, .ref a11, .ref a12, .ref a13, .int n0_24, .int n0_25, .int n0_26, .int n0_27, .ref a14, .int n0_29, .int n0_30])), (a1, .inl (ct 0, 4, .inl f1)), (a2, .inl (ct 0, 4, .inl f2)), (a3, .inl (ct 3, 240, .inr (.inl f3))), (a6, .inl (ct 0, 5, .inl f6)), (a7, .inl (ct 0, 15, .inl f7)), (a8, .inl (ct 0, 200, .inl f8))]) u) t.heap) A) ([.ref a0, .int p0] : List Value).toArray s 0 0 A) (F0 m 79 ls []) := by
            intro x79_4 H locs ls  hP hD hS hl
            obtain ⟨z79, qz79⟩ : ∃ y : Int32, y = x32_5 + Int32.ofInt 1 := ⟨_, rfl⟩
            obtain ⟨hz79, ez79⟩ := inc_z (e := 1) (f := 64) h_7 qz79 (by decide)
            refine lv_iinc (v := z79) (lv' := [(5, .int z79), (0, .ref a0), (1, .int p0), (2, .int r7), (3, .int r19), (4, .int x79_4)]) hx hb dX11_proof_79 hl (k := 5) rfl (qz79.symm) (by decide) rfl (fun ls hl => ?_)
            refine lv_goto (tgt := 32) hx hb dX11_proof_82 (by decide) ?_
            exact ih32 x79_4 z79 _ _ ls (by have q := hn32; have := ez79; omega) (rg_w (c := 0) (d := 64) hz79 (by decide)) hP hD hS (lv_sub hl [1, 2, 3, 4, 5, 0] rfl)
          refine lv_if_ne (tgt := 79) hx hb dX11_proof_45 (by decide) (fun c45 => ?_) (fun c45 => ?_)
          · have h_8 : rg 1 63 z44 := r_ne_lo_i c45 hz44 (by decide) (by decide)
            exact j79 x32_4 _ _ ls hP hD hS (lv_sub hl [0, 1, 2, 3, 4, 5] rfl)
          · have h_9 : rg 0 0 z44 := r_eq_l_i (e := 0) (f := 0) c45 hz44 (rgn 0 (x := 0) (by decide)) (by decide)
            refine lv_aload_n hx hb dX11_proof_48 rfl (lv_at hl 0 rfl) ?_
            refine lv_iload hx hb dX11_proof_49 (lv_at hl 5 rfl) ?_
            refine ro_calli (va_runV (As := [.int x32_5]) (rest := []) ⟨hx, hb, hml, hown, hts⟩ (a_X11_wishing l G ct a0 (0 : Int32) a1 a2 a3 a4 a5 n0_6 n0_7 n0_8 n0_9 n0_10 l0_11 n0_12 n0_13 n0_14 n0_15 a6 a7 a8 a9 a10 a11 a12 a13 n0_24 n0_25 n0_26 n0_27 a14 n0_29 n0_30 f7 f8 x32_5 hp_n0_6 hp_f7 hp_f8) (cwV 1 hts gX11_proof_X11_wishing rfl rfl rfl (by decide +kernel) ⟨Nat.le_of_ble_eq_true rfl, Nat.le_of_ble_eq_true rfl⟩) (ro_preV 11 0 hK (hP.sub [0, 5, 6] rfl) rfl rfl) rfl rfl hl.1 rfl (lv_room (Nat.le_of_ble_eq_true rfl)) dX11_proof_51 ⟨Nat.zero_le _, Nat.zero_le _⟩) hS hP (fun r51 H locs wr51 hP hS => ?_)
            obtain ⟨p_10, -⟩ := wr51
            refine lv_aload_n hx hb dX11_proof_54 rfl (lv_at hl 0 rfl) ?_
            refine lv_iload_n hx hb dX11_proof_55 rfl (lv_at hl 3 rfl) ?_
            refine ro_calli (va_runV (As := [.int r19]) (rest := [.int r51]) ⟨hx, hb, hml, hown, hts⟩ (a_X11_wishing l G ct a0 (0 : Int32) a1 a2 a3 a4 a5 n0_6 n0_7 n0_8 n0_9 n0_10 l0_11 n0_12 n0_13 n0_14 n0_15 a6 a7 a8 a9 a10 a11 a12 a13 n0_24 n0_25 n0_26 n0_27 a14 n0_29 n0_30 f7 f8 r19 hp_n0_6 hp_f7 hp_f8) (cwV 1 hts gX11_proof_X11_wishing rfl rfl rfl (by decide +kernel) ⟨Nat.le_of_ble_eq_true rfl, Nat.le_of_ble_eq_true rfl⟩) (ro_preV 11 0 hK (hP.sub [0, 5, 6] rfl) rfl rfl) rfl rfl hl.1 rfl (lv_room (Nat.le_of_ble_eq_true rfl)) dX11_proof_56 ⟨Nat.zero_le _, Nat.zero_le _⟩) hS hP (fun r56 H locs wr56 hP hS => ?_)
            obtain ⟨p_11, -⟩ := wr56
            refine lv_icmp_ne (tgt := 79) hx hb dX11_proof_59 (by decide) (fun c59 => ?_) (fun c59 => ?_)
            · exact j79 x32_4 _ _ ls hP hD hS (lv_sub hl [0, 1, 2, 3, 4, 5] rfl)
            · refine lv_iload hx hb dX11_proof_62 (lv_at hl 5 rfl) ?_
              refine ro_calli (va_runS (As := [.int x32_5]) (rest := []) ⟨hx, hb, hml, hown, hts⟩ (a_X11_sizeOf l G ct x32_5) (va_cwS 1 hts gX11_proof_X11_sizeOf rfl rfl rfl (by decide +kernel) ⟨Nat.le_of_ble_eq_true rfl, Nat.le_of_ble_eq_true rfl⟩) (ro_pre hK (hP.sub [] rfl)) rfl rfl hl.1 rfl (lv_room (Nat.le_of_ble_eq_true rfl)) dX11_proof_64 ⟨Nat.zero_le _, Nat.zero_le _⟩) hS hP (fun r64 H locs wr64 hP hS => ?_)
              refine lv_iload hx hb dX11_proof_67 (lv_at hl 4 rfl) ?_
              refine lv_icmp_ge (tgt := 79) hx hb dX11_proof_69 (by decide) (fun c69 => ?_) (fun c69 => ?_)
              · exact j79 x32_4 _ _ ls hP hD hS (lv_sub hl [0, 1, 2, 3, 4, 5] rfl)
              · have h_12 : rg (-2147483648) 2147483646 r64 := r_lt_l_i (nle_i c69) (rg_t r64) (rg_t x32_4) (by decide)
                have h_13 : rg (-2147483647) 2147483647 x32_4 := r_lt_r_i (nle_i c69) (rg_t r64) (rg_t x32_4) (by decide)
                refine lv_iload hx hb dX11_proof_72 (lv_at hl 5 rfl) ?_
                refine ro_calli (va_runS (As := [.int x32_5]) (rest := []) ⟨hx, hb, hml, hown, hts⟩ (a_X11_sizeOf l G ct x32_5) (va_cwS 1 hts gX11_proof_X11_sizeOf rfl rfl rfl (by decide +kernel) ⟨Nat.le_of_ble_eq_true rfl, Nat.le_of_ble_eq_true rfl⟩) (ro_pre hK (hP.sub [] rfl)) rfl rfl hl.1 rfl (lv_room (Nat.le_of_ble_eq_true rfl)) dX11_proof_74 ⟨Nat.zero_le _, Nat.zero_le _⟩) hS hP (fun r74 H locs wr74 hP hS => ?_)
                refine lv_istore (lv' := [(4, .int r74), (0, .ref a0), (1, .int p0), (2, .int r7), (3, .int r19), (5, .int x32_5)]) hx hb dX11_proof_77 hl (by decide) rfl (fun ls hl => ?_)
                exact j79 r74 _ _ ls hP hD hS (lv_sub hl [1, 2, 3, 4, 0, 5] rfl)
    exact j32 4294967296 r24 (0 : Int32) _ _ ls (ms_e (0 : Int32)) (rg_w (c := 0) (d := 64) (rgn 0 (x := 0) (by decide)) (by decide)) hP hD hS (lv_sub hl [4, 5, 3, 2, 1, 0] rfl)
  · have h_14 : rg (-6) (-1) r7 := r_ne_hi_i c12 p_1 (by decide) (by decide)
    refine lv_iload_n hx hb dX11_proof_15 rfl (lv_at hl 0 rfl) ?_
    exact W.iret (v := r7) hx hb hr (fun t ht hW => ⟨⟨r7, (fun k => ([0] : List Int32).getD k 0, fun k => ([] : List (Nat → Int32)).getD k (fun _ => 0), fun k => ([] : List (Nat → Int64)).getD k (fun _ => 0)), rfl, ⟨(fun hq => rg_w (p_2 hq) (by decide)), (fun hq => rg_w (p_3 hq) (by decide)), (rgn 0 (x := 0) (by decide)), trivial⟩, hp_at ht hP⟩, hS.F ht⟩) hS.2.2 dX11_proof_16

set_option maxHeartbeats 4000000 in
set_option maxRecDepth 100000 in
theorem a_X11_isDuel (l : Launch) (G : va_G) (ct : Nat → ClassId) (a0 : Nat) (n0_0 : Int32) (a1 : Nat) (a2 : Nat) (a3 : Nat) (a4 : Nat) (a5 : Nat) (n0_6 : Int32) (n0_7 : Int32) (n0_8 : Int32) (n0_9 : Int32) (n0_10 : Int32) (l0_11 : Int64) (n0_12 : Int32) (n0_13 : Int32) (n0_14 : Int32) (n0_15 : Int32) (a6 : Nat) (a7 : Nat) (a8 : Nat) (a9 : Nat) (a10 : Nat) (a11 : Nat) (a12 : Nat) (a13 : Nat) (n0_24 : Int32) (n0_25 : Int32) (n0_26 : Int32) (n0_27 : Int32) (a14 : Nat) (n0_29 : Int32) (n0_30 : Int32) (f7 : Nat → Int32) (f8 : Nat → Int32) (f9 : Nat → Int32) (f11 : Nat → Int32) (f12 : Nat → Int32) (f13 : Nat → Int32) (p0 : Int32) (p1 : Int32) (hp_n0_6 : rg 0 900 n0_6) (hp_f7 : hsI f7) (hp_f8 : psI f8) (hp_f9 : ar 0 7 f9) (hp_f11 : ar (-1) 7 f11) (hp_f13 : ar (-1) 7 f13) : Met l yX11_isDuel wsX11_isDuel ({ frames := 5, cells := 0, slots := 0, locals := 111 }) (va_Pc [.ref a0, .int p0, .int p1] (wrP G ct [(a0, .inr (11, [.int n0_0, .ref a1, .ref a2, .ref a3, .ref a4, .ref a5, .int n0_6, .int n0_7, .int n0_8, .int n0_9, .int n0_10, .long l0_11, .int n0_12, .int n0_13, .int n0_14, .int n0_15, .ref a6, .ref a7, .ref a8, .ref a9, .ref a10, .ref a11, .ref a12, .ref a13, .int n0_24, .int n0_25, .int n0_26, .int n0_27, .ref a14, .int n0_29, .int n0_30])), (a7, .inl (ct 0, 15, .inl f7)), (a8, .inl (ct 0, 200, .inl f8)), (a9, .inl (ct 0, 1000, .inl f9)), (a11, .inl (ct 0, 8, .inl f11)), (a12, .inl (ct 0, 8, .inl f12)), (a13, .inl (ct 0, 8, .inl f13))])) (va_Qi (fun (r : Int32) (u : SU) => rg 0 1 r ∧ (¬ r = 0 → rg 0 7 p0) ∧ (¬ r = 0 → rg 0 7 p1) ∧ ar (-1) 7 (u.2.1 0) ∧ ar (-1) 7 (u.2.1 2) ∧ (¬ r = 0 → hold f7 (u.2.1 0) p0) ∧ (¬ r = 0 → hold f7 (u.2.1 0) p1) ∧ True) (fun u t => va_P G vwCl ((fun u : SU => [(a0, .inr (11, [.int n0_0, .ref a1, .ref a2, .ref a3, .ref a4, .ref a5, .int n0_6, .int n0_7, .int n0_8, .int n0_9, .int n0_10, .long l0_11, .int n0_12, .int n0_13, .int n0_14, .int n0_15, .ref a6, .ref a7, .ref a8, .ref a9, .ref a10, .ref a11, .ref a12, .ref a13, .int (u.1 0), .int (u.1 1), .int (u.1 2), .int (u.1 3), .ref a14, .int n0_29, .int n0_30])), (a7, .inl (ct 0, 15, .inl f7)), (a8, .inl (ct 0, 200, .inl f8)), (a9, .inl (ct 0, 1000, .inl f9)), (a11, .inl (ct 0, 8, .inl (u.2.1 0))), (a12, .inl (ct 0, 8, .inl (u.2.1 1))), (a13, .inl (ct 0, 8, .inl (u.2.1 2)))]) u) t.heap) (aset [(a0, .inr (11, [.int n0_0, .ref a1, .ref a2, .ref a3, .ref a4, .ref a5, .int n0_6, .int n0_7, .int n0_8, .int n0_9, .int n0_10, .long l0_11, .int n0_12, .int n0_13, .int n0_14, .int n0_15, .ref a6, .ref a7, .ref a8, .ref a9, .ref a10, .ref a11, .ref a12, .ref a13, .int n0_24, .int n0_25, .int n0_26, .int n0_27, .ref a14, .int n0_29, .int n0_30])), (a7, .inl (ct 0, 15, .inl f7)), (a8, .inl (ct 0, 200, .inl f8)), (a9, .inl (ct 0, 1000, .inl f9)), (a11, .inl (ct 0, 8, .inl f11)), (a12, .inl (ct 0, 8, .inl f12)), (a13, .inl (ct 0, 8, .inl f13))])) 0 0 (aset [(a0, .inr (11, [.int n0_0, .ref a1, .ref a2, .ref a3, .ref a4, .ref a5, .int n0_6, .int n0_7, .int n0_8, .int n0_9, .int n0_10, .long l0_11, .int n0_12, .int n0_13, .int n0_14, .int n0_15, .ref a6, .ref a7, .ref a8, .ref a9, .ref a10, .ref a11, .ref a12, .ref a13, .int n0_24, .int n0_25, .int n0_26, .int n0_27, .ref a14, .int n0_29, .int n0_30])), (a7, .inl (ct 0, 15, .inl f7)), (a8, .inl (ct 0, 200, .inl f8)), (a9, .inl (ct 0, 1000, .inl f9)), (a11, .inl (ct 0, 8, .inl f11)), (a12, .inl (ct 0, 8, .inl f12)), (a13, .inl (ct 0, 8, .inl f13))]) := by
  refine Met.ofW (cc := cX11_isDuel) (maxL := 3) (ret := (some .boolean)) (by decide) rfl ?_
  intro p e s m args below meth c s₁ B hml hv
  obtain ⟨rfl, hP, hK, hD0⟩ := hv
  have hx := B.exec
  have hb := B.bytes
  have hr := B.returns
  have hts := atoms_spec (ws := wsX11_isDuel) B.pre
  have hown : s.vm.findClass RX11 = some m.cls := findClass_of_methodNamed B.named
  have hlocks := B.notSynchronized
  have hD := hD0.aself
  generalize hAe : aset [(a0, .inr (11, [.int n0_0, .ref a1, .ref a2, .ref a3, .ref a4, .ref a5, .int n0_6, .int n0_7, .int n0_8, .int n0_9, .int n0_10, .long l0_11, .int n0_12, .int n0_13, .int n0_14, .int n0_15, .ref a6, .ref a7, .ref a8, .ref a9, .ref a10, .ref a11, .ref a12, .ref a13, .int n0_24, .int n0_25, .int n0_26, .int n0_27, .ref a14, .int n0_29, .int n0_30])), (a7, .inl (ct 0, 15, .inl f7)), (a8, .inl (ct 0, 200, .inl f8)), (a9, .inl (ct 0, 1000, .inl f9)), (a11, .inl (ct 0, 8, .inl f11)), (a12, .inl (ct 0, 8, .inl f12)), (a13, .inl (ct 0, 8, .inl f13))] = A at hD ⊢
  have hS : va_S A s.heap s.heap [] := va_S.rf
  have hl := lv_entry ([.ref a0, .int p0, .int p1]) (n := 3) (Nat.le_of_ble_eq_true rfl)
  rw [lg_entry_eq]
  generalize (lg_sl ([.ref a0, .int p0, .int p1]) ++ List.replicate (3 - (lg_sl ([.ref a0, .int p0, .int p1])).length) Slot.unset).toArray = ls at hl ⊢
  have hl : lv_has ls 3 [(0, .ref a0), (1, .int p0), (2, .int p1)] := hl
  refine lv_aload_n hx hb dX11_isDuel_0 rfl (lv_at hl 0 rfl) ?_
  refine lv_iload_n hx hb dX11_isDuel_1 rfl (lv_at hl 1 rfl) ?_
  refine lv_iload_n hx hb dX11_isDuel_2 rfl (lv_at hl 2 rfl) ?_
  refine ro_calli (va_runV (As := [.int p0, .int p1]) (rest := []) ⟨hx, hb, hml, hown, hts⟩ (a_X11_arePeople l G ct a0 n0_0 a1 a2 a3 a4 a5 n0_6 n0_7 n0_8 n0_9 n0_10 l0_11 n0_12 n0_13 n0_14 n0_15 a6 a7 a8 a9 a10 a11 a12 a13 n0_24 n0_25 n0_26 n0_27 a14 n0_29 n0_30 f7 p0 p1 hp_n0_6 hp_f7) (cwV 2 hts gX11_isDuel_X11_arePeople rfl rfl rfl (by decide +kernel) ⟨Nat.le_of_ble_eq_true rfl, Nat.le_of_ble_eq_true rfl⟩) (ro_preV 11 0 hK (hP.sub [0, 1] rfl) rfl rfl) rfl rfl hl.1 rfl (lv_room (Nat.le_of_ble_eq_true rfl)) dX11_isDuel_3 ⟨Nat.zero_le _, Nat.zero_le _⟩) hS hP (fun r3 H locs wr3 hP hS => ?_)
  obtain ⟨p_1, p_2, p_3, -⟩ := wr3
  refine lv_if_eq (tgt := 14) hx hb dX11_isDuel_6 (by decide) (fun c6 => ?_) (fun c6 => ?_)
  · have h_4 : rg 0 0 r3 := r_eq_l_i (e := 0) (f := 0) c6 p_1 (rgn 0 (x := 0) (by decide)) (by decide)
    refine lv_iconst (v := 0) hx hb dX11_isDuel_14 (by decide) ?_
    exact W.zret (v := 0) (ty := .boolean) hx hb hr (rfl) (fun t ht hW => ⟨⟨0, (fun k => ([n0_24, n0_25, n0_26, n0_27] : List Int32).getD k 0, fun k => ([f11, f12, f13] : List (Nat → Int32)).getD k (fun _ => 0), fun k => ([] : List (Nat → Int64)).getD k (fun _ => 0)), rfl, ⟨(rg_w (c := 0) (d := 1) (rgn 0 (x := 0) (by decide)) (by decide)), (fun hq => absurd (req (rgn 0 (x := 0) (by decide)) (y := 0) (by decide)) hq), (fun hq => absurd (req (rgn 0 (x := 0) (by decide)) (y := 0) (by decide)) hq), hp_f11, hp_f13, (fun hq => absurd (req (rgn 0 (x := 0) (by decide)) (y := 0) (by decide)) hq), (fun hq => absurd (req (rgn 0 (x := 0) (by decide)) (y := 0) (by decide)) hq), trivial⟩, hp_at ht hP⟩, hS.F ht⟩) hS.2.2 dX11_isDuel_15
  · have h_5 : rg 1 1 r3 := r_ne_lo_i c6 p_1 (by decide) (by decide)
    have h_6 : rg 0 7 p0 := (p_2 (rne h_5 (y := 0) (c := 0) (by decide) (by decide)))
    have h_7 : rg 0 7 p1 := (p_3 (rne h_5 (y := 0) (c := 0) (by decide) (by decide)))
    refine lv_iload_n hx hb dX11_isDuel_9 rfl (lv_at hl 1 rfl) ?_
    refine lv_iload_n hx hb dX11_isDuel_10 rfl (lv_at hl 2 rfl) ?_
    refine lv_icmp_ne (tgt := 16) hx hb dX11_isDuel_11 (by decide) (fun c11 => ?_) (fun c11 => ?_)
    · refine lv_aload_n hx hb dX11_isDuel_16 rfl (lv_at hl 0 rfl) ?_
      refine wj_callv (wr := []) (w1 := (fun u : SU => [(a0, .inr (11, [.int n0_0, .ref a1, .ref a2, .ref a3, .ref a4, .ref a5, .int n0_6, .int n0_7, .int n0_8, .int n0_9, .int n0_10, .long l0_11, .int n0_12, .int n0_13, .int n0_14, .int n0_15, .ref a6, .ref a7, .ref a8, .ref a9, .ref a10, .ref a11, .ref a12, .ref a13, .int (u.1 0), .int (u.1 1), .int (u.1 2), .int (u.1 3), .ref a14, .int n0_29, .int n0_30])), (a7, .inl (ct 0, 15, .inl f7)), (a8, .inl (ct 0, 200, .inl f8)), (a9, .inl (ct 0, 1000, .inl f9)), (a11, .inl (ct 0, 8, .inl (u.2.1 0))), (a12, .inl (ct 0, 8, .inl (u.2.1 1))), (a13, .inl (ct 0, 8, .inl (u.2.1 2)))])) (va_runV (As := []) (rest := []) ⟨hx, hb, hml, hown, hts⟩ (a_X11_laysNow l G ct a0 n0_0 a1 a2 a3 a4 a5 n0_6 n0_7 n0_8 n0_9 n0_10 l0_11 n0_12 n0_13 n0_14 n0_15 a6 a7 a8 a9 a10 a11 a12 a13 n0_24 n0_25 n0_26 n0_27 a14 n0_29 n0_30 f7 f8 f9 f11 f12 f13 hp_n0_6 hp_f7 hp_f8 hp_f9 hp_f11 hp_f13) (cwV 0 hts gX11_isDuel_X11_laysNow rfl rfl rfl (by decide +kernel) ⟨Nat.le_of_ble_eq_true rfl, Nat.le_of_ble_eq_true rfl⟩) (wr_preV 11 0 hK (hP.sub [0, 1, 2, 3, 4, 5, 6] rfl) (hD.sub [0, 1, 2, 3, 4, 5, 6] (by decide) rfl) rfl rfl) rfl rfl hl.1 rfl (lv_room (Nat.le_of_ble_eq_true rfl)) dX11_isDuel_17 ⟨Nat.zero_le _, Nat.zero_le _⟩) hS hP hD [0, 1, 2, 3, 4, 5, 6] [] rfl rfl (by decide) (fun _ => rfl) (fun ur17 H locs wr17 hP hD hS => ?_)
      have hP : va_P G vwCl [(a0, .inr (11, [.int n0_0, .ref a1, .ref a2, .ref a3, .ref a4, .ref a5, .int n0_6, .int n0_7, .int n0_8, .int n0_9, .int n0_10, .long l0_11, .int n0_12, .int n0_13, .int n0_14, .int n0_15, .ref a6, .ref a7, .ref a8, .ref a9, .ref a10, .ref a11, .ref a12, .ref a13, .int (ur17.1 0), .int (ur17.1 1), .int (ur17.1 2), .int (ur17.1 3), .ref a14, .int n0_29, .int n0_30])), (a7, .inl (ct 0, 15, .inl f7)), (a8, .inl (ct 0, 200, .inl f8)), (a9, .inl (ct 0, 1000, .inl f9)), (a11, .inl (ct 0, 8, .inl (ur17.2.1 0))), (a12, .inl (ct 0, 8, .inl (ur17.2.1 1))), (a13, .inl (ct 0, 8, .inl (ur17.2.1 2)))] H := hP.sub [0, 1, 2, 3, 4, 5, 6] rfl
      have hD : va_D A [(a0, .inr (11, [.int n0_0, .ref a1, .ref a2, .ref a3, .ref a4, .ref a5, .int n0_6, .int n0_7, .int n0_8, .int n0_9, .int n0_10, .long l0_11, .int n0_12, .int n0_13, .int n0_14, .int n0_15, .ref a6, .ref a7, .ref a8, .ref a9, .ref a10, .ref a11, .ref a12, .ref a13, .int (ur17.1 0), .int (ur17.1 1), .int (ur17.1 2), .int (ur17.1 3), .ref a14, .int n0_29, .int n0_30])), (a7, .inl (ct 0, 15, .inl f7)), (a8, .inl (ct 0, 200, .inl f8)), (a9, .inl (ct 0, 1000, .inl f9)), (a11, .inl (ct 0, 8, .inl (ur17.2.1 0))), (a12, .inl (ct 0, 8, .inl (ur17.2.1 1))), (a13, .inl (ct 0, 8, .inl (ur17.2.1 2)))] := hD.sub [0, 1, 2, 3, 4, 5, 6] (by decide) rfl
      obtain ⟨p_8, p_9, -⟩ := wr17
      refine lv_aload_n hx hb dX11_isDuel_20 rfl (lv_at hl 0 rfl) ?_
      refine lv_iload_n hx hb dX11_isDuel_21 rfl (lv_at hl 1 rfl) ?_
      refine ro_calli (va_runV (As := [.int p0]) (rest := []) ⟨hx, hb, hml, hown, hts⟩ (a_X11_handOf l G ct a0 n0_0 a1 a2 a3 a4 a5 n0_6 n0_7 n0_8 n0_9 n0_10 l0_11 n0_12 n0_13 n0_14 n0_15 a6 a7 a8 a9 a10 a11 a12 a13 (ur17.1 0) (ur17.1 1) (ur17.1 2) (ur17.1 3) a14 n0_29 n0_30 f7 (ur17.2.1 0) p0 hp_n0_6 hp_f7 p_8) (cwV 1 hts gX11_isDuel_X11_handOf rfl rfl rfl (by decide +kernel) ⟨Nat.le_of_ble_eq_true rfl, Nat.le_of_ble_eq_true rfl⟩) (ro_preV 11 0 hK (hP.sub [0, 1, 4] rfl) rfl rfl) rfl rfl hl.1 rfl (lv_room (Nat.le_of_ble_eq_true rfl)) dX11_isDuel_22 ⟨Nat.zero_le _, Nat.zero_le _⟩) hS hP (fun r22 H locs wr22 hP hS => ?_)
      obtain ⟨p_10, p_11, p_12, -⟩ := wr22
      refine lv_if_eq (tgt := 40) hx hb dX11_isDuel_25 (by decide) (fun c25 => ?_) (fun c25 => ?_)
      · have h_13 : rg 0 0 r22 := r_eq_l_i (e := 0) (f := 0) c25 p_10 (rgn 0 (x := 0) (by decide)) (by decide)
        refine lv_iconst (v := 0) hx hb dX11_isDuel_40 (by decide) ?_
        exact W.zret (v := 0) (ty := .boolean) hx hb hr (rfl) (fun t ht hW => ⟨⟨0, (fun k => ([ur17.1 0, ur17.1 1, ur17.1 2, ur17.1 3] : List Int32).getD k 0, fun k => ([ur17.2.1 0, ur17.2.1 1, ur17.2.1 2] : List (Nat → Int32)).getD k (fun _ => 0), fun k => ([] : List (Nat → Int64)).getD k (fun _ => 0)), rfl, ⟨(rg_w (c := 0) (d := 1) (rgn 0 (x := 0) (by decide)) (by decide)), (fun _ => h_6), (fun _ => h_7), p_8, p_9, (fun hq => absurd (req (rgn 0 (x := 0) (by decide)) (y := 0) (by decide)) hq), (fun hq => absurd (req (rgn 0 (x := 0) (by decide)) (y := 0) (by decide)) hq), trivial⟩, hp_at ht hP⟩, hS.F ht⟩) hS.2.2 dX11_isDuel_41
      · have h_14 : rg 1 255 r22 := r_ne_lo_i c25 p_10 (by decide) (by decide)
        refine lv_aload_n hx hb dX11_isDuel_28 rfl (lv_at hl 0 rfl) ?_
        refine lv_iload_n hx hb dX11_isDuel_29 rfl (lv_at hl 2 rfl) ?_
        refine ro_calli (va_runV (As := [.int p1]) (rest := []) ⟨hx, hb, hml, hown, hts⟩ (a_X11_handOf l G ct a0 n0_0 a1 a2 a3 a4 a5 n0_6 n0_7 n0_8 n0_9 n0_10 l0_11 n0_12 n0_13 n0_14 n0_15 a6 a7 a8 a9 a10 a11 a12 a13 (ur17.1 0) (ur17.1 1) (ur17.1 2) (ur17.1 3) a14 n0_29 n0_30 f7 (ur17.2.1 0) p1 hp_n0_6 hp_f7 p_8) (cwV 1 hts gX11_isDuel_X11_handOf rfl rfl rfl (by decide +kernel) ⟨Nat.le_of_ble_eq_true rfl, Nat.le_of_ble_eq_true rfl⟩) (ro_preV 11 0 hK (hP.sub [0, 1, 4] rfl) rfl rfl) rfl rfl hl.1 rfl (lv_room (Nat.le_of_ble_eq_true rfl)) dX11_isDuel_30 ⟨Nat.zero_le _, Nat.zero_le _⟩) hS hP (fun r30 H locs wr30 hP hS => ?_)
        obtain ⟨p_15, p_16, p_17, -⟩ := wr30
        refine lv_if_eq (tgt := 40) hx hb dX11_isDuel_33 (by decide) (fun c33 => ?_) (fun c33 => ?_)
        · have h_18 : rg 0 0 r30 := r_eq_l_i (e := 0) (f := 0) c33 p_15 (rgn 0 (x := 0) (by decide)) (by decide)
          refine lv_iconst (v := 0) hx hb dX11_isDuel_40 (by decide) ?_
          exact W.zret (v := 0) (ty := .boolean) hx hb hr (rfl) (fun t ht hW => ⟨⟨0, (fun k => ([ur17.1 0, ur17.1 1, ur17.1 2, ur17.1 3] : List Int32).getD k 0, fun k => ([ur17.2.1 0, ur17.2.1 1, ur17.2.1 2] : List (Nat → Int32)).getD k (fun _ => 0), fun k => ([] : List (Nat → Int64)).getD k (fun _ => 0)), rfl, ⟨(rg_w (c := 0) (d := 1) (rgn 0 (x := 0) (by decide)) (by decide)), (fun _ => h_6), (fun _ => h_7), p_8, p_9, (fun hq => absurd (req (rgn 0 (x := 0) (by decide)) (y := 0) (by decide)) hq), (fun hq => absurd (req (rgn 0 (x := 0) (by decide)) (y := 0) (by decide)) hq), trivial⟩, hp_at ht hP⟩, hS.F ht⟩) hS.2.2 dX11_isDuel_41
        · have h_19 : rg 1 255 r30 := r_ne_lo_i c33 p_15 (by decide) (by decide)
          refine lv_iconst (v := 1) hx hb dX11_isDuel_36 (by decide) ?_
          refine lv_goto (tgt := 41) hx hb dX11_isDuel_37 (by decide) ?_
          exact W.zret (v := 1) (ty := .boolean) hx hb hr (rfl) (fun t ht hW => ⟨⟨1, (fun k => ([ur17.1 0, ur17.1 1, ur17.1 2, ur17.1 3] : List Int32).getD k 0, fun k => ([ur17.2.1 0, ur17.2.1 1, ur17.2.1 2] : List (Nat → Int32)).getD k (fun _ => 0), fun k => ([] : List (Nat → Int64)).getD k (fun _ => 0)), rfl, ⟨(rg_w (c := 0) (d := 1) (rgn 1 (x := 1) (by decide)) (by decide)), (fun _ => h_6), (fun _ => h_7), p_8, p_9, (fun _ => (p_11 (rne h_14 (y := 0) (c := 0) (by decide) (by decide)))), (fun _ => (p_16 (rne h_19 (y := 0) (c := 0) (by decide) (by decide)))), trivial⟩, hp_at ht hP⟩, hS.F ht⟩) hS.2.2 dX11_isDuel_41
    · refine lv_iconst (v := 0) hx hb dX11_isDuel_14 (by decide) ?_
      exact W.zret (v := 0) (ty := .boolean) hx hb hr (rfl) (fun t ht hW => ⟨⟨0, (fun k => ([n0_24, n0_25, n0_26, n0_27] : List Int32).getD k 0, fun k => ([f11, f12, f13] : List (Nat → Int32)).getD k (fun _ => 0), fun k => ([] : List (Nat → Int64)).getD k (fun _ => 0)), rfl, ⟨(rg_w (c := 0) (d := 1) (rgn 0 (x := 0) (by decide)) (by decide)), (fun _ => h_6), (fun _ => h_7), hp_f11, hp_f13, (fun hq => absurd (req (rgn 0 (x := 0) (by decide)) (y := 0) (by decide)) hq), (fun hq => absurd (req (rgn 0 (x := 0) (by decide)) (y := 0) (by decide)) hq), trivial⟩, hp_at ht hP⟩, hS.F ht⟩) hS.2.2 dX11_isDuel_15

set_option maxHeartbeats 4000000 in
set_option maxRecDepth 100000 in
theorem a_X11_common0 (l : Launch) (G : va_G) (ct : Nat → ClassId) (p0 : Int32) (hp_p0 : rg 1 64 p0) : Met l yX11_common wsX11_common ({ frames := 0, cells := 0, slots := 0, locals := 0 }) (va_Pc [.int p0, .int 0] (roP G ct [])) (roQ (fun r => rg 1 64 r ∧ True)) 0 0 no := by
  refine Met.ofW (cc := cX11_common) (maxL := 2) (ret := (some .int)) (by decide) rfl ?_
  intro p e s m args below meth c s₁ B hml hv
  obtain ⟨rfl, hP, hK⟩ := hv
  have hx := B.exec
  have hb := B.bytes
  have hr := B.returns
  have hts := atoms_spec (ws := wsX11_common) B.pre
  have hown : s.vm.findClass RX11 = some m.cls := findClass_of_methodNamed B.named
  have hlocks := B.notSynchronized
  have hS : va_S no s.heap s.heap [] := va_S.rf
  have hl := lv_entry ([.int p0, .int 0]) (n := 2) (Nat.le_of_ble_eq_true rfl)
  rw [lg_entry_eq]
  generalize (lg_sl ([.int p0, .int 0]) ++ List.replicate (2 - (lg_sl ([.int p0, .int 0])).length) Slot.unset).toArray = ls at hl ⊢
  have hl : lv_has ls 2 [(0, .int p0), (1, .int 0)] := hl
  refine lv_iload_n hx hb dX11_common_0 rfl (lv_at hl 1 rfl) ?_
  refine lv_if_ne (tgt := 8) hx hb dX11_common_1 (by decide) (fun c1 => ?_) (fun c1 => ?_)
  · exact absurd c1 (by decide)
  · refine lv_iload_n hx hb dX11_common_4 rfl (lv_at hl 0 rfl) ?_
    refine lv_goto (tgt := 15) hx hb dX11_common_5 (by decide) ?_
    exact W.iret (v := p0) hx hb hr (fun t ht hW => ⟨⟨p0, (), rfl, ⟨hp_p0, trivial⟩, trivial⟩, hS.F ht⟩) hS.2.2 dX11_common_15

set_option maxHeartbeats 4000000 in
set_option maxRecDepth 100000 in
theorem a_X11_common_0 (l : Launch) (G : va_G) (ct : Nat → ClassId) (p0 : Int32) (p1 : Int32) (hp_p0 : rg 1 64 p0) (hp_p1 : rg 0 0 p1) : Met l yX11_common wsX11_common ({ frames := 0, cells := 0, slots := 0, locals := 0 }) (va_Pc [.int p0, .int p1] (roP G ct [])) (roQ (fun r => rg 1 64 r ∧ True)) 0 0 no := by
  refine Met.ofW (cc := cX11_common) (maxL := 2) (ret := (some .int)) (by decide) rfl ?_
  intro p e s m args below meth c s₁ B hml hv
  obtain ⟨rfl, hP, hK⟩ := hv
  have hx := B.exec
  have hb := B.bytes
  have hr := B.returns
  have hts := atoms_spec (ws := wsX11_common) B.pre
  have hown : s.vm.findClass RX11 = some m.cls := findClass_of_methodNamed B.named
  have hlocks := B.notSynchronized
  have hS : va_S no s.heap s.heap [] := va_S.rf
  have hl := lv_entry ([.int p0, .int p1]) (n := 2) (Nat.le_of_ble_eq_true rfl)
  rw [lg_entry_eq]
  generalize (lg_sl ([.int p0, .int p1]) ++ List.replicate (2 - (lg_sl ([.int p0, .int p1])).length) Slot.unset).toArray = ls at hl ⊢
  have hl : lv_has ls 2 [(0, .int p0), (1, .int p1)] := hl
  refine lv_iload_n hx hb dX11_common_0 rfl (lv_at hl 1 rfl) ?_
  refine lv_if_ne (tgt := 8) hx hb dX11_common_1 (by decide) (fun c1 => ?_) (fun c1 => ?_)
  · exact (dd_ne_i c1 hp_p1 (rgn 0 (x := 0) (by decide))).elim
  · refine lv_iload_n hx hb dX11_common_4 rfl (lv_at hl 0 rfl) ?_
    refine lv_goto (tgt := 15) hx hb dX11_common_5 (by decide) ?_
    exact W.iret (v := p0) hx hb hr (fun t ht hW => ⟨⟨p0, (), rfl, ⟨hp_p0, trivial⟩, trivial⟩, hS.F ht⟩) hS.2.2 dX11_common_15

set_option maxHeartbeats 4000000 in
set_option maxRecDepth 100000 in
theorem a_X11_common_1 (l : Launch) (G : va_G) (ct : Nat → ClassId) (p0 : Int32) (p1 : Int32) (hp_p0 : rg 1 64 p0) (hp_p1 : rg 0 1 p1) : Met l yX11_common wsX11_common ({ frames := 1, cells := 0, slots := 0, locals := 30 }) (va_Pc [.int p0, .int p1] (roP G ct [])) (roQ (fun r => rg 1 64 r ∧ True)) 0 0 no := by
  refine Met.ofW (cc := cX11_common) (maxL := 2) (ret := (some .int)) (by decide) rfl ?_
  intro p e s m args below meth c s₁ B hml hv
  obtain ⟨rfl, hP, hK⟩ := hv
  have hx := B.exec
  have hb := B.bytes
  have hr := B.returns
  have hts := atoms_spec (ws := wsX11_common) B.pre
  have hown : s.vm.findClass RX11 = some m.cls := findClass_of_methodNamed B.named
  have hlocks := B.notSynchronized
  have hS : va_S no s.heap s.heap [] := va_S.rf
  have hl := lv_entry ([.int p0, .int p1]) (n := 2) (Nat.le_of_ble_eq_true rfl)
  rw [lg_entry_eq]
  generalize (lg_sl ([.int p0, .int p1]) ++ List.replicate (2 - (lg_sl ([.int p0, .int p1])).length) Slot.unset).toArray = ls at hl ⊢
  have hl : lv_has ls 2 [(0, .int p0), (1, .int p1)] := hl
  refine lv_iload_n hx hb dX11_common_0 rfl (lv_at hl 1 rfl) ?_
  refine lv_if_ne (tgt := 8) hx hb dX11_common_1 (by decide) (fun c1 => ?_) (fun c1 => ?_)
  · have h_1 : rg 1 1 p1 := r_ne_lo_i c1 hp_p1 (by decide) (by decide)
    refine lv_iload_n hx hb dX11_common_8 rfl (lv_at hl 1 rfl) ?_
    refine lv_iload_n hx hb dX11_common_9 rfl (lv_at hl 0 rfl) ?_
    refine lv_iload_n hx hb dX11_common_10 rfl (lv_at hl 1 rfl) ?_
    refine lv_irem hx hb dX11_common_11 (rne0 h_1 (by decide)) ?_
    refine nm_rem (f := 0) hp_p0 h_1 (by decide) (fun z11 hz11 tz11 => ?_)
    refine ro_calli (va_runS (As := [.int p1, .int z11]) (rest := []) ⟨hx, hb, hml, hown, hts⟩ (a_X11_common_0 l G ct p1 z11 (rg_w (c := 1) (d := 64) h_1 (by decide)) hz11) (va_cwS 2 hts gX11_common_X11_common rfl rfl rfl (by decide +kernel) ⟨Nat.le_of_ble_eq_true rfl, Nat.le_of_ble_eq_true rfl⟩) (ro_pre hK (hP.sub [] rfl)) rfl rfl hl.1 rfl (lv_room (Nat.le_of_ble_eq_true rfl)) dX11_common_12 ⟨Nat.zero_le _, Nat.zero_le _⟩) hS hP (fun r12 H locs wr12 hP hS => ?_)
    obtain ⟨p_2, -⟩ := wr12
    exact W.iret (v := r12) hx hb hr (fun t ht hW => ⟨⟨r12, (), rfl, ⟨p_2, trivial⟩, trivial⟩, hS.F ht⟩) hS.2.2 dX11_common_15
  · have h_3 : rg 0 0 p1 := r_eq_l_i (e := 0) (f := 0) c1 hp_p1 (rgn 0 (x := 0) (by decide)) (by decide)
    refine lv_iload_n hx hb dX11_common_4 rfl (lv_at hl 0 rfl) ?_
    refine lv_goto (tgt := 15) hx hb dX11_common_5 (by decide) ?_
    exact W.iret (v := p0) hx hb hr (fun t ht hW => ⟨⟨p0, (), rfl, ⟨hp_p0, trivial⟩, trivial⟩, hS.F ht⟩) hS.2.2 dX11_common_15

set_option maxHeartbeats 4000000 in
set_option maxRecDepth 100000 in
theorem a_X11_common_2 (l : Launch) (G : va_G) (ct : Nat → ClassId) (p0 : Int32) (p1 : Int32) (hp_p0 : rg 1 64 p0) (hp_p1 : rg 0 2 p1) : Met l yX11_common wsX11_common ({ frames := 2, cells := 0, slots := 0, locals := 60 }) (va_Pc [.int p0, .int p1] (roP G ct [])) (roQ (fun r => rg 1 64 r ∧ True)) 0 0 no := by
  refine Met.ofW (cc := cX11_common) (maxL := 2) (ret := (some .int)) (by decide) rfl ?_
  intro p e s m args below meth c s₁ B hml hv
  obtain ⟨rfl, hP, hK⟩ := hv
  have hx := B.exec
  have hb := B.bytes
  have hr := B.returns
  have hts := atoms_spec (ws := wsX11_common) B.pre
  have hown : s.vm.findClass RX11 = some m.cls := findClass_of_methodNamed B.named
  have hlocks := B.notSynchronized
  have hS : va_S no s.heap s.heap [] := va_S.rf
  have hl := lv_entry ([.int p0, .int p1]) (n := 2) (Nat.le_of_ble_eq_true rfl)
  rw [lg_entry_eq]
  generalize (lg_sl ([.int p0, .int p1]) ++ List.replicate (2 - (lg_sl ([.int p0, .int p1])).length) Slot.unset).toArray = ls at hl ⊢
  have hl : lv_has ls 2 [(0, .int p0), (1, .int p1)] := hl
  refine lv_iload_n hx hb dX11_common_0 rfl (lv_at hl 1 rfl) ?_
  refine lv_if_ne (tgt := 8) hx hb dX11_common_1 (by decide) (fun c1 => ?_) (fun c1 => ?_)
  · have h_1 : rg 1 2 p1 := r_ne_lo_i c1 hp_p1 (by decide) (by decide)
    refine lv_iload_n hx hb dX11_common_8 rfl (lv_at hl 1 rfl) ?_
    refine lv_iload_n hx hb dX11_common_9 rfl (lv_at hl 0 rfl) ?_
    refine lv_iload_n hx hb dX11_common_10 rfl (lv_at hl 1 rfl) ?_
    refine lv_irem hx hb dX11_common_11 (rne0 h_1 (by decide)) ?_
    refine nm_rem (f := 1) hp_p0 h_1 (by decide) (fun z11 hz11 tz11 => ?_)
    refine ro_calli (va_runS (As := [.int p1, .int z11]) (rest := []) ⟨hx, hb, hml, hown, hts⟩ (a_X11_common_1 l G ct p1 z11 (rg_w (c := 1) (d := 64) h_1 (by decide)) hz11) (va_cwS 2 hts gX11_common_X11_common rfl rfl rfl (by decide +kernel) ⟨Nat.le_of_ble_eq_true rfl, Nat.le_of_ble_eq_true rfl⟩) (ro_pre hK (hP.sub [] rfl)) rfl rfl hl.1 rfl (lv_room (Nat.le_of_ble_eq_true rfl)) dX11_common_12 ⟨Nat.zero_le _, Nat.zero_le _⟩) hS hP (fun r12 H locs wr12 hP hS => ?_)
    obtain ⟨p_2, -⟩ := wr12
    exact W.iret (v := r12) hx hb hr (fun t ht hW => ⟨⟨r12, (), rfl, ⟨p_2, trivial⟩, trivial⟩, hS.F ht⟩) hS.2.2 dX11_common_15
  · have h_3 : rg 0 0 p1 := r_eq_l_i (e := 0) (f := 0) c1 hp_p1 (rgn 0 (x := 0) (by decide)) (by decide)
    refine lv_iload_n hx hb dX11_common_4 rfl (lv_at hl 0 rfl) ?_
    refine lv_goto (tgt := 15) hx hb dX11_common_5 (by decide) ?_
    exact W.iret (v := p0) hx hb hr (fun t ht hW => ⟨⟨p0, (), rfl, ⟨hp_p0, trivial⟩, trivial⟩, hS.F ht⟩) hS.2.2 dX11_common_15

set_option maxHeartbeats 4000000 in
set_option maxRecDepth 100000 in
theorem a_X11_common_3 (l : Launch) (G : va_G) (ct : Nat → ClassId) (p0 : Int32) (p1 : Int32) (hp_p0 : rg 1 64 p0) (hp_p1 : rg 0 3 p1) : Met l yX11_common wsX11_common ({ frames := 3, cells := 0, slots := 0, locals := 90 }) (va_Pc [.int p0, .int p1] (roP G ct [])) (roQ (fun r => rg 1 64 r ∧ True)) 0 0 no := by
  refine Met.ofW (cc := cX11_common) (maxL := 2) (ret := (some .int)) (by decide) rfl ?_
  intro p e s m args below meth c s₁ B hml hv
  obtain ⟨rfl, hP, hK⟩ := hv
  have hx := B.exec
  have hb := B.bytes
  have hr := B.returns
  have hts := atoms_spec (ws := wsX11_common) B.pre
  have hown : s.vm.findClass RX11 = some m.cls := findClass_of_methodNamed B.named
  have hlocks := B.notSynchronized
  have hS : va_S no s.heap s.heap [] := va_S.rf
  have hl := lv_entry ([.int p0, .int p1]) (n := 2) (Nat.le_of_ble_eq_true rfl)
  rw [lg_entry_eq]
  generalize (lg_sl ([.int p0, .int p1]) ++ List.replicate (2 - (lg_sl ([.int p0, .int p1])).length) Slot.unset).toArray = ls at hl ⊢
  have hl : lv_has ls 2 [(0, .int p0), (1, .int p1)] := hl
  refine lv_iload_n hx hb dX11_common_0 rfl (lv_at hl 1 rfl) ?_
  refine lv_if_ne (tgt := 8) hx hb dX11_common_1 (by decide) (fun c1 => ?_) (fun c1 => ?_)
  · have h_1 : rg 1 3 p1 := r_ne_lo_i c1 hp_p1 (by decide) (by decide)
    refine lv_iload_n hx hb dX11_common_8 rfl (lv_at hl 1 rfl) ?_
    refine lv_iload_n hx hb dX11_common_9 rfl (lv_at hl 0 rfl) ?_
    refine lv_iload_n hx hb dX11_common_10 rfl (lv_at hl 1 rfl) ?_
    refine lv_irem hx hb dX11_common_11 (rne0 h_1 (by decide)) ?_
    refine nm_rem (f := 2) hp_p0 h_1 (by decide) (fun z11 hz11 tz11 => ?_)
    refine ro_calli (va_runS (As := [.int p1, .int z11]) (rest := []) ⟨hx, hb, hml, hown, hts⟩ (a_X11_common_2 l G ct p1 z11 (rg_w (c := 1) (d := 64) h_1 (by decide)) hz11) (va_cwS 2 hts gX11_common_X11_common rfl rfl rfl (by decide +kernel) ⟨Nat.le_of_ble_eq_true rfl, Nat.le_of_ble_eq_true rfl⟩) (ro_pre hK (hP.sub [] rfl)) rfl rfl hl.1 rfl (lv_room (Nat.le_of_ble_eq_true rfl)) dX11_common_12 ⟨Nat.zero_le _, Nat.zero_le _⟩) hS hP (fun r12 H locs wr12 hP hS => ?_)
    obtain ⟨p_2, -⟩ := wr12
    exact W.iret (v := r12) hx hb hr (fun t ht hW => ⟨⟨r12, (), rfl, ⟨p_2, trivial⟩, trivial⟩, hS.F ht⟩) hS.2.2 dX11_common_15
  · have h_3 : rg 0 0 p1 := r_eq_l_i (e := 0) (f := 0) c1 hp_p1 (rgn 0 (x := 0) (by decide)) (by decide)
    refine lv_iload_n hx hb dX11_common_4 rfl (lv_at hl 0 rfl) ?_
    refine lv_goto (tgt := 15) hx hb dX11_common_5 (by decide) ?_
    exact W.iret (v := p0) hx hb hr (fun t ht hW => ⟨⟨p0, (), rfl, ⟨hp_p0, trivial⟩, trivial⟩, hS.F ht⟩) hS.2.2 dX11_common_15

set_option maxHeartbeats 4000000 in
set_option maxRecDepth 100000 in
theorem a_X11_common_4 (l : Launch) (G : va_G) (ct : Nat → ClassId) (p0 : Int32) (p1 : Int32) (hp_p0 : rg 1 64 p0) (hp_p1 : rg 0 4 p1) : Met l yX11_common wsX11_common ({ frames := 4, cells := 0, slots := 0, locals := 120 }) (va_Pc [.int p0, .int p1] (roP G ct [])) (roQ (fun r => rg 1 64 r ∧ True)) 0 0 no := by
  refine Met.ofW (cc := cX11_common) (maxL := 2) (ret := (some .int)) (by decide) rfl ?_
  intro p e s m args below meth c s₁ B hml hv
  obtain ⟨rfl, hP, hK⟩ := hv
  have hx := B.exec
  have hb := B.bytes
  have hr := B.returns
  have hts := atoms_spec (ws := wsX11_common) B.pre
  have hown : s.vm.findClass RX11 = some m.cls := findClass_of_methodNamed B.named
  have hlocks := B.notSynchronized
  have hS : va_S no s.heap s.heap [] := va_S.rf
  have hl := lv_entry ([.int p0, .int p1]) (n := 2) (Nat.le_of_ble_eq_true rfl)
  rw [lg_entry_eq]
  generalize (lg_sl ([.int p0, .int p1]) ++ List.replicate (2 - (lg_sl ([.int p0, .int p1])).length) Slot.unset).toArray = ls at hl ⊢
  have hl : lv_has ls 2 [(0, .int p0), (1, .int p1)] := hl
  refine lv_iload_n hx hb dX11_common_0 rfl (lv_at hl 1 rfl) ?_
  refine lv_if_ne (tgt := 8) hx hb dX11_common_1 (by decide) (fun c1 => ?_) (fun c1 => ?_)
  · have h_1 : rg 1 4 p1 := r_ne_lo_i c1 hp_p1 (by decide) (by decide)
    refine lv_iload_n hx hb dX11_common_8 rfl (lv_at hl 1 rfl) ?_
    refine lv_iload_n hx hb dX11_common_9 rfl (lv_at hl 0 rfl) ?_
    refine lv_iload_n hx hb dX11_common_10 rfl (lv_at hl 1 rfl) ?_
    refine lv_irem hx hb dX11_common_11 (rne0 h_1 (by decide)) ?_
    refine nm_rem (f := 3) hp_p0 h_1 (by decide) (fun z11 hz11 tz11 => ?_)
    refine ro_calli (va_runS (As := [.int p1, .int z11]) (rest := []) ⟨hx, hb, hml, hown, hts⟩ (a_X11_common_3 l G ct p1 z11 (rg_w (c := 1) (d := 64) h_1 (by decide)) hz11) (va_cwS 2 hts gX11_common_X11_common rfl rfl rfl (by decide +kernel) ⟨Nat.le_of_ble_eq_true rfl, Nat.le_of_ble_eq_true rfl⟩) (ro_pre hK (hP.sub [] rfl)) rfl rfl hl.1 rfl (lv_room (Nat.le_of_ble_eq_true rfl)) dX11_common_12 ⟨Nat.zero_le _, Nat.zero_le _⟩) hS hP (fun r12 H locs wr12 hP hS => ?_)
    obtain ⟨p_2, -⟩ := wr12
    exact W.iret (v := r12) hx hb hr (fun t ht hW => ⟨⟨r12, (), rfl, ⟨p_2, trivial⟩, trivial⟩, hS.F ht⟩) hS.2.2 dX11_common_15
  · have h_3 : rg 0 0 p1 := r_eq_l_i (e := 0) (f := 0) c1 hp_p1 (rgn 0 (x := 0) (by decide)) (by decide)
    refine lv_iload_n hx hb dX11_common_4 rfl (lv_at hl 0 rfl) ?_
    refine lv_goto (tgt := 15) hx hb dX11_common_5 (by decide) ?_
    exact W.iret (v := p0) hx hb hr (fun t ht hW => ⟨⟨p0, (), rfl, ⟨hp_p0, trivial⟩, trivial⟩, hS.F ht⟩) hS.2.2 dX11_common_15

set_option maxHeartbeats 4000000 in
set_option maxRecDepth 100000 in
theorem a_X11_common_5 (l : Launch) (G : va_G) (ct : Nat → ClassId) (p0 : Int32) (p1 : Int32) (hp_p0 : rg 1 64 p0) (hp_p1 : rg 0 5 p1) : Met l yX11_common wsX11_common ({ frames := 5, cells := 0, slots := 0, locals := 150 }) (va_Pc [.int p0, .int p1] (roP G ct [])) (roQ (fun r => rg 1 64 r ∧ True)) 0 0 no := by
  refine Met.ofW (cc := cX11_common) (maxL := 2) (ret := (some .int)) (by decide) rfl ?_
  intro p e s m args below meth c s₁ B hml hv
  obtain ⟨rfl, hP, hK⟩ := hv
  have hx := B.exec
  have hb := B.bytes
  have hr := B.returns
  have hts := atoms_spec (ws := wsX11_common) B.pre
  have hown : s.vm.findClass RX11 = some m.cls := findClass_of_methodNamed B.named
  have hlocks := B.notSynchronized
  have hS : va_S no s.heap s.heap [] := va_S.rf
  have hl := lv_entry ([.int p0, .int p1]) (n := 2) (Nat.le_of_ble_eq_true rfl)
  rw [lg_entry_eq]
  generalize (lg_sl ([.int p0, .int p1]) ++ List.replicate (2 - (lg_sl ([.int p0, .int p1])).length) Slot.unset).toArray = ls at hl ⊢
  have hl : lv_has ls 2 [(0, .int p0), (1, .int p1)] := hl
  refine lv_iload_n hx hb dX11_common_0 rfl (lv_at hl 1 rfl) ?_
  refine lv_if_ne (tgt := 8) hx hb dX11_common_1 (by decide) (fun c1 => ?_) (fun c1 => ?_)
  · have h_1 : rg 1 5 p1 := r_ne_lo_i c1 hp_p1 (by decide) (by decide)
    refine lv_iload_n hx hb dX11_common_8 rfl (lv_at hl 1 rfl) ?_
    refine lv_iload_n hx hb dX11_common_9 rfl (lv_at hl 0 rfl) ?_
    refine lv_iload_n hx hb dX11_common_10 rfl (lv_at hl 1 rfl) ?_
    refine lv_irem hx hb dX11_common_11 (rne0 h_1 (by decide)) ?_
    refine nm_rem (f := 4) hp_p0 h_1 (by decide) (fun z11 hz11 tz11 => ?_)
    refine ro_calli (va_runS (As := [.int p1, .int z11]) (rest := []) ⟨hx, hb, hml, hown, hts⟩ (a_X11_common_4 l G ct p1 z11 (rg_w (c := 1) (d := 64) h_1 (by decide)) hz11) (va_cwS 2 hts gX11_common_X11_common rfl rfl rfl (by decide +kernel) ⟨Nat.le_of_ble_eq_true rfl, Nat.le_of_ble_eq_true rfl⟩) (ro_pre hK (hP.sub [] rfl)) rfl rfl hl.1 rfl (lv_room (Nat.le_of_ble_eq_true rfl)) dX11_common_12 ⟨Nat.zero_le _, Nat.zero_le _⟩) hS hP (fun r12 H locs wr12 hP hS => ?_)
    obtain ⟨p_2, -⟩ := wr12
    exact W.iret (v := r12) hx hb hr (fun t ht hW => ⟨⟨r12, (), rfl, ⟨p_2, trivial⟩, trivial⟩, hS.F ht⟩) hS.2.2 dX11_common_15
  · have h_3 : rg 0 0 p1 := r_eq_l_i (e := 0) (f := 0) c1 hp_p1 (rgn 0 (x := 0) (by decide)) (by decide)
    refine lv_iload_n hx hb dX11_common_4 rfl (lv_at hl 0 rfl) ?_
    refine lv_goto (tgt := 15) hx hb dX11_common_5 (by decide) ?_
    exact W.iret (v := p0) hx hb hr (fun t ht hW => ⟨⟨p0, (), rfl, ⟨hp_p0, trivial⟩, trivial⟩, hS.F ht⟩) hS.2.2 dX11_common_15

set_option maxHeartbeats 4000000 in
set_option maxRecDepth 100000 in
theorem a_X11_common_6 (l : Launch) (G : va_G) (ct : Nat → ClassId) (p0 : Int32) (p1 : Int32) (hp_p0 : rg 1 64 p0) (hp_p1 : rg 0 6 p1) : Met l yX11_common wsX11_common ({ frames := 6, cells := 0, slots := 0, locals := 180 }) (va_Pc [.int p0, .int p1] (roP G ct [])) (roQ (fun r => rg 1 64 r ∧ True)) 0 0 no := by
  refine Met.ofW (cc := cX11_common) (maxL := 2) (ret := (some .int)) (by decide) rfl ?_
  intro p e s m args below meth c s₁ B hml hv
  obtain ⟨rfl, hP, hK⟩ := hv
  have hx := B.exec
  have hb := B.bytes
  have hr := B.returns
  have hts := atoms_spec (ws := wsX11_common) B.pre
  have hown : s.vm.findClass RX11 = some m.cls := findClass_of_methodNamed B.named
  have hlocks := B.notSynchronized
  have hS : va_S no s.heap s.heap [] := va_S.rf
  have hl := lv_entry ([.int p0, .int p1]) (n := 2) (Nat.le_of_ble_eq_true rfl)
  rw [lg_entry_eq]
  generalize (lg_sl ([.int p0, .int p1]) ++ List.replicate (2 - (lg_sl ([.int p0, .int p1])).length) Slot.unset).toArray = ls at hl ⊢
  have hl : lv_has ls 2 [(0, .int p0), (1, .int p1)] := hl
  refine lv_iload_n hx hb dX11_common_0 rfl (lv_at hl 1 rfl) ?_
  refine lv_if_ne (tgt := 8) hx hb dX11_common_1 (by decide) (fun c1 => ?_) (fun c1 => ?_)
  · have h_1 : rg 1 6 p1 := r_ne_lo_i c1 hp_p1 (by decide) (by decide)
    refine lv_iload_n hx hb dX11_common_8 rfl (lv_at hl 1 rfl) ?_
    refine lv_iload_n hx hb dX11_common_9 rfl (lv_at hl 0 rfl) ?_
    refine lv_iload_n hx hb dX11_common_10 rfl (lv_at hl 1 rfl) ?_
    refine lv_irem hx hb dX11_common_11 (rne0 h_1 (by decide)) ?_
    refine nm_rem (f := 5) hp_p0 h_1 (by decide) (fun z11 hz11 tz11 => ?_)
    refine ro_calli (va_runS (As := [.int p1, .int z11]) (rest := []) ⟨hx, hb, hml, hown, hts⟩ (a_X11_common_5 l G ct p1 z11 (rg_w (c := 1) (d := 64) h_1 (by decide)) hz11) (va_cwS 2 hts gX11_common_X11_common rfl rfl rfl (by decide +kernel) ⟨Nat.le_of_ble_eq_true rfl, Nat.le_of_ble_eq_true rfl⟩) (ro_pre hK (hP.sub [] rfl)) rfl rfl hl.1 rfl (lv_room (Nat.le_of_ble_eq_true rfl)) dX11_common_12 ⟨Nat.zero_le _, Nat.zero_le _⟩) hS hP (fun r12 H locs wr12 hP hS => ?_)
    obtain ⟨p_2, -⟩ := wr12
    exact W.iret (v := r12) hx hb hr (fun t ht hW => ⟨⟨r12, (), rfl, ⟨p_2, trivial⟩, trivial⟩, hS.F ht⟩) hS.2.2 dX11_common_15
  · have h_3 : rg 0 0 p1 := r_eq_l_i (e := 0) (f := 0) c1 hp_p1 (rgn 0 (x := 0) (by decide)) (by decide)
    refine lv_iload_n hx hb dX11_common_4 rfl (lv_at hl 0 rfl) ?_
    refine lv_goto (tgt := 15) hx hb dX11_common_5 (by decide) ?_
    exact W.iret (v := p0) hx hb hr (fun t ht hW => ⟨⟨p0, (), rfl, ⟨hp_p0, trivial⟩, trivial⟩, hS.F ht⟩) hS.2.2 dX11_common_15

set_option maxHeartbeats 4000000 in
set_option maxRecDepth 100000 in
theorem a_X11_common_7 (l : Launch) (G : va_G) (ct : Nat → ClassId) (p0 : Int32) (p1 : Int32) (hp_p0 : rg 1 64 p0) (hp_p1 : rg 0 7 p1) : Met l yX11_common wsX11_common ({ frames := 7, cells := 0, slots := 0, locals := 210 }) (va_Pc [.int p0, .int p1] (roP G ct [])) (roQ (fun r => rg 1 64 r ∧ True)) 0 0 no := by
  refine Met.ofW (cc := cX11_common) (maxL := 2) (ret := (some .int)) (by decide) rfl ?_
  intro p e s m args below meth c s₁ B hml hv
  obtain ⟨rfl, hP, hK⟩ := hv
  have hx := B.exec
  have hb := B.bytes
  have hr := B.returns
  have hts := atoms_spec (ws := wsX11_common) B.pre
  have hown : s.vm.findClass RX11 = some m.cls := findClass_of_methodNamed B.named
  have hlocks := B.notSynchronized
  have hS : va_S no s.heap s.heap [] := va_S.rf
  have hl := lv_entry ([.int p0, .int p1]) (n := 2) (Nat.le_of_ble_eq_true rfl)
  rw [lg_entry_eq]
  generalize (lg_sl ([.int p0, .int p1]) ++ List.replicate (2 - (lg_sl ([.int p0, .int p1])).length) Slot.unset).toArray = ls at hl ⊢
  have hl : lv_has ls 2 [(0, .int p0), (1, .int p1)] := hl
  refine lv_iload_n hx hb dX11_common_0 rfl (lv_at hl 1 rfl) ?_
  refine lv_if_ne (tgt := 8) hx hb dX11_common_1 (by decide) (fun c1 => ?_) (fun c1 => ?_)
  · have h_1 : rg 1 7 p1 := r_ne_lo_i c1 hp_p1 (by decide) (by decide)
    refine lv_iload_n hx hb dX11_common_8 rfl (lv_at hl 1 rfl) ?_
    refine lv_iload_n hx hb dX11_common_9 rfl (lv_at hl 0 rfl) ?_
    refine lv_iload_n hx hb dX11_common_10 rfl (lv_at hl 1 rfl) ?_
    refine lv_irem hx hb dX11_common_11 (rne0 h_1 (by decide)) ?_
    refine nm_rem (f := 6) hp_p0 h_1 (by decide) (fun z11 hz11 tz11 => ?_)
    refine ro_calli (va_runS (As := [.int p1, .int z11]) (rest := []) ⟨hx, hb, hml, hown, hts⟩ (a_X11_common_6 l G ct p1 z11 (rg_w (c := 1) (d := 64) h_1 (by decide)) hz11) (va_cwS 2 hts gX11_common_X11_common rfl rfl rfl (by decide +kernel) ⟨Nat.le_of_ble_eq_true rfl, Nat.le_of_ble_eq_true rfl⟩) (ro_pre hK (hP.sub [] rfl)) rfl rfl hl.1 rfl (lv_room (Nat.le_of_ble_eq_true rfl)) dX11_common_12 ⟨Nat.zero_le _, Nat.zero_le _⟩) hS hP (fun r12 H locs wr12 hP hS => ?_)
    obtain ⟨p_2, -⟩ := wr12
    exact W.iret (v := r12) hx hb hr (fun t ht hW => ⟨⟨r12, (), rfl, ⟨p_2, trivial⟩, trivial⟩, hS.F ht⟩) hS.2.2 dX11_common_15
  · have h_3 : rg 0 0 p1 := r_eq_l_i (e := 0) (f := 0) c1 hp_p1 (rgn 0 (x := 0) (by decide)) (by decide)
    refine lv_iload_n hx hb dX11_common_4 rfl (lv_at hl 0 rfl) ?_
    refine lv_goto (tgt := 15) hx hb dX11_common_5 (by decide) ?_
    exact W.iret (v := p0) hx hb hr (fun t ht hW => ⟨⟨p0, (), rfl, ⟨hp_p0, trivial⟩, trivial⟩, hS.F ht⟩) hS.2.2 dX11_common_15

set_option maxHeartbeats 4000000 in
set_option maxRecDepth 100000 in
theorem a_X11_common_8 (l : Launch) (G : va_G) (ct : Nat → ClassId) (p0 : Int32) (p1 : Int32) (hp_p0 : rg 1 64 p0) (hp_p1 : rg 0 8 p1) : Met l yX11_common wsX11_common ({ frames := 8, cells := 0, slots := 0, locals := 240 }) (va_Pc [.int p0, .int p1] (roP G ct [])) (roQ (fun r => rg 1 64 r ∧ True)) 0 0 no := by
  refine Met.ofW (cc := cX11_common) (maxL := 2) (ret := (some .int)) (by decide) rfl ?_
  intro p e s m args below meth c s₁ B hml hv
  obtain ⟨rfl, hP, hK⟩ := hv
  have hx := B.exec
  have hb := B.bytes
  have hr := B.returns
  have hts := atoms_spec (ws := wsX11_common) B.pre
  have hown : s.vm.findClass RX11 = some m.cls := findClass_of_methodNamed B.named
  have hlocks := B.notSynchronized
  have hS : va_S no s.heap s.heap [] := va_S.rf
  have hl := lv_entry ([.int p0, .int p1]) (n := 2) (Nat.le_of_ble_eq_true rfl)
  rw [lg_entry_eq]
  generalize (lg_sl ([.int p0, .int p1]) ++ List.replicate (2 - (lg_sl ([.int p0, .int p1])).length) Slot.unset).toArray = ls at hl ⊢
  have hl : lv_has ls 2 [(0, .int p0), (1, .int p1)] := hl
  refine lv_iload_n hx hb dX11_common_0 rfl (lv_at hl 1 rfl) ?_
  refine lv_if_ne (tgt := 8) hx hb dX11_common_1 (by decide) (fun c1 => ?_) (fun c1 => ?_)
  · have h_1 : rg 1 8 p1 := r_ne_lo_i c1 hp_p1 (by decide) (by decide)
    refine lv_iload_n hx hb dX11_common_8 rfl (lv_at hl 1 rfl) ?_
    refine lv_iload_n hx hb dX11_common_9 rfl (lv_at hl 0 rfl) ?_
    refine lv_iload_n hx hb dX11_common_10 rfl (lv_at hl 1 rfl) ?_
    refine lv_irem hx hb dX11_common_11 (rne0 h_1 (by decide)) ?_
    refine nm_rem (f := 7) hp_p0 h_1 (by decide) (fun z11 hz11 tz11 => ?_)
    refine ro_calli (va_runS (As := [.int p1, .int z11]) (rest := []) ⟨hx, hb, hml, hown, hts⟩ (a_X11_common_7 l G ct p1 z11 (rg_w (c := 1) (d := 64) h_1 (by decide)) hz11) (va_cwS 2 hts gX11_common_X11_common rfl rfl rfl (by decide +kernel) ⟨Nat.le_of_ble_eq_true rfl, Nat.le_of_ble_eq_true rfl⟩) (ro_pre hK (hP.sub [] rfl)) rfl rfl hl.1 rfl (lv_room (Nat.le_of_ble_eq_true rfl)) dX11_common_12 ⟨Nat.zero_le _, Nat.zero_le _⟩) hS hP (fun r12 H locs wr12 hP hS => ?_)
    obtain ⟨p_2, -⟩ := wr12
    exact W.iret (v := r12) hx hb hr (fun t ht hW => ⟨⟨r12, (), rfl, ⟨p_2, trivial⟩, trivial⟩, hS.F ht⟩) hS.2.2 dX11_common_15
  · have h_3 : rg 0 0 p1 := r_eq_l_i (e := 0) (f := 0) c1 hp_p1 (rgn 0 (x := 0) (by decide)) (by decide)
    refine lv_iload_n hx hb dX11_common_4 rfl (lv_at hl 0 rfl) ?_
    refine lv_goto (tgt := 15) hx hb dX11_common_5 (by decide) ?_
    exact W.iret (v := p0) hx hb hr (fun t ht hW => ⟨⟨p0, (), rfl, ⟨hp_p0, trivial⟩, trivial⟩, hS.F ht⟩) hS.2.2 dX11_common_15

set_option maxHeartbeats 4000000 in
set_option maxRecDepth 100000 in
theorem a_X11_common_9 (l : Launch) (G : va_G) (ct : Nat → ClassId) (p0 : Int32) (p1 : Int32) (hp_p0 : rg 1 64 p0) (hp_p1 : rg 0 9 p1) : Met l yX11_common wsX11_common ({ frames := 9, cells := 0, slots := 0, locals := 270 }) (va_Pc [.int p0, .int p1] (roP G ct [])) (roQ (fun r => rg 1 64 r ∧ True)) 0 0 no := by
  refine Met.ofW (cc := cX11_common) (maxL := 2) (ret := (some .int)) (by decide) rfl ?_
  intro p e s m args below meth c s₁ B hml hv
  obtain ⟨rfl, hP, hK⟩ := hv
  have hx := B.exec
  have hb := B.bytes
  have hr := B.returns
  have hts := atoms_spec (ws := wsX11_common) B.pre
  have hown : s.vm.findClass RX11 = some m.cls := findClass_of_methodNamed B.named
  have hlocks := B.notSynchronized
  have hS : va_S no s.heap s.heap [] := va_S.rf
  have hl := lv_entry ([.int p0, .int p1]) (n := 2) (Nat.le_of_ble_eq_true rfl)
  rw [lg_entry_eq]
  generalize (lg_sl ([.int p0, .int p1]) ++ List.replicate (2 - (lg_sl ([.int p0, .int p1])).length) Slot.unset).toArray = ls at hl ⊢
  have hl : lv_has ls 2 [(0, .int p0), (1, .int p1)] := hl
  refine lv_iload_n hx hb dX11_common_0 rfl (lv_at hl 1 rfl) ?_
  refine lv_if_ne (tgt := 8) hx hb dX11_common_1 (by decide) (fun c1 => ?_) (fun c1 => ?_)
  · have h_1 : rg 1 9 p1 := r_ne_lo_i c1 hp_p1 (by decide) (by decide)
    refine lv_iload_n hx hb dX11_common_8 rfl (lv_at hl 1 rfl) ?_
    refine lv_iload_n hx hb dX11_common_9 rfl (lv_at hl 0 rfl) ?_
    refine lv_iload_n hx hb dX11_common_10 rfl (lv_at hl 1 rfl) ?_
    refine lv_irem hx hb dX11_common_11 (rne0 h_1 (by decide)) ?_
    refine nm_rem (f := 8) hp_p0 h_1 (by decide) (fun z11 hz11 tz11 => ?_)
    refine ro_calli (va_runS (As := [.int p1, .int z11]) (rest := []) ⟨hx, hb, hml, hown, hts⟩ (a_X11_common_8 l G ct p1 z11 (rg_w (c := 1) (d := 64) h_1 (by decide)) hz11) (va_cwS 2 hts gX11_common_X11_common rfl rfl rfl (by decide +kernel) ⟨Nat.le_of_ble_eq_true rfl, Nat.le_of_ble_eq_true rfl⟩) (ro_pre hK (hP.sub [] rfl)) rfl rfl hl.1 rfl (lv_room (Nat.le_of_ble_eq_true rfl)) dX11_common_12 ⟨Nat.zero_le _, Nat.zero_le _⟩) hS hP (fun r12 H locs wr12 hP hS => ?_)
    obtain ⟨p_2, -⟩ := wr12
    exact W.iret (v := r12) hx hb hr (fun t ht hW => ⟨⟨r12, (), rfl, ⟨p_2, trivial⟩, trivial⟩, hS.F ht⟩) hS.2.2 dX11_common_15
  · have h_3 : rg 0 0 p1 := r_eq_l_i (e := 0) (f := 0) c1 hp_p1 (rgn 0 (x := 0) (by decide)) (by decide)
    refine lv_iload_n hx hb dX11_common_4 rfl (lv_at hl 0 rfl) ?_
    refine lv_goto (tgt := 15) hx hb dX11_common_5 (by decide) ?_
    exact W.iret (v := p0) hx hb hr (fun t ht hW => ⟨⟨p0, (), rfl, ⟨hp_p0, trivial⟩, trivial⟩, hS.F ht⟩) hS.2.2 dX11_common_15

set_option maxHeartbeats 4000000 in
set_option maxRecDepth 100000 in
theorem a_X11_common_10 (l : Launch) (G : va_G) (ct : Nat → ClassId) (p0 : Int32) (p1 : Int32) (hp_p0 : rg 1 64 p0) (hp_p1 : rg 0 10 p1) : Met l yX11_common wsX11_common ({ frames := 10, cells := 0, slots := 0, locals := 300 }) (va_Pc [.int p0, .int p1] (roP G ct [])) (roQ (fun r => rg 1 64 r ∧ True)) 0 0 no := by
  refine Met.ofW (cc := cX11_common) (maxL := 2) (ret := (some .int)) (by decide) rfl ?_
  intro p e s m args below meth c s₁ B hml hv
  obtain ⟨rfl, hP, hK⟩ := hv
  have hx := B.exec
  have hb := B.bytes
  have hr := B.returns
  have hts := atoms_spec (ws := wsX11_common) B.pre
  have hown : s.vm.findClass RX11 = some m.cls := findClass_of_methodNamed B.named
  have hlocks := B.notSynchronized
  have hS : va_S no s.heap s.heap [] := va_S.rf
  have hl := lv_entry ([.int p0, .int p1]) (n := 2) (Nat.le_of_ble_eq_true rfl)
  rw [lg_entry_eq]
  generalize (lg_sl ([.int p0, .int p1]) ++ List.replicate (2 - (lg_sl ([.int p0, .int p1])).length) Slot.unset).toArray = ls at hl ⊢
  have hl : lv_has ls 2 [(0, .int p0), (1, .int p1)] := hl
  refine lv_iload_n hx hb dX11_common_0 rfl (lv_at hl 1 rfl) ?_
  refine lv_if_ne (tgt := 8) hx hb dX11_common_1 (by decide) (fun c1 => ?_) (fun c1 => ?_)
  · have h_1 : rg 1 10 p1 := r_ne_lo_i c1 hp_p1 (by decide) (by decide)
    refine lv_iload_n hx hb dX11_common_8 rfl (lv_at hl 1 rfl) ?_
    refine lv_iload_n hx hb dX11_common_9 rfl (lv_at hl 0 rfl) ?_
    refine lv_iload_n hx hb dX11_common_10 rfl (lv_at hl 1 rfl) ?_
    refine lv_irem hx hb dX11_common_11 (rne0 h_1 (by decide)) ?_
    refine nm_rem (f := 9) hp_p0 h_1 (by decide) (fun z11 hz11 tz11 => ?_)
    refine ro_calli (va_runS (As := [.int p1, .int z11]) (rest := []) ⟨hx, hb, hml, hown, hts⟩ (a_X11_common_9 l G ct p1 z11 (rg_w (c := 1) (d := 64) h_1 (by decide)) hz11) (va_cwS 2 hts gX11_common_X11_common rfl rfl rfl (by decide +kernel) ⟨Nat.le_of_ble_eq_true rfl, Nat.le_of_ble_eq_true rfl⟩) (ro_pre hK (hP.sub [] rfl)) rfl rfl hl.1 rfl (lv_room (Nat.le_of_ble_eq_true rfl)) dX11_common_12 ⟨Nat.zero_le _, Nat.zero_le _⟩) hS hP (fun r12 H locs wr12 hP hS => ?_)
    obtain ⟨p_2, -⟩ := wr12
    exact W.iret (v := r12) hx hb hr (fun t ht hW => ⟨⟨r12, (), rfl, ⟨p_2, trivial⟩, trivial⟩, hS.F ht⟩) hS.2.2 dX11_common_15
  · have h_3 : rg 0 0 p1 := r_eq_l_i (e := 0) (f := 0) c1 hp_p1 (rgn 0 (x := 0) (by decide)) (by decide)
    refine lv_iload_n hx hb dX11_common_4 rfl (lv_at hl 0 rfl) ?_
    refine lv_goto (tgt := 15) hx hb dX11_common_5 (by decide) ?_
    exact W.iret (v := p0) hx hb hr (fun t ht hW => ⟨⟨p0, (), rfl, ⟨hp_p0, trivial⟩, trivial⟩, hS.F ht⟩) hS.2.2 dX11_common_15

set_option maxHeartbeats 4000000 in
set_option maxRecDepth 100000 in
theorem a_X11_common_11 (l : Launch) (G : va_G) (ct : Nat → ClassId) (p0 : Int32) (p1 : Int32) (hp_p0 : rg 1 64 p0) (hp_p1 : rg 0 11 p1) : Met l yX11_common wsX11_common ({ frames := 11, cells := 0, slots := 0, locals := 330 }) (va_Pc [.int p0, .int p1] (roP G ct [])) (roQ (fun r => rg 1 64 r ∧ True)) 0 0 no := by
  refine Met.ofW (cc := cX11_common) (maxL := 2) (ret := (some .int)) (by decide) rfl ?_
  intro p e s m args below meth c s₁ B hml hv
  obtain ⟨rfl, hP, hK⟩ := hv
  have hx := B.exec
  have hb := B.bytes
  have hr := B.returns
  have hts := atoms_spec (ws := wsX11_common) B.pre
  have hown : s.vm.findClass RX11 = some m.cls := findClass_of_methodNamed B.named
  have hlocks := B.notSynchronized
  have hS : va_S no s.heap s.heap [] := va_S.rf
  have hl := lv_entry ([.int p0, .int p1]) (n := 2) (Nat.le_of_ble_eq_true rfl)
  rw [lg_entry_eq]
  generalize (lg_sl ([.int p0, .int p1]) ++ List.replicate (2 - (lg_sl ([.int p0, .int p1])).length) Slot.unset).toArray = ls at hl ⊢
  have hl : lv_has ls 2 [(0, .int p0), (1, .int p1)] := hl
  refine lv_iload_n hx hb dX11_common_0 rfl (lv_at hl 1 rfl) ?_
  refine lv_if_ne (tgt := 8) hx hb dX11_common_1 (by decide) (fun c1 => ?_) (fun c1 => ?_)
  · have h_1 : rg 1 11 p1 := r_ne_lo_i c1 hp_p1 (by decide) (by decide)
    refine lv_iload_n hx hb dX11_common_8 rfl (lv_at hl 1 rfl) ?_
    refine lv_iload_n hx hb dX11_common_9 rfl (lv_at hl 0 rfl) ?_
    refine lv_iload_n hx hb dX11_common_10 rfl (lv_at hl 1 rfl) ?_
    refine lv_irem hx hb dX11_common_11 (rne0 h_1 (by decide)) ?_
    refine nm_rem (f := 10) hp_p0 h_1 (by decide) (fun z11 hz11 tz11 => ?_)
    refine ro_calli (va_runS (As := [.int p1, .int z11]) (rest := []) ⟨hx, hb, hml, hown, hts⟩ (a_X11_common_10 l G ct p1 z11 (rg_w (c := 1) (d := 64) h_1 (by decide)) hz11) (va_cwS 2 hts gX11_common_X11_common rfl rfl rfl (by decide +kernel) ⟨Nat.le_of_ble_eq_true rfl, Nat.le_of_ble_eq_true rfl⟩) (ro_pre hK (hP.sub [] rfl)) rfl rfl hl.1 rfl (lv_room (Nat.le_of_ble_eq_true rfl)) dX11_common_12 ⟨Nat.zero_le _, Nat.zero_le _⟩) hS hP (fun r12 H locs wr12 hP hS => ?_)
    obtain ⟨p_2, -⟩ := wr12
    exact W.iret (v := r12) hx hb hr (fun t ht hW => ⟨⟨r12, (), rfl, ⟨p_2, trivial⟩, trivial⟩, hS.F ht⟩) hS.2.2 dX11_common_15
  · have h_3 : rg 0 0 p1 := r_eq_l_i (e := 0) (f := 0) c1 hp_p1 (rgn 0 (x := 0) (by decide)) (by decide)
    refine lv_iload_n hx hb dX11_common_4 rfl (lv_at hl 0 rfl) ?_
    refine lv_goto (tgt := 15) hx hb dX11_common_5 (by decide) ?_
    exact W.iret (v := p0) hx hb hr (fun t ht hW => ⟨⟨p0, (), rfl, ⟨hp_p0, trivial⟩, trivial⟩, hS.F ht⟩) hS.2.2 dX11_common_15
