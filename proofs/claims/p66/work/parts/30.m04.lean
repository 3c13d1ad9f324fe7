theorem dX11_chain_0 : decode cX11_chain 0 = .ok (.aload_n 0, 1) := by decide +kernel
theorem dX11_chain_1 : decode cX11_chain 1 = .ok (.iconst 0, 1) := by decide +kernel
theorem dX11_chain_2 : decode cX11_chain 2 = .ok (.putfield 59, 3) := by decide +kernel
theorem dX11_chain_5 : decode cX11_chain 5 = .ok (.aload_n 0, 1) := by decide +kernel
theorem dX11_chain_6 : decode cX11_chain 6 = .ok (.iload_n 1, 1) := by decide +kernel
theorem dX11_chain_7 : decode cX11_chain 7 = .ok (.iload_n 2, 1) := by decide +kernel
set_option maxRecDepth 20000 in
theorem ggX11_chain_X11_isChain : GoodIn wsX11_chain wsX11_isChain := goodIn_r _ [6, 7, 8, 9, 5, 10, 11, 12, 13, 14, 15, 16, 17, 18, 67, 68, 69, 70, 71, 72, 73, 74, 75, 76, 77, 78, 79, 80, 81, 82, 83, 84, 85, 86, 87, 88, 89, 90, 91, 92, 93, 94, 95, 96, 97] (by rfl) (by decide +kernel)
set_option maxRecDepth 20000 in
theorem gX11_chain_X11_isChain : GoodIn wsX11_chain (wsV RX11 281 RX11 yX11_isChain wsX11_isChain) := goodIn_app (goodIn_r _ [2, 3, 4, 5] (by rfl) (by decide +kernel)) ggX11_chain_X11_isChain
theorem dX11_chain_8 : decode cX11_chain 8 = .ok (.invokevirtual 281, 3) := by decide +kernel
theorem dX11_chain_11 : decode cX11_chain 11 = .ok (.ifCond .ne 6, 3) := by decide +kernel
theorem dX11_chain_17 : decode cX11_chain 17 = .ok (.aload_n 0, 1) := by decide +kernel
set_option maxRecDepth 20000 in
theorem ggX11_chain_X11_laysNow : GoodIn wsX11_chain wsX11_laysNow := goodIn_r _ [22, 11, 23, 24, 25, 26, 5, 27, 28, 29, 30, 31, 32, 33, 34, 35, 36, 37, 38, 39, 40, 41, 42, 43, 44, 45, 46, 47, 48, 49, 50, 51, 52, 53, 54, 55, 56, 57, 58, 67, 68, 69, 70, 71, 72, 73, 74, 75, 76, 77, 78, 79, 80, 81, 82, 83, 84, 85, 86, 87, 88, 89, 90, 91, 92, 93, 94, 95, 96, 97] (by rfl) (by decide +kernel)
set_option maxRecDepth 20000 in
theorem gX11_chain_X11_laysNow : GoodIn wsX11_chain (wsV RX11 251 RX11 yX11_laysNow wsX11_laysNow) := goodIn_app (goodIn_r _ [19, 20, 21, 5] (by rfl) (by decide +kernel)) ggX11_chain_X11_laysNow
theorem dX11_chain_18 : decode cX11_chain 18 = .ok (.invokevirtual 251, 3) := by decide +kernel
theorem dX11_chain_21 : decode cX11_chain 21 = .ok (.aload_n 0, 1) := by decide +kernel
theorem dX11_chain_22 : decode cX11_chain 22 = .ok (.iload_n 1, 1) := by decide +kernel
theorem dX11_chain_23 : decode cX11_chain 23 = .ok (.iload_n 2, 1) := by decide +kernel
set_option maxRecDepth 20000 in
theorem ggX11_chain_X11_doerOf : GoodIn wsX11_chain wsX11_doerOf := goodIn_r _ [62, 11, 63, 64, 65, 5, 66, 28, 35, 36, 37, 38, 39, 56, 57, 58, 67, 68, 69, 70, 71, 72, 73, 74, 75, 76, 77, 78, 79, 80, 81, 82, 83, 84, 85, 86, 87, 88, 89, 90, 91, 92, 93, 94, 95, 96, 97] (by rfl) (by decide +kernel)
set_option maxRecDepth 20000 in
theorem gX11_chain_X11_doerOf : GoodIn wsX11_chain (wsV RX11 284 RX11 yX11_doerOf wsX11_doerOf) := goodIn_app (goodIn_r _ [59, 60, 61, 5] (by rfl) (by decide +kernel)) ggX11_chain_X11_doerOf
theorem dX11_chain_24 : decode cX11_chain 24 = .ok (.invokevirtual 284, 3) := by decide +kernel
theorem dX11_chain_27 : decode cX11_chain 27 = .ok (.istore_n 3, 1) := by decide +kernel
theorem dX11_chain_28 : decode cX11_chain 28 = .ok (.iload_n 3, 1) := by decide +kernel
theorem dX11_chain_29 : decode cX11_chain 29 = .ok (.iconst (-1), 1) := by decide +kernel
theorem dX11_chain_30 : decode cX11_chain 30 = .ok (.if_icmp .ne 7, 3) := by decide +kernel
theorem dX11_chain_37 : decode cX11_chain 37 = .ok (.aload_n 0, 1) := by decide +kernel
theorem dX11_chain_38 : decode cX11_chain 38 = .ok (.iload_n 1, 1) := by decide +kernel
theorem dX11_chain_39 : decode cX11_chain 39 = .ok (.iload_n 3, 1) := by decide +kernel
set_option maxRecDepth 20000 in
theorem ggX11_chain_X11_timeOf : GoodIn wsX11_chain wsX11_timeOf := goodIn_r _ [66, 28, 35, 36, 37, 5, 38, 39, 67, 68, 69, 70, 71, 72, 73, 74, 75, 76, 77, 78, 79, 80, 81, 82, 83, 84, 85, 86, 87, 88, 89, 90, 91, 92, 93, 94, 95, 96, 97] (by rfl) (by decide +kernel)
set_option maxRecDepth 20000 in
theorem gX11_chain_X11_timeOf : GoodIn wsX11_chain (wsV RX11 269 RX11 yX11_timeOf wsX11_timeOf) := goodIn_app (goodIn_r _ [63, 64, 65, 5] (by rfl) (by decide +kernel)) ggX11_chain_X11_timeOf
theorem dX11_chain_40 : decode cX11_chain 40 = .ok (.invokevirtual 269, 3) := by decide +kernel
theorem dX11_chain_43 : decode cX11_chain 43 = .ok (.ireturn, 1) := by decide +kernel
theorem dX11_chain_33 : decode cX11_chain 33 = .ok (.iconst (-1), 1) := by decide +kernel
theorem dX11_chain_34 : decode cX11_chain 34 = .ok (.goto 9, 3) := by decide +kernel
theorem dX11_chain_14 : decode cX11_chain 14 = .ok (.bipush (-2), 2) := by decide +kernel
theorem dX11_chain_16 : decode cX11_chain 16 = .ok (.ireturn, 1) := by decide +kernel
theorem dX11_doer_0 : decode cX11_doer 0 = .ok (.aload_n 0, 1) := by decide +kernel
theorem dX11_doer_1 : decode cX11_doer 1 = .ok (.iconst 0, 1) := by decide +kernel
theorem dX11_doer_2 : decode cX11_doer 2 = .ok (.putfield 59, 3) := by decide +kernel
theorem dX11_doer_5 : decode cX11_doer 5 = .ok (.aload_n 0, 1) := by decide +kernel
theorem dX11_doer_6 : decode cX11_doer 6 = .ok (.iload_n 1, 1) := by decide +kernel
theorem dX11_doer_7 : decode cX11_doer 7 = .ok (.iload_n 2, 1) := by decide +kernel
set_option maxRecDepth 20000 in
theorem ggX11_doer_X11_isChain : GoodIn wsX11_doer wsX11_isChain := goodIn_r _ [6, 7, 8, 9, 5, 10, 11, 12, 13, 14, 15, 16, 17, 18, 67, 68, 69, 70, 71, 72, 73, 74, 75, 76, 77, 78, 79, 80, 81, 82, 83, 84, 85, 86, 87, 88, 89, 90, 91, 92, 93, 94, 95, 96, 97] (by rfl) (by decide +kernel)
set_option maxRecDepth 20000 in
theorem gX11_doer_X11_isChain : GoodIn wsX11_doer (wsV RX11 281 RX11 yX11_isChain wsX11_isChain) := goodIn_app (goodIn_r _ [2, 3, 4, 5] (by rfl) (by decide +kernel)) ggX11_doer_X11_isChain
theorem dX11_doer_8 : decode cX11_doer 8 = .ok (.invokevirtual 281, 3) := by decide +kernel
theorem dX11_doer_11 : decode cX11_doer 11 = .ok (.ifCond .ne 6, 3) := by decide +kernel
theorem dX11_doer_17 : decode cX11_doer 17 = .ok (.aload_n 0, 1) := by decide +kernel
set_option maxRecDepth 20000 in
theorem ggX11_doer_X11_laysNow : GoodIn wsX11_doer wsX11_laysNow := goodIn_r _ [22, 11, 23, 24, 25, 26, 5, 27, 28, 29, 30, 31, 32, 33, 34, 35, 36, 37, 38, 39, 40, 41, 42, 43, 44, 45, 46, 47, 48, 49, 50, 51, 52, 53, 54, 55, 56, 57, 58, 67, 68, 69, 70, 71, 72, 73, 74, 75, 76, 77, 78, 79, 80, 81, 82, 83, 84, 85, 86, 87, 88, 89, 90, 91, 92, 93, 94, 95, 96, 97] (by rfl) (by decide +kernel)
set_option maxRecDepth 20000 in
theorem gX11_doer_X11_laysNow : GoodIn wsX11_doer (wsV RX11 251 RX11 yX11_laysNow wsX11_laysNow) := goodIn_app (goodIn_r _ [19, 20, 21, 5] (by rfl) (by decide +kernel)) ggX11_doer_X11_laysNow
theorem dX11_doer_18 : decode cX11_doer 18 = .ok (.invokevirtual 251, 3) := by decide +kernel
theorem dX11_doer_21 : decode cX11_doer 21 = .ok (.aload_n 0, 1) := by decide +kernel
theorem dX11_doer_22 : decode cX11_doer 22 = .ok (.iload_n 1, 1) := by decide +kernel
theorem dX11_doer_23 : decode cX11_doer 23 = .ok (.iload_n 2, 1) := by decide +kernel
set_option maxRecDepth 20000 in
theorem ggX11_doer_X11_doerOf : GoodIn wsX11_doer wsX11_doerOf := goodIn_r _ [62, 11, 63, 64, 65, 5, 66, 28, 35, 36, 37, 38, 39, 56, 57, 58, 67, 68, 69, 70, 71, 72, 73, 74, 75, 76, 77, 78, 79, 80, 81, 82, 83, 84, 85, 86, 87, 88, 89, 90, 91, 92, 93, 94, 95, 96, 97] (by rfl) (by decide +kernel)
set_option maxRecDepth 20000 in
theorem gX11_doer_X11_doerOf : GoodIn wsX11_doer (wsV RX11 284 RX11 yX11_doerOf wsX11_doerOf) := goodIn_app (goodIn_r _ [59, 60, 61, 5] (by rfl) (by decide +kernel)) ggX11_doer_X11_doerOf
theorem dX11_doer_24 : decode cX11_doer 24 = .ok (.invokevirtual 284, 3) := by decide +kernel
theorem dX11_doer_27 : decode cX11_doer 27 = .ok (.ireturn, 1) := by decide +kernel
theorem dX11_doer_14 : decode cX11_doer 14 = .ok (.bipush (-2), 2) := by decide +kernel
theorem dX11_doer_16 : decode cX11_doer 16 = .ok (.ireturn, 1) := by decide +kernel
theorem dX11_can_0 : decode cX11_can 0 = .ok (.aload_n 0, 1) := by decide +kernel
theorem dX11_can_1 : decode cX11_can 1 = .ok (.iconst 0, 1) := by decide +kernel
theorem dX11_can_2 : decode cX11_can 2 = .ok (.putfield 59, 3) := by decide +kernel
theorem dX11_can_5 : decode cX11_can 5 = .ok (.aload_n 0, 1) := by decide +kernel
theorem dX11_can_6 : decode cX11_can 6 = .ok (.iload_n 1, 1) := by decide +kernel
theorem dX11_can_7 : decode cX11_can 7 = .ok (.i2l, 1) := by decide +kernel
set_option maxRecDepth 20000 in
theorem ggX11_can_X11_isPerson : GoodIn wsX11_can wsX11_isPerson := goodIn_r _ [6, 7, 8, 9, 5, 10, 59, 60, 61, 62, 63, 64, 65, 66, 67, 68, 69, 70, 71, 72, 73, 74, 75, 76, 77, 78, 79, 80, 81, 82, 83, 84, 85, 86, 87, 88, 89] (by rfl) (by decide +kernel)
set_option maxRecDepth 20000 in
theorem gX11_can_X11_isPerson : GoodIn wsX11_can (wsV RX11 206 RX11 yX11_isPerson wsX11_isPerson) := goodIn_app (goodIn_r _ [2, 3, 4, 5] (by rfl) (by decide +kernel)) ggX11_can_X11_isPerson
theorem dX11_can_8 : decode cX11_can 8 = .ok (.invokevirtual 206, 3) := by decide +kernel
theorem dX11_can_11 : decode cX11_can 11 = .ok (.ifCond .ne 6, 3) := by decide +kernel
theorem dX11_can_17 : decode cX11_can 17 = .ok (.aload_n 0, 1) := by decide +kernel
set_option maxRecDepth 20000 in
theorem ggX11_can_X11_laysNow : GoodIn wsX11_can wsX11_laysNow := goodIn_r _ [14, 7, 15, 16, 17, 18, 5, 19, 20, 21, 22, 23, 24, 25, 26, 27, 28, 29, 30, 31, 32, 33, 34, 35, 36, 37, 38, 39, 40, 41, 42, 43, 44, 45, 46, 47, 48, 49, 50, 59, 60, 61, 62, 63, 64, 65, 66, 67, 68, 69, 70, 71, 72, 73, 74, 75, 76, 77, 78, 79, 80, 81, 82, 83, 84, 85, 86, 87, 88, 89] (by rfl) (by decide +kernel)
set_option maxRecDepth 20000 in
theorem gX11_can_X11_laysNow : GoodIn wsX11_can (wsV RX11 251 RX11 yX11_laysNow wsX11_laysNow) := goodIn_app (goodIn_r _ [11, 12, 13, 5] (by rfl) (by decide +kernel)) ggX11_can_X11_laysNow
theorem dX11_can_18 : decode cX11_can 18 = .ok (.invokevirtual 251, 3) := by decide +kernel
theorem dX11_can_21 : decode cX11_can 21 = .ok (.iconst 0, 1) := by decide +kernel
theorem dX11_can_22 : decode cX11_can 22 = .ok (.istore_n 2, 1) := by decide +kernel
theorem dX11_can_23 : decode cX11_can 23 = .ok (.iconst 0, 1) := by decide +kernel
theorem dX11_can_24 : decode cX11_can 24 = .ok (.istore_n 3, 1) := by decide +kernel
theorem dX11_can_25 : decode cX11_can 25 = .ok (.iload_n 3, 1) := by decide +kernel
theorem dX11_can_26 : decode cX11_can 26 = .ok (.bipush 6, 2) := by decide +kernel
theorem dX11_can_28 : decode cX11_can 28 = .ok (.if_icmp .ge 42, 3) := by decide +kernel
theorem dX11_can_70 : decode cX11_can 70 = .ok (.iload_n 2, 1) := by decide +kernel
theorem dX11_can_71 : decode cX11_can 71 = .ok (.ireturn, 1) := by decide +kernel
theorem dX11_can_31 : decode cX11_can 31 = .ok (.iload_n 2, 1) := by decide +kernel
theorem dX11_can_32 : decode cX11_can 32 = .ok (.aload_n 0, 1) := by decide +kernel
theorem dX11_can_33 : decode cX11_can 33 = .ok (.iload_n 1, 1) := by decide +kernel
theorem dX11_can_34 : decode cX11_can 34 = .ok (.iconst 2, 1) := by decide +kernel
set_option maxRecDepth 20000 in
theorem ggX11_can_X11_of : GoodIn wsX11_can wsX11_of := goodIn_r _ [30, 31, 59, 60, 61, 62, 63, 64, 65, 66, 67, 68, 69, 70, 71, 72, 73, 74, 75, 76, 77, 78, 79, 80, 81, 82, 83, 84, 85, 86, 87, 88, 89] (by rfl) (by decide +kernel)
set_option maxRecDepth 20000 in
theorem gX11_can_X11_of : GoodIn wsX11_can (wsV RX11 214 RX11 yX11_of wsX11_of) := goodIn_app (goodIn_r _ [27, 28, 29, 5] (by rfl) (by decide +kernel)) ggX11_can_X11_of
theorem dX11_can_35 : decode cX11_can 35 = .ok (.invokevirtual 214, 3) := by decide +kernel
theorem dX11_can_38 : decode cX11_can 38 = .ok (.iload_n 3, 1) := by decide +kernel
set_option maxRecDepth 20000 in
theorem ggX11_can_X11_isBit : GoodIn wsX11_can wsX11_isBit := goodIn_r _ [50] (by rfl) (by decide +kernel)
set_option maxRecDepth 20000 in
theorem gX11_can_X11_isBit : GoodIn wsX11_can (va_wsS RX11 239 yX11_isBit wsX11_isBit) := goodIn_app (goodIn_r _ [48, 49, 5] (by rfl) (by decide +kernel)) ggX11_can_X11_isBit
theorem dX11_can_39 : decode cX11_can 39 = .ok (.invokestatic 239, 3) := by decide +kernel
theorem dX11_can_62 : decode cX11_can 62 = .ok (.ior, 1) := by decide +kernel
theorem dX11_can_63 : decode cX11_can 63 = .ok (.istore_n 2, 1) := by decide +kernel
theorem dX11_can_64 : decode cX11_can 64 = .ok (.iinc 3 1, 3) := by decide +kernel
theorem dX11_can_67 : decode cX11_can 67 = .ok (.goto (-42), 3) := by decide +kernel
theorem dX11_can_61 : decode cX11_can 61 = .ok (.iconst 0, 1) := by decide +kernel
theorem dX11_can_42 : decode cX11_can 42 = .ok (.ifCond .eq 19, 3) := by decide +kernel
theorem dX11_can_45 : decode cX11_can 45 = .ok (.aload_n 0, 1) := by decide +kernel
theorem dX11_can_46 : decode cX11_can 46 = .ok (.iload_n 1, 1) := by decide +kernel
theorem dX11_can_47 : decode cX11_can 47 = .ok (.iload_n 3, 1) := by decide +kernel
set_option maxRecDepth 20000 in
theorem ggX11_can_X11_doerOf : GoodIn wsX11_can wsX11_doerOf := goodIn_r _ [54, 7, 55, 56, 57, 5, 58, 20, 27, 28, 29, 30, 31, 48, 49, 50, 59, 60, 61, 62, 63, 64, 65, 66, 67, 68, 69, 70, 71, 72, 73, 74, 75, 76, 77, 78, 79, 80, 81, 82, 83, 84, 85, 86, 87, 88, 89] (by rfl) (by decide +kernel)
set_option maxRecDepth 20000 in
theorem gX11_can_X11_doerOf : GoodIn wsX11_can (wsV RX11 284 RX11 yX11_doerOf wsX11_doerOf) := goodIn_app (goodIn_r _ [51, 52, 53, 5] (by rfl) (by decide +kernel)) ggX11_can_X11_doerOf
theorem dX11_can_48 : decode cX11_can 48 = .ok (.invokevirtual 284, 3) := by decide +kernel
theorem dX11_can_51 : decode cX11_can 51 = .ok (.iconst (-1), 1) := by decide +kernel
theorem dX11_can_52 : decode cX11_can 52 = .ok (.if_icmp .eq 9, 3) := by decide +kernel
theorem dX11_can_55 : decode cX11_can 55 = .ok (.iconst 1, 1) := by decide +kernel
theorem dX11_can_56 : decode cX11_can 56 = .ok (.iload_n 3, 1) := by decide +kernel
theorem dX11_can_57 : decode cX11_can 57 = .ok (.ishl, 1) := by decide +kernel
theorem dX11_can_58 : decode cX11_can 58 = .ok (.goto 4, 3) := by decide +kernel
theorem dX11_can_14 : decode cX11_can 14 = .ok (.bipush (-2), 2) := by decide +kernel
theorem dX11_can_16 : decode cX11_can 16 = .ok (.ireturn, 1) := by decide +kernel
theorem dX11_asked_0 : decode cX11_asked 0 = .ok (.aload_n 0, 1) := by decide +kernel
theorem dX11_asked_1 : decode cX11_asked 1 = .ok (.iconst 0, 1) := by decide +kernel
theorem dX11_asked_2 : decode cX11_asked 2 = .ok (.putfield 59, 3) := by decide +kernel
theorem dX11_asked_5 : decode cX11_asked 5 = .ok (.aload_n 0, 1) := by decide +kernel
theorem dX11_asked_6 : decode cX11_asked 6 = .ok (.iload_n 1, 1) := by decide +kernel
theorem dX11_asked_7 : decode cX11_asked 7 = .ok (.iload_n 2, 1) := by decide +kernel
set_option maxRecDepth 20000 in
theorem ggX11_asked_X11_isChain : GoodIn wsX11_asked wsX11_isChain := goodIn_r _ [7, 8, 9, 10, 6, 11, 12, 13, 14, 15, 16, 17, 18, 19, 67, 68, 69, 70, 71, 72, 73, 74, 75, 76, 77, 78, 79, 80, 81, 82, 83, 84, 85, 86, 87, 88, 89, 90, 91, 92, 93, 94, 95, 96, 97] (by rfl) (by decide +kernel)
set_option maxRecDepth 20000 in
theorem gX11_asked_X11_isChain : GoodIn wsX11_asked (wsV RX11 281 RX11 yX11_isChain wsX11_isChain) := goodIn_app (goodIn_r _ [3, 4, 5, 6] (by rfl) (by decide +kernel)) ggX11_asked_X11_isChain
theorem dX11_asked_8 : decode cX11_asked 8 = .ok (.invokevirtual 281, 3) := by decide +kernel
theorem dX11_asked_11 : decode cX11_asked 11 = .ok (.ifCond .ne 6, 3) := by decide +kernel
theorem dX11_asked_17 : decode cX11_asked 17 = .ok (.aload_n 0, 1) := by decide +kernel
set_option maxRecDepth 20000 in
theorem ggX11_asked_X11_laysNow : GoodIn wsX11_asked wsX11_laysNow := goodIn_r _ [23, 12, 24, 25, 26, 27, 6, 28, 2, 29, 30, 31, 32, 33, 34, 35, 36, 37, 38, 39, 40, 41, 42, 43, 44, 45, 46, 47, 48, 49, 50, 51, 52, 53, 54, 55, 56, 57, 58, 67, 68, 69, 70, 71, 72, 73, 74, 75, 76, 77, 78, 79, 80, 81, 82, 83, 84, 85, 86, 87, 88, 89, 90, 91, 92, 93, 94, 95, 96, 97] (by rfl) (by decide +kernel)
set_option maxRecDepth 20000 in
theorem gX11_asked_X11_laysNow : GoodIn wsX11_asked (wsV RX11 251 RX11 yX11_laysNow wsX11_laysNow) := goodIn_app (goodIn_r _ [20, 21, 22, 6] (by rfl) (by decide +kernel)) ggX11_asked_X11_laysNow
theorem dX11_asked_18 : decode cX11_asked 18 = .ok (.invokevirtual 251, 3) := by decide +kernel
theorem dX11_asked_21 : decode cX11_asked 21 = .ok (.aload_n 0, 1) := by decide +kernel
theorem dX11_asked_22 : decode cX11_asked 22 = .ok (.iload_n 1, 1) := by decide +kernel
theorem dX11_asked_23 : decode cX11_asked 23 = .ok (.iload_n 2, 1) := by decide +kernel
set_option maxRecDepth 20000 in
theorem ggX11_asked_X11_doerOf : GoodIn wsX11_asked wsX11_doerOf := goodIn_r _ [62, 12, 63, 64, 65, 6, 66, 2, 35, 36, 37, 38, 39, 56, 57, 58, 67, 68, 69, 70, 71, 72, 73, 74, 75, 76, 77, 78, 79, 80, 81, 82, 83, 84, 85, 86, 87, 88, 89, 90, 91, 92, 93, 94, 95, 96, 97] (by rfl) (by decide +kernel)
set_option maxRecDepth 20000 in
theorem gX11_asked_X11_doerOf : GoodIn wsX11_asked (wsV RX11 284 RX11 yX11_doerOf wsX11_doerOf) := goodIn_app (goodIn_r _ [59, 60, 61, 6] (by rfl) (by decide +kernel)) ggX11_asked_X11_doerOf
theorem dX11_asked_24 : decode cX11_asked 24 = .ok (.invokevirtual 284, 3) := by decide +kernel
theorem dX11_asked_27 : decode cX11_asked 27 = .ok (.istore 4, 2) := by decide +kernel
theorem dX11_asked_29 : decode cX11_asked 29 = .ok (.iload 4, 2) := by decide +kernel
theorem dX11_asked_31 : decode cX11_asked 31 = .ok (.iconst (-1), 1) := by decide +kernel
theorem dX11_asked_32 : decode cX11_asked 32 = .ok (.if_icmp .eq 7, 3) := by decide +kernel
theorem dX11_asked_39 : decode cX11_asked 39 = .ok (.iconst (-1), 1) := by decide +kernel
theorem dX11_asked_40 : decode cX11_asked 40 = .ok (.ireturn, 1) := by decide +kernel
theorem dX11_asked_35 : decode cX11_asked 35 = .ok (.iload_n 3, 1) := by decide +kernel
theorem dX11_asked_36 : decode cX11_asked 36 = .ok (.ifCond .ge 5, 3) := by decide +kernel
theorem dX11_asked_41 : decode cX11_asked 41 = .ok (.iconst 1, 1) := by decide +kernel
theorem dX11_asked_42 : decode cX11_asked 42 = .ok (.istore 5, 2) := by decide +kernel
theorem dX11_asked_44 : decode cX11_asked 44 = .ok (.aload_n 0, 1) := by decide +kernel
theorem dX11_asked_45 : decode cX11_asked 45 = .ok (.getfield 47, 3) := by decide +kernel
theorem dX11_asked_48 : decode cX11_asked 48 = .ok (.iload 4, 2) := by decide +kernel
theorem dX11_asked_50 : decode cX11_asked 50 = .ok (.iaload, 1) := by decide +kernel
theorem dX11_asked_51 : decode cX11_asked 51 = .ok (.istore 6, 2) := by decide +kernel
theorem dX11_asked_53 : decode cX11_asked 53 = .ok (.iload 6, 2) := by decide +kernel
theorem dX11_asked_55 : decode cX11_asked 55 = .ok (.iload_n 1, 1) := by decide +kernel
theorem dX11_asked_56 : decode cX11_asked 56 = .ok (.if_icmp .eq 18, 3) := by decide +kernel
theorem dX11_asked_74 : decode cX11_asked 74 = .ok (.iload_n 3, 1) := by decide +kernel
theorem dX11_asked_75 : decode cX11_asked 75 = .ok (.iload 5, 2) := by decide +kernel
theorem dX11_asked_77 : decode cX11_asked 77 = .ok (.if_icmp .lt 5, 3) := by decide +kernel
theorem dX11_asked_82 : decode cX11_asked 82 = .ok (.iload 4, 2) := by decide +kernel
theorem dX11_asked_84 : decode cX11_asked 84 = .ok (.istore 6, 2) := by decide +kernel
theorem dX11_asked_86 : decode cX11_asked 86 = .ok (.iload 5, 2) := by decide +kernel
theorem dX11_asked_88 : decode cX11_asked 88 = .ok (.iconst 1, 1) := by decide +kernel
theorem dX11_asked_89 : decode cX11_asked 89 = .ok (.isub, 1) := by decide +kernel
theorem dX11_asked_90 : decode cX11_asked 90 = .ok (.istore 7, 2) := by decide +kernel
theorem dX11_asked_92 : decode cX11_asked 92 = .ok (.iload 7, 2) := by decide +kernel
theorem dX11_asked_94 : decode cX11_asked 94 = .ok (.iload_n 3, 1) := by decide +kernel
theorem dX11_asked_95 : decode cX11_asked 95 = .ok (.if_icmp .le 18, 3) := by decide +kernel
theorem dX11_asked_113 : decode cX11_asked 113 = .ok (.iload 6, 2) := by decide +kernel
theorem dX11_asked_115 : decode cX11_asked 115 = .ok (.ireturn, 1) := by decide +kernel
theorem dX11_asked_98 : decode cX11_asked 98 = .ok (.aload_n 0, 1) := by decide +kernel
theorem dX11_asked_99 : decode cX11_asked 99 = .ok (.getfield 47, 3) := by decide +kernel
theorem dX11_asked_102 : decode cX11_asked 102 = .ok (.iload 6, 2) := by decide +kernel
theorem dX11_asked_104 : decode cX11_asked 104 = .ok (.iaload, 1) := by decide +kernel
theorem dX11_asked_105 : decode cX11_asked 105 = .ok (.istore 6, 2) := by decide +kernel
theorem dX11_asked_107 : decode cX11_asked 107 = .ok (.iinc 7 (-1), 3) := by decide +kernel
theorem dX11_asked_110 : decode cX11_asked 110 = .ok (.goto (-18), 3) := by decide +kernel
theorem dX11_asked_80 : decode cX11_asked 80 = .ok (.iconst (-1), 1) := by decide +kernel
theorem dX11_asked_81 : decode cX11_asked 81 = .ok (.ireturn, 1) := by decide +kernel
theorem dX11_asked_59 : decode cX11_asked 59 = .ok (.iinc 5 1, 3) := by decide +kernel
theorem dX11_asked_62 : decode cX11_asked 62 = .ok (.aload_n 0, 1) := by decide +kernel
theorem dX11_asked_63 : decode cX11_asked 63 = .ok (.getfield 47, 3) := by decide +kernel
theorem dX11_asked_66 : decode cX11_asked 66 = .ok (.iload 6, 2) := by decide +kernel
theorem dX11_asked_68 : decode cX11_asked 68 = .ok (.iaload, 1) := by decide +kernel
theorem dX11_asked_69 : decode cX11_asked 69 = .ok (.istore 6, 2) := by decide +kernel
theorem dX11_asked_71 : decode cX11_asked 71 = .ok (.goto (-18), 3) := by decide +kernel
theorem dX11_asked_14 : decode cX11_asked 14 = .ok (.bipush (-2), 2) := by decide +kernel
theorem dX11_asked_16 : decode cX11_asked 16 = .ok (.ireturn, 1) := by decide +kernel
theorem dX11_whyOf_0 : decode cX11_whyOf 0 = .ok (.aload_n 0, 1) := by decide +kernel
theorem dX11_whyOf_1 : decode cX11_whyOf 1 = .ok (.getfield 47, 3) := by decide +kernel
theorem dX11_whyOf_4 : decode cX11_whyOf 4 = .ok (.iload_n 2, 1) := by decide +kernel
theorem dX11_whyOf_5 : decode cX11_whyOf 5 = .ok (.iaload, 1) := by decide +kernel
theorem dX11_whyOf_6 : decode cX11_whyOf 6 = .ok (.iload_n 1, 1) := by decide +kernel
theorem dX11_whyOf_7 : decode cX11_whyOf 7 = .ok (.if_icmp .eq 5, 3) := by decide +kernel
theorem dX11_whyOf_12 : decode cX11_whyOf 12 = .ok (.aload_n 0, 1) := by decide +kernel
theorem dX11_whyOf_13 : decode cX11_whyOf 13 = .ok (.getfield 217, 3) := by decide +kernel
theorem dX11_whyOf_16 : decode cX11_whyOf 16 = .ok (.iload_n 2, 1) := by decide +kernel
set_option maxRecDepth 20000 in
theorem ggX11_whyOf_X11_isBit : GoodIn wsX11_whyOf wsX11_isBit := goodIn_r _ [6] (by rfl) (by decide +kernel)
set_option maxRecDepth 20000 in
theorem gX11_whyOf_X11_isBit : GoodIn wsX11_whyOf (va_wsS RX11 239 yX11_isBit wsX11_isBit) := goodIn_app (goodIn_r _ [3, 4, 5] (by rfl) (by decide +kernel)) ggX11_whyOf_X11_isBit
theorem dX11_whyOf_17 : decode cX11_whyOf 17 = .ok (.invokestatic 239, 3) := by decide +kernel
theorem dX11_whyOf_20 : decode cX11_whyOf 20 = .ok (.ifCond .eq 5, 3) := by decide +kernel
theorem dX11_whyOf_25 : decode cX11_whyOf 25 = .ok (.iload_n 3, 1) := by decide +kernel
theorem dX11_whyOf_26 : decode cX11_whyOf 26 = .ok (.iconst (-1), 1) := by decide +kernel
theorem dX11_whyOf_27 : decode cX11_whyOf 27 = .ok (.if_icmp .eq 20, 3) := by decide +kernel
theorem dX11_whyOf_47 : decode cX11_whyOf 47 = .ok (.iconst 0, 1) := by decide +kernel
theorem dX11_whyOf_48 : decode cX11_whyOf 48 = .ok (.ireturn, 1) := by decide +kernel
theorem dX11_whyOf_30 : decode cX11_whyOf 30 = .ok (.aload_n 0, 1) := by decide +kernel
theorem dX11_whyOf_31 : decode cX11_whyOf 31 = .ok (.iload_n 2, 1) := by decide +kernel
theorem dX11_whyOf_32 : decode cX11_whyOf 32 = .ok (.iconst 1, 1) := by decide +kernel
set_option maxRecDepth 20000 in
theorem ggX11_whyOf_X11_of : GoodIn wsX11_whyOf wsX11_of := goodIn_r _ [10, 11, 12, 13, 14, 15, 16, 17, 18, 19, 20, 21, 22, 23, 24, 25, 26, 27, 28, 29, 30, 31, 32, 33, 34, 35, 36, 37, 38, 39, 40, 41, 42] (by rfl) (by decide +kernel)
set_option maxRecDepth 20000 in
theorem gX11_whyOf_X11_of : GoodIn wsX11_whyOf (wsV RX11 214 RX11 yX11_of wsX11_of) := goodIn_app (goodIn_r _ [7, 8, 9, 5] (by rfl) (by decide +kernel)) ggX11_whyOf_X11_of
theorem dX11_whyOf_33 : decode cX11_whyOf 33 = .ok (.invokevirtual 214, 3) := by decide +kernel
theorem dX11_whyOf_36 : decode cX11_whyOf 36 = .ok (.iload_n 3, 1) := by decide +kernel
theorem dX11_whyOf_37 : decode cX11_whyOf 37 = .ok (.invokestatic 239, 3) := by decide +kernel
theorem dX11_whyOf_40 : decode cX11_whyOf 40 = .ok (.ifCond .ne 7, 3) := by decide +kernel
theorem dX11_whyOf_43 : decode cX11_whyOf 43 = .ok (.iconst 3, 1) := by decide +kernel
theorem dX11_whyOf_44 : decode cX11_whyOf 44 = .ok (.goto 4, 3) := by decide +kernel
theorem dX11_whyOf_23 : decode cX11_whyOf 23 = .ok (.iconst 2, 1) := by decide +kernel
theorem dX11_whyOf_24 : decode cX11_whyOf 24 = .ok (.ireturn, 1) := by decide +kernel
theorem dX11_whyOf_10 : decode cX11_whyOf 10 = .ok (.iconst 1, 1) := by decide +kernel
theorem dX11_whyOf_11 : decode cX11_whyOf 11 = .ok (.ireturn, 1) := by decide +kernel
theorem dX11_why_0 : decode cX11_why 0 = .ok (.aload_n 0, 1) := by decide +kernel
theorem dX11_why_1 : decode cX11_why 1 = .ok (.iconst 0, 1) := by decide +kernel
theorem dX11_why_2 : decode cX11_why 2 = .ok (.putfield 59, 3) := by decide +kernel
theorem dX11_why_5 : decode cX11_why 5 = .ok (.aload_n 0, 1) := by decide +kernel
theorem dX11_why_6 : decode cX11_why 6 = .ok (.iload_n 1, 1) := by decide +kernel
theorem dX11_why_7 : decode cX11_why 7 = .ok (.iload_n 2, 1) := by decide +kernel
set_option maxRecDepth 20000 in
theorem ggX11_why_X11_arePeople : GoodIn wsX11_why wsX11_arePeople := goodIn_r _ [6, 7, 8, 9, 5, 10, 11, 12, 13, 14, 63, 64, 65, 66, 67, 68, 69, 70, 71, 72, 73, 74, 75, 76, 77, 78, 79, 80, 81, 82, 83, 84, 85, 86, 87, 88, 89, 90, 91, 92, 93] (by rfl) (by decide +kernel)
set_option maxRecDepth 20000 in
theorem gX11_why_X11_arePeople : GoodIn wsX11_why (wsV RX11 266 RX11 yX11_arePeople wsX11_arePeople) := goodIn_app (goodIn_r _ [2, 3, 4, 5] (by rfl) (by decide +kernel)) ggX11_why_X11_arePeople
theorem dX11_why_8 : decode cX11_why 8 = .ok (.invokevirtual 266, 3) := by decide +kernel
theorem dX11_why_11 : decode cX11_why 11 = .ok (.ifCond .eq 11, 3) := by decide +kernel
theorem dX11_why_22 : decode cX11_why 22 = .ok (.bipush (-2), 2) := by decide +kernel
theorem dX11_why_24 : decode cX11_why 24 = .ok (.ireturn, 1) := by decide +kernel
theorem dX11_why_14 : decode cX11_why 14 = .ok (.iload_n 3, 1) := by decide +kernel
theorem dX11_why_15 : decode cX11_why 15 = .ok (.i2l, 1) := by decide +kernel
set_option maxRecDepth 20000 in
theorem ggX11_why_X11_isDeed : GoodIn wsX11_why wsX11_isDeed := goodIn_r _ [17, 18, 12, 13, 5, 14] (by rfl) (by decide +kernel)
set_option maxRecDepth 20000 in
theorem gX11_why_X11_isDeed : GoodIn wsX11_why (va_wsS RX11 278 yX11_isDeed wsX11_isDeed) := goodIn_app (goodIn_r _ [15, 16, 5] (by rfl) (by decide +kernel)) ggX11_why_X11_isDeed
theorem dX11_why_16 : decode cX11_why 16 = .ok (.invokestatic 278, 3) := by decide +kernel
theorem dX11_why_19 : decode cX11_why 19 = .ok (.ifCond .ne 6, 3) := by decide +kernel
theorem dX11_why_25 : decode cX11_why 25 = .ok (.aload_n 0, 1) := by decide +kernel
set_option maxRecDepth 20000 in
theorem ggX11_why_X11_laysNow : GoodIn wsX11_why wsX11_laysNow := goodIn_r _ [22, 11, 23, 24, 25, 26, 5, 27, 28, 29, 30, 31, 32, 33, 34, 35, 36, 37, 38, 39, 40, 41, 42, 43, 44, 45, 46, 47, 48, 49, 50, 51, 52, 53, 54, 55, 56, 57, 58, 63, 64, 65, 66, 67, 68, 69, 70, 71, 72, 73, 74, 75, 76, 77, 78, 79, 80, 81, 82, 83, 84, 85, 86, 87, 88, 89, 90, 91, 92, 93] (by rfl) (by decide +kernel)
set_option maxRecDepth 20000 in
theorem gX11_why_X11_laysNow : GoodIn wsX11_why (wsV RX11 251 RX11 yX11_laysNow wsX11_laysNow) := goodIn_app (goodIn_r _ [19, 20, 21, 5] (by rfl) (by decide +kernel)) ggX11_why_X11_laysNow
theorem dX11_why_26 : decode cX11_why 26 = .ok (.invokevirtual 251, 3) := by decide +kernel
theorem dX11_why_29 : decode cX11_why 29 = .ok (.aload_n 0, 1) := by decide +kernel
theorem dX11_why_30 : decode cX11_why 30 = .ok (.iload_n 1, 1) := by decide +kernel
theorem dX11_why_31 : decode cX11_why 31 = .ok (.iload_n 2, 1) := by decide +kernel
theorem dX11_why_32 : decode cX11_why 32 = .ok (.iload_n 3, 1) := by decide +kernel
set_option maxRecDepth 20000 in
theorem ggX11_why_X11_whyOf : GoodIn wsX11_why wsX11_whyOf := goodIn_r _ [62, 28, 31, 56, 57, 5, 58, 35, 36, 37, 38, 39, 63, 64, 65, 66, 67, 68, 69, 70, 71, 72, 73, 74, 75, 76, 77, 78, 79, 80, 81, 82, 83, 84, 85, 86, 87, 88, 89, 90, 91, 92, 93] (by rfl) (by decide +kernel)
set_option maxRecDepth 20000 in
theorem gX11_why_X11_whyOf : GoodIn wsX11_why (wsV RX11 287 RX11 yX11_whyOf wsX11_whyOf) := goodIn_app (goodIn_r _ [59, 60, 61, 5] (by rfl) (by decide +kernel)) ggX11_why_X11_whyOf
theorem dX11_why_33 : decode cX11_why 33 = .ok (.invokevirtual 287, 3) := by decide +kernel
theorem dX11_why_36 : decode cX11_why 36 = .ok (.ireturn, 1) := by decide +kernel
theorem dX11_acts_0 : decode cX11_acts 0 = .ok (.iconst 5, 1) := by decide +kernel
theorem dX11_acts_1 : decode cX11_acts 1 = .ok (.aload_n 0, 1) := by decide +kernel
theorem dX11_acts_2 : decode cX11_acts 2 = .ok (.getfield 34, 3) := by decide +kernel
theorem dX11_acts_5 : decode cX11_acts 5 = .ok (.iconst 2, 1) := by decide +kernel
theorem dX11_acts_6 : decode cX11_acts 6 = .ok (.iaload, 1) := by decide +kernel
theorem dX11_acts_7 : decode cX11_acts 7 = .ok (.imul, 1) := by decide +kernel
theorem dX11_acts_8 : decode cX11_acts 8 = .ok (.istore 6, 2) := by decide +kernel
theorem dX11_acts_10 : decode cX11_acts 10 = .ok (.aload_n 0, 1) := by decide +kernel
theorem dX11_acts_11 : decode cX11_acts 11 = .ok (.getfield 40, 3) := by decide +kernel
theorem dX11_acts_14 : decode cX11_acts 14 = .ok (.iload 6, 2) := by decide +kernel
theorem dX11_acts_16 : decode cX11_acts 16 = .ok (.iload_n 1, 1) := by decide +kernel
theorem dX11_acts_17 : decode cX11_acts 17 = .ok (.iastore, 1) := by decide +kernel
theorem dX11_acts_18 : decode cX11_acts 18 = .ok (.aload_n 0, 1) := by decide +kernel
theorem dX11_acts_19 : decode cX11_acts 19 = .ok (.getfield 40, 3) := by decide +kernel
theorem dX11_acts_22 : decode cX11_acts 22 = .ok (.iload 6, 2) := by decide +kernel
theorem dX11_acts_24 : decode cX11_acts 24 = .ok (.iconst 1, 1) := by decide +kernel
theorem dX11_acts_25 : decode cX11_acts 25 = .ok (.iadd, 1) := by decide +kernel
theorem dX11_acts_26 : decode cX11_acts 26 = .ok (.iload_n 2, 1) := by decide +kernel
theorem dX11_acts_27 : decode cX11_acts 27 = .ok (.iastore, 1) := by decide +kernel
theorem dX11_acts_28 : decode cX11_acts 28 = .ok (.aload_n 0, 1) := by decide +kernel
theorem dX11_acts_29 : decode cX11_acts 29 = .ok (.getfield 40, 3) := by decide +kernel
theorem dX11_acts_32 : decode cX11_acts 32 = .ok (.iload 6, 2) := by decide +kernel
theorem dX11_acts_34 : decode cX11_acts 34 = .ok (.iconst 2, 1) := by decide +kernel
theorem dX11_acts_35 : decode cX11_acts 35 = .ok (.iadd, 1) := by decide +kernel
theorem dX11_acts_36 : decode cX11_acts 36 = .ok (.iload_n 3, 1) := by decide +kernel
theorem dX11_acts_37 : decode cX11_acts 37 = .ok (.iastore, 1) := by decide +kernel
theorem dX11_acts_38 : decode cX11_acts 38 = .ok (.aload_n 0, 1) := by decide +kernel
theorem dX11_acts_39 : decode cX11_acts 39 = .ok (.getfield 40, 3) := by decide +kernel
theorem dX11_acts_42 : decode cX11_acts 42 = .ok (.iload 6, 2) := by decide +kernel
theorem dX11_acts_44 : decode cX11_acts 44 = .ok (.iconst 3, 1) := by decide +kernel
theorem dX11_acts_45 : decode cX11_acts 45 = .ok (.iadd, 1) := by decide +kernel
theorem dX11_acts_46 : decode cX11_acts 46 = .ok (.iload 4, 2) := by decide +kernel
theorem dX11_acts_48 : decode cX11_acts 48 = .ok (.iastore, 1) := by decide +kernel
theorem dX11_acts_49 : decode cX11_acts 49 = .ok (.aload_n 0, 1) := by decide +kernel
theorem dX11_acts_50 : decode cX11_acts 50 = .ok (.getfield 40, 3) := by decide +kernel
theorem dX11_acts_53 : decode cX11_acts 53 = .ok (.iload 6, 2) := by decide +kernel
theorem dX11_acts_55 : decode cX11_acts 55 = .ok (.iconst 4, 1) := by decide +kernel
theorem dX11_acts_56 : decode cX11_acts 56 = .ok (.iadd, 1) := by decide +kernel
theorem dX11_acts_57 : decode cX11_acts 57 = .ok (.iload 5, 2) := by decide +kernel
theorem dX11_acts_59 : decode cX11_acts 59 = .ok (.iastore, 1) := by decide +kernel
theorem dX11_acts_60 : decode cX11_acts 60 = .ok (.aload_n 0, 1) := by decide +kernel
theorem dX11_acts_61 : decode cX11_acts 61 = .ok (.getfield 34, 3) := by decide +kernel
theorem dX11_acts_64 : decode cX11_acts 64 = .ok (.iconst 2, 1) := by decide +kernel
theorem dX11_acts_65 : decode cX11_acts 65 = .ok (.dup2, 1) := by decide +kernel
theorem dX11_acts_66 : decode cX11_acts 66 = .ok (.iaload, 1) := by decide +kernel
theorem dX11_acts_67 : decode cX11_acts 67 = .ok (.iconst 1, 1) := by decide +kernel
theorem dX11_acts_68 : decode cX11_acts 68 = .ok (.iadd, 1) := by decide +kernel
theorem dX11_acts_69 : decode cX11_acts 69 = .ok (.iastore, 1) := by decide +kernel
theorem dX11_acts_70 : decode cX11_acts 70 = .ok (.return_, 1) := by decide +kernel
theorem dX11_sizeOf_0 : decode cX11_sizeOf 0 = .ok (.iconst 0, 1) := by decide +kernel
theorem dX11_sizeOf_1 : decode cX11_sizeOf 1 = .ok (.istore_n 1, 1) := by decide +kernel
theorem dX11_sizeOf_2 : decode cX11_sizeOf 2 = .ok (.iload_n 0, 1) := by decide +kernel
theorem dX11_sizeOf_3 : decode cX11_sizeOf 3 = .ok (.istore_n 2, 1) := by decide +kernel
theorem dX11_sizeOf_4 : decode cX11_sizeOf 4 = .ok (.iload_n 2, 1) := by decide +kernel
theorem dX11_sizeOf_5 : decode cX11_sizeOf 5 = .ok (.ifCond .eq 15, 3) := by decide +kernel
theorem dX11_sizeOf_20 : decode cX11_sizeOf 20 = .ok (.iload_n 1, 1) := by decide +kernel
theorem dX11_sizeOf_21 : decode cX11_sizeOf 21 = .ok (.ireturn, 1) := by decide +kernel
theorem dX11_sizeOf_8 : decode cX11_sizeOf 8 = .ok (.iinc 1 1, 3) := by decide +kernel
theorem dX11_sizeOf_11 : decode cX11_sizeOf 11 = .ok (.iload_n 2, 1) := by decide +kernel
theorem dX11_sizeOf_12 : decode cX11_sizeOf 12 = .ok (.iload_n 2, 1) := by decide +kernel
theorem dX11_sizeOf_13 : decode cX11_sizeOf 13 = .ok (.iconst 1, 1) := by decide +kernel
theorem dX11_sizeOf_14 : decode cX11_sizeOf 14 = .ok (.isub, 1) := by decide +kernel
theorem dX11_sizeOf_15 : decode cX11_sizeOf 15 = .ok (.iand, 1) := by decide +kernel
theorem dX11_sizeOf_16 : decode cX11_sizeOf 16 = .ok (.istore_n 2, 1) := by decide +kernel
theorem dX11_sizeOf_17 : decode cX11_sizeOf 17 = .ok (.goto (-13), 3) := by decide +kernel
set_option maxHeartbeats 4000000 in
set_option maxRecDepth 100000 in
theorem a_X11_chain (l : Launch) (G : va_G) (ct : Nat → ClassId) (a0 : Nat) (n0_0 : Int32) (a1 : Nat) (a2 : Nat) (a3 : Nat) (a4 : Nat) (a5 : Nat) (n0_6 : Int32) (n0_7 : Int32) (n0_8 : Int32) (n0_9 : Int32) (n0_10 : Int32) (l0_11 : Int64) (n0_12 : Int32) (n0_13 : Int32) (n0_14 : Int32) (n0_15 : Int32) (a6 : Nat) (a7 : Nat) (a8 : Nat) (a9 : Nat) (a10 : Nat) (a11 : Nat) (a12 : Nat) (a13 : Nat) (n0_24 : Int32) (n0_25 : Int32) (n0_26 : Int32) (n0_27 : Int32) (a14 : Nat) (n0_29 : Int32) (n0_30 : Int32) (f7 : Nat → Int32) (f8 : Nat → Int32) (f9 : Nat → Int32) (f11 : Nat → Int32) (f12 : Nat → Int32) (f13 : Nat → Int32) (p0 : Int32) (p1 : Int32) (hp_n0_6 : rg 0 900 n0_6) (hp_f7 : hsI f7) (hp_f8 : psI f8) (hp_f9 : ar 0 7 f9) (hp_f11 : ar (-1) 7 f11) (hp_f13 : ar (-1) 7 f13) : Met l yX11_chain wsX11_chain ({ frames := 5, cells := 0, slots := 0, locals := 111 }) (va_Pc [.ref a0, .int p0, .int p1] (wrP G ct [(a0, .inr (11, [.int n0_0, .ref a1, .ref a2, .ref a3, .ref a4, .ref a5, .int n0_6, .int n0_7, .int n0_8, .int n0_9, .int n0_10, .long l0_11, .int n0_12, .int n0_13, .int n0_14, .int n0_15, .ref a6, .ref a7, .ref a8, .ref a9, .ref a10, .ref a11, .ref a12, .ref a13, .int n0_24, .int n0_25, .int n0_26, .int n0_27, .ref a14, .int n0_29, .int n0_30])), (a7, .inl (ct 0, 15, .inl f7)), (a8, .inl (ct 0, 200, .inl f8)), (a9, .inl (ct 0, 1000, .inl f9)), (a11, .inl (ct 0, 8, .inl f11)), (a12, .inl (ct 0, 8, .inl f12)), (a13, .inl (ct 0, 8, .inl f13))])) (va_Qi (fun (r : Int32) (u : SU) => (r = 0 → rg 0 7 p0) ∧ (r = (-1) → rg 0 7 p0) ∧ (¬ r = (-2) → rg 0 7 p0) ∧ (r = 0 → rg 0 5 p1) ∧ (r = (-1) → rg 0 5 p1) ∧ (¬ r = (-2) → rg 0 5 p1) ∧ ar (-1) 7 (u.2.1 0) ∧ ar (-1) 7 (u.2.1 2) ∧ rg 0 0 (u.1 0) ∧ True) (fun u t => va_P G vwCl ((fun u : SU => [(a0, .inr (11, [.int (u.1 0), .ref a1, .ref a2, .ref a3, .ref a4, .ref a5, .int n0_6, .int n0_7, .int n0_8, .int n0_9, .int n0_10, .long l0_11, .int n0_12, .int n0_13, .int n0_14, .int n0_15, .ref a6, .ref a7, .ref a8, .ref a9, .ref a10, .ref a11, .ref a12, .ref a13, .int (u.1 1), .int (u.1 2), .int (u.1 3), .int (u.1 4), .ref a14, .int n0_29, .int n0_30])), (a7, .inl (ct 0, 15, .inl f7)), (a8, .inl (ct 0, 200, .inl f8)), (a9, .inl (ct 0, 1000, .inl f9)), (a11, .inl (ct 0, 8, .inl (u.2.1 0))), (a12, .inl (ct 0, 8, .inl (u.2.1 1))), (a13, .inl (ct 0, 8, .inl (u.2.1 2)))]) u) t.heap) (aset [(a0, .inr (11, [.int n0_0, .ref a1, .ref a2, .ref a3, .ref a4, .ref a5, .int n0_6, .int n0_7, .int n0_8, .int n0_9, .int n0_10, .long l0_11, .int n0_12, .int n0_13, .int n0_14, .int n0_15, .ref a6, .ref a7, .ref a8, .ref a9, .ref a10, .ref a11, .ref a12, .ref a13, .int n0_24, .int n0_25, .int n0_26, .int n0_27, .ref a14, .int n0_29, .int n0_30])), (a7, .inl (ct 0, 15, .inl f7)), (a8, .inl (ct 0, 200, .inl f8)), (a9, .inl (ct 0, 1000, .inl f9)), (a11, .inl (ct 0, 8, .inl f11)), (a12, .inl (ct 0, 8, .inl f12)), (a13, .inl (ct 0, 8, .inl f13))])) 0 0 (aset [(a0, .inr (11, [.int n0_0, .ref a1, .ref a2, .ref a3, .ref a4, .ref a5, .int n0_6, .int n0_7, .int n0_8, .int n0_9, .int n0_10, .long l0_11, .int n0_12, .int n0_13, .int n0_14, .int n0_15, .ref a6, .ref a7, .ref a8, .ref a9, .ref a10, .ref a11, .ref a12, .ref a13, .int n0_24, .int n0_25, .int n0_26, .int n0_27, .ref a14, .int n0_29, .int n0_30])), (a7, .inl (ct 0, 15, .inl f7)), (a8, .inl (ct 0, 200, .inl f8)), (a9, .inl (ct 0, 1000, .inl f9)), (a11, .inl (ct 0, 8, .inl f11)), (a12, .inl (ct 0, 8, .inl f12)), (a13, .inl (ct 0, 8, .inl f13))]) := by
  refine Met.ofW (cc := cX11_chain) (maxL := 4) (ret := (some .int)) (by decide) rfl ?_
  intro p e s m args below meth c s₁ B hml hv
  obtain ⟨rfl, hP, hK, hD0⟩ := hv
  have hx := B.exec
  have hb := B.bytes
  have hr := B.returns
  have hts := atoms_spec (ws := wsX11_chain) B.pre
  have hown : s.vm.findClass RX11 = some m.cls := findClass_of_methodNamed B.named
  have hlocks := B.notSynchronized
  have hD := hD0.aself
  generalize hAe : aset [(a0, .inr (11, [.int n0_0, .ref a1, .ref a2, .ref a3, .ref a4, .ref a5, .int n0_6, .int n0_7, .int n0_8, .int n0_9, .int n0_10, .long l0_11, .int n0_12, .int n0_13, .int n0_14, .int n0_15, .ref a6, .ref a7, .ref a8, .ref a9, .ref a10, .ref a11, .ref a12, .ref a13, .int n0_24, .int n0_25, .int n0_26, .int n0_27, .ref a14, .int n0_29, .int n0_30])), (a7, .inl (ct 0, 15, .inl f7)), (a8, .inl (ct 0, 200, .inl f8)), (a9, .inl (ct 0, 1000, .inl f9)), (a11, .inl (ct 0, 8, .inl f11)), (a12, .inl (ct 0, 8, .inl f12)), (a13, .inl (ct 0, 8, .inl f13))] = A at hD ⊢
  have hS : va_S A s.heap s.heap [] := va_S.rf
  have hl := lv_entry ([.ref a0, .int p0, .int p1]) (n := 4) (Nat.le_of_ble_eq_true rfl)
  rw [lg_entry_eq]
  generalize (lg_sl ([.ref a0, .int p0, .int p1]) ++ List.replicate (4 - (lg_sl ([.ref a0, .int p0, .int p1])).length) Slot.unset).toArray = ls at hl ⊢
  have hl : lv_has ls 4 [(0, .ref a0), (1, .int p0), (2, .int p1)] := hl
  refine lv_aload_n hx hb dX11_chain_0 rfl (lv_at hl 0 rfl) ?_
  refine lv_iconst (v := 0) hx hb dX11_chain_1 (by decide) ?_
  refine va_put (D := G) (ci := 11) (v := .int 0) (ty := .int) (C := RX11) (T := TX11) (N := 31) hx hb hts (by decide +kernel) tyX11 tyX11_ok nmX11 hown hK.1 hP hD hS 0 rfl rfl 0 (by decide) (hts (.fieldLink RX11 59 "CardHolderModel" "thrown" "I") (by decide +kernel)) (fun _ h9 => h9) rfl (by decide +kernel) rfl rfl (Nat.le_of_ble_eq_true rfl) dX11_chain_2 (fun H locs hP hD hS => ?_)
  refine lv_aload_n hx hb dX11_chain_5 rfl (lv_at hl 0 rfl) ?_
  refine lv_iload_n hx hb dX11_chain_6 rfl (lv_at hl 1 rfl) ?_
  refine lv_iload_n hx hb dX11_chain_7 rfl (lv_at hl 2 rfl) ?_
  refine ro_calli (va_runV (As := [.int p0, .int p1]) (rest := []) ⟨hx, hb, hml, hown, hts⟩ (a_X11_isChain l G ct a0 (0 : Int32) a1 a2 a3 a4 a5 n0_6 n0_7 n0_8 n0_9 n0_10 l0_11 n0_12 n0_13 n0_14 n0_15 a6 a7 a8 a9 a10 a11 a12 a13 n0_24 n0_25 n0_26 n0_27 a14 n0_29 n0_30 f7 p0 p1 hp_n0_6 hp_f7) (cwV 2 hts gX11_chain_X11_isChain rfl rfl rfl (by decide +kernel) ⟨Nat.le_of_ble_eq_true rfl, Nat.le_of_ble_eq_true rfl⟩) (ro_preV 11 0 hK (hP.sub [0, 1] rfl) rfl rfl) rfl rfl hl.1 rfl (lv_room (Nat.le_of_ble_eq_true rfl)) dX11_chain_8 ⟨Nat.zero_le _, Nat.zero_le _⟩) hS hP (fun r8 H locs wr8 hP hS => ?_)
  obtain ⟨p_1, p_2, p_3, -⟩ := wr8
  refine lv_if_ne (tgt := 17) hx hb dX11_chain_11 (by decide) (fun c11 => ?_) (fun c11 => ?_)
  · have h_4 : rg 1 1 r8 := r_ne_lo_i c11 p_1 (by decide) (by decide)
    have h_5 : rg 0 7 p0 := (p_2 (rne h_4 (y := 0) (c := 0) (by decide) (by decide)))
    have h_6 : rg 0 5 p1 := (p_3 (rne h_4 (y := 0) (c := 0) (by decide) (by decide)))
    refine lv_aload_n hx hb dX11_chain_17 rfl (lv_at hl 0 rfl) ?_
    refine wj_callv (wr := []) (w1 := (fun u : SU => [(a0, .inr (11, [.int 0, .ref a1, .ref a2, .ref a3, .ref a4, .ref a5, .int n0_6, .int n0_7, .int n0_8, .int n0_9, .int n0_10, .long l0_11, .int n0_12, .int n0_13, .int n0_14, .int n0_15, .ref a6, .ref a7, .ref a8, .ref a9, .ref a10, .ref a11, .ref a12, .ref a13, .int (u.1 0), .int (u.1 1), .int (u.1 2), .int (u.1 3), .ref a14, .int n0_29, .int n0_30])), (a7, .inl (ct 0, 15, .inl f7)), (a8, .inl (ct 0, 200, .inl f8)), (a9, .inl (ct 0, 1000, .inl f9)), (a11, .inl (ct 0, 8, .inl (u.2.1 0))), (a12, .inl (ct 0, 8, .inl (u.2.1 1))), (a13, .inl (ct 0, 8, .inl (u.2.1 2)))])) (va_runV (As := []) (rest := []) ⟨hx, hb, hml, hown, hts⟩ (a_X11_laysNow l G ct a0 (0 : Int32) a1 a2 a3 a4 a5 n0_6 n0_7 n0_8 n0_9 n0_10 l0_11 n0_12 n0_13 n0_14 n0_15 a6 a7 a8 a9 a10 a11 a12 a13 n0_24 n0_25 n0_26 n0_27 a14 n0_29 n0_30 f7 f8 f9 f11 f12 f13 hp_n0_6 hp_f7 hp_f8 hp_f9 hp_f11 hp_f13) (cwV 0 hts gX11_chain_X11_laysNow rfl rfl rfl (by decide +kernel) ⟨Nat.le_of_ble_eq_true rfl, Nat.le_of_ble_eq_true rfl⟩) (wr_preV 11 0 hK (hP.sub [0, 1, 2, 3, 4, 5, 6] rfl) (hD.sub [0, 1, 2, 3, 4, 5, 6] (by decide) rfl) rfl rfl) rfl rfl hl.1 rfl (lv_room (Nat.le_of_ble_eq_true rfl)) dX11_chain_18 ⟨Nat.zero_le _, Nat.zero_le _⟩) hS hP hD [0, 1, 2, 3, 4, 5, 6] [] rfl rfl (by decide) (fun _ => rfl) (fun ur18 H locs wr18 hP hD hS => ?_)
    have hP : va_P G vwCl [(a0, .inr (11, [.int 0, .ref a1, .ref a2, .ref a3, .ref a4, .ref a5, .int n0_6, .int n0_7, .int n0_8, .int n0_9, .int n0_10, .long l0_11, .int n0_12, .int n0_13, .int n0_14, .int n0_15, .ref a6, .ref a7, .ref a8, .ref a9, .ref a10, .ref a11, .ref a12, .ref a13, .int (ur18.1 0), .int (ur18.1 1), .int (ur18.1 2), .int (ur18.1 3), .ref a14, .int n0_29, .int n0_30])), (a7, .inl (ct 0, 15, .inl f7)), (a8, .inl (ct 0, 200, .inl f8)), (a9, .inl (ct 0, 1000, .inl f9)), (a11, .inl (ct 0, 8, .inl (ur18.2.1 0))), (a12, .inl (ct 0, 8, .inl (ur18.2.1 1))), (a13, .inl (ct 0, 8, .inl (ur18.2.1 2)))] H := hP.sub [0, 1, 2, 3, 4, 5, 6] rfl
    have hD : va_D A [(a0, .inr (11, [.int 0, .ref a1, .ref a2, .ref a3, .ref a4, .ref a5, .int n0_6, .int n0_7, .int n0_8, .int n0_9, .int n0_10, .long l0_11, .int n0_12, .int n0_13, .int n0_14, .int n0_15, .ref a6, .ref a7, .ref a8, .ref a9, .ref a10, .ref a11, .ref a12, .ref a13, .int (ur18.1 0), .int (ur18.1 1), .int (ur18.1 2), .int (ur18.1 3), .ref a14, .int n0_29, .int n0_30])), (a7, .inl (ct 0, 15, .inl f7)), (a8, .inl (ct 0, 200, .inl f8)), (a9, .inl (ct 0, 1000, .inl f9)), (a11, .inl (ct 0, 8, .inl (ur18.2.1 0))), (a12, .inl (ct 0, 8, .inl (ur18.2.1 1))), (a13, .inl (ct 0, 8, .inl (ur18.2.1 2)))] := hD.sub [0, 1, 2, 3, 4, 5, 6] (by decide) rfl
    obtain ⟨p_7, p_8, -⟩ := wr18
    refine lv_aload_n hx hb dX11_chain_21 rfl (lv_at hl 0 rfl) ?_
    refine lv_iload_n hx hb dX11_chain_22 rfl (lv_at hl 1 rfl) ?_
    refine lv_iload_n hx hb dX11_chain_23 rfl (lv_at hl 2 rfl) ?_
    refine ro_calli (va_runV (As := [.int p0, .int p1]) (rest := []) ⟨hx, hb, hml, hown, hts⟩ (a_X11_doerOf l G ct a0 (0 : Int32) a1 a2 a3 a4 a5 n0_6 n0_7 n0_8 n0_9 n0_10 l0_11 n0_12 n0_13 n0_14 n0_15 a6 a7 a8 a9 a10 a11 a12 a13 (ur18.1 0) (ur18.1 1) (ur18.1 2) (ur18.1 3) a14 n0_29 n0_30 f7 f8 (ur18.2.1 0) p0 p1 hp_n0_6 hp_f7 hp_f8 p_7 h_5 h_6) (cwV 2 hts gX11_chain_X11_doerOf rfl rfl rfl (by decide +kernel) ⟨Nat.le_of_ble_eq_true rfl, Nat.le_of_ble_eq_true rfl⟩) (ro_preV 11 0 hK (hP.sub [0, 1, 2, 4] rfl) rfl rfl) rfl rfl hl.1 rfl (lv_room (Nat.le_of_ble_eq_true rfl)) dX11_chain_24 ⟨Nat.zero_le _, Nat.zero_le _⟩) hS hP (fun r24 H locs wr24 hP hS => ?_)
    obtain ⟨p_9, p_10, -⟩ := wr24
    refine lv_istore_n (lv' := [(3, .int r24), (0, .ref a0), (1, .int p0), (2, .int p1)]) hx hb dX11_chain_27 rfl hl (by decide) rfl (fun ls hl => ?_)
    refine lv_iload_n hx hb dX11_chain_28 rfl (lv_at hl 0 rfl) ?_
    refine lv_iconst (v := (-1)) hx hb dX11_chain_29 (by decide) ?_
    refine lv_icmp_ne (tgt := 37) hx hb dX11_chain_30 (by decide) (fun c30 => ?_) (fun c30 => ?_)
    · have h_11 : rg 0 7 r24 := r_ne_lo_i c30 p_9 (by decide) (by decide)
      refine lv_aload_n hx hb dX11_chain_37 rfl (lv_at hl 1 rfl) ?_
      refine lv_iload_n hx hb dX11_chain_38 rfl (lv_at hl 2 rfl) ?_
      refine lv_iload_n hx hb dX11_chain_39 rfl (lv_at hl 0 rfl) ?_
      refine ro_calli (va_runV (As := [.int p0, .int r24]) (rest := []) ⟨hx, hb, hml, hown, hts⟩ (a_X11_timeOf l G ct a0 (0 : Int32) a1 a2 a3 a4 a5 n0_6 n0_7 n0_8 n0_9 n0_10 l0_11 n0_12 n0_13 n0_14 n0_15 a6 a7 a8 a9 a10 a11 a12 a13 (ur18.1 0) (ur18.1 1) (ur18.1 2) (ur18.1 3) a14 n0_29 n0_30 f8 (ur18.2.1 0) p0 r24 hp_n0_6 hp_f8 p_7 h_5 h_11) (cwV 2 hts gX11_chain_X11_timeOf rfl rfl rfl (by decide +kernel) ⟨Nat.le_of_ble_eq_true rfl, Nat.le_of_ble_eq_true rfl⟩) (ro_preV 11 0 hK (hP.sub [0, 2, 4] rfl) rfl rfl) rfl rfl hl.1 rfl (lv_room (Nat.le_of_ble_eq_true rfl)) dX11_chain_40 ⟨Nat.zero_le _, Nat.zero_le _⟩) hS hP (fun r40 H locs wr40 hP hS => ?_)
      obtain ⟨p_12, -⟩ := wr40
      exact W.iret (v := r40) hx hb hr (fun t ht hW => ⟨⟨r40, (fun k => ([0, ur18.1 0, ur18.1 1, ur18.1 2, ur18.1 3] : List Int32).getD k 0, fun k => ([ur18.2.1 0, ur18.2.1 1, ur18.2.1 2] : List (Nat → Int32)).getD k (fun _ => 0), fun k => ([] : List (Nat → Int64)).getD k (fun _ => 0)), rfl, ⟨(fun _ => h_5), (fun _ => h_5), (fun _ => h_5), (fun _ => h_6), (fun _ => h_6), (fun _ => h_6), p_7, p_8, (rgn 0 (x := 0) (by decide)), trivial⟩, hp_at ht hP⟩, hS.F ht⟩) hS.2.2 dX11_chain_43
    · have h_13 : rg (-1) (-1) r24 := r_eq_l_i (e := (-1)) (f := (-1)) c30 p_9 (rgn (-1) (x := (-1)) (by decide)) (by decide)
      refine lv_iconst (v := (-1)) hx hb dX11_chain_33 (by decide) ?_
      refine lv_goto (tgt := 43) hx hb dX11_chain_34 (by decide) ?_
      exact W.iret (v := (-1)) hx hb hr (fun t ht hW => ⟨⟨(-1), (fun k => ([0, ur18.1 0, ur18.1 1, ur18.1 2, ur18.1 3] : List Int32).getD k 0, fun k => ([ur18.2.1 0, ur18.2.1 1, ur18.2.1 2] : List (Nat → Int32)).getD k (fun _ => 0), fun k => ([] : List (Nat → Int64)).getD k (fun _ => 0)), rfl, ⟨(fun _ => h_5), (fun _ => h_5), (fun _ => h_5), (fun _ => h_6), (fun _ => h_6), (fun _ => h_6), p_7, p_8, (rgn 0 (x := 0) (by decide)), trivial⟩, hp_at ht hP⟩, hS.F ht⟩) hS.2.2 dX11_chain_43
  · have h_14 : rg 0 0 r8 := r_eq_l_i (e := 0) (f := 0) c11 p_1 (rgn 0 (x := 0) (by decide)) (by decide)
    refine lv_bipush (v := (-2)) hx hb dX11_chain_14 (by decide) ?_
    exact W.iret (v := (-2)) hx hb hr (fun t ht hW => ⟨⟨(-2), (fun k => ([0, n0_24, n0_25, n0_26, n0_27] : List Int32).getD k 0, fun k => ([f11, f12, f13] : List (Nat → Int32)).getD k (fun _ => 0), fun k => ([] : List (Nat → Int64)).getD k (fun _ => 0)), rfl, ⟨(fun hq => absurd hq (rne (rgn (-2) (x := (-2)) (by decide)) (y := 0) (c := 0) (by decide) (by decide))), (fun hq => absurd hq (rne (rgn (-2) (x := (-2)) (by decide)) (y := (-1)) (c := (-1)) (by decide) (by decide))), (fun hq => absurd (req (rgn (-2) (x := (-2)) (by decide)) (y := (-2)) (by decide)) hq), (fun hq => absurd hq (rne (rgn (-2) (x := (-2)) (by decide)) (y := 0) (c := 0) (by decide) (by decide))), (fun hq => absurd hq (rne (rgn (-2) (x := (-2)) (by decide)) (y := (-1)) (c := (-1)) (by decide) (by decide))), (fun hq => absurd (req (rgn (-2) (x := (-2)) (by decide)) (y := (-2)) (by decide)) hq), hp_f11, hp_f13, (rgn 0 (x := 0) (by decide)), trivial⟩, hp_at ht hP⟩, hS.F ht⟩) hS.2.2 dX11_chain_16

set_option maxHeartbeats 4000000 in
set_option maxRecDepth 100000 in
theorem a_X11_doer (l : Launch) (G : va_G) (ct : Nat → ClassId) (a0 : Nat) (n0_0 : Int32) (a1 : Nat) (a2 : Nat) (a3 : Nat) (a4 : Nat) (a5 : Nat) (n0_6 : Int32) (n0_7 : Int32) (n0_8 : Int32) (n0_9 : Int32) (n0_10 : Int32) (l0_11 : Int64) (n0_12 : Int32) (n0_13 : Int32) (n0_14 : Int32) (n0_15 : Int32) (a6 : Nat) (a7 : Nat) (a8 : Nat) (a9 : Nat) (a10 : Nat) (a11 : Nat) (a12 : Nat) (a13 : Nat) (n0_24 : Int32) (n0_25 : Int32) (n0_26 : Int32) (n0_27 : Int32) (a14 : Nat) (n0_29 : Int32) (n0_30 : Int32) (f7 : Nat → Int32) (f8 : Nat → Int32) (f9 : Nat → Int32) (f11 : Nat → Int32) (f12 : Nat → Int32) (f13 : Nat → Int32) (p0 : Int32) (p1 : Int32) (hp_n0_6 : rg 0 900 n0_6) (hp_f7 : hsI f7) (hp_f8 : psI f8) (hp_f9 : ar 0 7 f9) (hp_f11 : ar (-1) 7 f11) (hp_f13 : ar (-1) 7 f13) : Met l yX11_doer wsX11_doer ({ frames := 5, cells := 0, slots := 0, locals := 111 }) (va_Pc [.ref a0, .int p0, .int p1] (wrP G ct [(a0, .inr (11, [.int n0_0, .ref a1, .ref a2, .ref a3, .ref a4, .ref a5, .int n0_6, .int n0_7, .int n0_8, .int n0_9, .int n0_10, .long l0_11, .int n0_12, .int n0_13, .int n0_14, .int n0_15, .ref a6, .ref a7, .ref a8, .ref a9, .ref a10, .ref a11, .ref a12, .ref a13, .int n0_24, .int n0_25, .int n0_26, .int n0_27, .ref a14, .int n0_29, .int n0_30])), (a7, .inl (ct 0, 15, .inl f7)), (a8, .inl (ct 0, 200, .inl f8)), (a9, .inl (ct 0, 1000, .inl f9)), (a11, .inl (ct 0, 8, .inl f11)), (a12, .inl (ct 0, 8, .inl f12)), (a13, .inl (ct 0, 8, .inl f13))])) (va_Qi (fun (r : Int32) (u : SU) => rg (-2) 7 r ∧ (r = 0 → rg 0 7 p0) ∧ (r = (-1) → rg 0 7 p0) ∧ (¬ r = (-2) → rg 0 7 p0) ∧ (r = 0 → rg 0 5 p1) ∧ (r = (-1) → rg 0 5 p1) ∧ (¬ r = (-2) → rg 0 5 p1) ∧ ar (-1) 7 (u.2.1 0) ∧ ar (-1) 7 (u.2.1 2) ∧ rg 0 0 (u.1 0) ∧ True) (fun u t => va_P G vwCl ((fun u : SU => [(a0, .inr (11, [.int (u.1 0), .ref a1, .ref a2, .ref a3, .ref a4, .ref a5, .int n0_6, .int n0_7, .int n0_8, .int n0_9, .int n0_10, .long l0_11, .int n0_12, .int n0_13, .int n0_14, .int n0_15, .ref a6, .ref a7, .ref a8, .ref a9, .ref a10, .ref a11, .ref a12, .ref a13, .int (u.1 1), .int (u.1 2), .int (u.1 3), .int (u.1 4), .ref a14, .int n0_29, .int n0_30])), (a7, .inl (ct 0, 15, .inl f7)), (a8, .inl (ct 0, 200, .inl f8)), (a9, .inl (ct 0, 1000, .inl f9)), (a11, .inl (ct 0, 8, .inl (u.2.1 0))), (a12, .inl (ct 0, 8, .inl (u.2.1 1))), (a13, .inl (ct 0, 8, .inl (u.2.1 2)))]) u) t.heap) (aset [(a0, .inr (11, [.int n0_0, .ref a1, .ref a2, .ref a3, .ref a4, .ref a5, .int n0_6, .int n0_7, .int n0_8, .int n0_9, .int n0_10, .long l0_11, .int n0_12, .int n0_13, .int n0_14, .int n0_15, .ref a6, .ref a7, .ref a8, .ref a9, .ref a10, .ref a11, .ref a12, .ref a13, .int n0_24, .int n0_25, .int n0_26, .int n0_27, .ref a14, .int n0_29, .int n0_30])), (a7, .inl (ct 0, 15, .inl f7)), (a8, .inl (ct 0, 200, .inl f8)), (a9, .inl (ct 0, 1000, .inl f9)), (a11, .inl (ct 0, 8, .inl f11)), (a12, .inl (ct 0, 8, .inl f12)), (a13, .inl (ct 0, 8, .inl f13))])) 0 0 (aset [(a0, .inr (11, [.int n0_0, .ref a1, .ref a2, .ref a3, .ref a4, .ref a5, .int n0_6, .int n0_7, .int n0_8, .int n0_9, .int n0_10, .long l0_11, .int n0_12, .int n0_13, .int n0_14, .int n0_15, .ref a6, .ref a7, .ref a8, .ref a9, .ref a10, .ref a11, .ref a12, .ref a13, .int n0_24, .int n0_25, .int n0_26, .int n0_27, .ref a14, .int n0_29, .int n0_30])), (a7, .inl (ct 0, 15, .inl f7)), (a8, .inl (ct 0, 200, .inl f8)), (a9, .inl (ct 0, 1000, .inl f9)), (a11, .inl (ct 0, 8, .inl f11)), (a12, .inl (ct 0, 8, .inl f12)), (a13, .inl (ct 0, 8, .inl f13))]) := by
  refine Met.ofW (cc := cX11_doer) (maxL := 3) (ret := (some .int)) (by decide) rfl ?_
  intro p e s m args below meth c s₁ B hml hv
  obtain ⟨rfl, hP, hK, hD0⟩ := hv
  have hx := B.exec
  have hb := B.bytes
  have hr := B.returns
  have hts := atoms_spec (ws := wsX11_doer) B.pre
  have hown : s.vm.findClass RX11 = some m.cls := findClass_of_methodNamed B.named
  have hlocks := B.notSynchronized
  have hD := hD0.aself
  generalize hAe : aset [(a0, .inr (11, [.int n0_0, .ref a1, .ref a2, .ref a3, .ref a4, .ref a5, .int n0_6, .int n0_7, .int n0_8, .int n0_9, .int n0_10, .long l0_11, .int n0_12, .int n0_13, .int n0_14, .int n0_15, .ref a6, .ref a7, .ref a8, .ref a9, .ref a10, .ref a11, .ref a12, .ref a13, .int n0_24, .int n0_25, .int n0_26, .int n0_27, .ref a14, .int n0_29, .int n0_30])), (a7, .inl (ct 0, 15, .inl f7)), (a8, .inl (ct 0, 200, .inl f8)), (a9, .inl (ct 0, 1000, .inl f9)), (a11, .inl (ct 0, 8, .inl f11)), (a12, .inl (ct 0, 8, .inl f12)), (a13, .inl (ct 0, 8, .inl f13))] = A at hD ⊢
  have hS : va_S A s.heap s.heap [] := va_S.rf
  have hl := lv_entry ([.ref a0, .int p0, .int p1]) (n := 3) (Nat.le_of_ble_eq_true rfl)
  rw [lg_entry_eq]
  generalize (lg_sl ([.ref a0, .int p0, .int p1]) ++ List.replicate (3 - (lg_sl ([.ref a0, .int p0, .int p1])).length) Slot.unset).toArray = ls at hl ⊢
  have hl : lv_has ls 3 [(0, .ref a0), (1, .int p0), (2, .int p1)] := hl
  refine lv_aload_n hx hb dX11_doer_0 rfl (lv_at hl 0 rfl) ?_
  refine lv_iconst (v := 0) hx hb dX11_doer_1 (by decide) ?_
  refine va_put (D := G) (ci := 11) (v := .int 0) (ty := .int) (C := RX11) (T := TX11) (N := 31) hx hb hts (by decide +kernel) tyX11 tyX11_ok nmX11 hown hK.1 hP hD hS 0 rfl rfl 0 (by decide) (hts (.fieldLink RX11 59 "CardHolderModel" "thrown" "I") (by decide +kernel)) (fun _ h9 => h9) rfl (by decide +kernel) rfl rfl (Nat.le_of_ble_eq_true rfl) dX11_doer_2 (fun H locs hP hD hS => ?_)
  refine lv_aload_n hx hb dX11_doer_5 rfl (lv_at hl 0 rfl) ?_
  refine lv_iload_n hx hb dX11_doer_6 rfl (lv_at hl 1 rfl) ?_
  refine lv_iload_n hx hb dX11_doer_7 rfl (lv_at hl 2 rfl) ?_
  refine ro_calli (va_runV (As := [.int p0, .int p1]) (rest := []) ⟨hx, hb, hml, hown, hts⟩ (a_X11_isChain l G ct a0 (0 : Int32) a1 a2 a3 a4 a5 n0_6 n0_7 n0_8 n0_9 n0_10 l0_11 n0_12 n0_13 n0_14 n0_15 a6 a7 a8 a9 a10 a11 a12 a13 n0_24 n0_25 n0_26 n0_27 a14 n0_29 n0_30 f7 p0 p1 hp_n0_6 hp_f7) (cwV 2 hts gX11_doer_X11_isChain rfl rfl rfl (by decide +kernel) ⟨Nat.le_of_ble_eq_true rfl, Nat.le_of_ble_eq_true rfl⟩) (ro_preV 11 0 hK (hP.sub [0, 1] rfl) rfl rfl) rfl rfl hl.1 rfl (lv_room (Nat.le_of_ble_eq_true rfl)) dX11_doer_8 ⟨Nat.zero_le _, Nat.zero_le _⟩) hS hP (fun r8 H locs wr8 hP hS => ?_)
  obtain ⟨p_1, p_2, p_3, -⟩ := wr8
  refine lv_if_ne (tgt := 17) hx hb dX11_doer_11 (by decide) (fun c11 => ?_) (fun c11 => ?_)
  · have h_4 : rg 1 1 r8 := r_ne_lo_i c11 p_1 (by decide) (by decide)
    have h_5 : rg 0 7 p0 := (p_2 (rne h_4 (y := 0) (c := 0) (by decide) (by decide)))
    have h_6 : rg 0 5 p1 := (p_3 (rne h_4 (y := 0) (c := 0) (by decide) (by decide)))
    refine lv_aload_n hx hb dX11_doer_17 rfl (lv_at hl 0 rfl) ?_
    refine wj_callv (wr := []) (w1 := (fun u : SU => [(a0, .inr (11, [.int 0, .ref a1, .ref a2, .ref a3, .ref a4, .ref a5, .int n0_6, .int n0_7, .int n0_8, .int n0_9, .int n0_10, .long l0_11, .int n0_12, .int n0_13, .int n0_14, .int n0_15, .ref a6, .ref a7, .ref a8, .ref a9, .ref a10, .ref a11, .ref a12, .ref a13, .int (u.1 0), .int (u.1 1), .int (u.1 2), .int (u.1 3), .ref a14, .int n0_29, .int n0_30])), (a7, .inl (ct 0, 15, .inl f7)), (a8, .inl (ct 0, 200, .inl f8)), (a9, .inl (ct 0, 1000, .inl f9)), (a11, .inl (ct 0, 8, .inl (u.2.1 0))), (a12, .inl (ct 0, 8, .inl (u.2.1 1))), (a13, .inl (ct 0, 8, .inl (u.2.1 2)))])) (va_runV (As := []) (rest := []) ⟨hx, hb, hml, hown, hts⟩ (a_X11_laysNow l G ct a0 (0 : Int32) a1 a2 a3 a4 a5 n0_6 n0_7 n0_8 n0_9 n0_10 l0_11 n0_12 n0_13 n0_14 n0_15 a6 a7 a8 a9 a10 a11 a12 a13 n0_24 n0_25 n0_26 n0_27 a14 n0_29 n0_30 f7 f8 f9 f11 f12 f13 hp_n0_6 hp_f7 hp_f8 hp_f9 hp_f11 hp_f13) (cwV 0 hts gX11_doer_X11_laysNow rfl rfl rfl (by decide +kernel) ⟨Nat.le_of_ble_eq_true rfl, Nat.le_of_ble_eq_true rfl⟩) (wr_preV 11 0 hK (hP.sub [0, 1, 2, 3, 4, 5, 6] rfl) (hD.sub [0, 1, 2, 3, 4, 5, 6] (by decide) rfl) rfl rfl) rfl rfl hl.1 rfl (lv_room (Nat.le_of_ble_eq_true rfl)) dX11_doer_18 ⟨Nat.zero_le _, Nat.zero_le _⟩) hS hP hD [0, 1, 2, 3, 4, 5, 6] [] rfl rfl (by decide) (fun _ => rfl) (fun ur18 H locs wr18 hP hD hS => ?_)
    have hP : va_P G vwCl [(a0, .inr (11, [.int 0, .ref a1, .ref a2, .ref a3, .ref a4, .ref a5, .int n0_6, .int n0_7, .int n0_8, .int n0_9, .int n0_10, .long l0_11, .int n0_12, .int n0_13, .int n0_14, .int n0_15, .ref a6, .ref a7, .ref a8, .ref a9, .ref a10, .ref a11, .ref a12, .ref a13, .int (ur18.1 0), .int (ur18.1 1), .int (ur18.1 2), .int (ur18.1 3), .ref a14, .int n0_29, .int n0_30])), (a7, .inl (ct 0, 15, .inl f7)), (a8, .inl (ct 0, 200, .inl f8)), (a9, .inl (ct 0, 1000, .inl f9)), (a11, .inl (ct 0, 8, .inl (ur18.2.1 0))), (a12, .inl (ct 0, 8, .inl (ur18.2.1 1))), (a13, .inl (ct 0, 8, .inl (ur18.2.1 2)))] H := hP.sub [0, 1, 2, 3, 4, 5, 6] rfl
    have hD : va_D A [(a0, .inr (11, [.int 0, .ref a1, .ref a2, .ref a3, .ref a4, .ref a5, .int n0_6, .int n0_7, .int n0_8, .int n0_9, .int n0_10, .long l0_11, .int n0_12, .int n0_13, .int n0_14, .int n0_15, .ref a6, .ref a7, .ref a8, .ref a9, .ref a10, .ref a11, .ref a12, .ref a13, .int (ur18.1 0), .int (ur18.1 1), .int (ur18.1 2), .int (ur18.1 3), .ref a14, .int n0_29, .int n0_30])), (a7, .inl (ct 0, 15, .inl f7)), (a8, .inl (ct 0, 200, .inl f8)), (a9, .inl (ct 0, 1000, .inl f9)), (a11, .inl (ct 0, 8, .inl (ur18.2.1 0))), (a12, .inl (ct 0, 8, .inl (ur18.2.1 1))), (a13, .inl (ct 0, 8, .inl (ur18.2.1 2)))] := hD.sub [0, 1, 2, 3, 4, 5, 6] (by decide) rfl
    obtain ⟨p_7, p_8, -⟩ := wr18
    refine lv_aload_n hx hb dX11_doer_21 rfl (lv_at hl 0 rfl) ?_
    refine lv_iload_n hx hb dX11_doer_22 rfl (lv_at hl 1 rfl) ?_
    refine lv_iload_n hx hb dX11_doer_23 rfl (lv_at hl 2 rfl) ?_
    refine ro_calli (va_runV (As := [.int p0, .int p1]) (rest := []) ⟨hx, hb, hml, hown, hts⟩ (a_X11_doerOf l G ct a0 (0 : Int32) a1 a2 a3 a4 a5 n0_6 n0_7 n0_8 n0_9 n0_10 l0_11 n0_12 n0_13 n0_14 n0_15 a6 a7 a8 a9 a10 a11 a12 a13 (ur18.1 0) (ur18.1 1) (ur18.1 2) (ur18.1 3) a14 n0_29 n0_30 f7 f8 (ur18.2.1 0) p0 p1 hp_n0_6 hp_f7 hp_f8 p_7 h_5 h_6) (cwV 2 hts gX11_doer_X11_doerOf rfl rfl rfl (by decide +kernel) ⟨Nat.le_of_ble_eq_true rfl, Nat.le_of_ble_eq_true rfl⟩) (ro_preV 11 0 hK (hP.sub [0, 1, 2, 4] rfl) rfl rfl) rfl rfl hl.1 rfl (lv_room (Nat.le_of_ble_eq_true rfl)) dX11_doer_24 ⟨Nat.zero_le _, Nat.zero_le _⟩) hS hP (fun r24 H locs wr24 hP hS => ?_)
    obtain ⟨p_9, p_10, -⟩ := wr24
    exact W.iret (v := r24) hx hb hr (fun t ht hW => ⟨⟨r24, (fun k => ([0, ur18.1 0, ur18.1 1, ur18.1 2, ur18.1 3] : List Int32).getD k 0, fun k => ([ur18.2.1 0, ur18.2.1 1, ur18.2.1 2] : List (Nat → Int32)).getD k (fun _ => 0), fun k => ([] : List (Nat → Int64)).getD k (fun _ => 0)), rfl, ⟨(rg_w (c := (-2)) (d := 7) p_9 (by decide)), (fun _ => h_5), (fun _ => h_5), (fun _ => h_5), (fun _ => h_6), (fun _ => h_6), (fun _ => h_6), p_7, p_8, (rgn 0 (x := 0) (by decide)), trivial⟩, hp_at ht hP⟩, hS.F ht⟩) hS.2.2 dX11_doer_27
  · have h_11 : rg 0 0 r8 := r_eq_l_i (e := 0) (f := 0) c11 p_1 (rgn 0 (x := 0) (by decide)) (by decide)
    refine lv_bipush (v := (-2)) hx hb dX11_doer_14 (by decide) ?_
    exact W.iret (v := (-2)) hx hb hr (fun t ht hW => ⟨⟨(-2), (fun k => ([0, n0_24, n0_25, n0_26, n0_27] : List Int32).getD k 0, fun k => ([f11, f12, f13] : List (Nat → Int32)).getD k (fun _ => 0), fun k => ([] : List (Nat → Int64)).getD k (fun _ => 0)), rfl, ⟨(rg_w (c := (-2)) (d := 7) (rgn (-2) (x := (-2)) (by decide)) (by decide)), (fun hq => absurd hq (rne (rgn (-2) (x := (-2)) (by decide)) (y := 0) (c := 0) (by decide) (by decide))), (fun hq => absurd hq (rne (rgn (-2) (x := (-2)) (by decide)) (y := (-1)) (c := (-1)) (by decide) (by decide))), (fun hq => absurd (req (rgn (-2) (x := (-2)) (by decide)) (y := (-2)) (by decide)) hq), (fun hq => absurd hq (rne (rgn (-2) (x := (-2)) (by decide)) (y := 0) (c := 0) (by decide) (by decide))), (fun hq => absurd hq (rne (rgn (-2) (x := (-2)) (by decide)) (y := (-1)) (c := (-1)) (by decide) (by decide))), (fun hq => absurd (req (rgn (-2) (x := (-2)) (by decide)) (y := (-2)) (by decide)) hq), hp_f11, hp_f13, (rgn 0 (x := 0) (by decide)), trivial⟩, hp_at ht hP⟩, hS.F ht⟩) hS.2.2 dX11_doer_16

set_option maxHeartbeats 4000000 in
set_option maxRecDepth 100000 in
theorem a_X11_can (l : Launch) (G : va_G) (ct : Nat → ClassId) (a0 : Nat) (n0_0 : Int32) (a1 : Nat) (a2 : Nat) (a3 : Nat) (a4 : Nat) (a5 : Nat) (n0_6 : Int32) (n0_7 : Int32) (n0_8 : Int32) (n0_9 : Int32) (n0_10 : Int32) (l0_11 : Int64) (n0_12 : Int32) (n0_13 : Int32) (n0_14 : Int32) (n0_15 : Int32) (a6 : Nat) (a7 : Nat) (a8 : Nat) (a9 : Nat) (a10 : Nat) (a11 : Nat) (a12 : Nat) (a13 : Nat) (n0_24 : Int32) (n0_25 : Int32) (n0_26 : Int32) (n0_27 : Int32) (a14 : Nat) (n0_29 : Int32) (n0_30 : Int32) (f7 : Nat → Int32) (f8 : Nat → Int32) (f9 : Nat → Int32) (f11 : Nat → Int32) (f12 : Nat → Int32) (f13 : Nat → Int32) (p0 : Int32) (hp_n0_6 : rg 0 900 n0_6) (hp_f7 : hsI f7) (hp_f8 : psI f8) (hp_f9 : ar 0 7 f9) (hp_f11 : ar (-1) 7 f11) (hp_f13 : ar (-1) 7 f13) : Met l yX11_can wsX11_can ({ frames := 5, cells := 0, slots := 0, locals := 111 }) (va_Pc [.ref a0, .int p0] (wrP G ct [(a0, .inr (11, [.int n0_0, .ref a1, .ref a2, .ref a3, .ref a4, .ref a5, .int n0_6, .int n0_7, .int n0_8, .int n0_9, .int n0_10, .long l0_11, .int n0_12, .int n0_13, .int n0_14, .int n0_15, .ref a6, .ref a7, .ref a8, .ref a9, .ref a10, .ref a11, .ref a12, .ref a13, .int n0_24, .int n0_25, .int n0_26, .int n0_27, .ref a14, .int n0_29, .int n0_30])), (a7, .inl (ct 0, 15, .inl f7)), (a8, .inl (ct 0, 200, .inl f8)), (a9, .inl (ct 0, 1000, .inl f9)), (a11, .inl (ct 0, 8, .inl f11)), (a12, .inl (ct 0, 8, .inl f12)), (a13, .inl (ct 0, 8, .inl f13))])) (va_Qi (fun (r : Int32) (u : SU) => rg (-2) 63 r ∧ (r = 0 → rg 0 7 p0) ∧ (¬ r = (-2) → rg 0 7 p0) ∧ ar (-1) 7 (u.2.1 0) ∧ ar (-1) 7 (u.2.1 2) ∧ rg 0 0 (u.1 0) ∧ True) (fun u t => va_P G vwCl ((fun u : SU => [(a0, .inr (11, [.int (u.1 0), .ref a1, .ref a2, .ref a3, .ref a4, .ref a5, .int n0_6, .int n0_7, .int n0_8, .int n0_9, .int n0_10, .long l0_11, .int n0_12, .int n0_13, .int n0_14, .int n0_15, .ref a6, .ref a7, .ref a8, .ref a9, .ref a10, .ref a11, .ref a12, .ref a13, .int (u.1 1), .int (u.1 2), .int (u.1 3), .int (u.1 4), .ref a14, .int n0_29, .int n0_30])), (a7, .inl (ct 0, 15, .inl f7)), (a8, .inl (ct 0, 200, .inl f8)), (a9, .inl (ct 0, 1000, .inl f9)), (a11, .inl (ct 0, 8, .inl (u.2.1 0))), (a12, .inl (ct 0, 8, .inl (u.2.1 1))), (a13, .inl (ct 0, 8, .inl (u.2.1 2)))]) u) t.heap) (aset [(a0, .inr (11, [.int n0_0, .ref a1, .ref a2, .ref a3, .ref a4, .ref a5, .int n0_6, .int n0_7, .int n0_8, .int n0_9, .int n0_10, .long l0_11, .int n0_12, .int n0_13, .int n0_14, .int n0_15, .ref a6, .ref a7, .ref a8, .ref a9, .ref a10, .ref a11, .ref a12, .ref a13, .int n0_24, .int n0_25, .int n0_26, .int n0_27, .ref a14, .int n0_29, .int n0_30])), (a7, .inl (ct 0, 15, .inl f7)), (a8, .inl (ct 0, 200, .inl f8)), (a9, .inl (ct 0, 1000, .inl f9)), (a11, .inl (ct 0, 8, .inl f11)), (a12, .inl (ct 0, 8, .inl f12)), (a13, .inl (ct 0, 8, .inl f13))])) 0 0 (aset [(a0, .inr (11, [.int n0_0, .ref a1, .ref a2, .ref a3, .ref a4, .ref a5, .int n0_6, .int n0_7, .int n0_8, .int n0_9, .int n0_10, .long l0_11, .int n0_12, .int n0_13, .int n0_14, .int n0_15, .ref a6, .ref a7, .ref a8, .ref a9, .ref a10, .ref a11, .ref a12, .ref a13, .int n0_24, .int n0_25, .int n0_26, .int n0_27, .ref a14, .int n0_29, .int n0_30])), (a7, .inl (ct 0, 15, .inl f7)), (a8, .inl (ct 0, 200, .inl f8)), (a9, .inl (ct 0, 1000, .inl f9)), (a11, .inl (ct 0, 8, .inl f11)), (a12, .inl (ct 0, 8, .inl f12)), (a13, .inl (ct 0, 8, .inl f13))]) := by
  refine Met.ofW (cc := cX11_can) (maxL := 4) (ret := (some .int)) (by decide) rfl ?_
  intro p e s m args below meth c s₁ B hml hv
  obtain ⟨rfl, hP, hK, hD0⟩ := hv
  have hx := B.exec
  have hb := B.bytes
  have hr := B.returns
  have hts := atoms_spec (ws := wsX11_can) B.pre
  have hown : s.vm.findClass RX11 = some m.cls := findClass_of_methodNamed B.named
  have hlocks := B.notSynchronized
  have hD := hD0.aself
  generalize hAe : aset [(a0, .inr (11, [.int n0_0, .ref a1, .ref a2, .ref a3, .ref a4, .ref a5, .int n0_6, .int n0_7, .int n0_8, .int n0_9, .int n0_10, .long l0_11, .int n0_12, .int n0_13, .int n0_14, .int n0_15, .ref a6, .ref a7, .ref a8, .ref a9, .ref a10, .ref a11, .ref a12, .ref a13, .int n0_24, .int n0_25, .int n0_26, .int n0_27, .ref a14, .int n0_29, .int n0_30])), (a7, .inl (ct 0, 15, .inl f7)), (a8, .inl (ct 0, 200, .inl f8)), (a9, .inl (ct 0, 1000, .inl f9)), (a11, .inl (ct 0, 8, .inl f11)), (a12, .inl (ct 0, 8, .inl f12)), (a13, .inl (ct 0, 8, .inl f13))] = A at hD ⊢
  have hS : va_S A s.heap s.heap [] := va_S.rf
  have hl := lv_entry ([.ref a0, .int p0]) (n := 4) (Nat.le_of_ble_eq_true rfl)
  rw [lg_entry_eq]
  generalize (lg_sl ([.ref a0, .int p0]) ++ List.replicate (4 - (lg_sl ([.ref a0, .int p0])).length) Slot.unset).toArray = ls at hl ⊢
  have hl : lv_has ls 4 [(0, .ref a0), (1, .int p0)] := hl
  refine lv_aload_n hx hb dX11_can_0 rfl (lv_at hl 0 rfl) ?_
  refine lv_iconst (v := 0) hx hb dX11_can_1 (by decide) ?_
  refine va_put (D := G) (ci := 11) (v := .int 0) (ty := .int) (C := RX11) (T := TX11) (N := 31) hx hb hts (by decide +kernel) tyX11 tyX11_ok nmX11 hown hK.1 hP hD hS 0 rfl rfl 0 (by decide) (hts (.fieldLink RX11 59 "CardHolderModel" "thrown" "I") (by decide +kernel)) (fun _ h9 => h9) rfl (by decide +kernel) rfl rfl (Nat.le_of_ble_eq_true rfl) dX11_can_2 (fun H locs hP hD hS => ?_)
  refine lv_aload_n hx hb dX11_can_5 rfl (lv_at hl 0 rfl) ?_
  refine lv_iload_n hx hb dX11_can_6 rfl (lv_at hl 1 rfl) ?_
  refine lv_i2l hx hb dX11_can_7 rfl ?_
  refine nl_i2l (rg_t p0) (fun z7 hz7 ez7 => ?_)
  refine ro_calli (va_runV (As := [.long z7]) (rest := []) ⟨hx, hb, hml, hown, hts⟩ (a_X11_isPerson l G ct a0 (0 : Int32) a1 a2 a3 a4 a5 n0_6 n0_7 n0_8 n0_9 n0_10 l0_11 n0_12 n0_13 n0_14 n0_15 a6 a7 a8 a9 a10 a11 a12 a13 n0_24 n0_25 n0_26 n0_27 a14 n0_29 n0_30 f7 z7 hp_n0_6 hp_f7) (cwV 1 hts gX11_can_X11_isPerson rfl rfl rfl (by decide +kernel) ⟨Nat.le_of_ble_eq_true rfl, Nat.le_of_ble_eq_true rfl⟩) (ro_preV 11 0 hK (hP.sub [0, 1] rfl) rfl rfl) rfl rfl hl.1 rfl (lv_room (Nat.le_of_ble_eq_true rfl)) dX11_can_8 ⟨Nat.zero_le _, Nat.zero_le _⟩) hS hP (fun r8 H locs wr8 hP hS => ?_)
  obtain ⟨p_1, p_2, -⟩ := wr8
  refine lv_if_ne (tgt := 17) hx hb dX11_can_11 (by decide) (fun c11 => ?_) (fun c11 => ?_)
  · have h_3 : rg 1 1 r8 := r_ne_lo_i c11 p_1 (by decide) (by decide)
    have h_4 : rl 0 7 z7 := (p_2 (rne h_3 (y := 0) (c := 0) (by decide) (by decide)))
    have h_5 : rg 0 7 p0 := bk_li (a := 0) (b := 7) ez7 h_4 (rg_t p0) (by decide)
    refine lv_aload_n hx hb dX11_can_17 rfl (lv_at hl 0 rfl) ?_
    refine wj_callv (wr := []) (w1 := (fun u : SU => [(a0, .inr (11, [.int 0, .ref a1, .ref a2, .ref a3, .ref a4, .ref a5, .int n0_6, .int n0_7, .int n0_8, .int n0_9, .int n0_10, .long l0_11, .int n0_12, .int n0_13, .int n0_14, .int n0_15, .ref a6, .ref a7, .ref a8, .ref a9, .ref a10, .ref a11, .ref a12, .ref a13, .int (u.1 0), .int (u.1 1), .int (u.1 2), .int (u.1 3), .ref a14, .int n0_29, .int n0_30])), (a7, .inl (ct 0, 15, .inl f7)), (a8, .inl (ct 0, 200, .inl f8)), (a9, .inl (ct 0, 1000, .inl f9)), (a11, .inl (ct 0, 8, .inl (u.2.1 0))), (a12, .inl (ct 0, 8, .inl (u.2.1 1))), (a13, .inl (ct 0, 8, .inl (u.2.1 2)))])) (va_runV (As := []) (rest := []) ⟨hx, hb, hml, hown, hts⟩ (a_X11_laysNow l G ct a0 (0 : Int32) a1 a2 a3 a4 a5 n0_6 n0_7 n0_8 n0_9 n0_10 l0_11 n0_12 n0_13 n0_14 n0_15 a6 a7 a8 a9 a10 a11 a12 a13 n0_24 n0_25 n0_26 n0_27 a14 n0_29 n0_30 f7 f8 f9 f11 f12 f13 hp_n0_6 hp_f7 hp_f8 hp_f9 hp_f11 hp_f13) (cwV 0 hts gX11_can_X11_laysNow rfl rfl rfl (by decide +kernel) ⟨Nat.le_of_ble_eq_true rfl, Nat.le_of_ble_eq_true rfl⟩) (wr_preV 11 0 hK (hP.sub [0, 1, 2, 3, 4, 5, 6] rfl) (hD.sub [0, 1, 2, 3, 4, 5, 6] (by decide) rfl) rfl rfl) rfl rfl hl.1 rfl (lv_room (Nat.le_of_ble_eq_true rfl)) dX11_can_18 ⟨Nat.zero_le _, Nat.zero_le _⟩) hS hP hD [0, 1, 2, 3, 4, 5, 6] [] rfl rfl (by decide) (fun _ => rfl) (fun ur18 H locs wr18 hP hD hS => ?_)
    have hP : va_P G vwCl [(a0, .inr (11, [.int 0, .ref a1, .ref a2, .ref a3, .ref a4, .ref a5, .int n0_6, .int n0_7, .int n0_8, .int n0_9, .int n0_10, .long l0_11, .int n0_12, .int n0_13, .int n0_14, .int n0_15, .ref a6, .ref a7, .ref a8, .ref a9, .ref a10, .ref a11, .ref a12, .ref a13, .int (ur18.1 0), .int (ur18.1 1), .int (ur18.1 2), .int (ur18.1 3), .ref a14, .int n0_29, .int n0_30])), (a7, .inl (ct 0, 15, .inl f7)), (a8, .inl (ct 0, 200, .inl f8)), (a9, .inl (ct 0, 1000, .inl f9)), (a11, .inl (ct 0, 8, .inl (ur18.2.1 0))), (a12, .inl (ct 0, 8, .inl (ur18.2.1 1))), (a13, .inl (ct 0, 8, .inl (ur18.2.1 2)))] H := hP.sub [0, 1, 2, 3, 4, 5, 6] rfl
    have hD : va_D A [(a0, .inr (11, [.int 0, .ref a1, .ref a2, .ref a3, .ref a4, .ref a5, .int n0_6, .int n0_7, .int n0_8, .int n0_9, .int n0_10, .long l0_11, .int n0_12, .int n0_13, .int n0_14, .int n0_15, .ref a6, .ref a7, .ref a8, .ref a9, .ref a10, .ref a11, .ref a12, .ref a13, .int (ur18.1 0), .int (ur18.1 1), .int (ur18.1 2), .int (ur18.1 3), .ref a14, .int n0_29, .int n0_30])), (a7, .inl (ct 0, 15, .inl f7)), (a8, .inl (ct 0, 200, .inl f8)), (a9, .inl (ct 0, 1000, .inl f9)), (a11, .inl (ct 0, 8, .inl (ur18.2.1 0))), (a12, .inl (ct 0, 8, .inl (ur18.2.1 1))), (a13, .inl (ct 0, 8, .inl (ur18.2.1 2)))] := hD.sub [0, 1, 2, 3, 4, 5, 6] (by decide) rfl
    obtain ⟨p_6, p_7, -⟩ := wr18
    refine lv_iconst (v := 0) hx hb dX11_can_21 (by decide) ?_
    refine lv_istore_n (lv' := [(2, .int 0), (0, .ref a0), (1, .int p0)]) hx hb dX11_can_22 rfl hl (by decide) rfl (fun ls hl => ?_)
    refine lv_iconst (v := 0) hx hb dX11_can_23 (by decide) ?_
    refine lv_istore_n (lv' := [(3, .int 0), (2, .int 0), (0, .ref a0), (1, .int p0)]) hx hb dX11_can_24 rfl hl (by decide) rfl (fun ls hl => ?_)
    have j25 : ∀ (n : Nat) (x25_2 : Int32) (x25_3 : Int32) (H : Heap) (locs : List Loc) (ls : Array Slot), 2147483648 ≤ x25_3.toInt + (n : Int) → rg 0 63 x25_2 → rg 0 6 x25_3 → va_P G vwCl [(a0, .inr (11, [.int 0, .ref a1, .ref a2, .ref a3, .ref a4, .ref a5, .int n0_6, .int n0_7, .int n0_8, .int n0_9, .int n0_10, .long l0_11, .int n0_12, .int n0_13, .int n0_14, .int n0_15, .ref a6, .ref a7, .ref a8, .ref a9, .ref a10, .ref a11, .ref a12, .ref a13, .int (ur18.1 0), .int (ur18.1 1), .int (ur18.1 2), .int (ur18.1 3), .ref a14, .int n0_29, .int n0_30])), (a7, .inl (ct 0, 15, .inl f7)), (a8, .inl (ct 0, 200, .inl f8)), (a9, .inl (ct 0, 1000, .inl f9)), (a11, .inl (ct 0, 8, .inl (ur18.2.1 0))), (a12, .inl (ct 0, 8, .inl (ur18.2.1 1))), (a13, .inl (ct 0, 8, .inl (ur18.2.1 2)))] H → va_D A [(a0, .inr (11, [.int 0, .ref a1, .ref a2, .ref a3, .ref a4, .ref a5, .int n0_6, .int n0_7, .int n0_8, .int n0_9, .int n0_10, .long l0_11, .int n0_12, .int n0_13, .int n0_14, .int n0_15, .ref a6, .ref a7, .ref a8, .ref a9, .ref a10, .ref a11, .ref a12, .ref a13, .int (ur18.1 0), .int (ur18.1 1), .int (ur18.1 2), .int (ur18.1 3), .ref a14, .int n0_29, .int n0_30])), (a7, .inl (ct 0, 15, .inl f7)), (a8, .inl (ct 0, 200, .inl f8)), (a9, .inl (ct 0, 1000, .inl f9)), (a11, .inl (ct 0, 8, .inl (ur18.2.1 0))), (a12, .inl (ct 0, 8, .inl (ur18.2.1 1))), (a13, .inl (ct 0, 8, .inl (ur18.2.1 2)))] → va_S A s.heap H locs → lv_has ls 4 [(0, .ref a0), (1, .int p0), (2, .int x25_2), (3, .int x25_3)] → W p l e (headSpec wsX11_can ({ frames := 5, cells := 0, slots := 0, locals := 111 })).room s m ([.ref a0, .int p0] : List Value).toArray below meth c H locs 0 0 (MQ below (va_Qi (fun (r : Int32) (u : SU) => rg (-2) 63 r ∧ (r = 0 → rg 0 7 p0) ∧ (¬ r = (-2) → rg 0 7 p0) ∧ ar (-1) 7 (u.2.1 0) ∧ ar (-1) 7 (u.2.1 2) ∧ rg 0 0 (u.1 0) ∧ True) (fun u t => va_P G vwCl ((fun u : SU => [(a0, .inr (11, [.int (u.1 0), .ref a1, .ref a2, .ref a3, .ref a4, .ref a5, .int n0_6, .int n0_7, .int n0_8, .int n0_9, .int n0_10, .long l0_11, .int n0_12, .int n0_13, .int n0_14, .int n0_15, .ref a6, .ref a7, .ref a8, .ref a9, .ref a10, .ref a11, .ref a12, .ref a13, .int (u.1 1), .int (u.1 2), .int (u.1 3), .int (u.1 4), .ref a14, .int n0_29, .int n0_30])), (a7, .inl (ct 0, 15, .inl f7)), (a8, .inl (ct 0, 200, .inl f8)), (a9, .inl (ct 0, 1000, .inl f9)), (a11, .inl (ct 0, 8, .inl (u.2.1 0))), (a12, .inl (ct 0, 8, .inl (u.2.1 1))), (a13, .inl (ct 0, 8, .inl (u.2.1 2)))]) u) t.heap) A) ([.ref a0, .int p0] : List Value).toArray s 0 0 A) (F0 m 25 ls []) := by
      intro n
      induction n with
      | zero => intro x25_2 x25_3 H locs ls hn25 hx25_2 hx25_3 hP hD hS hl; exact absurd hn25 (by have := Int32.toInt_lt x25_3; have := Int32.le_toInt x25_3; omega)
      | succ n ih25 =>
        intro x25_2 x25_3 H locs ls hn25 hx25_2 hx25_3 hP hD hS hl
        refine lv_iload_n hx hb dX11_can_25 rfl (lv_at hl 3 rfl) ?_
        refine lv_bipush (v := 6) hx hb dX11_can_26 (by decide) ?_
        refine lv_icmp_ge (tgt := 70) hx hb dX11_can_28 (by decide) (fun c28 => ?_) (fun c28 => ?_)
        · have h_8 : rg 6 6 x25_3 := r_le_r_i c28 (rgn 6 (x := 6) (by decide)) hx25_3
          refine lv_iload_n hx hb dX11_can_70 rfl (lv_at hl 2 rfl) ?_
          exact W.iret (v := x25_2) hx hb hr (fun t ht hW => ⟨⟨x25_2, (fun k => ([0, ur18.1 0, ur18.1 1, ur18.1 2, ur18.1 3] : List Int32).getD k 0, fun k => ([ur18.2.1 0, ur18.2.1 1, ur18.2.1 2] : List (Nat → Int32)).getD k (fun _ => 0), fun k => ([] : List (Nat → Int64)).getD k (fun _ => 0)), rfl, ⟨(rg_w (c := (-2)) (d := 63) hx25_2 (by decide)), (fun _ => h_5), (fun _ => h_5), p_6, p_7, (rgn 0 (x := 0) (by decide)), trivial⟩, hp_at ht hP⟩, hS.F ht⟩) hS.2.2 dX11_can_71
        · have h_9 : rg 0 5 x25_3 := r_lt_l_i (nle_i c28) hx25_3 (rgn 6 (x := 6) (by decide)) (by decide)
          refine lv_iload_n hx hb dX11_can_31 rfl (lv_at hl 2 rfl) ?_
          refine lv_aload_n hx hb dX11_can_32 rfl (lv_at hl 0 rfl) ?_
          refine lv_iload_n hx hb dX11_can_33 rfl (lv_at hl 1 rfl) ?_
          refine lv_iconst (v := 2) hx hb dX11_can_34 (by decide) ?_
          refine ro_calli (va_runV (As := [.int p0, .int 2]) (rest := [.int x25_2]) ⟨hx, hb, hml, hown, hts⟩ (a_X11_of2 l G ct a0 (0 : Int32) a1 a2 a3 a4 a5 n0_6 n0_7 n0_8 n0_9 n0_10 l0_11 n0_12 n0_13 n0_14 n0_15 a6 a7 a8 a9 a10 a11 a12 a13 (ur18.1 0) (ur18.1 1) (ur18.1 2) (ur18.1 3) a14 n0_29 n0_30 f8 p0 hp_n0_6 hp_f8 h_5) (cwV 2 hts gX11_can_X11_of rfl rfl rfl (by decide +kernel) ⟨Nat.le_of_ble_eq_true rfl, Nat.le_of_ble_eq_true rfl⟩) (ro_preV 11 0 hK (hP.sub [0, 2] rfl) rfl rfl) rfl rfl hl.1 rfl (lv_room (Nat.le_of_ble_eq_true rfl)) dX11_can_35 ⟨Nat.zero_le _, Nat.zero_le _⟩) hS hP (fun r35 H locs wr35 hP hS => ?_)
          obtain ⟨p_10, -⟩ := wr35
          refine lv_iload_n hx hb dX11_can_38 rfl (lv_at hl 3 rfl) ?_
          refine ro_calli (va_runS (As := [.int r35, .int x25_3]) (rest := [.int x25_2]) ⟨hx, hb, hml, hown, hts⟩ (a_X11_isBit l G ct r35 x25_3) (va_cwS 2 hts gX11_can_X11_isBit rfl rfl rfl (by decide +kernel) ⟨Nat.le_of_ble_eq_true rfl, Nat.le_of_ble_eq_true rfl⟩) (ro_pre hK (hP.sub [] rfl)) rfl rfl hl.1 rfl (lv_room (Nat.le_of_ble_eq_true rfl)) dX11_can_39 ⟨Nat.zero_le _, Nat.zero_le _⟩) hS hP (fun r39 H locs wr39 hP hS => ?_)
          obtain ⟨p_11, -⟩ := wr39
          have j62 : ∀ (y62_0 : Int32) (y62_1 : Int32) (H : Heap) (locs : List Loc) (ls : Array Slot), rg 0 32 y62_0 → rg 0 63 y62_1 → va_P G vwCl [(a0, .inr (11, [.int 0, .ref a1, .ref a2, .ref a3, .ref a4, .ref a5, .int n0_6, .int n0_7, .int n0_8, .int n0_9, .int n0_10, .long l0_11, .int n0_12, .int n0_13, .int n0_14, .int n0_15, .ref a6, .ref a7, .ref a8, .ref a9, .ref a10, .ref a11, .ref a12, .ref a13, .int (ur18.1 0), .int (ur18.1 1), .int (ur18.1 2), .int (ur18.1 3), .ref a14, .int n0_29, .int n0_30])), (a7, .inl (ct 0, 15, .inl f7)), (a8, .inl (ct 0, 200, .inl f8)), (a9, .inl (ct 0, 1000, .inl f9)), (a11, .inl (ct 0, 8, .inl (ur18.2.1 0))), (a12, .inl (ct 0, 8, .inl (ur18.2.1 1))), (a13, .inl (ct 0, 8, .inl (ur18.2.1 2)))] H → va_D A [(a0, .inr (11, [.int 0, .ref a1, .ref a2, .ref a3, .ref a4, .ref a5, .int n0_6, .int n0_7, .int n0_8, .int n0_9, .int n0_10, .long l0_11, .int n0_12, .int n0_13, .int n0_14, .int n0_15, .ref a6, .ref a7, .ref a8, .ref a9, .ref a10, .ref a11, .ref a12, .ref a13, .int (ur18.1 0), .int (ur18.1 1), .int (ur18.1 2), .int (ur18.1 3), .ref a14, .int n0_29, .int n0_30])), (a7, .inl (ct 0, 15, .inl f7)), (a8, .inl (ct 0, 200, .inl f8)), (a9, .inl (ct 0, 1000, .inl f9)), (a11, .inl (ct 0, 8, .inl (ur18.2.1 0))), (a12, .inl (ct 0, 8, .inl (ur18.2.1 1))), (a13, .inl (ct 0, 8, .inl (ur18.2.1 2)))] → va_S A s.heap H locs → lv_has ls 4 [(0, .ref a0), (1, .int p0), (2, .int x25_2), (3, .int x25_3)] → W p l e (headSpec wsX11_can ({ frames := 5, cells := 0, slots := 0, locals := 111 })).room s m ([.ref a0, .int p0] : List Value).toArray below meth c H locs 0 0 (MQ below (va_Qi (fun (r : Int32) (u : SU) => rg (-2) 63 r ∧ (r = 0 → rg 0 7 p0) ∧ (¬ r = (-2) → rg 0 7 p0) ∧ ar (-1) 7 (u.2.1 0) ∧ ar (-1) 7 (u.2.1 2) ∧ rg 0 0 (u.1 0) ∧ True) (fun u t => va_P G vwCl ((fun u : SU => [(a0, .inr (11, [.int (u.1 0), .ref a1, .ref a2, .ref a3, .ref a4, .ref a5, .int n0_6, .int n0_7, .int n0_8, .int n0_9, .int n0_10, .long l0_11, .int n0_12, .int n0_13, .int n0_14, .int n0_15, .ref a6, .ref a7, .ref a8, .ref a9, .ref a10, .ref a11, .ref a12, .ref a13, .int (u.1 1), .int (u.1 2), .int (u.1 3), .int (u.1 4), .ref a14, .int n0_29, .int n0_30])), (a7, .inl (ct 0, 15, .inl f7)), (a8, .inl (ct 0, 200, .inl f8)), (a9, .inl (ct 0, 1000, .inl f9)), (a11, .inl (ct 0, 8, .inl (u.2.1 0))), (a12, .inl (ct 0, 8, .inl (u.2.1 1))), (a13, .inl (ct 0, 8, .inl (u.2.1 2)))]) u) t.heap) A) ([.ref a0, .int p0] : List Value).toArray s 0 0 A) (F0 m 62 ls [.int y62_0, .int y62_1]) := by
            intro y62_0 y62_1 H locs ls hy62_0 hy62_1 hP hD hS hl
            refine lv_ior hx hb dX11_can_62 ?_
            refine nm_or (k := 6) (e1 := 0) (f := 63) hy62_1 hy62_0 (by decide) (fun z62 hz62 => ?_)
            refine lv_istore_n (lv' := [(2, .int z62), (0, .ref a0), (1, .int p0), (3, .int x25_3)]) hx hb dX11_can_63 rfl hl (by decide) rfl (fun ls hl => ?_)
            obtain ⟨z64, qz64⟩ : ∃ y : Int32, y = x25_3 + Int32.ofInt 1 := ⟨_, rfl⟩
            obtain ⟨hz64, ez64⟩ := inc_z (e := 1) (f := 6) h_9 qz64 (by decide)
            refine lv_iinc (v := z64) (lv' := [(3, .int z64), (2, .int z62), (0, .ref a0), (1, .int p0)]) hx hb dX11_can_64 hl (k := 3) rfl (qz64.symm) (by decide) rfl (fun ls hl => ?_)
            refine lv_goto (tgt := 25) hx hb dX11_can_67 (by decide) ?_
            exact ih25 z62 z64 _ _ ls (by have q := hn25; have := ez64; omega) hz62 (rg_w (c := 0) (d := 6) hz64 (by decide)) hP hD hS (lv_sub hl [2, 3, 1, 0] rfl)
          have j61 : ∀ (H : Heap) (locs : List Loc) (ls : Array Slot), va_P G vwCl [(a0, .inr (11, [.int 0, .ref a1, .ref a2, .ref a3, .ref a4, .ref a5, .int n0_6, .int n0_7, .int n0_8, .int n0_9, .int n0_10, .long l0_11, .int n0_12, .int n0_13, .int n0_14, .int n0_15, .ref a6, .ref a7, .ref a8, .ref a9, .ref a10, .ref a11, .ref a12, .ref a13, .int (ur18.1 0), .int (ur18.1 1), .int (ur18.1 2), .int (ur18.1 3), .ref a14, .int n0_29, .int n0_30])), (a7, .inl (ct 0, 15, .inl f7)), (a8, .inl (ct 0, 200, .inl f8)), (a9, .inl (ct 0, 1000, .inl f9)), (a11, .inl (ct 0, 8, .inl (ur18.2.1 0))), (a12, .inl (ct 0, 8, .inl (ur18.2.1 1))), (a13, .inl (ct 0, 8, .inl (ur18.2.1 2)))] H → va_D A [(a0, .inr (11, [.int 0, .ref a1, .ref a2, .ref a3, .ref a4, .ref a5, .int n0_6, .int n0_7, .int n0_8, .int n0_9, .int n0_10, .long l0_11, .int n0_12, .int n0_13, .int n0_14, .int n0_15, .ref a6, .ref a7, .ref a8, .ref a9, .ref a10, .ref a11, .ref a12, .ref a13, .int (ur18.1 0), .int (ur18.1 1), .int (ur18.1 2), .int (ur18.1 3), .ref a14, .int n0_29, .int n0_30])), (a7, .inl (ct 0, 15, .inl f7)), (a8, .inl (ct 0, 200, .inl f8)), (a9, .inl (ct 0, 1000, .inl f9)), (a11, .inl (ct 0, 8, .inl (ur18.2.1 0))), (a12, .inl (ct 0, 8, .inl (ur18.2.1 1))), (a13, .inl (ct 0, 8, .inl (ur18.2.1 2)))] → va_S A s.heap H locs → lv_has ls 4 [(0, .ref a0), (1, .int p0), (2, .int x25_2), (3, .int x25_3)] → W p l e (headSpec wsX11_can ({ frames := 5, cells := 0, slots := 0, locals := 111 })).room s m ([.ref a0, .int p0] : List Value).toArray below meth c H locs 0 0 (MQ below (va_Qi (fun (r : Int32) (u : SU) => rg (-2) 63 r ∧ (r = 0 → rg 0 7 p0) ∧ (¬ r = (-2) → rg 0 7 p0) ∧ ar (-1) 7 (u.2.1 0) ∧ ar (-1) 7 (u.2.1 2) ∧ rg 0 0 (u.1 0) ∧ True) (fun u t => va_P G vwCl ((fun u : SU => [(a0, .inr (11, [.int (u.1 0), .ref a1, .ref a2, .ref a3, .ref a4, .ref a5, .int n0_6, .int n0_7, .int n0_8, .int n0_9, .int n0_10, .long l0_11, .int n0_12, .int n0_13, .int n0_14, .int n0_15, .ref a6, .ref a7, .ref a8, .ref a9, .ref a10, .ref a11, .ref a12, .ref a13, .int (u.1 1), .int (u.1 2), .int (u.1 3), .int (u.1 4), .ref a14, .int n0_29, .int n0_30])), (a7, .inl (ct 0, 15, .inl f7)), (a8, .inl (ct 0, 200, .inl f8)), (a9, .inl (ct 0, 1000, .inl f9)), (a11, .inl (ct 0, 8, .inl (u.2.1 0))), (a12, .inl (ct 0, 8, .inl (u.2.1 1))), (a13, .inl (ct 0, 8, .inl (u.2.1 2)))]) u) t.heap) A) ([.ref a0, .int p0] : List Value).toArray s 0 0 A) (F0 m 61 ls [.int x25_2]) := by
            intro  H locs ls  hP hD hS hl
            refine lv_iconst (v := 0) hx hb dX11_can_61 (by decide) ?_
            exact j62 (0 : Int32) x25_2 _ _ ls (rg_w (c := 0) (d := 32) (rgn 0 (x := 0) (by decide)) (by decide)) hx25_2 hP hD hS (lv_sub hl [0, 1, 2, 3] rfl)
          refine lv_if_eq (tgt := 61) hx hb dX11_can_42 (by decide) (fun c42 => ?_) (fun c42 => ?_)
          · have h_12 : rg 0 0 r39 := r_eq_l_i (e := 0) (f := 0) c42 p_11 (rgn 0 (x := 0) (by decide)) (by decide)
            exact j61 _ _ ls hP hD hS (lv_sub hl [0, 1, 2, 3] rfl)
          · have h_13 : rg 1 1 r39 := r_ne_lo_i c42 p_11 (by decide) (by decide)
            refine lv_aload_n hx hb dX11_can_45 rfl (lv_at hl 0 rfl) ?_
            refine lv_iload_n hx hb dX11_can_46 rfl (lv_at hl 1 rfl) ?_
            refine lv_iload_n hx hb dX11_can_47 rfl (lv_at hl 3 rfl) ?_
            refine ro_calli (va_runV (As := [.int p0, .int x25_3]) (rest := [.int x25_2]) ⟨hx, hb, hml, hown, hts⟩ (a_X11_doerOf l G ct a0 (0 : Int32) a1 a2 a3 a4 a5 n0_6 n0_7 n0_8 n0_9 n0_10 l0_11 n0_12 n0_13 n0_14 n0_15 a6 a7 a8 a9 a10 a11 a12 a13 (ur18.1 0) (ur18.1 1) (ur18.1 2) (ur18.1 3) a14 n0_29 n0_30 f7 f8 (ur18.2.1 0) p0 x25_3 hp_n0_6 hp_f7 hp_f8 p_6 h_5 h_9) (cwV 2 hts gX11_can_X11_doerOf rfl rfl rfl (by decide +kernel) ⟨Nat.le_of_ble_eq_true rfl, Nat.le_of_ble_eq_true rfl⟩) (ro_preV 11 0 hK (hP.sub [0, 1, 2, 4] rfl) rfl rfl) rfl rfl hl.1 rfl (lv_room (Nat.le_of_ble_eq_true rfl)) dX11_can_48 ⟨Nat.zero_le _, Nat.zero_le _⟩) hS hP (fun r48 H locs wr48 hP hS => ?_)
            obtain ⟨p_14, p_15, -⟩ := wr48
            refine lv_iconst (v := (-1)) hx hb dX11_can_51 (by decide) ?_
            refine lv_icmp_eq (tgt := 61) hx hb dX11_can_52 (by decide) (fun c52 => ?_) (fun c52 => ?_)
            · have h_16 : rg (-1) (-1) r48 := r_eq_l_i (e := (-1)) (f := (-1)) c52 p_14 (rgn (-1) (x := (-1)) (by decide)) (by decide)
              exact j61 _ _ ls hP hD hS (lv_sub hl [0, 1, 2, 3] rfl)
            · have h_17 : rg 0 7 r48 := r_ne_lo_i c52 p_14 (by decide) (by decide)
              refine lv_iconst (v := 1) hx hb dX11_can_55 (by decide) ?_
              refine lv_iload_n hx hb dX11_can_56 rfl (lv_at hl 3 rfl) ?_
              refine lv_ishl hx hb dX11_can_57 ?_
              refine nm_shl (e1 := 1) (f := 32) h_9 (by decide) (fun z57 hz57 => ?_)
              refine lv_goto (tgt := 62) hx hb dX11_can_58 (by decide) ?_
              exact j62 z57 x25_2 _ _ ls (rg_w (c := 0) (d := 32) hz57 (by decide)) hx25_2 hP hD hS (lv_sub hl [0, 1, 2, 3] rfl)
    exact j25 4294967296 (0 : Int32) (0 : Int32) _ _ ls (ms_e (0 : Int32)) (rg_w (c := 0) (d := 63) (rgn 0 (x := 0) (by decide)) (by decide)) (rg_w (c := 0) (d := 6) (rgn 0 (x := 0) (by decide)) (by decide)) hP hD hS (lv_sub hl [2, 3, 1, 0] rfl)
  · have h_18 : rg 0 0 r8 := r_eq_l_i (e := 0) (f := 0) c11 p_1 (rgn 0 (x := 0) (by decide)) (by decide)
    refine lv_bipush (v := (-2)) hx hb dX11_can_14 (by decide) ?_
    exact W.iret (v := (-2)) hx hb hr (fun t ht hW => ⟨⟨(-2), (fun k => ([0, n0_24, n0_25, n0_26, n0_27] : List Int32).getD k 0, fun k => ([f11, f12, f13] : List (Nat → Int32)).getD k (fun _ => 0), fun k => ([] : List (Nat → Int64)).getD k (fun _ => 0)), rfl, ⟨(rg_w (c := (-2)) (d := 63) (rgn (-2) (x := (-2)) (by decide)) (by decide)), (fun hq => absurd hq (rne (rgn (-2) (x := (-2)) (by decide)) (y := 0) (c := 0) (by decide) (by decide))), (fun hq => absurd (req (rgn (-2) (x := (-2)) (by decide)) (y := (-2)) (by decide)) hq), hp_f11, hp_f13, (rgn 0 (x := 0) (by decide)), trivial⟩, hp_at ht hP⟩, hS.F ht⟩) hS.2.2 dX11_can_16

set_option maxHeartbeats 4000000 in
set_option maxRecDepth 100000 in
theorem a_X11_asked (l : Launch) (G : va_G) (ct : Nat → ClassId) (a0 : Nat) (n0_0 : Int32) (a1 : Nat) (a2 : Nat) (a3 : Nat) (a4 : Nat) (a5 : Nat) (n0_6 : Int32) (n0_7 : Int32) (n0_8 : Int32) (n0_9 : Int32) (n0_10 : Int32) (l0_11 : Int64) (n0_12 : Int32) (n0_13 : Int32) (n0_14 : Int32) (n0_15 : Int32) (a6 : Nat) (a7 : Nat) (a8 : Nat) (a9 : Nat) (a10 : Nat) (a11 : Nat) (a12 : Nat) (a13 : Nat) (n0_24 : Int32) (n0_25 : Int32) (n0_26 : Int32) (n0_27 : Int32) (a14 : Nat) (n0_29 : Int32) (n0_30 : Int32) (f7 : Nat → Int32) (f8 : Nat → Int32) (f9 : Nat → Int32) (f11 : Nat → Int32) (f12 : Nat → Int32) (f13 : Nat → Int32) (p0 : Int32) (p1 : Int32) (p2 : Int32) (hp_n0_6 : rg 0 900 n0_6) (hp_f7 : hsI f7) (hp_f8 : psI f8) (hp_f9 : ar 0 7 f9) (hp_f11 : ar (-1) 7 f11) (hp_f13 : ar (-1) 7 f13) : Met l yX11_asked wsX11_asked ({ frames := 5, cells := 0, slots := 0, locals := 111 }) (va_Pc [.ref a0, .int p0, .int p1, .int p2] (wrP G ct [(a0, .inr (11, [.int n0_0, .ref a1, .ref a2, .ref a3, .ref a4, .ref a5, .int n0_6, .int n0_7, .int n0_8, .int n0_9, .int n0_10, .long l0_11, .int n0_12, .int n0_13, .int n0_14, .int n0_15, .ref a6, .ref a7, .ref a8, .ref a9, .ref a10, .ref a11, .ref a12, .ref a13, .int n0_24, .int n0_25, .int n0_26, .int n0_27, .ref a14, .int n0_29, .int n0_30])), (a7, .inl (ct 0, 15, .inl f7)), (a8, .inl (ct 0, 200, .inl f8)), (a9, .inl (ct 0, 1000, .inl f9)), (a11, .inl (ct 0, 8, .inl f11)), (a12, .inl (ct 0, 8, .inl f12)), (a13, .inl (ct 0, 8, .inl f13))])) (va_Qi (fun (r : Int32) (u : SU) => rg (-2) 7 r ∧ (r = 0 → rg 0 7 p0) ∧ (r = (-1) → rg 0 7 p0) ∧ (¬ r = (-2) → rg 0 7 p0) ∧ (r = 0 → rg 0 5 p1) ∧ (r = (-1) → rg 0 5 p1) ∧ (¬ r = (-2) → rg 0 5 p1) ∧ (r = 0 → rg 0 7 p2) ∧ ar (-1) 7 (u.2.1 0) ∧ ar (-1) 7 (u.2.1 2) ∧ rg 0 0 (u.1 0) ∧ True) (fun u t => va_P G vwCl ((fun u : SU => [(a0, .inr (11, [.int (u.1 0), .ref a1, .ref a2, .ref a3, .ref a4, .ref a5, .int n0_6, .int n0_7, .int n0_8, .int n0_9, .int n0_10, .long l0_11, .int n0_12, .int n0_13, .int n0_14, .int n0_15, .ref a6, .ref a7, .ref a8, .ref a9, .ref a10, .ref a11, .ref a12, .ref a13, .int (u.1 1), .int (u.1 2), .int (u.1 3), .int (u.1 4), .ref a14, .int n0_29, .int n0_30])), (a7, .inl (ct 0, 15, .inl f7)), (a8, .inl (ct 0, 200, .inl f8)), (a9, .inl (ct 0, 1000, .inl f9)), (a11, .inl (ct 0, 8, .inl (u.2.1 0))), (a12, .inl (ct 0, 8, .inl (u.2.1 1))), (a13, .inl (ct 0, 8, .inl (u.2.1 2)))]) u) t.heap) (aset [(a0, .inr (11, [.int n0_0, .ref a1, .ref a2, .ref a3, .ref a4, .ref a5, .int n0_6, .int n0_7, .int n0_8, .int n0_9, .int n0_10, .long l0_11, .int n0_12, .int n0_13, .int n0_14, .int n0_15, .ref a6, .ref a7, .ref a8, .ref a9, .ref a10, .ref a11, .ref a12, .ref a13, .int n0_24, .int n0_25, .int n0_26, .int n0_27, .ref a14, .int n0_29, .int n0_30])), (a7, .inl (ct 0, 15, .inl f7)), (a8, .inl (ct 0, 200, .inl f8)), (a9, .inl (ct 0, 1000, .inl f9)), (a11, .inl (ct 0, 8, .inl f11)), (a12, .inl (ct 0, 8, .inl f12)), (a13, .inl (ct 0, 8, .inl f13))])) 0 0 (aset [(a0, .inr (11, [.int n0_0, .ref a1, .ref a2, .ref a3, .ref a4, .ref a5, .int n0_6, .int n0_7, .int n0_8, .int n0_9, .int n0_10, .long l0_11, .int n0_12, .int n0_13, .int n0_14, .int n0_15, .ref a6, .ref a7, .ref a8, .ref a9, .ref a10, .ref a11, .ref a12, .ref a13, .int n0_24, .int n0_25, .int n0_26, .int n0_27, .ref a14, .int n0_29, .int n0_30])), (a7, .inl (ct 0, 15, .inl f7)), (a8, .inl (ct 0, 200, .inl f8)), (a9, .inl (ct 0, 1000, .inl f9)), (a11, .inl (ct 0, 8, .inl f11)), (a12, .inl (ct 0, 8, .inl f12)), (a13, .inl (ct 0, 8, .inl f13))]) := by
  refine Met.ofW (cc := cX11_asked) (maxL := 8) (ret := (some .int)) (by decide) rfl ?_
  intro p e s m args below meth c s₁ B hml hv
  obtain ⟨rfl, hP, hK, hD0⟩ := hv
  have hx := B.exec
  have hb := B.bytes
  have hr := B.returns
  have hts := atoms_spec (ws := wsX11_asked) B.pre
  have hown : s.vm.findClass RX11 = some m.cls := findClass_of_methodNamed B.named
  have hlocks := B.notSynchronized
  have hD := hD0.aself
  generalize hAe : aset [(a0, .inr (11, [.int n0_0, .ref a1, .ref a2, .ref a3, .ref a4, .ref a5, .int n0_6, .int n0_7, .int n0_8, .int n0_9, .int n0_10, .long l0_11, .int n0_12, .int n0_13, .int n0_14, .int n0_15, .ref a6, .ref a7, .ref a8, .ref a9, .ref a10, .ref a11, .ref a12, .ref a13, .int n0_24, .int n0_25, .int n0_26, .int n0_27, .ref a14, .int n0_29, .int n0_30])), (a7, .inl (ct 0, 15, .inl f7)), (a8, .inl (ct 0, 200, .inl f8)), (a9, .inl (ct 0, 1000, .inl f9)), (a11, .inl (ct 0, 8, .inl f11)), (a12, .inl (ct 0, 8, .inl f12)), (a13, .inl (ct 0, 8, .inl f13))] = A at hD ⊢
  have hS : va_S A s.heap s.heap [] := va_S.rf
  have hl := lv_entry ([.ref a0, .int p0, .int p1, .int p2]) (n := 8) (Nat.le_of_ble_eq_true rfl)
  rw [lg_entry_eq]
  generalize (lg_sl ([.ref a0, .int p0, .int p1, .int p2]) ++ List.replicate (8 - (lg_sl ([.ref a0, .int p0, .int p1, .int p2])).length) Slot.unset).toArray = ls at hl ⊢
  have hl : lv_has ls 8 [(0, .ref a0), (1, .int p0), (2, .int p1), (3, .int p2)] := hl
  refine lv_aload_n hx hb dX11_asked_0 rfl (lv_at hl 0 rfl) ?_
  refine lv_iconst (v := 0) hx hb dX11_asked_1 (by decide) ?_
  refine va_put (D := G) (ci := 11) (v := .int 0) (ty := .int) (C := RX11) (T := TX11) (N := 31) hx hb hts (by decide +kernel) tyX11 tyX11_ok nmX11 hown hK.1 hP hD hS 0 rfl rfl 0 (by decide) (hts (.fieldLink RX11 59 "CardHolderModel" "thrown" "I") (by decide +kernel)) (fun _ h9 => h9) rfl (by decide +kernel) rfl rfl (Nat.le_of_ble_eq_true rfl) dX11_asked_2 (fun H locs hP hD hS => ?_)
  refine lv_aload_n hx hb dX11_asked_5 rfl (lv_at hl 0 rfl) ?_
  refine lv_iload_n hx hb dX11_asked_6 rfl (lv_at hl 1 rfl) ?_
  refine lv_iload_n hx hb dX11_asked_7 rfl (lv_at hl 2 rfl) ?_
  refine ro_calli (va_runV (As := [.int p0, .int p1]) (rest := []) ⟨hx, hb, hml, hown, hts⟩ (a_X11_isChain l G ct a0 (0 : Int32) a1 a2 a3 a4 a5 n0_6 n0_7 n0_8 n0_9 n0_10 l0_11 n0_12 n0_13 n0_14 n0_15 a6 a7 a8 a9 a10 a11 a12 a13 n0_24 n0_25 n0_26 n0_27 a14 n0_29 n0_30 f7 p0 p1 hp_n0_6 hp_f7) (cwV 2 hts gX11_asked_X11_isChain rfl rfl rfl (by decide +kernel) ⟨Nat.le_of_ble_eq_true rfl, Nat.le_of_ble_eq_true rfl⟩) (ro_preV 11 0 hK (hP.sub [0, 1] rfl) rfl rfl) rfl rfl hl.1 rfl (lv_room (Nat.le_of_ble_eq_true rfl)) dX11_asked_8 ⟨Nat.zero_le _, Nat.zero_le _⟩) hS hP (fun r8 H locs wr8 hP hS => ?_)
  obtain ⟨p_1, p_2, p_3, -⟩ := wr8
  refine lv_if_ne (tgt := 17) hx hb dX11_asked_11 (by decide) (fun c11 => ?_) (fun c11 => ?_)
  · have h_4 : rg 1 1 r8 := r_ne_lo_i c11 p_1 (by decide) (by decide)
    have h_5 : rg 0 7 p0 := (p_2 (rne h_4 (y := 0) (c := 0) (by decide) (by decide)))
    have h_6 : rg 0 5 p1 := (p_3 (rne h_4 (y := 0) (c := 0) (by decide) (by decide)))
    refine lv_aload_n hx hb dX11_asked_17 rfl (lv_at hl 0 rfl) ?_
    refine wj_callv (wr := []) (w1 := (fun u : SU => [(a0, .inr (11, [.int 0, .ref a1, .ref a2, .ref a3, .ref a4, .ref a5, .int n0_6, .int n0_7, .int n0_8, .int n0_9, .int n0_10, .long l0_11, .int n0_12, .int n0_13, .int n0_14, .int n0_15, .ref a6, .ref a7, .ref a8, .ref a9, .ref a10, .ref a11, .ref a12, .ref a13, .int (u.1 0), .int (u.1 1), .int (u.1 2), .int (u.1 3), .ref a14, .int n0_29, .int n0_30])), (a7, .inl (ct 0, 15, .inl f7)), (a8, .inl (ct 0, 200, .inl f8)), (a9, .inl (ct 0, 1000, .inl f9)), (a11, .inl (ct 0, 8, .inl (u.2.1 0))), (a12, .inl (ct 0, 8, .inl (u.2.1 1))), (a13, .inl (ct 0, 8, .inl (u.2.1 2)))])) (va_runV (As := []) (rest := []) ⟨hx, hb, hml, hown, hts⟩ (a_X11_laysNow l G ct a0 (0 : Int32) a1 a2 a3 a4 a5 n0_6 n0_7 n0_8 n0_9 n0_10 l0_11 n0_12 n0_13 n0_14 n0_15 a6 a7 a8 a9 a10 a11 a12 a13 n0_24 n0_25 n0_26 n0_27 a14 n0_29 n0_30 f7 f8 f9 f11 f12 f13 hp_n0_6 hp_f7 hp_f8 hp_f9 hp_f11 hp_f13) (cwV 0 hts gX11_asked_X11_laysNow rfl rfl rfl (by decide +kernel) ⟨Nat.le_of_ble_eq_true rfl, Nat.le_of_ble_eq_true rfl⟩) (wr_preV 11 0 hK (hP.sub [0, 1, 2, 3, 4, 5, 6] rfl) (hD.sub [0, 1, 2, 3, 4, 5, 6] (by decide) rfl) rfl rfl) rfl rfl hl.1 rfl (lv_room (Nat.le_of_ble_eq_true rfl)) dX11_asked_18 ⟨Nat.zero_le _, Nat.zero_le _⟩) hS hP hD [0, 1, 2, 3, 4, 5, 6] [] rfl rfl (by decide) (fun _ => rfl) (fun ur18 H locs wr18 hP hD hS => ?_)
    have hP : va_P G vwCl [(a0, .inr (11, [.int 0, .ref a1, .ref a2, .ref a3, .ref a4, .ref a5, .int n0_6, .int n0_7, .int n0_8, .int n0_9, .int n0_10, .long l0_11, .int n0_12, .int n0_13, .int n0_14, .int n0_15, .ref a6, .ref a7, .ref a8, .ref a9, .ref a10, .ref a11, .ref a12, .ref a13, .int (ur18.1 0), .int (ur18.1 1), .int (ur18.1 2), .int (ur18.1 3), .ref a14, .int n0_29, .int n0_30])), (a7, .inl (ct 0, 15, .inl f7)), (a8, .inl (ct 0, 200, .inl f8)), (a9, .inl (ct 0, 1000, .inl f9)), (a11, .inl (ct 0, 8, .inl (ur18.2.1 0))), (a12, .inl (ct 0, 8, .inl (ur18.2.1 1))), (a13, .inl (ct 0, 8, .inl (ur18.2.1 2)))] H := hP.sub [0, 1, 2, 3, 4, 5, 6] rfl
    have hD : va_D A [(a0, .inr (11, [.int 0, .ref a1, .ref a2, .ref a3, .ref a4, .ref a5, .int n0_6, .int n0_7, .int n0_8, .int n0_9, .int n0_10, .long l0_11, .int n0_12, .int n0_13, .int n0_14, .int n0_15, .ref a6, .ref a7, .ref a8, .ref a9, .ref a10, .ref a11, .ref a12, .ref a13, .int (ur18.1 0), .int (ur18.1 1), .int (ur18.1 2), .int (ur18.1 3), .ref a14, .int n0_29, .int n0_30])), (a7, .inl (ct 0, 15, .inl f7)), (a8, .inl (ct 0, 200, .inl f8)), (a9, .inl (ct 0, 1000, .inl f9)), (a11, .inl (ct 0, 8, .inl (ur18.2.1 0))), (a12, .inl (ct 0, 8, .inl (ur18.2.1 1))), (a13, .inl (ct 0, 8, .inl (ur18.2.1 2)))] := hD.sub [0, 1, 2, 3, 4, 5, 6] (by decide) rfl
    obtain ⟨p_7, p_8, -⟩ := wr18
    refine lv_aload_n hx hb dX11_asked_21 rfl (lv_at hl 0 rfl) ?_
    refine lv_iload_n hx hb dX11_asked_22 rfl (lv_at hl 1 rfl) ?_
    refine lv_iload_n hx hb dX11_asked_23 rfl (lv_at hl 2 rfl) ?_
    refine ro_calli (va_runV (As := [.int p0, .int p1]) (rest := []) ⟨hx, hb, hml, hown, hts⟩ (a_X11_doerOf l G ct a0 (0 : Int32) a1 a2 a3 a4 a5 n0_6 n0_7 n0_8 n0_9 n0_10 l0_11 n0_12 n0_13 n0_14 n0_15 a6 a7 a8 a9 a10 a11 a12 a13 (ur18.1 0) (ur18.1 1) (ur18.1 2) (ur18.1 3) a14 n0_29 n0_30 f7 f8 (ur18.2.1 0) p0 p1 hp_n0_6 hp_f7 hp_f8 p_7 h_5 h_6) (cwV 2 hts gX11_asked_X11_doerOf rfl rfl rfl (by decide +kernel) ⟨Nat.le_of_ble_eq_true rfl, Nat.le_of_ble_eq_true rfl⟩) (ro_preV 11 0 hK (hP.sub [0, 1, 2, 4] rfl) rfl rfl) rfl rfl hl.1 rfl (lv_room (Nat.le_of_ble_eq_true rfl)) dX11_asked_24 ⟨Nat.zero_le _, Nat.zero_le _⟩) hS hP (fun r24 H locs wr24 hP hS => ?_)
    obtain ⟨p_9, p_10, -⟩ := wr24
    refine lv_istore (lv' := [(4, .int r24), (0, .ref a0), (1, .int p0), (2, .int p1), (3, .int p2)]) hx hb dX11_asked_27 hl (by decide) rfl (fun ls hl => ?_)
    refine lv_iload hx hb dX11_asked_29 (lv_at hl 0 rfl) ?_
    refine lv_iconst (v := (-1)) hx hb dX11_asked_31 (by decide) ?_
    refine lv_icmp_eq (tgt := 39) hx hb dX11_asked_32 (by decide) (fun c32 => ?_) (fun c32 => ?_)
    · have h_11 : rg (-1) (-1) r24 := r_eq_l_i (e := (-1)) (f := (-1)) c32 p_9 (rgn (-1) (x := (-1)) (by decide)) (by decide)
      refine lv_iconst (v := (-1)) hx hb dX11_asked_39 (by decide) ?_
      exact W.iret (v := (-1)) hx hb hr (fun t ht hW => ⟨⟨(-1), (fun k => ([0, ur18.1 0, ur18.1 1, ur18.1 2, ur18.1 3] : List Int32).getD k 0, fun k => ([ur18.2.1 0, ur18.2.1 1, ur18.2.1 2] : List (Nat → Int32)).getD k (fun _ => 0), fun k => ([] : List (Nat → Int64)).getD k (fun _ => 0)), rfl, ⟨(rg_w (c := (-2)) (d := 7) (rgn (-1) (x := (-1)) (by decide)) (by decide)), (fun _ => h_5), (fun _ => h_5), (fun _ => h_5), (fun _ => h_6), (fun _ => h_6), (fun _ => h_6), (fun hq => absurd hq (rne (rgn (-1) (x := (-1)) (by decide)) (y := 0) (c := 0) (by decide) (by decide))), p_7, p_8, (rgn 0 (x := 0) (by decide)), trivial⟩, hp_at ht hP⟩, hS.F ht⟩) hS.2.2 dX11_asked_40
    · have h_12 : rg 0 7 r24 := r_ne_lo_i c32 p_9 (by decide) (by decide)
      refine lv_iload_n hx hb dX11_asked_35 rfl (lv_at hl 4 rfl) ?_
      refine lv_if_ge (tgt := 41) hx hb dX11_asked_36 (by decide) (fun c36 => ?_) (fun c36 => ?_)
      · have h_13 : rg 0 2147483647 p2 := r_le_r_i c36 (rgn 0 (x := 0) (by decide)) (rg_t p2)
        refine lv_iconst (v := 1) hx hb dX11_asked_41 (by decide) ?_
        refine lv_istore (lv' := [(5, .int 1), (4, .int r24), (0, .ref a0), (1, .int p0), (2, .int p1), (3, .int p2)]) hx hb dX11_asked_42 hl (by decide) rfl (fun ls hl => ?_)
        refine lv_aload_n hx hb dX11_asked_44 rfl (lv_at hl 2 rfl) ?_
        refine va_get (D := G) (ci := 11) (v := .ref a11) (C := RX11) (T := TX11) (N := 31) hx hb hts (by decide +kernel) hown hK.1 hP 0 rfl rfl 21 (by decide) (hts (.fieldLink RX11 47 "CardHolderModel" "holder" "[I") (by decide +kernel)) (fun _ h9 => h9) rfl dX11_asked_45 ?_
        refine lv_iload hx hb dX11_asked_48 (lv_at hl 1 rfl) ?_
        refine va_iald hx hb hK.1 hP 4 0 rfl rfl (in_rg h_12 (by decide)) dX11_asked_50 ?_
        refine lv_topi (fun z50 gz50 => ?_)
        have hz50 : rg (-1) 7 z50 := by rw [gz50]; exact p_7 _
        refine lv_istore (lv' := [(6, .int z50), (5, .int 1), (4, .int r24), (0, .ref a0), (1, .int p0), (2, .int p1), (3, .int p2)]) hx hb dX11_asked_51 hl (by decide) rfl (fun ls hl => ?_)
        have j53 : ∀ (n : Nat) (x53_5 : Int32) (x53_6 : Int32) (H : Heap) (locs : List Loc) (ls : Array Slot), ck (ur18.2.1 0) p0 r24 x53_5 x53_6 n → rg 1 9 x53_5 → rg (-1) 7 x53_6 → va_P G vwCl [(a0, .inr (11, [.int 0, .ref a1, .ref a2, .ref a3, .ref a4, .ref a5, .int n0_6, .int n0_7, .int n0_8, .int n0_9, .int n0_10, .long l0_11, .int n0_12, .int n0_13, .int n0_14, .int n0_15, .ref a6, .ref a7, .ref a8, .ref a9, .ref a10, .ref a11, .ref a12, .ref a13, .int (ur18.1 0), .int (ur18.1 1), .int (ur18.1 2), .int (ur18.1 3), .ref a14, .int n0_29, .int n0_30])), (a7, .inl (ct 0, 15, .inl f7)), (a8, .inl (ct 0, 200, .inl f8)), (a9, .inl (ct 0, 1000, .inl f9)), (a11, .inl (ct 0, 8, .inl (ur18.2.1 0))), (a12, .inl (ct 0, 8, .inl (ur18.2.1 1))), (a13, .inl (ct 0, 8, .inl (ur18.2.1 2)))] H → va_D A [(a0, .inr (11, [.int 0, .ref a1, .ref a2, .ref a3, .ref a4, .ref a5, .int n0_6, .int n0_7, .int n0_8, .int n0_9, .int n0_10, .long l0_11, .int n0_12, .int n0_13, .int n0_14, .int n0_15, .ref a6, .ref a7, .ref a8, .ref a9, .ref a10, .ref a11, .ref a12, .ref a13, .int (ur18.1 0), .int (ur18.1 1), .int (ur18.1 2), .int (ur18.1 3), .ref a14, .int n0_29, .int n0_30])), (a7, .inl (ct 0, 15, .inl f7)), (a8, .inl (ct 0, 200, .inl f8)), (a9, .inl (ct 0, 1000, .inl f9)), (a11, .inl (ct 0, 8, .inl (ur18.2.1 0))), (a12, .inl (ct 0, 8, .inl (ur18.2.1 1))), (a13, .inl (ct 0, 8, .inl (ur18.2.1 2)))] → va_S A s.heap H locs → lv_has ls 8 [(0, .ref a0), (1, .int p0), (2, .int p1), (3, .int p2), (4, .int r24), (5, .int x53_5), (6, .int x53_6)] → W p l e (headSpec wsX11_asked ({ frames := 5, cells := 0, slots := 0, locals := 111 })).room s m ([.ref a0, .int p0, .int p1, .int p2] : List Value).toArray below meth c H locs 0 0 (MQ below (va_Qi (fun (r : Int32) (u : SU) => rg (-2) 7 r ∧ (r = 0 → rg 0 7 p0) ∧ (r = (-1) → rg 0 7 p0) ∧ (¬ r = (-2) → rg 0 7 p0) ∧ (r = 0 → rg 0 5 p1) ∧ (r = (-1) → rg 0 5 p1) ∧ (¬ r = (-2) → rg 0 5 p1) ∧ (r = 0 → rg 0 7 p2) ∧ ar (-1) 7 (u.2.1 0) ∧ ar (-1) 7 (u.2.1 2) ∧ rg 0 0 (u.1 0) ∧ True) (fun u t => va_P G vwCl ((fun u : SU => [(a0, .inr (11, [.int (u.1 0), .ref a1, .ref a2, .ref a3, .ref a4, .ref a5, .int n0_6, .int n0_7, .int n0_8, .int n0_9, .int n0_10, .long l0_11, .int n0_12, .int n0_13, .int n0_14, .int n0_15, .ref a6, .ref a7, .ref a8, .ref a9, .ref a10, .ref a11, .ref a12, .ref a13, .int (u.1 1), .int (u.1 2), .int (u.1 3), .int (u.1 4), .ref a14, .int n0_29, .int n0_30])), (a7, .inl (ct 0, 15, .inl f7)), (a8, .inl (ct 0, 200, .inl f8)), (a9, .inl (ct 0, 1000, .inl f9)), (a11, .inl (ct 0, 8, .inl (u.2.1 0))), (a12, .inl (ct 0, 8, .inl (u.2.1 1))), (a13, .inl (ct 0, 8, .inl (u.2.1 2)))]) u) t.heap) A) ([.ref a0, .int p0, .int p1, .int p2] : List Value).toArray s 0 0 A) (F0 m 53 ls []) := by
          intro n
          induction n with
          | zero => intro x53_5 x53_6 H locs ls hn53 hx53_5 hx53_6 hP hD hS hl; exact absurd hn53 ck_z
          | succ n ih53 =>
            intro x53_5 x53_6 H locs ls hn53 hx53_5 hx53_6 hP hD hS hl
            have h_14 : rg 1 8 x53_5 := ck_iv hn53
            refine lv_iload hx hb dX11_asked_53 (lv_at hl 6 rfl) ?_
            refine lv_iload_n hx hb dX11_asked_55 rfl (lv_at hl 1 rfl) ?_
            refine lv_icmp_eq (tgt := 74) hx hb dX11_asked_56 (by decide) (fun c56 => ?_) (fun c56 => ?_)
            · have h_15 : rg 0 7 x53_6 := r_eq_l_i (e := 0) (f := 7) c56 hx53_6 h_5 (by decide)
              refine lv_iload_n hx hb dX11_asked_74 rfl (lv_at hl 3 rfl) ?_
              refine lv_iload hx hb dX11_asked_75 (lv_at hl 5 rfl) ?_
              refine lv_icmp_lt (tgt := 82) hx hb dX11_asked_77 (by decide) (fun c77 => ?_) (fun c77 => ?_)
              · have h_16 : rg 0 7 p2 := r_lt_l_i c77 h_13 h_14 (by decide)
                refine lv_iload hx hb dX11_asked_82 (lv_at hl 4 rfl) ?_
                refine lv_istore (lv' := [(6, .int r24), (0, .ref a0), (1, .int p0), (2, .int p1), (3, .int p2), (4, .int r24), (5, .int x53_5)]) hx hb dX11_asked_84 hl (by decide) rfl (fun ls hl => ?_)
                refine lv_iload hx hb dX11_asked_86 (lv_at hl 6 rfl) ?_
                refine lv_iconst (v := 1) hx hb dX11_asked_88 (by decide) ?_
                refine lv_isub hx hb dX11_asked_89 ?_
                refine nm_sub (e1 := 0) (f := 7) h_14 (rgn 1 (x := 1) (by decide)) (by decide) (fun z89 hz89 ez89 => ?_)
                replace ez89 := eqc_s ez89 (c := (-1)) (by decide)
                refine lv_istore (lv' := [(7, .int z89), (6, .int r24), (0, .ref a0), (1, .int p0), (2, .int p1), (3, .int p2), (4, .int r24), (5, .int x53_5)]) hx hb dX11_asked_90 hl (by decide) rfl (fun ls hl => ?_)
                have j92 : ∀ (n : Nat) (x92_6 : Int32) (x92_7 : Int32) (H : Heap) (locs : List Loc) (ls : Array Slot), - 2147483649 ≥ x92_7.toInt - (n : Int) → rg (-1) 7 x92_6 → rg 0 7 x92_7 → rch (ur18.2.1 0) p0 (x92_7).toInt.toNat x92_6 → va_P G vwCl [(a0, .inr (11, [.int 0, .ref a1, .ref a2, .ref a3, .ref a4, .ref a5, .int n0_6, .int n0_7, .int n0_8, .int n0_9, .int n0_10, .long l0_11, .int n0_12, .int n0_13, .int n0_14, .int n0_15, .ref a6, .ref a7, .ref a8, .ref a9, .ref a10, .ref a11, .ref a12, .ref a13, .int (ur18.1 0), .int (ur18.1 1), .int (ur18.1 2), .int (ur18.1 3), .ref a14, .int n0_29, .int n0_30])), (a7, .inl (ct 0, 15, .inl f7)), (a8, .inl (ct 0, 200, .inl f8)), (a9, .inl (ct 0, 1000, .inl f9)), (a11, .inl (ct 0, 8, .inl (ur18.2.1 0))), (a12, .inl (ct 0, 8, .inl (ur18.2.1 1))), (a13, .inl (ct 0, 8, .inl (ur18.2.1 2)))] H → va_D A [(a0, .inr (11, [.int 0, .ref a1, .ref a2, .ref a3, .ref a4, .ref a5, .int n0_6, .int n0_7, .int n0_8, .int n0_9, .int n0_10, .long l0_11, .int n0_12, .int n0_13, .int n0_14, .int n0_15, .ref a6, .ref a7, .ref a8, .ref a9, .ref a10, .ref a11, .ref a12, .ref a13, .int (ur18.1 0), .int (ur18.1 1), .int (ur18.1 2), .int (ur18.1 3), .ref a14, .int n0_29, .int n0_30])), (a7, .inl (ct 0, 15, .inl f7)), (a8, .inl (ct 0, 200, .inl f8)), (a9, .inl (ct 0, 1000, .inl f9)), (a11, .inl (ct 0, 8, .inl (ur18.2.1 0))), (a12, .inl (ct 0, 8, .inl (ur18.2.1 1))), (a13, .inl (ct 0, 8, .inl (ur18.2.1 2)))] → va_S A s.heap H locs → lv_has ls 8 [(0, .ref a0), (1, .int p0), (2, .int p1), (3, .int p2), (4, .int r24), (5, .int x53_5), (6, .int x92_6), (7, .int x92_7)] → W p l e (headSpec wsX11_asked ({ frames := 5, cells := 0, slots := 0, locals := 111 })).room s m ([.ref a0, .int p0, .int p1, .int p2] : List Value).toArray below meth c H locs 0 0 (MQ below (va_Qi (fun (r : Int32) (u : SU) => rg (-2) 7 r ∧ (r = 0 → rg 0 7 p0) ∧ (r = (-1) → rg 0 7 p0) ∧ (¬ r = (-2) → rg 0 7 p0) ∧ (r = 0 → rg 0 5 p1) ∧ (r = (-1) → rg 0 5 p1) ∧ (¬ r = (-2) → rg 0 5 p1) ∧ (r = 0 → rg 0 7 p2) ∧ ar (-1) 7 (u.2.1 0) ∧ ar (-1) 7 (u.2.1 2) ∧ rg 0 0 (u.1 0) ∧ True) (fun u t => va_P G vwCl ((fun u : SU => [(a0, .inr (11, [.int (u.1 0), .ref a1, .ref a2, .ref a3, .ref a4, .ref a5, .int n0_6, .int n0_7, .int n0_8, .int n0_9, .int n0_10, .long l0_11, .int n0_12, .int n0_13, .int n0_14, .int n0_15, .ref a6, .ref a7, .ref a8, .ref a9, .ref a10, .ref a11, .ref a12, .ref a13, .int (u.1 1), .int (u.1 2), .int (u.1 3), .int (u.1 4), .ref a14, .int n0_29, .int n0_30])), (a7, .inl (ct 0, 15, .inl f7)), (a8, .inl (ct 0, 200, .inl f8)), (a9, .inl (ct 0, 1000, .inl f9)), (a11, .inl (ct 0, 8, .inl (u.2.1 0))), (a12, .inl (ct 0, 8, .inl (u.2.1 1))), (a13, .inl (ct 0, 8, .inl (u.2.1 2)))]) u) t.heap) A) ([.ref a0, .int p0, .int p1, .int p2] : List Value).toArray s 0 0 A) (F0 m 92 ls []) := by
                  intro n
                  induction n with
                  | zero => intro x92_6 x92_7 H locs ls hn92 hx92_6 hx92_7 hr92 hP hD hS hl; exact absurd hn92 (by have := Int32.toInt_lt x92_7; have := Int32.le_toInt x92_7; omega)
                  | succ n ih92 =>
                    intro x92_6 x92_7 H locs ls hn92 hx92_6 hx92_7 hr92 hP hD hS hl
                    have h_17 : rg 0 7 x92_6 := rch_rg hr92
                    refine lv_iload hx hb dX11_asked_92 (lv_at hl 7 rfl) ?_
                    refine lv_iload_n hx hb dX11_asked_94 rfl (lv_at hl 3 rfl) ?_
                    refine lv_icmp_le (tgt := 113) hx hb dX11_asked_95 (by decide) (fun c95 => ?_) (fun c95 => ?_)
                    · refine lv_iload hx hb dX11_asked_113 (lv_at hl 6 rfl) ?_
                      exact W.iret (v := x92_6) hx hb hr (fun t ht hW => ⟨⟨x92_6, (fun k => ([0, ur18.1 0, ur18.1 1, ur18.1 2, ur18.1 3] : List Int32).getD k 0, fun k => ([ur18.2.1 0, ur18.2.1 1, ur18.2.1 2] : List (Nat → Int32)).getD k (fun _ => 0), fun k => ([] : List (Nat → Int64)).getD k (fun _ => 0)), rfl, ⟨(rg_w (c := (-2)) (d := 7) h_17 (by decide)), (fun _ => h_5), (fun _ => h_5), (fun _ => h_5), (fun _ => h_6), (fun _ => h_6), (fun _ => h_6), (fun _ => h_16), p_7, p_8, (rgn 0 (x := 0) (by decide)), trivial⟩, hp_at ht hP⟩, hS.F ht⟩) hS.2.2 dX11_asked_115
                    · have h_18 : rg 0 6 p2 := r_lt_l_i (nle_i c95) h_16 hx92_7 (by decide)
                      have h_19 : rg 1 7 x92_7 := r_lt_r_i (nle_i c95) h_16 hx92_7 (by decide)
                      refine lv_aload_n hx hb dX11_asked_98 rfl (lv_at hl 0 rfl) ?_
                      refine va_get (D := G) (ci := 11) (v := .ref a11) (C := RX11) (T := TX11) (N := 31) hx hb hts (by decide +kernel) hown hK.1 hP 0 rfl rfl 21 (by decide) (hts (.fieldLink RX11 47 "CardHolderModel" "holder" "[I") (by decide +kernel)) (fun _ h9 => h9) rfl dX11_asked_99 ?_
                      refine lv_iload hx hb dX11_asked_102 (lv_at hl 6 rfl) ?_
                      refine va_iald hx hb hK.1 hP 4 0 rfl rfl (in_rg h_17 (by decide)) dX11_asked_104 ?_
                      refine lv_topi (fun z104 gz104 => ?_)
                      have hz104 : rg (-1) 7 z104 := by rw [gz104]; exact p_7 _
                      refine lv_istore (lv' := [(6, .int z104), (0, .ref a0), (1, .int p0), (2, .int p1), (3, .int p2), (4, .int r24), (5, .int x53_5), (7, .int x92_7)]) hx hb dX11_asked_105 hl (by decide) rfl (fun ls hl => ?_)
                      obtain ⟨z107, qz107⟩ : ∃ y : Int32, y = x92_7 + Int32.ofInt (-1) := ⟨_, rfl⟩
                      obtain ⟨hz107, ez107⟩ := inc_z (e := 0) (f := 6) h_19 qz107 (by decide)
                      refine lv_iinc (v := z107) (lv' := [(7, .int z107), (6, .int z104), (0, .ref a0), (1, .int p0), (2, .int p1), (3, .int p2), (4, .int r24), (5, .int x53_5)]) hx hb dX11_asked_107 hl (k := 7) rfl (qz107.symm) (by decide) rfl (fun ls hl => ?_)
                      refine lv_goto (tgt := 92) hx hb dX11_asked_110 (by decide) ?_
                      exact ih92 z104 z107 _ _ ls (by have q := hn92; have := ez107; omega) hz104 (rg_w (c := 0) (d := 7) hz107 (by decide)) (rch_d hr92 (rg_w (c := 1) (d := 2147483647) h_19 (by decide)) gz104 ez107) hP hD hS (lv_sub hl [2, 3, 4, 5, 6, 7, 1, 0] rfl)
                exact j92 4294967296 r24 z89 _ _ ls (md_e z89) (rg_w (c := (-1)) (d := 7) h_12 (by decide)) hz89 (ck_x hn53 c56 ez89) hP hD hS (lv_sub hl [2, 3, 4, 5, 6, 7, 1, 0] rfl)
              · have h_20 : rg 1 2147483647 p2 := r_le_r_i (nlt_i c77) h_14 h_13
                refine lv_iconst (v := (-1)) hx hb dX11_asked_80 (by decide) ?_
                exact W.iret (v := (-1)) hx hb hr (fun t ht hW => ⟨⟨(-1), (fun k => ([0, ur18.1 0, ur18.1 1, ur18.1 2, ur18.1 3] : List Int32).getD k 0, fun k => ([ur18.2.1 0, ur18.2.1 1, ur18.2.1 2] : List (Nat → Int32)).getD k (fun _ => 0), fun k => ([] : List (Nat → Int64)).getD k (fun _ => 0)), rfl, ⟨(rg_w (c := (-2)) (d := 7) (rgn (-1) (x := (-1)) (by decide)) (by decide)), (fun _ => h_5), (fun _ => h_5), (fun _ => h_5), (fun _ => h_6), (fun _ => h_6), (fun _ => h_6), (fun hq => absurd hq (rne (rgn (-1) (x := (-1)) (by decide)) (y := 0) (c := 0) (by decide) (by decide))), p_7, p_8, (rgn 0 (x := 0) (by decide)), trivial⟩, hp_at ht hP⟩, hS.F ht⟩) hS.2.2 dX11_asked_81
            · have h_21 : rg 0 7 x53_6 := ck_r hn53 c56
              obtain ⟨z59, qz59⟩ : ∃ y : Int32, y = x53_5 + Int32.ofInt 1 := ⟨_, rfl⟩
              obtain ⟨hz59, ez59⟩ := inc_z (e := 2) (f := 9) h_14 qz59 (by decide)
              refine lv_iinc (v := z59) (lv' := [(5, .int z59), (0, .ref a0), (1, .int p0), (2, .int p1), (3, .int p2), (4, .int r24), (6, .int x53_6)]) hx hb dX11_asked_59 hl (k := 5) rfl (qz59.symm) (by decide) rfl (fun ls hl => ?_)
              refine lv_aload_n hx hb dX11_asked_62 rfl (lv_at hl 1 rfl) ?_
              refine va_get (D := G) (ci := 11) (v := .ref a11) (C := RX11) (T := TX11) (N := 31) hx hb hts (by decide +kernel) hown hK.1 hP 0 rfl rfl 21 (by decide) (hts (.fieldLink RX11 47 "CardHolderModel" "holder" "[I") (by decide +kernel)) (fun _ h9 => h9) rfl dX11_asked_63 ?_
              refine lv_iload hx hb dX11_asked_66 (lv_at hl 6 rfl) ?_
              refine va_iald hx hb hK.1 hP 4 0 rfl rfl (in_rg h_21 (by decide)) dX11_asked_68 ?_
              refine lv_topi (fun z68 gz68 => ?_)
              have hz68 : rg (-1) 7 z68 := by rw [gz68]; exact p_7 _
              refine lv_istore (lv' := [(6, .int z68), (5, .int z59), (0, .ref a0), (1, .int p0), (2, .int p1), (3, .int p2), (4, .int r24)]) hx hb dX11_asked_69 hl (by decide) rfl (fun ls hl => ?_)
              refine lv_goto (tgt := 53) hx hb dX11_asked_71 (by decide) ?_
              exact ih53 z59 z68 _ _ ls (ck_s hn53 c56 gz68 ez59) (rg_w (c := 1) (d := 9) hz59 (by decide)) hz68 hP hD hS (lv_sub hl [2, 3, 4, 5, 6, 1, 0] rfl)
        exact j53 9 (1 : Int32) z50 _ _ ls (ck_e (p_10 (rne h_12 (y := (-1)) (c := (-1)) (by decide) (by decide))) gz50) (rg_w (c := 1) (d := 9) (rgn 1 (x := 1) (by decide)) (by decide)) hz50 hP hD hS (lv_sub hl [3, 4, 5, 6, 2, 1, 0] rfl)
      · have h_22 : rg (-2147483648) (-1) p2 := r_lt_l_i (nle_i c36) (rg_t p2) (rgn 0 (x := 0) (by decide)) (by decide)
        refine lv_iconst (v := (-1)) hx hb dX11_asked_39 (by decide) ?_
        exact W.iret (v := (-1)) hx hb hr (fun t ht hW => ⟨⟨(-1), (fun k => ([0, ur18.1 0, ur18.1 1, ur18.1 2, ur18.1 3] : List Int32).getD k 0, fun k => ([ur18.2.1 0, ur18.2.1 1, ur18.2.1 2] : List (Nat → Int32)).getD k (fun _ => 0), fun k => ([] : List (Nat → Int64)).getD k (fun _ => 0)), rfl, ⟨(rg_w (c := (-2)) (d := 7) (rgn (-1) (x := (-1)) (by decide)) (by decide)), (fun _ => h_5), (fun _ => h_5), (fun _ => h_5), (fun _ => h_6), (fun _ => h_6), (fun _ => h_6), (fun hq => absurd hq (rne (rgn (-1) (x := (-1)) (by decide)) (y := 0) (c := 0) (by decide) (by decide))), p_7, p_8, (rgn 0 (x := 0) (by decide)), trivial⟩, hp_at ht hP⟩, hS.F ht⟩) hS.2.2 dX11_asked_40
  · have h_23 : rg 0 0 r8 := r_eq_l_i (e := 0) (f := 0) c11 p_1 (rgn 0 (x := 0) (by decide)) (by decide)
    refine lv_bipush (v := (-2)) hx hb dX11_asked_14 (by decide) ?_
    exact W.iret (v := (-2)) hx hb hr (fun t ht hW => ⟨⟨(-2), (fun k => ([0, n0_24, n0_25, n0_26, n0_27] : List Int32).getD k 0, fun k => ([f11, f12, f13] : List (Nat → Int32)).getD k (fun _ => 0), fun k => ([] : List (Nat → Int64)).getD k (fun _ => 0)), rfl, ⟨(rg_w (c := (-2)) (d := 7) (rgn (-2) (x := (-2)) (by decide)) (by decide)), (fun hq => absurd hq (rne (rgn (-2) (x := (-2)) (by decide)) (y := 0) (c := 0) (by decide) (by decide))), (fun hq => absurd hq (rne (rgn (-2) (x := (-2)) (by decide)) (y := (-1)) (c := (-1)) (by decide) (by decide))), (fun hq => absurd (req (rgn (-2) (x := (-2)) (by decide)) (y := (-2)) (by decide)) hq), (fun hq => absurd hq (rne (rgn (-2) (x := (-2)) (by decide)) (y := 0) (c := 0) (by decide) (by decide))), (fun hq => absurd hq (rne (rgn (-2) (x := (-2)) (by decide)) (y := (-1)) (c := (-1)) (by decide) (by decide))), (fun hq => absurd (req (rgn (-2) (x := (-2)) (by decide)) (y := (-2)) (by decide)) hq), (fun hq => absurd hq (rne (rgn (-2) (x := (-2)) (by decide)) (y := 0) (c := 0) (by decide) (by decide))), hp_f11, hp_f13, (rgn 0 (x := 0) (by decide)), trivial⟩, hp_at ht hP⟩, hS.F ht⟩) hS.2.2 dX11_asked_16

set_option maxHeartbeats 4000000 in
set_option maxRecDepth 100000 in
theorem a_X11_whyOf (l : Launch) (G : va_G) (ct : Nat → ClassId) (a0 : Nat) (n0_0 : Int32) (a1 : Nat) (a2 : Nat) (a3 : Nat) (a4 : Nat) (a5 : Nat) (n0_6 : Int32) (n0_7 : Int32) (n0_8 : Int32) (n0_9 : Int32) (n0_10 : Int32) (l0_11 : Int64) (n0_12 : Int32) (n0_13 : Int32) (n0_14 : Int32) (n0_15 : Int32) (a6 : Nat) (a7 : Nat) (a8 : Nat) (a9 : Nat) (a10 : Nat) (a11 : Nat) (a12 : Nat) (a13 : Nat) (n0_24 : Int32) (n0_25 : Int32) (n0_26 : Int32) (n0_27 : Int32) (a14 : Nat) (n0_29 : Int32) (n0_30 : Int32) (f8 : Nat → Int32) (f11 : Nat → Int32) (p0 : Int32) (p1 : Int32) (p2 : Int32) (hp_n0_6 : rg 0 900 n0_6) (hp_f8 : psI f8) (hp_f11 : ar (-1) 7 f11) (hp_p0 : rg 0 7 p0) (hp_p1 : rg 0 7 p1) : Met l yX11_whyOf wsX11_whyOf ({ frames := 1, cells := 0, slots := 0, locals := 22 }) (va_Pc [.ref a0, .int p0, .int p1, .int p2] (roP G ct [(a0, .inr (11, [.int n0_0, .ref a1, .ref a2, .ref a3, .ref a4, .ref a5, .int n0_6, .int n0_7, .int n0_8, .int n0_9, .int n0_10, .long l0_11, .int n0_12, .int n0_13, .int n0_14, .int n0_15, .ref a6, .ref a7, .ref a8, .ref a9, .ref a10, .ref a11, .ref a12, .ref a13, .int n0_24, .int n0_25, .int n0_26, .int n0_27, .ref a14, .int n0_29, .int n0_30])), (a8, .inl (ct 0, 200, .inl f8)), (a11, .inl (ct 0, 8, .inl f11))])) (roQ (fun r => rg 0 3 r ∧ True)) 0 0 no := by
  refine Met.ofW (cc := cX11_whyOf) (maxL := 4) (ret := (some .int)) (by decide) rfl ?_
  intro p e s m args below meth c s₁ B hml hv
  obtain ⟨rfl, hP, hK⟩ := hv
  have hx := B.exec
  have hb := B.bytes
  have hr := B.returns
  have hts := atoms_spec (ws := wsX11_whyOf) B.pre
  have hown : s.vm.findClass RX11 = some m.cls := findClass_of_methodNamed B.named
  have hlocks := B.notSynchronized
  have hS : va_S no s.heap s.heap [] := va_S.rf
  have hl := lv_entry ([.ref a0, .int p0, .int p1, .int p2]) (n := 4) (Nat.le_of_ble_eq_true rfl)
  rw [lg_entry_eq]
  generalize (lg_sl ([.ref a0, .int p0, .int p1, .int p2]) ++ List.replicate (4 - (lg_sl ([.ref a0, .int p0, .int p1, .int p2])).length) Slot.unset).toArray = ls at hl ⊢
  have hl : lv_has ls 4 [(0, .ref a0), (1, .int p0), (2, .int p1), (3, .int p2)] := hl
  refine lv_aload_n hx hb dX11_whyOf_0 rfl (lv_at hl 0 rfl) ?_
  refine va_get (D := G) (ci := 11) (v := .ref a11) (C := RX11) (T := TX11) (N := 31) hx hb hts (by decide +kernel) hown hK.1 hP 0 rfl rfl 21 (by decide) (hts (.fieldLink RX11 47 "CardHolderModel" "holder" "[I") (by decide +kernel)) (fun _ h9 => h9) rfl dX11_whyOf_1 ?_
  refine lv_iload_n hx hb dX11_whyOf_4 rfl (lv_at hl 2 rfl) ?_
  refine va_iald hx hb hK.1 hP 2 0 rfl rfl (in_rg hp_p1 (by decide)) dX11_whyOf_5 ?_
  refine lv_topi (fun z5 gz5 => ?_)
  have hz5 : rg (-1) 7 z5 := by rw [gz5]; exact hp_f11 _
  refine lv_iload_n hx hb dX11_whyOf_6 rfl (lv_at hl 1 rfl) ?_
  refine lv_icmp_eq (tgt := 12) hx hb dX11_whyOf_7 (by decide) (fun c7 => ?_) (fun c7 => ?_)
  · have h_1 : rg 0 7 z5 := r_eq_l_i (e := 0) (f := 7) c7 hz5 hp_p0 (by decide)
    refine lv_aload_n hx hb dX11_whyOf_12 rfl (lv_at hl 0 rfl) ?_
    refine va_get (D := G) (ci := 11) (v := .int n0_24) (C := RX11) (T := TX11) (N := 31) hx hb hts (by decide +kernel) hown hK.1 hP 0 rfl rfl 24 (by decide) (hts (.fieldLink RX11 217 "CardHolderModel" "asked" "I") (by decide +kernel)) (fun _ h9 => h9) rfl dX11_whyOf_13 ?_
    refine lv_iload_n hx hb dX11_whyOf_16 rfl (lv_at hl 2 rfl) ?_
    refine ro_calli (va_runS (As := [.int n0_24, .int p1]) (rest := []) ⟨hx, hb, hml, hown, hts⟩ (a_X11_isBit l G ct n0_24 p1) (va_cwS 2 hts gX11_whyOf_X11_isBit rfl rfl rfl (by decide +kernel) ⟨Nat.le_of_ble_eq_true rfl, Nat.le_of_ble_eq_true rfl⟩) (ro_pre hK (hP.sub [] rfl)) rfl rfl hl.1 rfl (lv_room (Nat.le_of_ble_eq_true rfl)) dX11_whyOf_17 ⟨Nat.zero_le _, Nat.zero_le _⟩) hS hP (fun r17 H locs wr17 hP hS => ?_)
    obtain ⟨p_2, -⟩ := wr17
    refine lv_if_eq (tgt := 25) hx hb dX11_whyOf_20 (by decide) (fun c20 => ?_) (fun c20 => ?_)
    · have h_3 : rg 0 0 r17 := r_eq_l_i (e := 0) (f := 0) c20 p_2 (rgn 0 (x := 0) (by decide)) (by decide)
      refine lv_iload_n hx hb dX11_whyOf_25 rfl (lv_at hl 3 rfl) ?_
      refine lv_iconst (v := (-1)) hx hb dX11_whyOf_26 (by decide) ?_
      refine lv_icmp_eq (tgt := 47) hx hb dX11_whyOf_27 (by decide) (fun c27 => ?_) (fun c27 => ?_)
      · have h_4 : rg (-1) (-1) p2 := r_eq_l_i (e := (-1)) (f := (-1)) c27 (rg_t p2) (rgn (-1) (x := (-1)) (by decide)) (by decide)
        refine lv_iconst (v := 0) hx hb dX11_whyOf_47 (by decide) ?_
        exact W.iret (v := 0) hx hb hr (fun t ht hW => ⟨⟨0, (), rfl, ⟨(rg_w (c := 0) (d := 3) (rgn 0 (x := 0) (by decide)) (by decide)), trivial⟩, trivial⟩, hS.F ht⟩) hS.2.2 dX11_whyOf_48
      · refine lv_aload_n hx hb dX11_whyOf_30 rfl (lv_at hl 0 rfl) ?_
        refine lv_iload_n hx hb dX11_whyOf_31 rfl (lv_at hl 2 rfl) ?_
        refine lv_iconst (v := 1) hx hb dX11_whyOf_32 (by decide) ?_
        refine ro_calli (va_runV (As := [.int p1, .int 1]) (rest := []) ⟨hx, hb, hml, hown, hts⟩ (a_X11_of1 l G ct a0 n0_0 a1 a2 a3 a4 a5 n0_6 n0_7 n0_8 n0_9 n0_10 l0_11 n0_12 n0_13 n0_14 n0_15 a6 a7 a8 a9 a10 a11 a12 a13 n0_24 n0_25 n0_26 n0_27 a14 n0_29 n0_30 f8 p1 hp_n0_6 hp_f8 hp_p1) (cwV 2 hts gX11_whyOf_X11_of rfl rfl rfl (by decide +kernel) ⟨Nat.le_of_ble_eq_true rfl, Nat.le_of_ble_eq_true rfl⟩) (ro_preV 11 0 hK (hP.sub [0, 1] rfl) rfl rfl) rfl rfl hl.1 rfl (lv_room (Nat.le_of_ble_eq_true rfl)) dX11_whyOf_33 ⟨Nat.zero_le _, Nat.zero_le _⟩) hS hP (fun r33 H locs wr33 hP hS => ?_)
        refine lv_iload_n hx hb dX11_whyOf_36 rfl (lv_at hl 3 rfl) ?_
        refine ro_calli (va_runS (As := [.int r33, .int p2]) (rest := []) ⟨hx, hb, hml, hown, hts⟩ (a_X11_isBit l G ct r33 p2) (va_cwS 2 hts gX11_whyOf_X11_isBit rfl rfl rfl (by decide +kernel) ⟨Nat.le_of_ble_eq_true rfl, Nat.le_of_ble_eq_true rfl⟩) (ro_pre hK (hP.sub [] rfl)) rfl rfl hl.1 rfl (lv_room (Nat.le_of_ble_eq_true rfl)) dX11_whyOf_37 ⟨Nat.zero_le _, Nat.zero_le _⟩) hS hP (fun r37 H locs wr37 hP hS => ?_)
        obtain ⟨p_5, -⟩ := wr37
        refine lv_if_ne (tgt := 47) hx hb dX11_whyOf_40 (by decide) (fun c40 => ?_) (fun c40 => ?_)
        · have h_6 : rg 1 1 r37 := r_ne_lo_i c40 p_5 (by decide) (by decide)
          refine lv_iconst (v := 0) hx hb dX11_whyOf_47 (by decide) ?_
          exact W.iret (v := 0) hx hb hr (fun t ht hW => ⟨⟨0, (), rfl, ⟨(rg_w (c := 0) (d := 3) (rgn 0 (x := 0) (by decide)) (by decide)), trivial⟩, trivial⟩, hS.F ht⟩) hS.2.2 dX11_whyOf_48
        · have h_7 : rg 0 0 r37 := r_eq_l_i (e := 0) (f := 0) c40 p_5 (rgn 0 (x := 0) (by decide)) (by decide)
          refine lv_iconst (v := 3) hx hb dX11_whyOf_43 (by decide) ?_
          refine lv_goto (tgt := 48) hx hb dX11_whyOf_44 (by decide) ?_
          exact W.iret (v := 3) hx hb hr (fun t ht hW => ⟨⟨3, (), rfl, ⟨(rg_w (c := 0) (d := 3) (rgn 3 (x := 3) (by decide)) (by decide)), trivial⟩, trivial⟩, hS.F ht⟩) hS.2.2 dX11_whyOf_48
    · have h_8 : rg 1 1 r17 := r_ne_lo_i c20 p_2 (by decide) (by decide)
      refine lv_iconst (v := 2) hx hb dX11_whyOf_23 (by decide) ?_
      exact W.iret (v := 2) hx hb hr (fun t ht hW => ⟨⟨2, (), rfl, ⟨(rg_w (c := 0) (d := 3) (rgn 2 (x := 2) (by decide)) (by decide)), trivial⟩, trivial⟩, hS.F ht⟩) hS.2.2 dX11_whyOf_24
  · refine lv_iconst (v := 1) hx hb dX11_whyOf_10 (by decide) ?_
    exact W.iret (v := 1) hx hb hr (fun t ht hW => ⟨⟨1, (), rfl, ⟨(rg_w (c := 0) (d := 3) (rgn 1 (x := 1) (by decide)) (by decide)), trivial⟩, trivial⟩, hS.F ht⟩) hS.2.2 dX11_whyOf_11

set_option maxHeartbeats 4000000 in
set_option maxRecDepth 100000 in
theorem a_X11_why (l : Launch) (G : va_G) (ct : Nat → ClassId) (a0 : Nat) (n0_0 : Int32) (a1 : Nat) (a2 : Nat) (a3 : Nat) (a4 : Nat) (a5 : Nat) (n0_6 : Int32) (n0_7 : Int32) (n0_8 : Int32) (n0_9 : Int32) (n0_10 : Int32) (l0_11 : Int64) (n0_12 : Int32) (n0_13 : Int32) (n0_14 : Int32) (n0_15 : Int32) (a6 : Nat) (a7 : Nat) (a8 : Nat) (a9 : Nat) (a10 : Nat) (a11 : Nat) (a12 : Nat) (a13 : Nat) (n0_24 : Int32) (n0_25 : Int32) (n0_26 : Int32) (n0_27 : Int32) (a14 : Nat) (n0_29 : Int32) (n0_30 : Int32) (f7 : Nat → Int32) (f8 : Nat → Int32) (f9 : Nat → Int32) (f11 : Nat → Int32) (f12 : Nat → Int32) (f13 : Nat → Int32) (p0 : Int32) (p1 : Int32) (p2 : Int32) (hp_n0_6 : rg 0 900 n0_6) (hp_f7 : hsI f7) (hp_f8 : psI f8) (hp_f9 : ar 0 7 f9) (hp_f11 : ar (-1) 7 f11) (hp_f13 : ar (-1) 7 f13) : Met l yX11_why wsX11_why ({ frames := 5, cells := 0, slots := 0, locals := 111 }) (va_Pc [.ref a0, .int p0, .int p1, .int p2] (wrP G ct [(a0, .inr (11, [.int n0_0, .ref a1, .ref a2, .ref a3, .ref a4, .ref a5, .int n0_6, .int n0_7, .int n0_8, .int n0_9, .int n0_10, .long l0_11, .int n0_12, .int n0_13, .int n0_14, .int n0_15, .ref a6, .ref a7, .ref a8, .ref a9, .ref a10, .ref a11, .ref a12, .ref a13, .int n0_24, .int n0_25, .int n0_26, .int n0_27, .ref a14, .int n0_29, .int n0_30])), (a7, .inl (ct 0, 15, .inl f7)), (a8, .inl (ct 0, 200, .inl f8)), (a9, .inl (ct 0, 1000, .inl f9)), (a11, .inl (ct 0, 8, .inl f11)), (a12, .inl (ct 0, 8, .inl f12)), (a13, .inl (ct 0, 8, .inl f13))])) (va_Qi (fun (r : Int32) (u : SU) => rg (-2) 3 r ∧ (r = 0 → rg 0 7 p0) ∧ (¬ r = (-2) → rg 0 7 p0) ∧ (r = 0 → rg 0 7 p1) ∧ (¬ r = (-2) → rg 0 7 p1) ∧ (r = 0 → rg 0 5 p2) ∧ (¬ r = (-2) → rg 0 5 p2) ∧ ar (-1) 7 (u.2.1 0) ∧ ar (-1) 7 (u.2.1 2) ∧ rg 0 0 (u.1 0) ∧ True) (fun u t => va_P G vwCl ((fun u : SU => [(a0, .inr (11, [.int (u.1 0), .ref a1, .ref a2, .ref a3, .ref a4, .ref a5, .int n0_6, .int n0_7, .int n0_8, .int n0_9, .int n0_10, .long l0_11, .int n0_12, .int n0_13, .int n0_14, .int n0_15, .ref a6, .ref a7, .ref a8, .ref a9, .ref a10, .ref a11, .ref a12, .ref a13, .int (u.1 1), .int (u.1 2), .int (u.1 3), .int (u.1 4), .ref a14, .int n0_29, .int n0_30])), (a7, .inl (ct 0, 15, .inl f7)), (a8, .inl (ct 0, 200, .inl f8)), (a9, .inl (ct 0, 1000, .inl f9)), (a11, .inl (ct 0, 8, .inl (u.2.1 0))), (a12, .inl (ct 0, 8, .inl (u.2.1 1))), (a13, .inl (ct 0, 8, .inl (u.2.1 2)))]) u) t.heap) (aset [(a0, .inr (11, [.int n0_0, .ref a1, .ref a2, .ref a3, .ref a4, .ref a5, .int n0_6, .int n0_7, .int n0_8, .int n0_9, .int n0_10, .long l0_11, .int n0_12, .int n0_13, .int n0_14, .int n0_15, .ref a6, .ref a7, .ref a8, .ref a9, .ref a10, .ref a11, .ref a12, .ref a13, .int n0_24, .int n0_25, .int n0_26, .int n0_27, .ref a14, .int n0_29, .int n0_30])), (a7, .inl (ct 0, 15, .inl f7)), (a8, .inl (ct 0, 200, .inl f8)), (a9, .inl (ct 0, 1000, .inl f9)), (a11, .inl (ct 0, 8, .inl f11)), (a12, .inl (ct 0, 8, .inl f12)), (a13, .inl (ct 0, 8, .inl f13))])) 0 0 (aset [(a0, .inr (11, [.int n0_0, .ref a1, .ref a2, .ref a3, .ref a4, .ref a5, .int n0_6, .int n0_7, .int n0_8, .int n0_9, .int n0_10, .long l0_11, .int n0_12, .int n0_13, .int n0_14, .int n0_15, .ref a6, .ref a7, .ref a8, .ref a9, .ref a10, .ref a11, .ref a12, .ref a13, .int n0_24, .int n0_25, .int n0_26, .int n0_27, .ref a14, .int n0_29, .int n0_30])), (a7, .inl (ct 0, 15, .inl f7)), (a8, .inl (ct 0, 200, .inl f8)), (a9, .inl (ct 0, 1000, .inl f9)), (a11, .inl (ct 0, 8, .inl f11)), (a12, .inl (ct 0, 8, .inl f12)), (a13, .inl (ct 0, 8, .inl f13))]) := by
  refine Met.ofW (cc := cX11_why) (maxL := 4) (ret := (some .int)) (by decide) rfl ?_
  intro p e s m args below meth c s₁ B hml hv
  obtain ⟨rfl, hP, hK, hD0⟩ := hv
  have hx := B.exec
  have hb := B.bytes
  have hr := B.returns
  have hts := atoms_spec (ws := wsX11_why) B.pre
  have hown : s.vm.findClass RX11 = some m.cls := findClass_of_methodNamed B.named
  have hlocks := B.notSynchronized
  have hD := hD0.aself
  generalize hAe : aset [(a0, .inr (11, [.int n0_0, .ref a1, .ref a2, .ref a3, .ref a4, .ref a5, .int n0_6, .int n0_7, .int n0_8, .int n0_9, .int n0_10, .long l0_11, .int n0_12, .int n0_13, .int n0_14, .int n0_15, .ref a6, .ref a7, .ref a8, .ref a9, .ref a10, .ref a11, .ref a12, .ref a13, .int n0_24, .int n0_25, .int n0_26, .int n0_27, .ref a14, .int n0_29, .int n0_30])), (a7, .inl (ct 0, 15, .inl f7)), (a8, .inl (ct 0, 200, .inl f8)), (a9, .inl (ct 0, 1000, .inl f9)), (a11, .inl (ct 0, 8, .inl f11)), (a12, .inl (ct 0, 8, .inl f12)), (a13, .inl (ct 0, 8, .inl f13))] = A at hD ⊢
  have hS : va_S A s.heap s.heap [] := va_S.rf
  have hl := lv_entry ([.ref a0, .int p0, .int p1, .int p2]) (n := 4) (Nat.le_of_ble_eq_true rfl)
  rw [lg_entry_eq]
  generalize (lg_sl ([.ref a0, .int p0, .int p1, .int p2]) ++ List.replicate (4 - (lg_sl ([.ref a0, .int p0, .int p1, .int p2])).length) Slot.unset).toArray = ls at hl ⊢
  have hl : lv_has ls 4 [(0, .ref a0), (1, .int p0), (2, .int p1), (3, .int p2)] := hl
  refine lv_aload_n hx hb dX11_why_0 rfl (lv_at hl 0 rfl) ?_
  refine lv_iconst (v := 0) hx hb dX11_why_1 (by decide) ?_
  refine va_put (D := G) (ci := 11) (v := .int 0) (ty := .int) (C := RX11) (T := TX11) (N := 31) hx hb hts (by decide +kernel) tyX11 tyX11_ok nmX11 hown hK.1 hP hD hS 0 rfl rfl 0 (by decide) (hts (.fieldLink RX11 59 "CardHolderModel" "thrown" "I") (by decide +kernel)) (fun _ h9 => h9) rfl (by decide +kernel) rfl rfl (Nat.le_of_ble_eq_true rfl) dX11_why_2 (fun H locs hP hD hS => ?_)
  refine lv_aload_n hx hb dX11_why_5 rfl (lv_at hl 0 rfl) ?_
  refine lv_iload_n hx hb dX11_why_6 rfl (lv_at hl 1 rfl) ?_
  refine lv_iload_n hx hb dX11_why_7 rfl (lv_at hl 2 rfl) ?_
  refine ro_calli (va_runV (As := [.int p0, .int p1]) (rest := []) ⟨hx, hb, hml, hown, hts⟩ (a_X11_arePeople l G ct a0 (0 : Int32) a1 a2 a3 a4 a5 n0_6 n0_7 n0_8 n0_9 n0_10 l0_11 n0_12 n0_13 n0_14 n0_15 a6 a7 a8 a9 a10 a11 a12 a13 n0_24 n0_25 n0_26 n0_27 a14 n0_29 n0_30 f7 p0 p1 hp_n0_6 hp_f7) (cwV 2 hts gX11_why_X11_arePeople rfl rfl rfl (by decide +kernel) ⟨Nat.le_of_ble_eq_true rfl, Nat.le_of_ble_eq_true rfl⟩) (ro_preV 11 0 hK (hP.sub [0, 1] rfl) rfl rfl) rfl rfl hl.1 rfl (lv_room (Nat.le_of_ble_eq_true rfl)) dX11_why_8 ⟨Nat.zero_le _, Nat.zero_le _⟩) hS hP (fun r8 H locs wr8 hP hS => ?_)
  obtain ⟨p_1, p_2, p_3, -⟩ := wr8
  refine lv_if_eq (tgt := 22) hx hb dX11_why_11 (by decide) (fun c11 => ?_) (fun c11 => ?_)
  · have h_4 : rg 0 0 r8 := r_eq_l_i (e := 0) (f := 0) c11 p_1 (rgn 0 (x := 0) (by decide)) (by decide)
    refine lv_bipush (v := (-2)) hx hb dX11_why_22 (by decide) ?_
    exact W.iret (v := (-2)) hx hb hr (fun t ht hW => ⟨⟨(-2), (fun k => ([0, n0_24, n0_25, n0_26, n0_27] : List Int32).getD k 0, fun k => ([f11, f12, f13] : List (Nat → Int32)).getD k (fun _ => 0), fun k => ([] : List (Nat → Int64)).getD k (fun _ => 0)), rfl, ⟨(rg_w (c := (-2)) (d := 3) (rgn (-2) (x := (-2)) (by decide)) (by decide)), (fun hq => absurd hq (rne (rgn (-2) (x := (-2)) (by decide)) (y := 0) (c := 0) (by decide) (by decide))), (fun hq => absurd (req (rgn (-2) (x := (-2)) (by decide)) (y := (-2)) (by decide)) hq), (fun hq => absurd hq (rne (rgn (-2) (x := (-2)) (by decide)) (y := 0) (c := 0) (by decide) (by decide))), (fun hq => absurd (req (rgn (-2) (x := (-2)) (by decide)) (y := (-2)) (by decide)) hq), (fun hq => absurd hq (rne (rgn (-2) (x := (-2)) (by decide)) (y := 0) (c := 0) (by decide) (by decide))), (fun hq => absurd (req (rgn (-2) (x := (-2)) (by decide)) (y := (-2)) (by decide)) hq), hp_f11, hp_f13, (rgn 0 (x := 0) (by decide)), trivial⟩, hp_at ht hP⟩, hS.F ht⟩) hS.2.2 dX11_why_24
  · have h_5 : rg 1 1 r8 := r_ne_lo_i c11 p_1 (by decide) (by decide)
    have h_6 : rg 0 7 p0 := (p_2 (rne h_5 (y := 0) (c := 0) (by decide) (by decide)))
    have h_7 : rg 0 7 p1 := (p_3 (rne h_5 (y := 0) (c := 0) (by decide) (by decide)))
    refine lv_iload_n hx hb dX11_why_14 rfl (lv_at hl 3 rfl) ?_
    refine lv_i2l hx hb dX11_why_15 rfl ?_
    refine nl_i2l (rg_t p2) (fun z15 hz15 ez15 => ?_)
    refine ro_calli (va_runS (As := [.long z15]) (rest := []) ⟨hx, hb, hml, hown, hts⟩ (a_X11_isDeed l G ct z15) (va_cwS 1 hts gX11_why_X11_isDeed rfl rfl rfl (by decide +kernel) ⟨Nat.le_of_ble_eq_true rfl, Nat.le_of_ble_eq_true rfl⟩) (ro_pre hK (hP.sub [] rfl)) rfl rfl hl.1 rfl (lv_room (Nat.le_of_ble_eq_true rfl)) dX11_why_16 ⟨Nat.zero_le _, Nat.zero_le _⟩) hS hP (fun r16 H locs wr16 hP hS => ?_)
    obtain ⟨p_8, p_9, -⟩ := wr16
    refine lv_if_ne (tgt := 25) hx hb dX11_why_19 (by decide) (fun c19 => ?_) (fun c19 => ?_)
    · have h_10 : rg 1 1 r16 := r_ne_lo_i c19 p_8 (by decide) (by decide)
      have h_11 : rl 0 5 z15 := (p_9 (rne h_10 (y := 0) (c := 0) (by decide) (by decide)))
      have h_12 : rg 0 5 p2 := bk_li (a := 0) (b := 5) ez15 h_11 (rg_t p2) (by decide)
      refine lv_aload_n hx hb dX11_why_25 rfl (lv_at hl 0 rfl) ?_
      refine wj_callv (wr := []) (w1 := (fun u : SU => [(a0, .inr (11, [.int 0, .ref a1, .ref a2, .ref a3, .ref a4, .ref a5, .int n0_6, .int n0_7, .int n0_8, .int n0_9, .int n0_10, .long l0_11, .int n0_12, .int n0_13, .int n0_14, .int n0_15, .ref a6, .ref a7, .ref a8, .ref a9, .ref a10, .ref a11, .ref a12, .ref a13, .int (u.1 0), .int (u.1 1), .int (u.1 2), .int (u.1 3), .ref a14, .int n0_29, .int n0_30])), (a7, .inl (ct 0, 15, .inl f7)), (a8, .inl (ct 0, 200, .inl f8)), (a9, .inl (ct 0, 1000, .inl f9)), (a11, .inl (ct 0, 8, .inl (u.2.1 0))), (a12, .inl (ct 0, 8, .inl (u.2.1 1))), (a13, .inl (ct 0, 8, .inl (u.2.1 2)))])) (va_runV (As := []) (rest := []) ⟨hx, hb, hml, hown, hts⟩ (a_X11_laysNow l G ct a0 (0 : Int32) a1 a2 a3 a4 a5 n0_6 n0_7 n0_8 n0_9 n0_10 l0_11 n0_12 n0_13 n0_14 n0_15 a6 a7 a8 a9 a10 a11 a12 a13 n0_24 n0_25 n0_26 n0_27 a14 n0_29 n0_30 f7 f8 f9 f11 f12 f13 hp_n0_6 hp_f7 hp_f8 hp_f9 hp_f11 hp_f13) (cwV 0 hts gX11_why_X11_laysNow rfl rfl rfl (by decide +kernel) ⟨Nat.le_of_ble_eq_true rfl, Nat.le_of_ble_eq_true rfl⟩) (wr_preV 11 0 hK (hP.sub [0, 1, 2, 3, 4, 5, 6] rfl) (hD.sub [0, 1, 2, 3, 4, 5, 6] (by decide) rfl) rfl rfl) rfl rfl hl.1 rfl (lv_room (Nat.le_of_ble_eq_true rfl)) dX11_why_26 ⟨Nat.zero_le _, Nat.zero_le _⟩) hS hP hD [0, 1, 2, 3, 4, 5, 6] [] rfl rfl (by decide) (fun _ => rfl) (fun ur26 H locs wr26 hP hD hS => ?_)
      have hP : va_P G vwCl [(a0, .inr (11, [.int 0, .ref a1, .ref a2, .ref a3, .ref a4, .ref a5, .int n0_6, .int n0_7, .int n0_8, .int n0_9, .int n0_10, .long l0_11, .int n0_12, .int n0_13, .int n0_14, .int n0_15, .ref a6, .ref a7, .ref a8, .ref a9, .ref a10, .ref a11, .ref a12, .ref a13, .int (ur26.1 0), .int (ur26.1 1), .int (ur26.1 2), .int (ur26.1 3), .ref a14, .int n0_29, .int n0_30])), (a7, .inl (ct 0, 15, .inl f7)), (a8, .inl (ct 0, 200, .inl f8)), (a9, .inl (ct 0, 1000, .inl f9)), (a11, .inl (ct 0, 8, .inl (ur26.2.1 0))), (a12, .inl (ct 0, 8, .inl (ur26.2.1 1))), (a13, .inl (ct 0, 8, .inl (ur26.2.1 2)))] H := hP.sub [0, 1, 2, 3, 4, 5, 6] rfl
      have hD : va_D A [(a0, .inr (11, [.int 0, .ref a1, .ref a2, .ref a3, .ref a4, .ref a5, .int n0_6, .int n0_7, .int n0_8, .int n0_9, .int n0_10, .long l0_11, .int n0_12, .int n0_13, .int n0_14, .int n0_15, .ref a6, .ref a7, .ref a8, .ref a9, .ref a10, .ref a11, .ref a12, .ref a13, .int (ur26.1 0), .int (ur26.1 1), .int (ur26.1 2), .int (ur26.1 3), .ref a14, .int n0_29, .int n0_30])), (a7, .inl (ct 0, 15, .inl f7)), (a8, .inl (ct 0, 200, .inl f8)), (a9, .inl (ct 0, 1000, .inl f9)), (a11, .inl (ct 0, 8, .inl (ur26.2.1 0))), (a12, .inl (ct 0, 8, .inl (ur26.2.1 1))), (a13, .inl (ct 0, 8, .inl (ur26.2.1 2)))] := hD.sub [0, 1, 2, 3, 4, 5, 6] (by decide) rfl
      obtain ⟨p_13, p_14, -⟩ := wr26
      refine lv_aload_n hx hb dX11_why_29 rfl (lv_at hl 0 rfl) ?_
      refine lv_iload_n hx hb dX11_why_30 rfl (lv_at hl 1 rfl) ?_
      refine lv_iload_n hx hb dX11_why_31 rfl (lv_at hl 2 rfl) ?_
      refine lv_iload_n hx hb dX11_why_32 rfl (lv_at hl 3 rfl) ?_
      refine ro_calli (va_runV (As := [.int p0, .int p1, .int p2]) (rest := []) ⟨hx, hb, hml, hown, hts⟩ (a_X11_whyOf l G ct a0 (0 : Int32) a1 a2 a3 a4 a5 n0_6 n0_7 n0_8 n0_9 n0_10 l0_11 n0_12 n0_13 n0_14 n0_15 a6 a7 a8 a9 a10 a11 a12 a13 (ur26.1 0) (ur26.1 1) (ur26.1 2) (ur26.1 3) a14 n0_29 n0_30 f8 (ur26.2.1 0) p0 p1 p2 hp_n0_6 hp_f8 p_13 h_6 h_7) (cwV 3 hts gX11_why_X11_whyOf rfl rfl rfl (by decide +kernel) ⟨Nat.le_of_ble_eq_true rfl, Nat.le_of_ble_eq_true rfl⟩) (ro_preV 11 0 hK (hP.sub [0, 2, 4] rfl) rfl rfl) rfl rfl hl.1 rfl (lv_room (Nat.le_of_ble_eq_true rfl)) dX11_why_33 ⟨Nat.zero_le _, Nat.zero_le _⟩) hS hP (fun r33 H locs wr33 hP hS => ?_)
      obtain ⟨p_15, -⟩ := wr33
      exact W.iret (v := r33) hx hb hr (fun t ht hW => ⟨⟨r33, (fun k => ([0, ur26.1 0, ur26.1 1, ur26.1 2, ur26.1 3] : List Int32).getD k 0, fun k => ([ur26.2.1 0, ur26.2.1 1, ur26.2.1 2] : List (Nat → Int32)).getD k (fun _ => 0), fun k => ([] : List (Nat → Int64)).getD k (fun _ => 0)), rfl, ⟨(rg_w (c := (-2)) (d := 3) p_15 (by decide)), (fun _ => h_6), (fun _ => h_6), (fun _ => h_7), (fun _ => h_7), (fun _ => h_12), (fun _ => h_12), p_13, p_14, (rgn 0 (x := 0) (by decide)), trivial⟩, hp_at ht hP⟩, hS.F ht⟩) hS.2.2 dX11_why_36
    · have h_16 : rg 0 0 r16 := r_eq_l_i (e := 0) (f := 0) c19 p_8 (rgn 0 (x := 0) (by decide)) (by decide)
      refine lv_bipush (v := (-2)) hx hb dX11_why_22 (by decide) ?_
      exact W.iret (v := (-2)) hx hb hr (fun t ht hW => ⟨⟨(-2), (fun k => ([0, n0_24, n0_25, n0_26, n0_27] : List Int32).getD k 0, fun k => ([f11, f12, f13] : List (Nat → Int32)).getD k (fun _ => 0), fun k => ([] : List (Nat → Int64)).getD k (fun _ => 0)), rfl, ⟨(rg_w (c := (-2)) (d := 3) (rgn (-2) (x := (-2)) (by decide)) (by decide)), (fun _ => h_6), (fun _ => h_6), (fun _ => h_7), (fun _ => h_7), (fun hq => absurd hq (rne (rgn (-2) (x := (-2)) (by decide)) (y := 0) (c := 0) (by decide) (by decide))), (fun hq => absurd (req (rgn (-2) (x := (-2)) (by decide)) (y := (-2)) (by decide)) hq), hp_f11, hp_f13, (rgn 0 (x := 0) (by decide)), trivial⟩, hp_at ht hP⟩, hS.F ht⟩) hS.2.2 dX11_why_24

set_option maxHeartbeats 4000000 in
set_option maxRecDepth 100000 in
theorem a_X11_acts (l : Launch) (G : va_G) (ct : Nat → ClassId) (a0 : Nat) (n0_0 : Int32) (a1 : Nat) (a2 : Nat) (a3 : Nat) (a4 : Nat) (a5 : Nat) (n0_6 : Int32) (n0_7 : Int32) (n0_8 : Int32) (n0_9 : Int32) (n0_10 : Int32) (l0_11 : Int64) (n0_12 : Int32) (n0_13 : Int32) (n0_14 : Int32) (n0_15 : Int32) (a6 : Nat) (a7 : Nat) (a8 : Nat) (a9 : Nat) (a10 : Nat) (a11 : Nat) (a12 : Nat) (a13 : Nat) (n0_24 : Int32) (n0_25 : Int32) (n0_26 : Int32) (n0_27 : Int32) (a14 : Nat) (n0_29 : Int32) (n0_30 : Int32) (f7 : Nat → Int32) (f9 : Nat → Int32) (p0 : Int32) (p1 : Int32) (p2 : Int32) (p3 : Int32) (p4 : Int32) (hp_n0_6 : rg 0 900 n0_6) (hp_f7 : hsI f7) (hp_f9 : ar 0 7 f9) (hp_p0 : rg 0 7 p0) (hp_p1 : rg 0 7 p1) (hp_p2 : rg 0 7 p2) (hp_p3 : rg 0 7 p3) (hp_p4 : rg 0 7 p4) (hfl : (f7 (2 : Int32).toNatClampNeg).toInt ≤ 39) : Met l yX11_acts wsX11_acts ({ frames := 0, cells := 0, slots := 0, locals := 0 }) (va_Pc [.ref a0, .int p0, .int p1, .int p2, .int p3, .int p4] (wrP G ct [(a0, .inr (11, [.int n0_0, .ref a1, .ref a2, .ref a3, .ref a4, .ref a5, .int n0_6, .int n0_7, .int n0_8, .int n0_9, .int n0_10, .long l0_11, .int n0_12, .int n0_13, .int n0_14, .int n0_15, .ref a6, .ref a7, .ref a8, .ref a9, .ref a10, .ref a11, .ref a12, .ref a13, .int n0_24, .int n0_25, .int n0_26, .int n0_27, .ref a14, .int n0_29, .int n0_30])), (a7, .inl (ct 0, 15, .inl f7)), (a9, .inl (ct 0, 1000, .inl f9))])) (va_Qv (fun u : SU => hsI (u.2.1 0) ∧ ar 0 7 (u.2.1 1) ∧ True) (fun u t => va_P G vwCl ((fun u : SU => [(a0, .inr (11, [.int n0_0, .ref a1, .ref a2, .ref a3, .ref a4, .ref a5, .int n0_6, .int n0_7, .int n0_8, .int n0_9, .int n0_10, .long l0_11, .int n0_12, .int n0_13, .int n0_14, .int n0_15, .ref a6, .ref a7, .ref a8, .ref a9, .ref a10, .ref a11, .ref a12, .ref a13, .int n0_24, .int n0_25, .int n0_26, .int n0_27, .ref a14, .int n0_29, .int n0_30])), (a7, .inl (ct 0, 15, .inl (u.2.1 0))), (a9, .inl (ct 0, 1000, .inl (u.2.1 1)))]) u) t.heap) (aset [(a0, .inr (11, [.int n0_0, .ref a1, .ref a2, .ref a3, .ref a4, .ref a5, .int n0_6, .int n0_7, .int n0_8, .int n0_9, .int n0_10, .long l0_11, .int n0_12, .int n0_13, .int n0_14, .int n0_15, .ref a6, .ref a7, .ref a8, .ref a9, .ref a10, .ref a11, .ref a12, .ref a13, .int n0_24, .int n0_25, .int n0_26, .int n0_27, .ref a14, .int n0_29, .int n0_30])), (a7, .inl (ct 0, 15, .inl f7)), (a9, .inl (ct 0, 1000, .inl f9))])) 0 0 (aset [(a0, .inr (11, [.int n0_0, .ref a1, .ref a2, .ref a3, .ref a4, .ref a5, .int n0_6, .int n0_7, .int n0_8, .int n0_9, .int n0_10, .long l0_11, .int n0_12, .int n0_13, .int n0_14, .int n0_15, .ref a6, .ref a7, .ref a8, .ref a9, .ref a10, .ref a11, .ref a12, .ref a13, .int n0_24, .int n0_25, .int n0_26, .int n0_27, .ref a14, .int n0_29, .int n0_30])), (a7, .inl (ct 0, 15, .inl f7)), (a9, .inl (ct 0, 1000, .inl f9))]) := by
  refine Met.ofW (cc := cX11_acts) (maxL := 7) (ret := none) (by decide) rfl ?_
  intro p e s m args below meth c s₁ B hml hv
  obtain ⟨rfl, hP, hK, hD0⟩ := hv
  have hx := B.exec
  have hb := B.bytes
  have hr := B.returns
  have hts := atoms_spec (ws := wsX11_acts) B.pre
  have hown : s.vm.findClass RX11 = some m.cls := findClass_of_methodNamed B.named
  have hlocks := B.notSynchronized
  have hD := hD0.aself
  generalize hAe : aset [(a0, .inr (11, [.int n0_0, .ref a1, .ref a2, .ref a3, .ref a4, .ref a5, .int n0_6, .int n0_7, .int n0_8, .int n0_9, .int n0_10, .long l0_11, .int n0_12, .int n0_13, .int n0_14, .int n0_15, .ref a6, .ref a7, .ref a8, .ref a9, .ref a10, .ref a11, .ref a12, .ref a13, .int n0_24, .int n0_25, .int n0_26, .int n0_27, .ref a14, .int n0_29, .int n0_30])), (a7, .inl (ct 0, 15, .inl f7)), (a9, .inl (ct 0, 1000, .inl f9))] = A at hD ⊢
  have hS : va_S A s.heap s.heap [] := va_S.rf
  have hl := lv_entry ([.ref a0, .int p0, .int p1, .int p2, .int p3, .int p4]) (n := 7) (Nat.le_of_ble_eq_true rfl)
  rw [lg_entry_eq]
  generalize (lg_sl ([.ref a0, .int p0, .int p1, .int p2, .int p3, .int p4]) ++ List.replicate (7 - (lg_sl ([.ref a0, .int p0, .int p1, .int p2, .int p3, .int p4])).length) Slot.unset).toArray = ls at hl ⊢
  have hl : lv_has ls 7 [(0, .ref a0), (1, .int p0), (2, .int p1), (3, .int p2), (4, .int p3), (5, .int p4)] := hl
  refine lv_iconst (v := 5) hx hb dX11_acts_0 (by decide) ?_
  refine lv_aload_n hx hb dX11_acts_1 rfl (lv_at hl 0 rfl) ?_
  refine va_get (D := G) (ci := 11) (v := .ref a7) (C := RX11) (T := TX11) (N := 31) hx hb hts (by decide +kernel) hown hK.1 hP 0 rfl rfl 17 (by decide) (hts (.fieldLink RX11 34 "CardHolderModel" "has" "[I") (by decide +kernel)) (fun _ h9 => h9) rfl dX11_acts_2 ?_
  refine lv_iconst (v := 2) hx hb dX11_acts_5 (by decide) ?_
  refine va_iald hx hb hK.1 hP 1 0 rfl rfl (in_lit (by decide)) dX11_acts_6 ?_
  refine lv_topi (fun z6 gz6 => ?_)
  have hz6 : rg 0 40 z6 := by rw [gz6]; exact (hp_f7.2 0)
  have h_1 : rg 0 39 z6 := ⟨hz6.1, by rw [gz6]; exact hfl⟩
  refine lv_imul hx hb dX11_acts_7 ?_
  refine nm_mul (e1 := 0) (f := 195) (rgn 5 (x := 5) (by decide)) h_1 (by decide) (fun z7 hz7 ez7 => ?_)
  replace ez7 : z7.toInt = 5 * z6.toInt := by have : (5 : Int32).toInt = 5 := (by decide); rw [this] at ez7; exact ez7
  refine lv_istore (lv' := [(6, .int z7), (0, .ref a0), (1, .int p0), (2, .int p1), (3, .int p2), (4, .int p3), (5, .int p4)]) hx hb dX11_acts_8 hl (by decide) rfl (fun ls hl => ?_)
  refine lv_aload_n hx hb dX11_acts_10 rfl (lv_at hl 1 rfl) ?_
  refine va_get (D := G) (ci := 11) (v := .ref a9) (C := RX11) (T := TX11) (N := 31) hx hb hts (by decide +kernel) hown hK.1 hP 0 rfl rfl 19 (by decide) (hts (.fieldLink RX11 40 "CardHolderModel" "act" "[I") (by decide +kernel)) (fun _ h9 => h9) rfl dX11_acts_11 ?_
  refine lv_iload hx hb dX11_acts_14 (lv_at hl 0 rfl) ?_
  refine lv_iload_n hx hb dX11_acts_16 rfl (lv_at hl 2 rfl) ?_
  refine va_iast hx hb hK.1 hP hD hS 2 0 rfl rfl (in_rg hz7 (by decide)) dX11_acts_17 (fun H locs hP hD hS => ?_)
  have h_2 : ar 0 7 (upd f9 z7.toNatClampNeg p0) := ar_u hp_f9 hp_p0
  refine lv_aload_n hx hb dX11_acts_18 rfl (lv_at hl 1 rfl) ?_
  refine va_get (D := G) (ci := 11) (v := .ref a9) (C := RX11) (T := TX11) (N := 31) hx hb hts (by decide +kernel) hown hK.1 hP 0 rfl rfl 19 (by decide) (hts (.fieldLink RX11 40 "CardHolderModel" "act" "[I") (by decide +kernel)) (fun _ h9 => h9) rfl dX11_acts_19 ?_
  refine lv_iload hx hb dX11_acts_22 (lv_at hl 0 rfl) ?_
  refine lv_iconst (v := 1) hx hb dX11_acts_24 (by decide) ?_
  refine lv_iadd hx hb dX11_acts_25 ?_
  refine nm_add (e1 := 1) (f := 196) hz7 (rgn 1 (x := 1) (by decide)) (by decide) (fun z25 hz25 ez25 => ?_)
  replace ez25 := eqc_r ez25 (c := 1) (by decide)
  refine lv_iload_n hx hb dX11_acts_26 rfl (lv_at hl 3 rfl) ?_
  refine va_iast hx hb hK.1 hP hD hS 2 0 rfl rfl (in_rg hz25 (by decide)) dX11_acts_27 (fun H locs hP hD hS => ?_)
  have h_3 : ar 0 7 (upd (upd f9 z7.toNatClampNeg p0) z25.toNatClampNeg p1) := ar_u h_2 hp_p1
  refine lv_aload_n hx hb dX11_acts_28 rfl (lv_at hl 1 rfl) ?_
  refine va_get (D := G) (ci := 11) (v := .ref a9) (C := RX11) (T := TX11) (N := 31) hx hb hts (by decide +kernel) hown hK.1 hP 0 rfl rfl 19 (by decide) (hts (.fieldLink RX11 40 "CardHolderModel" "act" "[I") (by decide +kernel)) (fun _ h9 => h9) rfl dX11_acts_29 ?_
  refine lv_iload hx hb dX11_acts_32 (lv_at hl 0 rfl) ?_
  refine lv_iconst (v := 2) hx hb dX11_acts_34 (by decide) ?_
  refine lv_iadd hx hb dX11_acts_35 ?_
  refine nm_add (e1 := 2) (f := 197) hz7 (rgn 2 (x := 2) (by decide)) (by decide) (fun z35 hz35 ez35 => ?_)
  replace ez35 := eqc_r ez35 (c := 2) (by decide)
  refine lv_iload_n hx hb dX11_acts_36 rfl (lv_at hl 4 rfl) ?_
  refine va_iast hx hb hK.1 hP hD hS 2 0 rfl rfl (in_rg hz35 (by decide)) dX11_acts_37 (fun H locs hP hD hS => ?_)
  have h_4 : ar 0 7 (upd (upd (upd f9 z7.toNatClampNeg p0) z25.toNatClampNeg p1) z35.toNatClampNeg p2) := ar_u h_3 hp_p2
  refine lv_aload_n hx hb dX11_acts_38 rfl (lv_at hl 1 rfl) ?_
  refine va_get (D := G) (ci := 11) (v := .ref a9) (C := RX11) (T := TX11) (N := 31) hx hb hts (by decide +kernel) hown hK.1 hP 0 rfl rfl 19 (by decide) (hts (.fieldLink RX11 40 "CardHolderModel" "act" "[I") (by decide +kernel)) (fun _ h9 => h9) rfl dX11_acts_39 ?_
  refine lv_iload hx hb dX11_acts_42 (lv_at hl 0 rfl) ?_
  refine lv_iconst (v := 3) hx hb dX11_acts_44 (by decide) ?_
  refine lv_iadd hx hb dX11_acts_45 ?_
  refine nm_add (e1 := 3) (f := 198) hz7 (rgn 3 (x := 3) (by decide)) (by decide) (fun z45 hz45 ez45 => ?_)
  replace ez45 := eqc_r ez45 (c := 3) (by decide)
  refine lv_iload hx hb dX11_acts_46 (lv_at hl 5 rfl) ?_
  refine va_iast hx hb hK.1 hP hD hS 2 0 rfl rfl (in_rg hz45 (by decide)) dX11_acts_48 (fun H locs hP hD hS => ?_)
  have h_5 : ar 0 7 (upd (upd (upd (upd f9 z7.toNatClampNeg p0) z25.toNatClampNeg p1) z35.toNatClampNeg p2) z45.toNatClampNeg p3) := ar_u h_4 hp_p3
  refine lv_aload_n hx hb dX11_acts_49 rfl (lv_at hl 1 rfl) ?_
  refine va_get (D := G) (ci := 11) (v := .ref a9) (C := RX11) (T := TX11) (N := 31) hx hb hts (by decide +kernel) hown hK.1 hP 0 rfl rfl 19 (by decide) (hts (.fieldLink RX11 40 "CardHolderModel" "act" "[I") (by decide +kernel)) (fun _ h9 => h9) rfl dX11_acts_50 ?_
  refine lv_iload hx hb dX11_acts_53 (lv_at hl 0 rfl) ?_
  refine lv_iconst (v := 4) hx hb dX11_acts_55 (by decide) ?_
  refine lv_iadd hx hb dX11_acts_56 ?_
  refine nm_add (e1 := 4) (f := 199) hz7 (rgn 4 (x := 4) (by decide)) (by decide) (fun z56 hz56 ez56 => ?_)
  replace ez56 := eqc_r ez56 (c := 4) (by decide)
  refine lv_iload hx hb dX11_acts_57 (lv_at hl 6 rfl) ?_
  refine va_iast hx hb hK.1 hP hD hS 2 0 rfl rfl (in_rg hz56 (by decide)) dX11_acts_59 (fun H locs hP hD hS => ?_)
  have h_6 : ar 0 7 (upd (upd (upd (upd (upd f9 z7.toNatClampNeg p0) z25.toNatClampNeg p1) z35.toNatClampNeg p2) z45.toNatClampNeg p3) z56.toNatClampNeg p4) := ar_u h_5 hp_p4
  refine lv_aload_n hx hb dX11_acts_60 rfl (lv_at hl 1 rfl) ?_
  refine va_get (D := G) (ci := 11) (v := .ref a7) (C := RX11) (T := TX11) (N := 31) hx hb hts (by decide +kernel) hown hK.1 hP 0 rfl rfl 17 (by decide) (hts (.fieldLink RX11 34 "CardHolderModel" "has" "[I") (by decide +kernel)) (fun _ h9 => h9) rfl dX11_acts_61 ?_
  refine lv_iconst (v := 2) hx hb dX11_acts_64 (by decide) ?_
  refine lv_dup2_11 hx hb dX11_acts_65 rfl rfl ?_
  refine va_iald hx hb hK.1 hP 1 0 rfl rfl (in_lit (by decide)) dX11_acts_66 ?_
  refine ix_i (y := z6) gz6.symm ?_
  refine lv_iconst (v := 1) hx hb dX11_acts_67 (by decide) ?_
  refine lv_iadd hx hb dX11_acts_68 ?_
  refine nm_add (e1 := 1) (f := 40) h_1 (rgn 1 (x := 1) (by decide)) (by decide) (fun z68 hz68 ez68 => ?_)
  replace ez68 := eqc_r ez68 (c := 1) (by decide)
  refine va_iast hx hb hK.1 hP hD hS 1 0 rfl rfl (in_lit (by decide)) dX11_acts_69 (fun H locs hP hD hS => ?_)
  have h_7 : hsI (upd f7 (2 : Int32).toNatClampNeg z68) := hs_u2 (j := 0) hp_f7 rfl (rg_w (c := 0) (d := 40) hz68 (by decide))
  exact W.vret hx hb hr (fun t ht hW => ⟨⟨(fun k => ([] : List Int32).getD k 0, fun k => ([upd f7 (2 : Int32).toNatClampNeg z68, upd (upd (upd (upd (upd f9 z7.toNatClampNeg p0) z25.toNatClampNeg p1) z35.toNatClampNeg p2) z45.toNatClampNeg p3) z56.toNatClampNeg p4] : List (Nat → Int32)).getD k (fun _ => 0), fun k => ([] : List (Nat → Int64)).getD k (fun _ => 0)), rfl, ⟨h_7, h_6, trivial⟩, hp_at ht hP⟩, hS.F ht⟩) hS.2.2 dX11_acts_70

set_option maxHeartbeats 4000000 in
set_option maxRecDepth 100000 in
theorem a_X11_sizeOf (l : Launch) (G : va_G) (ct : Nat → ClassId) (p0 : Int32)  : Met l yX11_sizeOf wsX11_sizeOf ({ frames := 0, cells := 0, slots := 0, locals := 0 }) (va_Pc [.int p0] (roP G ct [])) (roQ (fun r => True)) 0 0 no := by
  refine Met.ofW (cc := cX11_sizeOf) (maxL := 3) (ret := (some .int)) (by decide) rfl ?_
  intro p e s m args below meth c s₁ B hml hv
  obtain ⟨rfl, hP, hK⟩ := hv
  have hx := B.exec
  have hb := B.bytes
  have hr := B.returns
  have hts := atoms_spec (ws := wsX11_sizeOf) B.pre
  have hown : s.vm.findClass RX11 = some m.cls := findClass_of_methodNamed B.named
  have hlocks := B.notSynchronized
  have hS : va_S no s.heap s.heap [] := va_S.rf
  have hl := lv_entry ([.int p0]) (n := 3) (Nat.le_of_ble_eq_true rfl)
  rw [lg_entry_eq]
  generalize (lg_sl ([.int p0]) ++ List.replicate (3 - (lg_sl ([.int p0])).length) Slot.unset).toArray = ls at hl ⊢
  have hl : lv_has ls 3 [(0, .int p0)] := hl
  refine lv_iconst (v := 0) hx hb dX11_sizeOf_0 (by decide) ?_
  refine lv_istore_n (lv' := [(1, .int 0), (0, .int p0)]) hx hb dX11_sizeOf_1 rfl hl (by decide) rfl (fun ls hl => ?_)
  refine lv_iload_n hx hb dX11_sizeOf_2 rfl (lv_at hl 1 rfl) ?_
  refine lv_istore_n (lv' := [(2, .int p0), (1, .int 0), (0, .int p0)]) hx hb dX11_sizeOf_3 rfl hl (by decide) rfl (fun ls hl => ?_)
  have j4 : ∀ (n : Nat) (x4_1 : Int32) (x4_2 : Int32) (H : Heap) (locs : List Loc) (ls : Array Slot), x4_2.toBitVec.toNat < n → va_P G vwCl [] H → va_S no s.heap H locs → lv_has ls 3 [(0, .int p0), (1, .int x4_1), (2, .int x4_2)] → W p l e (headSpec wsX11_sizeOf ({ frames := 0, cells := 0, slots := 0, locals := 0 })).room s m ([.int p0] : List Value).toArray below meth c H locs 0 0 (MQ below (roQ (fun r => True)) ([.int p0] : List Value).toArray s 0 0 no) (F0 m 4 ls []) := by
    intro n
    induction n with
    | zero => intro x4_1 x4_2 H locs ls hn4  hP hS hl; exact absurd hn4 (Nat.not_lt_zero _)
    | succ n ih4 =>
      intro x4_1 x4_2 H locs ls hn4  hP hS hl
      refine lv_iload_n hx hb dX11_sizeOf_4 rfl (lv_at hl 2 rfl) ?_
      refine lv_if_eq (tgt := 20) hx hb dX11_sizeOf_5 (by decide) (fun c5 => ?_) (fun c5 => ?_)
      · have h_1 : rg 0 0 x4_2 := r_eq_l_i (e := 0) (f := 0) c5 (rg_t x4_2) (rgn 0 (x := 0) (by decide)) (by decide)
        refine lv_iload_n hx hb dX11_sizeOf_20 rfl (lv_at hl 1 rfl) ?_
        exact W.iret (v := x4_1) hx hb hr (fun t ht hW => ⟨⟨x4_1, (), rfl, trivial, trivial⟩, hS.F ht⟩) hS.2.2 dX11_sizeOf_21
      · obtain ⟨z8, qz8⟩ : ∃ y : Int32, y = x4_1 + Int32.ofInt 1 := ⟨_, rfl⟩
        refine lv_iinc (v := z8) (lv' := [(1, .int z8), (0, .int p0), (2, .int x4_2)]) hx hb dX11_sizeOf_8 hl (k := 1) rfl (qz8.symm) (by decide) rfl (fun ls hl => ?_)
        refine lv_iload_n hx hb dX11_sizeOf_11 rfl (lv_at hl 2 rfl) ?_
        refine lv_iload_n hx hb dX11_sizeOf_12 rfl (lv_at hl 2 rfl) ?_
        refine lv_iconst (v := 1) hx hb dX11_sizeOf_13 (by decide) ?_
        refine lv_isub hx hb dX11_sizeOf_14 ?_
        refine lv_topi (fun z14 gz14 => ?_)
        refine lv_iand hx hb dX11_sizeOf_15 ?_
        refine lv_topi (fun z15 gz15 => ?_)
        refine lv_istore_n (lv' := [(2, .int z15), (1, .int z8), (0, .int p0)]) hx hb dX11_sizeOf_16 rfl hl (by decide) rfl (fun ls hl => ?_)
        refine lv_goto (tgt := 4) hx hb dX11_sizeOf_17 (by decide) ?_
        exact ih4 z8 z15 _ _ ls (sz_dec gz14 gz15 c5 hn4) hP hS (lv_sub hl [2, 1, 0] rfl)
  exact j4 4294967296 (0 : Int32) p0 _ _ ls (sz_e p0) hP hS (lv_sub hl [2, 1, 0] rfl)
