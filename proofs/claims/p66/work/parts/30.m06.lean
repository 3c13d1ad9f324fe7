theorem dX11_anew_0 : decode cX11_anew 0 = .ok (.aload_n 0, 1) := by decide +kernel
theorem dX11_anew_1 : decode cX11_anew 1 = .ok (.iconst 0, 1) := by decide +kernel
theorem dX11_anew_2 : decode cX11_anew 2 = .ok (.putfield 59, 3) := by decide +kernel
theorem dX11_anew_5 : decode cX11_anew 5 = .ok (.aload_n 0, 1) := by decide +kernel
set_option maxRecDepth 20000 in
theorem ggX11_anew_X11_isCity : GoodIn wsX11_anew wsX11_isCity := goodIn_r _ [7, 8, 9, 10, 11, 12, 13, 14, 15, 16, 17, 18, 19, 20, 21, 22, 23, 24, 25, 26, 27, 28, 29, 30, 31, 32, 33, 34, 35, 36, 37, 38, 39] (by rfl) (by decide +kernel)
set_option maxRecDepth 20000 in
theorem gX11_anew_X11_isCity : GoodIn wsX11_anew (wsV RX11 209 RX11 yX11_isCity wsX11_isCity) := goodIn_app (goodIn_r _ [3, 4, 5, 6] (by rfl) (by decide +kernel)) ggX11_anew_X11_isCity
theorem dX11_anew_6 : decode cX11_anew 6 = .ok (.invokevirtual 209, 3) := by decide +kernel
theorem dX11_anew_9 : decode cX11_anew 9 = .ok (.ifCond .ne 6, 3) := by decide +kernel
theorem dX11_anew_15 : decode cX11_anew 15 = .ok (.aload_n 0, 1) := by decide +kernel
theorem dX11_anew_16 : decode cX11_anew 16 = .ok (.getfield 34, 3) := by decide +kernel
theorem dX11_anew_19 : decode cX11_anew 19 = .ok (.iconst 2, 1) := by decide +kernel
theorem dX11_anew_20 : decode cX11_anew 20 = .ok (.iaload, 1) := by decide +kernel
theorem dX11_anew_21 : decode cX11_anew 21 = .ok (.istore_n 1, 1) := by decide +kernel
theorem dX11_anew_22 : decode cX11_anew 22 = .ok (.aload_n 0, 1) := by decide +kernel
theorem dX11_anew_23 : decode cX11_anew 23 = .ok (.getfield 34, 3) := by decide +kernel
theorem dX11_anew_26 : decode cX11_anew 26 = .ok (.iconst 2, 1) := by decide +kernel
theorem dX11_anew_27 : decode cX11_anew 27 = .ok (.iconst 0, 1) := by decide +kernel
theorem dX11_anew_28 : decode cX11_anew 28 = .ok (.iastore, 1) := by decide +kernel
theorem dX11_anew_29 : decode cX11_anew 29 = .ok (.iload_n 1, 1) := by decide +kernel
theorem dX11_anew_30 : decode cX11_anew 30 = .ok (.ireturn, 1) := by decide +kernel
theorem dX11_anew_12 : decode cX11_anew 12 = .ok (.bipush (-2), 2) := by decide +kernel
theorem dX11_anew_14 : decode cX11_anew 14 = .ok (.ireturn, 1) := by decide +kernel
theorem dX11_now_0 : decode cX11_now 0 = .ok (.aload_n 0, 1) := by decide +kernel
theorem dX11_now_1 : decode cX11_now 1 = .ok (.iconst 0, 1) := by decide +kernel
theorem dX11_now_2 : decode cX11_now 2 = .ok (.putfield 59, 3) := by decide +kernel
theorem dX11_now_5 : decode cX11_now 5 = .ok (.aload_n 0, 1) := by decide +kernel
set_option maxRecDepth 20000 in
theorem ggX11_now_X11_isCity : GoodIn wsX11_now wsX11_isCity := goodIn_r _ [11, 12, 53, 54, 55, 56, 57, 58, 59, 60, 61, 62, 63, 64, 65, 66, 67, 68, 69, 70, 71, 72, 73, 74, 75, 76, 77, 78, 79, 80, 81, 82, 83] (by rfl) (by decide +kernel)
set_option maxRecDepth 20000 in
theorem gX11_now_X11_isCity : GoodIn wsX11_now (wsV RX11 209 RX11 yX11_isCity wsX11_isCity) := goodIn_app (goodIn_r _ [7, 8, 9, 10] (by rfl) (by decide +kernel)) ggX11_now_X11_isCity
theorem dX11_now_6 : decode cX11_now 6 = .ok (.invokevirtual 209, 3) := by decide +kernel
theorem dX11_now_9 : decode cX11_now 9 = .ok (.ifCond .eq 15, 3) := by decide +kernel
theorem dX11_now_24 : decode cX11_now 24 = .ok (.bipush (-2), 2) := by decide +kernel
theorem dX11_now_26 : decode cX11_now 26 = .ok (.ireturn, 1) := by decide +kernel
theorem dX11_now_12 : decode cX11_now 12 = .ok (.iload_n 1, 1) := by decide +kernel
theorem dX11_now_13 : decode cX11_now 13 = .ok (.i2l, 1) := by decide +kernel
theorem dX11_now_14 : decode cX11_now 14 = .ok (.lconst 0, 1) := by decide +kernel
theorem dX11_now_15 : decode cX11_now 15 = .ok (.ldc2_w 62, 3) := by decide +kernel
set_option maxRecDepth 20000 in
theorem ggX11_now_X11_in : GoodIn wsX11_now wsX11_in := goodIn_r _ [15] (by rfl) (by decide +kernel)
set_option maxRecDepth 20000 in
theorem gX11_now_X11_in : GoodIn wsX11_now (va_wsS RX11 64 yX11_in wsX11_in) := goodIn_app (goodIn_r _ [13, 14, 10] (by rfl) (by decide +kernel)) ggX11_now_X11_in
theorem dX11_now_18 : decode cX11_now 18 = .ok (.invokestatic 64, 3) := by decide +kernel
theorem dX11_now_21 : decode cX11_now 21 = .ok (.ifCond .ne 6, 3) := by decide +kernel
theorem dX11_now_27 : decode cX11_now 27 = .ok (.aload_n 0, 1) := by decide +kernel
set_option maxRecDepth 20000 in
theorem ggX11_now_X11_laysNow : GoodIn wsX11_now wsX11_laysNow := goodIn_r _ [19, 20, 21, 22, 23, 24, 10, 25, 26, 27, 28, 4, 5, 3, 6, 29, 30, 31, 32, 33, 34, 35, 36, 37, 38, 39, 40, 41, 42, 43, 44, 45, 46, 47, 48, 49, 50, 51, 52, 53, 54, 55, 56, 57, 58, 59, 60, 61, 62, 63, 64, 65, 66, 67, 68, 69, 70, 71, 72, 73, 74, 75, 76, 77, 78, 79, 80, 81, 82, 83] (by rfl) (by decide +kernel)
set_option maxRecDepth 20000 in
theorem gX11_now_X11_laysNow : GoodIn wsX11_now (wsV RX11 251 RX11 yX11_laysNow wsX11_laysNow) := goodIn_app (goodIn_r _ [16, 17, 18, 10] (by rfl) (by decide +kernel)) ggX11_now_X11_laysNow
theorem dX11_now_28 : decode cX11_now 28 = .ok (.invokevirtual 251, 3) := by decide +kernel
theorem dX11_now_31 : decode cX11_now 31 = .ok (.iload_n 1, 1) := by decide +kernel
theorem dX11_now_32 : decode cX11_now 32 = .ok (.ifCond .ne 10, 3) := by decide +kernel
theorem dX11_now_42 : decode cX11_now 42 = .ok (.iload_n 1, 1) := by decide +kernel
theorem dX11_now_43 : decode cX11_now 43 = .ok (.iconst 1, 1) := by decide +kernel
theorem dX11_now_44 : decode cX11_now 44 = .ok (.if_icmp .ne 10, 3) := by decide +kernel
theorem dX11_now_54 : decode cX11_now 54 = .ok (.iload_n 1, 1) := by decide +kernel
theorem dX11_now_55 : decode cX11_now 55 = .ok (.iconst 2, 1) := by decide +kernel
theorem dX11_now_56 : decode cX11_now 56 = .ok (.if_icmp .ne 10, 3) := by decide +kernel
theorem dX11_now_66 : decode cX11_now 66 = .ok (.aload_n 0, 1) := by decide +kernel
theorem dX11_now_67 : decode cX11_now 67 = .ok (.getfield 226, 3) := by decide +kernel
theorem dX11_now_70 : decode cX11_now 70 = .ok (.ireturn, 1) := by decide +kernel
theorem dX11_now_59 : decode cX11_now 59 = .ok (.aload_n 0, 1) := by decide +kernel
theorem dX11_now_60 : decode cX11_now 60 = .ok (.getfield 220, 3) := by decide +kernel
theorem dX11_now_63 : decode cX11_now 63 = .ok (.goto 7, 3) := by decide +kernel
theorem dX11_now_47 : decode cX11_now 47 = .ok (.aload_n 0, 1) := by decide +kernel
theorem dX11_now_48 : decode cX11_now 48 = .ok (.getfield 217, 3) := by decide +kernel
theorem dX11_now_51 : decode cX11_now 51 = .ok (.goto 19, 3) := by decide +kernel
theorem dX11_now_35 : decode cX11_now 35 = .ok (.aload_n 0, 1) := by decide +kernel
theorem dX11_now_36 : decode cX11_now 36 = .ok (.getfield 223, 3) := by decide +kernel
theorem dX11_now_39 : decode cX11_now 39 = .ok (.goto 31, 3) := by decide +kernel
theorem dX11_areEven_0 : decode cX11_areEven 0 = .ok (.iconst 0, 1) := by decide +kernel
theorem dX11_areEven_1 : decode cX11_areEven 1 = .ok (.istore_n 1, 1) := by decide +kernel
theorem dX11_areEven_2 : decode cX11_areEven 2 = .ok (.iload_n 1, 1) := by decide +kernel
theorem dX11_areEven_3 : decode cX11_areEven 3 = .ok (.aload_n 0, 1) := by decide +kernel
theorem dX11_areEven_4 : decode cX11_areEven 4 = .ok (.getfield 34, 3) := by decide +kernel
theorem dX11_areEven_7 : decode cX11_areEven 7 = .ok (.iconst 1, 1) := by decide +kernel
theorem dX11_areEven_8 : decode cX11_areEven 8 = .ok (.iaload, 1) := by decide +kernel
theorem dX11_areEven_9 : decode cX11_areEven 9 = .ok (.if_icmp .ge 23, 3) := by decide +kernel
theorem dX11_areEven_32 : decode cX11_areEven 32 = .ok (.iconst 1, 1) := by decide +kernel
theorem dX11_areEven_33 : decode cX11_areEven 33 = .ok (.ireturn, 1) := by decide +kernel
theorem dX11_areEven_12 : decode cX11_areEven 12 = .ok (.aload_n 0, 1) := by decide +kernel
theorem dX11_areEven_13 : decode cX11_areEven 13 = .ok (.iload_n 1, 1) := by decide +kernel
set_option maxRecDepth 20000 in
theorem ggX11_areEven_X11_handOf : GoodIn wsX11_areEven wsX11_handOf := goodIn_r _ [6, 1, 7, 11, 12, 13, 14, 15, 16, 17, 18, 19, 20, 21, 22, 23, 24, 25, 26, 27, 28, 29, 30, 31, 32, 33, 34, 35, 36, 37, 38, 39, 40, 41] (by rfl) (by decide +kernel)
set_option maxRecDepth 20000 in
theorem gX11_areEven_X11_handOf : GoodIn wsX11_areEven (wsV RX11 254 RX11 yX11_handOf wsX11_handOf) := goodIn_app (goodIn_r _ [2, 3, 4, 5] (by rfl) (by decide +kernel)) ggX11_areEven_X11_handOf
theorem dX11_areEven_14 : decode cX11_areEven 14 = .ok (.invokevirtual 254, 3) := by decide +kernel
set_option maxRecDepth 20000 in
theorem ggX11_areEven_X11_sizeOf : GoodIn wsX11_areEven wsX11_sizeOf := goodIn_r _ [10] (by rfl) (by decide +kernel)
set_option maxRecDepth 20000 in
theorem gX11_areEven_X11_sizeOf : GoodIn wsX11_areEven (va_wsS RX11 297 yX11_sizeOf wsX11_sizeOf) := goodIn_app (goodIn_r _ [8, 9, 5] (by rfl) (by decide +kernel)) ggX11_areEven_X11_sizeOf
theorem dX11_areEven_17 : decode cX11_areEven 17 = .ok (.invokestatic 297, 3) := by decide +kernel
theorem dX11_areEven_20 : decode cX11_areEven 20 = .ok (.iconst 1, 1) := by decide +kernel
theorem dX11_areEven_21 : decode cX11_areEven 21 = .ok (.if_icmp .eq 5, 3) := by decide +kernel
theorem dX11_areEven_26 : decode cX11_areEven 26 = .ok (.iinc 1 1, 3) := by decide +kernel
theorem dX11_areEven_29 : decode cX11_areEven 29 = .ok (.goto (-27), 3) := by decide +kernel
theorem dX11_areEven_24 : decode cX11_areEven 24 = .ok (.iconst 0, 1) := by decide +kernel
theorem dX11_areEven_25 : decode cX11_areEven 25 = .ok (.ireturn, 1) := by decide +kernel
theorem dX11_own_0 : decode cX11_own 0 = .ok (.aload_n 0, 1) := by decide +kernel
theorem dX11_own_1 : decode cX11_own 1 = .ok (.iconst 0, 1) := by decide +kernel
theorem dX11_own_2 : decode cX11_own 2 = .ok (.putfield 59, 3) := by decide +kernel
theorem dX11_own_5 : decode cX11_own 5 = .ok (.aload_n 0, 1) := by decide +kernel
set_option maxRecDepth 20000 in
theorem ggX11_own_X11_isCity : GoodIn wsX11_own wsX11_isCity := goodIn_r _ [7, 8, 68, 69, 70, 71, 72, 73, 74, 75, 76, 77, 78, 79, 80, 81, 82, 83, 84, 85, 86, 87, 88, 89, 90, 91, 92, 93, 94, 95, 96, 97, 98] (by rfl) (by decide +kernel)
set_option maxRecDepth 20000 in
theorem gX11_own_X11_isCity : GoodIn wsX11_own (wsV RX11 209 RX11 yX11_isCity wsX11_isCity) := goodIn_app (goodIn_r _ [3, 4, 5, 6] (by rfl) (by decide +kernel)) ggX11_own_X11_isCity
theorem dX11_own_6 : decode cX11_own 6 = .ok (.invokevirtual 209, 3) := by decide +kernel
theorem dX11_own_9 : decode cX11_own 9 = .ok (.ifCond .ne 6, 3) := by decide +kernel
theorem dX11_own_15 : decode cX11_own 15 = .ok (.aload_n 0, 1) := by decide +kernel
set_option maxRecDepth 20000 in
theorem ggX11_own_X11_laysNow : GoodIn wsX11_own wsX11_laysNow := goodIn_r _ [12, 2, 13, 14, 15, 16, 6, 17, 18, 19, 20, 21, 22, 23, 24, 25, 26, 27, 28, 29, 30, 31, 32, 33, 34, 35, 36, 37, 38, 39, 40, 41, 42, 43, 44, 45, 46, 47, 48, 68, 69, 70, 71, 72, 73, 74, 75, 76, 77, 78, 79, 80, 81, 82, 83, 84, 85, 86, 87, 88, 89, 90, 91, 92, 93, 94, 95, 96, 97, 98] (by rfl) (by decide +kernel)
set_option maxRecDepth 20000 in
theorem gX11_own_X11_laysNow : GoodIn wsX11_own (wsV RX11 251 RX11 yX11_laysNow wsX11_laysNow) := goodIn_app (goodIn_r _ [9, 10, 11, 6] (by rfl) (by decide +kernel)) ggX11_own_X11_laysNow
theorem dX11_own_16 : decode cX11_own 16 = .ok (.invokevirtual 251, 3) := by decide +kernel
theorem dX11_own_19 : decode cX11_own 19 = .ok (.aload_n 0, 1) := by decide +kernel
set_option maxRecDepth 20000 in
theorem ggX11_own_X11_areEven : GoodIn wsX11_own wsX11_areEven := goodIn_r _ [52, 2, 53, 54, 55, 6, 56, 18, 57, 58, 59, 68, 69, 70, 71, 72, 73, 74, 75, 76, 77, 78, 79, 80, 81, 82, 83, 84, 85, 86, 87, 88, 89, 90, 91, 92, 93, 94, 95, 96, 97, 98] (by rfl) (by decide +kernel)
set_option maxRecDepth 20000 in
theorem gX11_own_X11_areEven : GoodIn wsX11_own (wsV RX11 300 RX11 yX11_areEven wsX11_areEven) := goodIn_app (goodIn_r _ [49, 50, 51, 6] (by rfl) (by decide +kernel)) ggX11_own_X11_areEven
theorem dX11_own_20 : decode cX11_own 20 = .ok (.invokevirtual 300, 3) := by decide +kernel
theorem dX11_own_23 : decode cX11_own 23 = .ok (.ifCond .eq 17, 3) := by decide +kernel
theorem dX11_own_40 : decode cX11_own 40 = .ok (.iconst (-1), 1) := by decide +kernel
theorem dX11_own_41 : decode cX11_own 41 = .ok (.ireturn, 1) := by decide +kernel
theorem dX11_own_26 : decode cX11_own 26 = .ok (.aload_n 0, 1) := by decide +kernel
theorem dX11_own_27 : decode cX11_own 27 = .ok (.getfield 34, 3) := by decide +kernel
theorem dX11_own_30 : decode cX11_own 30 = .ok (.iconst 1, 1) := by decide +kernel
theorem dX11_own_31 : decode cX11_own 31 = .ok (.iaload, 1) := by decide +kernel
theorem dX11_own_32 : decode cX11_own 32 = .ok (.aload_n 0, 1) := by decide +kernel
set_option maxRecDepth 20000 in
theorem ggX11_own_X11_ringsNow : GoodIn wsX11_own wsX11_ringsNow := goodIn_r _ [63, 2, 18, 64, 65, 66, 6, 67, 68, 69, 70, 71, 72, 73, 74, 75, 76, 77, 78, 79, 80, 81, 82, 83, 84, 85, 86, 87, 88, 89, 90, 91, 92, 93, 94, 95, 96, 97, 98] (by rfl) (by decide +kernel)
set_option maxRecDepth 20000 in
theorem gX11_own_X11_ringsNow : GoodIn wsX11_own (wsV RX11 275 RX11 yX11_ringsNow wsX11_ringsNow) := goodIn_app (goodIn_r _ [60, 61, 62, 6] (by rfl) (by decide +kernel)) ggX11_own_X11_ringsNow
theorem dX11_own_33 : decode cX11_own 33 = .ok (.invokevirtual 275, 3) := by decide +kernel
theorem dX11_own_36 : decode cX11_own 36 = .ok (.isub, 1) := by decide +kernel
theorem dX11_own_37 : decode cX11_own 37 = .ok (.goto 4, 3) := by decide +kernel
theorem dX11_own_12 : decode cX11_own 12 = .ok (.bipush (-2), 2) := by decide +kernel
theorem dX11_own_14 : decode cX11_own 14 = .ok (.ireturn, 1) := by decide +kernel
theorem dX11_first_0 : decode cX11_first 0 = .ok (.aload_n 0, 1) := by decide +kernel
theorem dX11_first_1 : decode cX11_first 1 = .ok (.iconst 0, 1) := by decide +kernel
theorem dX11_first_2 : decode cX11_first 2 = .ok (.putfield 59, 3) := by decide +kernel
theorem dX11_first_5 : decode cX11_first 5 = .ok (.aload_n 0, 1) := by decide +kernel
set_option maxRecDepth 20000 in
theorem ggX11_first_X11_isCity : GoodIn wsX11_first wsX11_isCity := goodIn_r _ [7, 8, 67, 68, 69, 70, 71, 72, 73, 74, 75, 76, 77, 78, 79, 80, 81, 82, 83, 84, 85, 86, 87, 88, 89, 90, 91, 92, 93, 94, 95, 96, 97] (by rfl) (by decide +kernel)
set_option maxRecDepth 20000 in
theorem gX11_first_X11_isCity : GoodIn wsX11_first (wsV RX11 209 RX11 yX11_isCity wsX11_isCity) := goodIn_app (goodIn_r _ [3, 4, 5, 6] (by rfl) (by decide +kernel)) ggX11_first_X11_isCity
theorem dX11_first_6 : decode cX11_first 6 = .ok (.invokevirtual 209, 3) := by decide +kernel
theorem dX11_first_9 : decode cX11_first 9 = .ok (.ifCond .eq 13, 3) := by decide +kernel
theorem dX11_first_22 : decode cX11_first 22 = .ok (.bipush (-2), 2) := by decide +kernel
theorem dX11_first_24 : decode cX11_first 24 = .ok (.ireturn, 1) := by decide +kernel
theorem dX11_first_12 : decode cX11_first 12 = .ok (.iload_n 1, 1) := by decide +kernel
theorem dX11_first_13 : decode cX11_first 13 = .ok (.i2l, 1) := by decide +kernel
theorem dX11_first_14 : decode cX11_first 14 = .ok (.lconst 0, 1) := by decide +kernel
theorem dX11_first_15 : decode cX11_first 15 = .ok (.lconst 1, 1) := by decide +kernel
set_option maxRecDepth 20000 in
theorem ggX11_first_X11_in : GoodIn wsX11_first wsX11_in := goodIn_r _ [11] (by rfl) (by decide +kernel)
set_option maxRecDepth 20000 in
theorem gX11_first_X11_in : GoodIn wsX11_first (va_wsS RX11 64 yX11_in wsX11_in) := goodIn_app (goodIn_r _ [9, 10, 6] (by rfl) (by decide +kernel)) ggX11_first_X11_in
theorem dX11_first_16 : decode cX11_first 16 = .ok (.invokestatic 64, 3) := by decide +kernel
theorem dX11_first_19 : decode cX11_first 19 = .ok (.ifCond .ne 6, 3) := by decide +kernel
theorem dX11_first_25 : decode cX11_first 25 = .ok (.aload_n 0, 1) := by decide +kernel
set_option maxRecDepth 20000 in
theorem ggX11_first_X11_laysNow : GoodIn wsX11_first wsX11_laysNow := goodIn_r _ [15, 2, 16, 17, 18, 19, 6, 20, 21, 22, 23, 24, 25, 26, 27, 28, 29, 30, 31, 32, 33, 34, 35, 36, 37, 38, 39, 40, 41, 42, 43, 44, 45, 46, 47, 48, 49, 50, 51, 67, 68, 69, 70, 71, 72, 73, 74, 75, 76, 77, 78, 79, 80, 81, 82, 83, 84, 85, 86, 87, 88, 89, 90, 91, 92, 93, 94, 95, 96, 97] (by rfl) (by decide +kernel)
set_option maxRecDepth 20000 in
theorem gX11_first_X11_laysNow : GoodIn wsX11_first (wsV RX11 251 RX11 yX11_laysNow wsX11_laysNow) := goodIn_app (goodIn_r _ [12, 13, 14, 6] (by rfl) (by decide +kernel)) ggX11_first_X11_laysNow
theorem dX11_first_26 : decode cX11_first 26 = .ok (.invokevirtual 251, 3) := by decide +kernel
theorem dX11_first_29 : decode cX11_first 29 = .ok (.aload_n 0, 1) := by decide +kernel
set_option maxRecDepth 20000 in
theorem ggX11_first_X11_areEven : GoodIn wsX11_first wsX11_areEven := goodIn_r _ [55, 2, 56, 57, 58, 6, 59, 21, 60, 61, 62, 67, 68, 69, 70, 71, 72, 73, 74, 75, 76, 77, 78, 79, 80, 81, 82, 83, 84, 85, 86, 87, 88, 89, 90, 91, 92, 93, 94, 95, 96, 97] (by rfl) (by decide +kernel)
set_option maxRecDepth 20000 in
theorem gX11_first_X11_areEven : GoodIn wsX11_first (wsV RX11 300 RX11 yX11_areEven wsX11_areEven) := goodIn_app (goodIn_r _ [52, 53, 54, 6] (by rfl) (by decide +kernel)) ggX11_first_X11_areEven
theorem dX11_first_30 : decode cX11_first 30 = .ok (.invokevirtual 300, 3) := by decide +kernel
theorem dX11_first_33 : decode cX11_first 33 = .ok (.ifCond .ne 5, 3) := by decide +kernel
theorem dX11_first_38 : decode cX11_first 38 = .ok (.iconst 0, 1) := by decide +kernel
theorem dX11_first_39 : decode cX11_first 39 = .ok (.istore_n 2, 1) := by decide +kernel
theorem dX11_first_40 : decode cX11_first 40 = .ok (.iload_n 2, 1) := by decide +kernel
theorem dX11_first_41 : decode cX11_first 41 = .ok (.aload_n 0, 1) := by decide +kernel
theorem dX11_first_42 : decode cX11_first 42 = .ok (.getfield 34, 3) := by decide +kernel
theorem dX11_first_45 : decode cX11_first 45 = .ok (.iconst 1, 1) := by decide +kernel
theorem dX11_first_46 : decode cX11_first 46 = .ok (.iaload, 1) := by decide +kernel
theorem dX11_first_47 : decode cX11_first 47 = .ok (.if_icmp .ge 49, 3) := by decide +kernel
theorem dX11_first_96 : decode cX11_first 96 = .ok (.iconst (-1), 1) := by decide +kernel
theorem dX11_first_97 : decode cX11_first 97 = .ok (.ireturn, 1) := by decide +kernel
theorem dX11_first_50 : decode cX11_first 50 = .ok (.iload_n 2, 1) := by decide +kernel
theorem dX11_first_51 : decode cX11_first 51 = .ok (.iconst 1, 1) := by decide +kernel
theorem dX11_first_52 : decode cX11_first 52 = .ok (.iadd, 1) := by decide +kernel
theorem dX11_first_53 : decode cX11_first 53 = .ok (.istore_n 3, 1) := by decide +kernel
theorem dX11_first_54 : decode cX11_first 54 = .ok (.iload_n 3, 1) := by decide +kernel
theorem dX11_first_55 : decode cX11_first 55 = .ok (.aload_n 0, 1) := by decide +kernel
theorem dX11_first_56 : decode cX11_first 56 = .ok (.getfield 34, 3) := by decide +kernel
theorem dX11_first_59 : decode cX11_first 59 = .ok (.iconst 1, 1) := by decide +kernel
theorem dX11_first_60 : decode cX11_first 60 = .ok (.iaload, 1) := by decide +kernel
theorem dX11_first_61 : decode cX11_first 61 = .ok (.if_icmp .ge 29, 3) := by decide +kernel
theorem dX11_first_90 : decode cX11_first 90 = .ok (.iinc 2 1, 3) := by decide +kernel
theorem dX11_first_93 : decode cX11_first 93 = .ok (.goto (-53), 3) := by decide +kernel
theorem dX11_first_64 : decode cX11_first 64 = .ok (.aload_n 0, 1) := by decide +kernel
theorem dX11_first_65 : decode cX11_first 65 = .ok (.iload_n 2, 1) := by decide +kernel
theorem dX11_first_66 : decode cX11_first 66 = .ok (.iload_n 3, 1) := by decide +kernel
set_option maxRecDepth 20000 in
theorem ggX11_first_X11_timeOf : GoodIn wsX11_first wsX11_timeOf := goodIn_r _ [66, 21, 28, 29, 30, 6, 31, 32, 67, 68, 69, 70, 71, 72, 73, 74, 75, 76, 77, 78, 79, 80, 81, 82, 83, 84, 85, 86, 87, 88, 89, 90, 91, 92, 93, 94, 95, 96, 97] (by rfl) (by decide +kernel)
set_option maxRecDepth 20000 in
theorem gX11_first_X11_timeOf : GoodIn wsX11_first (wsV RX11 269 RX11 yX11_timeOf wsX11_timeOf) := goodIn_app (goodIn_r _ [63, 64, 65, 6] (by rfl) (by decide +kernel)) ggX11_first_X11_timeOf
theorem dX11_first_67 : decode cX11_first 67 = .ok (.invokevirtual 269, 3) := by decide +kernel
theorem dX11_first_70 : decode cX11_first 70 = .ok (.iconst (-1), 1) := by decide +kernel
theorem dX11_first_71 : decode cX11_first 71 = .ok (.if_icmp .eq 13, 3) := by decide +kernel
theorem dX11_first_84 : decode cX11_first 84 = .ok (.iinc 3 1, 3) := by decide +kernel
theorem dX11_first_87 : decode cX11_first 87 = .ok (.goto (-33), 3) := by decide +kernel
theorem dX11_first_74 : decode cX11_first 74 = .ok (.iload_n 1, 1) := by decide +kernel
theorem dX11_first_75 : decode cX11_first 75 = .ok (.ifCond .ne 7, 3) := by decide +kernel
theorem dX11_first_82 : decode cX11_first 82 = .ok (.iload_n 3, 1) := by decide +kernel
theorem dX11_first_83 : decode cX11_first 83 = .ok (.ireturn, 1) := by decide +kernel
theorem dX11_first_78 : decode cX11_first 78 = .ok (.iload_n 2, 1) := by decide +kernel
theorem dX11_first_79 : decode cX11_first 79 = .ok (.goto 4, 3) := by decide +kernel
theorem dX11_first_36 : decode cX11_first 36 = .ok (.iconst (-1), 1) := by decide +kernel
theorem dX11_first_37 : decode cX11_first 37 = .ok (.ireturn, 1) := by decide +kernel
theorem dX11_mayDo_0 : decode cX11_mayDo 0 = .ok (.aload_n 0, 1) := by decide +kernel
theorem dX11_mayDo_1 : decode cX11_mayDo 1 = .ok (.getfield 47, 3) := by decide +kernel
theorem dX11_mayDo_4 : decode cX11_mayDo 4 = .ok (.iload_n 1, 1) := by decide +kernel
theorem dX11_mayDo_5 : decode cX11_mayDo 5 = .ok (.iaload, 1) := by decide +kernel
theorem dX11_mayDo_6 : decode cX11_mayDo 6 = .ok (.iload_n 2, 1) := by decide +kernel
theorem dX11_mayDo_7 : decode cX11_mayDo 7 = .ok (.if_icmp .ne 25, 3) := by decide +kernel
theorem dX11_mayDo_32 : decode cX11_mayDo 32 = .ok (.iconst 0, 1) := by decide +kernel
theorem dX11_mayDo_33 : decode cX11_mayDo 33 = .ok (.ireturn, 1) := by decide +kernel
theorem dX11_mayDo_10 : decode cX11_mayDo 10 = .ok (.aload_n 0, 1) := by decide +kernel
theorem dX11_mayDo_11 : decode cX11_mayDo 11 = .ok (.getfield 217, 3) := by decide +kernel
theorem dX11_mayDo_14 : decode cX11_mayDo 14 = .ok (.iload_n 1, 1) := by decide +kernel
set_option maxRecDepth 20000 in
theorem ggX11_mayDo_X11_isBit : GoodIn wsX11_mayDo wsX11_isBit := goodIn_r _ [6] (by rfl) (by decide +kernel)
set_option maxRecDepth 20000 in
theorem gX11_mayDo_X11_isBit : GoodIn wsX11_mayDo (va_wsS RX11 239 yX11_isBit wsX11_isBit) := goodIn_app (goodIn_r _ [3, 4, 5] (by rfl) (by decide +kernel)) ggX11_mayDo_X11_isBit
theorem dX11_mayDo_15 : decode cX11_mayDo 15 = .ok (.invokestatic 239, 3) := by decide +kernel
theorem dX11_mayDo_18 : decode cX11_mayDo 18 = .ok (.ifCond .ne 14, 3) := by decide +kernel
theorem dX11_mayDo_21 : decode cX11_mayDo 21 = .ok (.aload_n 0, 1) := by decide +kernel
theorem dX11_mayDo_22 : decode cX11_mayDo 22 = .ok (.iload_n 1, 1) := by decide +kernel
theorem dX11_mayDo_23 : decode cX11_mayDo 23 = .ok (.iconst 1, 1) := by decide +kernel
set_option maxRecDepth 20000 in
theorem ggX11_mayDo_X11_of : GoodIn wsX11_mayDo wsX11_of := goodIn_r _ [10, 11, 12, 13, 14, 15, 16, 17, 18, 19, 20, 21, 22, 23, 24, 25, 26, 27, 28, 29, 30, 31, 32, 33, 34, 35, 36, 37, 38, 39, 40, 41, 42] (by rfl) (by decide +kernel)
set_option maxRecDepth 20000 in
theorem gX11_mayDo_X11_of : GoodIn wsX11_mayDo (wsV RX11 214 RX11 yX11_of wsX11_of) := goodIn_app (goodIn_r _ [7, 8, 9, 5] (by rfl) (by decide +kernel)) ggX11_mayDo_X11_of
theorem dX11_mayDo_24 : decode cX11_mayDo 24 = .ok (.invokevirtual 214, 3) := by decide +kernel
theorem dX11_mayDo_27 : decode cX11_mayDo 27 = .ok (.iload_n 3, 1) := by decide +kernel
theorem dX11_mayDo_28 : decode cX11_mayDo 28 = .ok (.iand, 1) := by decide +kernel
theorem dX11_mayDo_29 : decode cX11_mayDo 29 = .ok (.goto 4, 3) := by decide +kernel
theorem dX11_laysWork_0 : decode cX11_laysWork 0 = .ok (.iconst 0, 1) := by decide +kernel
theorem dX11_laysWork_1 : decode cX11_laysWork 1 = .ok (.istore_n 2, 1) := by decide +kernel
theorem dX11_laysWork_2 : decode cX11_laysWork 2 = .ok (.iload_n 2, 1) := by decide +kernel
theorem dX11_laysWork_3 : decode cX11_laysWork 3 = .ok (.bipush 64, 2) := by decide +kernel
theorem dX11_laysWork_5 : decode cX11_laysWork 5 = .ok (.if_icmp .ge 26, 3) := by decide +kernel
theorem dX11_laysWork_31 : decode cX11_laysWork 31 = .ok (.aload_n 0, 1) := by decide +kernel
theorem dX11_laysWork_32 : decode cX11_laysWork 32 = .ok (.getfield 34, 3) := by decide +kernel
theorem dX11_laysWork_35 : decode cX11_laysWork 35 = .ok (.iconst 1, 1) := by decide +kernel
theorem dX11_laysWork_36 : decode cX11_laysWork 36 = .ok (.iaload, 1) := by decide +kernel
theorem dX11_laysWork_37 : decode cX11_laysWork 37 = .ok (.iconst 1, 1) := by decide +kernel
theorem dX11_laysWork_38 : decode cX11_laysWork 38 = .ok (.isub, 1) := by decide +kernel
theorem dX11_laysWork_39 : decode cX11_laysWork 39 = .ok (.istore_n 2, 1) := by decide +kernel
theorem dX11_laysWork_40 : decode cX11_laysWork 40 = .ok (.iload_n 2, 1) := by decide +kernel
theorem dX11_laysWork_41 : decode cX11_laysWork 41 = .ok (.ifCond .lt 130, 3) := by decide +kernel
theorem dX11_laysWork_171 : decode cX11_laysWork 171 = .ok (.return_, 1) := by decide +kernel
theorem dX11_laysWork_44 : decode cX11_laysWork 44 = .ok (.iconst 0, 1) := by decide +kernel
theorem dX11_laysWork_45 : decode cX11_laysWork 45 = .ok (.istore_n 3, 1) := by decide +kernel
theorem dX11_laysWork_46 : decode cX11_laysWork 46 = .ok (.iload_n 3, 1) := by decide +kernel
theorem dX11_laysWork_47 : decode cX11_laysWork 47 = .ok (.bipush 64, 2) := by decide +kernel
theorem dX11_laysWork_49 : decode cX11_laysWork 49 = .ok (.if_icmp .ge 116, 3) := by decide +kernel
theorem dX11_laysWork_165 : decode cX11_laysWork 165 = .ok (.iinc 2 (-1), 3) := by decide +kernel
theorem dX11_laysWork_168 : decode cX11_laysWork 168 = .ok (.goto (-128), 3) := by decide +kernel
theorem dX11_laysWork_52 : decode cX11_laysWork 52 = .ok (.aload_n 0, 1) := by decide +kernel
theorem dX11_laysWork_53 : decode cX11_laysWork 53 = .ok (.getfield 56, 3) := by decide +kernel
theorem dX11_laysWork_56 : decode cX11_laysWork 56 = .ok (.bipush 64, 2) := by decide +kernel
theorem dX11_laysWork_58 : decode cX11_laysWork 58 = .ok (.iload_n 2, 1) := by decide +kernel
theorem dX11_laysWork_59 : decode cX11_laysWork 59 = .ok (.iconst 1, 1) := by decide +kernel
theorem dX11_laysWork_60 : decode cX11_laysWork 60 = .ok (.iadd, 1) := by decide +kernel
theorem dX11_laysWork_61 : decode cX11_laysWork 61 = .ok (.imul, 1) := by decide +kernel
theorem dX11_laysWork_62 : decode cX11_laysWork 62 = .ok (.iload_n 3, 1) := by decide +kernel
theorem dX11_laysWork_63 : decode cX11_laysWork 63 = .ok (.iadd, 1) := by decide +kernel
theorem dX11_laysWork_64 : decode cX11_laysWork 64 = .ok (.iaload, 1) := by decide +kernel
theorem dX11_laysWork_65 : decode cX11_laysWork 65 = .ok (.istore 4, 2) := by decide +kernel
theorem dX11_laysWork_67 : decode cX11_laysWork 67 = .ok (.aload_n 0, 1) := by decide +kernel
theorem dX11_laysWork_68 : decode cX11_laysWork 68 = .ok (.iload_n 2, 1) := by decide +kernel
theorem dX11_laysWork_69 : decode cX11_laysWork 69 = .ok (.iload_n 1, 1) := by decide +kernel
theorem dX11_laysWork_70 : decode cX11_laysWork 70 = .ok (.iload_n 3, 1) := by decide +kernel
set_option maxRecDepth 20000 in
theorem ggX11_laysWork_X11_mayDo : GoodIn wsX11_laysWork wsX11_mayDo := goodIn_r _ [7, 8, 9, 10, 11, 6, 12, 13, 14, 15, 16, 17, 18, 19, 20, 21, 22, 23, 24, 25, 26, 27, 28, 29, 30, 31, 32, 33, 34, 35, 36, 37, 38, 39, 40, 41, 42, 43, 44, 45, 46, 47, 48] (by rfl) (by decide +kernel)
set_option maxRecDepth 20000 in
theorem gX11_laysWork_X11_mayDo : GoodIn wsX11_laysWork (wsV RX11 303 RX11 yX11_mayDo wsX11_mayDo) := goodIn_app (goodIn_r _ [3, 4, 5, 6] (by rfl) (by decide +kernel)) ggX11_laysWork_X11_mayDo
theorem dX11_laysWork_71 : decode cX11_laysWork 71 = .ok (.invokevirtual 303, 3) := by decide +kernel
theorem dX11_laysWork_74 : decode cX11_laysWork 74 = .ok (.istore 5, 2) := by decide +kernel
theorem dX11_laysWork_76 : decode cX11_laysWork 76 = .ok (.iconst 0, 1) := by decide +kernel
theorem dX11_laysWork_77 : decode cX11_laysWork 77 = .ok (.istore 6, 2) := by decide +kernel
theorem dX11_laysWork_79 : decode cX11_laysWork 79 = .ok (.iload 6, 2) := by decide +kernel
theorem dX11_laysWork_81 : decode cX11_laysWork 81 = .ok (.bipush 6, 2) := by decide +kernel
theorem dX11_laysWork_83 : decode cX11_laysWork 83 = .ok (.if_icmp .ge 63, 3) := by decide +kernel
theorem dX11_laysWork_146 : decode cX11_laysWork 146 = .ok (.aload_n 0, 1) := by decide +kernel
theorem dX11_laysWork_147 : decode cX11_laysWork 147 = .ok (.getfield 56, 3) := by decide +kernel
theorem dX11_laysWork_150 : decode cX11_laysWork 150 = .ok (.bipush 64, 2) := by decide +kernel
theorem dX11_laysWork_152 : decode cX11_laysWork 152 = .ok (.iload_n 2, 1) := by decide +kernel
theorem dX11_laysWork_153 : decode cX11_laysWork 153 = .ok (.imul, 1) := by decide +kernel
theorem dX11_laysWork_154 : decode cX11_laysWork 154 = .ok (.iload_n 3, 1) := by decide +kernel
theorem dX11_laysWork_155 : decode cX11_laysWork 155 = .ok (.iadd, 1) := by decide +kernel
theorem dX11_laysWork_156 : decode cX11_laysWork 156 = .ok (.iload 4, 2) := by decide +kernel
theorem dX11_laysWork_158 : decode cX11_laysWork 158 = .ok (.iastore, 1) := by decide +kernel
theorem dX11_laysWork_159 : decode cX11_laysWork 159 = .ok (.iinc 3 1, 3) := by decide +kernel
theorem dX11_laysWork_162 : decode cX11_laysWork 162 = .ok (.goto (-116), 3) := by decide +kernel
theorem dX11_laysWork_86 : decode cX11_laysWork 86 = .ok (.iload 5, 2) := by decide +kernel
theorem dX11_laysWork_88 : decode cX11_laysWork 88 = .ok (.iload 6, 2) := by decide +kernel
set_option maxRecDepth 20000 in
theorem ggX11_laysWork_X11_isBit : GoodIn wsX11_laysWork wsX11_isBit := goodIn_r _ [12] (by rfl) (by decide +kernel)
set_option maxRecDepth 20000 in
theorem gX11_laysWork_X11_isBit : GoodIn wsX11_laysWork (va_wsS RX11 239 yX11_isBit wsX11_isBit) := goodIn_app (goodIn_r _ [10, 11, 6] (by rfl) (by decide +kernel)) ggX11_laysWork_X11_isBit
theorem dX11_laysWork_90 : decode cX11_laysWork 90 = .ok (.invokestatic 239, 3) := by decide +kernel
theorem dX11_laysWork_122 : decode cX11_laysWork 122 = .ok (.istore 7, 2) := by decide +kernel
theorem dX11_laysWork_124 : decode cX11_laysWork 124 = .ok (.iload 7, 2) := by decide +kernel
theorem dX11_laysWork_126 : decode cX11_laysWork 126 = .ok (.iload 4, 2) := by decide +kernel
theorem dX11_laysWork_138 : decode cX11_laysWork 138 = .ok (.istore 4, 2) := by decide +kernel
theorem dX11_laysWork_140 : decode cX11_laysWork 140 = .ok (.iinc 6 1, 3) := by decide +kernel
theorem dX11_laysWork_143 : decode cX11_laysWork 143 = .ok (.goto (-64), 3) := by decide +kernel
theorem dX11_laysWork_128 : decode cX11_laysWork 128 = .ok (.if_icmp .le 8, 3) := by decide +kernel
theorem dX11_laysWork_136 : decode cX11_laysWork 136 = .ok (.iload 4, 2) := by decide +kernel
theorem dX11_laysWork_131 : decode cX11_laysWork 131 = .ok (.iload 7, 2) := by decide +kernel
theorem dX11_laysWork_133 : decode cX11_laysWork 133 = .ok (.goto 5, 3) := by decide +kernel
theorem dX11_laysWork_93 : decode cX11_laysWork 93 = .ok (.ifCond .eq 28, 3) := by decide +kernel
theorem dX11_laysWork_121 : decode cX11_laysWork 121 = .ok (.iconst 0, 1) := by decide +kernel
theorem dX11_laysWork_96 : decode cX11_laysWork 96 = .ok (.iconst 1, 1) := by decide +kernel
theorem dX11_laysWork_97 : decode cX11_laysWork 97 = .ok (.aload_n 0, 1) := by decide +kernel
theorem dX11_laysWork_98 : decode cX11_laysWork 98 = .ok (.getfield 56, 3) := by decide +kernel
theorem dX11_laysWork_101 : decode cX11_laysWork 101 = .ok (.bipush 64, 2) := by decide +kernel
theorem dX11_laysWork_103 : decode cX11_laysWork 103 = .ok (.iload_n 2, 1) := by decide +kernel
theorem dX11_laysWork_104 : decode cX11_laysWork 104 = .ok (.iconst 1, 1) := by decide +kernel
theorem dX11_laysWork_105 : decode cX11_laysWork 105 = .ok (.iadd, 1) := by decide +kernel
theorem dX11_laysWork_106 : decode cX11_laysWork 106 = .ok (.imul, 1) := by decide +kernel
theorem dX11_laysWork_107 : decode cX11_laysWork 107 = .ok (.iload_n 3, 1) := by decide +kernel
theorem dX11_laysWork_108 : decode cX11_laysWork 108 = .ok (.iconst 1, 1) := by decide +kernel
theorem dX11_laysWork_109 : decode cX11_laysWork 109 = .ok (.iload 6, 2) := by decide +kernel
theorem dX11_laysWork_111 : decode cX11_laysWork 111 = .ok (.ishl, 1) := by decide +kernel
theorem dX11_laysWork_112 : decode cX11_laysWork 112 = .ok (.iconst (-1), 1) := by decide +kernel
theorem dX11_laysWork_113 : decode cX11_laysWork 113 = .ok (.ixor, 1) := by decide +kernel
theorem dX11_laysWork_114 : decode cX11_laysWork 114 = .ok (.iand, 1) := by decide +kernel
theorem dX11_laysWork_115 : decode cX11_laysWork 115 = .ok (.iadd, 1) := by decide +kernel
theorem dX11_laysWork_116 : decode cX11_laysWork 116 = .ok (.iaload, 1) := by decide +kernel
theorem dX11_laysWork_117 : decode cX11_laysWork 117 = .ok (.iadd, 1) := by decide +kernel
theorem dX11_laysWork_118 : decode cX11_laysWork 118 = .ok (.goto 4, 3) := by decide +kernel
theorem dX11_laysWork_8 : decode cX11_laysWork 8 = .ok (.aload_n 0, 1) := by decide +kernel
theorem dX11_laysWork_9 : decode cX11_laysWork 9 = .ok (.getfield 56, 3) := by decide +kernel
theorem dX11_laysWork_12 : decode cX11_laysWork 12 = .ok (.bipush 64, 2) := by decide +kernel
theorem dX11_laysWork_14 : decode cX11_laysWork 14 = .ok (.aload_n 0, 1) := by decide +kernel
theorem dX11_laysWork_15 : decode cX11_laysWork 15 = .ok (.getfield 34, 3) := by decide +kernel
theorem dX11_laysWork_18 : decode cX11_laysWork 18 = .ok (.iconst 1, 1) := by decide +kernel
theorem dX11_laysWork_19 : decode cX11_laysWork 19 = .ok (.iaload, 1) := by decide +kernel
theorem dX11_laysWork_20 : decode cX11_laysWork 20 = .ok (.imul, 1) := by decide +kernel
theorem dX11_laysWork_21 : decode cX11_laysWork 21 = .ok (.iload_n 2, 1) := by decide +kernel
theorem dX11_laysWork_22 : decode cX11_laysWork 22 = .ok (.iadd, 1) := by decide +kernel
theorem dX11_laysWork_23 : decode cX11_laysWork 23 = .ok (.iconst 0, 1) := by decide +kernel
theorem dX11_laysWork_24 : decode cX11_laysWork 24 = .ok (.iastore, 1) := by decide +kernel
theorem dX11_laysWork_25 : decode cX11_laysWork 25 = .ok (.iinc 2 1, 3) := by decide +kernel
theorem dX11_laysWork_28 : decode cX11_laysWork 28 = .ok (.goto (-26), 3) := by decide +kernel
set_option maxHeartbeats 4000000 in
set_option maxRecDepth 100000 in
theorem a_X11_anew (l : Launch) (G : va_G) (ct : Nat → ClassId) (a0 : Nat) (n0_0 : Int32) (a1 : Nat) (a2 : Nat) (a3 : Nat) (a4 : Nat) (a5 : Nat) (n0_6 : Int32) (n0_7 : Int32) (n0_8 : Int32) (n0_9 : Int32) (n0_10 : Int32) (l0_11 : Int64) (n0_12 : Int32) (n0_13 : Int32) (n0_14 : Int32) (n0_15 : Int32) (a6 : Nat) (a7 : Nat) (a8 : Nat) (a9 : Nat) (a10 : Nat) (a11 : Nat) (a12 : Nat) (a13 : Nat) (n0_24 : Int32) (n0_25 : Int32) (n0_26 : Int32) (n0_27 : Int32) (a14 : Nat) (n0_29 : Int32) (n0_30 : Int32) (f6 : Nat → Int32) (f7 : Nat → Int32) (hp_n0_6 : rg 0 900 n0_6) (hp_f7 : hsI f7) : Met l yX11_anew wsX11_anew ({ frames := 1, cells := 0, slots := 0, locals := 20 }) (va_Pc [.ref a0] (wrP G ct [(a0, .inr (11, [.int n0_0, .ref a1, .ref a2, .ref a3, .ref a4, .ref a5, .int n0_6, .int n0_7, .int n0_8, .int n0_9, .int n0_10, .long l0_11, .int n0_12, .int n0_13, .int n0_14, .int n0_15, .ref a6, .ref a7, .ref a8, .ref a9, .ref a10, .ref a11, .ref a12, .ref a13, .int n0_24, .int n0_25, .int n0_26, .int n0_27, .ref a14, .int n0_29, .int n0_30])), (a6, .inl (ct 0, 5, .inl f6)), (a7, .inl (ct 0, 15, .inl f7))])) (va_Qi (fun (r : Int32) (u : SU) => rg (-2) 40 r ∧ hsI (u.2.1 0) ∧ rg 0 0 (u.1 0) ∧ True) (fun u t => va_P G vwCl ((fun u : SU => [(a0, .inr (11, [.int (u.1 0), .ref a1, .ref a2, .ref a3, .ref a4, .ref a5, .int n0_6, .int n0_7, .int n0_8, .int n0_9, .int n0_10, .long l0_11, .int n0_12, .int n0_13, .int n0_14, .int n0_15, .ref a6, .ref a7, .ref a8, .ref a9, .ref a10, .ref a11, .ref a12, .ref a13, .int n0_24, .int n0_25, .int n0_26, .int n0_27, .ref a14, .int n0_29, .int n0_30])), (a6, .inl (ct 0, 5, .inl f6)), (a7, .inl (ct 0, 15, .inl (u.2.1 0)))]) u) t.heap) (aset [(a0, .inr (11, [.int n0_0, .ref a1, .ref a2, .ref a3, .ref a4, .ref a5, .int n0_6, .int n0_7, .int n0_8, .int n0_9, .int n0_10, .long l0_11, .int n0_12, .int n0_13, .int n0_14, .int n0_15, .ref a6, .ref a7, .ref a8, .ref a9, .ref a10, .ref a11, .ref a12, .ref a13, .int n0_24, .int n0_25, .int n0_26, .int n0_27, .ref a14, .int n0_29, .int n0_30])), (a6, .inl (ct 0, 5, .inl f6)), (a7, .inl (ct 0, 15, .inl f7))])) 0 0 (aset [(a0, .inr (11, [.int n0_0, .ref a1, .ref a2, .ref a3, .ref a4, .ref a5, .int n0_6, .int n0_7, .int n0_8, .int n0_9, .int n0_10, .long l0_11, .int n0_12, .int n0_13, .int n0_14, .int n0_15, .ref a6, .ref a7, .ref a8, .ref a9, .ref a10, .ref a11, .ref a12, .ref a13, .int n0_24, .int n0_25, .int n0_26, .int n0_27, .ref a14, .int n0_29, .int n0_30])), (a6, .inl (ct 0, 5, .inl f6)), (a7, .inl (ct 0, 15, .inl f7))]) := by
  refine Met.ofW (cc := cX11_anew) (maxL := 2) (ret := (some .int)) (by decide) rfl ?_
  intro p e s m args below meth c s₁ B hml hv
  obtain ⟨rfl, hP, hK, hD0⟩ := hv
  have hx := B.exec
  have hb := B.bytes
  have hr := B.returns
  have hts := atoms_spec (ws := wsX11_anew) B.pre
  have hown : s.vm.findClass RX11 = some m.cls := findClass_of_methodNamed B.named
  have hlocks := B.notSynchronized
  have hD := hD0.aself
  generalize hAe : aset [(a0, .inr (11, [.int n0_0, .ref a1, .ref a2, .ref a3, .ref a4, .ref a5, .int n0_6, .int n0_7, .int n0_8, .int n0_9, .int n0_10, .long l0_11, .int n0_12, .int n0_13, .int n0_14, .int n0_15, .ref a6, .ref a7, .ref a8, .ref a9, .ref a10, .ref a11, .ref a12, .ref a13, .int n0_24, .int n0_25, .int n0_26, .int n0_27, .ref a14, .int n0_29, .int n0_30])), (a6, .inl (ct 0, 5, .inl f6)), (a7, .inl (ct 0, 15, .inl f7))] = A at hD ⊢
  have hS : va_S A s.heap s.heap [] := va_S.rf
  have hl := lv_entry ([.ref a0]) (n := 2) (Nat.le_of_ble_eq_true rfl)
  rw [lg_entry_eq]
  generalize (lg_sl ([.ref a0]) ++ List.replicate (2 - (lg_sl ([.ref a0])).length) Slot.unset).toArray = ls at hl ⊢
  have hl : lv_has ls 2 [(0, .ref a0)] := hl
  refine lv_aload_n hx hb dX11_anew_0 rfl (lv_at hl 0 rfl) ?_
  refine lv_iconst (v := 0) hx hb dX11_anew_1 (by decide) ?_
  refine va_put (D := G) (ci := 11) (v := .int 0) (ty := .int) (C := RX11) (T := TX11) (N := 31) hx hb hts (by decide +kernel) tyX11 tyX11_ok nmX11 hown hK.1 hP hD hS 0 rfl rfl 0 (by decide) (hts (.fieldLink RX11 59 "CardHolderModel" "thrown" "I") (by decide +kernel)) (fun _ h9 => h9) rfl (by decide +kernel) rfl rfl (Nat.le_of_ble_eq_true rfl) dX11_anew_2 (fun H locs hP hD hS => ?_)
  refine lv_aload_n hx hb dX11_anew_5 rfl (lv_at hl 0 rfl) ?_
  refine ro_calli (va_runV (As := []) (rest := []) ⟨hx, hb, hml, hown, hts⟩ (a_X11_isCity l G ct a0 (0 : Int32) a1 a2 a3 a4 a5 n0_6 n0_7 n0_8 n0_9 n0_10 l0_11 n0_12 n0_13 n0_14 n0_15 a6 a7 a8 a9 a10 a11 a12 a13 n0_24 n0_25 n0_26 n0_27 a14 n0_29 n0_30 f6 hp_n0_6) (cwV 0 hts gX11_anew_X11_isCity rfl rfl rfl (by decide +kernel) ⟨Nat.le_of_ble_eq_true rfl, Nat.le_of_ble_eq_true rfl⟩) (ro_preV 11 0 hK (hP.sub [0, 1] rfl) rfl rfl) rfl rfl hl.1 rfl (lv_room (Nat.le_of_ble_eq_true rfl)) dX11_anew_6 ⟨Nat.zero_le _, Nat.zero_le _⟩) hS hP (fun r6 H locs wr6 hP hS => ?_)
  obtain ⟨p_1, -⟩ := wr6
  refine lv_if_ne (tgt := 15) hx hb dX11_anew_9 (by decide) (fun c9 => ?_) (fun c9 => ?_)
  · have h_2 : rg 1 1 r6 := r_ne_lo_i c9 p_1 (by decide) (by decide)
    refine lv_aload_n hx hb dX11_anew_15 rfl (lv_at hl 0 rfl) ?_
    refine va_get (D := G) (ci := 11) (v := .ref a7) (C := RX11) (T := TX11) (N := 31) hx hb hts (by decide +kernel) hown hK.1 hP 0 rfl rfl 17 (by decide) (hts (.fieldLink RX11 34 "CardHolderModel" "has" "[I") (by decide +kernel)) (fun _ h9 => h9) rfl dX11_anew_16 ?_
    refine lv_iconst (v := 2) hx hb dX11_anew_19 (by decide) ?_
    refine va_iald hx hb hK.1 hP 2 0 rfl rfl (in_lit (by decide)) dX11_anew_20 ?_
    refine lv_topi (fun z20 gz20 => ?_)
    have hz20 : rg 0 40 z20 := by rw [gz20]; exact (hp_f7.2 0)
    refine lv_istore_n (lv' := [(1, .int z20), (0, .ref a0)]) hx hb dX11_anew_21 rfl hl (by decide) rfl (fun ls hl => ?_)
    refine lv_aload_n hx hb dX11_anew_22 rfl (lv_at hl 1 rfl) ?_
    refine va_get (D := G) (ci := 11) (v := .ref a7) (C := RX11) (T := TX11) (N := 31) hx hb hts (by decide +kernel) hown hK.1 hP 0 rfl rfl 17 (by decide) (hts (.fieldLink RX11 34 "CardHolderModel" "has" "[I") (by decide +kernel)) (fun _ h9 => h9) rfl dX11_anew_23 ?_
    refine lv_iconst (v := 2) hx hb dX11_anew_26 (by decide) ?_
    refine lv_iconst (v := 0) hx hb dX11_anew_27 (by decide) ?_
    refine va_iast hx hb hK.1 hP hD hS 2 0 rfl rfl (in_lit (by decide)) dX11_anew_28 (fun H locs hP hD hS => ?_)
    have h_3 : hsI (upd f7 (2 : Int32).toNatClampNeg 0) := hs_u2 (j := 0) hp_f7 rfl (rg_w (c := 0) (d := 40) (rgn 0 (x := 0) (by decide)) (by decide))
    refine lv_iload_n hx hb dX11_anew_29 rfl (lv_at hl 0 rfl) ?_
    exact W.iret (v := z20) hx hb hr (fun t ht hW => ⟨⟨z20, (fun k => ([0] : List Int32).getD k 0, fun k => ([upd f7 (2 : Int32).toNatClampNeg 0] : List (Nat → Int32)).getD k (fun _ => 0), fun k => ([] : List (Nat → Int64)).getD k (fun _ => 0)), rfl, ⟨(rg_w (c := (-2)) (d := 40) hz20 (by decide)), h_3, (rgn 0 (x := 0) (by decide)), trivial⟩, hp_at ht hP⟩, hS.F ht⟩) hS.2.2 dX11_anew_30
  · have h_4 : rg 0 0 r6 := r_eq_l_i (e := 0) (f := 0) c9 p_1 (rgn 0 (x := 0) (by decide)) (by decide)
    refine lv_bipush (v := (-2)) hx hb dX11_anew_12 (by decide) ?_
    exact W.iret (v := (-2)) hx hb hr (fun t ht hW => ⟨⟨(-2), (fun k => ([0] : List Int32).getD k 0, fun k => ([f7] : List (Nat → Int32)).getD k (fun _ => 0), fun k => ([] : List (Nat → Int64)).getD k (fun _ => 0)), rfl, ⟨(rg_w (c := (-2)) (d := 40) (rgn (-2) (x := (-2)) (by decide)) (by decide)), hp_f7, (rgn 0 (x := 0) (by decide)), trivial⟩, hp_at ht hP⟩, hS.F ht⟩) hS.2.2 dX11_anew_14

set_option maxHeartbeats 4000000 in
set_option maxRecDepth 100000 in
theorem a_X11_now (l : Launch) (G : va_G) (ct : Nat → ClassId) (a0 : Nat) (n0_0 : Int32) (a1 : Nat) (a2 : Nat) (a3 : Nat) (a4 : Nat) (a5 : Nat) (n0_6 : Int32) (n0_7 : Int32) (n0_8 : Int32) (n0_9 : Int32) (n0_10 : Int32) (l0_11 : Int64) (n0_12 : Int32) (n0_13 : Int32) (n0_14 : Int32) (n0_15 : Int32) (a6 : Nat) (a7 : Nat) (a8 : Nat) (a9 : Nat) (a10 : Nat) (a11 : Nat) (a12 : Nat) (a13 : Nat) (n0_24 : Int32) (n0_25 : Int32) (n0_26 : Int32) (n0_27 : Int32) (a14 : Nat) (n0_29 : Int32) (n0_30 : Int32) (f6 : Nat → Int32) (f7 : Nat → Int32) (f8 : Nat → Int32) (f9 : Nat → Int32) (f11 : Nat → Int32) (f12 : Nat → Int32) (f13 : Nat → Int32) (p0 : Int32) (hp_n0_6 : rg 0 900 n0_6) (hp_f7 : hsI f7) (hp_f8 : psI f8) (hp_f9 : ar 0 7 f9) (hp_f11 : ar (-1) 7 f11) (hp_f13 : ar (-1) 7 f13) : Met l yX11_now wsX11_now ({ frames := 5, cells := 0, slots := 0, locals := 111 }) (va_Pc [.ref a0, .int p0] (wrP G ct [(a0, .inr (11, [.int n0_0, .ref a1, .ref a2, .ref a3, .ref a4, .ref a5, .int n0_6, .int n0_7, .int n0_8, .int n0_9, .int n0_10, .long l0_11, .int n0_12, .int n0_13, .int n0_14, .int n0_15, .ref a6, .ref a7, .ref a8, .ref a9, .ref a10, .ref a11, .ref a12, .ref a13, .int n0_24, .int n0_25, .int n0_26, .int n0_27, .ref a14, .int n0_29, .int n0_30])), (a6, .inl (ct 0, 5, .inl f6)), (a7, .inl (ct 0, 15, .inl f7)), (a8, .inl (ct 0, 200, .inl f8)), (a9, .inl (ct 0, 1000, .inl f9)), (a11, .inl (ct 0, 8, .inl f11)), (a12, .inl (ct 0, 8, .inl f12)), (a13, .inl (ct 0, 8, .inl f13))])) (va_Qi (fun (r : Int32) (u : SU) => (r = 0 → rg 0 3 p0) ∧ (r = (-1) → rg 0 3 p0) ∧ (¬ r = (-2) → rg 0 3 p0) ∧ ar (-1) 7 (u.2.1 0) ∧ ar (-1) 7 (u.2.1 2) ∧ rg 0 0 (u.1 0) ∧ True) (fun u t => va_P G vwCl ((fun u : SU => [(a0, .inr (11, [.int (u.1 0), .ref a1, .ref a2, .ref a3, .ref a4, .ref a5, .int n0_6, .int n0_7, .int n0_8, .int n0_9, .int n0_10, .long l0_11, .int n0_12, .int n0_13, .int n0_14, .int n0_15, .ref a6, .ref a7, .ref a8, .ref a9, .ref a10, .ref a11, .ref a12, .ref a13, .int (u.1 1), .int (u.1 2), .int (u.1 3), .int (u.1 4), .ref a14, .int n0_29, .int n0_30])), (a6, .inl (ct 0, 5, .inl f6)), (a7, .inl (ct 0, 15, .inl f7)), (a8, .inl (ct 0, 200, .inl f8)), (a9, .inl (ct 0, 1000, .inl f9)), (a11, .inl (ct 0, 8, .inl (u.2.1 0))), (a12, .inl (ct 0, 8, .inl (u.2.1 1))), (a13, .inl (ct 0, 8, .inl (u.2.1 2)))]) u) t.heap) (aset [(a0, .inr (11, [.int n0_0, .ref a1, .ref a2, .ref a3, .ref a4, .ref a5, .int n0_6, .int n0_7, .int n0_8, .int n0_9, .int n0_10, .long l0_11, .int n0_12, .int n0_13, .int n0_14, .int n0_15, .ref a6, .ref a7, .ref a8, .ref a9, .ref a10, .ref a11, .ref a12, .ref a13, .int n0_24, .int n0_25, .int n0_26, .int n0_27, .ref a14, .int n0_29, .int n0_30])), (a6, .inl (ct 0, 5, .inl f6)), (a7, .inl (ct 0, 15, .inl f7)), (a8, .inl (ct 0, 200, .inl f8)), (a9, .inl (ct 0, 1000, .inl f9)), (a11, .inl (ct 0, 8, .inl f11)), (a12, .inl (ct 0, 8, .inl f12)), (a13, .inl (ct 0, 8, .inl f13))])) 0 0 (aset [(a0, .inr (11, [.int n0_0, .ref a1, .ref a2, .ref a3, .ref a4, .ref a5, .int n0_6, .int n0_7, .int n0_8, .int n0_9, .int n0_10, .long l0_11, .int n0_12, .int n0_13, .int n0_14, .int n0_15, .ref a6, .ref a7, .ref a8, .ref a9, .ref a10, .ref a11, .ref a12, .ref a13, .int n0_24, .int n0_25, .int n0_26, .int n0_27, .ref a14, .int n0_29, .int n0_30])), (a6, .inl (ct 0, 5, .inl f6)), (a7, .inl (ct 0, 15, .inl f7)), (a8, .inl (ct 0, 200, .inl f8)), (a9, .inl (ct 0, 1000, .inl f9)), (a11, .inl (ct 0, 8, .inl f11)), (a12, .inl (ct 0, 8, .inl f12)), (a13, .inl (ct 0, 8, .inl f13))]) := by
  refine Met.ofW (cc := cX11_now) (maxL := 2) (ret := (some .int)) (by decide) rfl ?_
  intro p e s m args below meth c s₁ B hml hv
  obtain ⟨rfl, hP, hK, hD0⟩ := hv
  have hx := B.exec
  have hb := B.bytes
  have hr := B.returns
  have hts := atoms_spec (ws := wsX11_now) B.pre
  have hown : s.vm.findClass RX11 = some m.cls := findClass_of_methodNamed B.named
  have hlocks := B.notSynchronized
  have hD := hD0.aself
  generalize hAe : aset [(a0, .inr (11, [.int n0_0, .ref a1, .ref a2, .ref a3, .ref a4, .ref a5, .int n0_6, .int n0_7, .int n0_8, .int n0_9, .int n0_10, .long l0_11, .int n0_12, .int n0_13, .int n0_14, .int n0_15, .ref a6, .ref a7, .ref a8, .ref a9, .ref a10, .ref a11, .ref a12, .ref a13, .int n0_24, .int n0_25, .int n0_26, .int n0_27, .ref a14, .int n0_29, .int n0_30])), (a6, .inl (ct 0, 5, .inl f6)), (a7, .inl (ct 0, 15, .inl f7)), (a8, .inl (ct 0, 200, .inl f8)), (a9, .inl (ct 0, 1000, .inl f9)), (a11, .inl (ct 0, 8, .inl f11)), (a12, .inl (ct 0, 8, .inl f12)), (a13, .inl (ct 0, 8, .inl f13))] = A at hD ⊢
  have hS : va_S A s.heap s.heap [] := va_S.rf
  have hl := lv_entry ([.ref a0, .int p0]) (n := 2) (Nat.le_of_ble_eq_true rfl)
  rw [lg_entry_eq]
  generalize (lg_sl ([.ref a0, .int p0]) ++ List.replicate (2 - (lg_sl ([.ref a0, .int p0])).length) Slot.unset).toArray = ls at hl ⊢
  have hl : lv_has ls 2 [(0, .ref a0), (1, .int p0)] := hl
  refine lv_aload_n hx hb dX11_now_0 rfl (lv_at hl 0 rfl) ?_
  refine lv_iconst (v := 0) hx hb dX11_now_1 (by decide) ?_
  refine va_put (D := G) (ci := 11) (v := .int 0) (ty := .int) (C := RX11) (T := TX11) (N := 31) hx hb hts (by decide +kernel) tyX11 tyX11_ok nmX11 hown hK.1 hP hD hS 0 rfl rfl 0 (by decide) (hts (.fieldLink RX11 59 "CardHolderModel" "thrown" "I") (by decide +kernel)) (fun _ h9 => h9) rfl (by decide +kernel) rfl rfl (Nat.le_of_ble_eq_true rfl) dX11_now_2 (fun H locs hP hD hS => ?_)
  refine lv_aload_n hx hb dX11_now_5 rfl (lv_at hl 0 rfl) ?_
  refine ro_calli (va_runV (As := []) (rest := []) ⟨hx, hb, hml, hown, hts⟩ (a_X11_isCity l G ct a0 (0 : Int32) a1 a2 a3 a4 a5 n0_6 n0_7 n0_8 n0_9 n0_10 l0_11 n0_12 n0_13 n0_14 n0_15 a6 a7 a8 a9 a10 a11 a12 a13 n0_24 n0_25 n0_26 n0_27 a14 n0_29 n0_30 f6 hp_n0_6) (cwV 0 hts gX11_now_X11_isCity rfl rfl rfl (by decide +kernel) ⟨Nat.le_of_ble_eq_true rfl, Nat.le_of_ble_eq_true rfl⟩) (ro_preV 11 0 hK (hP.sub [0, 1] rfl) rfl rfl) rfl rfl hl.1 rfl (lv_room (Nat.le_of_ble_eq_true rfl)) dX11_now_6 ⟨Nat.zero_le _, Nat.zero_le _⟩) hS hP (fun r6 H locs wr6 hP hS => ?_)
  obtain ⟨p_1, -⟩ := wr6
  refine lv_if_eq (tgt := 24) hx hb dX11_now_9 (by decide) (fun c9 => ?_) (fun c9 => ?_)
  · have h_2 : rg 0 0 r6 := r_eq_l_i (e := 0) (f := 0) c9 p_1 (rgn 0 (x := 0) (by decide)) (by decide)
    refine lv_bipush (v := (-2)) hx hb dX11_now_24 (by decide) ?_
    exact W.iret (v := (-2)) hx hb hr (fun t ht hW => ⟨⟨(-2), (fun k => ([0, n0_24, n0_25, n0_26, n0_27] : List Int32).getD k 0, fun k => ([f11, f12, f13] : List (Nat → Int32)).getD k (fun _ => 0), fun k => ([] : List (Nat → Int64)).getD k (fun _ => 0)), rfl, ⟨(fun hq => absurd hq (rne (rgn (-2) (x := (-2)) (by decide)) (y := 0) (c := 0) (by decide) (by decide))), (fun hq => absurd hq (rne (rgn (-2) (x := (-2)) (by decide)) (y := (-1)) (c := (-1)) (by decide) (by decide))), (fun hq => absurd (req (rgn (-2) (x := (-2)) (by decide)) (y := (-2)) (by decide)) hq), hp_f11, hp_f13, (rgn 0 (x := 0) (by decide)), trivial⟩, hp_at ht hP⟩, hS.F ht⟩) hS.2.2 dX11_now_26
  · have h_3 : rg 1 1 r6 := r_ne_lo_i c9 p_1 (by decide) (by decide)
    refine lv_iload_n hx hb dX11_now_12 rfl (lv_at hl 1 rfl) ?_
    refine lv_i2l hx hb dX11_now_13 rfl ?_
    refine nl_i2l (rg_t p0) (fun z13 hz13 ez13 => ?_)
    refine lv_lconst (v := 0) hx hb dX11_now_14 (by decide) ?_
    refine lv_ldc2 (own := RX11) (v := 3) hx hb hown (hts (.constantLong RX11 62 (3)) (by decide +kernel)) dX11_now_15 ?_
    refine ro_calli (va_runS (As := [.long z13, .long 0, .long 3]) (rest := []) ⟨hx, hb, hml, hown, hts⟩ (a_X11_in l G ct z13 (0 : Int64) (3 : Int64)) (va_cwS 3 hts gX11_now_X11_in rfl rfl rfl (by decide +kernel) ⟨Nat.le_of_ble_eq_true rfl, Nat.le_of_ble_eq_true rfl⟩) (ro_pre hK (hP.sub [] rfl)) rfl rfl hl.1 rfl (lv_room (Nat.le_of_ble_eq_true rfl)) dX11_now_18 ⟨Nat.zero_le _, Nat.zero_le _⟩) hS hP (fun r18 H locs wr18 hP hS => ?_)
    obtain ⟨p_4, p_5, -⟩ := wr18
    refine lv_if_ne (tgt := 27) hx hb dX11_now_21 (by decide) (fun c21 => ?_) (fun c21 => ?_)
    · have h_6 : rg 1 1 r18 := r_ne_lo_i c21 p_4 (by decide) (by decide)
      have h_7 : rl 0 3 z13 := ((fun hq => in_im (p_5 hq) (rln 0 (x := 0) (by decide)) (rln 3 (x := 3) (by decide))) (rne h_6 (y := 0) (c := 0) (by decide) (by decide)))
      have h_8 : rg 0 3 p0 := bk_li (a := 0) (b := 3) ez13 h_7 (rg_t p0) (by decide)
      refine lv_aload_n hx hb dX11_now_27 rfl (lv_at hl 0 rfl) ?_
      refine wj_callv (wr := [(a6, .inl (ct 0, 5, .inl f6))]) (w1 := (fun u : SU => [(a0, .inr (11, [.int 0, .ref a1, .ref a2, .ref a3, .ref a4, .ref a5, .int n0_6, .int n0_7, .int n0_8, .int n0_9, .int n0_10, .long l0_11, .int n0_12, .int n0_13, .int n0_14, .int n0_15, .ref a6, .ref a7, .ref a8, .ref a9, .ref a10, .ref a11, .ref a12, .ref a13, .int (u.1 0), .int (u.1 1), .int (u.1 2), .int (u.1 3), .ref a14, .int n0_29, .int n0_30])), (a7, .inl (ct 0, 15, .inl f7)), (a8, .inl (ct 0, 200, .inl f8)), (a9, .inl (ct 0, 1000, .inl f9)), (a11, .inl (ct 0, 8, .inl (u.2.1 0))), (a12, .inl (ct 0, 8, .inl (u.2.1 1))), (a13, .inl (ct 0, 8, .inl (u.2.1 2)))])) (va_runV (As := []) (rest := []) ⟨hx, hb, hml, hown, hts⟩ (a_X11_laysNow l G ct a0 (0 : Int32) a1 a2 a3 a4 a5 n0_6 n0_7 n0_8 n0_9 n0_10 l0_11 n0_12 n0_13 n0_14 n0_15 a6 a7 a8 a9 a10 a11 a12 a13 n0_24 n0_25 n0_26 n0_27 a14 n0_29 n0_30 f7 f8 f9 f11 f12 f13 hp_n0_6 hp_f7 hp_f8 hp_f9 hp_f11 hp_f13) (cwV 0 hts gX11_now_X11_laysNow rfl rfl rfl (by decide +kernel) ⟨Nat.le_of_ble_eq_true rfl, Nat.le_of_ble_eq_true rfl⟩) (wr_preV 11 0 hK (hP.sub [0, 2, 3, 4, 5, 6, 7] rfl) (hD.sub [0, 2, 3, 4, 5, 6, 7] (by decide) rfl) rfl rfl) rfl rfl hl.1 rfl (lv_room (Nat.le_of_ble_eq_true rfl)) dX11_now_28 ⟨Nat.zero_le _, Nat.zero_le _⟩) hS hP hD [0, 2, 3, 4, 5, 6, 7] [1] rfl rfl (by decide) (fun _ => rfl) (fun ur28 H locs wr28 hP hD hS => ?_)
      have hP : va_P G vwCl [(a0, .inr (11, [.int 0, .ref a1, .ref a2, .ref a3, .ref a4, .ref a5, .int n0_6, .int n0_7, .int n0_8, .int n0_9, .int n0_10, .long l0_11, .int n0_12, .int n0_13, .int n0_14, .int n0_15, .ref a6, .ref a7, .ref a8, .ref a9, .ref a10, .ref a11, .ref a12, .ref a13, .int (ur28.1 0), .int (ur28.1 1), .int (ur28.1 2), .int (ur28.1 3), .ref a14, .int n0_29, .int n0_30])), (a6, .inl (ct 0, 5, .inl f6)), (a7, .inl (ct 0, 15, .inl f7)), (a8, .inl (ct 0, 200, .inl f8)), (a9, .inl (ct 0, 1000, .inl f9)), (a11, .inl (ct 0, 8, .inl (ur28.2.1 0))), (a12, .inl (ct 0, 8, .inl (ur28.2.1 1))), (a13, .inl (ct 0, 8, .inl (ur28.2.1 2)))] H := hP.sub [1, 0, 2, 3, 4, 5, 6, 7] rfl
      have hD : va_D A [(a0, .inr (11, [.int 0, .ref a1, .ref a2, .ref a3, .ref a4, .ref a5, .int n0_6, .int n0_7, .int n0_8, .int n0_9, .int n0_10, .long l0_11, .int n0_12, .int n0_13, .int n0_14, .int n0_15, .ref a6, .ref a7, .ref a8, .ref a9, .ref a10, .ref a11, .ref a12, .ref a13, .int (ur28.1 0), .int (ur28.1 1), .int (ur28.1 2), .int (ur28.1 3), .ref a14, .int n0_29, .int n0_30])), (a6, .inl (ct 0, 5, .inl f6)), (a7, .inl (ct 0, 15, .inl f7)), (a8, .inl (ct 0, 200, .inl f8)), (a9, .inl (ct 0, 1000, .inl f9)), (a11, .inl (ct 0, 8, .inl (ur28.2.1 0))), (a12, .inl (ct 0, 8, .inl (ur28.2.1 1))), (a13, .inl (ct 0, 8, .inl (ur28.2.1 2)))] := hD.sub [1, 0, 2, 3, 4, 5, 6, 7] (by decide) rfl
      obtain ⟨p_9, p_10, -⟩ := wr28
      refine lv_iload_n hx hb dX11_now_31 rfl (lv_at hl 1 rfl) ?_
      refine lv_if_ne (tgt := 42) hx hb dX11_now_32 (by decide) (fun c32 => ?_) (fun c32 => ?_)
      · have h_11 : rg 1 3 p0 := r_ne_lo_i c32 h_8 (by decide) (by decide)
        refine lv_iload_n hx hb dX11_now_42 rfl (lv_at hl 1 rfl) ?_
        refine lv_iconst (v := 1) hx hb dX11_now_43 (by decide) ?_
        refine lv_icmp_ne (tgt := 54) hx hb dX11_now_44 (by decide) (fun c44 => ?_) (fun c44 => ?_)
        · have h_12 : rg 2 3 p0 := r_ne_lo_i c44 h_11 (by decide) (by decide)
          refine lv_iload_n hx hb dX11_now_54 rfl (lv_at hl 1 rfl) ?_
          refine lv_iconst (v := 2) hx hb dX11_now_55 (by decide) ?_
          refine lv_icmp_ne (tgt := 66) hx hb dX11_now_56 (by decide) (fun c56 => ?_) (fun c56 => ?_)
          · have h_13 : rg 3 3 p0 := r_ne_lo_i c56 h_12 (by decide) (by decide)
            refine lv_aload_n hx hb dX11_now_66 rfl (lv_at hl 0 rfl) ?_
            refine va_get (D := G) (ci := 11) (v := .int (ur28.1 3)) (C := RX11) (T := TX11) (N := 31) hx hb hts (by decide +kernel) hown hK.1 hP 0 rfl rfl 27 (by decide) (hts (.fieldLink RX11 226 "CardHolderModel" "done" "I") (by decide +kernel)) (fun _ h9 => h9) rfl dX11_now_67 ?_
            exact W.iret (v := ur28.1 3) hx hb hr (fun t ht hW => ⟨⟨ur28.1 3, (fun k => ([0, ur28.1 0, ur28.1 1, ur28.1 2, ur28.1 3] : List Int32).getD k 0, fun k => ([ur28.2.1 0, ur28.2.1 1, ur28.2.1 2] : List (Nat → Int32)).getD k (fun _ => 0), fun k => ([] : List (Nat → Int64)).getD k (fun _ => 0)), rfl, ⟨(fun _ => (rg_w (c := 0) (d := 3) h_13 (by decide))), (fun _ => (rg_w (c := 0) (d := 3) h_13 (by decide))), (fun _ => (rg_w (c := 0) (d := 3) h_13 (by decide))), p_9, p_10, (rgn 0 (x := 0) (by decide)), trivial⟩, hp_at ht hP⟩, hS.F ht⟩) hS.2.2 dX11_now_70
          · have h_14 : rg 2 2 p0 := r_eq_l_i (e := 2) (f := 2) c56 h_12 (rgn 2 (x := 2) (by decide)) (by decide)
            refine lv_aload_n hx hb dX11_now_59 rfl (lv_at hl 0 rfl) ?_
            refine va_get (D := G) (ci := 11) (v := .int (ur28.1 1)) (C := RX11) (T := TX11) (N := 31) hx hb hts (by decide +kernel) hown hK.1 hP 0 rfl rfl 25 (by decide) (hts (.fieldLink RX11 220 "CardHolderModel" "stolen" "I") (by decide +kernel)) (fun _ h9 => h9) rfl dX11_now_60 ?_
            refine lv_goto (tgt := 70) hx hb dX11_now_63 (by decide) ?_
            exact W.iret (v := ur28.1 1) hx hb hr (fun t ht hW => ⟨⟨ur28.1 1, (fun k => ([0, ur28.1 0, ur28.1 1, ur28.1 2, ur28.1 3] : List Int32).getD k 0, fun k => ([ur28.2.1 0, ur28.2.1 1, ur28.2.1 2] : List (Nat → Int32)).getD k (fun _ => 0), fun k => ([] : List (Nat → Int64)).getD k (fun _ => 0)), rfl, ⟨(fun _ => (rg_w (c := 0) (d := 3) h_14 (by decide))), (fun _ => (rg_w (c := 0) (d := 3) h_14 (by decide))), (fun _ => (rg_w (c := 0) (d := 3) h_14 (by decide))), p_9, p_10, (rgn 0 (x := 0) (by decide)), trivial⟩, hp_at ht hP⟩, hS.F ht⟩) hS.2.2 dX11_now_70
        · have h_15 : rg 1 1 p0 := r_eq_l_i (e := 1) (f := 1) c44 h_11 (rgn 1 (x := 1) (by decide)) (by decide)
          refine lv_aload_n hx hb dX11_now_47 rfl (lv_at hl 0 rfl) ?_
          refine va_get (D := G) (ci := 11) (v := .int (ur28.1 0)) (C := RX11) (T := TX11) (N := 31) hx hb hts (by decide +kernel) hown hK.1 hP 0 rfl rfl 24 (by decide) (hts (.fieldLink RX11 217 "CardHolderModel" "asked" "I") (by decide +kernel)) (fun _ h9 => h9) rfl dX11_now_48 ?_
          refine lv_goto (tgt := 70) hx hb dX11_now_51 (by decide) ?_
          exact W.iret (v := ur28.1 0) hx hb hr (fun t ht hW => ⟨⟨ur28.1 0, (fun k => ([0, ur28.1 0, ur28.1 1, ur28.1 2, ur28.1 3] : List Int32).getD k 0, fun k => ([ur28.2.1 0, ur28.2.1 1, ur28.2.1 2] : List (Nat → Int32)).getD k (fun _ => 0), fun k => ([] : List (Nat → Int64)).getD k (fun _ => 0)), rfl, ⟨(fun _ => (rg_w (c := 0) (d := 3) h_15 (by decide))), (fun _ => (rg_w (c := 0) (d := 3) h_15 (by decide))), (fun _ => (rg_w (c := 0) (d := 3) h_15 (by decide))), p_9, p_10, (rgn 0 (x := 0) (by decide)), trivial⟩, hp_at ht hP⟩, hS.F ht⟩) hS.2.2 dX11_now_70
      · have h_16 : rg 0 0 p0 := r_eq_l_i (e := 0) (f := 0) c32 h_8 (rgn 0 (x := 0) (by decide)) (by decide)
        refine lv_aload_n hx hb dX11_now_35 rfl (lv_at hl 0 rfl) ?_
        refine va_get (D := G) (ci := 11) (v := .int (ur28.1 2)) (C := RX11) (T := TX11) (N := 31) hx hb hts (by decide +kernel) hown hK.1 hP 0 rfl rfl 26 (by decide) (hts (.fieldLink RX11 223 "CardHolderModel" "dayNow" "I") (by decide +kernel)) (fun _ h9 => h9) rfl dX11_now_36 ?_
        refine lv_goto (tgt := 70) hx hb dX11_now_39 (by decide) ?_
        exact W.iret (v := ur28.1 2) hx hb hr (fun t ht hW => ⟨⟨ur28.1 2, (fun k => ([0, ur28.1 0, ur28.1 1, ur28.1 2, ur28.1 3] : List Int32).getD k 0, fun k => ([ur28.2.1 0, ur28.2.1 1, ur28.2.1 2] : List (Nat → Int32)).getD k (fun _ => 0), fun k => ([] : List (Nat → Int64)).getD k (fun _ => 0)), rfl, ⟨(fun _ => (rg_w (c := 0) (d := 3) h_16 (by decide))), (fun _ => (rg_w (c := 0) (d := 3) h_16 (by decide))), (fun _ => (rg_w (c := 0) (d := 3) h_16 (by decide))), p_9, p_10, (rgn 0 (x := 0) (by decide)), trivial⟩, hp_at ht hP⟩, hS.F ht⟩) hS.2.2 dX11_now_70
    · have h_17 : rg 0 0 r18 := r_eq_l_i (e := 0) (f := 0) c21 p_4 (rgn 0 (x := 0) (by decide)) (by decide)
      refine lv_bipush (v := (-2)) hx hb dX11_now_24 (by decide) ?_
      exact W.iret (v := (-2)) hx hb hr (fun t ht hW => ⟨⟨(-2), (fun k => ([0, n0_24, n0_25, n0_26, n0_27] : List Int32).getD k 0, fun k => ([f11, f12, f13] : List (Nat → Int32)).getD k (fun _ => 0), fun k => ([] : List (Nat → Int64)).getD k (fun _ => 0)), rfl, ⟨(fun hq => absurd hq (rne (rgn (-2) (x := (-2)) (by decide)) (y := 0) (c := 0) (by decide) (by decide))), (fun hq => absurd hq (rne (rgn (-2) (x := (-2)) (by decide)) (y := (-1)) (c := (-1)) (by decide) (by decide))), (fun hq => absurd (req (rgn (-2) (x := (-2)) (by decide)) (y := (-2)) (by decide)) hq), hp_f11, hp_f13, (rgn 0 (x := 0) (by decide)), trivial⟩, hp_at ht hP⟩, hS.F ht⟩) hS.2.2 dX11_now_26

set_option maxHeartbeats 4000000 in
set_option maxRecDepth 100000 in
theorem a_X11_areEven (l : Launch) (G : va_G) (ct : Nat → ClassId) (a0 : Nat) (n0_0 : Int32) (a1 : Nat) (a2 : Nat) (a3 : Nat) (a4 : Nat) (a5 : Nat) (n0_6 : Int32) (n0_7 : Int32) (n0_8 : Int32) (n0_9 : Int32) (n0_10 : Int32) (l0_11 : Int64) (n0_12 : Int32) (n0_13 : Int32) (n0_14 : Int32) (n0_15 : Int32) (a6 : Nat) (a7 : Nat) (a8 : Nat) (a9 : Nat) (a10 : Nat) (a11 : Nat) (a12 : Nat) (a13 : Nat) (n0_24 : Int32) (n0_25 : Int32) (n0_26 : Int32) (n0_27 : Int32) (a14 : Nat) (n0_29 : Int32) (n0_30 : Int32) (f7 : Nat → Int32) (f11 : Nat → Int32) (hp_n0_6 : rg 0 900 n0_6) (hp_f7 : hsI f7) (hp_f11 : ar (-1) 7 f11) : Met l yX11_areEven wsX11_areEven ({ frames := 1, cells := 0, slots := 0, locals := 23 }) (va_Pc [.ref a0] (roP G ct [(a0, .inr (11, [.int n0_0, .ref a1, .ref a2, .ref a3, .ref a4, .ref a5, .int n0_6, .int n0_7, .int n0_8, .int n0_9, .int n0_10, .long l0_11, .int n0_12, .int n0_13, .int n0_14, .int n0_15, .ref a6, .ref a7, .ref a8, .ref a9, .ref a10, .ref a11, .ref a12, .ref a13, .int n0_24, .int n0_25, .int n0_26, .int n0_27, .ref a14, .int n0_29, .int n0_30])), (a7, .inl (ct 0, 15, .inl f7)), (a11, .inl (ct 0, 8, .inl f11))])) (roQ (fun r => rg 0 1 r ∧ True)) 0 0 no := by
  refine Met.ofW (cc := cX11_areEven) (maxL := 2) (ret := (some .boolean)) (by decide) rfl ?_
  intro p e s m args below meth c s₁ B hml hv
  obtain ⟨rfl, hP, hK⟩ := hv
  have hx := B.exec
  have hb := B.bytes
  have hr := B.returns
  have hts := atoms_spec (ws := wsX11_areEven) B.pre
  have hown : s.vm.findClass RX11 = some m.cls := findClass_of_methodNamed B.named
  have hlocks := B.notSynchronized
  have hS : va_S no s.heap s.heap [] := va_S.rf
  have hl := lv_entry ([.ref a0]) (n := 2) (Nat.le_of_ble_eq_true rfl)
  rw [lg_entry_eq]
  generalize (lg_sl ([.ref a0]) ++ List.replicate (2 - (lg_sl ([.ref a0])).length) Slot.unset).toArray = ls at hl ⊢
  have hl : lv_has ls 2 [(0, .ref a0)] := hl
  refine lv_iconst (v := 0) hx hb dX11_areEven_0 (by decide) ?_
  refine lv_istore_n (lv' := [(1, .int 0), (0, .ref a0)]) hx hb dX11_areEven_1 rfl hl (by decide) rfl (fun ls hl => ?_)
  have j2 : ∀ (n : Nat) (x2_1 : Int32) (H : Heap) (locs : List Loc) (ls : Array Slot), 2147483648 ≤ x2_1.toInt + (n : Int) → rg 0 8 x2_1 → va_P G vwCl [(a0, .inr (11, [.int n0_0, .ref a1, .ref a2, .ref a3, .ref a4, .ref a5, .int n0_6, .int n0_7, .int n0_8, .int n0_9, .int n0_10, .long l0_11, .int n0_12, .int n0_13, .int n0_14, .int n0_15, .ref a6, .ref a7, .ref a8, .ref a9, .ref a10, .ref a11, .ref a12, .ref a13, .int n0_24, .int n0_25, .int n0_26, .int n0_27, .ref a14, .int n0_29, .int n0_30])), (a7, .inl (ct 0, 15, .inl f7)), (a11, .inl (ct 0, 8, .inl f11))] H → va_S no s.heap H locs → lv_has ls 2 [(0, .ref a0), (1, .int x2_1)] → W p l e (headSpec wsX11_areEven ({ frames := 1, cells := 0, slots := 0, locals := 23 })).room s m ([.ref a0] : List Value).toArray below meth c H locs 0 0 (MQ below (roQ (fun r => rg 0 1 r ∧ True)) ([.ref a0] : List Value).toArray s 0 0 no) (F0 m 2 ls []) := by
    intro n
    induction n with
    | zero => intro x2_1 H locs ls hn2 hx2_1 hP hS hl; exact absurd hn2 (by have := Int32.toInt_lt x2_1; have := Int32.le_toInt x2_1; omega)
    | succ n ih2 =>
      intro x2_1 H locs ls hn2 hx2_1 hP hS hl
      refine lv_iload_n hx hb dX11_areEven_2 rfl (lv_at hl 1 rfl) ?_
      refine lv_aload_n hx hb dX11_areEven_3 rfl (lv_at hl 0 rfl) ?_
      refine va_get (D := G) (ci := 11) (v := .ref a7) (C := RX11) (T := TX11) (N := 31) hx hb hts (by decide +kernel) hown hK.1 hP 0 rfl rfl 17 (by decide) (hts (.fieldLink RX11 34 "CardHolderModel" "has" "[I") (by decide +kernel)) (fun _ h9 => h9) rfl dX11_areEven_4 ?_
      refine lv_iconst (v := 1) hx hb dX11_areEven_7 (by decide) ?_
      refine va_iald hx hb hK.1 hP 1 0 rfl rfl (in_lit (by decide)) dX11_areEven_8 ?_
      refine lv_topi (fun z8 gz8 => ?_)
      have hz8 : rg 0 8 z8 := by rw [gz8]; exact (hp_f7.1 0)
      refine lv_icmp_ge (tgt := 32) hx hb dX11_areEven_9 (by decide) (fun c9 => ?_) (fun c9 => ?_)
      · refine lv_iconst (v := 1) hx hb dX11_areEven_32 (by decide) ?_
        exact W.zret (v := 1) (ty := .boolean) hx hb hr (rfl) (fun t ht hW => ⟨⟨1, (), rfl, ⟨(rg_w (c := 0) (d := 1) (rgn 1 (x := 1) (by decide)) (by decide)), trivial⟩, trivial⟩, hS.F ht⟩) hS.2.2 dX11_areEven_33
      · have h_1 : rg 0 7 x2_1 := r_lt_l_i (nle_i c9) hx2_1 hz8 (by decide)
        have h_2 : rg 1 8 z8 := r_lt_r_i (nle_i c9) hx2_1 hz8 (by decide)
        refine lv_aload_n hx hb dX11_areEven_12 rfl (lv_at hl 0 rfl) ?_
        refine lv_iload_n hx hb dX11_areEven_13 rfl (lv_at hl 1 rfl) ?_
        refine ro_calli (va_runV (As := [.int x2_1]) (rest := []) ⟨hx, hb, hml, hown, hts⟩ (a_X11_handOf l G ct a0 n0_0 a1 a2 a3 a4 a5 n0_6 n0_7 n0_8 n0_9 n0_10 l0_11 n0_12 n0_13 n0_14 n0_15 a6 a7 a8 a9 a10 a11 a12 a13 n0_24 n0_25 n0_26 n0_27 a14 n0_29 n0_30 f7 f11 x2_1 hp_n0_6 hp_f7 hp_f11) (cwV 1 hts gX11_areEven_X11_handOf rfl rfl rfl (by decide +kernel) ⟨Nat.le_of_ble_eq_true rfl, Nat.le_of_ble_eq_true rfl⟩) (ro_preV 11 0 hK (hP.sub [0, 1, 2] rfl) rfl rfl) rfl rfl hl.1 rfl (lv_room (Nat.le_of_ble_eq_true rfl)) dX11_areEven_14 ⟨Nat.zero_le _, Nat.zero_le _⟩) hS hP (fun r14 H locs wr14 hP hS => ?_)
        obtain ⟨p_3, p_4, p_5, -⟩ := wr14
        refine ro_calli (va_runS (As := [.int r14]) (rest := []) ⟨hx, hb, hml, hown, hts⟩ (a_X11_sizeOf l G ct r14) (va_cwS 1 hts gX11_areEven_X11_sizeOf rfl rfl rfl (by decide +kernel) ⟨Nat.le_of_ble_eq_true rfl, Nat.le_of_ble_eq_true rfl⟩) (ro_pre hK (hP.sub [] rfl)) rfl rfl hl.1 rfl (lv_room (Nat.le_of_ble_eq_true rfl)) dX11_areEven_17 ⟨Nat.zero_le _, Nat.zero_le _⟩) hS hP (fun r17 H locs wr17 hP hS => ?_)
        refine lv_iconst (v := 1) hx hb dX11_areEven_20 (by decide) ?_
        refine lv_icmp_eq (tgt := 26) hx hb dX11_areEven_21 (by decide) (fun c21 => ?_) (fun c21 => ?_)
        · have h_6 : rg 1 1 r17 := r_eq_l_i (e := 1) (f := 1) c21 (rg_t r17) (rgn 1 (x := 1) (by decide)) (by decide)
          obtain ⟨z26, qz26⟩ : ∃ y : Int32, y = x2_1 + Int32.ofInt 1 := ⟨_, rfl⟩
          obtain ⟨hz26, ez26⟩ := inc_z (e := 1) (f := 8) h_1 qz26 (by decide)
          refine lv_iinc (v := z26) (lv' := [(1, .int z26), (0, .ref a0)]) hx hb dX11_areEven_26 hl (k := 1) rfl (qz26.symm) (by decide) rfl (fun ls hl => ?_)
          refine lv_goto (tgt := 2) hx hb dX11_areEven_29 (by decide) ?_
          exact ih2 z26 _ _ ls (by have q := hn2; have := ez26; omega) (rg_w (c := 0) (d := 8) hz26 (by decide)) hP hS (lv_sub hl [1, 0] rfl)
        · refine lv_iconst (v := 0) hx hb dX11_areEven_24 (by decide) ?_
          exact W.zret (v := 0) (ty := .boolean) hx hb hr (rfl) (fun t ht hW => ⟨⟨0, (), rfl, ⟨(rg_w (c := 0) (d := 1) (rgn 0 (x := 0) (by decide)) (by decide)), trivial⟩, trivial⟩, hS.F ht⟩) hS.2.2 dX11_areEven_25
  exact j2 4294967296 (0 : Int32) _ _ ls (ms_e (0 : Int32)) (rg_w (c := 0) (d := 8) (rgn 0 (x := 0) (by decide)) (by decide)) hP hS (lv_sub hl [1, 0] rfl)

set_option maxHeartbeats 4000000 in
set_option maxRecDepth 100000 in
theorem a_X11_own (l : Launch) (G : va_G) (ct : Nat → ClassId) (a0 : Nat) (n0_0 : Int32) (a1 : Nat) (a2 : Nat) (a3 : Nat) (a4 : Nat) (a5 : Nat) (n0_6 : Int32) (n0_7 : Int32) (n0_8 : Int32) (n0_9 : Int32) (n0_10 : Int32) (l0_11 : Int64) (n0_12 : Int32) (n0_13 : Int32) (n0_14 : Int32) (n0_15 : Int32) (a6 : Nat) (a7 : Nat) (a8 : Nat) (a9 : Nat) (a10 : Nat) (a11 : Nat) (a12 : Nat) (a13 : Nat) (n0_24 : Int32) (n0_25 : Int32) (n0_26 : Int32) (n0_27 : Int32) (a14 : Nat) (n0_29 : Int32) (n0_30 : Int32) (f6 : Nat → Int32) (f7 : Nat → Int32) (f8 : Nat → Int32) (f9 : Nat → Int32) (f11 : Nat → Int32) (f12 : Nat → Int32) (f13 : Nat → Int32) (hp_n0_6 : rg 0 900 n0_6) (hp_f7 : hsI f7) (hp_f8 : psI f8) (hp_f9 : ar 0 7 f9) (hp_f11 : ar (-1) 7 f11) (hp_f13 : ar (-1) 7 f13) : Met l yX11_own wsX11_own ({ frames := 5, cells := 0, slots := 0, locals := 111 }) (va_Pc [.ref a0] (wrP G ct [(a0, .inr (11, [.int n0_0, .ref a1, .ref a2, .ref a3, .ref a4, .ref a5, .int n0_6, .int n0_7, .int n0_8, .int n0_9, .int n0_10, .long l0_11, .int n0_12, .int n0_13, .int n0_14, .int n0_15, .ref a6, .ref a7, .ref a8, .ref a9, .ref a10, .ref a11, .ref a12, .ref a13, .int n0_24, .int n0_25, .int n0_26, .int n0_27, .ref a14, .int n0_29, .int n0_30])), (a6, .inl (ct 0, 5, .inl f6)), (a7, .inl (ct 0, 15, .inl f7)), (a8, .inl (ct 0, 200, .inl f8)), (a9, .inl (ct 0, 1000, .inl f9)), (a11, .inl (ct 0, 8, .inl f11)), (a12, .inl (ct 0, 8, .inl f12)), (a13, .inl (ct 0, 8, .inl f13))])) (va_Qi (fun (r : Int32) (u : SU) => ar (-1) 7 (u.2.1 0) ∧ ar (-1) 7 (u.2.1 2) ∧ rg 0 0 (u.1 0) ∧ True) (fun u t => va_P G vwCl ((fun u : SU => [(a0, .inr (11, [.int (u.1 0), .ref a1, .ref a2, .ref a3, .ref a4, .ref a5, .int n0_6, .int n0_7, .int n0_8, .int n0_9, .int n0_10, .long l0_11, .int n0_12, .int n0_13, .int n0_14, .int n0_15, .ref a6, .ref a7, .ref a8, .ref a9, .ref a10, .ref a11, .ref a12, .ref a13, .int (u.1 1), .int (u.1 2), .int (u.1 3), .int (u.1 4), .ref a14, .int n0_29, .int n0_30])), (a6, .inl (ct 0, 5, .inl f6)), (a7, .inl (ct 0, 15, .inl f7)), (a8, .inl (ct 0, 200, .inl f8)), (a9, .inl (ct 0, 1000, .inl f9)), (a11, .inl (ct 0, 8, .inl (u.2.1 0))), (a12, .inl (ct 0, 8, .inl (u.2.1 1))), (a13, .inl (ct 0, 8, .inl (u.2.1 2)))]) u) t.heap) (aset [(a0, .inr (11, [.int n0_0, .ref a1, .ref a2, .ref a3, .ref a4, .ref a5, .int n0_6, .int n0_7, .int n0_8, .int n0_9, .int n0_10, .long l0_11, .int n0_12, .int n0_13, .int n0_14, .int n0_15, .ref a6, .ref a7, .ref a8, .ref a9, .ref a10, .ref a11, .ref a12, .ref a13, .int n0_24, .int n0_25, .int n0_26, .int n0_27, .ref a14, .int n0_29, .int n0_30])), (a6, .inl (ct 0, 5, .inl f6)), (a7, .inl (ct 0, 15, .inl f7)), (a8, .inl (ct 0, 200, .inl f8)), (a9, .inl (ct 0, 1000, .inl f9)), (a11, .inl (ct 0, 8, .inl f11)), (a12, .inl (ct 0, 8, .inl f12)), (a13, .inl (ct 0, 8, .inl f13))])) 0 0 (aset [(a0, .inr (11, [.int n0_0, .ref a1, .ref a2, .ref a3, .ref a4, .ref a5, .int n0_6, .int n0_7, .int n0_8, .int n0_9, .int n0_10, .long l0_11, .int n0_12, .int n0_13, .int n0_14, .int n0_15, .ref a6, .ref a7, .ref a8, .ref a9, .ref a10, .ref a11, .ref a12, .ref a13, .int n0_24, .int n0_25, .int n0_26, .int n0_27, .ref a14, .int n0_29, .int n0_30])), (a6, .inl (ct 0, 5, .inl f6)), (a7, .inl (ct 0, 15, .inl f7)), (a8, .inl (ct 0, 200, .inl f8)), (a9, .inl (ct 0, 1000, .inl f9)), (a11, .inl (ct 0, 8, .inl f11)), (a12, .inl (ct 0, 8, .inl f12)), (a13, .inl (ct 0, 8, .inl f13))]) := by
  refine Met.ofW (cc := cX11_own) (maxL := 1) (ret := (some .int)) (by decide) rfl ?_
  intro p e s m args below meth c s₁ B hml hv
  obtain ⟨rfl, hP, hK, hD0⟩ := hv
  have hx := B.exec
  have hb := B.bytes
  have hr := B.returns
  have hts := atoms_spec (ws := wsX11_own) B.pre
  have hown : s.vm.findClass RX11 = some m.cls := findClass_of_methodNamed B.named
  have hlocks := B.notSynchronized
  have hD := hD0.aself
  generalize hAe : aset [(a0, .inr (11, [.int n0_0, .ref a1, .ref a2, .ref a3, .ref a4, .ref a5, .int n0_6, .int n0_7, .int n0_8, .int n0_9, .int n0_10, .long l0_11, .int n0_12, .int n0_13, .int n0_14, .int n0_15, .ref a6, .ref a7, .ref a8, .ref a9, .ref a10, .ref a11, .ref a12, .ref a13, .int n0_24, .int n0_25, .int n0_26, .int n0_27, .ref a14, .int n0_29, .int n0_30])), (a6, .inl (ct 0, 5, .inl f6)), (a7, .inl (ct 0, 15, .inl f7)), (a8, .inl (ct 0, 200, .inl f8)), (a9, .inl (ct 0, 1000, .inl f9)), (a11, .inl (ct 0, 8, .inl f11)), (a12, .inl (ct 0, 8, .inl f12)), (a13, .inl (ct 0, 8, .inl f13))] = A at hD ⊢
  have hS : va_S A s.heap s.heap [] := va_S.rf
  have hl := lv_entry ([.ref a0]) (n := 1) (Nat.le_of_ble_eq_true rfl)
  rw [lg_entry_eq]
  generalize (lg_sl ([.ref a0]) ++ List.replicate (1 - (lg_sl ([.ref a0])).length) Slot.unset).toArray = ls at hl ⊢
  have hl : lv_has ls 1 [(0, .ref a0)] := hl
  refine lv_aload_n hx hb dX11_own_0 rfl (lv_at hl 0 rfl) ?_
  refine lv_iconst (v := 0) hx hb dX11_own_1 (by decide) ?_
  refine va_put (D := G) (ci := 11) (v := .int 0) (ty := .int) (C := RX11) (T := TX11) (N := 31) hx hb hts (by decide +kernel) tyX11 tyX11_ok nmX11 hown hK.1 hP hD hS 0 rfl rfl 0 (by decide) (hts (.fieldLink RX11 59 "CardHolderModel" "thrown" "I") (by decide +kernel)) (fun _ h9 => h9) rfl (by decide +kernel) rfl rfl (Nat.le_of_ble_eq_true rfl) dX11_own_2 (fun H locs hP hD hS => ?_)
  refine lv_aload_n hx hb dX11_own_5 rfl (lv_at hl 0 rfl) ?_
  refine ro_calli (va_runV (As := []) (rest := []) ⟨hx, hb, hml, hown, hts⟩ (a_X11_isCity l G ct a0 (0 : Int32) a1 a2 a3 a4 a5 n0_6 n0_7 n0_8 n0_9 n0_10 l0_11 n0_12 n0_13 n0_14 n0_15 a6 a7 a8 a9 a10 a11 a12 a13 n0_24 n0_25 n0_26 n0_27 a14 n0_29 n0_30 f6 hp_n0_6) (cwV 0 hts gX11_own_X11_isCity rfl rfl rfl (by decide +kernel) ⟨Nat.le_of_ble_eq_true rfl, Nat.le_of_ble_eq_true rfl⟩) (ro_preV 11 0 hK (hP.sub [0, 1] rfl) rfl rfl) rfl rfl hl.1 rfl (lv_room (Nat.le_of_ble_eq_true rfl)) dX11_own_6 ⟨Nat.zero_le _, Nat.zero_le _⟩) hS hP (fun r6 H locs wr6 hP hS => ?_)
  obtain ⟨p_1, -⟩ := wr6
  refine lv_if_ne (tgt := 15) hx hb dX11_own_9 (by decide) (fun c9 => ?_) (fun c9 => ?_)
  · have h_2 : rg 1 1 r6 := r_ne_lo_i c9 p_1 (by decide) (by decide)
    refine lv_aload_n hx hb dX11_own_15 rfl (lv_at hl 0 rfl) ?_
    refine wj_callv (wr := [(a6, .inl (ct 0, 5, .inl f6))]) (w1 := (fun u : SU => [(a0, .inr (11, [.int 0, .ref a1, .ref a2, .ref a3, .ref a4, .ref a5, .int n0_6, .int n0_7, .int n0_8, .int n0_9, .int n0_10, .long l0_11, .int n0_12, .int n0_13, .int n0_14, .int n0_15, .ref a6, .ref a7, .ref a8, .ref a9, .ref a10, .ref a11, .ref a12, .ref a13, .int (u.1 0), .int (u.1 1), .int (u.1 2), .int (u.1 3), .ref a14, .int n0_29, .int n0_30])), (a7, .inl (ct 0, 15, .inl f7)), (a8, .inl (ct 0, 200, .inl f8)), (a9, .inl (ct 0, 1000, .inl f9)), (a11, .inl (ct 0, 8, .inl (u.2.1 0))), (a12, .inl (ct 0, 8, .inl (u.2.1 1))), (a13, .inl (ct 0, 8, .inl (u.2.1 2)))])) (va_runV (As := []) (rest := []) ⟨hx, hb, hml, hown, hts⟩ (a_X11_laysNow l G ct a0 (0 : Int32) a1 a2 a3 a4 a5 n0_6 n0_7 n0_8 n0_9 n0_10 l0_11 n0_12 n0_13 n0_14 n0_15 a6 a7 a8 a9 a10 a11 a12 a13 n0_24 n0_25 n0_26 n0_27 a14 n0_29 n0_30 f7 f8 f9 f11 f12 f13 hp_n0_6 hp_f7 hp_f8 hp_f9 hp_f11 hp_f13) (cwV 0 hts gX11_own_X11_laysNow rfl rfl rfl (by decide +kernel) ⟨Nat.le_of_ble_eq_true rfl, Nat.le_of_ble_eq_true rfl⟩) (wr_preV 11 0 hK (hP.sub [0, 2, 3, 4, 5, 6, 7] rfl) (hD.sub [0, 2, 3, 4, 5, 6, 7] (by decide) rfl) rfl rfl) rfl rfl hl.1 rfl (lv_room (Nat.le_of_ble_eq_true rfl)) dX11_own_16 ⟨Nat.zero_le _, Nat.zero_le _⟩) hS hP hD [0, 2, 3, 4, 5, 6, 7] [1] rfl rfl (by decide) (fun _ => rfl) (fun ur16 H locs wr16 hP hD hS => ?_)
    have hP : va_P G vwCl [(a0, .inr (11, [.int 0, .ref a1, .ref a2, .ref a3, .ref a4, .ref a5, .int n0_6, .int n0_7, .int n0_8, .int n0_9, .int n0_10, .long l0_11, .int n0_12, .int n0_13, .int n0_14, .int n0_15, .ref a6, .ref a7, .ref a8, .ref a9, .ref a10, .ref a11, .ref a12, .ref a13, .int (ur16.1 0), .int (ur16.1 1), .int (ur16.1 2), .int (ur16.1 3), .ref a14, .int n0_29, .int n0_30])), (a6, .inl (ct 0, 5, .inl f6)), (a7, .inl (ct 0, 15, .inl f7)), (a8, .inl (ct 0, 200, .inl f8)), (a9, .inl (ct 0, 1000, .inl f9)), (a11, .inl (ct 0, 8, .inl (ur16.2.1 0))), (a12, .inl (ct 0, 8, .inl (ur16.2.1 1))), (a13, .inl (ct 0, 8, .inl (ur16.2.1 2)))] H := hP.sub [1, 0, 2, 3, 4, 5, 6, 7] rfl
    have hD : va_D A [(a0, .inr (11, [.int 0, .ref a1, .ref a2, .ref a3, .ref a4, .ref a5, .int n0_6, .int n0_7, .int n0_8, .int n0_9, .int n0_10, .long l0_11, .int n0_12, .int n0_13, .int n0_14, .int n0_15, .ref a6, .ref a7, .ref a8, .ref a9, .ref a10, .ref a11, .ref a12, .ref a13, .int (ur16.1 0), .int (ur16.1 1), .int (ur16.1 2), .int (ur16.1 3), .ref a14, .int n0_29, .int n0_30])), (a6, .inl (ct 0, 5, .inl f6)), (a7, .inl (ct 0, 15, .inl f7)), (a8, .inl (ct 0, 200, .inl f8)), (a9, .inl (ct 0, 1000, .inl f9)), (a11, .inl (ct 0, 8, .inl (ur16.2.1 0))), (a12, .inl (ct 0, 8, .inl (ur16.2.1 1))), (a13, .inl (ct 0, 8, .inl (ur16.2.1 2)))] := hD.sub [1, 0, 2, 3, 4, 5, 6, 7] (by decide) rfl
    obtain ⟨p_3, p_4, -⟩ := wr16
    refine lv_aload_n hx hb dX11_own_19 rfl (lv_at hl 0 rfl) ?_
    refine ro_calli (va_runV (As := []) (rest := []) ⟨hx, hb, hml, hown, hts⟩ (a_X11_areEven l G ct a0 (0 : Int32) a1 a2 a3 a4 a5 n0_6 n0_7 n0_8 n0_9 n0_10 l0_11 n0_12 n0_13 n0_14 n0_15 a6 a7 a8 a9 a10 a11 a12 a13 (ur16.1 0) (ur16.1 1) (ur16.1 2) (ur16.1 3) a14 n0_29 n0_30 f7 (ur16.2.1 0) hp_n0_6 hp_f7 p_3) (cwV 0 hts gX11_own_X11_areEven rfl rfl rfl (by decide +kernel) ⟨Nat.le_of_ble_eq_true rfl, Nat.le_of_ble_eq_true rfl⟩) (ro_preV 11 0 hK (hP.sub [0, 2, 5] rfl) rfl rfl) rfl rfl hl.1 rfl (lv_room (Nat.le_of_ble_eq_true rfl)) dX11_own_20 ⟨Nat.zero_le _, Nat.zero_le _⟩) hS hP (fun r20 H locs wr20 hP hS => ?_)
    obtain ⟨p_5, -⟩ := wr20
    refine lv_if_eq (tgt := 40) hx hb dX11_own_23 (by decide) (fun c23 => ?_) (fun c23 => ?_)
    · have h_6 : rg 0 0 r20 := r_eq_l_i (e := 0) (f := 0) c23 p_5 (rgn 0 (x := 0) (by decide)) (by decide)
      refine lv_iconst (v := (-1)) hx hb dX11_own_40 (by decide) ?_
      exact W.iret (v := (-1)) hx hb hr (fun t ht hW => ⟨⟨(-1), (fun k => ([0, ur16.1 0, ur16.1 1, ur16.1 2, ur16.1 3] : List Int32).getD k 0, fun k => ([ur16.2.1 0, ur16.2.1 1, ur16.2.1 2] : List (Nat → Int32)).getD k (fun _ => 0), fun k => ([] : List (Nat → Int64)).getD k (fun _ => 0)), rfl, ⟨p_3, p_4, (rgn 0 (x := 0) (by decide)), trivial⟩, hp_at ht hP⟩, hS.F ht⟩) hS.2.2 dX11_own_41
    · have h_7 : rg 1 1 r20 := r_ne_lo_i c23 p_5 (by decide) (by decide)
      refine lv_aload_n hx hb dX11_own_26 rfl (lv_at hl 0 rfl) ?_
      refine va_get (D := G) (ci := 11) (v := .ref a7) (C := RX11) (T := TX11) (N := 31) hx hb hts (by decide +kernel) hown hK.1 hP 0 rfl rfl 17 (by decide) (hts (.fieldLink RX11 34 "CardHolderModel" "has" "[I") (by decide +kernel)) (fun _ h9 => h9) rfl dX11_own_27 ?_
      refine lv_iconst (v := 1) hx hb dX11_own_30 (by decide) ?_
      refine va_iald hx hb hK.1 hP 2 0 rfl rfl (in_lit (by decide)) dX11_own_31 ?_
      refine lv_topi (fun z31 gz31 => ?_)
      have hz31 : rg 0 8 z31 := by rw [gz31]; exact (hp_f7.1 0)
      refine lv_aload_n hx hb dX11_own_32 rfl (lv_at hl 0 rfl) ?_
      refine ro_calli (va_runV (As := []) (rest := [.int z31]) ⟨hx, hb, hml, hown, hts⟩ (a_X11_ringsNow l G ct a0 (0 : Int32) a1 a2 a3 a4 a5 n0_6 n0_7 n0_8 n0_9 n0_10 l0_11 n0_12 n0_13 n0_14 n0_15 a6 a7 a8 a9 a10 a11 a12 a13 (ur16.1 0) (ur16.1 1) (ur16.1 2) (ur16.1 3) a14 n0_29 n0_30 f7 (ur16.2.1 0) hp_n0_6 hp_f7 p_3) (cwV 0 hts gX11_own_X11_ringsNow rfl rfl rfl (by decide +kernel) ⟨Nat.le_of_ble_eq_true rfl, Nat.le_of_ble_eq_true rfl⟩) (ro_preV 11 0 hK (hP.sub [0, 2, 5] rfl) rfl rfl) rfl rfl hl.1 rfl (lv_room (Nat.le_of_ble_eq_true rfl)) dX11_own_33 ⟨Nat.zero_le _, Nat.zero_le _⟩) hS hP (fun r33 H locs wr33 hP hS => ?_)
      refine lv_isub hx hb dX11_own_36 ?_
      refine nm_0 (fun z36 => ?_)
      refine lv_goto (tgt := 41) hx hb dX11_own_37 (by decide) ?_
      exact W.iret (v := z36) hx hb hr (fun t ht hW => ⟨⟨z36, (fun k => ([0, ur16.1 0, ur16.1 1, ur16.1 2, ur16.1 3] : List Int32).getD k 0, fun k => ([ur16.2.1 0, ur16.2.1 1, ur16.2.1 2] : List (Nat → Int32)).getD k (fun _ => 0), fun k => ([] : List (Nat → Int64)).getD k (fun _ => 0)), rfl, ⟨p_3, p_4, (rgn 0 (x := 0) (by decide)), trivial⟩, hp_at ht hP⟩, hS.F ht⟩) hS.2.2 dX11_own_41
  · have h_8 : rg 0 0 r6 := r_eq_l_i (e := 0) (f := 0) c9 p_1 (rgn 0 (x := 0) (by decide)) (by decide)
    refine lv_bipush (v := (-2)) hx hb dX11_own_12 (by decide) ?_
    exact W.iret (v := (-2)) hx hb hr (fun t ht hW => ⟨⟨(-2), (fun k => ([0, n0_24, n0_25, n0_26, n0_27] : List Int32).getD k 0, fun k => ([f11, f12, f13] : List (Nat → Int32)).getD k (fun _ => 0), fun k => ([] : List (Nat → Int64)).getD k (fun _ => 0)), rfl, ⟨hp_f11, hp_f13, (rgn 0 (x := 0) (by decide)), trivial⟩, hp_at ht hP⟩, hS.F ht⟩) hS.2.2 dX11_own_14

set_option maxHeartbeats 4000000 in
set_option maxRecDepth 100000 in
theorem a_X11_first (l : Launch) (G : va_G) (ct : Nat → ClassId) (a0 : Nat) (n0_0 : Int32) (a1 : Nat) (a2 : Nat) (a3 : Nat) (a4 : Nat) (a5 : Nat) (n0_6 : Int32) (n0_7 : Int32) (n0_8 : Int32) (n0_9 : Int32) (n0_10 : Int32) (l0_11 : Int64) (n0_12 : Int32) (n0_13 : Int32) (n0_14 : Int32) (n0_15 : Int32) (a6 : Nat) (a7 : Nat) (a8 : Nat) (a9 : Nat) (a10 : Nat) (a11 : Nat) (a12 : Nat) (a13 : Nat) (n0_24 : Int32) (n0_25 : Int32) (n0_26 : Int32) (n0_27 : Int32) (a14 : Nat) (n0_29 : Int32) (n0_30 : Int32) (f6 : Nat → Int32) (f7 : Nat → Int32) (f8 : Nat → Int32) (f9 : Nat → Int32) (f11 : Nat → Int32) (f12 : Nat → Int32) (f13 : Nat → Int32) (p0 : Int32) (hp_n0_6 : rg 0 900 n0_6) (hp_f7 : hsI f7) (hp_f8 : psI f8) (hp_f9 : ar 0 7 f9) (hp_f11 : ar (-1) 7 f11) (hp_f13 : ar (-1) 7 f13) : Met l yX11_first wsX11_first ({ frames := 5, cells := 0, slots := 0, locals := 111 }) (va_Pc [.ref a0, .int p0] (wrP G ct [(a0, .inr (11, [.int n0_0, .ref a1, .ref a2, .ref a3, .ref a4, .ref a5, .int n0_6, .int n0_7, .int n0_8, .int n0_9, .int n0_10, .long l0_11, .int n0_12, .int n0_13, .int n0_14, .int n0_15, .ref a6, .ref a7, .ref a8, .ref a9, .ref a10, .ref a11, .ref a12, .ref a13, .int n0_24, .int n0_25, .int n0_26, .int n0_27, .ref a14, .int n0_29, .int n0_30])), (a6, .inl (ct 0, 5, .inl f6)), (a7, .inl (ct 0, 15, .inl f7)), (a8, .inl (ct 0, 200, .inl f8)), (a9, .inl (ct 0, 1000, .inl f9)), (a11, .inl (ct 0, 8, .inl f11)), (a12, .inl (ct 0, 8, .inl f12)), (a13, .inl (ct 0, 8, .inl f13))])) (va_Qi (fun (r : Int32) (u : SU) => rg (-2) 7 r ∧ (r = 0 → rg 0 0 p0) ∧ (r = (-1) → rg 0 1 p0) ∧ (¬ r = (-2) → rg 0 1 p0) ∧ ar (-1) 7 (u.2.1 0) ∧ ar (-1) 7 (u.2.1 2) ∧ rg 0 0 (u.1 0) ∧ True) (fun u t => va_P G vwCl ((fun u : SU => [(a0, .inr (11, [.int (u.1 0), .ref a1, .ref a2, .ref a3, .ref a4, .ref a5, .int n0_6, .int n0_7, .int n0_8, .int n0_9, .int n0_10, .long l0_11, .int n0_12, .int n0_13, .int n0_14, .int n0_15, .ref a6, .ref a7, .ref a8, .ref a9, .ref a10, .ref a11, .ref a12, .ref a13, .int (u.1 1), .int (u.1 2), .int (u.1 3), .int (u.1 4), .ref a14, .int n0_29, .int n0_30])), (a6, .inl (ct 0, 5, .inl f6)), (a7, .inl (ct 0, 15, .inl f7)), (a8, .inl (ct 0, 200, .inl f8)), (a9, .inl (ct 0, 1000, .inl f9)), (a11, .inl (ct 0, 8, .inl (u.2.1 0))), (a12, .inl (ct 0, 8, .inl (u.2.1 1))), (a13, .inl (ct 0, 8, .inl (u.2.1 2)))]) u) t.heap) (aset [(a0, .inr (11, [.int n0_0, .ref a1, .ref a2, .ref a3, .ref a4, .ref a5, .int n0_6, .int n0_7, .int n0_8, .int n0_9, .int n0_10, .long l0_11, .int n0_12, .int n0_13, .int n0_14, .int n0_15, .ref a6, .ref a7, .ref a8, .ref a9, .ref a10, .ref a11, .ref a12, .ref a13, .int n0_24, .int n0_25, .int n0_26, .int n0_27, .ref a14, .int n0_29, .int n0_30])), (a6, .inl (ct 0, 5, .inl f6)), (a7, .inl (ct 0, 15, .inl f7)), (a8, .inl (ct 0, 200, .inl f8)), (a9, .inl (ct 0, 1000, .inl f9)), (a11, .inl (ct 0, 8, .inl f11)), (a12, .inl (ct 0, 8, .inl f12)), (a13, .inl (ct 0, 8, .inl f13))])) 0 0 (aset [(a0, .inr (11, [.int n0_0, .ref a1, .ref a2, .ref a3, .ref a4, .ref a5, .int n0_6, .int n0_7, .int n0_8, .int n0_9, .int n0_10, .long l0_11, .int n0_12, .int n0_13, .int n0_14, .int n0_15, .ref a6, .ref a7, .ref a8, .ref a9, .ref a10, .ref a11, .ref a12, .ref a13, .int n0_24, .int n0_25, .int n0_26, .int n0_27, .ref a14, .int n0_29, .int n0_30])), (a6, .inl (ct 0, 5, .inl f6)), (a7, .inl (ct 0, 15, .inl f7)), (a8, .inl (ct 0, 200, .inl f8)), (a9, .inl (ct 0, 1000, .inl f9)), (a11, .inl (ct 0, 8, .inl f11)), (a12, .inl (ct 0, 8, .inl f12)), (a13, .inl (ct 0, 8, .inl f13))]) := by
  refine Met.ofW (cc := cX11_first) (maxL := 4) (ret := (some .int)) (by decide) rfl ?_
  intro p e s m args below meth c s₁ B hml hv
  obtain ⟨rfl, hP, hK, hD0⟩ := hv
  have hx := B.exec
  have hb := B.bytes
  have hr := B.returns
  have hts := atoms_spec (ws := wsX11_first) B.pre
  have hown : s.vm.findClass RX11 = some m.cls := findClass_of_methodNamed B.named
  have hlocks := B.notSynchronized
  have hD := hD0.aself
  generalize hAe : aset [(a0, .inr (11, [.int n0_0, .ref a1, .ref a2, .ref a3, .ref a4, .ref a5, .int n0_6, .int n0_7, .int n0_8, .int n0_9, .int n0_10, .long l0_11, .int n0_12, .int n0_13, .int n0_14, .int n0_15, .ref a6, .ref a7, .ref a8, .ref a9, .ref a10, .ref a11, .ref a12, .ref a13, .int n0_24, .int n0_25, .int n0_26, .int n0_27, .ref a14, .int n0_29, .int n0_30])), (a6, .inl (ct 0, 5, .inl f6)), (a7, .inl (ct 0, 15, .inl f7)), (a8, .inl (ct 0, 200, .inl f8)), (a9, .inl (ct 0, 1000, .inl f9)), (a11, .inl (ct 0, 8, .inl f11)), (a12, .inl (ct 0, 8, .inl f12)), (a13, .inl (ct 0, 8, .inl f13))] = A at hD ⊢
  have hS : va_S A s.heap s.heap [] := va_S.rf
  have hl := lv_entry ([.ref a0, .int p0]) (n := 4) (Nat.le_of_ble_eq_true rfl)
  rw [lg_entry_eq]
  generalize (lg_sl ([.ref a0, .int p0]) ++ List.replicate (4 - (lg_sl ([.ref a0, .int p0])).length) Slot.unset).toArray = ls at hl ⊢
  have hl : lv_has ls 4 [(0, .ref a0), (1, .int p0)] := hl
  refine lv_aload_n hx hb dX11_first_0 rfl (lv_at hl 0 rfl) ?_
  refine lv_iconst (v := 0) hx hb dX11_first_1 (by decide) ?_
  refine va_put (D := G) (ci := 11) (v := .int 0) (ty := .int) (C := RX11) (T := TX11) (N := 31) hx hb hts (by decide +kernel) tyX11 tyX11_ok nmX11 hown hK.1 hP hD hS 0 rfl rfl 0 (by decide) (hts (.fieldLink RX11 59 "CardHolderModel" "thrown" "I") (by decide +kernel)) (fun _ h9 => h9) rfl (by decide +kernel) rfl rfl (Nat.le_of_ble_eq_true rfl) dX11_first_2 (fun H locs hP hD hS => ?_)
  refine lv_aload_n hx hb dX11_first_5 rfl (lv_at hl 0 rfl) ?_
  refine ro_calli (va_runV (As := []) (rest := []) ⟨hx, hb, hml, hown, hts⟩ (a_X11_isCity l G ct a0 (0 : Int32) a1 a2 a3 a4 a5 n0_6 n0_7 n0_8 n0_9 n0_10 l0_11 n0_12 n0_13 n0_14 n0_15 a6 a7 a8 a9 a10 a11 a12 a13 n0_24 n0_25 n0_26 n0_27 a14 n0_29 n0_30 f6 hp_n0_6) (cwV 0 hts gX11_first_X11_isCity rfl rfl rfl (by decide +kernel) ⟨Nat.le_of_ble_eq_true rfl, Nat.le_of_ble_eq_true rfl⟩) (ro_preV 11 0 hK (hP.sub [0, 1] rfl) rfl rfl) rfl rfl hl.1 rfl (lv_room (Nat.le_of_ble_eq_true rfl)) dX11_first_6 ⟨Nat.zero_le _, Nat.zero_le _⟩) hS hP (fun r6 H locs wr6 hP hS => ?_)
  obtain ⟨p_1, -⟩ := wr6
  refine lv_if_eq (tgt := 22) hx hb dX11_first_9 (by decide) (fun c9 => ?_) (fun c9 => ?_)
  · have h_2 : rg 0 0 r6 := r_eq_l_i (e := 0) (f := 0) c9 p_1 (rgn 0 (x := 0) (by decide)) (by decide)
    refine lv_bipush (v := (-2)) hx hb dX11_first_22 (by decide) ?_
    exact W.iret (v := (-2)) hx hb hr (fun t ht hW => ⟨⟨(-2), (fun k => ([0, n0_24, n0_25, n0_26, n0_27] : List Int32).getD k 0, fun k => ([f11, f12, f13] : List (Nat → Int32)).getD k (fun _ => 0), fun k => ([] : List (Nat → Int64)).getD k (fun _ => 0)), rfl, ⟨(rg_w (c := (-2)) (d := 7) (rgn (-2) (x := (-2)) (by decide)) (by decide)), (fun hq => absurd hq (rne (rgn (-2) (x := (-2)) (by decide)) (y := 0) (c := 0) (by decide) (by decide))), (fun hq => absurd hq (rne (rgn (-2) (x := (-2)) (by decide)) (y := (-1)) (c := (-1)) (by decide) (by decide))), (fun hq => absurd (req (rgn (-2) (x := (-2)) (by decide)) (y := (-2)) (by decide)) hq), hp_f11, hp_f13, (rgn 0 (x := 0) (by decide)), trivial⟩, hp_at ht hP⟩, hS.F ht⟩) hS.2.2 dX11_first_24
  · have h_3 : rg 1 1 r6 := r_ne_lo_i c9 p_1 (by decide) (by decide)
    refine lv_iload_n hx hb dX11_first_12 rfl (lv_at hl 1 rfl) ?_
    refine lv_i2l hx hb dX11_first_13 rfl ?_
    refine nl_i2l (rg_t p0) (fun z13 hz13 ez13 => ?_)
    refine lv_lconst (v := 0) hx hb dX11_first_14 (by decide) ?_
    refine lv_lconst (v := 1) hx hb dX11_first_15 (by decide) ?_
    refine ro_calli (va_runS (As := [.long z13, .long 0, .long 1]) (rest := []) ⟨hx, hb, hml, hown, hts⟩ (a_X11_in l G ct z13 (0 : Int64) (1 : Int64)) (va_cwS 3 hts gX11_first_X11_in rfl rfl rfl (by decide +kernel) ⟨Nat.le_of_ble_eq_true rfl, Nat.le_of_ble_eq_true rfl⟩) (ro_pre hK (hP.sub [] rfl)) rfl rfl hl.1 rfl (lv_room (Nat.le_of_ble_eq_true rfl)) dX11_first_16 ⟨Nat.zero_le _, Nat.zero_le _⟩) hS hP (fun r16 H locs wr16 hP hS => ?_)
    obtain ⟨p_4, p_5, -⟩ := wr16
    refine lv_if_ne (tgt := 25) hx hb dX11_first_19 (by decide) (fun c19 => ?_) (fun c19 => ?_)
    · have h_6 : rg 1 1 r16 := r_ne_lo_i c19 p_4 (by decide) (by decide)
      have h_7 : rl 0 1 z13 := ((fun hq => in_im (p_5 hq) (rln 0 (x := 0) (by decide)) (rln 1 (x := 1) (by decide))) (rne h_6 (y := 0) (c := 0) (by decide) (by decide)))
      have h_8 : rg 0 1 p0 := bk_li (a := 0) (b := 1) ez13 h_7 (rg_t p0) (by decide)
      refine lv_aload_n hx hb dX11_first_25 rfl (lv_at hl 0 rfl) ?_
      refine wj_callv (wr := [(a6, .inl (ct 0, 5, .inl f6))]) (w1 := (fun u : SU => [(a0, .inr (11, [.int 0, .ref a1, .ref a2, .ref a3, .ref a4, .ref a5, .int n0_6, .int n0_7, .int n0_8, .int n0_9, .int n0_10, .long l0_11, .int n0_12, .int n0_13, .int n0_14, .int n0_15, .ref a6, .ref a7, .ref a8, .ref a9, .ref a10, .ref a11, .ref a12, .ref a13, .int (u.1 0), .int (u.1 1), .int (u.1 2), .int (u.1 3), .ref a14, .int n0_29, .int n0_30])), (a7, .inl (ct 0, 15, .inl f7)), (a8, .inl (ct 0, 200, .inl f8)), (a9, .inl (ct 0, 1000, .inl f9)), (a11, .inl (ct 0, 8, .inl (u.2.1 0))), (a12, .inl (ct 0, 8, .inl (u.2.1 1))), (a13, .inl (ct 0, 8, .inl (u.2.1 2)))])) (va_runV (As := []) (rest := []) ⟨hx, hb, hml, hown, hts⟩ (a_X11_laysNow l G ct a0 (0 : Int32) a1 a2 a3 a4 a5 n0_6 n0_7 n0_8 n0_9 n0_10 l0_11 n0_12 n0_13 n0_14 n0_15 a6 a7 a8 a9 a10 a11 a12 a13 n0_24 n0_25 n0_26 n0_27 a14 n0_29 n0_30 f7 f8 f9 f11 f12 f13 hp_n0_6 hp_f7 hp_f8 hp_f9 hp_f11 hp_f13) (cwV 0 hts gX11_first_X11_laysNow rfl rfl rfl (by decide +kernel) ⟨Nat.le_of_ble_eq_true rfl, Nat.le_of_ble_eq_true rfl⟩) (wr_preV 11 0 hK (hP.sub [0, 2, 3, 4, 5, 6, 7] rfl) (hD.sub [0, 2, 3, 4, 5, 6, 7] (by decide) rfl) rfl rfl) rfl rfl hl.1 rfl (lv_room (Nat.le_of_ble_eq_true rfl)) dX11_first_26 ⟨Nat.zero_le _, Nat.zero_le _⟩) hS hP hD [0, 2, 3, 4, 5, 6, 7] [1] rfl rfl (by decide) (fun _ => rfl) (fun ur26 H locs wr26 hP hD hS => ?_)
      have hP : va_P G vwCl [(a0, .inr (11, [.int 0, .ref a1, .ref a2, .ref a3, .ref a4, .ref a5, .int n0_6, .int n0_7, .int n0_8, .int n0_9, .int n0_10, .long l0_11, .int n0_12, .int n0_13, .int n0_14, .int n0_15, .ref a6, .ref a7, .ref a8, .ref a9, .ref a10, .ref a11, .ref a12, .ref a13, .int (ur26.1 0), .int (ur26.1 1), .int (ur26.1 2), .int (ur26.1 3), .ref a14, .int n0_29, .int n0_30])), (a6, .inl (ct 0, 5, .inl f6)), (a7, .inl (ct 0, 15, .inl f7)), (a8, .inl (ct 0, 200, .inl f8)), (a9, .inl (ct 0, 1000, .inl f9)), (a11, .inl (ct 0, 8, .inl (ur26.2.1 0))), (a12, .inl (ct 0, 8, .inl (ur26.2.1 1))), (a13, .inl (ct 0, 8, .inl (ur26.2.1 2)))] H := hP.sub [1, 0, 2, 3, 4, 5, 6, 7] rfl
      have hD : va_D A [(a0, .inr (11, [.int 0, .ref a1, .ref a2, .ref a3, .ref a4, .ref a5, .int n0_6, .int n0_7, .int n0_8, .int n0_9, .int n0_10, .long l0_11, .int n0_12, .int n0_13, .int n0_14, .int n0_15, .ref a6, .ref a7, .ref a8, .ref a9, .ref a10, .ref a11, .ref a12, .ref a13, .int (ur26.1 0), .int (ur26.1 1), .int (ur26.1 2), .int (ur26.1 3), .ref a14, .int n0_29, .int n0_30])), (a6, .inl (ct 0, 5, .inl f6)), (a7, .inl (ct 0, 15, .inl f7)), (a8, .inl (ct 0, 200, .inl f8)), (a9, .inl (ct 0, 1000, .inl f9)), (a11, .inl (ct 0, 8, .inl (ur26.2.1 0))), (a12, .inl (ct 0, 8, .inl (ur26.2.1 1))), (a13, .inl (ct 0, 8, .inl (ur26.2.1 2)))] := hD.sub [1, 0, 2, 3, 4, 5, 6, 7] (by decide) rfl
      obtain ⟨p_9, p_10, -⟩ := wr26
      refine lv_aload_n hx hb dX11_first_29 rfl (lv_at hl 0 rfl) ?_
      refine ro_calli (va_runV (As := []) (rest := []) ⟨hx, hb, hml, hown, hts⟩ (a_X11_areEven l G ct a0 (0 : Int32) a1 a2 a3 a4 a5 n0_6 n0_7 n0_8 n0_9 n0_10 l0_11 n0_12 n0_13 n0_14 n0_15 a6 a7 a8 a9 a10 a11 a12 a13 (ur26.1 0) (ur26.1 1) (ur26.1 2) (ur26.1 3) a14 n0_29 n0_30 f7 (ur26.2.1 0) hp_n0_6 hp_f7 p_9) (cwV 0 hts gX11_first_X11_areEven rfl rfl rfl (by decide +kernel) ⟨Nat.le_of_ble_eq_true rfl, Nat.le_of_ble_eq_true rfl⟩) (ro_preV 11 0 hK (hP.sub [0, 2, 5] rfl) rfl rfl) rfl rfl hl.1 rfl (lv_room (Nat.le_of_ble_eq_true rfl)) dX11_first_30 ⟨Nat.zero_le _, Nat.zero_le _⟩) hS hP (fun r30 H locs wr30 hP hS => ?_)
      obtain ⟨p_11, -⟩ := wr30
      refine lv_if_ne (tgt := 38) hx hb dX11_first_33 (by decide) (fun c33 => ?_) (fun c33 => ?_)
      · have h_12 : rg 1 1 r30 := r_ne_lo_i c33 p_11 (by decide) (by decide)
        refine lv_iconst (v := 0) hx hb dX11_first_38 (by decide) ?_
        refine lv_istore_n (lv' := [(2, .int 0), (0, .ref a0), (1, .int p0)]) hx hb dX11_first_39 rfl hl (by decide) rfl (fun ls hl => ?_)
        have j40 : ∀ (n : Nat) (x40_2 : Int32) (H : Heap) (locs : List Loc) (ls : Array Slot), 2147483648 ≤ x40_2.toInt + (n : Int) → rg 0 8 x40_2 → va_P G vwCl [(a0, .inr (11, [.int 0, .ref a1, .ref a2, .ref a3, .ref a4, .ref a5, .int n0_6, .int n0_7, .int n0_8, .int n0_9, .int n0_10, .long l0_11, .int n0_12, .int n0_13, .int n0_14, .int n0_15, .ref a6, .ref a7, .ref a8, .ref a9, .ref a10, .ref a11, .ref a12, .ref a13, .int (ur26.1 0), .int (ur26.1 1), .int (ur26.1 2), .int (ur26.1 3), .ref a14, .int n0_29, .int n0_30])), (a6, .inl (ct 0, 5, .inl f6)), (a7, .inl (ct 0, 15, .inl f7)), (a8, .inl (ct 0, 200, .inl f8)), (a9, .inl (ct 0, 1000, .inl f9)), (a11, .inl (ct 0, 8, .inl (ur26.2.1 0))), (a12, .inl (ct 0, 8, .inl (ur26.2.1 1))), (a13, .inl (ct 0, 8, .inl (ur26.2.1 2)))] H → va_D A [(a0, .inr (11, [.int 0, .ref a1, .ref a2, .ref a3, .ref a4, .ref a5, .int n0_6, .int n0_7, .int n0_8, .int n0_9, .int n0_10, .long l0_11, .int n0_12, .int n0_13, .int n0_14, .int n0_15, .ref a6, .ref a7, .ref a8, .ref a9, .ref a10, .ref a11, .ref a12, .ref a13, .int (ur26.1 0), .int (ur26.1 1), .int (ur26.1 2), .int (ur26.1 3), .ref a14, .int n0_29, .int n0_30])), (a6, .inl (ct 0, 5, .inl f6)), (a7, .inl (ct 0, 15, .inl f7)), (a8, .inl (ct 0, 200, .inl f8)), (a9, .inl (ct 0, 1000, .inl f9)), (a11, .inl (ct 0, 8, .inl (ur26.2.1 0))), (a12, .inl (ct 0, 8, .inl (ur26.2.1 1))), (a13, .inl (ct 0, 8, .inl (ur26.2.1 2)))] → va_S A s.heap H locs → lv_has ls 4 [(0, .ref a0), (1, .int p0), (2, .int x40_2)] → W p l e (headSpec wsX11_first ({ frames := 5, cells := 0, slots := 0, locals := 111 })).room s m ([.ref a0, .int p0] : List Value).toArray below meth c H locs 0 0 (MQ below (va_Qi (fun (r : Int32) (u : SU) => rg (-2) 7 r ∧ (r = 0 → rg 0 0 p0) ∧ (r = (-1) → rg 0 1 p0) ∧ (¬ r = (-2) → rg 0 1 p0) ∧ ar (-1) 7 (u.2.1 0) ∧ ar (-1) 7 (u.2.1 2) ∧ rg 0 0 (u.1 0) ∧ True) (fun u t => va_P G vwCl ((fun u : SU => [(a0, .inr (11, [.int (u.1 0), .ref a1, .ref a2, .ref a3, .ref a4, .ref a5, .int n0_6, .int n0_7, .int n0_8, .int n0_9, .int n0_10, .long l0_11, .int n0_12, .int n0_13, .int n0_14, .int n0_15, .ref a6, .ref a7, .ref a8, .ref a9, .ref a10, .ref a11, .ref a12, .ref a13, .int (u.1 1), .int (u.1 2), .int (u.1 3), .int (u.1 4), .ref a14, .int n0_29, .int n0_30])), (a6, .inl (ct 0, 5, .inl f6)), (a7, .inl (ct 0, 15, .inl f7)), (a8, .inl (ct 0, 200, .inl f8)), (a9, .inl (ct 0, 1000, .inl f9)), (a11, .inl (ct 0, 8, .inl (u.2.1 0))), (a12, .inl (ct 0, 8, .inl (u.2.1 1))), (a13, .inl (ct 0, 8, .inl (u.2.1 2)))]) u) t.heap) A) ([.ref a0, .int p0] : List Value).toArray s 0 0 A) (F0 m 40 ls []) := by
          intro n
          induction n with
          | zero => intro x40_2 H locs ls hn40 hx40_2 hP hD hS hl; exact absurd hn40 (by have := Int32.toInt_lt x40_2; have := Int32.le_toInt x40_2; omega)
          | succ n ih40 =>
            intro x40_2 H locs ls hn40 hx40_2 hP hD hS hl
            refine lv_iload_n hx hb dX11_first_40 rfl (lv_at hl 2 rfl) ?_
            refine lv_aload_n hx hb dX11_first_41 rfl (lv_at hl 0 rfl) ?_
            refine va_get (D := G) (ci := 11) (v := .ref a7) (C := RX11) (T := TX11) (N := 31) hx hb hts (by decide +kernel) hown hK.1 hP 0 rfl rfl 17 (by decide) (hts (.fieldLink RX11 34 "CardHolderModel" "has" "[I") (by decide +kernel)) (fun _ h9 => h9) rfl dX11_first_42 ?_
            refine lv_iconst (v := 1) hx hb dX11_first_45 (by decide) ?_
            refine va_iald hx hb hK.1 hP 2 0 rfl rfl (in_lit (by decide)) dX11_first_46 ?_
            refine lv_topi (fun z46 gz46 => ?_)
            have hz46 : rg 0 8 z46 := by rw [gz46]; exact (hp_f7.1 0)
            refine lv_icmp_ge (tgt := 96) hx hb dX11_first_47 (by decide) (fun c47 => ?_) (fun c47 => ?_)
            · refine lv_iconst (v := (-1)) hx hb dX11_first_96 (by decide) ?_
              exact W.iret (v := (-1)) hx hb hr (fun t ht hW => ⟨⟨(-1), (fun k => ([0, ur26.1 0, ur26.1 1, ur26.1 2, ur26.1 3] : List Int32).getD k 0, fun k => ([ur26.2.1 0, ur26.2.1 1, ur26.2.1 2] : List (Nat → Int32)).getD k (fun _ => 0), fun k => ([] : List (Nat → Int64)).getD k (fun _ => 0)), rfl, ⟨(rg_w (c := (-2)) (d := 7) (rgn (-1) (x := (-1)) (by decide)) (by decide)), (fun hq => absurd hq (rne (rgn (-1) (x := (-1)) (by decide)) (y := 0) (c := 0) (by decide) (by decide))), (fun _ => h_8), (fun _ => h_8), p_9, p_10, (rgn 0 (x := 0) (by decide)), trivial⟩, hp_at ht hP⟩, hS.F ht⟩) hS.2.2 dX11_first_97
            · have h_13 : rg 0 7 x40_2 := r_lt_l_i (nle_i c47) hx40_2 hz46 (by decide)
              have h_14 : rg 1 8 z46 := r_lt_r_i (nle_i c47) hx40_2 hz46 (by decide)
              refine lv_iload_n hx hb dX11_first_50 rfl (lv_at hl 2 rfl) ?_
              refine lv_iconst (v := 1) hx hb dX11_first_51 (by decide) ?_
              refine lv_iadd hx hb dX11_first_52 ?_
              refine nm_add (e1 := 1) (f := 8) h_13 (rgn 1 (x := 1) (by decide)) (by decide) (fun z52 hz52 ez52 => ?_)
              replace ez52 := eqc_r ez52 (c := 1) (by decide)
              refine lv_istore_n (lv' := [(3, .int z52), (0, .ref a0), (1, .int p0), (2, .int x40_2)]) hx hb dX11_first_53 rfl hl (by decide) rfl (fun ls hl => ?_)
              have j54 : ∀ (n : Nat) (x54_3 : Int32) (H : Heap) (locs : List Loc) (ls : Array Slot), 2147483648 ≤ x54_3.toInt + (n : Int) → rg 1 8 x54_3 → va_P G vwCl [(a0, .inr (11, [.int 0, .ref a1, .ref a2, .ref a3, .ref a4, .ref a5, .int n0_6, .int n0_7, .int n0_8, .int n0_9, .int n0_10, .long l0_11, .int n0_12, .int n0_13, .int n0_14, .int n0_15, .ref a6, .ref a7, .ref a8, .ref a9, .ref a10, .ref a11, .ref a12, .ref a13, .int (ur26.1 0), .int (ur26.1 1), .int (ur26.1 2), .int (ur26.1 3), .ref a14, .int n0_29, .int n0_30])), (a6, .inl (ct 0, 5, .inl f6)), (a7, .inl (ct 0, 15, .inl f7)), (a8, .inl (ct 0, 200, .inl f8)), (a9, .inl (ct 0, 1000, .inl f9)), (a11, .inl (ct 0, 8, .inl (ur26.2.1 0))), (a12, .inl (ct 0, 8, .inl (ur26.2.1 1))), (a13, .inl (ct 0, 8, .inl (ur26.2.1 2)))] H → va_D A [(a0, .inr (11, [.int 0, .ref a1, .ref a2, .ref a3, .ref a4, .ref a5, .int n0_6, .int n0_7, .int n0_8, .int n0_9, .int n0_10, .long l0_11, .int n0_12, .int n0_13, .int n0_14, .int n0_15, .ref a6, .ref a7, .ref a8, .ref a9, .ref a10, .ref a11, .ref a12, .ref a13, .int (ur26.1 0), .int (ur26.1 1), .int (ur26.1 2), .int (ur26.1 3), .ref a14, .int n0_29, .int n0_30])), (a6, .inl (ct 0, 5, .inl f6)), (a7, .inl (ct 0, 15, .inl f7)), (a8, .inl (ct 0, 200, .inl f8)), (a9, .inl (ct 0, 1000, .inl f9)), (a11, .inl (ct 0, 8, .inl (ur26.2.1 0))), (a12, .inl (ct 0, 8, .inl (ur26.2.1 1))), (a13, .inl (ct 0, 8, .inl (ur26.2.1 2)))] → va_S A s.heap H locs → lv_has ls 4 [(0, .ref a0), (1, .int p0), (2, .int x40_2), (3, .int x54_3)] → W p l e (headSpec wsX11_first ({ frames := 5, cells := 0, slots := 0, locals := 111 })).room s m ([.ref a0, .int p0] : List Value).toArray below meth c H locs 0 0 (MQ below (va_Qi (fun (r : Int32) (u : SU) => rg (-2) 7 r ∧ (r = 0 → rg 0 0 p0) ∧ (r = (-1) → rg 0 1 p0) ∧ (¬ r = (-2) → rg 0 1 p0) ∧ ar (-1) 7 (u.2.1 0) ∧ ar (-1) 7 (u.2.1 2) ∧ rg 0 0 (u.1 0) ∧ True) (fun u t => va_P G vwCl ((fun u : SU => [(a0, .inr (11, [.int (u.1 0), .ref a1, .ref a2, .ref a3, .ref a4, .ref a5, .int n0_6, .int n0_7, .int n0_8, .int n0_9, .int n0_10, .long l0_11, .int n0_12, .int n0_13, .int n0_14, .int n0_15, .ref a6, .ref a7, .ref a8, .ref a9, .ref a10, .ref a11, .ref a12, .ref a13, .int (u.1 1), .int (u.1 2), .int (u.1 3), .int (u.1 4), .ref a14, .int n0_29, .int n0_30])), (a6, .inl (ct 0, 5, .inl f6)), (a7, .inl (ct 0, 15, .inl f7)), (a8, .inl (ct 0, 200, .inl f8)), (a9, .inl (ct 0, 1000, .inl f9)), (a11, .inl (ct 0, 8, .inl (u.2.1 0))), (a12, .inl (ct 0, 8, .inl (u.2.1 1))), (a13, .inl (ct 0, 8, .inl (u.2.1 2)))]) u) t.heap) A) ([.ref a0, .int p0] : List Value).toArray s 0 0 A) (F0 m 54 ls []) := by
                intro n
                induction n with
                | zero => intro x54_3 H locs ls hn54 hx54_3 hP hD hS hl; exact absurd hn54 (by have := Int32.toInt_lt x54_3; have := Int32.le_toInt x54_3; omega)
                | succ n ih54 =>
                  intro x54_3 H locs ls hn54 hx54_3 hP hD hS hl
                  refine lv_iload_n hx hb dX11_first_54 rfl (lv_at hl 3 rfl) ?_
                  refine lv_aload_n hx hb dX11_first_55 rfl (lv_at hl 0 rfl) ?_
                  refine va_get (D := G) (ci := 11) (v := .ref a7) (C := RX11) (T := TX11) (N := 31) hx hb hts (by decide +kernel) hown hK.1 hP 0 rfl rfl 17 (by decide) (hts (.fieldLink RX11 34 "CardHolderModel" "has" "[I") (by decide +kernel)) (fun _ h9 => h9) rfl dX11_first_56 ?_
                  refine lv_iconst (v := 1) hx hb dX11_first_59 (by decide) ?_
                  refine va_iald hx hb hK.1 hP 2 0 rfl rfl (in_lit (by decide)) dX11_first_60 ?_
                  refine ix_i (y := z46) gz46.symm ?_
                  refine lv_icmp_ge (tgt := 90) hx hb dX11_first_61 (by decide) (fun c61 => ?_) (fun c61 => ?_)
                  · obtain ⟨z90, qz90⟩ : ∃ y : Int32, y = x40_2 + Int32.ofInt 1 := ⟨_, rfl⟩
                    obtain ⟨hz90, ez90⟩ := inc_z (e := 1) (f := 8) h_13 qz90 (by decide)
                    refine lv_iinc (v := z90) (lv' := [(2, .int z90), (0, .ref a0), (1, .int p0), (3, .int x54_3)]) hx hb dX11_first_90 hl (k := 2) rfl (qz90.symm) (by decide) rfl (fun ls hl => ?_)
                    refine lv_goto (tgt := 40) hx hb dX11_first_93 (by decide) ?_
                    exact ih40 z90 _ _ ls (by have q := hn40; have := ez90; omega) (rg_w (c := 0) (d := 8) hz90 (by decide)) hP hD hS (lv_sub hl [1, 2, 0] rfl)
                  · have h_15 : rg 1 7 x54_3 := r_lt_l_i (nle_i c61) hx54_3 h_14 (by decide)
                    have h_16 : rg 2 8 z46 := r_lt_r_i (nle_i c61) hx54_3 h_14 (by decide)
                    refine lv_aload_n hx hb dX11_first_64 rfl (lv_at hl 0 rfl) ?_
                    refine lv_iload_n hx hb dX11_first_65 rfl (lv_at hl 2 rfl) ?_
                    refine lv_iload_n hx hb dX11_first_66 rfl (lv_at hl 3 rfl) ?_
                    refine ro_calli (va_runV (As := [.int x40_2, .int x54_3]) (rest := []) ⟨hx, hb, hml, hown, hts⟩ (a_X11_timeOf l G ct a0 (0 : Int32) a1 a2 a3 a4 a5 n0_6 n0_7 n0_8 n0_9 n0_10 l0_11 n0_12 n0_13 n0_14 n0_15 a6 a7 a8 a9 a10 a11 a12 a13 (ur26.1 0) (ur26.1 1) (ur26.1 2) (ur26.1 3) a14 n0_29 n0_30 f8 (ur26.2.1 0) x40_2 x54_3 hp_n0_6 hp_f8 p_9 h_13 (rg_w (c := 0) (d := 7) h_15 (by decide))) (cwV 2 hts gX11_first_X11_timeOf rfl rfl rfl (by decide +kernel) ⟨Nat.le_of_ble_eq_true rfl, Nat.le_of_ble_eq_true rfl⟩) (ro_preV 11 0 hK (hP.sub [0, 3, 5] rfl) rfl rfl) rfl rfl hl.1 rfl (lv_room (Nat.le_of_ble_eq_true rfl)) dX11_first_67 ⟨Nat.zero_le _, Nat.zero_le _⟩) hS hP (fun r67 H locs wr67 hP hS => ?_)
                    obtain ⟨p_17, -⟩ := wr67
                    refine lv_iconst (v := (-1)) hx hb dX11_first_70 (by decide) ?_
                    refine lv_icmp_eq (tgt := 84) hx hb dX11_first_71 (by decide) (fun c71 => ?_) (fun c71 => ?_)
                    · have h_18 : rg (-1) (-1) r67 := r_eq_l_i (e := (-1)) (f := (-1)) c71 (rg_t r67) (rgn (-1) (x := (-1)) (by decide)) (by decide)
                      obtain ⟨z84, qz84⟩ : ∃ y : Int32, y = x54_3 + Int32.ofInt 1 := ⟨_, rfl⟩
                      obtain ⟨hz84, ez84⟩ := inc_z (e := 2) (f := 8) h_15 qz84 (by decide)
                      refine lv_iinc (v := z84) (lv' := [(3, .int z84), (0, .ref a0), (1, .int p0), (2, .int x40_2)]) hx hb dX11_first_84 hl (k := 3) rfl (qz84.symm) (by decide) rfl (fun ls hl => ?_)
                      refine lv_goto (tgt := 54) hx hb dX11_first_87 (by decide) ?_
                      exact ih54 z84 _ _ ls (by have q := hn54; have := ez84; omega) (rg_w (c := 1) (d := 8) hz84 (by decide)) hP hD hS (lv_sub hl [1, 2, 3, 0] rfl)
                    · refine lv_iload_n hx hb dX11_first_74 rfl (lv_at hl 1 rfl) ?_
                      refine lv_if_ne (tgt := 82) hx hb dX11_first_75 (by decide) (fun c75 => ?_) (fun c75 => ?_)
                      · have h_19 : rg 1 1 p0 := r_ne_lo_i c75 h_8 (by decide) (by decide)
                        refine lv_iload_n hx hb dX11_first_82 rfl (lv_at hl 3 rfl) ?_
                        exact W.iret (v := x54_3) hx hb hr (fun t ht hW => ⟨⟨x54_3, (fun k => ([0, ur26.1 0, ur26.1 1, ur26.1 2, ur26.1 3] : List Int32).getD k 0, fun k => ([ur26.2.1 0, ur26.2.1 1, ur26.2.1 2] : List (Nat → Int32)).getD k (fun _ => 0), fun k => ([] : List (Nat → Int64)).getD k (fun _ => 0)), rfl, ⟨(rg_w (c := (-2)) (d := 7) h_15 (by decide)), (fun hq => absurd hq (rne h_15 (y := 0) (c := 0) (by decide) (by decide))), (fun _ => (rg_w (c := 0) (d := 1) h_19 (by decide))), (fun _ => (rg_w (c := 0) (d := 1) h_19 (by decide))), p_9, p_10, (rgn 0 (x := 0) (by decide)), trivial⟩, hp_at ht hP⟩, hS.F ht⟩) hS.2.2 dX11_first_83
                      · have h_20 : rg 0 0 p0 := r_eq_l_i (e := 0) (f := 0) c75 h_8 (rgn 0 (x := 0) (by decide)) (by decide)
                        refine lv_iload_n hx hb dX11_first_78 rfl (lv_at hl 2 rfl) ?_
                        refine lv_goto (tgt := 83) hx hb dX11_first_79 (by decide) ?_
                        exact W.iret (v := x40_2) hx hb hr (fun t ht hW => ⟨⟨x40_2, (fun k => ([0, ur26.1 0, ur26.1 1, ur26.1 2, ur26.1 3] : List Int32).getD k 0, fun k => ([ur26.2.1 0, ur26.2.1 1, ur26.2.1 2] : List (Nat → Int32)).getD k (fun _ => 0), fun k => ([] : List (Nat → Int64)).getD k (fun _ => 0)), rfl, ⟨(rg_w (c := (-2)) (d := 7) h_13 (by decide)), (fun _ => h_20), (fun _ => (rg_w (c := 0) (d := 1) h_20 (by decide))), (fun _ => (rg_w (c := 0) (d := 1) h_20 (by decide))), p_9, p_10, (rgn 0 (x := 0) (by decide)), trivial⟩, hp_at ht hP⟩, hS.F ht⟩) hS.2.2 dX11_first_83
              exact j54 4294967296 z52 _ _ ls (ms_e z52) hz52 hP hD hS (lv_sub hl [1, 2, 3, 0] rfl)
        exact j40 4294967296 (0 : Int32) _ _ ls (ms_e (0 : Int32)) (rg_w (c := 0) (d := 8) (rgn 0 (x := 0) (by decide)) (by decide)) hP hD hS (lv_sub hl [1, 2, 0] rfl)
      · have h_21 : rg 0 0 r30 := r_eq_l_i (e := 0) (f := 0) c33 p_11 (rgn 0 (x := 0) (by decide)) (by decide)
        refine lv_iconst (v := (-1)) hx hb dX11_first_36 (by decide) ?_
        exact W.iret (v := (-1)) hx hb hr (fun t ht hW => ⟨⟨(-1), (fun k => ([0, ur26.1 0, ur26.1 1, ur26.1 2, ur26.1 3] : List Int32).getD k 0, fun k => ([ur26.2.1 0, ur26.2.1 1, ur26.2.1 2] : List (Nat → Int32)).getD k (fun _ => 0), fun k => ([] : List (Nat → Int64)).getD k (fun _ => 0)), rfl, ⟨(rg_w (c := (-2)) (d := 7) (rgn (-1) (x := (-1)) (by decide)) (by decide)), (fun hq => absurd hq (rne (rgn (-1) (x := (-1)) (by decide)) (y := 0) (c := 0) (by decide) (by decide))), (fun _ => h_8), (fun _ => h_8), p_9, p_10, (rgn 0 (x := 0) (by decide)), trivial⟩, hp_at ht hP⟩, hS.F ht⟩) hS.2.2 dX11_first_37
    · have h_22 : rg 0 0 r16 := r_eq_l_i (e := 0) (f := 0) c19 p_4 (rgn 0 (x := 0) (by decide)) (by decide)
      refine lv_bipush (v := (-2)) hx hb dX11_first_22 (by decide) ?_
      exact W.iret (v := (-2)) hx hb hr (fun t ht hW => ⟨⟨(-2), (fun k => ([0, n0_24, n0_25, n0_26, n0_27] : List Int32).getD k 0, fun k => ([f11, f12, f13] : List (Nat → Int32)).getD k (fun _ => 0), fun k => ([] : List (Nat → Int64)).getD k (fun _ => 0)), rfl, ⟨(rg_w (c := (-2)) (d := 7) (rgn (-2) (x := (-2)) (by decide)) (by decide)), (fun hq => absurd hq (rne (rgn (-2) (x := (-2)) (by decide)) (y := 0) (c := 0) (by decide) (by decide))), (fun hq => absurd hq (rne (rgn (-2) (x := (-2)) (by decide)) (y := (-1)) (c := (-1)) (by decide) (by decide))), (fun hq => absurd (req (rgn (-2) (x := (-2)) (by decide)) (y := (-2)) (by decide)) hq), hp_f11, hp_f13, (rgn 0 (x := 0) (by decide)), trivial⟩, hp_at ht hP⟩, hS.F ht⟩) hS.2.2 dX11_first_24

set_option maxHeartbeats 4000000 in
set_option maxRecDepth 100000 in
theorem a_X11_mayDo (l : Launch) (G : va_G) (ct : Nat → ClassId) (a0 : Nat) (n0_0 : Int32) (a1 : Nat) (a2 : Nat) (a3 : Nat) (a4 : Nat) (a5 : Nat) (n0_6 : Int32) (n0_7 : Int32) (n0_8 : Int32) (n0_9 : Int32) (n0_10 : Int32) (l0_11 : Int64) (n0_12 : Int32) (n0_13 : Int32) (n0_14 : Int32) (n0_15 : Int32) (a6 : Nat) (a7 : Nat) (a8 : Nat) (a9 : Nat) (a10 : Nat) (a11 : Nat) (a12 : Nat) (a13 : Nat) (n0_24 : Int32) (n0_25 : Int32) (n0_26 : Int32) (n0_27 : Int32) (a14 : Nat) (n0_29 : Int32) (n0_30 : Int32) (f8 : Nat → Int32) (f11 : Nat → Int32) (p0 : Int32) (p1 : Int32) (p2 : Int32) (hp_n0_6 : rg 0 900 n0_6) (hp_f8 : psI f8) (hp_f11 : ar (-1) 7 f11) (hp_p0 : rg 0 7 p0) : Met l yX11_mayDo wsX11_mayDo ({ frames := 1, cells := 0, slots := 0, locals := 22 }) (va_Pc [.ref a0, .int p0, .int p1, .int p2] (roP G ct [(a0, .inr (11, [.int n0_0, .ref a1, .ref a2, .ref a3, .ref a4, .ref a5, .int n0_6, .int n0_7, .int n0_8, .int n0_9, .int n0_10, .long l0_11, .int n0_12, .int n0_13, .int n0_14, .int n0_15, .ref a6, .ref a7, .ref a8, .ref a9, .ref a10, .ref a11, .ref a12, .ref a13, .int n0_24, .int n0_25, .int n0_26, .int n0_27, .ref a14, .int n0_29, .int n0_30])), (a8, .inl (ct 0, 200, .inl f8)), (a11, .inl (ct 0, 8, .inl f11))])) (roQ (fun r => (¬ r = 0 → rg (-1) 7 p1) ∧ (r = (-1) → rg (-1) 7 p1) ∧ True)) 0 0 no := by
  refine Met.ofW (cc := cX11_mayDo) (maxL := 4) (ret := (some .int)) (by decide) rfl ?_
  intro p e s m args below meth c s₁ B hml hv
  obtain ⟨rfl, hP, hK⟩ := hv
  have hx := B.exec
  have hb := B.bytes
  have hr := B.returns
  have hts := atoms_spec (ws := wsX11_mayDo) B.pre
  have hown : s.vm.findClass RX11 = some m.cls := findClass_of_methodNamed B.named
  have hlocks := B.notSynchronized
  have hS : va_S no s.heap s.heap [] := va_S.rf
  have hl := lv_entry ([.ref a0, .int p0, .int p1, .int p2]) (n := 4) (Nat.le_of_ble_eq_true rfl)
  rw [lg_entry_eq]
  generalize (lg_sl ([.ref a0, .int p0, .int p1, .int p2]) ++ List.replicate (4 - (lg_sl ([.ref a0, .int p0, .int p1, .int p2])).length) Slot.unset).toArray = ls at hl ⊢
  have hl : lv_has ls 4 [(0, .ref a0), (1, .int p0), (2, .int p1), (3, .int p2)] := hl
  refine lv_aload_n hx hb dX11_mayDo_0 rfl (lv_at hl 0 rfl) ?_
  refine va_get (D := G) (ci := 11) (v := .ref a11) (C := RX11) (T := TX11) (N := 31) hx hb hts (by decide +kernel) hown hK.1 hP 0 rfl rfl 21 (by decide) (hts (.fieldLink RX11 47 "CardHolderModel" "holder" "[I") (by decide +kernel)) (fun _ h9 => h9) rfl dX11_mayDo_1 ?_
  refine lv_iload_n hx hb dX11_mayDo_4 rfl (lv_at hl 1 rfl) ?_
  refine va_iald hx hb hK.1 hP 2 0 rfl rfl (in_rg hp_p0 (by decide)) dX11_mayDo_5 ?_
  refine lv_topi (fun z5 gz5 => ?_)
  have hz5 : rg (-1) 7 z5 := by rw [gz5]; exact hp_f11 _
  refine lv_iload_n hx hb dX11_mayDo_6 rfl (lv_at hl 2 rfl) ?_
  refine lv_icmp_ne (tgt := 32) hx hb dX11_mayDo_7 (by decide) (fun c7 => ?_) (fun c7 => ?_)
  · refine lv_iconst (v := 0) hx hb dX11_mayDo_32 (by decide) ?_
    exact W.iret (v := 0) hx hb hr (fun t ht hW => ⟨⟨0, (), rfl, ⟨(fun hq => absurd (req (rgn 0 (x := 0) (by decide)) (y := 0) (by decide)) hq), (fun hq => absurd hq (rne (rgn 0 (x := 0) (by decide)) (y := (-1)) (c := (-1)) (by decide) (by decide))), trivial⟩, trivial⟩, hS.F ht⟩) hS.2.2 dX11_mayDo_33
  · have h_1 : rg (-1) 7 p1 := r_eq_r_i (e := (-1)) (f := 7) c7 hz5 (rg_t p1) (by decide)
    refine lv_aload_n hx hb dX11_mayDo_10 rfl (lv_at hl 0 rfl) ?_
    refine va_get (D := G) (ci := 11) (v := .int n0_24) (C := RX11) (T := TX11) (N := 31) hx hb hts (by decide +kernel) hown hK.1 hP 0 rfl rfl 24 (by decide) (hts (.fieldLink RX11 217 "CardHolderModel" "asked" "I") (by decide +kernel)) (fun _ h9 => h9) rfl dX11_mayDo_11 ?_
    refine lv_iload_n hx hb dX11_mayDo_14 rfl (lv_at hl 1 rfl) ?_
    refine ro_calli (va_runS (As := [.int n0_24, .int p0]) (rest := []) ⟨hx, hb, hml, hown, hts⟩ (a_X11_isBit l G ct n0_24 p0) (va_cwS 2 hts gX11_mayDo_X11_isBit rfl rfl rfl (by decide +kernel) ⟨Nat.le_of_ble_eq_true rfl, Nat.le_of_ble_eq_true rfl⟩) (ro_pre hK (hP.sub [] rfl)) rfl rfl hl.1 rfl (lv_room (Nat.le_of_ble_eq_true rfl)) dX11_mayDo_15 ⟨Nat.zero_le _, Nat.zero_le _⟩) hS hP (fun r15 H locs wr15 hP hS => ?_)
    obtain ⟨p_2, -⟩ := wr15
    refine lv_if_ne (tgt := 32) hx hb dX11_mayDo_18 (by decide) (fun c18 => ?_) (fun c18 => ?_)
    · have h_3 : rg 1 1 r15 := r_ne_lo_i c18 p_2 (by decide) (by decide)
      refine lv_iconst (v := 0) hx hb dX11_mayDo_32 (by decide) ?_
      exact W.iret (v := 0) hx hb hr (fun t ht hW => ⟨⟨0, (), rfl, ⟨(fun _ => h_1), (fun _ => h_1), trivial⟩, trivial⟩, hS.F ht⟩) hS.2.2 dX11_mayDo_33
    · have h_4 : rg 0 0 r15 := r_eq_l_i (e := 0) (f := 0) c18 p_2 (rgn 0 (x := 0) (by decide)) (by decide)
      refine lv_aload_n hx hb dX11_mayDo_21 rfl (lv_at hl 0 rfl) ?_
      refine lv_iload_n hx hb dX11_mayDo_22 rfl (lv_at hl 1 rfl) ?_
      refine lv_iconst (v := 1) hx hb dX11_mayDo_23 (by decide) ?_
      refine ro_calli (va_runV (As := [.int p0, .int 1]) (rest := []) ⟨hx, hb, hml, hown, hts⟩ (a_X11_of1 l G ct a0 n0_0 a1 a2 a3 a4 a5 n0_6 n0_7 n0_8 n0_9 n0_10 l0_11 n0_12 n0_13 n0_14 n0_15 a6 a7 a8 a9 a10 a11 a12 a13 n0_24 n0_25 n0_26 n0_27 a14 n0_29 n0_30 f8 p0 hp_n0_6 hp_f8 hp_p0) (cwV 2 hts gX11_mayDo_X11_of rfl rfl rfl (by decide +kernel) ⟨Nat.le_of_ble_eq_true rfl, Nat.le_of_ble_eq_true rfl⟩) (ro_preV 11 0 hK (hP.sub [0, 1] rfl) rfl rfl) rfl rfl hl.1 rfl (lv_room (Nat.le_of_ble_eq_true rfl)) dX11_mayDo_24 ⟨Nat.zero_le _, Nat.zero_le _⟩) hS hP (fun r24 H locs wr24 hP hS => ?_)
      refine lv_iload_n hx hb dX11_mayDo_27 rfl (lv_at hl 3 rfl) ?_
      refine lv_iand hx hb dX11_mayDo_28 ?_
      refine nm_0 (fun z28 => ?_)
      refine lv_goto (tgt := 33) hx hb dX11_mayDo_29 (by decide) ?_
      exact W.iret (v := z28) hx hb hr (fun t ht hW => ⟨⟨z28, (), rfl, ⟨(fun _ => h_1), (fun _ => h_1), trivial⟩, trivial⟩, hS.F ht⟩) hS.2.2 dX11_mayDo_33

set_option maxHeartbeats 4000000 in
set_option maxRecDepth 100000 in
theorem a_X11_laysWork (l : Launch) (G : va_G) (ct : Nat → ClassId) (a0 : Nat) (n0_0 : Int32) (a1 : Nat) (a2 : Nat) (a3 : Nat) (a4 : Nat) (a5 : Nat) (n0_6 : Int32) (n0_7 : Int32) (n0_8 : Int32) (n0_9 : Int32) (n0_10 : Int32) (l0_11 : Int64) (n0_12 : Int32) (n0_13 : Int32) (n0_14 : Int32) (n0_15 : Int32) (a6 : Nat) (a7 : Nat) (a8 : Nat) (a9 : Nat) (a10 : Nat) (a11 : Nat) (a12 : Nat) (a13 : Nat) (n0_24 : Int32) (n0_25 : Int32) (n0_26 : Int32) (n0_27 : Int32) (a14 : Nat) (n0_29 : Int32) (n0_30 : Int32) (f7 : Nat → Int32) (f8 : Nat → Int32) (f11 : Nat → Int32) (f14 : Nat → Int32) (p0 : Int32) (hp_n0_6 : rg 0 900 n0_6) (hp_f7 : hsI f7) (hp_f8 : psI f8) (hp_f11 : ar (-1) 7 f11) : Met l yX11_laysWork wsX11_laysWork ({ frames := 2, cells := 0, slots := 0, locals := 45 }) (va_Pc [.ref a0, .int p0] (wrP G ct [(a0, .inr (11, [.int n0_0, .ref a1, .ref a2, .ref a3, .ref a4, .ref a5, .int n0_6, .int n0_7, .int n0_8, .int n0_9, .int n0_10, .long l0_11, .int n0_12, .int n0_13, .int n0_14, .int n0_15, .ref a6, .ref a7, .ref a8, .ref a9, .ref a10, .ref a11, .ref a12, .ref a13, .int n0_24, .int n0_25, .int n0_26, .int n0_27, .ref a14, .int n0_29, .int n0_30])), (a7, .inl (ct 0, 15, .inl f7)), (a8, .inl (ct 0, 200, .inl f8)), (a11, .inl (ct 0, 8, .inl f11)), (a14, .inl (ct 0, 576, .inl f14))])) (va_Qv (fun u : SU => True) (fun u t => va_P G vwCl ((fun u : SU => [(a0, .inr (11, [.int n0_0, .ref a1, .ref a2, .ref a3, .ref a4, .ref a5, .int n0_6, .int n0_7, .int n0_8, .int n0_9, .int n0_10, .long l0_11, .int n0_12, .int n0_13, .int n0_14, .int n0_15, .ref a6, .ref a7, .ref a8, .ref a9, .ref a10, .ref a11, .ref a12, .ref a13, .int n0_24, .int n0_25, .int n0_26, .int n0_27, .ref a14, .int n0_29, .int n0_30])), (a7, .inl (ct 0, 15, .inl f7)), (a8, .inl (ct 0, 200, .inl f8)), (a11, .inl (ct 0, 8, .inl f11)), (a14, .inl (ct 0, 576, .inl (u.2.1 0)))]) u) t.heap) (aset [(a0, .inr (11, [.int n0_0, .ref a1, .ref a2, .ref a3, .ref a4, .ref a5, .int n0_6, .int n0_7, .int n0_8, .int n0_9, .int n0_10, .long l0_11, .int n0_12, .int n0_13, .int n0_14, .int n0_15, .ref a6, .ref a7, .ref a8, .ref a9, .ref a10, .ref a11, .ref a12, .ref a13, .int n0_24, .int n0_25, .int n0_26, .int n0_27, .ref a14, .int n0_29, .int n0_30])), (a7, .inl (ct 0, 15, .inl f7)), (a8, .inl (ct 0, 200, .inl f8)), (a11, .inl (ct 0, 8, .inl f11)), (a14, .inl (ct 0, 576, .inl f14))])) 0 0 (aset [(a0, .inr (11, [.int n0_0, .ref a1, .ref a2, .ref a3, .ref a4, .ref a5, .int n0_6, .int n0_7, .int n0_8, .int n0_9, .int n0_10, .long l0_11, .int n0_12, .int n0_13, .int n0_14, .int n0_15, .ref a6, .ref a7, .ref a8, .ref a9, .ref a10, .ref a11, .ref a12, .ref a13, .int n0_24, .int n0_25, .int n0_26, .int n0_27, .ref a14, .int n0_29, .int n0_30])), (a7, .inl (ct 0, 15, .inl f7)), (a8, .inl (ct 0, 200, .inl f8)), (a11, .inl (ct 0, 8, .inl f11)), (a14, .inl (ct 0, 576, .inl f14))]) := by
  refine Met.ofW (cc := cX11_laysWork) (maxL := 8) (ret := none) (by decide) rfl ?_
  intro p e s m args below meth c s₁ B hml hv
  obtain ⟨rfl, hP, hK, hD0⟩ := hv
  have hx := B.exec
  have hb := B.bytes
  have hr := B.returns
  have hts := atoms_spec (ws := wsX11_laysWork) B.pre
  have hown : s.vm.findClass RX11 = some m.cls := findClass_of_methodNamed B.named
  have hlocks := B.notSynchronized
  have hD := hD0.aself
  generalize hAe : aset [(a0, .inr (11, [.int n0_0, .ref a1, .ref a2, .ref a3, .ref a4, .ref a5, .int n0_6, .int n0_7, .int n0_8, .int n0_9, .int n0_10, .long l0_11, .int n0_12, .int n0_13, .int n0_14, .int n0_15, .ref a6, .ref a7, .ref a8, .ref a9, .ref a10, .ref a11, .ref a12, .ref a13, .int n0_24, .int n0_25, .int n0_26, .int n0_27, .ref a14, .int n0_29, .int n0_30])), (a7, .inl (ct 0, 15, .inl f7)), (a8, .inl (ct 0, 200, .inl f8)), (a11, .inl (ct 0, 8, .inl f11)), (a14, .inl (ct 0, 576, .inl f14))] = A at hD ⊢
  have hS : va_S A s.heap s.heap [] := va_S.rf
  have hl := lv_entry ([.ref a0, .int p0]) (n := 8) (Nat.le_of_ble_eq_true rfl)
  rw [lg_entry_eq]
  generalize (lg_sl ([.ref a0, .int p0]) ++ List.replicate (8 - (lg_sl ([.ref a0, .int p0])).length) Slot.unset).toArray = ls at hl ⊢
  have hl : lv_has ls 8 [(0, .ref a0), (1, .int p0)] := hl
  refine lv_iconst (v := 0) hx hb dX11_laysWork_0 (by decide) ?_
  refine lv_istore_n (lv' := [(2, .int 0), (0, .ref a0), (1, .int p0)]) hx hb dX11_laysWork_1 rfl hl (by decide) rfl (fun ls hl => ?_)
  have j2 : ∀ (n : Nat) (x2_2 : Int32) (f2_4 : Nat → Int32) (H : Heap) (locs : List Loc) (ls : Array Slot), 2147483648 ≤ x2_2.toInt + (n : Int) → rg 0 64 x2_2 → va_P G vwCl [(a0, .inr (11, [.int n0_0, .ref a1, .ref a2, .ref a3, .ref a4, .ref a5, .int n0_6, .int n0_7, .int n0_8, .int n0_9, .int n0_10, .long l0_11, .int n0_12, .int n0_13, .int n0_14, .int n0_15, .ref a6, .ref a7, .ref a8, .ref a9, .ref a10, .ref a11, .ref a12, .ref a13, .int n0_24, .int n0_25, .int n0_26, .int n0_27, .ref a14, .int n0_29, .int n0_30])), (a7, .inl (ct 0, 15, .inl f7)), (a8, .inl (ct 0, 200, .inl f8)), (a11, .inl (ct 0, 8, .inl f11)), (a14, .inl (ct 0, 576, .inl f2_4))] H → va_D A [(a0, .inr (11, [.int n0_0, .ref a1, .ref a2, .ref a3, .ref a4, .ref a5, .int n0_6, .int n0_7, .int n0_8, .int n0_9, .int n0_10, .long l0_11, .int n0_12, .int n0_13, .int n0_14, .int n0_15, .ref a6, .ref a7, .ref a8, .ref a9, .ref a10, .ref a11, .ref a12, .ref a13, .int n0_24, .int n0_25, .int n0_26, .int n0_27, .ref a14, .int n0_29, .int n0_30])), (a7, .inl (ct 0, 15, .inl f7)), (a8, .inl (ct 0, 200, .inl f8)), (a11, .inl (ct 0, 8, .inl f11)), (a14, .inl (ct 0, 576, .inl f2_4))] → va_S A s.heap H locs → lv_has ls 8 [(0, .ref a0), (1, .int p0), (2, .int x2_2)] → W p l e (headSpec wsX11_laysWork ({ frames := 2, cells := 0, slots := 0, locals := 45 })).room s m ([.ref a0, .int p0] : List Value).toArray below meth c H locs 0 0 (MQ below (va_Qv (fun u : SU => True) (fun u t => va_P G vwCl ((fun u : SU => [(a0, .inr (11, [.int n0_0, .ref a1, .ref a2, .ref a3, .ref a4, .ref a5, .int n0_6, .int n0_7, .int n0_8, .int n0_9, .int n0_10, .long l0_11, .int n0_12, .int n0_13, .int n0_14, .int n0_15, .ref a6, .ref a7, .ref a8, .ref a9, .ref a10, .ref a11, .ref a12, .ref a13, .int n0_24, .int n0_25, .int n0_26, .int n0_27, .ref a14, .int n0_29, .int n0_30])), (a7, .inl (ct 0, 15, .inl f7)), (a8, .inl (ct 0, 200, .inl f8)), (a11, .inl (ct 0, 8, .inl f11)), (a14, .inl (ct 0, 576, .inl (u.2.1 0)))]) u) t.heap) A) ([.ref a0, .int p0] : List Value).toArray s 0 0 A) (F0 m 2 ls []) := by
    intro n
    induction n with
    | zero => intro x2_2 f2_4 H locs ls hn2 hx2_2 hP hD hS hl; exact absurd hn2 (by have := Int32.toInt_lt x2_2; have := Int32.le_toInt x2_2; omega)
    | succ n ih2 =>
      intro x2_2 f2_4 H locs ls hn2 hx2_2 hP hD hS hl
      refine lv_iload_n hx hb dX11_laysWork_2 rfl (lv_at hl 2 rfl) ?_
      refine lv_bipush (v := 64) hx hb dX11_laysWork_3 (by decide) ?_
      refine lv_icmp_ge (tgt := 31) hx hb dX11_laysWork_5 (by decide) (fun c5 => ?_) (fun c5 => ?_)
      · have h_1 : rg 64 64 x2_2 := r_le_r_i c5 (rgn 64 (x := 64) (by decide)) hx2_2
        refine lv_aload_n hx hb dX11_laysWork_31 rfl (lv_at hl 0 rfl) ?_
        refine va_get (D := G) (ci := 11) (v := .ref a7) (C := RX11) (T := TX11) (N := 31) hx hb hts (by decide +kernel) hown hK.1 hP 0 rfl rfl 17 (by decide) (hts (.fieldLink RX11 34 "CardHolderModel" "has" "[I") (by decide +kernel)) (fun _ h9 => h9) rfl dX11_laysWork_32 ?_
        refine lv_iconst (v := 1) hx hb dX11_laysWork_35 (by decide) ?_
        refine va_iald hx hb hK.1 hP 1 0 rfl rfl (in_lit (by decide)) dX11_laysWork_36 ?_
        refine lv_topi (fun z36 gz36 => ?_)
        have hz36 : rg 0 8 z36 := by rw [gz36]; exact (hp_f7.1 0)
        refine lv_iconst (v := 1) hx hb dX11_laysWork_37 (by decide) ?_
        refine lv_isub hx hb dX11_laysWork_38 ?_
        refine nm_sub (e1 := (-1)) (f := 7) hz36 (rgn 1 (x := 1) (by decide)) (by decide) (fun z38 hz38 ez38 => ?_)
        replace ez38 := eqc_s ez38 (c := (-1)) (by decide)
        refine lv_istore_n (lv' := [(2, .int z38), (0, .ref a0), (1, .int p0)]) hx hb dX11_laysWork_39 rfl hl (by decide) rfl (fun ls hl => ?_)
        have j40 : ∀ (n : Nat) (x40_2 : Int32) (f40_4 : Nat → Int32) (H : Heap) (locs : List Loc) (ls : Array Slot), - 2147483649 ≥ x40_2.toInt - (n : Int) → rg (-1) 7 x40_2 → va_P G vwCl [(a0, .inr (11, [.int n0_0, .ref a1, .ref a2, .ref a3, .ref a4, .ref a5, .int n0_6, .int n0_7, .int n0_8, .int n0_9, .int n0_10, .long l0_11, .int n0_12, .int n0_13, .int n0_14, .int n0_15, .ref a6, .ref a7, .ref a8, .ref a9, .ref a10, .ref a11, .ref a12, .ref a13, .int n0_24, .int n0_25, .int n0_26, .int n0_27, .ref a14, .int n0_29, .int n0_30])), (a7, .inl (ct 0, 15, .inl f7)), (a8, .inl (ct 0, 200, .inl f8)), (a11, .inl (ct 0, 8, .inl f11)), (a14, .inl (ct 0, 576, .inl f40_4))] H → va_D A [(a0, .inr (11, [.int n0_0, .ref a1, .ref a2, .ref a3, .ref a4, .ref a5, .int n0_6, .int n0_7, .int n0_8, .int n0_9, .int n0_10, .long l0_11, .int n0_12, .int n0_13, .int n0_14, .int n0_15, .ref a6, .ref a7, .ref a8, .ref a9, .ref a10, .ref a11, .ref a12, .ref a13, .int n0_24, .int n0_25, .int n0_26, .int n0_27, .ref a14, .int n0_29, .int n0_30])), (a7, .inl (ct 0, 15, .inl f7)), (a8, .inl (ct 0, 200, .inl f8)), (a11, .inl (ct 0, 8, .inl f11)), (a14, .inl (ct 0, 576, .inl f40_4))] → va_S A s.heap H locs → lv_has ls 8 [(0, .ref a0), (1, .int p0), (2, .int x40_2)] → W p l e (headSpec wsX11_laysWork ({ frames := 2, cells := 0, slots := 0, locals := 45 })).room s m ([.ref a0, .int p0] : List Value).toArray below meth c H locs 0 0 (MQ below (va_Qv (fun u : SU => True) (fun u t => va_P G vwCl ((fun u : SU => [(a0, .inr (11, [.int n0_0, .ref a1, .ref a2, .ref a3, .ref a4, .ref a5, .int n0_6, .int n0_7, .int n0_8, .int n0_9, .int n0_10, .long l0_11, .int n0_12, .int n0_13, .int n0_14, .int n0_15, .ref a6, .ref a7, .ref a8, .ref a9, .ref a10, .ref a11, .ref a12, .ref a13, .int n0_24, .int n0_25, .int n0_26, .int n0_27, .ref a14, .int n0_29, .int n0_30])), (a7, .inl (ct 0, 15, .inl f7)), (a8, .inl (ct 0, 200, .inl f8)), (a11, .inl (ct 0, 8, .inl f11)), (a14, .inl (ct 0, 576, .inl (u.2.1 0)))]) u) t.heap) A) ([.ref a0, .int p0] : List Value).toArray s 0 0 A) (F0 m 40 ls []) := by
          intro n
          induction n with
          | zero => intro x40_2 f40_4 H locs ls hn40 hx40_2 hP hD hS hl; exact absurd hn40 (by have := Int32.toInt_lt x40_2; have := Int32.le_toInt x40_2; omega)
          | succ n ih40 =>
            intro x40_2 f40_4 H locs ls hn40 hx40_2 hP hD hS hl
            refine lv_iload_n hx hb dX11_laysWork_40 rfl (lv_at hl 2 rfl) ?_
            refine lv_if_lt (tgt := 171) hx hb dX11_laysWork_41 (by decide) (fun c41 => ?_) (fun c41 => ?_)
            · have h_2 : rg (-1) (-1) x40_2 := r_lt_l_i c41 hx40_2 (rgn 0 (x := 0) (by decide)) (by decide)
              exact W.vret hx hb hr (fun t ht hW => ⟨⟨(fun k => ([] : List Int32).getD k 0, fun k => ([f40_4] : List (Nat → Int32)).getD k (fun _ => 0), fun k => ([] : List (Nat → Int64)).getD k (fun _ => 0)), rfl, trivial, hp_at ht hP⟩, hS.F ht⟩) hS.2.2 dX11_laysWork_171
            · have h_3 : rg 0 7 x40_2 := r_le_r_i (nlt_i c41) (rgn 0 (x := 0) (by decide)) hx40_2
              refine lv_iconst (v := 0) hx hb dX11_laysWork_44 (by decide) ?_
              refine lv_istore_n (lv' := [(3, .int 0), (0, .ref a0), (1, .int p0), (2, .int x40_2)]) hx hb dX11_laysWork_45 rfl hl (by decide) rfl (fun ls hl => ?_)
              have j46 : ∀ (n : Nat) (x46_3 : Int32) (f46_4 : Nat → Int32) (H : Heap) (locs : List Loc) (ls : Array Slot), 2147483648 ≤ x46_3.toInt + (n : Int) → rg 0 64 x46_3 → va_P G vwCl [(a0, .inr (11, [.int n0_0, .ref a1, .ref a2, .ref a3, .ref a4, .ref a5, .int n0_6, .int n0_7, .int n0_8, .int n0_9, .int n0_10, .long l0_11, .int n0_12, .int n0_13, .int n0_14, .int n0_15, .ref a6, .ref a7, .ref a8, .ref a9, .ref a10, .ref a11, .ref a12, .ref a13, .int n0_24, .int n0_25, .int n0_26, .int n0_27, .ref a14, .int n0_29, .int n0_30])), (a7, .inl (ct 0, 15, .inl f7)), (a8, .inl (ct 0, 200, .inl f8)), (a11, .inl (ct 0, 8, .inl f11)), (a14, .inl (ct 0, 576, .inl f46_4))] H → va_D A [(a0, .inr (11, [.int n0_0, .ref a1, .ref a2, .ref a3, .ref a4, .ref a5, .int n0_6, .int n0_7, .int n0_8, .int n0_9, .int n0_10, .long l0_11, .int n0_12, .int n0_13, .int n0_14, .int n0_15, .ref a6, .ref a7, .ref a8, .ref a9, .ref a10, .ref a11, .ref a12, .ref a13, .int n0_24, .int n0_25, .int n0_26, .int n0_27, .ref a14, .int n0_29, .int n0_30])), (a7, .inl (ct 0, 15, .inl f7)), (a8, .inl (ct 0, 200, .inl f8)), (a11, .inl (ct 0, 8, .inl f11)), (a14, .inl (ct 0, 576, .inl f46_4))] → va_S A s.heap H locs → lv_has ls 8 [(0, .ref a0), (1, .int p0), (2, .int x40_2), (3, .int x46_3)] → W p l e (headSpec wsX11_laysWork ({ frames := 2, cells := 0, slots := 0, locals := 45 })).room s m ([.ref a0, .int p0] : List Value).toArray below meth c H locs 0 0 (MQ below (va_Qv (fun u : SU => True) (fun u t => va_P G vwCl ((fun u : SU => [(a0, .inr (11, [.int n0_0, .ref a1, .ref a2, .ref a3, .ref a4, .ref a5, .int n0_6, .int n0_7, .int n0_8, .int n0_9, .int n0_10, .long l0_11, .int n0_12, .int n0_13, .int n0_14, .int n0_15, .ref a6, .ref a7, .ref a8, .ref a9, .ref a10, .ref a11, .ref a12, .ref a13, .int n0_24, .int n0_25, .int n0_26, .int n0_27, .ref a14, .int n0_29, .int n0_30])), (a7, .inl (ct 0, 15, .inl f7)), (a8, .inl (ct 0, 200, .inl f8)), (a11, .inl (ct 0, 8, .inl f11)), (a14, .inl (ct 0, 576, .inl (u.2.1 0)))]) u) t.heap) A) ([.ref a0, .int p0] : List Value).toArray s 0 0 A) (F0 m 46 ls []) := by
                intro n
                induction n with
                | zero => intro x46_3 f46_4 H locs ls hn46 hx46_3 hP hD hS hl; exact absurd hn46 (by have := Int32.toInt_lt x46_3; have := Int32.le_toInt x46_3; omega)
                | succ n ih46 =>
                  intro x46_3 f46_4 H locs ls hn46 hx46_3 hP hD hS hl
                  refine lv_iload_n hx hb dX11_laysWork_46 rfl (lv_at hl 3 rfl) ?_
                  refine lv_bipush (v := 64) hx hb dX11_laysWork_47 (by decide) ?_
                  refine lv_icmp_ge (tgt := 165) hx hb dX11_laysWork_49 (by decide) (fun c49 => ?_) (fun c49 => ?_)
                  · have h_4 : rg 64 64 x46_3 := r_le_r_i c49 (rgn 64 (x := 64) (by decide)) hx46_3
                    obtain ⟨z165, qz165⟩ : ∃ y : Int32, y = x40_2 + Int32.ofInt (-1) := ⟨_, rfl⟩
                    obtain ⟨hz165, ez165⟩ := inc_z (e := (-1)) (f := 6) h_3 qz165 (by decide)
                    refine lv_iinc (v := z165) (lv' := [(2, .int z165), (0, .ref a0), (1, .int p0), (3, .int x46_3)]) hx hb dX11_laysWork_165 hl (k := 2) rfl (qz165.symm) (by decide) rfl (fun ls hl => ?_)
                    refine lv_goto (tgt := 40) hx hb dX11_laysWork_168 (by decide) ?_
                    exact ih40 z165 f46_4 _ _ ls (by have q := hn40; have := ez165; omega) (rg_w (c := (-1)) (d := 7) hz165 (by decide)) hP hD hS (lv_sub hl [1, 2, 0] rfl)
                  · have h_5 : rg 0 63 x46_3 := r_lt_l_i (nle_i c49) hx46_3 (rgn 64 (x := 64) (by decide)) (by decide)
                    refine lv_aload_n hx hb dX11_laysWork_52 rfl (lv_at hl 0 rfl) ?_
                    refine va_get (D := G) (ci := 11) (v := .ref a14) (C := RX11) (T := TX11) (N := 31) hx hb hts (by decide +kernel) hown hK.1 hP 0 rfl rfl 28 (by decide) (hts (.fieldLink RX11 56 "CardHolderModel" "most" "[I") (by decide +kernel)) (fun _ h9 => h9) rfl dX11_laysWork_53 ?_
                    refine lv_bipush (v := 64) hx hb dX11_laysWork_56 (by decide) ?_
                    refine lv_iload_n hx hb dX11_laysWork_58 rfl (lv_at hl 2 rfl) ?_
                    refine lv_iconst (v := 1) hx hb dX11_laysWork_59 (by decide) ?_
                    refine lv_iadd hx hb dX11_laysWork_60 ?_
                    refine nm_add (e1 := 1) (f := 8) h_3 (rgn 1 (x := 1) (by decide)) (by decide) (fun z60 hz60 ez60 => ?_)
                    replace ez60 := eqc_r ez60 (c := 1) (by decide)
                    refine lv_imul hx hb dX11_laysWork_61 ?_
                    refine nm_mul (e1 := 64) (f := 512) (rgn 64 (x := 64) (by decide)) hz60 (by decide) (fun z61 hz61 ez61 => ?_)
                    refine lv_iload_n hx hb dX11_laysWork_62 rfl (lv_at hl 3 rfl) ?_
                    refine lv_iadd hx hb dX11_laysWork_63 ?_
                    refine nm_add (e1 := 64) (f := 575) hz61 h_5 (by decide) (fun z63 hz63 ez63 => ?_)
                    refine va_iald hx hb hK.1 hP 4 0 rfl rfl (in_rg hz63 (by decide)) dX11_laysWork_64 ?_
                    refine lv_topi (fun z64 gz64 => ?_)
                    refine lv_istore (lv' := [(4, .int z64), (0, .ref a0), (1, .int p0), (2, .int x40_2), (3, .int x46_3)]) hx hb dX11_laysWork_65 hl (by decide) rfl (fun ls hl => ?_)
                    refine lv_aload_n hx hb dX11_laysWork_67 rfl (lv_at hl 1 rfl) ?_
                    refine lv_iload_n hx hb dX11_laysWork_68 rfl (lv_at hl 3 rfl) ?_
                    refine lv_iload_n hx hb dX11_laysWork_69 rfl (lv_at hl 2 rfl) ?_
                    refine lv_iload_n hx hb dX11_laysWork_70 rfl (lv_at hl 4 rfl) ?_
                    refine ro_calli (va_runV (As := [.int x40_2, .int p0, .int x46_3]) (rest := []) ⟨hx, hb, hml, hown, hts⟩ (a_X11_mayDo l G ct a0 n0_0 a1 a2 a3 a4 a5 n0_6 n0_7 n0_8 n0_9 n0_10 l0_11 n0_12 n0_13 n0_14 n0_15 a6 a7 a8 a9 a10 a11 a12 a13 n0_24 n0_25 n0_26 n0_27 a14 n0_29 n0_30 f8 f11 x40_2 p0 x46_3 hp_n0_6 hp_f8 hp_f11 h_3) (cwV 3 hts gX11_laysWork_X11_mayDo rfl rfl rfl (by decide +kernel) ⟨Nat.le_of_ble_eq_true rfl, Nat.le_of_ble_eq_true rfl⟩) (ro_preV 11 0 hK (hP.sub [0, 2, 3] rfl) rfl rfl) rfl rfl hl.1 rfl (lv_room (Nat.le_of_ble_eq_true rfl)) dX11_laysWork_71 ⟨Nat.zero_le _, Nat.zero_le _⟩) hS hP (fun r71 H locs wr71 hP hS => ?_)
                    obtain ⟨p_6, p_7, -⟩ := wr71
                    refine lv_istore (lv' := [(5, .int r71), (4, .int z64), (0, .ref a0), (1, .int p0), (2, .int x40_2), (3, .int x46_3)]) hx hb dX11_laysWork_74 hl (by decide) rfl (fun ls hl => ?_)
                    refine lv_iconst (v := 0) hx hb dX11_laysWork_76 (by decide) ?_
                    refine lv_istore (lv' := [(6, .int 0), (5, .int r71), (4, .int z64), (0, .ref a0), (1, .int p0), (2, .int x40_2), (3, .int x46_3)]) hx hb dX11_laysWork_77 hl (by decide) rfl (fun ls hl => ?_)
                    have j79 : ∀ (n : Nat) (x79_4 : Int32) (x79_6 : Int32) (H : Heap) (locs : List Loc) (ls : Array Slot), 2147483648 ≤ x79_6.toInt + (n : Int) → rg 0 6 x79_6 → va_P G vwCl [(a0, .inr (11, [.int n0_0, .ref a1, .ref a2, .ref a3, .ref a4, .ref a5, .int n0_6, .int n0_7, .int n0_8, .int n0_9, .int n0_10, .long l0_11, .int n0_12, .int n0_13, .int n0_14, .int n0_15, .ref a6, .ref a7, .ref a8, .ref a9, .ref a10, .ref a11, .ref a12, .ref a13, .int n0_24, .int n0_25, .int n0_26, .int n0_27, .ref a14, .int n0_29, .int n0_30])), (a7, .inl (ct 0, 15, .inl f7)), (a8, .inl (ct 0, 200, .inl f8)), (a11, .inl (ct 0, 8, .inl f11)), (a14, .inl (ct 0, 576, .inl f46_4))] H → va_D A [(a0, .inr (11, [.int n0_0, .ref a1, .ref a2, .ref a3, .ref a4, .ref a5, .int n0_6, .int n0_7, .int n0_8, .int n0_9, .int n0_10, .long l0_11, .int n0_12, .int n0_13, .int n0_14, .int n0_15, .ref a6, .ref a7, .ref a8, .ref a9, .ref a10, .ref a11, .ref a12, .ref a13, .int n0_24, .int n0_25, .int n0_26, .int n0_27, .ref a14, .int n0_29, .int n0_30])), (a7, .inl (ct 0, 15, .inl f7)), (a8, .inl (ct 0, 200, .inl f8)), (a11, .inl (ct 0, 8, .inl f11)), (a14, .inl (ct 0, 576, .inl f46_4))] → va_S A s.heap H locs → lv_has ls 8 [(0, .ref a0), (1, .int p0), (2, .int x40_2), (3, .int x46_3), (4, .int x79_4), (5, .int r71), (6, .int x79_6)] → W p l e (headSpec wsX11_laysWork ({ frames := 2, cells := 0, slots := 0, locals := 45 })).room s m ([.ref a0, .int p0] : List Value).toArray below meth c H locs 0 0 (MQ below (va_Qv (fun u : SU => True) (fun u t => va_P G vwCl ((fun u : SU => [(a0, .inr (11, [.int n0_0, .ref a1, .ref a2, .ref a3, .ref a4, .ref a5, .int n0_6, .int n0_7, .int n0_8, .int n0_9, .int n0_10, .long l0_11, .int n0_12, .int n0_13, .int n0_14, .int n0_15, .ref a6, .ref a7, .ref a8, .ref a9, .ref a10, .ref a11, .ref a12, .ref a13, .int n0_24, .int n0_25, .int n0_26, .int n0_27, .ref a14, .int n0_29, .int n0_30])), (a7, .inl (ct 0, 15, .inl f7)), (a8, .inl (ct 0, 200, .inl f8)), (a11, .inl (ct 0, 8, .inl f11)), (a14, .inl (ct 0, 576, .inl (u.2.1 0)))]) u) t.heap) A) ([.ref a0, .int p0] : List Value).toArray s 0 0 A) (F0 m 79 ls []) := by
                      intro n
                      induction n with
                      | zero => intro x79_4 x79_6 H locs ls hn79 hx79_6 hP hD hS hl; exact absurd hn79 (by have := Int32.toInt_lt x79_6; have := Int32.le_toInt x79_6; omega)
                      | succ n ih79 =>
                        intro x79_4 x79_6 H locs ls hn79 hx79_6 hP hD hS hl
                        refine lv_iload hx hb dX11_laysWork_79 (lv_at hl 6 rfl) ?_
                        refine lv_bipush (v := 6) hx hb dX11_laysWork_81 (by decide) ?_
                        refine lv_icmp_ge (tgt := 146) hx hb dX11_laysWork_83 (by decide) (fun c83 => ?_) (fun c83 => ?_)
                        · have h_8 : rg 6 6 x79_6 := r_le_r_i c83 (rgn 6 (x := 6) (by decide)) hx79_6
                          refine lv_aload_n hx hb dX11_laysWork_146 rfl (lv_at hl 0 rfl) ?_
                          refine va_get (D := G) (ci := 11) (v := .ref a14) (C := RX11) (T := TX11) (N := 31) hx hb hts (by decide +kernel) hown hK.1 hP 0 rfl rfl 28 (by decide) (hts (.fieldLink RX11 56 "CardHolderModel" "most" "[I") (by decide +kernel)) (fun _ h9 => h9) rfl dX11_laysWork_147 ?_
                          refine lv_bipush (v := 64) hx hb dX11_laysWork_150 (by decide) ?_
                          refine lv_iload_n hx hb dX11_laysWork_152 rfl (lv_at hl 2 rfl) ?_
                          refine lv_imul hx hb dX11_laysWork_153 ?_
                          refine nm_mul (e1 := 0) (f := 448) (rgn 64 (x := 64) (by decide)) h_3 (by decide) (fun z153 hz153 ez153 => ?_)
                          refine lv_iload_n hx hb dX11_laysWork_154 rfl (lv_at hl 3 rfl) ?_
                          refine lv_iadd hx hb dX11_laysWork_155 ?_
                          refine nm_add (e1 := 0) (f := 511) hz153 h_5 (by decide) (fun z155 hz155 ez155 => ?_)
                          refine lv_iload hx hb dX11_laysWork_156 (lv_at hl 4 rfl) ?_
                          refine va_iast hx hb hK.1 hP hD hS 4 0 rfl rfl (in_rg hz155 (by decide)) dX11_laysWork_158 (fun H locs hP hD hS => ?_)
                          obtain ⟨z159, qz159⟩ : ∃ y : Int32, y = x46_3 + Int32.ofInt 1 := ⟨_, rfl⟩
                          obtain ⟨hz159, ez159⟩ := inc_z (e := 1) (f := 64) h_5 qz159 (by decide)
                          refine lv_iinc (v := z159) (lv' := [(3, .int z159), (0, .ref a0), (1, .int p0), (2, .int x40_2), (4, .int x79_4), (5, .int r71), (6, .int x79_6)]) hx hb dX11_laysWork_159 hl (k := 3) rfl (qz159.symm) (by decide) rfl (fun ls hl => ?_)
                          refine lv_goto (tgt := 46) hx hb dX11_laysWork_162 (by decide) ?_
                          exact ih46 z159 (upd f46_4 z155.toNatClampNeg x79_4) _ _ ls (by have q := hn46; have := ez159; omega) (rg_w (c := 0) (d := 64) hz159 (by decide)) hP hD hS (lv_sub hl [1, 2, 3, 0] rfl)
                        · have h_9 : rg 0 5 x79_6 := r_lt_l_i (nle_i c83) hx79_6 (rgn 6 (x := 6) (by decide)) (by decide)
                          refine lv_iload hx hb dX11_laysWork_86 (lv_at hl 5 rfl) ?_
                          refine lv_iload hx hb dX11_laysWork_88 (lv_at hl 6 rfl) ?_
                          refine ro_calli (va_runS (As := [.int r71, .int x79_6]) (rest := []) ⟨hx, hb, hml, hown, hts⟩ (a_X11_isBit l G ct r71 x79_6) (va_cwS 2 hts gX11_laysWork_X11_isBit rfl rfl rfl (by decide +kernel) ⟨Nat.le_of_ble_eq_true rfl, Nat.le_of_ble_eq_true rfl⟩) (ro_pre hK (hP.sub [] rfl)) rfl rfl hl.1 rfl (lv_room (Nat.le_of_ble_eq_true rfl)) dX11_laysWork_90 ⟨Nat.zero_le _, Nat.zero_le _⟩) hS hP (fun r90 H locs wr90 hP hS => ?_)
                          obtain ⟨p_10, -⟩ := wr90
                          have j122 : ∀ (y122_0 : Int32) (H : Heap) (locs : List Loc) (ls : Array Slot), va_P G vwCl [(a0, .inr (11, [.int n0_0, .ref a1, .ref a2, .ref a3, .ref a4, .ref a5, .int n0_6, .int n0_7, .int n0_8, .int n0_9, .int n0_10, .long l0_11, .int n0_12, .int n0_13, .int n0_14, .int n0_15, .ref a6, .ref a7, .ref a8, .ref a9, .ref a10, .ref a11, .ref a12, .ref a13, .int n0_24, .int n0_25, .int n0_26, .int n0_27, .ref a14, .int n0_29, .int n0_30])), (a7, .inl (ct 0, 15, .inl f7)), (a8, .inl (ct 0, 200, .inl f8)), (a11, .inl (ct 0, 8, .inl f11)), (a14, .inl (ct 0, 576, .inl f46_4))] H → va_D A [(a0, .inr (11, [.int n0_0, .ref a1, .ref a2, .ref a3, .ref a4, .ref a5, .int n0_6, .int n0_7, .int n0_8, .int n0_9, .int n0_10, .long l0_11, .int n0_12, .int n0_13, .int n0_14, .int n0_15, .ref a6, .ref a7, .ref a8, .ref a9, .ref a10, .ref a11, .ref a12, .ref a13, .int n0_24, .int n0_25, .int n0_26, .int n0_27, .ref a14, .int n0_29, .int n0_30])), (a7, .inl (ct 0, 15, .inl f7)), (a8, .inl (ct 0, 200, .inl f8)), (a11, .inl (ct 0, 8, .inl f11)), (a14, .inl (ct 0, 576, .inl f46_4))] → va_S A s.heap H locs → lv_has ls 8 [(0, .ref a0), (1, .int p0), (2, .int x40_2), (3, .int x46_3), (4, .int x79_4), (5, .int r71), (6, .int x79_6)] → W p l e (headSpec wsX11_laysWork ({ frames := 2, cells := 0, slots := 0, locals := 45 })).room s m ([.ref a0, .int p0] : List Value).toArray below meth c H locs 0 0 (MQ below (va_Qv (fun u : SU => True) (fun u t => va_P G vwCl ((fun u : SU => [(a0, .inr (11, [.int n0_0, .ref a1, .ref a2, .ref a3, .ref a4, .ref a5, .int n0_6, .int n0_7, .int n0_8, .int n0_9, .int n0_10, .long l0_11, .int n0_12, .int n0_13, .int n0_14, .int n0_15, .ref a6, .ref a7, .ref a8, .ref a9, .ref a10, .ref a11, .ref a12, .ref a13, .int n0_24, .int n0_25, .int n0_26, .int n0_27, .ref a14, .int n0_29, .int n0_30])), (a7, .inl (ct 0, 15, .inl f7)), (a8, .inl (ct 0, 200, .inl f8)), (a11, .inl (ct 0, 8, .inl f11)), (a14, .inl (ct 0, 576, .inl (u.2.1 0)))]) u) t.heap) A) ([.ref a0, .int p0] : List Value).toArray s 0 0 A) (F0 m 122 ls [.int y122_0]) := by
                            intro y122_0 H locs ls  hP hD hS hl
                            refine lv_istore (lv' := [(7, .int y122_0), (0, .ref a0), (1, .int p0), (2, .int x40_2), (3, .int x46_3), (4, .int x79_4), (5, .int r71), (6, .int x79_6)]) hx hb dX11_laysWork_122 hl (by decide) rfl (fun ls hl => ?_)
                            refine lv_iload hx hb dX11_laysWork_124 (lv_at hl 0 rfl) ?_
                            refine lv_iload hx hb dX11_laysWork_126 (lv_at hl 5 rfl) ?_
                            have j138 : ∀ (y138_0 : Int32) (H : Heap) (locs : List Loc) (ls : Array Slot), va_P G vwCl [(a0, .inr (11, [.int n0_0, .ref a1, .ref a2, .ref a3, .ref a4, .ref a5, .int n0_6, .int n0_7, .int n0_8, .int n0_9, .int n0_10, .long l0_11, .int n0_12, .int n0_13, .int n0_14, .int n0_15, .ref a6, .ref a7, .ref a8, .ref a9, .ref a10, .ref a11, .ref a12, .ref a13, .int n0_24, .int n0_25, .int n0_26, .int n0_27, .ref a14, .int n0_29, .int n0_30])), (a7, .inl (ct 0, 15, .inl f7)), (a8, .inl (ct 0, 200, .inl f8)), (a11, .inl (ct 0, 8, .inl f11)), (a14, .inl (ct 0, 576, .inl f46_4))] H → va_D A [(a0, .inr (11, [.int n0_0, .ref a1, .ref a2, .ref a3, .ref a4, .ref a5, .int n0_6, .int n0_7, .int n0_8, .int n0_9, .int n0_10, .long l0_11, .int n0_12, .int n0_13, .int n0_14, .int n0_15, .ref a6, .ref a7, .ref a8, .ref a9, .ref a10, .ref a11, .ref a12, .ref a13, .int n0_24, .int n0_25, .int n0_26, .int n0_27, .ref a14, .int n0_29, .int n0_30])), (a7, .inl (ct 0, 15, .inl f7)), (a8, .inl (ct 0, 200, .inl f8)), (a11, .inl (ct 0, 8, .inl f11)), (a14, .inl (ct 0, 576, .inl f46_4))] → va_S A s.heap H locs → lv_has ls 8 [(0, .ref a0), (1, .int p0), (2, .int x40_2), (3, .int x46_3), (4, .int x79_4), (5, .int r71), (6, .int x79_6), (7, .int y122_0)] → W p l e (headSpec wsX11_laysWork ({ frames := 2, cells := 0, slots := 0, locals := 45 })).room s m ([.ref a0, .int p0] : List Value).toArray below meth c H locs 0 0 (MQ below (va_Qv (fun u : SU => True) (fun u t => va_P G vwCl ((fun u : SU => [(a0, .inr (11, [.int n0_0, .ref a1, .ref a2, .ref a3, .ref a4, .ref a5, .int n0_6, .int n0_7, .int n0_8, .int n0_9, .int n0_10, .long l0_11, .int n0_12, .int n0_13, .int n0_14, .int n0_15, .ref a6, .ref a7, .ref a8, .ref a9, .ref a10, .ref a11, .ref a12, .ref a13, .int n0_24, .int n0_25, .int n0_26, .int n0_27, .ref a14, .int n0_29, .int n0_30])), (a7, .inl (ct 0, 15, .inl f7)), (a8, .inl (ct 0, 200, .inl f8)), (a11, .inl (ct 0, 8, .inl f11)), (a14, .inl (ct 0, 576, .inl (u.2.1 0)))]) u) t.heap) A) ([.ref a0, .int p0] : List Value).toArray s 0 0 A) (F0 m 138 ls [.int y138_0]) := by
                              intro y138_0 H locs ls  hP hD hS hl
                              refine lv_istore (lv' := [(4, .int y138_0), (0, .ref a0), (1, .int p0), (2, .int x40_2), (3, .int x46_3), (5, .int r71), (6, .int x79_6), (7, .int y122_0)]) hx hb dX11_laysWork_138 hl (by decide) rfl (fun ls hl => ?_)
                              obtain ⟨z140, qz140⟩ : ∃ y : Int32, y = x79_6 + Int32.ofInt 1 := ⟨_, rfl⟩
                              obtain ⟨hz140, ez140⟩ := inc_z (e := 1) (f := 6) h_9 qz140 (by decide)
                              refine lv_iinc (v := z140) (lv' := [(6, .int z140), (4, .int y138_0), (0, .ref a0), (1, .int p0), (2, .int x40_2), (3, .int x46_3), (5, .int r71), (7, .int y122_0)]) hx hb dX11_laysWork_140 hl (k := 6) rfl (qz140.symm) (by decide) rfl (fun ls hl => ?_)
                              refine lv_goto (tgt := 79) hx hb dX11_laysWork_143 (by decide) ?_
                              exact ih79 y138_0 z140 _ _ ls (by have q := hn79; have := ez140; omega) (rg_w (c := 0) (d := 6) hz140 (by decide)) hP hD hS (lv_sub hl [2, 3, 4, 5, 1, 6, 0] rfl)
                            refine lv_icmp_le (tgt := 136) hx hb dX11_laysWork_128 (by decide) (fun c128 => ?_) (fun c128 => ?_)
                            · refine lv_iload hx hb dX11_laysWork_136 (lv_at hl 5 rfl) ?_
                              exact j138 x79_4 _ _ ls hP hD hS (lv_sub hl [1, 2, 3, 4, 5, 6, 7, 0] rfl)
                            · have h_11 : rg (-2147483648) 2147483646 x79_4 := r_lt_l_i (nle_i c128) (rg_t x79_4) (rg_t y122_0) (by decide)
                              have h_12 : rg (-2147483647) 2147483647 y122_0 := r_lt_r_i (nle_i c128) (rg_t x79_4) (rg_t y122_0) (by decide)
                              refine lv_iload hx hb dX11_laysWork_131 (lv_at hl 0 rfl) ?_
                              refine lv_goto (tgt := 138) hx hb dX11_laysWork_133 (by decide) ?_
                              exact j138 y122_0 _ _ ls hP hD hS (lv_sub hl [1, 2, 3, 4, 5, 6, 7, 0] rfl)
                          refine lv_if_eq (tgt := 121) hx hb dX11_laysWork_93 (by decide) (fun c93 => ?_) (fun c93 => ?_)
                          · have h_13 : rg 0 0 r90 := r_eq_l_i (e := 0) (f := 0) c93 p_10 (rgn 0 (x := 0) (by decide)) (by decide)
                            refine lv_iconst (v := 0) hx hb dX11_laysWork_121 (by decide) ?_
                            exact j122 (0 : Int32) _ _ ls hP hD hS (lv_sub hl [0, 1, 2, 3, 4, 5, 6] rfl)
                          · have h_14 : rg 1 1 r90 := r_ne_lo_i c93 p_10 (by decide) (by decide)
                            refine lv_iconst (v := 1) hx hb dX11_laysWork_96 (by decide) ?_
                            refine lv_aload_n hx hb dX11_laysWork_97 rfl (lv_at hl 0 rfl) ?_
                            refine va_get (D := G) (ci := 11) (v := .ref a14) (C := RX11) (T := TX11) (N := 31) hx hb hts (by decide +kernel) hown hK.1 hP 0 rfl rfl 28 (by decide) (hts (.fieldLink RX11 56 "CardHolderModel" "most" "[I") (by decide +kernel)) (fun _ h9 => h9) rfl dX11_laysWork_98 ?_
                            refine lv_bipush (v := 64) hx hb dX11_laysWork_101 (by decide) ?_
                            refine lv_iload_n hx hb dX11_laysWork_103 rfl (lv_at hl 2 rfl) ?_
                            refine lv_iconst (v := 1) hx hb dX11_laysWork_104 (by decide) ?_
                            refine lv_iadd hx hb dX11_laysWork_105 ?_
                            refine nm_add (e1 := 1) (f := 8) h_3 (rgn 1 (x := 1) (by decide)) (by decide) (fun z105 hz105 ez105 => ?_)
                            replace ez105 := eqc_r ez105 (c := 1) (by decide)
                            refine lv_imul hx hb dX11_laysWork_106 ?_
                            refine nm_mul (e1 := 64) (f := 512) (rgn 64 (x := 64) (by decide)) hz105 (by decide) (fun z106 hz106 ez106 => ?_)
                            refine lv_iload_n hx hb dX11_laysWork_107 rfl (lv_at hl 3 rfl) ?_
                            refine lv_iconst (v := 1) hx hb dX11_laysWork_108 (by decide) ?_
                            refine lv_iload hx hb dX11_laysWork_109 (lv_at hl 6 rfl) ?_
                            refine lv_ishl hx hb dX11_laysWork_111 ?_
                            refine nm_shl (e1 := 1) (f := 32) h_9 (by decide) (fun z111 hz111 => ?_)
                            refine lv_iconst (v := (-1)) hx hb dX11_laysWork_112 (by decide) ?_
                            refine lv_ixor hx hb dX11_laysWork_113 ?_
                            refine nm_0 (fun z113 => ?_)
                            refine lv_iand hx hb dX11_laysWork_114 ?_
                            refine nm_andl h_5 (by decide) (fun z114 hz114 => ?_)
                            refine lv_iadd hx hb dX11_laysWork_115 ?_
                            refine nm_add (e1 := 64) (f := 575) hz106 hz114 (by decide) (fun z115 hz115 ez115 => ?_)
                            refine va_iald hx hb hK.1 hP 4 0 rfl rfl (in_rg hz115 (by decide)) dX11_laysWork_116 ?_
                            refine lv_topi (fun z116 gz116 => ?_)
                            refine lv_iadd hx hb dX11_laysWork_117 ?_
                            refine nm_0 (fun z117 => ?_)
                            refine lv_goto (tgt := 122) hx hb dX11_laysWork_118 (by decide) ?_
                            exact j122 z117 _ _ ls hP hD hS (lv_sub hl [0, 1, 2, 3, 4, 5, 6] rfl)
                    exact j79 4294967296 z64 (0 : Int32) _ _ ls (ms_e (0 : Int32)) (rg_w (c := 0) (d := 6) (rgn 0 (x := 0) (by decide)) (by decide)) hP hD hS (lv_sub hl [3, 4, 5, 6, 2, 1, 0] rfl)
              exact j46 4294967296 (0 : Int32) f40_4 _ _ ls (ms_e (0 : Int32)) (rg_w (c := 0) (d := 64) (rgn 0 (x := 0) (by decide)) (by decide)) hP hD hS (lv_sub hl [1, 2, 3, 0] rfl)
        exact j40 4294967296 z38 f2_4 _ _ ls (md_e z38) hz38 hP hD hS (lv_sub hl [1, 2, 0] rfl)
      · have h_15 : rg 0 63 x2_2 := r_lt_l_i (nle_i c5) hx2_2 (rgn 64 (x := 64) (by decide)) (by decide)
        refine lv_aload_n hx hb dX11_laysWork_8 rfl (lv_at hl 0 rfl) ?_
        refine va_get (D := G) (ci := 11) (v := .ref a14) (C := RX11) (T := TX11) (N := 31) hx hb hts (by decide +kernel) hown hK.1 hP 0 rfl rfl 28 (by decide) (hts (.fieldLink RX11 56 "CardHolderModel" "most" "[I") (by decide +kernel)) (fun _ h9 => h9) rfl dX11_laysWork_9 ?_
        refine lv_bipush (v := 64) hx hb dX11_laysWork_12 (by decide) ?_
        refine lv_aload_n hx hb dX11_laysWork_14 rfl (lv_at hl 0 rfl) ?_
        refine va_get (D := G) (ci := 11) (v := .ref a7) (C := RX11) (T := TX11) (N := 31) hx hb hts (by decide +kernel) hown hK.1 hP 0 rfl rfl 17 (by decide) (hts (.fieldLink RX11 34 "CardHolderModel" "has" "[I") (by decide +kernel)) (fun _ h9 => h9) rfl dX11_laysWork_15 ?_
        refine lv_iconst (v := 1) hx hb dX11_laysWork_18 (by decide) ?_
        refine va_iald hx hb hK.1 hP 1 0 rfl rfl (in_lit (by decide)) dX11_laysWork_19 ?_
        refine lv_topi (fun z19 gz19 => ?_)
        have hz19 : rg 0 8 z19 := by rw [gz19]; exact (hp_f7.1 0)
        refine lv_imul hx hb dX11_laysWork_20 ?_
        refine nm_mul (e1 := 0) (f := 512) (rgn 64 (x := 64) (by decide)) hz19 (by decide) (fun z20 hz20 ez20 => ?_)
        refine lv_iload_n hx hb dX11_laysWork_21 rfl (lv_at hl 2 rfl) ?_
        refine lv_iadd hx hb dX11_laysWork_22 ?_
        refine nm_add (e1 := 0) (f := 575) hz20 h_15 (by decide) (fun z22 hz22 ez22 => ?_)
        refine lv_iconst (v := 0) hx hb dX11_laysWork_23 (by decide) ?_
        refine va_iast hx hb hK.1 hP hD hS 4 0 rfl rfl (in_rg hz22 (by decide)) dX11_laysWork_24 (fun H locs hP hD hS => ?_)
        obtain ⟨z25, qz25⟩ : ∃ y : Int32, y = x2_2 + Int32.ofInt 1 := ⟨_, rfl⟩
        obtain ⟨hz25, ez25⟩ := inc_z (e := 1) (f := 64) h_15 qz25 (by decide)
        refine lv_iinc (v := z25) (lv' := [(2, .int z25), (0, .ref a0), (1, .int p0)]) hx hb dX11_laysWork_25 hl (k := 2) rfl (qz25.symm) (by decide) rfl (fun ls hl => ?_)
        refine lv_goto (tgt := 2) hx hb dX11_laysWork_28 (by decide) ?_
        exact ih2 z25 (upd f2_4 z22.toNatClampNeg 0) _ _ ls (by have q := hn2; have := ez25; omega) (rg_w (c := 0) (d := 64) hz25 (by decide)) hP hD hS (lv_sub hl [1, 2, 0] rfl)
  exact j2 4294967296 (0 : Int32) f14 _ _ ls (ms_e (0 : Int32)) (rg_w (c := 0) (d := 64) (rgn 0 (x := 0) (by decide)) (by decide)) hP hD hS (lv_sub hl [1, 2, 0] rfl)
