theorem dX11_ask_0 : decode cX11_ask 0 = .ok (.aload_n 0, 1) := by decide +kernel
theorem dX11_ask_1 : decode cX11_ask 1 = .ok (.iconst 0, 1) := by decide +kernel
theorem dX11_ask_2 : decode cX11_ask 2 = .ok (.putfield 59, 3) := by decide +kernel
theorem dX11_ask_5 : decode cX11_ask 5 = .ok (.aload_n 0, 1) := by decide +kernel
theorem dX11_ask_6 : decode cX11_ask 6 = .ok (.iload_n 1, 1) := by decide +kernel
theorem dX11_ask_7 : decode cX11_ask 7 = .ok (.iload_n 2, 1) := by decide +kernel
set_option maxRecDepth 20000 in
theorem ggX11_ask_X11_arePeople : GoodIn wsX11_ask wsX11_arePeople := goodIn_r _ [7, 8, 9, 10, 6, 11, 12, 13, 14, 15, 71, 72, 73, 74, 75, 76, 77, 78, 79, 80, 81, 82, 83, 84, 85, 86, 87, 88, 89, 90, 91, 92, 93, 94, 95, 96, 97, 98, 99, 100, 101] (by rfl) (by decide +kernel)
set_option maxRecDepth 20000 in
theorem gX11_ask_X11_arePeople : GoodIn wsX11_ask (wsV RX11 266 RX11 yX11_arePeople wsX11_arePeople) := goodIn_app (goodIn_r _ [3, 4, 5, 6] (by rfl) (by decide +kernel)) ggX11_ask_X11_arePeople
theorem dX11_ask_8 : decode cX11_ask 8 = .ok (.invokevirtual 266, 3) := by decide +kernel
theorem dX11_ask_11 : decode cX11_ask 11 = .ok (.ifCond .eq 11, 3) := by decide +kernel
theorem dX11_ask_22 : decode cX11_ask 22 = .ok (.bipush (-2), 2) := by decide +kernel
theorem dX11_ask_24 : decode cX11_ask 24 = .ok (.ireturn, 1) := by decide +kernel
theorem dX11_ask_14 : decode cX11_ask 14 = .ok (.iload_n 3, 1) := by decide +kernel
theorem dX11_ask_15 : decode cX11_ask 15 = .ok (.i2l, 1) := by decide +kernel
set_option maxRecDepth 20000 in
theorem ggX11_ask_X11_isDeed : GoodIn wsX11_ask wsX11_isDeed := goodIn_r _ [18, 19, 13, 14, 6, 15] (by rfl) (by decide +kernel)
set_option maxRecDepth 20000 in
theorem gX11_ask_X11_isDeed : GoodIn wsX11_ask (va_wsS RX11 278 yX11_isDeed wsX11_isDeed) := goodIn_app (goodIn_r _ [16, 17, 6] (by rfl) (by decide +kernel)) ggX11_ask_X11_isDeed
theorem dX11_ask_16 : decode cX11_ask 16 = .ok (.invokestatic 278, 3) := by decide +kernel
theorem dX11_ask_19 : decode cX11_ask 19 = .ok (.ifCond .ne 6, 3) := by decide +kernel
theorem dX11_ask_25 : decode cX11_ask 25 = .ok (.aload_n 0, 1) := by decide +kernel
set_option maxRecDepth 20000 in
theorem ggX11_ask_X11_laysNow : GoodIn wsX11_ask wsX11_laysNow := goodIn_r _ [23, 12, 24, 25, 26, 27, 6, 28, 29, 2, 30, 31, 32, 33, 34, 35, 36, 37, 38, 39, 40, 41, 42, 43, 44, 45, 46, 47, 48, 49, 50, 51, 52, 53, 54, 55, 56, 57, 58, 71, 72, 73, 74, 75, 76, 77, 78, 79, 80, 81, 82, 83, 84, 85, 86, 87, 88, 89, 90, 91, 92, 93, 94, 95, 96, 97, 98, 99, 100, 101] (by rfl) (by decide +kernel)
set_option maxRecDepth 20000 in
theorem gX11_ask_X11_laysNow : GoodIn wsX11_ask (wsV RX11 251 RX11 yX11_laysNow wsX11_laysNow) := goodIn_app (goodIn_r _ [20, 21, 22, 6] (by rfl) (by decide +kernel)) ggX11_ask_X11_laysNow
theorem dX11_ask_26 : decode cX11_ask 26 = .ok (.invokevirtual 251, 3) := by decide +kernel
theorem dX11_ask_29 : decode cX11_ask 29 = .ok (.aload_n 0, 1) := by decide +kernel
theorem dX11_ask_30 : decode cX11_ask 30 = .ok (.iload_n 1, 1) := by decide +kernel
theorem dX11_ask_31 : decode cX11_ask 31 = .ok (.iload_n 2, 1) := by decide +kernel
theorem dX11_ask_32 : decode cX11_ask 32 = .ok (.iload_n 3, 1) := by decide +kernel
set_option maxRecDepth 20000 in
theorem ggX11_ask_X11_whyOf : GoodIn wsX11_ask wsX11_whyOf := goodIn_r _ [62, 29, 31, 56, 57, 6, 58, 35, 36, 37, 38, 39, 71, 72, 73, 74, 75, 76, 77, 78, 79, 80, 81, 82, 83, 84, 85, 86, 87, 88, 89, 90, 91, 92, 93, 94, 95, 96, 97, 98, 99, 100, 101] (by rfl) (by decide +kernel)
set_option maxRecDepth 20000 in
theorem gX11_ask_X11_whyOf : GoodIn wsX11_ask (wsV RX11 287 RX11 yX11_whyOf wsX11_whyOf) := goodIn_app (goodIn_r _ [59, 60, 61, 6] (by rfl) (by decide +kernel)) ggX11_ask_X11_whyOf
theorem dX11_ask_33 : decode cX11_ask 33 = .ok (.invokevirtual 287, 3) := by decide +kernel
theorem dX11_ask_36 : decode cX11_ask 36 = .ok (.ifCond .ne 10, 3) := by decide +kernel
theorem dX11_ask_46 : decode cX11_ask 46 = .ok (.bipush (-5), 2) := by decide +kernel
theorem dX11_ask_48 : decode cX11_ask 48 = .ok (.ireturn, 1) := by decide +kernel
theorem dX11_ask_39 : decode cX11_ask 39 = .ok (.aload_n 0, 1) := by decide +kernel
set_option maxRecDepth 20000 in
theorem ggX11_ask_X11_isFull : GoodIn wsX11_ask wsX11_isFull := goodIn_r _ [66, 12, 71, 72, 73, 74, 75, 76, 77, 78, 79, 80, 81, 82, 83, 84, 85, 86, 87, 88, 89, 90, 91, 92, 93, 94, 95, 96, 97, 98, 99, 100, 101] (by rfl) (by decide +kernel)
set_option maxRecDepth 20000 in
theorem gX11_ask_X11_isFull : GoodIn wsX11_ask (wsV RX11 291 RX11 yX11_isFull wsX11_isFull) := goodIn_app (goodIn_r _ [63, 64, 65, 6] (by rfl) (by decide +kernel)) ggX11_ask_X11_isFull
theorem dX11_ask_40 : decode cX11_ask 40 = .ok (.invokevirtual 291, 3) := by decide +kernel
theorem dX11_ask_43 : decode cX11_ask 43 = .ok (.ifCond .eq 6, 3) := by decide +kernel
theorem dX11_ask_49 : decode cX11_ask 49 = .ok (.aload_n 0, 1) := by decide +kernel
theorem dX11_ask_50 : decode cX11_ask 50 = .ok (.iconst 0, 1) := by decide +kernel
theorem dX11_ask_51 : decode cX11_ask 51 = .ok (.iload_n 1, 1) := by decide +kernel
theorem dX11_ask_52 : decode cX11_ask 52 = .ok (.iload_n 2, 1) := by decide +kernel
theorem dX11_ask_53 : decode cX11_ask 53 = .ok (.iload_n 3, 1) := by decide +kernel
theorem dX11_ask_54 : decode cX11_ask 54 = .ok (.iconst 0, 1) := by decide +kernel
set_option maxRecDepth 20000 in
theorem ggX11_ask_X11_acts : GoodIn wsX11_ask wsX11_acts := goodIn_r _ [70, 12, 24, 71, 72, 73, 74, 75, 76, 77, 78, 79, 80, 81, 82, 83, 84, 85, 86, 87, 88, 89, 90, 91, 92, 93, 94, 95, 96, 97, 98, 99, 100, 101] (by rfl) (by decide +kernel)
set_option maxRecDepth 20000 in
theorem gX11_ask_X11_acts : GoodIn wsX11_ask (wsV RX11 294 RX11 yX11_acts wsX11_acts) := goodIn_app (goodIn_r _ [67, 68, 69, 6] (by rfl) (by decide +kernel)) ggX11_ask_X11_acts
theorem dX11_ask_55 : decode cX11_ask 55 = .ok (.invokevirtual 294, 3) := by decide +kernel
theorem dX11_ask_58 : decode cX11_ask 58 = .ok (.aload_n 0, 1) := by decide +kernel
theorem dX11_ask_59 : decode cX11_ask 59 = .ok (.iload_n 2, 1) := by decide +kernel
set_option maxRecDepth 20000 in
theorem ggX11_ask_X11_readable : GoodIn wsX11_ask wsX11_readable := goodIn_r _ [51, 12, 35, 36, 37, 6, 38, 39, 71, 72, 73, 74, 75, 76, 77, 78, 79, 80, 81, 82, 83, 84, 85, 86, 87, 88, 89, 90, 91, 92, 93, 94, 95, 96, 97, 98, 99, 100, 101] (by rfl) (by decide +kernel)
set_option maxRecDepth 20000 in
theorem gX11_ask_X11_readable : GoodIn wsX11_ask (wsV RX11 236 RX11 yX11_readable wsX11_readable) := goodIn_app (goodIn_r _ [48, 49, 50, 6] (by rfl) (by decide +kernel)) ggX11_ask_X11_readable
theorem dX11_ask_60 : decode cX11_ask 60 = .ok (.invokevirtual 236, 3) := by decide +kernel
theorem dX11_ask_63 : decode cX11_ask 63 = .ok (.aload_n 0, 1) := by decide +kernel
theorem dX11_ask_64 : decode cX11_ask 64 = .ok (.getfield 50, 3) := by decide +kernel
theorem dX11_ask_67 : decode cX11_ask 67 = .ok (.iload_n 2, 1) := by decide +kernel
theorem dX11_ask_68 : decode cX11_ask 68 = .ok (.iaload, 1) := by decide +kernel
theorem dX11_ask_69 : decode cX11_ask 69 = .ok (.isub, 1) := by decide +kernel
theorem dX11_ask_70 : decode cX11_ask 70 = .ok (.iconst 1, 1) := by decide +kernel
theorem dX11_ask_71 : decode cX11_ask 71 = .ok (.isub, 1) := by decide +kernel
theorem dX11_ask_72 : decode cX11_ask 72 = .ok (.ireturn, 1) := by decide +kernel
theorem dX11_give_0 : decode cX11_give 0 = .ok (.aload_n 0, 1) := by decide +kernel
theorem dX11_give_1 : decode cX11_give 1 = .ok (.iconst 0, 1) := by decide +kernel
theorem dX11_give_2 : decode cX11_give 2 = .ok (.putfield 59, 3) := by decide +kernel
theorem dX11_give_5 : decode cX11_give 5 = .ok (.aload_n 0, 1) := by decide +kernel
theorem dX11_give_6 : decode cX11_give 6 = .ok (.iload_n 1, 1) := by decide +kernel
theorem dX11_give_7 : decode cX11_give 7 = .ok (.iload_n 2, 1) := by decide +kernel
set_option maxRecDepth 20000 in
theorem ggX11_give_X11_arePeople : GoodIn wsX11_give wsX11_arePeople := goodIn_r _ [7, 8, 9, 10, 6, 11, 12, 13, 14, 15, 67, 68, 69, 70, 71, 72, 73, 74, 75, 76, 77, 78, 79, 80, 81, 82, 83, 84, 85, 86, 87, 88, 89, 90, 91, 92, 93, 94, 95, 96, 97] (by rfl) (by decide +kernel)
set_option maxRecDepth 20000 in
theorem gX11_give_X11_arePeople : GoodIn wsX11_give (wsV RX11 266 RX11 yX11_arePeople wsX11_arePeople) := goodIn_app (goodIn_r _ [3, 4, 5, 6] (by rfl) (by decide +kernel)) ggX11_give_X11_arePeople
theorem dX11_give_8 : decode cX11_give 8 = .ok (.invokevirtual 266, 3) := by decide +kernel
theorem dX11_give_11 : decode cX11_give 11 = .ok (.ifCond .eq 13, 3) := by decide +kernel
theorem dX11_give_24 : decode cX11_give 24 = .ok (.bipush (-2), 2) := by decide +kernel
theorem dX11_give_26 : decode cX11_give 26 = .ok (.ireturn, 1) := by decide +kernel
theorem dX11_give_14 : decode cX11_give 14 = .ok (.aload_n 0, 1) := by decide +kernel
theorem dX11_give_15 : decode cX11_give 15 = .ok (.iload_n 3, 1) := by decide +kernel
theorem dX11_give_16 : decode cX11_give 16 = .ok (.iload 4, 2) := by decide +kernel
theorem dX11_give_18 : decode cX11_give 18 = .ok (.invokevirtual 266, 3) := by decide +kernel
theorem dX11_give_21 : decode cX11_give 21 = .ok (.ifCond .ne 6, 3) := by decide +kernel
theorem dX11_give_27 : decode cX11_give 27 = .ok (.aload_n 0, 1) := by decide +kernel
set_option maxRecDepth 20000 in
theorem ggX11_give_X11_laysNow : GoodIn wsX11_give wsX11_laysNow := goodIn_r _ [19, 12, 20, 21, 22, 23, 6, 24, 2, 25, 26, 27, 28, 29, 30, 31, 32, 33, 34, 35, 36, 37, 38, 39, 40, 41, 42, 43, 44, 45, 46, 47, 48, 49, 50, 51, 52, 53, 54, 67, 68, 69, 70, 71, 72, 73, 74, 75, 76, 77, 78, 79, 80, 81, 82, 83, 84, 85, 86, 87, 88, 89, 90, 91, 92, 93, 94, 95, 96, 97] (by rfl) (by decide +kernel)
set_option maxRecDepth 20000 in
theorem gX11_give_X11_laysNow : GoodIn wsX11_give (wsV RX11 251 RX11 yX11_laysNow wsX11_laysNow) := goodIn_app (goodIn_r _ [16, 17, 18, 6] (by rfl) (by decide +kernel)) ggX11_give_X11_laysNow
theorem dX11_give_28 : decode cX11_give 28 = .ok (.invokevirtual 251, 3) := by decide +kernel
theorem dX11_give_31 : decode cX11_give 31 = .ok (.aload_n 0, 1) := by decide +kernel
theorem dX11_give_32 : decode cX11_give 32 = .ok (.iload_n 1, 1) := by decide +kernel
theorem dX11_give_33 : decode cX11_give 33 = .ok (.iload_n 2, 1) := by decide +kernel
theorem dX11_give_34 : decode cX11_give 34 = .ok (.iconst (-1), 1) := by decide +kernel
set_option maxRecDepth 20000 in
theorem ggX11_give_X11_whyOf : GoodIn wsX11_give wsX11_whyOf := goodIn_r _ [58, 2, 27, 52, 53, 6, 54, 31, 32, 33, 34, 35, 67, 68, 69, 70, 71, 72, 73, 74, 75, 76, 77, 78, 79, 80, 81, 82, 83, 84, 85, 86, 87, 88, 89, 90, 91, 92, 93, 94, 95, 96, 97] (by rfl) (by decide +kernel)
set_option maxRecDepth 20000 in
theorem gX11_give_X11_whyOf : GoodIn wsX11_give (wsV RX11 287 RX11 yX11_whyOf wsX11_whyOf) := goodIn_app (goodIn_r _ [55, 56, 57, 6] (by rfl) (by decide +kernel)) ggX11_give_X11_whyOf
theorem dX11_give_35 : decode cX11_give 35 = .ok (.invokevirtual 287, 3) := by decide +kernel
theorem dX11_give_38 : decode cX11_give 38 = .ok (.ifCond .ne 20, 3) := by decide +kernel
theorem dX11_give_58 : decode cX11_give 58 = .ok (.bipush (-5), 2) := by decide +kernel
theorem dX11_give_60 : decode cX11_give 60 = .ok (.ireturn, 1) := by decide +kernel
theorem dX11_give_41 : decode cX11_give 41 = .ok (.aload_n 0, 1) := by decide +kernel
theorem dX11_give_42 : decode cX11_give 42 = .ok (.getfield 47, 3) := by decide +kernel
theorem dX11_give_45 : decode cX11_give 45 = .ok (.iload_n 3, 1) := by decide +kernel
theorem dX11_give_46 : decode cX11_give 46 = .ok (.iaload, 1) := by decide +kernel
theorem dX11_give_47 : decode cX11_give 47 = .ok (.iload_n 2, 1) := by decide +kernel
theorem dX11_give_48 : decode cX11_give 48 = .ok (.if_icmp .ne 10, 3) := by decide +kernel
theorem dX11_give_51 : decode cX11_give 51 = .ok (.aload_n 0, 1) := by decide +kernel
set_option maxRecDepth 20000 in
theorem ggX11_give_X11_isFull : GoodIn wsX11_give wsX11_isFull := goodIn_r _ [62, 12, 67, 68, 69, 70, 71, 72, 73, 74, 75, 76, 77, 78, 79, 80, 81, 82, 83, 84, 85, 86, 87, 88, 89, 90, 91, 92, 93, 94, 95, 96, 97] (by rfl) (by decide +kernel)
set_option maxRecDepth 20000 in
theorem gX11_give_X11_isFull : GoodIn wsX11_give (wsV RX11 291 RX11 yX11_isFull wsX11_isFull) := goodIn_app (goodIn_r _ [59, 60, 61, 6] (by rfl) (by decide +kernel)) ggX11_give_X11_isFull
theorem dX11_give_52 : decode cX11_give 52 = .ok (.invokevirtual 291, 3) := by decide +kernel
theorem dX11_give_55 : decode cX11_give 55 = .ok (.ifCond .eq 6, 3) := by decide +kernel
theorem dX11_give_61 : decode cX11_give 61 = .ok (.aload_n 0, 1) := by decide +kernel
theorem dX11_give_62 : decode cX11_give 62 = .ok (.iconst 1, 1) := by decide +kernel
theorem dX11_give_63 : decode cX11_give 63 = .ok (.iload_n 1, 1) := by decide +kernel
theorem dX11_give_64 : decode cX11_give 64 = .ok (.iload_n 2, 1) := by decide +kernel
theorem dX11_give_65 : decode cX11_give 65 = .ok (.iload_n 3, 1) := by decide +kernel
theorem dX11_give_66 : decode cX11_give 66 = .ok (.iload 4, 2) := by decide +kernel
set_option maxRecDepth 20000 in
theorem ggX11_give_X11_acts : GoodIn wsX11_give wsX11_acts := goodIn_r _ [66, 12, 20, 67, 68, 69, 70, 71, 72, 73, 74, 75, 76, 77, 78, 79, 80, 81, 82, 83, 84, 85, 86, 87, 88, 89, 90, 91, 92, 93, 94, 95, 96, 97] (by rfl) (by decide +kernel)
set_option maxRecDepth 20000 in
theorem gX11_give_X11_acts : GoodIn wsX11_give (wsV RX11 294 RX11 yX11_acts wsX11_acts) := goodIn_app (goodIn_r _ [63, 64, 65, 6] (by rfl) (by decide +kernel)) ggX11_give_X11_acts
theorem dX11_give_68 : decode cX11_give 68 = .ok (.invokevirtual 294, 3) := by decide +kernel
theorem dX11_give_71 : decode cX11_give 71 = .ok (.iconst 0, 1) := by decide +kernel
theorem dX11_give_72 : decode cX11_give 72 = .ok (.ireturn, 1) := by decide +kernel
theorem dX11_swap_0 : decode cX11_swap 0 = .ok (.aload_n 0, 1) := by decide +kernel
theorem dX11_swap_1 : decode cX11_swap 1 = .ok (.iconst 0, 1) := by decide +kernel
theorem dX11_swap_2 : decode cX11_swap 2 = .ok (.putfield 59, 3) := by decide +kernel
theorem dX11_swap_5 : decode cX11_swap 5 = .ok (.aload_n 0, 1) := by decide +kernel
theorem dX11_swap_6 : decode cX11_swap 6 = .ok (.iload_n 1, 1) := by decide +kernel
theorem dX11_swap_7 : decode cX11_swap 7 = .ok (.iload_n 2, 1) := by decide +kernel
set_option maxRecDepth 20000 in
theorem ggX11_swap_X11_arePeople : GoodIn wsX11_swap wsX11_arePeople := goodIn_r _ [7, 8, 9, 10, 6, 11, 12, 13, 14, 15, 63, 64, 65, 66, 67, 68, 69, 70, 71, 72, 73, 74, 75, 76, 77, 78, 79, 80, 81, 82, 83, 84, 85, 86, 87, 88, 89, 90, 91, 92, 93] (by rfl) (by decide +kernel)
set_option maxRecDepth 20000 in
theorem gX11_swap_X11_arePeople : GoodIn wsX11_swap (wsV RX11 266 RX11 yX11_arePeople wsX11_arePeople) := goodIn_app (goodIn_r _ [3, 4, 5, 6] (by rfl) (by decide +kernel)) ggX11_swap_X11_arePeople
theorem dX11_swap_8 : decode cX11_swap 8 = .ok (.invokevirtual 266, 3) := by decide +kernel
theorem dX11_swap_11 : decode cX11_swap 11 = .ok (.ifCond .eq 8, 3) := by decide +kernel
theorem dX11_swap_19 : decode cX11_swap 19 = .ok (.bipush (-2), 2) := by decide +kernel
theorem dX11_swap_21 : decode cX11_swap 21 = .ok (.ireturn, 1) := by decide +kernel
theorem dX11_swap_14 : decode cX11_swap 14 = .ok (.iload_n 1, 1) := by decide +kernel
theorem dX11_swap_15 : decode cX11_swap 15 = .ok (.iload_n 2, 1) := by decide +kernel
theorem dX11_swap_16 : decode cX11_swap 16 = .ok (.if_icmp .ne 6, 3) := by decide +kernel
theorem dX11_swap_22 : decode cX11_swap 22 = .ok (.aload_n 0, 1) := by decide +kernel
set_option maxRecDepth 20000 in
theorem ggX11_swap_X11_laysNow : GoodIn wsX11_swap wsX11_laysNow := goodIn_r _ [19, 12, 20, 21, 22, 23, 6, 24, 2, 25, 26, 27, 28, 29, 30, 31, 32, 33, 34, 35, 36, 37, 38, 39, 40, 41, 42, 43, 44, 45, 46, 47, 48, 49, 50, 51, 52, 53, 54, 63, 64, 65, 66, 67, 68, 69, 70, 71, 72, 73, 74, 75, 76, 77, 78, 79, 80, 81, 82, 83, 84, 85, 86, 87, 88, 89, 90, 91, 92, 93] (by rfl) (by decide +kernel)
set_option maxRecDepth 20000 in
theorem gX11_swap_X11_laysNow : GoodIn wsX11_swap (wsV RX11 251 RX11 yX11_laysNow wsX11_laysNow) := goodIn_app (goodIn_r _ [16, 17, 18, 6] (by rfl) (by decide +kernel)) ggX11_swap_X11_laysNow
theorem dX11_swap_23 : decode cX11_swap 23 = .ok (.invokevirtual 251, 3) := by decide +kernel
theorem dX11_swap_26 : decode cX11_swap 26 = .ok (.aload_n 0, 1) := by decide +kernel
theorem dX11_swap_27 : decode cX11_swap 27 = .ok (.getfield 47, 3) := by decide +kernel
theorem dX11_swap_30 : decode cX11_swap 30 = .ok (.iload_n 1, 1) := by decide +kernel
theorem dX11_swap_31 : decode cX11_swap 31 = .ok (.iaload, 1) := by decide +kernel
theorem dX11_swap_32 : decode cX11_swap 32 = .ok (.iconst (-1), 1) := by decide +kernel
theorem dX11_swap_33 : decode cX11_swap 33 = .ok (.if_icmp .eq 35, 3) := by decide +kernel
theorem dX11_swap_68 : decode cX11_swap 68 = .ok (.bipush (-5), 2) := by decide +kernel
theorem dX11_swap_70 : decode cX11_swap 70 = .ok (.ireturn, 1) := by decide +kernel
theorem dX11_swap_36 : decode cX11_swap 36 = .ok (.aload_n 0, 1) := by decide +kernel
theorem dX11_swap_37 : decode cX11_swap 37 = .ok (.getfield 47, 3) := by decide +kernel
theorem dX11_swap_40 : decode cX11_swap 40 = .ok (.iload_n 2, 1) := by decide +kernel
theorem dX11_swap_41 : decode cX11_swap 41 = .ok (.iaload, 1) := by decide +kernel
theorem dX11_swap_42 : decode cX11_swap 42 = .ok (.iconst (-1), 1) := by decide +kernel
theorem dX11_swap_43 : decode cX11_swap 43 = .ok (.if_icmp .eq 25, 3) := by decide +kernel
theorem dX11_swap_46 : decode cX11_swap 46 = .ok (.aload_n 0, 1) := by decide +kernel
theorem dX11_swap_47 : decode cX11_swap 47 = .ok (.getfield 47, 3) := by decide +kernel
theorem dX11_swap_50 : decode cX11_swap 50 = .ok (.iload_n 1, 1) := by decide +kernel
theorem dX11_swap_51 : decode cX11_swap 51 = .ok (.iaload, 1) := by decide +kernel
theorem dX11_swap_52 : decode cX11_swap 52 = .ok (.aload_n 0, 1) := by decide +kernel
theorem dX11_swap_53 : decode cX11_swap 53 = .ok (.getfield 47, 3) := by decide +kernel
theorem dX11_swap_56 : decode cX11_swap 56 = .ok (.iload_n 2, 1) := by decide +kernel
theorem dX11_swap_57 : decode cX11_swap 57 = .ok (.iaload, 1) := by decide +kernel
theorem dX11_swap_58 : decode cX11_swap 58 = .ok (.if_icmp .eq 10, 3) := by decide +kernel
theorem dX11_swap_61 : decode cX11_swap 61 = .ok (.aload_n 0, 1) := by decide +kernel
set_option maxRecDepth 20000 in
theorem ggX11_swap_X11_isFull : GoodIn wsX11_swap wsX11_isFull := goodIn_r _ [58, 12, 63, 64, 65, 66, 67, 68, 69, 70, 71, 72, 73, 74, 75, 76, 77, 78, 79, 80, 81, 82, 83, 84, 85, 86, 87, 88, 89, 90, 91, 92, 93] (by rfl) (by decide +kernel)
set_option maxRecDepth 20000 in
theorem gX11_swap_X11_isFull : GoodIn wsX11_swap (wsV RX11 291 RX11 yX11_isFull wsX11_isFull) := goodIn_app (goodIn_r _ [55, 56, 57, 6] (by rfl) (by decide +kernel)) ggX11_swap_X11_isFull
theorem dX11_swap_62 : decode cX11_swap 62 = .ok (.invokevirtual 291, 3) := by decide +kernel
theorem dX11_swap_65 : decode cX11_swap 65 = .ok (.ifCond .eq 6, 3) := by decide +kernel
theorem dX11_swap_71 : decode cX11_swap 71 = .ok (.aload_n 0, 1) := by decide +kernel
theorem dX11_swap_72 : decode cX11_swap 72 = .ok (.iconst 2, 1) := by decide +kernel
theorem dX11_swap_73 : decode cX11_swap 73 = .ok (.iload_n 1, 1) := by decide +kernel
theorem dX11_swap_74 : decode cX11_swap 74 = .ok (.iload_n 2, 1) := by decide +kernel
theorem dX11_swap_75 : decode cX11_swap 75 = .ok (.iconst 0, 1) := by decide +kernel
theorem dX11_swap_76 : decode cX11_swap 76 = .ok (.iconst 0, 1) := by decide +kernel
set_option maxRecDepth 20000 in
theorem ggX11_swap_X11_acts : GoodIn wsX11_swap wsX11_acts := goodIn_r _ [62, 12, 20, 63, 64, 65, 66, 67, 68, 69, 70, 71, 72, 73, 74, 75, 76, 77, 78, 79, 80, 81, 82, 83, 84, 85, 86, 87, 88, 89, 90, 91, 92, 93] (by rfl) (by decide +kernel)
set_option maxRecDepth 20000 in
theorem gX11_swap_X11_acts : GoodIn wsX11_swap (wsV RX11 294 RX11 yX11_acts wsX11_acts) := goodIn_app (goodIn_r _ [59, 60, 61, 6] (by rfl) (by decide +kernel)) ggX11_swap_X11_acts
theorem dX11_swap_77 : decode cX11_swap 77 = .ok (.invokevirtual 294, 3) := by decide +kernel
theorem dX11_swap_80 : decode cX11_swap 80 = .ok (.iconst 0, 1) := by decide +kernel
theorem dX11_swap_81 : decode cX11_swap 81 = .ok (.ireturn, 1) := by decide +kernel
theorem dX11_steal_0 : decode cX11_steal 0 = .ok (.aload_n 0, 1) := by decide +kernel
theorem dX11_steal_1 : decode cX11_steal 1 = .ok (.iconst 0, 1) := by decide +kernel
theorem dX11_steal_2 : decode cX11_steal 2 = .ok (.putfield 59, 3) := by decide +kernel
theorem dX11_steal_5 : decode cX11_steal 5 = .ok (.aload_n 0, 1) := by decide +kernel
theorem dX11_steal_6 : decode cX11_steal 6 = .ok (.iload_n 1, 1) := by decide +kernel
theorem dX11_steal_7 : decode cX11_steal 7 = .ok (.iload_n 2, 1) := by decide +kernel
set_option maxRecDepth 20000 in
theorem ggX11_steal_X11_arePeople : GoodIn wsX11_steal wsX11_arePeople := goodIn_r _ [8, 9, 10, 11, 7, 12, 13, 14, 15, 16, 63, 64, 65, 66, 67, 68, 69, 70, 71, 72, 73, 74, 75, 76, 77, 78, 79, 80, 81, 82, 83, 84, 85, 86, 87, 88, 89, 90, 91, 92, 93] (by rfl) (by decide +kernel)
set_option maxRecDepth 20000 in
theorem gX11_steal_X11_arePeople : GoodIn wsX11_steal (wsV RX11 266 RX11 yX11_arePeople wsX11_arePeople) := goodIn_app (goodIn_r _ [4, 5, 6, 7] (by rfl) (by decide +kernel)) ggX11_steal_X11_arePeople
theorem dX11_steal_8 : decode cX11_steal 8 = .ok (.invokevirtual 266, 3) := by decide +kernel
theorem dX11_steal_11 : decode cX11_steal 11 = .ok (.ifCond .ne 6, 3) := by decide +kernel
theorem dX11_steal_17 : decode cX11_steal 17 = .ok (.aload_n 0, 1) := by decide +kernel
set_option maxRecDepth 20000 in
theorem ggX11_steal_X11_laysNow : GoodIn wsX11_steal wsX11_laysNow := goodIn_r _ [20, 13, 21, 22, 23, 24, 7, 25, 2, 26, 27, 28, 3, 29, 30, 31, 32, 33, 34, 35, 36, 37, 38, 39, 40, 41, 42, 43, 44, 45, 46, 47, 48, 49, 50, 51, 52, 53, 54, 63, 64, 65, 66, 67, 68, 69, 70, 71, 72, 73, 74, 75, 76, 77, 78, 79, 80, 81, 82, 83, 84, 85, 86, 87, 88, 89, 90, 91, 92, 93] (by rfl) (by decide +kernel)
set_option maxRecDepth 20000 in
theorem gX11_steal_X11_laysNow : GoodIn wsX11_steal (wsV RX11 251 RX11 yX11_laysNow wsX11_laysNow) := goodIn_app (goodIn_r _ [17, 18, 19, 7] (by rfl) (by decide +kernel)) ggX11_steal_X11_laysNow
theorem dX11_steal_18 : decode cX11_steal 18 = .ok (.invokevirtual 251, 3) := by decide +kernel
theorem dX11_steal_21 : decode cX11_steal 21 = .ok (.aload_n 0, 1) := by decide +kernel
theorem dX11_steal_22 : decode cX11_steal 22 = .ok (.getfield 47, 3) := by decide +kernel
theorem dX11_steal_25 : decode cX11_steal 25 = .ok (.iload_n 2, 1) := by decide +kernel
theorem dX11_steal_26 : decode cX11_steal 26 = .ok (.iaload, 1) := by decide +kernel
theorem dX11_steal_27 : decode cX11_steal 27 = .ok (.iconst (-1), 1) := by decide +kernel
theorem dX11_steal_28 : decode cX11_steal 28 = .ok (.if_icmp .eq 31, 3) := by decide +kernel
theorem dX11_steal_59 : decode cX11_steal 59 = .ok (.bipush (-5), 2) := by decide +kernel
theorem dX11_steal_61 : decode cX11_steal 61 = .ok (.ireturn, 1) := by decide +kernel
theorem dX11_steal_31 : decode cX11_steal 31 = .ok (.aload_n 0, 1) := by decide +kernel
theorem dX11_steal_32 : decode cX11_steal 32 = .ok (.getfield 47, 3) := by decide +kernel
theorem dX11_steal_35 : decode cX11_steal 35 = .ok (.iload_n 2, 1) := by decide +kernel
theorem dX11_steal_36 : decode cX11_steal 36 = .ok (.iaload, 1) := by decide +kernel
theorem dX11_steal_37 : decode cX11_steal 37 = .ok (.iload_n 1, 1) := by decide +kernel
theorem dX11_steal_38 : decode cX11_steal 38 = .ok (.if_icmp .eq 21, 3) := by decide +kernel
theorem dX11_steal_41 : decode cX11_steal 41 = .ok (.aload_n 0, 1) := by decide +kernel
theorem dX11_steal_42 : decode cX11_steal 42 = .ok (.getfield 220, 3) := by decide +kernel
theorem dX11_steal_45 : decode cX11_steal 45 = .ok (.iload_n 2, 1) := by decide +kernel
set_option maxRecDepth 20000 in
theorem ggX11_steal_X11_isBit : GoodIn wsX11_steal wsX11_isBit := goodIn_r _ [54] (by rfl) (by decide +kernel)
set_option maxRecDepth 20000 in
theorem gX11_steal_X11_isBit : GoodIn wsX11_steal (va_wsS RX11 239 yX11_isBit wsX11_isBit) := goodIn_app (goodIn_r _ [52, 53, 7] (by rfl) (by decide +kernel)) ggX11_steal_X11_isBit
theorem dX11_steal_46 : decode cX11_steal 46 = .ok (.invokestatic 239, 3) := by decide +kernel
theorem dX11_steal_49 : decode cX11_steal 49 = .ok (.ifCond .ne 10, 3) := by decide +kernel
theorem dX11_steal_52 : decode cX11_steal 52 = .ok (.aload_n 0, 1) := by decide +kernel
set_option maxRecDepth 20000 in
theorem ggX11_steal_X11_isFull : GoodIn wsX11_steal wsX11_isFull := goodIn_r _ [58, 13, 63, 64, 65, 66, 67, 68, 69, 70, 71, 72, 73, 74, 75, 76, 77, 78, 79, 80, 81, 82, 83, 84, 85, 86, 87, 88, 89, 90, 91, 92, 93] (by rfl) (by decide +kernel)
set_option maxRecDepth 20000 in
theorem gX11_steal_X11_isFull : GoodIn wsX11_steal (wsV RX11 291 RX11 yX11_isFull wsX11_isFull) := goodIn_app (goodIn_r _ [55, 56, 57, 7] (by rfl) (by decide +kernel)) ggX11_steal_X11_isFull
theorem dX11_steal_53 : decode cX11_steal 53 = .ok (.invokevirtual 291, 3) := by decide +kernel
theorem dX11_steal_56 : decode cX11_steal 56 = .ok (.ifCond .eq 6, 3) := by decide +kernel
theorem dX11_steal_62 : decode cX11_steal 62 = .ok (.aload_n 0, 1) := by decide +kernel
theorem dX11_steal_63 : decode cX11_steal 63 = .ok (.iconst 3, 1) := by decide +kernel
theorem dX11_steal_64 : decode cX11_steal 64 = .ok (.iload_n 1, 1) := by decide +kernel
theorem dX11_steal_65 : decode cX11_steal 65 = .ok (.iload_n 2, 1) := by decide +kernel
theorem dX11_steal_66 : decode cX11_steal 66 = .ok (.iconst 0, 1) := by decide +kernel
theorem dX11_steal_67 : decode cX11_steal 67 = .ok (.iconst 0, 1) := by decide +kernel
set_option maxRecDepth 20000 in
theorem ggX11_steal_X11_acts : GoodIn wsX11_steal wsX11_acts := goodIn_r _ [62, 13, 21, 63, 64, 65, 66, 67, 68, 69, 70, 71, 72, 73, 74, 75, 76, 77, 78, 79, 80, 81, 82, 83, 84, 85, 86, 87, 88, 89, 90, 91, 92, 93] (by rfl) (by decide +kernel)
set_option maxRecDepth 20000 in
theorem gX11_steal_X11_acts : GoodIn wsX11_steal (wsV RX11 294 RX11 yX11_acts wsX11_acts) := goodIn_app (goodIn_r _ [59, 60, 61, 7] (by rfl) (by decide +kernel)) ggX11_steal_X11_acts
theorem dX11_steal_68 : decode cX11_steal 68 = .ok (.invokevirtual 294, 3) := by decide +kernel
theorem dX11_steal_71 : decode cX11_steal 71 = .ok (.aload_n 0, 1) := by decide +kernel
theorem dX11_steal_72 : decode cX11_steal 72 = .ok (.getfield 47, 3) := by decide +kernel
theorem dX11_steal_75 : decode cX11_steal 75 = .ok (.iload_n 2, 1) := by decide +kernel
theorem dX11_steal_76 : decode cX11_steal 76 = .ok (.iaload, 1) := by decide +kernel
theorem dX11_steal_77 : decode cX11_steal 77 = .ok (.ireturn, 1) := by decide +kernel
theorem dX11_steal_14 : decode cX11_steal 14 = .ok (.bipush (-2), 2) := by decide +kernel
theorem dX11_steal_16 : decode cX11_steal 16 = .ok (.ireturn, 1) := by decide +kernel
theorem dX11_day_0 : decode cX11_day 0 = .ok (.aload_n 0, 1) := by decide +kernel
theorem dX11_day_1 : decode cX11_day 1 = .ok (.iconst 0, 1) := by decide +kernel
theorem dX11_day_2 : decode cX11_day 2 = .ok (.putfield 59, 3) := by decide +kernel
theorem dX11_day_5 : decode cX11_day 5 = .ok (.aload_n 0, 1) := by decide +kernel
set_option maxRecDepth 20000 in
theorem ggX11_day_X11_isCity : GoodIn wsX11_day wsX11_isCity := goodIn_r _ [7, 8, 57, 58, 59, 60, 61, 62, 63, 64, 65, 66, 67, 68, 69, 70, 71, 72, 73, 74, 75, 76, 77, 78, 79, 80, 81, 82, 83, 84, 85, 86, 87] (by rfl) (by decide +kernel)
set_option maxRecDepth 20000 in
theorem gX11_day_X11_isCity : GoodIn wsX11_day (wsV RX11 209 RX11 yX11_isCity wsX11_isCity) := goodIn_app (goodIn_r _ [3, 4, 5, 6] (by rfl) (by decide +kernel)) ggX11_day_X11_isCity
theorem dX11_day_6 : decode cX11_day 6 = .ok (.invokevirtual 209, 3) := by decide +kernel
theorem dX11_day_9 : decode cX11_day 9 = .ok (.ifCond .ne 6, 3) := by decide +kernel
theorem dX11_day_15 : decode cX11_day 15 = .ok (.aload_n 0, 1) := by decide +kernel
set_option maxRecDepth 20000 in
theorem ggX11_day_X11_laysNow : GoodIn wsX11_day wsX11_laysNow := goodIn_r _ [12, 13, 14, 15, 16, 17, 6, 18, 19, 20, 21, 22, 23, 2, 24, 25, 26, 27, 28, 29, 30, 31, 32, 33, 34, 35, 36, 37, 38, 39, 40, 41, 42, 43, 44, 45, 46, 47, 48, 57, 58, 59, 60, 61, 62, 63, 64, 65, 66, 67, 68, 69, 70, 71, 72, 73, 74, 75, 76, 77, 78, 79, 80, 81, 82, 83, 84, 85, 86, 87] (by rfl) (by decide +kernel)
set_option maxRecDepth 20000 in
theorem gX11_day_X11_laysNow : GoodIn wsX11_day (wsV RX11 251 RX11 yX11_laysNow wsX11_laysNow) := goodIn_app (goodIn_r _ [9, 10, 11, 6] (by rfl) (by decide +kernel)) ggX11_day_X11_laysNow
theorem dX11_day_16 : decode cX11_day 16 = .ok (.invokevirtual 251, 3) := by decide +kernel
theorem dX11_day_19 : decode cX11_day 19 = .ok (.aload_n 0, 1) := by decide +kernel
set_option maxRecDepth 20000 in
theorem ggX11_day_X11_isFull : GoodIn wsX11_day wsX11_isFull := goodIn_r _ [52, 13, 57, 58, 59, 60, 61, 62, 63, 64, 65, 66, 67, 68, 69, 70, 71, 72, 73, 74, 75, 76, 77, 78, 79, 80, 81, 82, 83, 84, 85, 86, 87] (by rfl) (by decide +kernel)
set_option maxRecDepth 20000 in
theorem gX11_day_X11_isFull : GoodIn wsX11_day (wsV RX11 291 RX11 yX11_isFull wsX11_isFull) := goodIn_app (goodIn_r _ [49, 50, 51, 6] (by rfl) (by decide +kernel)) ggX11_day_X11_isFull
theorem dX11_day_20 : decode cX11_day 20 = .ok (.invokevirtual 291, 3) := by decide +kernel
theorem dX11_day_23 : decode cX11_day 23 = .ok (.ifCond .eq 6, 3) := by decide +kernel
theorem dX11_day_29 : decode cX11_day 29 = .ok (.aload_n 0, 1) := by decide +kernel
theorem dX11_day_30 : decode cX11_day 30 = .ok (.iconst 4, 1) := by decide +kernel
theorem dX11_day_31 : decode cX11_day 31 = .ok (.iconst 0, 1) := by decide +kernel
theorem dX11_day_32 : decode cX11_day 32 = .ok (.iconst 0, 1) := by decide +kernel
theorem dX11_day_33 : decode cX11_day 33 = .ok (.iconst 0, 1) := by decide +kernel
theorem dX11_day_34 : decode cX11_day 34 = .ok (.iconst 0, 1) := by decide +kernel
set_option maxRecDepth 20000 in
theorem ggX11_day_X11_acts : GoodIn wsX11_day wsX11_acts := goodIn_r _ [56, 13, 14, 57, 58, 59, 60, 61, 62, 63, 64, 65, 66, 67, 68, 69, 70, 71, 72, 73, 74, 75, 76, 77, 78, 79, 80, 81, 82, 83, 84, 85, 86, 87] (by rfl) (by decide +kernel)
set_option maxRecDepth 20000 in
theorem gX11_day_X11_acts : GoodIn wsX11_day (wsV RX11 294 RX11 yX11_acts wsX11_acts) := goodIn_app (goodIn_r _ [53, 54, 55, 6] (by rfl) (by decide +kernel)) ggX11_day_X11_acts
theorem dX11_day_35 : decode cX11_day 35 = .ok (.invokevirtual 294, 3) := by decide +kernel
theorem dX11_day_38 : decode cX11_day 38 = .ok (.aload_n 0, 1) := by decide +kernel
theorem dX11_day_39 : decode cX11_day 39 = .ok (.getfield 223, 3) := by decide +kernel
theorem dX11_day_42 : decode cX11_day 42 = .ok (.ireturn, 1) := by decide +kernel
theorem dX11_day_26 : decode cX11_day 26 = .ok (.bipush (-5), 2) := by decide +kernel
theorem dX11_day_28 : decode cX11_day 28 = .ok (.ireturn, 1) := by decide +kernel
theorem dX11_day_12 : decode cX11_day 12 = .ok (.bipush (-2), 2) := by decide +kernel
theorem dX11_day_14 : decode cX11_day 14 = .ok (.ireturn, 1) := by decide +kernel
theorem dX11_undo_0 : decode cX11_undo 0 = .ok (.aload_n 0, 1) := by decide +kernel
theorem dX11_undo_1 : decode cX11_undo 1 = .ok (.iconst 0, 1) := by decide +kernel
theorem dX11_undo_2 : decode cX11_undo 2 = .ok (.putfield 59, 3) := by decide +kernel
theorem dX11_undo_5 : decode cX11_undo 5 = .ok (.aload_n 0, 1) := by decide +kernel
set_option maxRecDepth 20000 in
theorem ggX11_undo_X11_isCity : GoodIn wsX11_undo wsX11_isCity := goodIn_r _ [7, 8, 9, 10, 11, 12, 13, 14, 15, 16, 17, 18, 19, 20, 21, 22, 23, 24, 25, 26, 27, 28, 29, 30, 31, 32, 33, 34, 35, 36, 37, 38, 39] (by rfl) (by decide +kernel)
set_option maxRecDepth 20000 in
theorem gX11_undo_X11_isCity : GoodIn wsX11_undo (wsV RX11 209 RX11 yX11_isCity wsX11_isCity) := goodIn_app (goodIn_r _ [3, 4, 5, 6] (by rfl) (by decide +kernel)) ggX11_undo_X11_isCity
theorem dX11_undo_6 : decode cX11_undo 6 = .ok (.invokevirtual 209, 3) := by decide +kernel
theorem dX11_undo_9 : decode cX11_undo 9 = .ok (.ifCond .ne 6, 3) := by decide +kernel
theorem dX11_undo_15 : decode cX11_undo 15 = .ok (.aload_n 0, 1) := by decide +kernel
theorem dX11_undo_16 : decode cX11_undo 16 = .ok (.getfield 34, 3) := by decide +kernel
theorem dX11_undo_19 : decode cX11_undo 19 = .ok (.iconst 2, 1) := by decide +kernel
theorem dX11_undo_20 : decode cX11_undo 20 = .ok (.iaload, 1) := by decide +kernel
theorem dX11_undo_21 : decode cX11_undo 21 = .ok (.ifCond .ne 6, 3) := by decide +kernel
theorem dX11_undo_27 : decode cX11_undo 27 = .ok (.aload_n 0, 1) := by decide +kernel
theorem dX11_undo_28 : decode cX11_undo 28 = .ok (.getfield 34, 3) := by decide +kernel
theorem dX11_undo_31 : decode cX11_undo 31 = .ok (.iconst 2, 1) := by decide +kernel
theorem dX11_undo_32 : decode cX11_undo 32 = .ok (.dup2, 1) := by decide +kernel
theorem dX11_undo_33 : decode cX11_undo 33 = .ok (.iaload, 1) := by decide +kernel
theorem dX11_undo_34 : decode cX11_undo 34 = .ok (.iconst 1, 1) := by decide +kernel
theorem dX11_undo_35 : decode cX11_undo 35 = .ok (.isub, 1) := by decide +kernel
theorem dX11_undo_36 : decode cX11_undo 36 = .ok (.iastore, 1) := by decide +kernel
theorem dX11_undo_37 : decode cX11_undo 37 = .ok (.aload_n 0, 1) := by decide +kernel
theorem dX11_undo_38 : decode cX11_undo 38 = .ok (.getfield 34, 3) := by decide +kernel
theorem dX11_undo_41 : decode cX11_undo 41 = .ok (.iconst 2, 1) := by decide +kernel
theorem dX11_undo_42 : decode cX11_undo 42 = .ok (.iaload, 1) := by decide +kernel
theorem dX11_undo_43 : decode cX11_undo 43 = .ok (.ireturn, 1) := by decide +kernel
theorem dX11_undo_24 : decode cX11_undo 24 = .ok (.bipush (-5), 2) := by decide +kernel
theorem dX11_undo_26 : decode cX11_undo 26 = .ok (.ireturn, 1) := by decide +kernel
theorem dX11_undo_12 : decode cX11_undo 12 = .ok (.bipush (-2), 2) := by decide +kernel
theorem dX11_undo_14 : decode cX11_undo 14 = .ok (.ireturn, 1) := by decide +kernel
set_option maxHeartbeats 4000000 in
set_option maxRecDepth 100000 in
theorem a_X11_ask (l : Launch) (G : va_G) (ct : Nat → ClassId) (a0 : Nat) (n0_0 : Int32) (a1 : Nat) (a2 : Nat) (a3 : Nat) (a4 : Nat) (a5 : Nat) (n0_6 : Int32) (n0_7 : Int32) (n0_8 : Int32) (n0_9 : Int32) (n0_10 : Int32) (l0_11 : Int64) (n0_12 : Int32) (n0_13 : Int32) (n0_14 : Int32) (n0_15 : Int32) (a6 : Nat) (a7 : Nat) (a8 : Nat) (a9 : Nat) (a10 : Nat) (a11 : Nat) (a12 : Nat) (a13 : Nat) (n0_24 : Int32) (n0_25 : Int32) (n0_26 : Int32) (n0_27 : Int32) (a14 : Nat) (n0_29 : Int32) (n0_30 : Int32) (f7 : Nat → Int32) (f8 : Nat → Int32) (f9 : Nat → Int32) (f11 : Nat → Int32) (f12 : Nat → Int32) (f13 : Nat → Int32) (p0 : Int32) (p1 : Int32) (p2 : Int32) (hp_n0_6 : rg 0 900 n0_6) (hp_f7 : hsI f7) (hp_f8 : psI f8) (hp_f9 : ar 0 7 f9) (hp_f11 : ar (-1) 7 f11) (hp_f13 : ar (-1) 7 f13) : Met l yX11_ask wsX11_ask ({ frames := 5, cells := 0, slots := 0, locals := 111 }) (va_Pc [.ref a0, .int p0, .int p1, .int p2] (wrP G ct [(a0, .inr (11, [.int n0_0, .ref a1, .ref a2, .ref a3, .ref a4, .ref a5, .int n0_6, .int n0_7, .int n0_8, .int n0_9, .int n0_10, .long l0_11, .int n0_12, .int n0_13, .int n0_14, .int n0_15, .ref a6, .ref a7, .ref a8, .ref a9, .ref a10, .ref a11, .ref a12, .ref a13, .int n0_24, .int n0_25, .int n0_26, .int n0_27, .ref a14, .int n0_29, .int n0_30])), (a7, .inl (ct 0, 15, .inl f7)), (a8, .inl (ct 0, 200, .inl f8)), (a9, .inl (ct 0, 1000, .inl f9)), (a11, .inl (ct 0, 8, .inl f11)), (a12, .inl (ct 0, 8, .inl f12)), (a13, .inl (ct 0, 8, .inl f13))])) (va_Qi (fun (r : Int32) (u : SU) => (r = 0 → rg 0 7 p0) ∧ (r = (-1) → rg 0 7 p0) ∧ (¬ r = (-2) → rg 0 7 p0) ∧ (r = 0 → rg 0 7 p1) ∧ (r = (-1) → rg 0 7 p1) ∧ (¬ r = (-2) → rg 0 7 p1) ∧ (r = 0 → rg 0 5 p2) ∧ (r = (-1) → rg 0 5 p2) ∧ (¬ r = (-2) → rg 0 5 p2) ∧ hsI (u.2.1 0) ∧ ar 0 7 (u.2.1 1) ∧ ar (-1) 7 (u.2.1 2) ∧ ar (-1) 7 (u.2.1 4) ∧ rg 0 0 (u.1 0) ∧ True) (fun u t => va_P G vwCl ((fun u : SU => [(a0, .inr (11, [.int (u.1 0), .ref a1, .ref a2, .ref a3, .ref a4, .ref a5, .int n0_6, .int n0_7, .int n0_8, .int n0_9, .int n0_10, .long l0_11, .int n0_12, .int n0_13, .int n0_14, .int n0_15, .ref a6, .ref a7, .ref a8, .ref a9, .ref a10, .ref a11, .ref a12, .ref a13, .int (u.1 1), .int (u.1 2), .int (u.1 3), .int (u.1 4), .ref a14, .int n0_29, .int n0_30])), (a7, .inl (ct 0, 15, .inl (u.2.1 0))), (a8, .inl (ct 0, 200, .inl f8)), (a9, .inl (ct 0, 1000, .inl (u.2.1 1))), (a11, .inl (ct 0, 8, .inl (u.2.1 2))), (a12, .inl (ct 0, 8, .inl (u.2.1 3))), (a13, .inl (ct 0, 8, .inl (u.2.1 4)))]) u) t.heap) (aset [(a0, .inr (11, [.int n0_0, .ref a1, .ref a2, .ref a3, .ref a4, .ref a5, .int n0_6, .int n0_7, .int n0_8, .int n0_9, .int n0_10, .long l0_11, .int n0_12, .int n0_13, .int n0_14, .int n0_15, .ref a6, .ref a7, .ref a8, .ref a9, .ref a10, .ref a11, .ref a12, .ref a13, .int n0_24, .int n0_25, .int n0_26, .int n0_27, .ref a14, .int n0_29, .int n0_30])), (a7, .inl (ct 0, 15, .inl f7)), (a8, .inl (ct 0, 200, .inl f8)), (a9, .inl (ct 0, 1000, .inl f9)), (a11, .inl (ct 0, 8, .inl f11)), (a12, .inl (ct 0, 8, .inl f12)), (a13, .inl (ct 0, 8, .inl f13))])) 0 0 (aset [(a0, .inr (11, [.int n0_0, .ref a1, .ref a2, .ref a3, .ref a4, .ref a5, .int n0_6, .int n0_7, .int n0_8, .int n0_9, .int n0_10, .long l0_11, .int n0_12, .int n0_13, .int n0_14, .int n0_15, .ref a6, .ref a7, .ref a8, .ref a9, .ref a10, .ref a11, .ref a12, .ref a13, .int n0_24, .int n0_25, .int n0_26, .int n0_27, .ref a14, .int n0_29, .int n0_30])), (a7, .inl (ct 0, 15, .inl f7)), (a8, .inl (ct 0, 200, .inl f8)), (a9, .inl (ct 0, 1000, .inl f9)), (a11, .inl (ct 0, 8, .inl f11)), (a12, .inl (ct 0, 8, .inl f12)), (a13, .inl (ct 0, 8, .inl f13))]) := by
  refine Met.ofW (cc := cX11_ask) (maxL := 4) (ret := (some .int)) (by decide) rfl ?_
  intro p e s m args below meth c s₁ B hml hv
  obtain ⟨rfl, hP, hK, hD0⟩ := hv
  have hx := B.exec
  have hb := B.bytes
  have hr := B.returns
  have hts := atoms_spec (ws := wsX11_ask) B.pre
  have hown : s.vm.findClass RX11 = some m.cls := findClass_of_methodNamed B.named
  have hlocks := B.notSynchronized
  have hD := hD0.aself
  generalize hAe : aset [(a0, .inr (11, [.int n0_0, .ref a1, .ref a2, .ref a3, .ref a4, .ref a5, .int n0_6, .int n0_7, .int n0_8, .int n0_9, .int n0_10, .long l0_11, .int n0_12, .int n0_13, .int n0_14, .int n0_15, .ref a6, .ref a7, .ref a8, .ref a9, .ref a10, .ref a11, .ref a12, .ref a13, .int n0_24, .int n0_25, .int n0_26, .int n0_27, .ref a14, .int n0_29, .int n0_30])), (a7, .inl (ct 0, 15, .inl f7)), (a8, .inl (ct 0, 200, .inl f8)), (a9, .inl (ct 0, 1000, .inl f9)), (a11, .inl (ct 0, 8, .inl f11)), (a12, .inl (ct 0, 8, .inl f12)), (a13, .inl (ct 0, 8, .inl f13))] = A at hD ⊢
  have hS : va_S A s.heap s.heap [] := va_S.rf
  have hl := lv_entry ([.ref a0, .int p0, .int p1, .int p2]) (n := 4) (Nat.le_of_ble_eq_true rfl)
  rw [lg_entry_eq]
  generalize (lg_sl ([.ref a0, .int p0, .int p1, .int p2]) ++ List.replicate (4 - (lg_sl ([.ref a0, .int p0, .int p1, .int p2])).length) Slot.unset).toArray = ls at hl ⊢
  have hl : lv_has ls 4 [(0, .ref a0), (1, .int p0), (2, .int p1), (3, .int p2)] := hl
  refine lv_aload_n hx hb dX11_ask_0 rfl (lv_at hl 0 rfl) ?_
  refine lv_iconst (v := 0) hx hb dX11_ask_1 (by decide) ?_
  refine va_put (D := G) (ci := 11) (v := .int 0) (ty := .int) (C := RX11) (T := TX11) (N := 31) hx hb hts (by decide +kernel) tyX11 tyX11_ok nmX11 hown hK.1 hP hD hS 0 rfl rfl 0 (by decide) (hts (.fieldLink RX11 59 "CardHolderModel" "thrown" "I") (by decide +kernel)) (fun _ h9 => h9) rfl (by decide +kernel) rfl rfl (Nat.le_of_ble_eq_true rfl) dX11_ask_2 (fun H locs hP hD hS => ?_)
  refine lv_aload_n hx hb dX11_ask_5 rfl (lv_at hl 0 rfl) ?_
  refine lv_iload_n hx hb dX11_ask_6 rfl (lv_at hl 1 rfl) ?_
  refine lv_iload_n hx hb dX11_ask_7 rfl (lv_at hl 2 rfl) ?_
  refine ro_calli (va_runV (As := [.int p0, .int p1]) (rest := []) ⟨hx, hb, hml, hown, hts⟩ (a_X11_arePeople l G ct a0 (0 : Int32) a1 a2 a3 a4 a5 n0_6 n0_7 n0_8 n0_9 n0_10 l0_11 n0_12 n0_13 n0_14 n0_15 a6 a7 a8 a9 a10 a11 a12 a13 n0_24 n0_25 n0_26 n0_27 a14 n0_29 n0_30 f7 p0 p1 hp_n0_6 hp_f7) (cwV 2 hts gX11_ask_X11_arePeople rfl rfl rfl (by decide +kernel) ⟨Nat.le_of_ble_eq_true rfl, Nat.le_of_ble_eq_true rfl⟩) (ro_preV 11 0 hK (hP.sub [0, 1] rfl) rfl rfl) rfl rfl hl.1 rfl (lv_room (Nat.le_of_ble_eq_true rfl)) dX11_ask_8 ⟨Nat.zero_le _, Nat.zero_le _⟩) hS hP (fun r8 H locs wr8 hP hS => ?_)
  obtain ⟨p_1, p_2, p_3, -⟩ := wr8
  refine lv_if_eq (tgt := 22) hx hb dX11_ask_11 (by decide) (fun c11 => ?_) (fun c11 => ?_)
  · have h_4 : rg 0 0 r8 := r_eq_l_i (e := 0) (f := 0) c11 p_1 (rgn 0 (x := 0) (by decide)) (by decide)
    refine lv_bipush (v := (-2)) hx hb dX11_ask_22 (by decide) ?_
    exact W.iret (v := (-2)) hx hb hr (fun t ht hW => ⟨⟨(-2), (fun k => ([0, n0_24, n0_25, n0_26, n0_27] : List Int32).getD k 0, fun k => ([f7, f9, f11, f12, f13] : List (Nat → Int32)).getD k (fun _ => 0), fun k => ([] : List (Nat → Int64)).getD k (fun _ => 0)), rfl, ⟨(fun hq => absurd hq (rne (rgn (-2) (x := (-2)) (by decide)) (y := 0) (c := 0) (by decide) (by decide))), (fun hq => absurd hq (rne (rgn (-2) (x := (-2)) (by decide)) (y := (-1)) (c := (-1)) (by decide) (by decide))), (fun hq => absurd (req (rgn (-2) (x := (-2)) (by decide)) (y := (-2)) (by decide)) hq), (fun hq => absurd hq (rne (rgn (-2) (x := (-2)) (by decide)) (y := 0) (c := 0) (by decide) (by decide))), (fun hq => absurd hq (rne (rgn (-2) (x := (-2)) (by decide)) (y := (-1)) (c := (-1)) (by decide) (by decide))), (fun hq => absurd (req (rgn (-2) (x := (-2)) (by decide)) (y := (-2)) (by decide)) hq), (fun hq => absurd hq (rne (rgn (-2) (x := (-2)) (by decide)) (y := 0) (c := 0) (by decide) (by decide))), (fun hq => absurd hq (rne (rgn (-2) (x := (-2)) (by decide)) (y := (-1)) (c := (-1)) (by decide) (by decide))), (fun hq => absurd (req (rgn (-2) (x := (-2)) (by decide)) (y := (-2)) (by decide)) hq), hp_f7, hp_f9, hp_f11, hp_f13, (rgn 0 (x := 0) (by decide)), trivial⟩, hp_at ht hP⟩, hS.F ht⟩) hS.2.2 dX11_ask_24
  · have h_5 : rg 1 1 r8 := r_ne_lo_i c11 p_1 (by decide) (by decide)
    have h_6 : rg 0 7 p0 := (p_2 (rne h_5 (y := 0) (c := 0) (by decide) (by decide)))
    have h_7 : rg 0 7 p1 := (p_3 (rne h_5 (y := 0) (c := 0) (by decide) (by decide)))
    refine lv_iload_n hx hb dX11_ask_14 rfl (lv_at hl 3 rfl) ?_
    refine lv_i2l hx hb dX11_ask_15 rfl ?_
    refine nl_i2l (rg_t p2) (fun z15 hz15 ez15 => ?_)
    refine ro_calli (va_runS (As := [.long z15]) (rest := []) ⟨hx, hb, hml, hown, hts⟩ (a_X11_isDeed l G ct z15) (va_cwS 1 hts gX11_ask_X11_isDeed rfl rfl rfl (by decide +kernel) ⟨Nat.le_of_ble_eq_true rfl, Nat.le_of_ble_eq_true rfl⟩) (ro_pre hK (hP.sub [] rfl)) rfl rfl hl.1 rfl (lv_room (Nat.le_of_ble_eq_true rfl)) dX11_ask_16 ⟨Nat.zero_le _, Nat.zero_le _⟩) hS hP (fun r16 H locs wr16 hP hS => ?_)
    obtain ⟨p_8, p_9, -⟩ := wr16
    refine lv_if_ne (tgt := 25) hx hb dX11_ask_19 (by decide) (fun c19 => ?_) (fun c19 => ?_)
    · have h_10 : rg 1 1 r16 := r_ne_lo_i c19 p_8 (by decide) (by decide)
      have h_11 : rl 0 5 z15 := (p_9 (rne h_10 (y := 0) (c := 0) (by decide) (by decide)))
      have h_12 : rg 0 5 p2 := bk_li (a := 0) (b := 5) ez15 h_11 (rg_t p2) (by decide)
      refine lv_aload_n hx hb dX11_ask_25 rfl (lv_at hl 0 rfl) ?_
      refine wj_callv (wr := []) (w1 := (fun u : SU => [(a0, .inr (11, [.int 0, .ref a1, .ref a2, .ref a3, .ref a4, .ref a5, .int n0_6, .int n0_7, .int n0_8, .int n0_9, .int n0_10, .long l0_11, .int n0_12, .int n0_13, .int n0_14, .int n0_15, .ref a6, .ref a7, .ref a8, .ref a9, .ref a10, .ref a11, .ref a12, .ref a13, .int (u.1 0), .int (u.1 1), .int (u.1 2), .int (u.1 3), .ref a14, .int n0_29, .int n0_30])), (a7, .inl (ct 0, 15, .inl f7)), (a8, .inl (ct 0, 200, .inl f8)), (a9, .inl (ct 0, 1000, .inl f9)), (a11, .inl (ct 0, 8, .inl (u.2.1 0))), (a12, .inl (ct 0, 8, .inl (u.2.1 1))), (a13, .inl (ct 0, 8, .inl (u.2.1 2)))])) (va_runV (As := []) (rest := []) ⟨hx, hb, hml, hown, hts⟩ (a_X11_laysNow l G ct a0 (0 : Int32) a1 a2 a3 a4 a5 n0_6 n0_7 n0_8 n0_9 n0_10 l0_11 n0_12 n0_13 n0_14 n0_15 a6 a7 a8 a9 a10 a11 a12 a13 n0_24 n0_25 n0_26 n0_27 a14 n0_29 n0_30 f7 f8 f9 f11 f12 f13 hp_n0_6 hp_f7 hp_f8 hp_f9 hp_f11 hp_f13) (cwV 0 hts gX11_ask_X11_laysNow rfl rfl rfl (by decide +kernel) ⟨Nat.le_of_ble_eq_true rfl, Nat.le_of_ble_eq_true rfl⟩) (wr_preV 11 0 hK (hP.sub [0, 1, 2, 3, 4, 5, 6] rfl) (hD.sub [0, 1, 2, 3, 4, 5, 6] (by decide) rfl) rfl rfl) rfl rfl hl.1 rfl (lv_room (Nat.le_of_ble_eq_true rfl)) dX11_ask_26 ⟨Nat.zero_le _, Nat.zero_le _⟩) hS hP hD [0, 1, 2, 3, 4, 5, 6] [] rfl rfl (by decide) (fun _ => rfl) (fun ur26 H locs wr26 hP hD hS => ?_)
      have hP : va_P G vwCl [(a0, .inr (11, [.int 0, .ref a1, .ref a2, .ref a3, .ref a4, .ref a5, .int n0_6, .int n0_7, .int n0_8, .int n0_9, .int n0_10, .long l0_11, .int n0_12, .int n0_13, .int n0_14, .int n0_15, .ref a6, .ref a7, .ref a8, .ref a9, .ref a10, .ref a11, .ref a12, .ref a13, .int (ur26.1 0), .int (ur26.1 1), .int (ur26.1 2), .int (ur26.1 3), .ref a14, .int n0_29, .int n0_30])), (a7, .inl (ct 0, 15, .inl f7)), (a8, .inl (ct 0, 200, .inl f8)), (a9, .inl (ct 0, 1000, .inl f9)), (a11, .inl (ct 0, 8, .inl (ur26.2.1 0))), (a12, .inl (ct 0, 8, .inl (ur26.2.1 1))), (a13, .inl (ct 0, 8, .inl (ur26.2.1 2)))] H := hP.sub [0, 1, 2, 3, 4, 5, 6] rfl
      have hD : va_D A [(a0, .inr (11, [.int 0, .ref a1, .ref a2, .ref a3, .ref a4, .ref a5, .int n0_6, .int n0_7, .int n0_8, .int n0_9, .int n0_10, .long l0_11, .int n0_12, .int n0_13, .int n0_14, .int n0_15, .ref a6, .ref a7, .ref a8, .ref a9, .ref a10, .ref a11, .ref a12, .ref a13, .int (ur26.1 0), .int (ur26.1 1), .int (ur26.1 2), .int (ur26.1 3), .ref a14, .int n0_29, .int n0_30])), (a7, .inl (ct 0, 15, .inl f7)), (a8, .inl (ct 0, 200, .inl f8)), (a9, .inl (ct 0, 1000, .inl f9)), (a11, .inl (ct 0, 8, .inl (ur26.2.1 0))), (a12, .inl (ct 0, 8, .inl (ur26.2.1 1))), (a13, .inl (ct 0, 8, .inl (ur26.2.1 2)))] := hD.sub [0, 1, 2, 3, 4, 5, 6] (by decide) rfl
      obtain ⟨p_13, p_14, -⟩ := wr26
      refine lv_aload_n hx hb dX11_ask_29 rfl (lv_at hl 0 rfl) ?_
      refine lv_iload_n hx hb dX11_ask_30 rfl (lv_at hl 1 rfl) ?_
      refine lv_iload_n hx hb dX11_ask_31 rfl (lv_at hl 2 rfl) ?_
      refine lv_iload_n hx hb dX11_ask_32 rfl (lv_at hl 3 rfl) ?_
      refine ro_calli (va_runV (As := [.int p0, .int p1, .int p2]) (rest := []) ⟨hx, hb, hml, hown, hts⟩ (a_X11_whyOf l G ct a0 (0 : Int32) a1 a2 a3 a4 a5 n0_6 n0_7 n0_8 n0_9 n0_10 l0_11 n0_12 n0_13 n0_14 n0_15 a6 a7 a8 a9 a10 a11 a12 a13 (ur26.1 0) (ur26.1 1) (ur26.1 2) (ur26.1 3) a14 n0_29 n0_30 f8 (ur26.2.1 0) p0 p1 p2 hp_n0_6 hp_f8 p_13 h_6 h_7) (cwV 3 hts gX11_ask_X11_whyOf rfl rfl rfl (by decide +kernel) ⟨Nat.le_of_ble_eq_true rfl, Nat.le_of_ble_eq_true rfl⟩) (ro_preV 11 0 hK (hP.sub [0, 2, 4] rfl) rfl rfl) rfl rfl hl.1 rfl (lv_room (Nat.le_of_ble_eq_true rfl)) dX11_ask_33 ⟨Nat.zero_le _, Nat.zero_le _⟩) hS hP (fun r33 H locs wr33 hP hS => ?_)
      obtain ⟨p_15, -⟩ := wr33
      refine lv_if_ne (tgt := 46) hx hb dX11_ask_36 (by decide) (fun c36 => ?_) (fun c36 => ?_)
      · have h_16 : rg 1 3 r33 := r_ne_lo_i c36 p_15 (by decide) (by decide)
        refine lv_bipush (v := (-5)) hx hb dX11_ask_46 (by decide) ?_
        exact W.iret (v := (-5)) hx hb hr (fun t ht hW => ⟨⟨(-5), (fun k => ([0, ur26.1 0, ur26.1 1, ur26.1 2, ur26.1 3] : List Int32).getD k 0, fun k => ([f7, f9, ur26.2.1 0, ur26.2.1 1, ur26.2.1 2] : List (Nat → Int32)).getD k (fun _ => 0), fun k => ([] : List (Nat → Int64)).getD k (fun _ => 0)), rfl, ⟨(fun _ => h_6), (fun _ => h_6), (fun _ => h_6), (fun _ => h_7), (fun _ => h_7), (fun _ => h_7), (fun _ => h_12), (fun _ => h_12), (fun _ => h_12), hp_f7, hp_f9, p_13, p_14, (rgn 0 (x := 0) (by decide)), trivial⟩, hp_at ht hP⟩, hS.F ht⟩) hS.2.2 dX11_ask_48
      · have h_17 : rg 0 0 r33 := r_eq_l_i (e := 0) (f := 0) c36 p_15 (rgn 0 (x := 0) (by decide)) (by decide)
        refine lv_aload_n hx hb dX11_ask_39 rfl (lv_at hl 0 rfl) ?_
        refine ro_calli (va_runV (As := []) (rest := []) ⟨hx, hb, hml, hown, hts⟩ (a_X11_isFull l G ct a0 (0 : Int32) a1 a2 a3 a4 a5 n0_6 n0_7 n0_8 n0_9 n0_10 l0_11 n0_12 n0_13 n0_14 n0_15 a6 a7 a8 a9 a10 a11 a12 a13 (ur26.1 0) (ur26.1 1) (ur26.1 2) (ur26.1 3) a14 n0_29 n0_30 f7 hp_n0_6 hp_f7) (cwV 0 hts gX11_ask_X11_isFull rfl rfl rfl (by decide +kernel) ⟨Nat.le_of_ble_eq_true rfl, Nat.le_of_ble_eq_true rfl⟩) (ro_preV 11 0 hK (hP.sub [0, 1] rfl) rfl rfl) rfl rfl hl.1 rfl (lv_room (Nat.le_of_ble_eq_true rfl)) dX11_ask_40 ⟨Nat.zero_le _, Nat.zero_le _⟩) hS hP (fun r40 H locs wr40 hP hS => ?_)
        obtain ⟨p_18, p_19, -⟩ := wr40
        refine lv_if_eq (tgt := 49) hx hb dX11_ask_43 (by decide) (fun c43 => ?_) (fun c43 => ?_)
        · have h_20 : rg 0 0 r40 := r_eq_l_i (e := 0) (f := 0) c43 p_18 (rgn 0 (x := 0) (by decide)) (by decide)
          refine lv_aload_n hx hb dX11_ask_49 rfl (lv_at hl 0 rfl) ?_
          refine lv_iconst (v := 0) hx hb dX11_ask_50 (by decide) ?_
          refine lv_iload_n hx hb dX11_ask_51 rfl (lv_at hl 1 rfl) ?_
          refine lv_iload_n hx hb dX11_ask_52 rfl (lv_at hl 2 rfl) ?_
          refine lv_iload_n hx hb dX11_ask_53 rfl (lv_at hl 3 rfl) ?_
          refine lv_iconst (v := 0) hx hb dX11_ask_54 (by decide) ?_
          refine wj_callv (wr := [(a8, .inl (ct 0, 200, .inl f8)), (a11, .inl (ct 0, 8, .inl (ur26.2.1 0))), (a12, .inl (ct 0, 8, .inl (ur26.2.1 1))), (a13, .inl (ct 0, 8, .inl (ur26.2.1 2)))]) (w1 := (fun u : SU => [(a0, .inr (11, [.int 0, .ref a1, .ref a2, .ref a3, .ref a4, .ref a5, .int n0_6, .int n0_7, .int n0_8, .int n0_9, .int n0_10, .long l0_11, .int n0_12, .int n0_13, .int n0_14, .int n0_15, .ref a6, .ref a7, .ref a8, .ref a9, .ref a10, .ref a11, .ref a12, .ref a13, .int (ur26.1 0), .int (ur26.1 1), .int (ur26.1 2), .int (ur26.1 3), .ref a14, .int n0_29, .int n0_30])), (a7, .inl (ct 0, 15, .inl (u.2.1 0))), (a9, .inl (ct 0, 1000, .inl (u.2.1 1)))])) (va_runV (As := [.int 0, .int p0, .int p1, .int p2, .int 0]) (rest := []) ⟨hx, hb, hml, hown, hts⟩ (a_X11_acts l G ct a0 (0 : Int32) a1 a2 a3 a4 a5 n0_6 n0_7 n0_8 n0_9 n0_10 l0_11 n0_12 n0_13 n0_14 n0_15 a6 a7 a8 a9 a10 a11 a12 a13 (ur26.1 0) (ur26.1 1) (ur26.1 2) (ur26.1 3) a14 n0_29 n0_30 f7 f9 (0 : Int32) p0 p1 p2 (0 : Int32) hp_n0_6 hp_f7 hp_f9 (rg_w (c := 0) (d := 7) (rgn 0 (x := 0) (by decide)) (by decide)) h_6 h_7 (rg_w (c := 0) (d := 7) h_12 (by decide)) (rg_w (c := 0) (d := 7) (rgn 0 (x := 0) (by decide)) (by decide)) (p_19 (req h_20 (y := 0) (by decide)))) (cwV 5 hts gX11_ask_X11_acts rfl rfl rfl (by decide +kernel) ⟨Nat.le_of_ble_eq_true rfl, Nat.le_of_ble_eq_true rfl⟩) (wr_preV 11 0 hK (hP.sub [0, 1, 3] rfl) (hD.sub [0, 1, 3] (by decide) rfl) rfl rfl) rfl rfl hl.1 rfl (lv_room (Nat.le_of_ble_eq_true rfl)) dX11_ask_55 ⟨Nat.zero_le _, Nat.zero_le _⟩) hS hP hD [0, 1, 3] [2, 4, 5, 6] rfl rfl (by decide) (fun _ => rfl) (fun ur55 H locs wr55 hP hD hS => ?_)
          have hP : va_P G vwCl [(a0, .inr (11, [.int 0, .ref a1, .ref a2, .ref a3, .ref a4, .ref a5, .int n0_6, .int n0_7, .int n0_8, .int n0_9, .int n0_10, .long l0_11, .int n0_12, .int n0_13, .int n0_14, .int n0_15, .ref a6, .ref a7, .ref a8, .ref a9, .ref a10, .ref a11, .ref a12, .ref a13, .int (ur26.1 0), .int (ur26.1 1), .int (ur26.1 2), .int (ur26.1 3), .ref a14, .int n0_29, .int n0_30])), (a7, .inl (ct 0, 15, .inl (ur55.2.1 0))), (a8, .inl (ct 0, 200, .inl f8)), (a9, .inl (ct 0, 1000, .inl (ur55.2.1 1))), (a11, .inl (ct 0, 8, .inl (ur26.2.1 0))), (a12, .inl (ct 0, 8, .inl (ur26.2.1 1))), (a13, .inl (ct 0, 8, .inl (ur26.2.1 2)))] H := hP.sub [4, 5, 0, 6, 1, 2, 3] rfl
          have hD : va_D A [(a0, .inr (11, [.int 0, .ref a1, .ref a2, .ref a3, .ref a4, .ref a5, .int n0_6, .int n0_7, .int n0_8, .int n0_9, .int n0_10, .long l0_11, .int n0_12, .int n0_13, .int n0_14, .int n0_15, .ref a6, .ref a7, .ref a8, .ref a9, .ref a10, .ref a11, .ref a12, .ref a13, .int (ur26.1 0), .int (ur26.1 1), .int (ur26.1 2), .int (ur26.1 3), .ref a14, .int n0_29, .int n0_30])), (a7, .inl (ct 0, 15, .inl (ur55.2.1 0))), (a8, .inl (ct 0, 200, .inl f8)), (a9, .inl (ct 0, 1000, .inl (ur55.2.1 1))), (a11, .inl (ct 0, 8, .inl (ur26.2.1 0))), (a12, .inl (ct 0, 8, .inl (ur26.2.1 1))), (a13, .inl (ct 0, 8, .inl (ur26.2.1 2)))] := hD.sub [4, 5, 0, 6, 1, 2, 3] (by decide) rfl
          obtain ⟨p_21, p_22, -⟩ := wr55
          refine lv_aload_n hx hb dX11_ask_58 rfl (lv_at hl 0 rfl) ?_
          refine lv_iload_n hx hb dX11_ask_59 rfl (lv_at hl 2 rfl) ?_
          refine ro_calli (va_runV (As := [.int p1]) (rest := []) ⟨hx, hb, hml, hown, hts⟩ (a_X11_readable l G ct a0 (0 : Int32) a1 a2 a3 a4 a5 n0_6 n0_7 n0_8 n0_9 n0_10 l0_11 n0_12 n0_13 n0_14 n0_15 a6 a7 a8 a9 a10 a11 a12 a13 (ur26.1 0) (ur26.1 1) (ur26.1 2) (ur26.1 3) a14 n0_29 n0_30 (ur55.2.1 0) f8 p1 hp_n0_6 p_21 hp_f8 h_7) (cwV 1 hts gX11_ask_X11_readable rfl rfl rfl (by decide +kernel) ⟨Nat.le_of_ble_eq_true rfl, Nat.le_of_ble_eq_true rfl⟩) (ro_preV 11 0 hK (hP.sub [0, 1, 2] rfl) rfl rfl) rfl rfl hl.1 rfl (lv_room (Nat.le_of_ble_eq_true rfl)) dX11_ask_60 ⟨Nat.zero_le _, Nat.zero_le _⟩) hS hP (fun r60 H locs wr60 hP hS => ?_)
          refine lv_aload_n hx hb dX11_ask_63 rfl (lv_at hl 0 rfl) ?_
          refine va_get (D := G) (ci := 11) (v := .ref a12) (C := RX11) (T := TX11) (N := 31) hx hb hts (by decide +kernel) hown hK.1 hP 0 rfl rfl 22 (by decide) (hts (.fieldLink RX11 50 "CardHolderModel" "worn" "[I") (by decide +kernel)) (fun _ h9 => h9) rfl dX11_ask_64 ?_
          refine lv_iload_n hx hb dX11_ask_67 rfl (lv_at hl 2 rfl) ?_
          refine va_iald hx hb hK.1 hP 5 0 rfl rfl (in_rg h_7 (by decide)) dX11_ask_68 ?_
          refine lv_topi (fun z68 gz68 => ?_)
          refine lv_isub hx hb dX11_ask_69 ?_
          refine nm_0 (fun z69 => ?_)
          refine lv_iconst (v := 1) hx hb dX11_ask_70 (by decide) ?_
          refine lv_isub hx hb dX11_ask_71 ?_
          refine nm_0 (fun z71 => ?_)
          exact W.iret (v := z71) hx hb hr (fun t ht hW => ⟨⟨z71, (fun k => ([0, ur26.1 0, ur26.1 1, ur26.1 2, ur26.1 3] : List Int32).getD k 0, fun k => ([ur55.2.1 0, ur55.2.1 1, ur26.2.1 0, ur26.2.1 1, ur26.2.1 2] : List (Nat → Int32)).getD k (fun _ => 0), fun k => ([] : List (Nat → Int64)).getD k (fun _ => 0)), rfl, ⟨(fun _ => h_6), (fun _ => h_6), (fun _ => h_6), (fun _ => h_7), (fun _ => h_7), (fun _ => h_7), (fun _ => h_12), (fun _ => h_12), (fun _ => h_12), p_21, p_22, p_13, p_14, (rgn 0 (x := 0) (by decide)), trivial⟩, hp_at ht hP⟩, hS.F ht⟩) hS.2.2 dX11_ask_72
        · have h_23 : rg 1 1 r40 := r_ne_lo_i c43 p_18 (by decide) (by decide)
          refine lv_bipush (v := (-5)) hx hb dX11_ask_46 (by decide) ?_
          exact W.iret (v := (-5)) hx hb hr (fun t ht hW => ⟨⟨(-5), (fun k => ([0, ur26.1 0, ur26.1 1, ur26.1 2, ur26.1 3] : List Int32).getD k 0, fun k => ([f7, f9, ur26.2.1 0, ur26.2.1 1, ur26.2.1 2] : List (Nat → Int32)).getD k (fun _ => 0), fun k => ([] : List (Nat → Int64)).getD k (fun _ => 0)), rfl, ⟨(fun _ => h_6), (fun _ => h_6), (fun _ => h_6), (fun _ => h_7), (fun _ => h_7), (fun _ => h_7), (fun _ => h_12), (fun _ => h_12), (fun _ => h_12), hp_f7, hp_f9, p_13, p_14, (rgn 0 (x := 0) (by decide)), trivial⟩, hp_at ht hP⟩, hS.F ht⟩) hS.2.2 dX11_ask_48
    · have h_24 : rg 0 0 r16 := r_eq_l_i (e := 0) (f := 0) c19 p_8 (rgn 0 (x := 0) (by decide)) (by decide)
      refine lv_bipush (v := (-2)) hx hb dX11_ask_22 (by decide) ?_
      exact W.iret (v := (-2)) hx hb hr (fun t ht hW => ⟨⟨(-2), (fun k => ([0, n0_24, n0_25, n0_26, n0_27] : List Int32).getD k 0, fun k => ([f7, f9, f11, f12, f13] : List (Nat → Int32)).getD k (fun _ => 0), fun k => ([] : List (Nat → Int64)).getD k (fun _ => 0)), rfl, ⟨(fun _ => h_6), (fun _ => h_6), (fun _ => h_6), (fun _ => h_7), (fun _ => h_7), (fun _ => h_7), (fun hq => absurd hq (rne (rgn (-2) (x := (-2)) (by decide)) (y := 0) (c := 0) (by decide) (by decide))), (fun hq => absurd hq (rne (rgn (-2) (x := (-2)) (by decide)) (y := (-1)) (c := (-1)) (by decide) (by decide))), (fun hq => absurd (req (rgn (-2) (x := (-2)) (by decide)) (y := (-2)) (by decide)) hq), hp_f7, hp_f9, hp_f11, hp_f13, (rgn 0 (x := 0) (by decide)), trivial⟩, hp_at ht hP⟩, hS.F ht⟩) hS.2.2 dX11_ask_24

set_option maxHeartbeats 4000000 in
set_option maxRecDepth 100000 in
theorem a_X11_give (l : Launch) (G : va_G) (ct : Nat → ClassId) (a0 : Nat) (n0_0 : Int32) (a1 : Nat) (a2 : Nat) (a3 : Nat) (a4 : Nat) (a5 : Nat) (n0_6 : Int32) (n0_7 : Int32) (n0_8 : Int32) (n0_9 : Int32) (n0_10 : Int32) (l0_11 : Int64) (n0_12 : Int32) (n0_13 : Int32) (n0_14 : Int32) (n0_15 : Int32) (a6 : Nat) (a7 : Nat) (a8 : Nat) (a9 : Nat) (a10 : Nat) (a11 : Nat) (a12 : Nat) (a13 : Nat) (n0_24 : Int32) (n0_25 : Int32) (n0_26 : Int32) (n0_27 : Int32) (a14 : Nat) (n0_29 : Int32) (n0_30 : Int32) (f7 : Nat → Int32) (f8 : Nat → Int32) (f9 : Nat → Int32) (f11 : Nat → Int32) (f12 : Nat → Int32) (f13 : Nat → Int32) (p0 : Int32) (p1 : Int32) (p2 : Int32) (p3 : Int32) (hp_n0_6 : rg 0 900 n0_6) (hp_f7 : hsI f7) (hp_f8 : psI f8) (hp_f9 : ar 0 7 f9) (hp_f11 : ar (-1) 7 f11) (hp_f13 : ar (-1) 7 f13) : Met l yX11_give wsX11_give ({ frames := 5, cells := 0, slots := 0, locals := 111 }) (va_Pc [.ref a0, .int p0, .int p1, .int p2, .int p3] (wrP G ct [(a0, .inr (11, [.int n0_0, .ref a1, .ref a2, .ref a3, .ref a4, .ref a5, .int n0_6, .int n0_7, .int n0_8, .int n0_9, .int n0_10, .long l0_11, .int n0_12, .int n0_13, .int n0_14, .int n0_15, .ref a6, .ref a7, .ref a8, .ref a9, .ref a10, .ref a11, .ref a12, .ref a13, .int n0_24, .int n0_25, .int n0_26, .int n0_27, .ref a14, .int n0_29, .int n0_30])), (a7, .inl (ct 0, 15, .inl f7)), (a8, .inl (ct 0, 200, .inl f8)), (a9, .inl (ct 0, 1000, .inl f9)), (a11, .inl (ct 0, 8, .inl f11)), (a12, .inl (ct 0, 8, .inl f12)), (a13, .inl (ct 0, 8, .inl f13))])) (va_Qi (fun (r : Int32) (u : SU) => rg (-5) 0 r ∧ (r = 0 → rg 0 7 p0) ∧ (¬ r = (-2) → rg 0 7 p0) ∧ (r = 0 → rg 0 7 p1) ∧ (¬ r = (-2) → rg 0 7 p1) ∧ (r = 0 → rg 0 7 p2) ∧ (¬ r = (-2) → rg 0 7 p2) ∧ (r = 0 → rg 0 7 p3) ∧ (¬ r = (-2) → rg 0 7 p3) ∧ hsI (u.2.1 0) ∧ ar 0 7 (u.2.1 1) ∧ ar (-1) 7 (u.2.1 2) ∧ ar (-1) 7 (u.2.1 4) ∧ rg 0 0 (u.1 0) ∧ True) (fun u t => va_P G vwCl ((fun u : SU => [(a0, .inr (11, [.int (u.1 0), .ref a1, .ref a2, .ref a3, .ref a4, .ref a5, .int n0_6, .int n0_7, .int n0_8, .int n0_9, .int n0_10, .long l0_11, .int n0_12, .int n0_13, .int n0_14, .int n0_15, .ref a6, .ref a7, .ref a8, .ref a9, .ref a10, .ref a11, .ref a12, .ref a13, .int (u.1 1), .int (u.1 2), .int (u.1 3), .int (u.1 4), .ref a14, .int n0_29, .int n0_30])), (a7, .inl (ct 0, 15, .inl (u.2.1 0))), (a8, .inl (ct 0, 200, .inl f8)), (a9, .inl (ct 0, 1000, .inl (u.2.1 1))), (a11, .inl (ct 0, 8, .inl (u.2.1 2))), (a12, .inl (ct 0, 8, .inl (u.2.1 3))), (a13, .inl (ct 0, 8, .inl (u.2.1 4)))]) u) t.heap) (aset [(a0, .inr (11, [.int n0_0, .ref a1, .ref a2, .ref a3, .ref a4, .ref a5, .int n0_6, .int n0_7, .int n0_8, .int n0_9, .int n0_10, .long l0_11, .int n0_12, .int n0_13, .int n0_14, .int n0_15, .ref a6, .ref a7, .ref a8, .ref a9, .ref a10, .ref a11, .ref a12, .ref a13, .int n0_24, .int n0_25, .int n0_26, .int n0_27, .ref a14, .int n0_29, .int n0_30])), (a7, .inl (ct 0, 15, .inl f7)), (a8, .inl (ct 0, 200, .inl f8)), (a9, .inl (ct 0, 1000, .inl f9)), (a11, .inl (ct 0, 8, .inl f11)), (a12, .inl (ct 0, 8, .inl f12)), (a13, .inl (ct 0, 8, .inl f13))])) 0 0 (aset [(a0, .inr (11, [.int n0_0, .ref a1, .ref a2, .ref a3, .ref a4, .ref a5, .int n0_6, .int n0_7, .int n0_8, .int n0_9, .int n0_10, .long l0_11, .int n0_12, .int n0_13, .int n0_14, .int n0_15, .ref a6, .ref a7, .ref a8, .ref a9, .ref a10, .ref a11, .ref a12, .ref a13, .int n0_24, .int n0_25, .int n0_26, .int n0_27, .ref a14, .int n0_29, .int n0_30])), (a7, .inl (ct 0, 15, .inl f7)), (a8, .inl (ct 0, 200, .inl f8)), (a9, .inl (ct 0, 1000, .inl f9)), (a11, .inl (ct 0, 8, .inl f11)), (a12, .inl (ct 0, 8, .inl f12)), (a13, .inl (ct 0, 8, .inl f13))]) := by
  refine Met.ofW (cc := cX11_give) (maxL := 5) (ret := (some .int)) (by decide) rfl ?_
  intro p e s m args below meth c s₁ B hml hv
  obtain ⟨rfl, hP, hK, hD0⟩ := hv
  have hx := B.exec
  have hb := B.bytes
  have hr := B.returns
  have hts := atoms_spec (ws := wsX11_give) B.pre
  have hown : s.vm.findClass RX11 = some m.cls := findClass_of_methodNamed B.named
  have hlocks := B.notSynchronized
  have hD := hD0.aself
  generalize hAe : aset [(a0, .inr (11, [.int n0_0, .ref a1, .ref a2, .ref a3, .ref a4, .ref a5, .int n0_6, .int n0_7, .int n0_8, .int n0_9, .int n0_10, .long l0_11, .int n0_12, .int n0_13, .int n0_14, .int n0_15, .ref a6, .ref a7, .ref a8, .ref a9, .ref a10, .ref a11, .ref a12, .ref a13, .int n0_24, .int n0_25, .int n0_26, .int n0_27, .ref a14, .int n0_29, .int n0_30])), (a7, .inl (ct 0, 15, .inl f7)), (a8, .inl (ct 0, 200, .inl f8)), (a9, .inl (ct 0, 1000, .inl f9)), (a11, .inl (ct 0, 8, .inl f11)), (a12, .inl (ct 0, 8, .inl f12)), (a13, .inl (ct 0, 8, .inl f13))] = A at hD ⊢
  have hS : va_S A s.heap s.heap [] := va_S.rf
  have hl := lv_entry ([.ref a0, .int p0, .int p1, .int p2, .int p3]) (n := 5) (Nat.le_of_ble_eq_true rfl)
  rw [lg_entry_eq]
  generalize (lg_sl ([.ref a0, .int p0, .int p1, .int p2, .int p3]) ++ List.replicate (5 - (lg_sl ([.ref a0, .int p0, .int p1, .int p2, .int p3])).length) Slot.unset).toArray = ls at hl ⊢
  have hl : lv_has ls 5 [(0, .ref a0), (1, .int p0), (2, .int p1), (3, .int p2), (4, .int p3)] := hl
  refine lv_aload_n hx hb dX11_give_0 rfl (lv_at hl 0 rfl) ?_
  refine lv_iconst (v := 0) hx hb dX11_give_1 (by decide) ?_
  refine va_put (D := G) (ci := 11) (v := .int 0) (ty := .int) (C := RX11) (T := TX11) (N := 31) hx hb hts (by decide +kernel) tyX11 tyX11_ok nmX11 hown hK.1 hP hD hS 0 rfl rfl 0 (by decide) (hts (.fieldLink RX11 59 "CardHolderModel" "thrown" "I") (by decide +kernel)) (fun _ h9 => h9) rfl (by decide +kernel) rfl rfl (Nat.le_of_ble_eq_true rfl) dX11_give_2 (fun H locs hP hD hS => ?_)
  refine lv_aload_n hx hb dX11_give_5 rfl (lv_at hl 0 rfl) ?_
  refine lv_iload_n hx hb dX11_give_6 rfl (lv_at hl 1 rfl) ?_
  refine lv_iload_n hx hb dX11_give_7 rfl (lv_at hl 2 rfl) ?_
  refine ro_calli (va_runV (As := [.int p0, .int p1]) (rest := []) ⟨hx, hb, hml, hown, hts⟩ (a_X11_arePeople l G ct a0 (0 : Int32) a1 a2 a3 a4 a5 n0_6 n0_7 n0_8 n0_9 n0_10 l0_11 n0_12 n0_13 n0_14 n0_15 a6 a7 a8 a9 a10 a11 a12 a13 n0_24 n0_25 n0_26 n0_27 a14 n0_29 n0_30 f7 p0 p1 hp_n0_6 hp_f7) (cwV 2 hts gX11_give_X11_arePeople rfl rfl rfl (by decide +kernel) ⟨Nat.le_of_ble_eq_true rfl, Nat.le_of_ble_eq_true rfl⟩) (ro_preV 11 0 hK (hP.sub [0, 1] rfl) rfl rfl) rfl rfl hl.1 rfl (lv_room (Nat.le_of_ble_eq_true rfl)) dX11_give_8 ⟨Nat.zero_le _, Nat.zero_le _⟩) hS hP (fun r8 H locs wr8 hP hS => ?_)
  obtain ⟨p_1, p_2, p_3, -⟩ := wr8
  refine lv_if_eq (tgt := 24) hx hb dX11_give_11 (by decide) (fun c11 => ?_) (fun c11 => ?_)
  · have h_4 : rg 0 0 r8 := r_eq_l_i (e := 0) (f := 0) c11 p_1 (rgn 0 (x := 0) (by decide)) (by decide)
    refine lv_bipush (v := (-2)) hx hb dX11_give_24 (by decide) ?_
    exact W.iret (v := (-2)) hx hb hr (fun t ht hW => ⟨⟨(-2), (fun k => ([0, n0_24, n0_25, n0_26, n0_27] : List Int32).getD k 0, fun k => ([f7, f9, f11, f12, f13] : List (Nat → Int32)).getD k (fun _ => 0), fun k => ([] : List (Nat → Int64)).getD k (fun _ => 0)), rfl, ⟨(rg_w (c := (-5)) (d := 0) (rgn (-2) (x := (-2)) (by decide)) (by decide)), (fun hq => absurd hq (rne (rgn (-2) (x := (-2)) (by decide)) (y := 0) (c := 0) (by decide) (by decide))), (fun hq => absurd (req (rgn (-2) (x := (-2)) (by decide)) (y := (-2)) (by decide)) hq), (fun hq => absurd hq (rne (rgn (-2) (x := (-2)) (by decide)) (y := 0) (c := 0) (by decide) (by decide))), (fun hq => absurd (req (rgn (-2) (x := (-2)) (by decide)) (y := (-2)) (by decide)) hq), (fun hq => absurd hq (rne (rgn (-2) (x := (-2)) (by decide)) (y := 0) (c := 0) (by decide) (by decide))), (fun hq => absurd (req (rgn (-2) (x := (-2)) (by decide)) (y := (-2)) (by decide)) hq), (fun hq => absurd hq (rne (rgn (-2) (x := (-2)) (by decide)) (y := 0) (c := 0) (by decide) (by decide))), (fun hq => absurd (req (rgn (-2) (x := (-2)) (by decide)) (y := (-2)) (by decide)) hq), hp_f7, hp_f9, hp_f11, hp_f13, (rgn 0 (x := 0) (by decide)), trivial⟩, hp_at ht hP⟩, hS.F ht⟩) hS.2.2 dX11_give_26
  · have h_5 : rg 1 1 r8 := r_ne_lo_i c11 p_1 (by decide) (by decide)
    have h_6 : rg 0 7 p0 := (p_2 (rne h_5 (y := 0) (c := 0) (by decide) (by decide)))
    have h_7 : rg 0 7 p1 := (p_3 (rne h_5 (y := 0) (c := 0) (by decide) (by decide)))
    refine lv_aload_n hx hb dX11_give_14 rfl (lv_at hl 0 rfl) ?_
    refine lv_iload_n hx hb dX11_give_15 rfl (lv_at hl 3 rfl) ?_
    refine lv_iload hx hb dX11_give_16 (lv_at hl 4 rfl) ?_
    refine ro_calli (va_runV (As := [.int p2, .int p3]) (rest := []) ⟨hx, hb, hml, hown, hts⟩ (a_X11_arePeople l G ct a0 (0 : Int32) a1 a2 a3 a4 a5 n0_6 n0_7 n0_8 n0_9 n0_10 l0_11 n0_12 n0_13 n0_14 n0_15 a6 a7 a8 a9 a10 a11 a12 a13 n0_24 n0_25 n0_26 n0_27 a14 n0_29 n0_30 f7 p2 p3 hp_n0_6 hp_f7) (cwV 2 hts gX11_give_X11_arePeople rfl rfl rfl (by decide +kernel) ⟨Nat.le_of_ble_eq_true rfl, Nat.le_of_ble_eq_true rfl⟩) (ro_preV 11 0 hK (hP.sub [0, 1] rfl) rfl rfl) rfl rfl hl.1 rfl (lv_room (Nat.le_of_ble_eq_true rfl)) dX11_give_18 ⟨Nat.zero_le _, Nat.zero_le _⟩) hS hP (fun r18 H locs wr18 hP hS => ?_)
    obtain ⟨p_8, p_9, p_10, -⟩ := wr18
    refine lv_if_ne (tgt := 27) hx hb dX11_give_21 (by decide) (fun c21 => ?_) (fun c21 => ?_)
    · have h_11 : rg 1 1 r18 := r_ne_lo_i c21 p_8 (by decide) (by decide)
      have h_12 : rg 0 7 p2 := (p_9 (rne h_11 (y := 0) (c := 0) (by decide) (by decide)))
      have h_13 : rg 0 7 p3 := (p_10 (rne h_11 (y := 0) (c := 0) (by decide) (by decide)))
      refine lv_aload_n hx hb dX11_give_27 rfl (lv_at hl 0 rfl) ?_
      refine wj_callv (wr := []) (w1 := (fun u : SU => [(a0, .inr (11, [.int 0, .ref a1, .ref a2, .ref a3, .ref a4, .ref a5, .int n0_6, .int n0_7, .int n0_8, .int n0_9, .int n0_10, .long l0_11, .int n0_12, .int n0_13, .int n0_14, .int n0_15, .ref a6, .ref a7, .ref a8, .ref a9, .ref a10, .ref a11, .ref a12, .ref a13, .int (u.1 0), .int (u.1 1), .int (u.1 2), .int (u.1 3), .ref a14, .int n0_29, .int n0_30])), (a7, .inl (ct 0, 15, .inl f7)), (a8, .inl (ct 0, 200, .inl f8)), (a9, .inl (ct 0, 1000, .inl f9)), (a11, .inl (ct 0, 8, .inl (u.2.1 0))), (a12, .inl (ct 0, 8, .inl (u.2.1 1))), (a13, .inl (ct 0, 8, .inl (u.2.1 2)))])) (va_runV (As := []) (rest := []) ⟨hx, hb, hml, hown, hts⟩ (a_X11_laysNow l G ct a0 (0 : Int32) a1 a2 a3 a4 a5 n0_6 n0_7 n0_8 n0_9 n0_10 l0_11 n0_12 n0_13 n0_14 n0_15 a6 a7 a8 a9 a10 a11 a12 a13 n0_24 n0_25 n0_26 n0_27 a14 n0_29 n0_30 f7 f8 f9 f11 f12 f13 hp_n0_6 hp_f7 hp_f8 hp_f9 hp_f11 hp_f13) (cwV 0 hts gX11_give_X11_laysNow rfl rfl rfl (by decide +kernel) ⟨Nat.le_of_ble_eq_true rfl, Nat.le_of_ble_eq_true rfl⟩) (wr_preV 11 0 hK (hP.sub [0, 1, 2, 3, 4, 5, 6] rfl) (hD.sub [0, 1, 2, 3, 4, 5, 6] (by decide) rfl) rfl rfl) rfl rfl hl.1 rfl (lv_room (Nat.le_of_ble_eq_true rfl)) dX11_give_28 ⟨Nat.zero_le _, Nat.zero_le _⟩) hS hP hD [0, 1, 2, 3, 4, 5, 6] [] rfl rfl (by decide) (fun _ => rfl) (fun ur28 H locs wr28 hP hD hS => ?_)
      have hP : va_P G vwCl [(a0, .inr (11, [.int 0, .ref a1, .ref a2, .ref a3, .ref a4, .ref a5, .int n0_6, .int n0_7, .int n0_8, .int n0_9, .int n0_10, .long l0_11, .int n0_12, .int n0_13, .int n0_14, .int n0_15, .ref a6, .ref a7, .ref a8, .ref a9, .ref a10, .ref a11, .ref a12, .ref a13, .int (ur28.1 0), .int (ur28.1 1), .int (ur28.1 2), .int (ur28.1 3), .ref a14, .int n0_29, .int n0_30])), (a7, .inl (ct 0, 15, .inl f7)), (a8, .inl (ct 0, 200, .inl f8)), (a9, .inl (ct 0, 1000, .inl f9)), (a11, .inl (ct 0, 8, .inl (ur28.2.1 0))), (a12, .inl (ct 0, 8, .inl (ur28.2.1 1))), (a13, .inl (ct 0, 8, .inl (ur28.2.1 2)))] H := hP.sub [0, 1, 2, 3, 4, 5, 6] rfl
      have hD : va_D A [(a0, .inr (11, [.int 0, .ref a1, .ref a2, .ref a3, .ref a4, .ref a5, .int n0_6, .int n0_7, .int n0_8, .int n0_9, .int n0_10, .long l0_11, .int n0_12, .int n0_13, .int n0_14, .int n0_15, .ref a6, .ref a7, .ref a8, .ref a9, .ref a10, .ref a11, .ref a12, .ref a13, .int (ur28.1 0), .int (ur28.1 1), .int (ur28.1 2), .int (ur28.1 3), .ref a14, .int n0_29, .int n0_30])), (a7, .inl (ct 0, 15, .inl f7)), (a8, .inl (ct 0, 200, .inl f8)), (a9, .inl (ct 0, 1000, .inl f9)), (a11, .inl (ct 0, 8, .inl (ur28.2.1 0))), (a12, .inl (ct 0, 8, .inl (ur28.2.1 1))), (a13, .inl (ct 0, 8, .inl (ur28.2.1 2)))] := hD.sub [0, 1, 2, 3, 4, 5, 6] (by decide) rfl
      obtain ⟨p_14, p_15, -⟩ := wr28
      refine lv_aload_n hx hb dX11_give_31 rfl (lv_at hl 0 rfl) ?_
      refine lv_iload_n hx hb dX11_give_32 rfl (lv_at hl 1 rfl) ?_
      refine lv_iload_n hx hb dX11_give_33 rfl (lv_at hl 2 rfl) ?_
      refine lv_iconst (v := (-1)) hx hb dX11_give_34 (by decide) ?_
      refine ro_calli (va_runV (As := [.int p0, .int p1, .int (-1)]) (rest := []) ⟨hx, hb, hml, hown, hts⟩ (a_X11_whyOf l G ct a0 (0 : Int32) a1 a2 a3 a4 a5 n0_6 n0_7 n0_8 n0_9 n0_10 l0_11 n0_12 n0_13 n0_14 n0_15 a6 a7 a8 a9 a10 a11 a12 a13 (ur28.1 0) (ur28.1 1) (ur28.1 2) (ur28.1 3) a14 n0_29 n0_30 f8 (ur28.2.1 0) p0 p1 ((-1) : Int32) hp_n0_6 hp_f8 p_14 h_6 h_7) (cwV 3 hts gX11_give_X11_whyOf rfl rfl rfl (by decide +kernel) ⟨Nat.le_of_ble_eq_true rfl, Nat.le_of_ble_eq_true rfl⟩) (ro_preV 11 0 hK (hP.sub [0, 2, 4] rfl) rfl rfl) rfl rfl hl.1 rfl (lv_room (Nat.le_of_ble_eq_true rfl)) dX11_give_35 ⟨Nat.zero_le _, Nat.zero_le _⟩) hS hP (fun r35 H locs wr35 hP hS => ?_)
      obtain ⟨p_16, -⟩ := wr35
      refine lv_if_ne (tgt := 58) hx hb dX11_give_38 (by decide) (fun c38 => ?_) (fun c38 => ?_)
      · have h_17 : rg 1 3 r35 := r_ne_lo_i c38 p_16 (by decide) (by decide)
        refine lv_bipush (v := (-5)) hx hb dX11_give_58 (by decide) ?_
        exact W.iret (v := (-5)) hx hb hr (fun t ht hW => ⟨⟨(-5), (fun k => ([0, ur28.1 0, ur28.1 1, ur28.1 2, ur28.1 3] : List Int32).getD k 0, fun k => ([f7, f9, ur28.2.1 0, ur28.2.1 1, ur28.2.1 2] : List (Nat → Int32)).getD k (fun _ => 0), fun k => ([] : List (Nat → Int64)).getD k (fun _ => 0)), rfl, ⟨(rg_w (c := (-5)) (d := 0) (rgn (-5) (x := (-5)) (by decide)) (by decide)), (fun _ => h_6), (fun _ => h_6), (fun _ => h_7), (fun _ => h_7), (fun _ => h_12), (fun _ => h_12), (fun _ => h_13), (fun _ => h_13), hp_f7, hp_f9, p_14, p_15, (rgn 0 (x := 0) (by decide)), trivial⟩, hp_at ht hP⟩, hS.F ht⟩) hS.2.2 dX11_give_60
      · have h_18 : rg 0 0 r35 := r_eq_l_i (e := 0) (f := 0) c38 p_16 (rgn 0 (x := 0) (by decide)) (by decide)
        refine lv_aload_n hx hb dX11_give_41 rfl (lv_at hl 0 rfl) ?_
        refine va_get (D := G) (ci := 11) (v := .ref a11) (C := RX11) (T := TX11) (N := 31) hx hb hts (by decide +kernel) hown hK.1 hP 0 rfl rfl 21 (by decide) (hts (.fieldLink RX11 47 "CardHolderModel" "holder" "[I") (by decide +kernel)) (fun _ h9 => h9) rfl dX11_give_42 ?_
        refine lv_iload_n hx hb dX11_give_45 rfl (lv_at hl 3 rfl) ?_
        refine va_iald hx hb hK.1 hP 4 0 rfl rfl (in_rg h_12 (by decide)) dX11_give_46 ?_
        refine lv_topi (fun z46 gz46 => ?_)
        have hz46 : rg (-1) 7 z46 := by rw [gz46]; exact p_14 _
        refine lv_iload_n hx hb dX11_give_47 rfl (lv_at hl 2 rfl) ?_
        refine lv_icmp_ne (tgt := 58) hx hb dX11_give_48 (by decide) (fun c48 => ?_) (fun c48 => ?_)
        · refine lv_bipush (v := (-5)) hx hb dX11_give_58 (by decide) ?_
          exact W.iret (v := (-5)) hx hb hr (fun t ht hW => ⟨⟨(-5), (fun k => ([0, ur28.1 0, ur28.1 1, ur28.1 2, ur28.1 3] : List Int32).getD k 0, fun k => ([f7, f9, ur28.2.1 0, ur28.2.1 1, ur28.2.1 2] : List (Nat → Int32)).getD k (fun _ => 0), fun k => ([] : List (Nat → Int64)).getD k (fun _ => 0)), rfl, ⟨(rg_w (c := (-5)) (d := 0) (rgn (-5) (x := (-5)) (by decide)) (by decide)), (fun _ => h_6), (fun _ => h_6), (fun _ => h_7), (fun _ => h_7), (fun _ => h_12), (fun _ => h_12), (fun _ => h_13), (fun _ => h_13), hp_f7, hp_f9, p_14, p_15, (rgn 0 (x := 0) (by decide)), trivial⟩, hp_at ht hP⟩, hS.F ht⟩) hS.2.2 dX11_give_60
        · have h_19 : rg 0 7 z46 := r_eq_l_i (e := 0) (f := 7) c48 hz46 h_7 (by decide)
          refine lv_aload_n hx hb dX11_give_51 rfl (lv_at hl 0 rfl) ?_
          refine ro_calli (va_runV (As := []) (rest := []) ⟨hx, hb, hml, hown, hts⟩ (a_X11_isFull l G ct a0 (0 : Int32) a1 a2 a3 a4 a5 n0_6 n0_7 n0_8 n0_9 n0_10 l0_11 n0_12 n0_13 n0_14 n0_15 a6 a7 a8 a9 a10 a11 a12 a13 (ur28.1 0) (ur28.1 1) (ur28.1 2) (ur28.1 3) a14 n0_29 n0_30 f7 hp_n0_6 hp_f7) (cwV 0 hts gX11_give_X11_isFull rfl rfl rfl (by decide +kernel) ⟨Nat.le_of_ble_eq_true rfl, Nat.le_of_ble_eq_true rfl⟩) (ro_preV 11 0 hK (hP.sub [0, 1] rfl) rfl rfl) rfl rfl hl.1 rfl (lv_room (Nat.le_of_ble_eq_true rfl)) dX11_give_52 ⟨Nat.zero_le _, Nat.zero_le _⟩) hS hP (fun r52 H locs wr52 hP hS => ?_)
          obtain ⟨p_20, p_21, -⟩ := wr52
          refine lv_if_eq (tgt := 61) hx hb dX11_give_55 (by decide) (fun c55 => ?_) (fun c55 => ?_)
          · have h_22 : rg 0 0 r52 := r_eq_l_i (e := 0) (f := 0) c55 p_20 (rgn 0 (x := 0) (by decide)) (by decide)
            refine lv_aload_n hx hb dX11_give_61 rfl (lv_at hl 0 rfl) ?_
            refine lv_iconst (v := 1) hx hb dX11_give_62 (by decide) ?_
            refine lv_iload_n hx hb dX11_give_63 rfl (lv_at hl 1 rfl) ?_
            refine lv_iload_n hx hb dX11_give_64 rfl (lv_at hl 2 rfl) ?_
            refine lv_iload_n hx hb dX11_give_65 rfl (lv_at hl 3 rfl) ?_
            refine lv_iload hx hb dX11_give_66 (lv_at hl 4 rfl) ?_
            refine wj_callv (wr := [(a8, .inl (ct 0, 200, .inl f8)), (a11, .inl (ct 0, 8, .inl (ur28.2.1 0))), (a12, .inl (ct 0, 8, .inl (ur28.2.1 1))), (a13, .inl (ct 0, 8, .inl (ur28.2.1 2)))]) (w1 := (fun u : SU => [(a0, .inr (11, [.int 0, .ref a1, .ref a2, .ref a3, .ref a4, .ref a5, .int n0_6, .int n0_7, .int n0_8, .int n0_9, .int n0_10, .long l0_11, .int n0_12, .int n0_13, .int n0_14, .int n0_15, .ref a6, .ref a7, .ref a8, .ref a9, .ref a10, .ref a11, .ref a12, .ref a13, .int (ur28.1 0), .int (ur28.1 1), .int (ur28.1 2), .int (ur28.1 3), .ref a14, .int n0_29, .int n0_30])), (a7, .inl (ct 0, 15, .inl (u.2.1 0))), (a9, .inl (ct 0, 1000, .inl (u.2.1 1)))])) (va_runV (As := [.int 1, .int p0, .int p1, .int p2, .int p3]) (rest := []) ⟨hx, hb, hml, hown, hts⟩ (a_X11_acts l G ct a0 (0 : Int32) a1 a2 a3 a4 a5 n0_6 n0_7 n0_8 n0_9 n0_10 l0_11 n0_12 n0_13 n0_14 n0_15 a6 a7 a8 a9 a10 a11 a12 a13 (ur28.1 0) (ur28.1 1) (ur28.1 2) (ur28.1 3) a14 n0_29 n0_30 f7 f9 (1 : Int32) p0 p1 p2 p3 hp_n0_6 hp_f7 hp_f9 (rg_w (c := 0) (d := 7) (rgn 1 (x := 1) (by decide)) (by decide)) h_6 h_7 h_12 h_13 (p_21 (req h_22 (y := 0) (by decide)))) (cwV 5 hts gX11_give_X11_acts rfl rfl rfl (by decide +kernel) ⟨Nat.le_of_ble_eq_true rfl, Nat.le_of_ble_eq_true rfl⟩) (wr_preV 11 0 hK (hP.sub [0, 1, 3] rfl) (hD.sub [0, 1, 3] (by decide) rfl) rfl rfl) rfl rfl hl.1 rfl (lv_room (Nat.le_of_ble_eq_true rfl)) dX11_give_68 ⟨Nat.zero_le _, Nat.zero_le _⟩) hS hP hD [0, 1, 3] [2, 4, 5, 6] rfl rfl (by decide) (fun _ => rfl) (fun ur68 H locs wr68 hP hD hS => ?_)
            have hP : va_P G vwCl [(a0, .inr (11, [.int 0, .ref a1, .ref a2, .ref a3, .ref a4, .ref a5, .int n0_6, .int n0_7, .int n0_8, .int n0_9, .int n0_10, .long l0_11, .int n0_12, .int n0_13, .int n0_14, .int n0_15, .ref a6, .ref a7, .ref a8, .ref a9, .ref a10, .ref a11, .ref a12, .ref a13, .int (ur28.1 0), .int (ur28.1 1), .int (ur28.1 2), .int (ur28.1 3), .ref a14, .int n0_29, .int n0_30])), (a7, .inl (ct 0, 15, .inl (ur68.2.1 0))), (a8, .inl (ct 0, 200, .inl f8)), (a9, .inl (ct 0, 1000, .inl (ur68.2.1 1))), (a11, .inl (ct 0, 8, .inl (ur28.2.1 0))), (a12, .inl (ct 0, 8, .inl (ur28.2.1 1))), (a13, .inl (ct 0, 8, .inl (ur28.2.1 2)))] H := hP.sub [4, 5, 0, 6, 1, 2, 3] rfl
            have hD : va_D A [(a0, .inr (11, [.int 0, .ref a1, .ref a2, .ref a3, .ref a4, .ref a5, .int n0_6, .int n0_7, .int n0_8, .int n0_9, .int n0_10, .long l0_11, .int n0_12, .int n0_13, .int n0_14, .int n0_15, .ref a6, .ref a7, .ref a8, .ref a9, .ref a10, .ref a11, .ref a12, .ref a13, .int (ur28.1 0), .int (ur28.1 1), .int (ur28.1 2), .int (ur28.1 3), .ref a14, .int n0_29, .int n0_30])), (a7, .inl (ct 0, 15, .inl (ur68.2.1 0))), (a8, .inl (ct 0, 200, .inl f8)), (a9, .inl (ct 0, 1000, .inl (ur68.2.1 1))), (a11, .inl (ct 0, 8, .inl (ur28.2.1 0))), (a12, .inl (ct 0, 8, .inl (ur28.2.1 1))), (a13, .inl (ct 0, 8, .inl (ur28.2.1 2)))] := hD.sub [4, 5, 0, 6, 1, 2, 3] (by decide) rfl
            obtain ⟨p_23, p_24, -⟩ := wr68
            refine lv_iconst (v := 0) hx hb dX11_give_71 (by decide) ?_
            exact W.iret (v := 0) hx hb hr (fun t ht hW => ⟨⟨0, (fun k => ([0, ur28.1 0, ur28.1 1, ur28.1 2, ur28.1 3] : List Int32).getD k 0, fun k => ([ur68.2.1 0, ur68.2.1 1, ur28.2.1 0, ur28.2.1 1, ur28.2.1 2] : List (Nat → Int32)).getD k (fun _ => 0), fun k => ([] : List (Nat → Int64)).getD k (fun _ => 0)), rfl, ⟨(rg_w (c := (-5)) (d := 0) (rgn 0 (x := 0) (by decide)) (by decide)), (fun _ => h_6), (fun _ => h_6), (fun _ => h_7), (fun _ => h_7), (fun _ => h_12), (fun _ => h_12), (fun _ => h_13), (fun _ => h_13), p_23, p_24, p_14, p_15, (rgn 0 (x := 0) (by decide)), trivial⟩, hp_at ht hP⟩, hS.F ht⟩) hS.2.2 dX11_give_72
          · have h_25 : rg 1 1 r52 := r_ne_lo_i c55 p_20 (by decide) (by decide)
            refine lv_bipush (v := (-5)) hx hb dX11_give_58 (by decide) ?_
            exact W.iret (v := (-5)) hx hb hr (fun t ht hW => ⟨⟨(-5), (fun k => ([0, ur28.1 0, ur28.1 1, ur28.1 2, ur28.1 3] : List Int32).getD k 0, fun k => ([f7, f9, ur28.2.1 0, ur28.2.1 1, ur28.2.1 2] : List (Nat → Int32)).getD k (fun _ => 0), fun k => ([] : List (Nat → Int64)).getD k (fun _ => 0)), rfl, ⟨(rg_w (c := (-5)) (d := 0) (rgn (-5) (x := (-5)) (by decide)) (by decide)), (fun _ => h_6), (fun _ => h_6), (fun _ => h_7), (fun _ => h_7), (fun _ => h_12), (fun _ => h_12), (fun _ => h_13), (fun _ => h_13), hp_f7, hp_f9, p_14, p_15, (rgn 0 (x := 0) (by decide)), trivial⟩, hp_at ht hP⟩, hS.F ht⟩) hS.2.2 dX11_give_60
    · have h_26 : rg 0 0 r18 := r_eq_l_i (e := 0) (f := 0) c21 p_8 (rgn 0 (x := 0) (by decide)) (by decide)
      refine lv_bipush (v := (-2)) hx hb dX11_give_24 (by decide) ?_
      exact W.iret (v := (-2)) hx hb hr (fun t ht hW => ⟨⟨(-2), (fun k => ([0, n0_24, n0_25, n0_26, n0_27] : List Int32).getD k 0, fun k => ([f7, f9, f11, f12, f13] : List (Nat → Int32)).getD k (fun _ => 0), fun k => ([] : List (Nat → Int64)).getD k (fun _ => 0)), rfl, ⟨(rg_w (c := (-5)) (d := 0) (rgn (-2) (x := (-2)) (by decide)) (by decide)), (fun _ => h_6), (fun _ => h_6), (fun _ => h_7), (fun _ => h_7), (fun hq => absurd hq (rne (rgn (-2) (x := (-2)) (by decide)) (y := 0) (c := 0) (by decide) (by decide))), (fun hq => absurd (req (rgn (-2) (x := (-2)) (by decide)) (y := (-2)) (by decide)) hq), (fun hq => absurd hq (rne (rgn (-2) (x := (-2)) (by decide)) (y := 0) (c := 0) (by decide) (by decide))), (fun hq => absurd (req (rgn (-2) (x := (-2)) (by decide)) (y := (-2)) (by decide)) hq), hp_f7, hp_f9, hp_f11, hp_f13, (rgn 0 (x := 0) (by decide)), trivial⟩, hp_at ht hP⟩, hS.F ht⟩) hS.2.2 dX11_give_26

set_option maxHeartbeats 4000000 in
set_option maxRecDepth 100000 in
theorem a_X11_swap (l : Launch) (G : va_G) (ct : Nat → ClassId) (a0 : Nat) (n0_0 : Int32) (a1 : Nat) (a2 : Nat) (a3 : Nat) (a4 : Nat) (a5 : Nat) (n0_6 : Int32) (n0_7 : Int32) (n0_8 : Int32) (n0_9 : Int32) (n0_10 : Int32) (l0_11 : Int64) (n0_12 : Int32) (n0_13 : Int32) (n0_14 : Int32) (n0_15 : Int32) (a6 : Nat) (a7 : Nat) (a8 : Nat) (a9 : Nat) (a10 : Nat) (a11 : Nat) (a12 : Nat) (a13 : Nat) (n0_24 : Int32) (n0_25 : Int32) (n0_26 : Int32) (n0_27 : Int32) (a14 : Nat) (n0_29 : Int32) (n0_30 : Int32) (f7 : Nat → Int32) (f8 : Nat → Int32) (f9 : Nat → Int32) (f11 : Nat → Int32) (f12 : Nat → Int32) (f13 : Nat → Int32) (p0 : Int32) (p1 : Int32) (hp_n0_6 : rg 0 900 n0_6) (hp_f7 : hsI f7) (hp_f8 : psI f8) (hp_f9 : ar 0 7 f9) (hp_f11 : ar (-1) 7 f11) (hp_f13 : ar (-1) 7 f13) : Met l yX11_swap wsX11_swap ({ frames := 5, cells := 0, slots := 0, locals := 111 }) (va_Pc [.ref a0, .int p0, .int p1] (wrP G ct [(a0, .inr (11, [.int n0_0, .ref a1, .ref a2, .ref a3, .ref a4, .ref a5, .int n0_6, .int n0_7, .int n0_8, .int n0_9, .int n0_10, .long l0_11, .int n0_12, .int n0_13, .int n0_14, .int n0_15, .ref a6, .ref a7, .ref a8, .ref a9, .ref a10, .ref a11, .ref a12, .ref a13, .int n0_24, .int n0_25, .int n0_26, .int n0_27, .ref a14, .int n0_29, .int n0_30])), (a7, .inl (ct 0, 15, .inl f7)), (a8, .inl (ct 0, 200, .inl f8)), (a9, .inl (ct 0, 1000, .inl f9)), (a11, .inl (ct 0, 8, .inl f11)), (a12, .inl (ct 0, 8, .inl f12)), (a13, .inl (ct 0, 8, .inl f13))])) (va_Qi (fun (r : Int32) (u : SU) => rg (-5) 0 r ∧ (r = 0 → rg 0 7 p0) ∧ (¬ r = (-2) → rg 0 7 p0) ∧ (r = 0 → rg 0 7 p1) ∧ (¬ r = (-2) → rg 0 7 p1) ∧ hsI (u.2.1 0) ∧ ar 0 7 (u.2.1 1) ∧ ar (-1) 7 (u.2.1 2) ∧ ar (-1) 7 (u.2.1 4) ∧ rg 0 0 (u.1 0) ∧ True) (fun u t => va_P G vwCl ((fun u : SU => [(a0, .inr (11, [.int (u.1 0), .ref a1, .ref a2, .ref a3, .ref a4, .ref a5, .int n0_6, .int n0_7, .int n0_8, .int n0_9, .int n0_10, .long l0_11, .int n0_12, .int n0_13, .int n0_14, .int n0_15, .ref a6, .ref a7, .ref a8, .ref a9, .ref a10, .ref a11, .ref a12, .ref a13, .int (u.1 1), .int (u.1 2), .int (u.1 3), .int (u.1 4), .ref a14, .int n0_29, .int n0_30])), (a7, .inl (ct 0, 15, .inl (u.2.1 0))), (a8, .inl (ct 0, 200, .inl f8)), (a9, .inl (ct 0, 1000, .inl (u.2.1 1))), (a11, .inl (ct 0, 8, .inl (u.2.1 2))), (a12, .inl (ct 0, 8, .inl (u.2.1 3))), (a13, .inl (ct 0, 8, .inl (u.2.1 4)))]) u) t.heap) (aset [(a0, .inr (11, [.int n0_0, .ref a1, .ref a2, .ref a3, .ref a4, .ref a5, .int n0_6, .int n0_7, .int n0_8, .int n0_9, .int n0_10, .long l0_11, .int n0_12, .int n0_13, .int n0_14, .int n0_15, .ref a6, .ref a7, .ref a8, .ref a9, .ref a10, .ref a11, .ref a12, .ref a13, .int n0_24, .int n0_25, .int n0_26, .int n0_27, .ref a14, .int n0_29, .int n0_30])), (a7, .inl (ct 0, 15, .inl f7)), (a8, .inl (ct 0, 200, .inl f8)), (a9, .inl (ct 0, 1000, .inl f9)), (a11, .inl (ct 0, 8, .inl f11)), (a12, .inl (ct 0, 8, .inl f12)), (a13, .inl (ct 0, 8, .inl f13))])) 0 0 (aset [(a0, .inr (11, [.int n0_0, .ref a1, .ref a2, .ref a3, .ref a4, .ref a5, .int n0_6, .int n0_7, .int n0_8, .int n0_9, .int n0_10, .long l0_11, .int n0_12, .int n0_13, .int n0_14, .int n0_15, .ref a6, .ref a7, .ref a8, .ref a9, .ref a10, .ref a11, .ref a12, .ref a13, .int n0_24, .int n0_25, .int n0_26, .int n0_27, .ref a14, .int n0_29, .int n0_30])), (a7, .inl (ct 0, 15, .inl f7)), (a8, .inl (ct 0, 200, .inl f8)), (a9, .inl (ct 0, 1000, .inl f9)), (a11, .inl (ct 0, 8, .inl f11)), (a12, .inl (ct 0, 8, .inl f12)), (a13, .inl (ct 0, 8, .inl f13))]) := by
  refine Met.ofW (cc := cX11_swap) (maxL := 3) (ret := (some .int)) (by decide) rfl ?_
  intro p e s m args below meth c s₁ B hml hv
  obtain ⟨rfl, hP, hK, hD0⟩ := hv
  have hx := B.exec
  have hb := B.bytes
  have hr := B.returns
  have hts := atoms_spec (ws := wsX11_swap) B.pre
  have hown : s.vm.findClass RX11 = some m.cls := findClass_of_methodNamed B.named
  have hlocks := B.notSynchronized
  have hD := hD0.aself
  generalize hAe : aset [(a0, .inr (11, [.int n0_0, .ref a1, .ref a2, .ref a3, .ref a4, .ref a5, .int n0_6, .int n0_7, .int n0_8, .int n0_9, .int n0_10, .long l0_11, .int n0_12, .int n0_13, .int n0_14, .int n0_15, .ref a6, .ref a7, .ref a8, .ref a9, .ref a10, .ref a11, .ref a12, .ref a13, .int n0_24, .int n0_25, .int n0_26, .int n0_27, .ref a14, .int n0_29, .int n0_30])), (a7, .inl (ct 0, 15, .inl f7)), (a8, .inl (ct 0, 200, .inl f8)), (a9, .inl (ct 0, 1000, .inl f9)), (a11, .inl (ct 0, 8, .inl f11)), (a12, .inl (ct 0, 8, .inl f12)), (a13, .inl (ct 0, 8, .inl f13))] = A at hD ⊢
  have hS : va_S A s.heap s.heap [] := va_S.rf
  have hl := lv_entry ([.ref a0, .int p0, .int p1]) (n := 3) (Nat.le_of_ble_eq_true rfl)
  rw [lg_entry_eq]
  generalize (lg_sl ([.ref a0, .int p0, .int p1]) ++ List.replicate (3 - (lg_sl ([.ref a0, .int p0, .int p1])).length) Slot.unset).toArray = ls at hl ⊢
  have hl : lv_has ls 3 [(0, .ref a0), (1, .int p0), (2, .int p1)] := hl
  refine lv_aload_n hx hb dX11_swap_0 rfl (lv_at hl 0 rfl) ?_
  refine lv_iconst (v := 0) hx hb dX11_swap_1 (by decide) ?_
  refine va_put (D := G) (ci := 11) (v := .int 0) (ty := .int) (C := RX11) (T := TX11) (N := 31) hx hb hts (by decide +kernel) tyX11 tyX11_ok nmX11 hown hK.1 hP hD hS 0 rfl rfl 0 (by decide) (hts (.fieldLink RX11 59 "CardHolderModel" "thrown" "I") (by decide +kernel)) (fun _ h9 => h9) rfl (by decide +kernel) rfl rfl (Nat.le_of_ble_eq_true rfl) dX11_swap_2 (fun H locs hP hD hS => ?_)
  refine lv_aload_n hx hb dX11_swap_5 rfl (lv_at hl 0 rfl) ?_
  refine lv_iload_n hx hb dX11_swap_6 rfl (lv_at hl 1 rfl) ?_
  refine lv_iload_n hx hb dX11_swap_7 rfl (lv_at hl 2 rfl) ?_
  refine ro_calli (va_runV (As := [.int p0, .int p1]) (rest := []) ⟨hx, hb, hml, hown, hts⟩ (a_X11_arePeople l G ct a0 (0 : Int32) a1 a2 a3 a4 a5 n0_6 n0_7 n0_8 n0_9 n0_10 l0_11 n0_12 n0_13 n0_14 n0_15 a6 a7 a8 a9 a10 a11 a12 a13 n0_24 n0_25 n0_26 n0_27 a14 n0_29 n0_30 f7 p0 p1 hp_n0_6 hp_f7) (cwV 2 hts gX11_swap_X11_arePeople rfl rfl rfl (by decide +kernel) ⟨Nat.le_of_ble_eq_true rfl, Nat.le_of_ble_eq_true rfl⟩) (ro_preV 11 0 hK (hP.sub [0, 1] rfl) rfl rfl) rfl rfl hl.1 rfl (lv_room (Nat.le_of_ble_eq_true rfl)) dX11_swap_8 ⟨Nat.zero_le _, Nat.zero_le _⟩) hS hP (fun r8 H locs wr8 hP hS => ?_)
  obtain ⟨p_1, p_2, p_3, -⟩ := wr8
  refine lv_if_eq (tgt := 19) hx hb dX11_swap_11 (by decide) (fun c11 => ?_) (fun c11 => ?_)
  · have h_4 : rg 0 0 r8 := r_eq_l_i (e := 0) (f := 0) c11 p_1 (rgn 0 (x := 0) (by decide)) (by decide)
    refine lv_bipush (v := (-2)) hx hb dX11_swap_19 (by decide) ?_
    exact W.iret (v := (-2)) hx hb hr (fun t ht hW => ⟨⟨(-2), (fun k => ([0, n0_24, n0_25, n0_26, n0_27] : List Int32).getD k 0, fun k => ([f7, f9, f11, f12, f13] : List (Nat → Int32)).getD k (fun _ => 0), fun k => ([] : List (Nat → Int64)).getD k (fun _ => 0)), rfl, ⟨(rg_w (c := (-5)) (d := 0) (rgn (-2) (x := (-2)) (by decide)) (by decide)), (fun hq => absurd hq (rne (rgn (-2) (x := (-2)) (by decide)) (y := 0) (c := 0) (by decide) (by decide))), (fun hq => absurd (req (rgn (-2) (x := (-2)) (by decide)) (y := (-2)) (by decide)) hq), (fun hq => absurd hq (rne (rgn (-2) (x := (-2)) (by decide)) (y := 0) (c := 0) (by decide) (by decide))), (fun hq => absurd (req (rgn (-2) (x := (-2)) (by decide)) (y := (-2)) (by decide)) hq), hp_f7, hp_f9, hp_f11, hp_f13, (rgn 0 (x := 0) (by decide)), trivial⟩, hp_at ht hP⟩, hS.F ht⟩) hS.2.2 dX11_swap_21
  · have h_5 : rg 1 1 r8 := r_ne_lo_i c11 p_1 (by decide) (by decide)
    have h_6 : rg 0 7 p0 := (p_2 (rne h_5 (y := 0) (c := 0) (by decide) (by decide)))
    have h_7 : rg 0 7 p1 := (p_3 (rne h_5 (y := 0) (c := 0) (by decide) (by decide)))
    refine lv_iload_n hx hb dX11_swap_14 rfl (lv_at hl 1 rfl) ?_
    refine lv_iload_n hx hb dX11_swap_15 rfl (lv_at hl 2 rfl) ?_
    refine lv_icmp_ne (tgt := 22) hx hb dX11_swap_16 (by decide) (fun c16 => ?_) (fun c16 => ?_)
    · refine lv_aload_n hx hb dX11_swap_22 rfl (lv_at hl 0 rfl) ?_
      refine wj_callv (wr := []) (w1 := (fun u : SU => [(a0, .inr (11, [.int 0, .ref a1, .ref a2, .ref a3, .ref a4, .ref a5, .int n0_6, .int n0_7, .int n0_8, .int n0_9, .int n0_10, .long l0_11, .int n0_12, .int n0_13, .int n0_14, .int n0_15, .ref a6, .ref a7, .ref a8, .ref a9, .ref a10, .ref a11, .ref a12, .ref a13, .int (u.1 0), .int (u.1 1), .int (u.1 2), .int (u.1 3), .ref a14, .int n0_29, .int n0_30])), (a7, .inl (ct 0, 15, .inl f7)), (a8, .inl (ct 0, 200, .inl f8)), (a9, .inl (ct 0, 1000, .inl f9)), (a11, .inl (ct 0, 8, .inl (u.2.1 0))), (a12, .inl (ct 0, 8, .inl (u.2.1 1))), (a13, .inl (ct 0, 8, .inl (u.2.1 2)))])) (va_runV (As := []) (rest := []) ⟨hx, hb, hml, hown, hts⟩ (a_X11_laysNow l G ct a0 (0 : Int32) a1 a2 a3 a4 a5 n0_6 n0_7 n0_8 n0_9 n0_10 l0_11 n0_12 n0_13 n0_14 n0_15 a6 a7 a8 a9 a10 a11 a12 a13 n0_24 n0_25 n0_26 n0_27 a14 n0_29 n0_30 f7 f8 f9 f11 f12 f13 hp_n0_6 hp_f7 hp_f8 hp_f9 hp_f11 hp_f13) (cwV 0 hts gX11_swap_X11_laysNow rfl rfl rfl (by decide +kernel) ⟨Nat.le_of_ble_eq_true rfl, Nat.le_of_ble_eq_true rfl⟩) (wr_preV 11 0 hK (hP.sub [0, 1, 2, 3, 4, 5, 6] rfl) (hD.sub [0, 1, 2, 3, 4, 5, 6] (by decide) rfl) rfl rfl) rfl rfl hl.1 rfl (lv_room (Nat.le_of_ble_eq_true rfl)) dX11_swap_23 ⟨Nat.zero_le _, Nat.zero_le _⟩) hS hP hD [0, 1, 2, 3, 4, 5, 6] [] rfl rfl (by decide) (fun _ => rfl) (fun ur23 H locs wr23 hP hD hS => ?_)
      have hP : va_P G vwCl [(a0, .inr (11, [.int 0, .ref a1, .ref a2, .ref a3, .ref a4, .ref a5, .int n0_6, .int n0_7, .int n0_8, .int n0_9, .int n0_10, .long l0_11, .int n0_12, .int n0_13, .int n0_14, .int n0_15, .ref a6, .ref a7, .ref a8, .ref a9, .ref a10, .ref a11, .ref a12, .ref a13, .int (ur23.1 0), .int (ur23.1 1), .int (ur23.1 2), .int (ur23.1 3), .ref a14, .int n0_29, .int n0_30])), (a7, .inl (ct 0, 15, .inl f7)), (a8, .inl (ct 0, 200, .inl f8)), (a9, .inl (ct 0, 1000, .inl f9)), (a11, .inl (ct 0, 8, .inl (ur23.2.1 0))), (a12, .inl (ct 0, 8, .inl (ur23.2.1 1))), (a13, .inl (ct 0, 8, .inl (ur23.2.1 2)))] H := hP.sub [0, 1, 2, 3, 4, 5, 6] rfl
      have hD : va_D A [(a0, .inr (11, [.int 0, .ref a1, .ref a2, .ref a3, .ref a4, .ref a5, .int n0_6, .int n0_7, .int n0_8, .int n0_9, .int n0_10, .long l0_11, .int n0_12, .int n0_13, .int n0_14, .int n0_15, .ref a6, .ref a7, .ref a8, .ref a9, .ref a10, .ref a11, .ref a12, .ref a13, .int (ur23.1 0), .int (ur23.1 1), .int (ur23.1 2), .int (ur23.1 3), .ref a14, .int n0_29, .int n0_30])), (a7, .inl (ct 0, 15, .inl f7)), (a8, .inl (ct 0, 200, .inl f8)), (a9, .inl (ct 0, 1000, .inl f9)), (a11, .inl (ct 0, 8, .inl (ur23.2.1 0))), (a12, .inl (ct 0, 8, .inl (ur23.2.1 1))), (a13, .inl (ct 0, 8, .inl (ur23.2.1 2)))] := hD.sub [0, 1, 2, 3, 4, 5, 6] (by decide) rfl
      obtain ⟨p_8, p_9, -⟩ := wr23
      refine lv_aload_n hx hb dX11_swap_26 rfl (lv_at hl 0 rfl) ?_
      refine va_get (D := G) (ci := 11) (v := .ref a11) (C := RX11) (T := TX11) (N := 31) hx hb hts (by decide +kernel) hown hK.1 hP 0 rfl rfl 21 (by decide) (hts (.fieldLink RX11 47 "CardHolderModel" "holder" "[I") (by decide +kernel)) (fun _ h9 => h9) rfl dX11_swap_27 ?_
      refine lv_iload_n hx hb dX11_swap_30 rfl (lv_at hl 1 rfl) ?_
      refine va_iald hx hb hK.1 hP 4 0 rfl rfl (in_rg h_6 (by decide)) dX11_swap_31 ?_
      refine lv_topi (fun z31 gz31 => ?_)
      have hz31 : rg (-1) 7 z31 := by rw [gz31]; exact p_8 _
      refine lv_iconst (v := (-1)) hx hb dX11_swap_32 (by decide) ?_
      refine lv_icmp_eq (tgt := 68) hx hb dX11_swap_33 (by decide) (fun c33 => ?_) (fun c33 => ?_)
      · have h_10 : rg (-1) (-1) z31 := r_eq_l_i (e := (-1)) (f := (-1)) c33 hz31 (rgn (-1) (x := (-1)) (by decide)) (by decide)
        refine lv_bipush (v := (-5)) hx hb dX11_swap_68 (by decide) ?_
        exact W.iret (v := (-5)) hx hb hr (fun t ht hW => ⟨⟨(-5), (fun k => ([0, ur23.1 0, ur23.1 1, ur23.1 2, ur23.1 3] : List Int32).getD k 0, fun k => ([f7, f9, ur23.2.1 0, ur23.2.1 1, ur23.2.1 2] : List (Nat → Int32)).getD k (fun _ => 0), fun k => ([] : List (Nat → Int64)).getD k (fun _ => 0)), rfl, ⟨(rg_w (c := (-5)) (d := 0) (rgn (-5) (x := (-5)) (by decide)) (by decide)), (fun _ => h_6), (fun _ => h_6), (fun _ => h_7), (fun _ => h_7), hp_f7, hp_f9, p_8, p_9, (rgn 0 (x := 0) (by decide)), trivial⟩, hp_at ht hP⟩, hS.F ht⟩) hS.2.2 dX11_swap_70
      · have h_11 : rg 0 7 z31 := r_ne_lo_i c33 hz31 (by decide) (by decide)
        refine lv_aload_n hx hb dX11_swap_36 rfl (lv_at hl 0 rfl) ?_
        refine va_get (D := G) (ci := 11) (v := .ref a11) (C := RX11) (T := TX11) (N := 31) hx hb hts (by decide +kernel) hown hK.1 hP 0 rfl rfl 21 (by decide) (hts (.fieldLink RX11 47 "CardHolderModel" "holder" "[I") (by decide +kernel)) (fun _ h9 => h9) rfl dX11_swap_37 ?_
        refine lv_iload_n hx hb dX11_swap_40 rfl (lv_at hl 2 rfl) ?_
        refine va_iald hx hb hK.1 hP 4 0 rfl rfl (in_rg h_7 (by decide)) dX11_swap_41 ?_
        refine lv_topi (fun z41 gz41 => ?_)
        have hz41 : rg (-1) 7 z41 := by rw [gz41]; exact p_8 _
        refine lv_iconst (v := (-1)) hx hb dX11_swap_42 (by decide) ?_
        refine lv_icmp_eq (tgt := 68) hx hb dX11_swap_43 (by decide) (fun c43 => ?_) (fun c43 => ?_)
        · have h_12 : rg (-1) (-1) z41 := r_eq_l_i (e := (-1)) (f := (-1)) c43 hz41 (rgn (-1) (x := (-1)) (by decide)) (by decide)
          refine lv_bipush (v := (-5)) hx hb dX11_swap_68 (by decide) ?_
          exact W.iret (v := (-5)) hx hb hr (fun t ht hW => ⟨⟨(-5), (fun k => ([0, ur23.1 0, ur23.1 1, ur23.1 2, ur23.1 3] : List Int32).getD k 0, fun k => ([f7, f9, ur23.2.1 0, ur23.2.1 1, ur23.2.1 2] : List (Nat → Int32)).getD k (fun _ => 0), fun k => ([] : List (Nat → Int64)).getD k (fun _ => 0)), rfl, ⟨(rg_w (c := (-5)) (d := 0) (rgn (-5) (x := (-5)) (by decide)) (by decide)), (fun _ => h_6), (fun _ => h_6), (fun _ => h_7), (fun _ => h_7), hp_f7, hp_f9, p_8, p_9, (rgn 0 (x := 0) (by decide)), trivial⟩, hp_at ht hP⟩, hS.F ht⟩) hS.2.2 dX11_swap_70
        · have h_13 : rg 0 7 z41 := r_ne_lo_i c43 hz41 (by decide) (by decide)
          refine lv_aload_n hx hb dX11_swap_46 rfl (lv_at hl 0 rfl) ?_
          refine va_get (D := G) (ci := 11) (v := .ref a11) (C := RX11) (T := TX11) (N := 31) hx hb hts (by decide +kernel) hown hK.1 hP 0 rfl rfl 21 (by decide) (hts (.fieldLink RX11 47 "CardHolderModel" "holder" "[I") (by decide +kernel)) (fun _ h9 => h9) rfl dX11_swap_47 ?_
          refine lv_iload_n hx hb dX11_swap_50 rfl (lv_at hl 1 rfl) ?_
          refine va_iald hx hb hK.1 hP 4 0 rfl rfl (in_rg h_6 (by decide)) dX11_swap_51 ?_
          refine ix_i (y := z31) gz31.symm ?_
          refine lv_aload_n hx hb dX11_swap_52 rfl (lv_at hl 0 rfl) ?_
          refine va_get (D := G) (ci := 11) (v := .ref a11) (C := RX11) (T := TX11) (N := 31) hx hb hts (by decide +kernel) hown hK.1 hP 0 rfl rfl 21 (by decide) (hts (.fieldLink RX11 47 "CardHolderModel" "holder" "[I") (by decide +kernel)) (fun _ h9 => h9) rfl dX11_swap_53 ?_
          refine lv_iload_n hx hb dX11_swap_56 rfl (lv_at hl 2 rfl) ?_
          refine va_iald hx hb hK.1 hP 4 0 rfl rfl (in_rg h_7 (by decide)) dX11_swap_57 ?_
          refine ix_i (y := z41) gz41.symm ?_
          refine lv_icmp_eq (tgt := 68) hx hb dX11_swap_58 (by decide) (fun c58 => ?_) (fun c58 => ?_)
          · refine lv_bipush (v := (-5)) hx hb dX11_swap_68 (by decide) ?_
            exact W.iret (v := (-5)) hx hb hr (fun t ht hW => ⟨⟨(-5), (fun k => ([0, ur23.1 0, ur23.1 1, ur23.1 2, ur23.1 3] : List Int32).getD k 0, fun k => ([f7, f9, ur23.2.1 0, ur23.2.1 1, ur23.2.1 2] : List (Nat → Int32)).getD k (fun _ => 0), fun k => ([] : List (Nat → Int64)).getD k (fun _ => 0)), rfl, ⟨(rg_w (c := (-5)) (d := 0) (rgn (-5) (x := (-5)) (by decide)) (by decide)), (fun _ => h_6), (fun _ => h_6), (fun _ => h_7), (fun _ => h_7), hp_f7, hp_f9, p_8, p_9, (rgn 0 (x := 0) (by decide)), trivial⟩, hp_at ht hP⟩, hS.F ht⟩) hS.2.2 dX11_swap_70
          · refine lv_aload_n hx hb dX11_swap_61 rfl (lv_at hl 0 rfl) ?_
            refine ro_calli (va_runV (As := []) (rest := []) ⟨hx, hb, hml, hown, hts⟩ (a_X11_isFull l G ct a0 (0 : Int32) a1 a2 a3 a4 a5 n0_6 n0_7 n0_8 n0_9 n0_10 l0_11 n0_12 n0_13 n0_14 n0_15 a6 a7 a8 a9 a10 a11 a12 a13 (ur23.1 0) (ur23.1 1) (ur23.1 2) (ur23.1 3) a14 n0_29 n0_30 f7 hp_n0_6 hp_f7) (cwV 0 hts gX11_swap_X11_isFull rfl rfl rfl (by decide +kernel) ⟨Nat.le_of_ble_eq_true rfl, Nat.le_of_ble_eq_true rfl⟩) (ro_preV 11 0 hK (hP.sub [0, 1] rfl) rfl rfl) rfl rfl hl.1 rfl (lv_room (Nat.le_of_ble_eq_true rfl)) dX11_swap_62 ⟨Nat.zero_le _, Nat.zero_le _⟩) hS hP (fun r62 H locs wr62 hP hS => ?_)
            obtain ⟨p_14, p_15, -⟩ := wr62
            refine lv_if_eq (tgt := 71) hx hb dX11_swap_65 (by decide) (fun c65 => ?_) (fun c65 => ?_)
            · have h_16 : rg 0 0 r62 := r_eq_l_i (e := 0) (f := 0) c65 p_14 (rgn 0 (x := 0) (by decide)) (by decide)
              refine lv_aload_n hx hb dX11_swap_71 rfl (lv_at hl 0 rfl) ?_
              refine lv_iconst (v := 2) hx hb dX11_swap_72 (by decide) ?_
              refine lv_iload_n hx hb dX11_swap_73 rfl (lv_at hl 1 rfl) ?_
              refine lv_iload_n hx hb dX11_swap_74 rfl (lv_at hl 2 rfl) ?_
              refine lv_iconst (v := 0) hx hb dX11_swap_75 (by decide) ?_
              refine lv_iconst (v := 0) hx hb dX11_swap_76 (by decide) ?_
              refine wj_callv (wr := [(a8, .inl (ct 0, 200, .inl f8)), (a11, .inl (ct 0, 8, .inl (ur23.2.1 0))), (a12, .inl (ct 0, 8, .inl (ur23.2.1 1))), (a13, .inl (ct 0, 8, .inl (ur23.2.1 2)))]) (w1 := (fun u : SU => [(a0, .inr (11, [.int 0, .ref a1, .ref a2, .ref a3, .ref a4, .ref a5, .int n0_6, .int n0_7, .int n0_8, .int n0_9, .int n0_10, .long l0_11, .int n0_12, .int n0_13, .int n0_14, .int n0_15, .ref a6, .ref a7, .ref a8, .ref a9, .ref a10, .ref a11, .ref a12, .ref a13, .int (ur23.1 0), .int (ur23.1 1), .int (ur23.1 2), .int (ur23.1 3), .ref a14, .int n0_29, .int n0_30])), (a7, .inl (ct 0, 15, .inl (u.2.1 0))), (a9, .inl (ct 0, 1000, .inl (u.2.1 1)))])) (va_runV (As := [.int 2, .int p0, .int p1, .int 0, .int 0]) (rest := []) ⟨hx, hb, hml, hown, hts⟩ (a_X11_acts l G ct a0 (0 : Int32) a1 a2 a3 a4 a5 n0_6 n0_7 n0_8 n0_9 n0_10 l0_11 n0_12 n0_13 n0_14 n0_15 a6 a7 a8 a9 a10 a11 a12 a13 (ur23.1 0) (ur23.1 1) (ur23.1 2) (ur23.1 3) a14 n0_29 n0_30 f7 f9 (2 : Int32) p0 p1 (0 : Int32) (0 : Int32) hp_n0_6 hp_f7 hp_f9 (rg_w (c := 0) (d := 7) (rgn 2 (x := 2) (by decide)) (by decide)) h_6 h_7 (rg_w (c := 0) (d := 7) (rgn 0 (x := 0) (by decide)) (by decide)) (rg_w (c := 0) (d := 7) (rgn 0 (x := 0) (by decide)) (by decide)) (p_15 (req h_16 (y := 0) (by decide)))) (cwV 5 hts gX11_swap_X11_acts rfl rfl rfl (by decide +kernel) ⟨Nat.le_of_ble_eq_true rfl, Nat.le_of_ble_eq_true rfl⟩) (wr_preV 11 0 hK (hP.sub [0, 1, 3] rfl) (hD.sub [0, 1, 3] (by decide) rfl) rfl rfl) rfl rfl hl.1 rfl (lv_room (Nat.le_of_ble_eq_true rfl)) dX11_swap_77 ⟨Nat.zero_le _, Nat.zero_le _⟩) hS hP hD [0, 1, 3] [2, 4, 5, 6] rfl rfl (by decide) (fun _ => rfl) (fun ur77 H locs wr77 hP hD hS => ?_)
              have hP : va_P G vwCl [(a0, .inr (11, [.int 0, .ref a1, .ref a2, .ref a3, .ref a4, .ref a5, .int n0_6, .int n0_7, .int n0_8, .int n0_9, .int n0_10, .long l0_11, .int n0_12, .int n0_13, .int n0_14, .int n0_15, .ref a6, .ref a7, .ref a8, .ref a9, .ref a10, .ref a11, .ref a12, .ref a13, .int (ur23.1 0), .int (ur23.1 1), .int (ur23.1 2), .int (ur23.1 3), .ref a14, .int n0_29, .int n0_30])), (a7, .inl (ct 0, 15, .inl (ur77.2.1 0))), (a8, .inl (ct 0, 200, .inl f8)), (a9, .inl (ct 0, 1000, .inl (ur77.2.1 1))), (a11, .inl (ct 0, 8, .inl (ur23.2.1 0))), (a12, .inl (ct 0, 8, .inl (ur23.2.1 1))), (a13, .inl (ct 0, 8, .inl (ur23.2.1 2)))] H := hP.sub [4, 5, 0, 6, 1, 2, 3] rfl
              have hD : va_D A [(a0, .inr (11, [.int 0, .ref a1, .ref a2, .ref a3, .ref a4, .ref a5, .int n0_6, .int n0_7, .int n0_8, .int n0_9, .int n0_10, .long l0_11, .int n0_12, .int n0_13, .int n0_14, .int n0_15, .ref a6, .ref a7, .ref a8, .ref a9, .ref a10, .ref a11, .ref a12, .ref a13, .int (ur23.1 0), .int (ur23.1 1), .int (ur23.1 2), .int (ur23.1 3), .ref a14, .int n0_29, .int n0_30])), (a7, .inl (ct 0, 15, .inl (ur77.2.1 0))), (a8, .inl (ct 0, 200, .inl f8)), (a9, .inl (ct 0, 1000, .inl (ur77.2.1 1))), (a11, .inl (ct 0, 8, .inl (ur23.2.1 0))), (a12, .inl (ct 0, 8, .inl (ur23.2.1 1))), (a13, .inl (ct 0, 8, .inl (ur23.2.1 2)))] := hD.sub [4, 5, 0, 6, 1, 2, 3] (by decide) rfl
              obtain ⟨p_17, p_18, -⟩ := wr77
              refine lv_iconst (v := 0) hx hb dX11_swap_80 (by decide) ?_
              exact W.iret (v := 0) hx hb hr (fun t ht hW => ⟨⟨0, (fun k => ([0, ur23.1 0, ur23.1 1, ur23.1 2, ur23.1 3] : List Int32).getD k 0, fun k => ([ur77.2.1 0, ur77.2.1 1, ur23.2.1 0, ur23.2.1 1, ur23.2.1 2] : List (Nat → Int32)).getD k (fun _ => 0), fun k => ([] : List (Nat → Int64)).getD k (fun _ => 0)), rfl, ⟨(rg_w (c := (-5)) (d := 0) (rgn 0 (x := 0) (by decide)) (by decide)), (fun _ => h_6), (fun _ => h_6), (fun _ => h_7), (fun _ => h_7), p_17, p_18, p_8, p_9, (rgn 0 (x := 0) (by decide)), trivial⟩, hp_at ht hP⟩, hS.F ht⟩) hS.2.2 dX11_swap_81
            · have h_19 : rg 1 1 r62 := r_ne_lo_i c65 p_14 (by decide) (by decide)
              refine lv_bipush (v := (-5)) hx hb dX11_swap_68 (by decide) ?_
              exact W.iret (v := (-5)) hx hb hr (fun t ht hW => ⟨⟨(-5), (fun k => ([0, ur23.1 0, ur23.1 1, ur23.1 2, ur23.1 3] : List Int32).getD k 0, fun k => ([f7, f9, ur23.2.1 0, ur23.2.1 1, ur23.2.1 2] : List (Nat → Int32)).getD k (fun _ => 0), fun k => ([] : List (Nat → Int64)).getD k (fun _ => 0)), rfl, ⟨(rg_w (c := (-5)) (d := 0) (rgn (-5) (x := (-5)) (by decide)) (by decide)), (fun _ => h_6), (fun _ => h_6), (fun _ => h_7), (fun _ => h_7), hp_f7, hp_f9, p_8, p_9, (rgn 0 (x := 0) (by decide)), trivial⟩, hp_at ht hP⟩, hS.F ht⟩) hS.2.2 dX11_swap_70
    · refine lv_bipush (v := (-2)) hx hb dX11_swap_19 (by decide) ?_
      exact W.iret (v := (-2)) hx hb hr (fun t ht hW => ⟨⟨(-2), (fun k => ([0, n0_24, n0_25, n0_26, n0_27] : List Int32).getD k 0, fun k => ([f7, f9, f11, f12, f13] : List (Nat → Int32)).getD k (fun _ => 0), fun k => ([] : List (Nat → Int64)).getD k (fun _ => 0)), rfl, ⟨(rg_w (c := (-5)) (d := 0) (rgn (-2) (x := (-2)) (by decide)) (by decide)), (fun _ => h_6), (fun _ => h_6), (fun _ => h_7), (fun _ => h_7), hp_f7, hp_f9, hp_f11, hp_f13, (rgn 0 (x := 0) (by decide)), trivial⟩, hp_at ht hP⟩, hS.F ht⟩) hS.2.2 dX11_swap_21

set_option maxHeartbeats 4000000 in
set_option maxRecDepth 100000 in
theorem a_X11_steal (l : Launch) (G : va_G) (ct : Nat → ClassId) (a0 : Nat) (n0_0 : Int32) (a1 : Nat) (a2 : Nat) (a3 : Nat) (a4 : Nat) (a5 : Nat) (n0_6 : Int32) (n0_7 : Int32) (n0_8 : Int32) (n0_9 : Int32) (n0_10 : Int32) (l0_11 : Int64) (n0_12 : Int32) (n0_13 : Int32) (n0_14 : Int32) (n0_15 : Int32) (a6 : Nat) (a7 : Nat) (a8 : Nat) (a9 : Nat) (a10 : Nat) (a11 : Nat) (a12 : Nat) (a13 : Nat) (n0_24 : Int32) (n0_25 : Int32) (n0_26 : Int32) (n0_27 : Int32) (a14 : Nat) (n0_29 : Int32) (n0_30 : Int32) (f7 : Nat → Int32) (f8 : Nat → Int32) (f9 : Nat → Int32) (f11 : Nat → Int32) (f12 : Nat → Int32) (f13 : Nat → Int32) (p0 : Int32) (p1 : Int32) (hp_n0_6 : rg 0 900 n0_6) (hp_f7 : hsI f7) (hp_f8 : psI f8) (hp_f9 : ar 0 7 f9) (hp_f11 : ar (-1) 7 f11) (hp_f13 : ar (-1) 7 f13) : Met l yX11_steal wsX11_steal ({ frames := 5, cells := 0, slots := 0, locals := 111 }) (va_Pc [.ref a0, .int p0, .int p1] (wrP G ct [(a0, .inr (11, [.int n0_0, .ref a1, .ref a2, .ref a3, .ref a4, .ref a5, .int n0_6, .int n0_7, .int n0_8, .int n0_9, .int n0_10, .long l0_11, .int n0_12, .int n0_13, .int n0_14, .int n0_15, .ref a6, .ref a7, .ref a8, .ref a9, .ref a10, .ref a11, .ref a12, .ref a13, .int n0_24, .int n0_25, .int n0_26, .int n0_27, .ref a14, .int n0_29, .int n0_30])), (a7, .inl (ct 0, 15, .inl f7)), (a8, .inl (ct 0, 200, .inl f8)), (a9, .inl (ct 0, 1000, .inl f9)), (a11, .inl (ct 0, 8, .inl f11)), (a12, .inl (ct 0, 8, .inl f12)), (a13, .inl (ct 0, 8, .inl f13))])) (va_Qi (fun (r : Int32) (u : SU) => rg (-5) 7 r ∧ (r = 0 → rg 0 7 p0) ∧ (¬ r = (-2) → rg 0 7 p0) ∧ (r = 0 → rg 0 7 p1) ∧ (¬ r = (-2) → rg 0 7 p1) ∧ hsI (u.2.1 0) ∧ ar 0 7 (u.2.1 1) ∧ ar (-1) 7 (u.2.1 2) ∧ ar (-1) 7 (u.2.1 4) ∧ rg 0 0 (u.1 0) ∧ True) (fun u t => va_P G vwCl ((fun u : SU => [(a0, .inr (11, [.int (u.1 0), .ref a1, .ref a2, .ref a3, .ref a4, .ref a5, .int n0_6, .int n0_7, .int n0_8, .int n0_9, .int n0_10, .long l0_11, .int n0_12, .int n0_13, .int n0_14, .int n0_15, .ref a6, .ref a7, .ref a8, .ref a9, .ref a10, .ref a11, .ref a12, .ref a13, .int (u.1 1), .int (u.1 2), .int (u.1 3), .int (u.1 4), .ref a14, .int n0_29, .int n0_30])), (a7, .inl (ct 0, 15, .inl (u.2.1 0))), (a8, .inl (ct 0, 200, .inl f8)), (a9, .inl (ct 0, 1000, .inl (u.2.1 1))), (a11, .inl (ct 0, 8, .inl (u.2.1 2))), (a12, .inl (ct 0, 8, .inl (u.2.1 3))), (a13, .inl (ct 0, 8, .inl (u.2.1 4)))]) u) t.heap) (aset [(a0, .inr (11, [.int n0_0, .ref a1, .ref a2, .ref a3, .ref a4, .ref a5, .int n0_6, .int n0_7, .int n0_8, .int n0_9, .int n0_10, .long l0_11, .int n0_12, .int n0_13, .int n0_14, .int n0_15, .ref a6, .ref a7, .ref a8, .ref a9, .ref a10, .ref a11, .ref a12, .ref a13, .int n0_24, .int n0_25, .int n0_26, .int n0_27, .ref a14, .int n0_29, .int n0_30])), (a7, .inl (ct 0, 15, .inl f7)), (a8, .inl (ct 0, 200, .inl f8)), (a9, .inl (ct 0, 1000, .inl f9)), (a11, .inl (ct 0, 8, .inl f11)), (a12, .inl (ct 0, 8, .inl f12)), (a13, .inl (ct 0, 8, .inl f13))])) 0 0 (aset [(a0, .inr (11, [.int n0_0, .ref a1, .ref a2, .ref a3, .ref a4, .ref a5, .int n0_6, .int n0_7, .int n0_8, .int n0_9, .int n0_10, .long l0_11, .int n0_12, .int n0_13, .int n0_14, .int n0_15, .ref a6, .ref a7, .ref a8, .ref a9, .ref a10, .ref a11, .ref a12, .ref a13, .int n0_24, .int n0_25, .int n0_26, .int n0_27, .ref a14, .int n0_29, .int n0_30])), (a7, .inl (ct 0, 15, .inl f7)), (a8, .inl (ct 0, 200, .inl f8)), (a9, .inl (ct 0, 1000, .inl f9)), (a11, .inl (ct 0, 8, .inl f11)), (a12, .inl (ct 0, 8, .inl f12)), (a13, .inl (ct 0, 8, .inl f13))]) := by
  refine Met.ofW (cc := cX11_steal) (maxL := 3) (ret := (some .int)) (by decide) rfl ?_
  intro p e s m args below meth c s₁ B hml hv
  obtain ⟨rfl, hP, hK, hD0⟩ := hv
  have hx := B.exec
  have hb := B.bytes
  have hr := B.returns
  have hts := atoms_spec (ws := wsX11_steal) B.pre
  have hown : s.vm.findClass RX11 = some m.cls := findClass_of_methodNamed B.named
  have hlocks := B.notSynchronized
  have hD := hD0.aself
  generalize hAe : aset [(a0, .inr (11, [.int n0_0, .ref a1, .ref a2, .ref a3, .ref a4, .ref a5, .int n0_6, .int n0_7, .int n0_8, .int n0_9, .int n0_10, .long l0_11, .int n0_12, .int n0_13, .int n0_14, .int n0_15, .ref a6, .ref a7, .ref a8, .ref a9, .ref a10, .ref a11, .ref a12, .ref a13, .int n0_24, .int n0_25, .int n0_26, .int n0_27, .ref a14, .int n0_29, .int n0_30])), (a7, .inl (ct 0, 15, .inl f7)), (a8, .inl (ct 0, 200, .inl f8)), (a9, .inl (ct 0, 1000, .inl f9)), (a11, .inl (ct 0, 8, .inl f11)), (a12, .inl (ct 0, 8, .inl f12)), (a13, .inl (ct 0, 8, .inl f13))] = A at hD ⊢
  have hS : va_S A s.heap s.heap [] := va_S.rf
  have hl := lv_entry ([.ref a0, .int p0, .int p1]) (n := 3) (Nat.le_of_ble_eq_true rfl)
  rw [lg_entry_eq]
  generalize (lg_sl ([.ref a0, .int p0, .int p1]) ++ List.replicate (3 - (lg_sl ([.ref a0, .int p0, .int p1])).length) Slot.unset).toArray = ls at hl ⊢
  have hl : lv_has ls 3 [(0, .ref a0), (1, .int p0), (2, .int p1)] := hl
  refine lv_aload_n hx hb dX11_steal_0 rfl (lv_at hl 0 rfl) ?_
  refine lv_iconst (v := 0) hx hb dX11_steal_1 (by decide) ?_
  refine va_put (D := G) (ci := 11) (v := .int 0) (ty := .int) (C := RX11) (T := TX11) (N := 31) hx hb hts (by decide +kernel) tyX11 tyX11_ok nmX11 hown hK.1 hP hD hS 0 rfl rfl 0 (by decide) (hts (.fieldLink RX11 59 "CardHolderModel" "thrown" "I") (by decide +kernel)) (fun _ h9 => h9) rfl (by decide +kernel) rfl rfl (Nat.le_of_ble_eq_true rfl) dX11_steal_2 (fun H locs hP hD hS => ?_)
  refine lv_aload_n hx hb dX11_steal_5 rfl (lv_at hl 0 rfl) ?_
  refine lv_iload_n hx hb dX11_steal_6 rfl (lv_at hl 1 rfl) ?_
  refine lv_iload_n hx hb dX11_steal_7 rfl (lv_at hl 2 rfl) ?_
  refine ro_calli (va_runV (As := [.int p0, .int p1]) (rest := []) ⟨hx, hb, hml, hown, hts⟩ (a_X11_arePeople l G ct a0 (0 : Int32) a1 a2 a3 a4 a5 n0_6 n0_7 n0_8 n0_9 n0_10 l0_11 n0_12 n0_13 n0_14 n0_15 a6 a7 a8 a9 a10 a11 a12 a13 n0_24 n0_25 n0_26 n0_27 a14 n0_29 n0_30 f7 p0 p1 hp_n0_6 hp_f7) (cwV 2 hts gX11_steal_X11_arePeople rfl rfl rfl (by decide +kernel) ⟨Nat.le_of_ble_eq_true rfl, Nat.le_of_ble_eq_true rfl⟩) (ro_preV 11 0 hK (hP.sub [0, 1] rfl) rfl rfl) rfl rfl hl.1 rfl (lv_room (Nat.le_of_ble_eq_true rfl)) dX11_steal_8 ⟨Nat.zero_le _, Nat.zero_le _⟩) hS hP (fun r8 H locs wr8 hP hS => ?_)
  obtain ⟨p_1, p_2, p_3, -⟩ := wr8
  refine lv_if_ne (tgt := 17) hx hb dX11_steal_11 (by decide) (fun c11 => ?_) (fun c11 => ?_)
  · have h_4 : rg 1 1 r8 := r_ne_lo_i c11 p_1 (by decide) (by decide)
    have h_5 : rg 0 7 p0 := (p_2 (rne h_4 (y := 0) (c := 0) (by decide) (by decide)))
    have h_6 : rg 0 7 p1 := (p_3 (rne h_4 (y := 0) (c := 0) (by decide) (by decide)))
    refine lv_aload_n hx hb dX11_steal_17 rfl (lv_at hl 0 rfl) ?_
    refine wj_callv (wr := []) (w1 := (fun u : SU => [(a0, .inr (11, [.int 0, .ref a1, .ref a2, .ref a3, .ref a4, .ref a5, .int n0_6, .int n0_7, .int n0_8, .int n0_9, .int n0_10, .long l0_11, .int n0_12, .int n0_13, .int n0_14, .int n0_15, .ref a6, .ref a7, .ref a8, .ref a9, .ref a10, .ref a11, .ref a12, .ref a13, .int (u.1 0), .int (u.1 1), .int (u.1 2), .int (u.1 3), .ref a14, .int n0_29, .int n0_30])), (a7, .inl (ct 0, 15, .inl f7)), (a8, .inl (ct 0, 200, .inl f8)), (a9, .inl (ct 0, 1000, .inl f9)), (a11, .inl (ct 0, 8, .inl (u.2.1 0))), (a12, .inl (ct 0, 8, .inl (u.2.1 1))), (a13, .inl (ct 0, 8, .inl (u.2.1 2)))])) (va_runV (As := []) (rest := []) ⟨hx, hb, hml, hown, hts⟩ (a_X11_laysNow l G ct a0 (0 : Int32) a1 a2 a3 a4 a5 n0_6 n0_7 n0_8 n0_9 n0_10 l0_11 n0_12 n0_13 n0_14 n0_15 a6 a7 a8 a9 a10 a11 a12 a13 n0_24 n0_25 n0_26 n0_27 a14 n0_29 n0_30 f7 f8 f9 f11 f12 f13 hp_n0_6 hp_f7 hp_f8 hp_f9 hp_f11 hp_f13) (cwV 0 hts gX11_steal_X11_laysNow rfl rfl rfl (by decide +kernel) ⟨Nat.le_of_ble_eq_true rfl, Nat.le_of_ble_eq_true rfl⟩) (wr_preV 11 0 hK (hP.sub [0, 1, 2, 3, 4, 5, 6] rfl) (hD.sub [0, 1, 2, 3, 4, 5, 6] (by decide) rfl) rfl rfl) rfl rfl hl.1 rfl (lv_room (Nat.le_of_ble_eq_true rfl)) dX11_steal_18 ⟨Nat.zero_le _, Nat.zero_le _⟩) hS hP hD [0, 1, 2, 3, 4, 5, 6] [] rfl rfl (by decide) (fun _ => rfl) (fun ur18 H locs wr18 hP hD hS => ?_)
    have hP : va_P G vwCl [(a0, .inr (11, [.int 0, .ref a1, .ref a2, .ref a3, .ref a4, .ref a5, .int n0_6, .int n0_7, .int n0_8, .int n0_9, .int n0_10, .long l0_11, .int n0_12, .int n0_13, .int n0_14, .int n0_15, .ref a6, .ref a7, .ref a8, .ref a9, .ref a10, .ref a11, .ref a12, .ref a13, .int (ur18.1 0), .int (ur18.1 1), .int (ur18.1 2), .int (ur18.1 3), .ref a14, .int n0_29, .int n0_30])), (a7, .inl (ct 0, 15, .inl f7)), (a8, .inl (ct 0, 200, .inl f8)), (a9, .inl (ct 0, 1000, .inl f9)), (a11, .inl (ct 0, 8, .inl (ur18.2.1 0))), (a12, .inl (ct 0, 8, .inl (ur18.2.1 1))), (a13, .inl (ct 0, 8, .inl (ur18.2.1 2)))] H := hP.sub [0, 1, 2, 3, 4, 5, 6] rfl
    have hD : va_D A [(a0, .inr (11, [.int 0, .ref a1, .ref a2, .ref a3, .ref a4, .ref a5, .int n0_6, .int n0_7, .int n0_8, .int n0_9, .int n0_10, .long l0_11, .int n0_12, .int n0_13, .int n0_14, .int n0_15, .ref a6, .ref a7, .ref a8, .ref a9, .ref a10, .ref a11, .ref a12, .ref a13, .int (ur18.1 0), .int (ur18.1 1), .int (ur18.1 2), .int (ur18.1 3), .ref a14, .int n0_29, .int n0_30])), (a7, .inl (ct 0, 15, .inl f7)), (a8, .inl (ct 0, 200, .inl f8)), (a9, .inl (ct 0, 1000, .inl f9)), (a11, .inl (ct 0, 8, .inl (ur18.2.1 0))), (a12, .inl (ct 0, 8, .inl (ur18.2.1 1))), (a13, .inl (ct 0, 8, .inl (ur18.2.1 2)))] := hD.sub [0, 1, 2, 3, 4, 5, 6] (by decide) rfl
    obtain ⟨p_7, p_8, -⟩ := wr18
    refine lv_aload_n hx hb dX11_steal_21 rfl (lv_at hl 0 rfl) ?_
    refine va_get (D := G) (ci := 11) (v := .ref a11) (C := RX11) (T := TX11) (N := 31) hx hb hts (by decide +kernel) hown hK.1 hP 0 rfl rfl 21 (by decide) (hts (.fieldLink RX11 47 "CardHolderModel" "holder" "[I") (by decide +kernel)) (fun _ h9 => h9) rfl dX11_steal_22 ?_
    refine lv_iload_n hx hb dX11_steal_25 rfl (lv_at hl 2 rfl) ?_
    refine va_iald hx hb hK.1 hP 4 0 rfl rfl (in_rg h_6 (by decide)) dX11_steal_26 ?_
    refine lv_topi (fun z26 gz26 => ?_)
    have hz26 : rg (-1) 7 z26 := by rw [gz26]; exact p_7 _
    refine lv_iconst (v := (-1)) hx hb dX11_steal_27 (by decide) ?_
    refine lv_icmp_eq (tgt := 59) hx hb dX11_steal_28 (by decide) (fun c28 => ?_) (fun c28 => ?_)
    · have h_9 : rg (-1) (-1) z26 := r_eq_l_i (e := (-1)) (f := (-1)) c28 hz26 (rgn (-1) (x := (-1)) (by decide)) (by decide)
      refine lv_bipush (v := (-5)) hx hb dX11_steal_59 (by decide) ?_
      exact W.iret (v := (-5)) hx hb hr (fun t ht hW => ⟨⟨(-5), (fun k => ([0, ur18.1 0, ur18.1 1, ur18.1 2, ur18.1 3] : List Int32).getD k 0, fun k => ([f7, f9, ur18.2.1 0, ur18.2.1 1, ur18.2.1 2] : List (Nat → Int32)).getD k (fun _ => 0), fun k => ([] : List (Nat → Int64)).getD k (fun _ => 0)), rfl, ⟨(rg_w (c := (-5)) (d := 7) (rgn (-5) (x := (-5)) (by decide)) (by decide)), (fun _ => h_5), (fun _ => h_5), (fun _ => h_6), (fun _ => h_6), hp_f7, hp_f9, p_7, p_8, (rgn 0 (x := 0) (by decide)), trivial⟩, hp_at ht hP⟩, hS.F ht⟩) hS.2.2 dX11_steal_61
    · have h_10 : rg 0 7 z26 := r_ne_lo_i c28 hz26 (by decide) (by decide)
      refine lv_aload_n hx hb dX11_steal_31 rfl (lv_at hl 0 rfl) ?_
      refine va_get (D := G) (ci := 11) (v := .ref a11) (C := RX11) (T := TX11) (N := 31) hx hb hts (by decide +kernel) hown hK.1 hP 0 rfl rfl 21 (by decide) (hts (.fieldLink RX11 47 "CardHolderModel" "holder" "[I") (by decide +kernel)) (fun _ h9 => h9) rfl dX11_steal_32 ?_
      refine lv_iload_n hx hb dX11_steal_35 rfl (lv_at hl 2 rfl) ?_
      refine va_iald hx hb hK.1 hP 4 0 rfl rfl (in_rg h_6 (by decide)) dX11_steal_36 ?_
      refine ix_i (y := z26) gz26.symm ?_
      refine lv_iload_n hx hb dX11_steal_37 rfl (lv_at hl 1 rfl) ?_
      refine lv_icmp_eq (tgt := 59) hx hb dX11_steal_38 (by decide) (fun c38 => ?_) (fun c38 => ?_)
      · refine lv_bipush (v := (-5)) hx hb dX11_steal_59 (by decide) ?_
        exact W.iret (v := (-5)) hx hb hr (fun t ht hW => ⟨⟨(-5), (fun k => ([0, ur18.1 0, ur18.1 1, ur18.1 2, ur18.1 3] : List Int32).getD k 0, fun k => ([f7, f9, ur18.2.1 0, ur18.2.1 1, ur18.2.1 2] : List (Nat → Int32)).getD k (fun _ => 0), fun k => ([] : List (Nat → Int64)).getD k (fun _ => 0)), rfl, ⟨(rg_w (c := (-5)) (d := 7) (rgn (-5) (x := (-5)) (by decide)) (by decide)), (fun _ => h_5), (fun _ => h_5), (fun _ => h_6), (fun _ => h_6), hp_f7, hp_f9, p_7, p_8, (rgn 0 (x := 0) (by decide)), trivial⟩, hp_at ht hP⟩, hS.F ht⟩) hS.2.2 dX11_steal_61
      · refine lv_aload_n hx hb dX11_steal_41 rfl (lv_at hl 0 rfl) ?_
        refine va_get (D := G) (ci := 11) (v := .int (ur18.1 1)) (C := RX11) (T := TX11) (N := 31) hx hb hts (by decide +kernel) hown hK.1 hP 0 rfl rfl 25 (by decide) (hts (.fieldLink RX11 220 "CardHolderModel" "stolen" "I") (by decide +kernel)) (fun _ h9 => h9) rfl dX11_steal_42 ?_
        refine lv_iload_n hx hb dX11_steal_45 rfl (lv_at hl 2 rfl) ?_
        refine ro_calli (va_runS (As := [.int (ur18.1 1), .int p1]) (rest := []) ⟨hx, hb, hml, hown, hts⟩ (a_X11_isBit l G ct (ur18.1 1) p1) (va_cwS 2 hts gX11_steal_X11_isBit rfl rfl rfl (by decide +kernel) ⟨Nat.le_of_ble_eq_true rfl, Nat.le_of_ble_eq_true rfl⟩) (ro_pre hK (hP.sub [] rfl)) rfl rfl hl.1 rfl (lv_room (Nat.le_of_ble_eq_true rfl)) dX11_steal_46 ⟨Nat.zero_le _, Nat.zero_le _⟩) hS hP (fun r46 H locs wr46 hP hS => ?_)
        obtain ⟨p_11, -⟩ := wr46
        refine lv_if_ne (tgt := 59) hx hb dX11_steal_49 (by decide) (fun c49 => ?_) (fun c49 => ?_)
        · have h_12 : rg 1 1 r46 := r_ne_lo_i c49 p_11 (by decide) (by decide)
          refine lv_bipush (v := (-5)) hx hb dX11_steal_59 (by decide) ?_
          exact W.iret (v := (-5)) hx hb hr (fun t ht hW => ⟨⟨(-5), (fun k => ([0, ur18.1 0, ur18.1 1, ur18.1 2, ur18.1 3] : List Int32).getD k 0, fun k => ([f7, f9, ur18.2.1 0, ur18.2.1 1, ur18.2.1 2] : List (Nat → Int32)).getD k (fun _ => 0), fun k => ([] : List (Nat → Int64)).getD k (fun _ => 0)), rfl, ⟨(rg_w (c := (-5)) (d := 7) (rgn (-5) (x := (-5)) (by decide)) (by decide)), (fun _ => h_5), (fun _ => h_5), (fun _ => h_6), (fun _ => h_6), hp_f7, hp_f9, p_7, p_8, (rgn 0 (x := 0) (by decide)), trivial⟩, hp_at ht hP⟩, hS.F ht⟩) hS.2.2 dX11_steal_61
        · have h_13 : rg 0 0 r46 := r_eq_l_i (e := 0) (f := 0) c49 p_11 (rgn 0 (x := 0) (by decide)) (by decide)
          refine lv_aload_n hx hb dX11_steal_52 rfl (lv_at hl 0 rfl) ?_
          refine ro_calli (va_runV (As := []) (rest := []) ⟨hx, hb, hml, hown, hts⟩ (a_X11_isFull l G ct a0 (0 : Int32) a1 a2 a3 a4 a5 n0_6 n0_7 n0_8 n0_9 n0_10 l0_11 n0_12 n0_13 n0_14 n0_15 a6 a7 a8 a9 a10 a11 a12 a13 (ur18.1 0) (ur18.1 1) (ur18.1 2) (ur18.1 3) a14 n0_29 n0_30 f7 hp_n0_6 hp_f7) (cwV 0 hts gX11_steal_X11_isFull rfl rfl rfl (by decide +kernel) ⟨Nat.le_of_ble_eq_true rfl, Nat.le_of_ble_eq_true rfl⟩) (ro_preV 11 0 hK (hP.sub [0, 1] rfl) rfl rfl) rfl rfl hl.1 rfl (lv_room (Nat.le_of_ble_eq_true rfl)) dX11_steal_53 ⟨Nat.zero_le _, Nat.zero_le _⟩) hS hP (fun r53 H locs wr53 hP hS => ?_)
          obtain ⟨p_14, p_15, -⟩ := wr53
          refine lv_if_eq (tgt := 62) hx hb dX11_steal_56 (by decide) (fun c56 => ?_) (fun c56 => ?_)
          · have h_16 : rg 0 0 r53 := r_eq_l_i (e := 0) (f := 0) c56 p_14 (rgn 0 (x := 0) (by decide)) (by decide)
            refine lv_aload_n hx hb dX11_steal_62 rfl (lv_at hl 0 rfl) ?_
            refine lv_iconst (v := 3) hx hb dX11_steal_63 (by decide) ?_
            refine lv_iload_n hx hb dX11_steal_64 rfl (lv_at hl 1 rfl) ?_
            refine lv_iload_n hx hb dX11_steal_65 rfl (lv_at hl 2 rfl) ?_
            refine lv_iconst (v := 0) hx hb dX11_steal_66 (by decide) ?_
            refine lv_iconst (v := 0) hx hb dX11_steal_67 (by decide) ?_
            refine wj_callv (wr := [(a8, .inl (ct 0, 200, .inl f8)), (a11, .inl (ct 0, 8, .inl (ur18.2.1 0))), (a12, .inl (ct 0, 8, .inl (ur18.2.1 1))), (a13, .inl (ct 0, 8, .inl (ur18.2.1 2)))]) (w1 := (fun u : SU => [(a0, .inr (11, [.int 0, .ref a1, .ref a2, .ref a3, .ref a4, .ref a5, .int n0_6, .int n0_7, .int n0_8, .int n0_9, .int n0_10, .long l0_11, .int n0_12, .int n0_13, .int n0_14, .int n0_15, .ref a6, .ref a7, .ref a8, .ref a9, .ref a10, .ref a11, .ref a12, .ref a13, .int (ur18.1 0), .int (ur18.1 1), .int (ur18.1 2), .int (ur18.1 3), .ref a14, .int n0_29, .int n0_30])), (a7, .inl (ct 0, 15, .inl (u.2.1 0))), (a9, .inl (ct 0, 1000, .inl (u.2.1 1)))])) (va_runV (As := [.int 3, .int p0, .int p1, .int 0, .int 0]) (rest := []) ⟨hx, hb, hml, hown, hts⟩ (a_X11_acts l G ct a0 (0 : Int32) a1 a2 a3 a4 a5 n0_6 n0_7 n0_8 n0_9 n0_10 l0_11 n0_12 n0_13 n0_14 n0_15 a6 a7 a8 a9 a10 a11 a12 a13 (ur18.1 0) (ur18.1 1) (ur18.1 2) (ur18.1 3) a14 n0_29 n0_30 f7 f9 (3 : Int32) p0 p1 (0 : Int32) (0 : Int32) hp_n0_6 hp_f7 hp_f9 (rg_w (c := 0) (d := 7) (rgn 3 (x := 3) (by decide)) (by decide)) h_5 h_6 (rg_w (c := 0) (d := 7) (rgn 0 (x := 0) (by decide)) (by decide)) (rg_w (c := 0) (d := 7) (rgn 0 (x := 0) (by decide)) (by decide)) (p_15 (req h_16 (y := 0) (by decide)))) (cwV 5 hts gX11_steal_X11_acts rfl rfl rfl (by decide +kernel) ⟨Nat.le_of_ble_eq_true rfl, Nat.le_of_ble_eq_true rfl⟩) (wr_preV 11 0 hK (hP.sub [0, 1, 3] rfl) (hD.sub [0, 1, 3] (by decide) rfl) rfl rfl) rfl rfl hl.1 rfl (lv_room (Nat.le_of_ble_eq_true rfl)) dX11_steal_68 ⟨Nat.zero_le _, Nat.zero_le _⟩) hS hP hD [0, 1, 3] [2, 4, 5, 6] rfl rfl (by decide) (fun _ => rfl) (fun ur68 H locs wr68 hP hD hS => ?_)
            have hP : va_P G vwCl [(a0, .inr (11, [.int 0, .ref a1, .ref a2, .ref a3, .ref a4, .ref a5, .int n0_6, .int n0_7, .int n0_8, .int n0_9, .int n0_10, .long l0_11, .int n0_12, .int n0_13, .int n0_14, .int n0_15, .ref a6, .ref a7, .ref a8, .ref a9, .ref a10, .ref a11, .ref a12, .ref a13, .int (ur18.1 0), .int (ur18.1 1), .int (ur18.1 2), .int (ur18.1 3), .ref a14, .int n0_29, .int n0_30])), (a7, .inl (ct 0, 15, .inl (ur68.2.1 0))), (a8, .inl (ct 0, 200, .inl f8)), (a9, .inl (ct 0, 1000, .inl (ur68.2.1 1))), (a11, .inl (ct 0, 8, .inl (ur18.2.1 0))), (a12, .inl (ct 0, 8, .inl (ur18.2.1 1))), (a13, .inl (ct 0, 8, .inl (ur18.2.1 2)))] H := hP.sub [4, 5, 0, 6, 1, 2, 3] rfl
            have hD : va_D A [(a0, .inr (11, [.int 0, .ref a1, .ref a2, .ref a3, .ref a4, .ref a5, .int n0_6, .int n0_7, .int n0_8, .int n0_9, .int n0_10, .long l0_11, .int n0_12, .int n0_13, .int n0_14, .int n0_15, .ref a6, .ref a7, .ref a8, .ref a9, .ref a10, .ref a11, .ref a12, .ref a13, .int (ur18.1 0), .int (ur18.1 1), .int (ur18.1 2), .int (ur18.1 3), .ref a14, .int n0_29, .int n0_30])), (a7, .inl (ct 0, 15, .inl (ur68.2.1 0))), (a8, .inl (ct 0, 200, .inl f8)), (a9, .inl (ct 0, 1000, .inl (ur68.2.1 1))), (a11, .inl (ct 0, 8, .inl (ur18.2.1 0))), (a12, .inl (ct 0, 8, .inl (ur18.2.1 1))), (a13, .inl (ct 0, 8, .inl (ur18.2.1 2)))] := hD.sub [4, 5, 0, 6, 1, 2, 3] (by decide) rfl
            obtain ⟨p_17, p_18, -⟩ := wr68
            refine lv_aload_n hx hb dX11_steal_71 rfl (lv_at hl 0 rfl) ?_
            refine va_get (D := G) (ci := 11) (v := .ref a11) (C := RX11) (T := TX11) (N := 31) hx hb hts (by decide +kernel) hown hK.1 hP 0 rfl rfl 21 (by decide) (hts (.fieldLink RX11 47 "CardHolderModel" "holder" "[I") (by decide +kernel)) (fun _ h9 => h9) rfl dX11_steal_72 ?_
            refine lv_iload_n hx hb dX11_steal_75 rfl (lv_at hl 2 rfl) ?_
            refine va_iald hx hb hK.1 hP 4 0 rfl rfl (in_rg h_6 (by decide)) dX11_steal_76 ?_
            refine ix_i (y := z26) gz26.symm ?_
            exact W.iret (v := z26) hx hb hr (fun t ht hW => ⟨⟨z26, (fun k => ([0, ur18.1 0, ur18.1 1, ur18.1 2, ur18.1 3] : List Int32).getD k 0, fun k => ([ur68.2.1 0, ur68.2.1 1, ur18.2.1 0, ur18.2.1 1, ur18.2.1 2] : List (Nat → Int32)).getD k (fun _ => 0), fun k => ([] : List (Nat → Int64)).getD k (fun _ => 0)), rfl, ⟨(rg_w (c := (-5)) (d := 7) h_10 (by decide)), (fun _ => h_5), (fun _ => h_5), (fun _ => h_6), (fun _ => h_6), p_17, p_18, p_7, p_8, (rgn 0 (x := 0) (by decide)), trivial⟩, hp_at ht hP⟩, hS.F ht⟩) hS.2.2 dX11_steal_77
          · have h_19 : rg 1 1 r53 := r_ne_lo_i c56 p_14 (by decide) (by decide)
            refine lv_bipush (v := (-5)) hx hb dX11_steal_59 (by decide) ?_
            exact W.iret (v := (-5)) hx hb hr (fun t ht hW => ⟨⟨(-5), (fun k => ([0, ur18.1 0, ur18.1 1, ur18.1 2, ur18.1 3] : List Int32).getD k 0, fun k => ([f7, f9, ur18.2.1 0, ur18.2.1 1, ur18.2.1 2] : List (Nat → Int32)).getD k (fun _ => 0), fun k => ([] : List (Nat → Int64)).getD k (fun _ => 0)), rfl, ⟨(rg_w (c := (-5)) (d := 7) (rgn (-5) (x := (-5)) (by decide)) (by decide)), (fun _ => h_5), (fun _ => h_5), (fun _ => h_6), (fun _ => h_6), hp_f7, hp_f9, p_7, p_8, (rgn 0 (x := 0) (by decide)), trivial⟩, hp_at ht hP⟩, hS.F ht⟩) hS.2.2 dX11_steal_61
  · have h_20 : rg 0 0 r8 := r_eq_l_i (e := 0) (f := 0) c11 p_1 (rgn 0 (x := 0) (by decide)) (by decide)
    refine lv_bipush (v := (-2)) hx hb dX11_steal_14 (by decide) ?_
    exact W.iret (v := (-2)) hx hb hr (fun t ht hW => ⟨⟨(-2), (fun k => ([0, n0_24, n0_25, n0_26, n0_27] : List Int32).getD k 0, fun k => ([f7, f9, f11, f12, f13] : List (Nat → Int32)).getD k (fun _ => 0), fun k => ([] : List (Nat → Int64)).getD k (fun _ => 0)), rfl, ⟨(rg_w (c := (-5)) (d := 7) (rgn (-2) (x := (-2)) (by decide)) (by decide)), (fun hq => absurd hq (rne (rgn (-2) (x := (-2)) (by decide)) (y := 0) (c := 0) (by decide) (by decide))), (fun hq => absurd (req (rgn (-2) (x := (-2)) (by decide)) (y := (-2)) (by decide)) hq), (fun hq => absurd hq (rne (rgn (-2) (x := (-2)) (by decide)) (y := 0) (c := 0) (by decide) (by decide))), (fun hq => absurd (req (rgn (-2) (x := (-2)) (by decide)) (y := (-2)) (by decide)) hq), hp_f7, hp_f9, hp_f11, hp_f13, (rgn 0 (x := 0) (by decide)), trivial⟩, hp_at ht hP⟩, hS.F ht⟩) hS.2.2 dX11_steal_16

set_option maxHeartbeats 4000000 in
set_option maxRecDepth 100000 in
theorem a_X11_day (l : Launch) (G : va_G) (ct : Nat → ClassId) (a0 : Nat) (n0_0 : Int32) (a1 : Nat) (a2 : Nat) (a3 : Nat) (a4 : Nat) (a5 : Nat) (n0_6 : Int32) (n0_7 : Int32) (n0_8 : Int32) (n0_9 : Int32) (n0_10 : Int32) (l0_11 : Int64) (n0_12 : Int32) (n0_13 : Int32) (n0_14 : Int32) (n0_15 : Int32) (a6 : Nat) (a7 : Nat) (a8 : Nat) (a9 : Nat) (a10 : Nat) (a11 : Nat) (a12 : Nat) (a13 : Nat) (n0_24 : Int32) (n0_25 : Int32) (n0_26 : Int32) (n0_27 : Int32) (a14 : Nat) (n0_29 : Int32) (n0_30 : Int32) (f6 : Nat → Int32) (f7 : Nat → Int32) (f8 : Nat → Int32) (f9 : Nat → Int32) (f11 : Nat → Int32) (f12 : Nat → Int32) (f13 : Nat → Int32) (hp_n0_6 : rg 0 900 n0_6) (hp_f7 : hsI f7) (hp_f8 : psI f8) (hp_f9 : ar 0 7 f9) (hp_f11 : ar (-1) 7 f11) (hp_f13 : ar (-1) 7 f13) : Met l yX11_day wsX11_day ({ frames := 5, cells := 0, slots := 0, locals := 111 }) (va_Pc [.ref a0] (wrP G ct [(a0, .inr (11, [.int n0_0, .ref a1, .ref a2, .ref a3, .ref a4, .ref a5, .int n0_6, .int n0_7, .int n0_8, .int n0_9, .int n0_10, .long l0_11, .int n0_12, .int n0_13, .int n0_14, .int n0_15, .ref a6, .ref a7, .ref a8, .ref a9, .ref a10, .ref a11, .ref a12, .ref a13, .int n0_24, .int n0_25, .int n0_26, .int n0_27, .ref a14, .int n0_29, .int n0_30])), (a6, .inl (ct 0, 5, .inl f6)), (a7, .inl (ct 0, 15, .inl f7)), (a8, .inl (ct 0, 200, .inl f8)), (a9, .inl (ct 0, 1000, .inl f9)), (a11, .inl (ct 0, 8, .inl f11)), (a12, .inl (ct 0, 8, .inl f12)), (a13, .inl (ct 0, 8, .inl f13))])) (va_Qi (fun (r : Int32) (u : SU) => hsI (u.2.1 0) ∧ ar 0 7 (u.2.1 1) ∧ ar (-1) 7 (u.2.1 2) ∧ ar (-1) 7 (u.2.1 4) ∧ rg 0 0 (u.1 0) ∧ True) (fun u t => va_P G vwCl ((fun u : SU => [(a0, .inr (11, [.int (u.1 0), .ref a1, .ref a2, .ref a3, .ref a4, .ref a5, .int n0_6, .int n0_7, .int n0_8, .int n0_9, .int n0_10, .long l0_11, .int n0_12, .int n0_13, .int n0_14, .int n0_15, .ref a6, .ref a7, .ref a8, .ref a9, .ref a10, .ref a11, .ref a12, .ref a13, .int (u.1 1), .int (u.1 2), .int (u.1 3), .int (u.1 4), .ref a14, .int n0_29, .int n0_30])), (a6, .inl (ct 0, 5, .inl f6)), (a7, .inl (ct 0, 15, .inl (u.2.1 0))), (a8, .inl (ct 0, 200, .inl f8)), (a9, .inl (ct 0, 1000, .inl (u.2.1 1))), (a11, .inl (ct 0, 8, .inl (u.2.1 2))), (a12, .inl (ct 0, 8, .inl (u.2.1 3))), (a13, .inl (ct 0, 8, .inl (u.2.1 4)))]) u) t.heap) (aset [(a0, .inr (11, [.int n0_0, .ref a1, .ref a2, .ref a3, .ref a4, .ref a5, .int n0_6, .int n0_7, .int n0_8, .int n0_9, .int n0_10, .long l0_11, .int n0_12, .int n0_13, .int n0_14, .int n0_15, .ref a6, .ref a7, .ref a8, .ref a9, .ref a10, .ref a11, .ref a12, .ref a13, .int n0_24, .int n0_25, .int n0_26, .int n0_27, .ref a14, .int n0_29, .int n0_30])), (a6, .inl (ct 0, 5, .inl f6)), (a7, .inl (ct 0, 15, .inl f7)), (a8, .inl (ct 0, 200, .inl f8)), (a9, .inl (ct 0, 1000, .inl f9)), (a11, .inl (ct 0, 8, .inl f11)), (a12, .inl (ct 0, 8, .inl f12)), (a13, .inl (ct 0, 8, .inl f13))])) 0 0 (aset [(a0, .inr (11, [.int n0_0, .ref a1, .ref a2, .ref a3, .ref a4, .ref a5, .int n0_6, .int n0_7, .int n0_8, .int n0_9, .int n0_10, .long l0_11, .int n0_12, .int n0_13, .int n0_14, .int n0_15, .ref a6, .ref a7, .ref a8, .ref a9, .ref a10, .ref a11, .ref a12, .ref a13, .int n0_24, .int n0_25, .int n0_26, .int n0_27, .ref a14, .int n0_29, .int n0_30])), (a6, .inl (ct 0, 5, .inl f6)), (a7, .inl (ct 0, 15, .inl f7)), (a8, .inl (ct 0, 200, .inl f8)), (a9, .inl (ct 0, 1000, .inl f9)), (a11, .inl (ct 0, 8, .inl f11)), (a12, .inl (ct 0, 8, .inl f12)), (a13, .inl (ct 0, 8, .inl f13))]) := by
  refine Met.ofW (cc := cX11_day) (maxL := 1) (ret := (some .int)) (by decide) rfl ?_
  intro p e s m args below meth c s₁ B hml hv
  obtain ⟨rfl, hP, hK, hD0⟩ := hv
  have hx := B.exec
  have hb := B.bytes
  have hr := B.returns
  have hts := atoms_spec (ws := wsX11_day) B.pre
  have hown : s.vm.findClass RX11 = some m.cls := findClass_of_methodNamed B.named
  have hlocks := B.notSynchronized
  have hD := hD0.aself
  generalize hAe : aset [(a0, .inr (11, [.int n0_0, .ref a1, .ref a2, .ref a3, .ref a4, .ref a5, .int n0_6, .int n0_7, .int n0_8, .int n0_9, .int n0_10, .long l0_11, .int n0_12, .int n0_13, .int n0_14, .int n0_15, .ref a6, .ref a7, .ref a8, .ref a9, .ref a10, .ref a11, .ref a12, .ref a13, .int n0_24, .int n0_25, .int n0_26, .int n0_27, .ref a14, .int n0_29, .int n0_30])), (a6, .inl (ct 0, 5, .inl f6)), (a7, .inl (ct 0, 15, .inl f7)), (a8, .inl (ct 0, 200, .inl f8)), (a9, .inl (ct 0, 1000, .inl f9)), (a11, .inl (ct 0, 8, .inl f11)), (a12, .inl (ct 0, 8, .inl f12)), (a13, .inl (ct 0, 8, .inl f13))] = A at hD ⊢
  have hS : va_S A s.heap s.heap [] := va_S.rf
  have hl := lv_entry ([.ref a0]) (n := 1) (Nat.le_of_ble_eq_true rfl)
  rw [lg_entry_eq]
  generalize (lg_sl ([.ref a0]) ++ List.replicate (1 - (lg_sl ([.ref a0])).length) Slot.unset).toArray = ls at hl ⊢
  have hl : lv_has ls 1 [(0, .ref a0)] := hl
  refine lv_aload_n hx hb dX11_day_0 rfl (lv_at hl 0 rfl) ?_
  refine lv_iconst (v := 0) hx hb dX11_day_1 (by decide) ?_
  refine va_put (D := G) (ci := 11) (v := .int 0) (ty := .int) (C := RX11) (T := TX11) (N := 31) hx hb hts (by decide +kernel) tyX11 tyX11_ok nmX11 hown hK.1 hP hD hS 0 rfl rfl 0 (by decide) (hts (.fieldLink RX11 59 "CardHolderModel" "thrown" "I") (by decide +kernel)) (fun _ h9 => h9) rfl (by decide +kernel) rfl rfl (Nat.le_of_ble_eq_true rfl) dX11_day_2 (fun H locs hP hD hS => ?_)
  refine lv_aload_n hx hb dX11_day_5 rfl (lv_at hl 0 rfl) ?_
  refine ro_calli (va_runV (As := []) (rest := []) ⟨hx, hb, hml, hown, hts⟩ (a_X11_isCity l G ct a0 (0 : Int32) a1 a2 a3 a4 a5 n0_6 n0_7 n0_8 n0_9 n0_10 l0_11 n0_12 n0_13 n0_14 n0_15 a6 a7 a8 a9 a10 a11 a12 a13 n0_24 n0_25 n0_26 n0_27 a14 n0_29 n0_30 f6 hp_n0_6) (cwV 0 hts gX11_day_X11_isCity rfl rfl rfl (by decide +kernel) ⟨Nat.le_of_ble_eq_true rfl, Nat.le_of_ble_eq_true rfl⟩) (ro_preV 11 0 hK (hP.sub [0, 1] rfl) rfl rfl) rfl rfl hl.1 rfl (lv_room (Nat.le_of_ble_eq_true rfl)) dX11_day_6 ⟨Nat.zero_le _, Nat.zero_le _⟩) hS hP (fun r6 H locs wr6 hP hS => ?_)
  obtain ⟨p_1, -⟩ := wr6
  refine lv_if_ne (tgt := 15) hx hb dX11_day_9 (by decide) (fun c9 => ?_) (fun c9 => ?_)
  · have h_2 : rg 1 1 r6 := r_ne_lo_i c9 p_1 (by decide) (by decide)
    refine lv_aload_n hx hb dX11_day_15 rfl (lv_at hl 0 rfl) ?_
    refine wj_callv (wr := [(a6, .inl (ct 0, 5, .inl f6))]) (w1 := (fun u : SU => [(a0, .inr (11, [.int 0, .ref a1, .ref a2, .ref a3, .ref a4, .ref a5, .int n0_6, .int n0_7, .int n0_8, .int n0_9, .int n0_10, .long l0_11, .int n0_12, .int n0_13, .int n0_14, .int n0_15, .ref a6, .ref a7, .ref a8, .ref a9, .ref a10, .ref a11, .ref a12, .ref a13, .int (u.1 0), .int (u.1 1), .int (u.1 2), .int (u.1 3), .ref a14, .int n0_29, .int n0_30])), (a7, .inl (ct 0, 15, .inl f7)), (a8, .inl (ct 0, 200, .inl f8)), (a9, .inl (ct 0, 1000, .inl f9)), (a11, .inl (ct 0, 8, .inl (u.2.1 0))), (a12, .inl (ct 0, 8, .inl (u.2.1 1))), (a13, .inl (ct 0, 8, .inl (u.2.1 2)))])) (va_runV (As := []) (rest := []) ⟨hx, hb, hml, hown, hts⟩ (a_X11_laysNow l G ct a0 (0 : Int32) a1 a2 a3 a4 a5 n0_6 n0_7 n0_8 n0_9 n0_10 l0_11 n0_12 n0_13 n0_14 n0_15 a6 a7 a8 a9 a10 a11 a12 a13 n0_24 n0_25 n0_26 n0_27 a14 n0_29 n0_30 f7 f8 f9 f11 f12 f13 hp_n0_6 hp_f7 hp_f8 hp_f9 hp_f11 hp_f13) (cwV 0 hts gX11_day_X11_laysNow rfl rfl rfl (by decide +kernel) ⟨Nat.le_of_ble_eq_true rfl, Nat.le_of_ble_eq_true rfl⟩) (wr_preV 11 0 hK (hP.sub [0, 2, 3, 4, 5, 6, 7] rfl) (hD.sub [0, 2, 3, 4, 5, 6, 7] (by decide) rfl) rfl rfl) rfl rfl hl.1 rfl (lv_room (Nat.le_of_ble_eq_true rfl)) dX11_day_16 ⟨Nat.zero_le _, Nat.zero_le _⟩) hS hP hD [0, 2, 3, 4, 5, 6, 7] [1] rfl rfl (by decide) (fun _ => rfl) (fun ur16 H locs wr16 hP hD hS => ?_)
    have hP : va_P G vwCl [(a0, .inr (11, [.int 0, .ref a1, .ref a2, .ref a3, .ref a4, .ref a5, .int n0_6, .int n0_7, .int n0_8, .int n0_9, .int n0_10, .long l0_11, .int n0_12, .int n0_13, .int n0_14, .int n0_15, .ref a6, .ref a7, .ref a8, .ref a9, .ref a10, .ref a11, .ref a12, .ref a13, .int (ur16.1 0), .int (ur16.1 1), .int (ur16.1 2), .int (ur16.1 3), .ref a14, .int n0_29, .int n0_30])), (a6, .inl (ct 0, 5, .inl f6)), (a7, .inl (ct 0, 15, .inl f7)), (a8, .inl (ct 0, 200, .inl f8)), (a9, .inl (ct 0, 1000, .inl f9)), (a11, .inl (ct 0, 8, .inl (ur16.2.1 0))), (a12, .inl (ct 0, 8, .inl (ur16.2.1 1))), (a13, .inl (ct 0, 8, .inl (ur16.2.1 2)))] H := hP.sub [1, 0, 2, 3, 4, 5, 6, 7] rfl
    have hD : va_D A [(a0, .inr (11, [.int 0, .ref a1, .ref a2, .ref a3, .ref a4, .ref a5, .int n0_6, .int n0_7, .int n0_8, .int n0_9, .int n0_10, .long l0_11, .int n0_12, .int n0_13, .int n0_14, .int n0_15, .ref a6, .ref a7, .ref a8, .ref a9, .ref a10, .ref a11, .ref a12, .ref a13, .int (ur16.1 0), .int (ur16.1 1), .int (ur16.1 2), .int (ur16.1 3), .ref a14, .int n0_29, .int n0_30])), (a6, .inl (ct 0, 5, .inl f6)), (a7, .inl (ct 0, 15, .inl f7)), (a8, .inl (ct 0, 200, .inl f8)), (a9, .inl (ct 0, 1000, .inl f9)), (a11, .inl (ct 0, 8, .inl (ur16.2.1 0))), (a12, .inl (ct 0, 8, .inl (ur16.2.1 1))), (a13, .inl (ct 0, 8, .inl (ur16.2.1 2)))] := hD.sub [1, 0, 2, 3, 4, 5, 6, 7] (by decide) rfl
    obtain ⟨p_3, p_4, -⟩ := wr16
    refine lv_aload_n hx hb dX11_day_19 rfl (lv_at hl 0 rfl) ?_
    refine ro_calli (va_runV (As := []) (rest := []) ⟨hx, hb, hml, hown, hts⟩ (a_X11_isFull l G ct a0 (0 : Int32) a1 a2 a3 a4 a5 n0_6 n0_7 n0_8 n0_9 n0_10 l0_11 n0_12 n0_13 n0_14 n0_15 a6 a7 a8 a9 a10 a11 a12 a13 (ur16.1 0) (ur16.1 1) (ur16.1 2) (ur16.1 3) a14 n0_29 n0_30 f7 hp_n0_6 hp_f7) (cwV 0 hts gX11_day_X11_isFull rfl rfl rfl (by decide +kernel) ⟨Nat.le_of_ble_eq_true rfl, Nat.le_of_ble_eq_true rfl⟩) (ro_preV 11 0 hK (hP.sub [0, 2] rfl) rfl rfl) rfl rfl hl.1 rfl (lv_room (Nat.le_of_ble_eq_true rfl)) dX11_day_20 ⟨Nat.zero_le _, Nat.zero_le _⟩) hS hP (fun r20 H locs wr20 hP hS => ?_)
    obtain ⟨p_5, p_6, -⟩ := wr20
    refine lv_if_eq (tgt := 29) hx hb dX11_day_23 (by decide) (fun c23 => ?_) (fun c23 => ?_)
    · have h_7 : rg 0 0 r20 := r_eq_l_i (e := 0) (f := 0) c23 p_5 (rgn 0 (x := 0) (by decide)) (by decide)
      refine lv_aload_n hx hb dX11_day_29 rfl (lv_at hl 0 rfl) ?_
      refine lv_iconst (v := 4) hx hb dX11_day_30 (by decide) ?_
      refine lv_iconst (v := 0) hx hb dX11_day_31 (by decide) ?_
      refine lv_iconst (v := 0) hx hb dX11_day_32 (by decide) ?_
      refine lv_iconst (v := 0) hx hb dX11_day_33 (by decide) ?_
      refine lv_iconst (v := 0) hx hb dX11_day_34 (by decide) ?_
      refine wj_callv (wr := [(a6, .inl (ct 0, 5, .inl f6)), (a8, .inl (ct 0, 200, .inl f8)), (a11, .inl (ct 0, 8, .inl (ur16.2.1 0))), (a12, .inl (ct 0, 8, .inl (ur16.2.1 1))), (a13, .inl (ct 0, 8, .inl (ur16.2.1 2)))]) (w1 := (fun u : SU => [(a0, .inr (11, [.int 0, .ref a1, .ref a2, .ref a3, .ref a4, .ref a5, .int n0_6, .int n0_7, .int n0_8, .int n0_9, .int n0_10, .long l0_11, .int n0_12, .int n0_13, .int n0_14, .int n0_15, .ref a6, .ref a7, .ref a8, .ref a9, .ref a10, .ref a11, .ref a12, .ref a13, .int (ur16.1 0), .int (ur16.1 1), .int (ur16.1 2), .int (ur16.1 3), .ref a14, .int n0_29, .int n0_30])), (a7, .inl (ct 0, 15, .inl (u.2.1 0))), (a9, .inl (ct 0, 1000, .inl (u.2.1 1)))])) (va_runV (As := [.int 4, .int 0, .int 0, .int 0, .int 0]) (rest := []) ⟨hx, hb, hml, hown, hts⟩ (a_X11_acts l G ct a0 (0 : Int32) a1 a2 a3 a4 a5 n0_6 n0_7 n0_8 n0_9 n0_10 l0_11 n0_12 n0_13 n0_14 n0_15 a6 a7 a8 a9 a10 a11 a12 a13 (ur16.1 0) (ur16.1 1) (ur16.1 2) (ur16.1 3) a14 n0_29 n0_30 f7 f9 (4 : Int32) (0 : Int32) (0 : Int32) (0 : Int32) (0 : Int32) hp_n0_6 hp_f7 hp_f9 (rg_w (c := 0) (d := 7) (rgn 4 (x := 4) (by decide)) (by decide)) (rg_w (c := 0) (d := 7) (rgn 0 (x := 0) (by decide)) (by decide)) (rg_w (c := 0) (d := 7) (rgn 0 (x := 0) (by decide)) (by decide)) (rg_w (c := 0) (d := 7) (rgn 0 (x := 0) (by decide)) (by decide)) (rg_w (c := 0) (d := 7) (rgn 0 (x := 0) (by decide)) (by decide)) (p_6 (req h_7 (y := 0) (by decide)))) (cwV 5 hts gX11_day_X11_acts rfl rfl rfl (by decide +kernel) ⟨Nat.le_of_ble_eq_true rfl, Nat.le_of_ble_eq_true rfl⟩) (wr_preV 11 0 hK (hP.sub [0, 2, 4] rfl) (hD.sub [0, 2, 4] (by decide) rfl) rfl rfl) rfl rfl hl.1 rfl (lv_room (Nat.le_of_ble_eq_true rfl)) dX11_day_35 ⟨Nat.zero_le _, Nat.zero_le _⟩) hS hP hD [0, 2, 4] [1, 3, 5, 6, 7] rfl rfl (by decide) (fun _ => rfl) (fun ur35 H locs wr35 hP hD hS => ?_)
      have hP : va_P G vwCl [(a0, .inr (11, [.int 0, .ref a1, .ref a2, .ref a3, .ref a4, .ref a5, .int n0_6, .int n0_7, .int n0_8, .int n0_9, .int n0_10, .long l0_11, .int n0_12, .int n0_13, .int n0_14, .int n0_15, .ref a6, .ref a7, .ref a8, .ref a9, .ref a10, .ref a11, .ref a12, .ref a13, .int (ur16.1 0), .int (ur16.1 1), .int (ur16.1 2), .int (ur16.1 3), .ref a14, .int n0_29, .int n0_30])), (a6, .inl (ct 0, 5, .inl f6)), (a7, .inl (ct 0, 15, .inl (ur35.2.1 0))), (a8, .inl (ct 0, 200, .inl f8)), (a9, .inl (ct 0, 1000, .inl (ur35.2.1 1))), (a11, .inl (ct 0, 8, .inl (ur16.2.1 0))), (a12, .inl (ct 0, 8, .inl (ur16.2.1 1))), (a13, .inl (ct 0, 8, .inl (ur16.2.1 2)))] H := hP.sub [5, 0, 6, 1, 7, 2, 3, 4] rfl
      have hD : va_D A [(a0, .inr (11, [.int 0, .ref a1, .ref a2, .ref a3, .ref a4, .ref a5, .int n0_6, .int n0_7, .int n0_8, .int n0_9, .int n0_10, .long l0_11, .int n0_12, .int n0_13, .int n0_14, .int n0_15, .ref a6, .ref a7, .ref a8, .ref a9, .ref a10, .ref a11, .ref a12, .ref a13, .int (ur16.1 0), .int (ur16.1 1), .int (ur16.1 2), .int (ur16.1 3), .ref a14, .int n0_29, .int n0_30])), (a6, .inl (ct 0, 5, .inl f6)), (a7, .inl (ct 0, 15, .inl (ur35.2.1 0))), (a8, .inl (ct 0, 200, .inl f8)), (a9, .inl (ct 0, 1000, .inl (ur35.2.1 1))), (a11, .inl (ct 0, 8, .inl (ur16.2.1 0))), (a12, .inl (ct 0, 8, .inl (ur16.2.1 1))), (a13, .inl (ct 0, 8, .inl (ur16.2.1 2)))] := hD.sub [5, 0, 6, 1, 7, 2, 3, 4] (by decide) rfl
      obtain ⟨p_8, p_9, -⟩ := wr35
      refine lv_aload_n hx hb dX11_day_38 rfl (lv_at hl 0 rfl) ?_
      refine va_get (D := G) (ci := 11) (v := .int (ur16.1 2)) (C := RX11) (T := TX11) (N := 31) hx hb hts (by decide +kernel) hown hK.1 hP 0 rfl rfl 26 (by decide) (hts (.fieldLink RX11 223 "CardHolderModel" "dayNow" "I") (by decide +kernel)) (fun _ h9 => h9) rfl dX11_day_39 ?_
      exact W.iret (v := ur16.1 2) hx hb hr (fun t ht hW => ⟨⟨ur16.1 2, (fun k => ([0, ur16.1 0, ur16.1 1, ur16.1 2, ur16.1 3] : List Int32).getD k 0, fun k => ([ur35.2.1 0, ur35.2.1 1, ur16.2.1 0, ur16.2.1 1, ur16.2.1 2] : List (Nat → Int32)).getD k (fun _ => 0), fun k => ([] : List (Nat → Int64)).getD k (fun _ => 0)), rfl, ⟨p_8, p_9, p_3, p_4, (rgn 0 (x := 0) (by decide)), trivial⟩, hp_at ht hP⟩, hS.F ht⟩) hS.2.2 dX11_day_42
    · have h_10 : rg 1 1 r20 := r_ne_lo_i c23 p_5 (by decide) (by decide)
      refine lv_bipush (v := (-5)) hx hb dX11_day_26 (by decide) ?_
      exact W.iret (v := (-5)) hx hb hr (fun t ht hW => ⟨⟨(-5), (fun k => ([0, ur16.1 0, ur16.1 1, ur16.1 2, ur16.1 3] : List Int32).getD k 0, fun k => ([f7, f9, ur16.2.1 0, ur16.2.1 1, ur16.2.1 2] : List (Nat → Int32)).getD k (fun _ => 0), fun k => ([] : List (Nat → Int64)).getD k (fun _ => 0)), rfl, ⟨hp_f7, hp_f9, p_3, p_4, (rgn 0 (x := 0) (by decide)), trivial⟩, hp_at ht hP⟩, hS.F ht⟩) hS.2.2 dX11_day_28
  · have h_11 : rg 0 0 r6 := r_eq_l_i (e := 0) (f := 0) c9 p_1 (rgn 0 (x := 0) (by decide)) (by decide)
    refine lv_bipush (v := (-2)) hx hb dX11_day_12 (by decide) ?_
    exact W.iret (v := (-2)) hx hb hr (fun t ht hW => ⟨⟨(-2), (fun k => ([0, n0_24, n0_25, n0_26, n0_27] : List Int32).getD k 0, fun k => ([f7, f9, f11, f12, f13] : List (Nat → Int32)).getD k (fun _ => 0), fun k => ([] : List (Nat → Int64)).getD k (fun _ => 0)), rfl, ⟨hp_f7, hp_f9, hp_f11, hp_f13, (rgn 0 (x := 0) (by decide)), trivial⟩, hp_at ht hP⟩, hS.F ht⟩) hS.2.2 dX11_day_14

set_option maxHeartbeats 4000000 in
set_option maxRecDepth 100000 in
theorem a_X11_undo (l : Launch) (G : va_G) (ct : Nat → ClassId) (a0 : Nat) (n0_0 : Int32) (a1 : Nat) (a2 : Nat) (a3 : Nat) (a4 : Nat) (a5 : Nat) (n0_6 : Int32) (n0_7 : Int32) (n0_8 : Int32) (n0_9 : Int32) (n0_10 : Int32) (l0_11 : Int64) (n0_12 : Int32) (n0_13 : Int32) (n0_14 : Int32) (n0_15 : Int32) (a6 : Nat) (a7 : Nat) (a8 : Nat) (a9 : Nat) (a10 : Nat) (a11 : Nat) (a12 : Nat) (a13 : Nat) (n0_24 : Int32) (n0_25 : Int32) (n0_26 : Int32) (n0_27 : Int32) (a14 : Nat) (n0_29 : Int32) (n0_30 : Int32) (f6 : Nat → Int32) (f7 : Nat → Int32) (hp_n0_6 : rg 0 900 n0_6) (hp_f7 : hsI f7) : Met l yX11_undo wsX11_undo ({ frames := 1, cells := 0, slots := 0, locals := 20 }) (va_Pc [.ref a0] (wrP G ct [(a0, .inr (11, [.int n0_0, .ref a1, .ref a2, .ref a3, .ref a4, .ref a5, .int n0_6, .int n0_7, .int n0_8, .int n0_9, .int n0_10, .long l0_11, .int n0_12, .int n0_13, .int n0_14, .int n0_15, .ref a6, .ref a7, .ref a8, .ref a9, .ref a10, .ref a11, .ref a12, .ref a13, .int n0_24, .int n0_25, .int n0_26, .int n0_27, .ref a14, .int n0_29, .int n0_30])), (a6, .inl (ct 0, 5, .inl f6)), (a7, .inl (ct 0, 15, .inl f7))])) (va_Qi (fun (r : Int32) (u : SU) => rg (-5) 40 r ∧ hsI (u.2.1 0) ∧ rg 0 0 (u.1 0) ∧ True) (fun u t => va_P G vwCl ((fun u : SU => [(a0, .inr (11, [.int (u.1 0), .ref a1, .ref a2, .ref a3, .ref a4, .ref a5, .int n0_6, .int n0_7, .int n0_8, .int n0_9, .int n0_10, .long l0_11, .int n0_12, .int n0_13, .int n0_14, .int n0_15, .ref a6, .ref a7, .ref a8, .ref a9, .ref a10, .ref a11, .ref a12, .ref a13, .int n0_24, .int n0_25, .int n0_26, .int n0_27, .ref a14, .int n0_29, .int n0_30])), (a6, .inl (ct 0, 5, .inl f6)), (a7, .inl (ct 0, 15, .inl (u.2.1 0)))]) u) t.heap) (aset [(a0, .inr (11, [.int n0_0, .ref a1, .ref a2, .ref a3, .ref a4, .ref a5, .int n0_6, .int n0_7, .int n0_8, .int n0_9, .int n0_10, .long l0_11, .int n0_12, .int n0_13, .int n0_14, .int n0_15, .ref a6, .ref a7, .ref a8, .ref a9, .ref a10, .ref a11, .ref a12, .ref a13, .int n0_24, .int n0_25, .int n0_26, .int n0_27, .ref a14, .int n0_29, .int n0_30])), (a6, .inl (ct 0, 5, .inl f6)), (a7, .inl (ct 0, 15, .inl f7))])) 0 0 (aset [(a0, .inr (11, [.int n0_0, .ref a1, .ref a2, .ref a3, .ref a4, .ref a5, .int n0_6, .int n0_7, .int n0_8, .int n0_9, .int n0_10, .long l0_11, .int n0_12, .int n0_13, .int n0_14, .int n0_15, .ref a6, .ref a7, .ref a8, .ref a9, .ref a10, .ref a11, .ref a12, .ref a13, .int n0_24, .int n0_25, .int n0_26, .int n0_27, .ref a14, .int n0_29, .int n0_30])), (a6, .inl (ct 0, 5, .inl f6)), (a7, .inl (ct 0, 15, .inl f7))]) := by
  refine Met.ofW (cc := cX11_undo) (maxL := 1) (ret := (some .int)) (by decide) rfl ?_
  intro p e s m args below meth c s₁ B hml hv
  obtain ⟨rfl, hP, hK, hD0⟩ := hv
  have hx := B.exec
  have hb := B.bytes
  have hr := B.returns
  have hts := atoms_spec (ws := wsX11_undo) B.pre
  have hown : s.vm.findClass RX11 = some m.cls := findClass_of_methodNamed B.named
  have hlocks := B.notSynchronized
  have hD := hD0.aself
  generalize hAe : aset [(a0, .inr (11, [.int n0_0, .ref a1, .ref a2, .ref a3, .ref a4, .ref a5, .int n0_6, .int n0_7, .int n0_8, .int n0_9, .int n0_10, .long l0_11, .int n0_12, .int n0_13, .int n0_14, .int n0_15, .ref a6, .ref a7, .ref a8, .ref a9, .ref a10, .ref a11, .ref a12, .ref a13, .int n0_24, .int n0_25, .int n0_26, .int n0_27, .ref a14, .int n0_29, .int n0_30])), (a6, .inl (ct 0, 5, .inl f6)), (a7, .inl (ct 0, 15, .inl f7))] = A at hD ⊢
  have hS : va_S A s.heap s.heap [] := va_S.rf
  have hl := lv_entry ([.ref a0]) (n := 1) (Nat.le_of_ble_eq_true rfl)
  rw [lg_entry_eq]
  generalize (lg_sl ([.ref a0]) ++ List.replicate (1 - (lg_sl ([.ref a0])).length) Slot.unset).toArray = ls at hl ⊢
  have hl : lv_has ls 1 [(0, .ref a0)] := hl
  refine lv_aload_n hx hb dX11_undo_0 rfl (lv_at hl 0 rfl) ?_
  refine lv_iconst (v := 0) hx hb dX11_undo_1 (by decide) ?_
  refine va_put (D := G) (ci := 11) (v := .int 0) (ty := .int) (C := RX11) (T := TX11) (N := 31) hx hb hts (by decide +kernel) tyX11 tyX11_ok nmX11 hown hK.1 hP hD hS 0 rfl rfl 0 (by decide) (hts (.fieldLink RX11 59 "CardHolderModel" "thrown" "I") (by decide +kernel)) (fun _ h9 => h9) rfl (by decide +kernel) rfl rfl (Nat.le_of_ble_eq_true rfl) dX11_undo_2 (fun H locs hP hD hS => ?_)
  refine lv_aload_n hx hb dX11_undo_5 rfl (lv_at hl 0 rfl) ?_
  refine ro_calli (va_runV (As := []) (rest := []) ⟨hx, hb, hml, hown, hts⟩ (a_X11_isCity l G ct a0 (0 : Int32) a1 a2 a3 a4 a5 n0_6 n0_7 n0_8 n0_9 n0_10 l0_11 n0_12 n0_13 n0_14 n0_15 a6 a7 a8 a9 a10 a11 a12 a13 n0_24 n0_25 n0_26 n0_27 a14 n0_29 n0_30 f6 hp_n0_6) (cwV 0 hts gX11_undo_X11_isCity rfl rfl rfl (by decide +kernel) ⟨Nat.le_of_ble_eq_true rfl, Nat.le_of_ble_eq_true rfl⟩) (ro_preV 11 0 hK (hP.sub [0, 1] rfl) rfl rfl) rfl rfl hl.1 rfl (lv_room (Nat.le_of_ble_eq_true rfl)) dX11_undo_6 ⟨Nat.zero_le _, Nat.zero_le _⟩) hS hP (fun r6 H locs wr6 hP hS => ?_)
  obtain ⟨p_1, -⟩ := wr6
  refine lv_if_ne (tgt := 15) hx hb dX11_undo_9 (by decide) (fun c9 => ?_) (fun c9 => ?_)
  · have h_2 : rg 1 1 r6 := r_ne_lo_i c9 p_1 (by decide) (by decide)
    refine lv_aload_n hx hb dX11_undo_15 rfl (lv_at hl 0 rfl) ?_
    refine va_get (D := G) (ci := 11) (v := .ref a7) (C := RX11) (T := TX11) (N := 31) hx hb hts (by decide +kernel) hown hK.1 hP 0 rfl rfl 17 (by decide) (hts (.fieldLink RX11 34 "CardHolderModel" "has" "[I") (by decide +kernel)) (fun _ h9 => h9) rfl dX11_undo_16 ?_
    refine lv_iconst (v := 2) hx hb dX11_undo_19 (by decide) ?_
    refine va_iald hx hb hK.1 hP 2 0 rfl rfl (in_lit (by decide)) dX11_undo_20 ?_
    refine lv_topi (fun z20 gz20 => ?_)
    have hz20 : rg 0 40 z20 := by rw [gz20]; exact (hp_f7.2 0)
    refine lv_if_ne (tgt := 27) hx hb dX11_undo_21 (by decide) (fun c21 => ?_) (fun c21 => ?_)
    · have h_3 : rg 1 40 z20 := r_ne_lo_i c21 hz20 (by decide) (by decide)
      refine lv_aload_n hx hb dX11_undo_27 rfl (lv_at hl 0 rfl) ?_
      refine va_get (D := G) (ci := 11) (v := .ref a7) (C := RX11) (T := TX11) (N := 31) hx hb hts (by decide +kernel) hown hK.1 hP 0 rfl rfl 17 (by decide) (hts (.fieldLink RX11 34 "CardHolderModel" "has" "[I") (by decide +kernel)) (fun _ h9 => h9) rfl dX11_undo_28 ?_
      refine lv_iconst (v := 2) hx hb dX11_undo_31 (by decide) ?_
      refine lv_dup2_11 hx hb dX11_undo_32 rfl rfl ?_
      refine va_iald hx hb hK.1 hP 2 0 rfl rfl (in_lit (by decide)) dX11_undo_33 ?_
      refine ix_i (y := z20) gz20.symm ?_
      refine lv_iconst (v := 1) hx hb dX11_undo_34 (by decide) ?_
      refine lv_isub hx hb dX11_undo_35 ?_
      refine nm_sub (e1 := 0) (f := 39) h_3 (rgn 1 (x := 1) (by decide)) (by decide) (fun z35 hz35 ez35 => ?_)
      replace ez35 := eqc_s ez35 (c := (-1)) (by decide)
      refine va_iast hx hb hK.1 hP hD hS 2 0 rfl rfl (in_lit (by decide)) dX11_undo_36 (fun H locs hP hD hS => ?_)
      have h_4 : hsI (upd f7 (2 : Int32).toNatClampNeg z35) := hs_u2 (j := 0) hp_f7 rfl (rg_w (c := 0) (d := 40) hz35 (by decide))
      refine lv_aload_n hx hb dX11_undo_37 rfl (lv_at hl 0 rfl) ?_
      refine va_get (D := G) (ci := 11) (v := .ref a7) (C := RX11) (T := TX11) (N := 31) hx hb hts (by decide +kernel) hown hK.1 hP 0 rfl rfl 17 (by decide) (hts (.fieldLink RX11 34 "CardHolderModel" "has" "[I") (by decide +kernel)) (fun _ h9 => h9) rfl dX11_undo_38 ?_
      refine lv_iconst (v := 2) hx hb dX11_undo_41 (by decide) ?_
      refine va_iald hx hb hK.1 hP 2 0 rfl rfl (in_lit (by decide)) dX11_undo_42 ?_
      refine lv_topi (fun z42 gz42 => ?_)
      have hz42 : rg 0 40 z42 := by rw [gz42]; exact (h_4.2 0)
      exact W.iret (v := z42) hx hb hr (fun t ht hW => ⟨⟨z42, (fun k => ([0] : List Int32).getD k 0, fun k => ([upd f7 (2 : Int32).toNatClampNeg z35] : List (Nat → Int32)).getD k (fun _ => 0), fun k => ([] : List (Nat → Int64)).getD k (fun _ => 0)), rfl, ⟨(rg_w (c := (-5)) (d := 40) hz42 (by decide)), h_4, (rgn 0 (x := 0) (by decide)), trivial⟩, hp_at ht hP⟩, hS.F ht⟩) hS.2.2 dX11_undo_43
    · have h_5 : rg 0 0 z20 := r_eq_l_i (e := 0) (f := 0) c21 hz20 (rgn 0 (x := 0) (by decide)) (by decide)
      refine lv_bipush (v := (-5)) hx hb dX11_undo_24 (by decide) ?_
      exact W.iret (v := (-5)) hx hb hr (fun t ht hW => ⟨⟨(-5), (fun k => ([0] : List Int32).getD k 0, fun k => ([f7] : List (Nat → Int32)).getD k (fun _ => 0), fun k => ([] : List (Nat → Int64)).getD k (fun _ => 0)), rfl, ⟨(rg_w (c := (-5)) (d := 40) (rgn (-5) (x := (-5)) (by decide)) (by decide)), hp_f7, (rgn 0 (x := 0) (by decide)), trivial⟩, hp_at ht hP⟩, hS.F ht⟩) hS.2.2 dX11_undo_26
  · have h_6 : rg 0 0 r6 := r_eq_l_i (e := 0) (f := 0) c9 p_1 (rgn 0 (x := 0) (by decide)) (by decide)
    refine lv_bipush (v := (-2)) hx hb dX11_undo_12 (by decide) ?_
    exact W.iret (v := (-2)) hx hb hr (fun t ht hW => ⟨⟨(-2), (fun k => ([0] : List Int32).getD k 0, fun k => ([f7] : List (Nat → Int32)).getD k (fun _ => 0), fun k => ([] : List (Nat → Int64)).getD k (fun _ => 0)), rfl, ⟨(rg_w (c := (-5)) (d := 40) (rgn (-2) (x := (-2)) (by decide)) (by decide)), hp_f7, (rgn 0 (x := 0) (by decide)), trivial⟩, hp_at ht hP⟩, hS.F ht⟩) hS.2.2 dX11_undo_14
