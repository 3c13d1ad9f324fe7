theorem dX11_under_0 : decode cX11_under 0 = .ok (.aload_n 0, 1) := by decide +kernel
theorem dX11_under_1 : decode cX11_under 1 = .ok (.iconst 0, 1) := by decide +kernel
theorem dX11_under_2 : decode cX11_under 2 = .ok (.putfield 59, 3) := by decide +kernel
theorem dX11_under_5 : decode cX11_under 5 = .ok (.aload_n 0, 1) := by decide +kernel
theorem dX11_under_6 : decode cX11_under 6 = .ok (.iload_n 1, 1) := by decide +kernel
theorem dX11_under_7 : decode cX11_under 7 = .ok (.i2l, 1) := by decide +kernel
set_option maxRecDepth 20000 in
theorem ggX11_under_X11_isPerson : GoodIn wsX11_under wsX11_isPerson := goodIn_r _ [6, 7, 8, 9, 5, 10, 55, 56, 57, 58, 59, 60, 61, 62, 63, 64, 65, 66, 67, 68, 69, 70, 71, 72, 73, 74, 75, 76, 77, 78, 79, 80, 81, 82, 83, 84, 85] (by rfl) (by decide +kernel)
set_option maxRecDepth 20000 in
theorem gX11_under_X11_isPerson : GoodIn wsX11_under (wsV RX11 206 RX11 yX11_isPerson wsX11_isPerson) := goodIn_app (goodIn_r _ [2, 3, 4, 5] (by rfl) (by decide +kernel)) ggX11_under_X11_isPerson
theorem dX11_under_8 : decode cX11_under 8 = .ok (.invokevirtual 206, 3) := by decide +kernel
theorem dX11_under_11 : decode cX11_under 11 = .ok (.ifCond .ne 6, 3) := by decide +kernel
theorem dX11_under_17 : decode cX11_under 17 = .ok (.aload_n 0, 1) := by decide +kernel
set_option maxRecDepth 20000 in
theorem ggX11_under_X11_laysNow : GoodIn wsX11_under wsX11_laysNow := goodIn_r _ [14, 7, 15, 16, 17, 18, 5, 19, 20, 21, 22, 23, 24, 25, 26, 27, 28, 29, 30, 31, 32, 33, 34, 35, 36, 37, 38, 39, 40, 41, 42, 43, 44, 45, 46, 47, 48, 49, 50, 55, 56, 57, 58, 59, 60, 61, 62, 63, 64, 65, 66, 67, 68, 69, 70, 71, 72, 73, 74, 75, 76, 77, 78, 79, 80, 81, 82, 83, 84, 85] (by rfl) (by decide +kernel)
set_option maxRecDepth 20000 in
theorem gX11_under_X11_laysNow : GoodIn wsX11_under (wsV RX11 251 RX11 yX11_laysNow wsX11_laysNow) := goodIn_app (goodIn_r _ [11, 12, 13, 5] (by rfl) (by decide +kernel)) ggX11_under_X11_laysNow
theorem dX11_under_18 : decode cX11_under 18 = .ok (.invokevirtual 251, 3) := by decide +kernel
theorem dX11_under_21 : decode cX11_under 21 = .ok (.aload_n 0, 1) := by decide +kernel
theorem dX11_under_22 : decode cX11_under 22 = .ok (.iload_n 1, 1) := by decide +kernel
set_option maxRecDepth 20000 in
theorem ggX11_under_X11_underOf : GoodIn wsX11_under wsX11_underOf := goodIn_r _ [54, 7, 20, 48, 49, 5, 50, 55, 56, 57, 58, 59, 60, 61, 62, 63, 64, 65, 66, 67, 68, 69, 70, 71, 72, 73, 74, 75, 76, 77, 78, 79, 80, 81, 82, 83, 84, 85] (by rfl) (by decide +kernel)
set_option maxRecDepth 20000 in
theorem gX11_under_X11_underOf : GoodIn wsX11_under (wsV RX11 263 RX11 yX11_underOf wsX11_underOf) := goodIn_app (goodIn_r _ [51, 52, 53, 5] (by rfl) (by decide +kernel)) ggX11_under_X11_underOf
theorem dX11_under_23 : decode cX11_under 23 = .ok (.invokevirtual 263, 3) := by decide +kernel
theorem dX11_under_26 : decode cX11_under 26 = .ok (.ireturn, 1) := by decide +kernel
theorem dX11_under_14 : decode cX11_under 14 = .ok (.bipush (-2), 2) := by decide +kernel
theorem dX11_under_16 : decode cX11_under 16 = .ok (.ireturn, 1) := by decide +kernel
theorem dX11_timeOf_0 : decode cX11_timeOf 0 = .ok (.iconst 0, 1) := by decide +kernel
theorem dX11_timeOf_1 : decode cX11_timeOf 1 = .ok (.istore_n 3, 1) := by decide +kernel
theorem dX11_timeOf_2 : decode cX11_timeOf 2 = .ok (.iload_n 2, 1) := by decide +kernel
theorem dX11_timeOf_3 : decode cX11_timeOf 3 = .ok (.istore 4, 2) := by decide +kernel
theorem dX11_timeOf_5 : decode cX11_timeOf 5 = .ok (.iconst 0, 1) := by decide +kernel
theorem dX11_timeOf_6 : decode cX11_timeOf 6 = .ok (.istore 5, 2) := by decide +kernel
theorem dX11_timeOf_8 : decode cX11_timeOf 8 = .ok (.iload 5, 2) := by decide +kernel
theorem dX11_timeOf_10 : decode cX11_timeOf 10 = .ok (.bipush 8, 2) := by decide +kernel
theorem dX11_timeOf_12 : decode cX11_timeOf 12 = .ok (.if_icmp .ge 58, 3) := by decide +kernel
theorem dX11_timeOf_70 : decode cX11_timeOf 70 = .ok (.iconst (-1), 1) := by decide +kernel
theorem dX11_timeOf_71 : decode cX11_timeOf 71 = .ok (.ireturn, 1) := by decide +kernel
theorem dX11_timeOf_15 : decode cX11_timeOf 15 = .ok (.aload_n 0, 1) := by decide +kernel
theorem dX11_timeOf_16 : decode cX11_timeOf 16 = .ok (.getfield 47, 3) := by decide +kernel
theorem dX11_timeOf_19 : decode cX11_timeOf 19 = .ok (.iload 4, 2) := by decide +kernel
theorem dX11_timeOf_21 : decode cX11_timeOf 21 = .ok (.iaload, 1) := by decide +kernel
theorem dX11_timeOf_22 : decode cX11_timeOf 22 = .ok (.iconst (-1), 1) := by decide +kernel
theorem dX11_timeOf_23 : decode cX11_timeOf 23 = .ok (.if_icmp .ne 5, 3) := by decide +kernel
theorem dX11_timeOf_28 : decode cX11_timeOf 28 = .ok (.iload_n 3, 1) := by decide +kernel
theorem dX11_timeOf_29 : decode cX11_timeOf 29 = .ok (.aload_n 0, 1) := by decide +kernel
theorem dX11_timeOf_30 : decode cX11_timeOf 30 = .ok (.iload 4, 2) := by decide +kernel
theorem dX11_timeOf_32 : decode cX11_timeOf 32 = .ok (.iconst 4, 1) := by decide +kernel
set_option maxRecDepth 20000 in
theorem ggX11_timeOf_X11_of : GoodIn wsX11_timeOf wsX11_of := goodIn_r _ [6, 7, 8, 9, 10, 11, 12, 13, 14, 15, 16, 17, 18, 19, 20, 21, 22, 23, 24, 25, 26, 27, 28, 29, 30, 31, 32, 33, 34, 35, 36, 37, 38] (by rfl) (by decide +kernel)
set_option maxRecDepth 20000 in
theorem gX11_timeOf_X11_of : GoodIn wsX11_timeOf (wsV RX11 214 RX11 yX11_of wsX11_of) := goodIn_app (goodIn_r _ [2, 3, 4, 5] (by rfl) (by decide +kernel)) ggX11_timeOf_X11_of
theorem dX11_timeOf_33 : decode cX11_timeOf 33 = .ok (.invokevirtual 214, 3) := by decide +kernel
theorem dX11_timeOf_36 : decode cX11_timeOf 36 = .ok (.iconst 1, 1) := by decide +kernel
theorem dX11_timeOf_45 : decode cX11_timeOf 45 = .ok (.iadd, 1) := by decide +kernel
theorem dX11_timeOf_46 : decode cX11_timeOf 46 = .ok (.istore_n 3, 1) := by decide +kernel
theorem dX11_timeOf_47 : decode cX11_timeOf 47 = .ok (.aload_n 0, 1) := by decide +kernel
theorem dX11_timeOf_48 : decode cX11_timeOf 48 = .ok (.getfield 47, 3) := by decide +kernel
theorem dX11_timeOf_51 : decode cX11_timeOf 51 = .ok (.iload 4, 2) := by decide +kernel
theorem dX11_timeOf_53 : decode cX11_timeOf 53 = .ok (.iaload, 1) := by decide +kernel
theorem dX11_timeOf_54 : decode cX11_timeOf 54 = .ok (.istore 4, 2) := by decide +kernel
theorem dX11_timeOf_56 : decode cX11_timeOf 56 = .ok (.iload 4, 2) := by decide +kernel
theorem dX11_timeOf_58 : decode cX11_timeOf 58 = .ok (.iload_n 1, 1) := by decide +kernel
theorem dX11_timeOf_59 : decode cX11_timeOf 59 = .ok (.if_icmp .ne 5, 3) := by decide +kernel
theorem dX11_timeOf_64 : decode cX11_timeOf 64 = .ok (.iinc 5 1, 3) := by decide +kernel
theorem dX11_timeOf_67 : decode cX11_timeOf 67 = .ok (.goto (-59), 3) := by decide +kernel
theorem dX11_timeOf_62 : decode cX11_timeOf 62 = .ok (.iload_n 3, 1) := by decide +kernel
theorem dX11_timeOf_63 : decode cX11_timeOf 63 = .ok (.ireturn, 1) := by decide +kernel
theorem dX11_timeOf_37 : decode cX11_timeOf 37 = .ok (.if_icmp .ne 7, 3) := by decide +kernel
theorem dX11_timeOf_44 : decode cX11_timeOf 44 = .ok (.iconst 1, 1) := by decide +kernel
theorem dX11_timeOf_40 : decode cX11_timeOf 40 = .ok (.iconst 2, 1) := by decide +kernel
theorem dX11_timeOf_41 : decode cX11_timeOf 41 = .ok (.goto 4, 3) := by decide +kernel
theorem dX11_timeOf_26 : decode cX11_timeOf 26 = .ok (.iconst (-1), 1) := by decide +kernel
theorem dX11_timeOf_27 : decode cX11_timeOf 27 = .ok (.ireturn, 1) := by decide +kernel
theorem dX11_time_0 : decode cX11_time 0 = .ok (.aload_n 0, 1) := by decide +kernel
theorem dX11_time_1 : decode cX11_time 1 = .ok (.iconst 0, 1) := by decide +kernel
theorem dX11_time_2 : decode cX11_time 2 = .ok (.putfield 59, 3) := by decide +kernel
theorem dX11_time_5 : decode cX11_time 5 = .ok (.aload_n 0, 1) := by decide +kernel
theorem dX11_time_6 : decode cX11_time 6 = .ok (.iload_n 1, 1) := by decide +kernel
theorem dX11_time_7 : decode cX11_time 7 = .ok (.iload_n 2, 1) := by decide +kernel
set_option maxRecDepth 20000 in
theorem ggX11_time_X11_arePeople : GoodIn wsX11_time wsX11_arePeople := goodIn_r _ [6, 7, 8, 9, 5, 10, 11, 12, 13, 14, 59, 60, 61, 62, 63, 64, 65, 66, 67, 68, 69, 70, 71, 72, 73, 74, 75, 76, 77, 78, 79, 80, 81, 82, 83, 84, 85, 86, 87, 88, 89] (by rfl) (by decide +kernel)
set_option maxRecDepth 20000 in
theorem gX11_time_X11_arePeople : GoodIn wsX11_time (wsV RX11 266 RX11 yX11_arePeople wsX11_arePeople) := goodIn_app (goodIn_r _ [2, 3, 4, 5] (by rfl) (by decide +kernel)) ggX11_time_X11_arePeople
theorem dX11_time_8 : decode cX11_time 8 = .ok (.invokevirtual 266, 3) := by decide +kernel
theorem dX11_time_11 : decode cX11_time 11 = .ok (.ifCond .ne 6, 3) := by decide +kernel
theorem dX11_time_17 : decode cX11_time 17 = .ok (.aload_n 0, 1) := by decide +kernel
set_option maxRecDepth 20000 in
theorem ggX11_time_X11_laysNow : GoodIn wsX11_time wsX11_laysNow := goodIn_r _ [18, 11, 19, 20, 21, 22, 5, 23, 24, 25, 26, 27, 28, 29, 30, 31, 32, 33, 34, 35, 36, 37, 38, 39, 40, 41, 42, 43, 44, 45, 46, 47, 48, 49, 50, 51, 52, 53, 54, 59, 60, 61, 62, 63, 64, 65, 66, 67, 68, 69, 70, 71, 72, 73, 74, 75, 76, 77, 78, 79, 80, 81, 82, 83, 84, 85, 86, 87, 88, 89] (by rfl) (by decide +kernel)
set_option maxRecDepth 20000 in
theorem gX11_time_X11_laysNow : GoodIn wsX11_time (wsV RX11 251 RX11 yX11_laysNow wsX11_laysNow) := goodIn_app (goodIn_r _ [15, 16, 17, 5] (by rfl) (by decide +kernel)) ggX11_time_X11_laysNow
theorem dX11_time_18 : decode cX11_time 18 = .ok (.invokevirtual 251, 3) := by decide +kernel
theorem dX11_time_21 : decode cX11_time 21 = .ok (.aload_n 0, 1) := by decide +kernel
theorem dX11_time_22 : decode cX11_time 22 = .ok (.iload_n 1, 1) := by decide +kernel
theorem dX11_time_23 : decode cX11_time 23 = .ok (.iload_n 2, 1) := by decide +kernel
set_option maxRecDepth 20000 in
theorem ggX11_time_X11_timeOf : GoodIn wsX11_time wsX11_timeOf := goodIn_r _ [58, 24, 31, 32, 33, 5, 34, 35, 59, 60, 61, 62, 63, 64, 65, 66, 67, 68, 69, 70, 71, 72, 73, 74, 75, 76, 77, 78, 79, 80, 81, 82, 83, 84, 85, 86, 87, 88, 89] (by rfl) (by decide +kernel)
set_option maxRecDepth 20000 in
theorem gX11_time_X11_timeOf : GoodIn wsX11_time (wsV RX11 269 RX11 yX11_timeOf wsX11_timeOf) := goodIn_app (goodIn_r _ [55, 56, 57, 5] (by rfl) (by decide +kernel)) ggX11_time_X11_timeOf
theorem dX11_time_24 : decode cX11_time 24 = .ok (.invokevirtual 269, 3) := by decide +kernel
theorem dX11_time_27 : decode cX11_time 27 = .ok (.ireturn, 1) := by decide +kernel
theorem dX11_time_14 : decode cX11_time 14 = .ok (.bipush (-2), 2) := by decide +kernel
theorem dX11_time_16 : decode cX11_time 16 = .ok (.ireturn, 1) := by decide +kernel
theorem dX11_top_0 : decode cX11_top 0 = .ok (.aload_n 0, 1) := by decide +kernel
theorem dX11_top_1 : decode cX11_top 1 = .ok (.iconst 0, 1) := by decide +kernel
theorem dX11_top_2 : decode cX11_top 2 = .ok (.putfield 59, 3) := by decide +kernel
theorem dX11_top_5 : decode cX11_top 5 = .ok (.aload_n 0, 1) := by decide +kernel
theorem dX11_top_6 : decode cX11_top 6 = .ok (.iload_n 1, 1) := by decide +kernel
theorem dX11_top_7 : decode cX11_top 7 = .ok (.i2l, 1) := by decide +kernel
set_option maxRecDepth 20000 in
theorem ggX11_top_X11_isPerson : GoodIn wsX11_top wsX11_isPerson := goodIn_r _ [7, 8, 9, 10, 6, 11, 51, 52, 53, 54, 55, 56, 57, 58, 59, 60, 61, 62, 63, 64, 65, 66, 67, 68, 69, 70, 71, 72, 73, 74, 75, 76, 77, 78, 79, 80, 81] (by rfl) (by decide +kernel)
set_option maxRecDepth 20000 in
theorem gX11_top_X11_isPerson : GoodIn wsX11_top (wsV RX11 206 RX11 yX11_isPerson wsX11_isPerson) := goodIn_app (goodIn_r _ [3, 4, 5, 6] (by rfl) (by decide +kernel)) ggX11_top_X11_isPerson
theorem dX11_top_8 : decode cX11_top 8 = .ok (.invokevirtual 206, 3) := by decide +kernel
theorem dX11_top_11 : decode cX11_top 11 = .ok (.ifCond .ne 6, 3) := by decide +kernel
theorem dX11_top_17 : decode cX11_top 17 = .ok (.aload_n 0, 1) := by decide +kernel
set_option maxRecDepth 20000 in
theorem ggX11_top_X11_laysNow : GoodIn wsX11_top wsX11_laysNow := goodIn_r _ [15, 8, 16, 17, 18, 19, 6, 20, 2, 21, 22, 23, 24, 25, 26, 27, 28, 29, 30, 31, 32, 33, 34, 35, 36, 37, 38, 39, 40, 41, 42, 43, 44, 45, 46, 47, 48, 49, 50, 51, 52, 53, 54, 55, 56, 57, 58, 59, 60, 61, 62, 63, 64, 65, 66, 67, 68, 69, 70, 71, 72, 73, 74, 75, 76, 77, 78, 79, 80, 81] (by rfl) (by decide +kernel)
set_option maxRecDepth 20000 in
theorem gX11_top_X11_laysNow : GoodIn wsX11_top (wsV RX11 251 RX11 yX11_laysNow wsX11_laysNow) := goodIn_app (goodIn_r _ [12, 13, 14, 6] (by rfl) (by decide +kernel)) ggX11_top_X11_laysNow
theorem dX11_top_18 : decode cX11_top 18 = .ok (.invokevirtual 251, 3) := by decide +kernel
theorem dX11_top_21 : decode cX11_top 21 = .ok (.iload_n 1, 1) := by decide +kernel
theorem dX11_top_22 : decode cX11_top 22 = .ok (.istore_n 2, 1) := by decide +kernel
theorem dX11_top_23 : decode cX11_top 23 = .ok (.iconst 0, 1) := by decide +kernel
theorem dX11_top_24 : decode cX11_top 24 = .ok (.istore_n 3, 1) := by decide +kernel
theorem dX11_top_25 : decode cX11_top 25 = .ok (.iload_n 3, 1) := by decide +kernel
theorem dX11_top_26 : decode cX11_top 26 = .ok (.bipush 8, 2) := by decide +kernel
theorem dX11_top_28 : decode cX11_top 28 = .ok (.if_icmp .ge 28, 3) := by decide +kernel
theorem dX11_top_56 : decode cX11_top 56 = .ok (.iconst (-1), 1) := by decide +kernel
theorem dX11_top_57 : decode cX11_top 57 = .ok (.ireturn, 1) := by decide +kernel
theorem dX11_top_31 : decode cX11_top 31 = .ok (.aload_n 0, 1) := by decide +kernel
theorem dX11_top_32 : decode cX11_top 32 = .ok (.getfield 47, 3) := by decide +kernel
theorem dX11_top_35 : decode cX11_top 35 = .ok (.iload_n 2, 1) := by decide +kernel
theorem dX11_top_36 : decode cX11_top 36 = .ok (.iaload, 1) := by decide +kernel
theorem dX11_top_37 : decode cX11_top 37 = .ok (.iconst (-1), 1) := by decide +kernel
theorem dX11_top_38 : decode cX11_top 38 = .ok (.if_icmp .ne 5, 3) := by decide +kernel
theorem dX11_top_43 : decode cX11_top 43 = .ok (.aload_n 0, 1) := by decide +kernel
theorem dX11_top_44 : decode cX11_top 44 = .ok (.getfield 47, 3) := by decide +kernel
theorem dX11_top_47 : decode cX11_top 47 = .ok (.iload_n 2, 1) := by decide +kernel
theorem dX11_top_48 : decode cX11_top 48 = .ok (.iaload, 1) := by decide +kernel
theorem dX11_top_49 : decode cX11_top 49 = .ok (.istore_n 2, 1) := by decide +kernel
theorem dX11_top_50 : decode cX11_top 50 = .ok (.iinc 3 1, 3) := by decide +kernel
theorem dX11_top_53 : decode cX11_top 53 = .ok (.goto (-28), 3) := by decide +kernel
theorem dX11_top_41 : decode cX11_top 41 = .ok (.iload_n 2, 1) := by decide +kernel
theorem dX11_top_42 : decode cX11_top 42 = .ok (.ireturn, 1) := by decide +kernel
theorem dX11_top_14 : decode cX11_top 14 = .ok (.bipush (-2), 2) := by decide +kernel
theorem dX11_top_16 : decode cX11_top 16 = .ok (.ireturn, 1) := by decide +kernel
theorem dX11_ringOf_0 : decode cX11_ringOf 0 = .ok (.iload_n 1, 1) := by decide +kernel
theorem dX11_ringOf_1 : decode cX11_ringOf 1 = .ok (.istore_n 2, 1) := by decide +kernel
theorem dX11_ringOf_2 : decode cX11_ringOf 2 = .ok (.iconst 1, 1) := by decide +kernel
theorem dX11_ringOf_3 : decode cX11_ringOf 3 = .ok (.istore_n 3, 1) := by decide +kernel
theorem dX11_ringOf_4 : decode cX11_ringOf 4 = .ok (.iload_n 3, 1) := by decide +kernel
theorem dX11_ringOf_5 : decode cX11_ringOf 5 = .ok (.bipush 8, 2) := by decide +kernel
theorem dX11_ringOf_7 : decode cX11_ringOf 7 = .ok (.if_icmp .gt 35, 3) := by decide +kernel
theorem dX11_ringOf_42 : decode cX11_ringOf 42 = .ok (.iconst 0, 1) := by decide +kernel
theorem dX11_ringOf_43 : decode cX11_ringOf 43 = .ok (.ireturn, 1) := by decide +kernel
theorem dX11_ringOf_10 : decode cX11_ringOf 10 = .ok (.aload_n 0, 1) := by decide +kernel
theorem dX11_ringOf_11 : decode cX11_ringOf 11 = .ok (.getfield 47, 3) := by decide +kernel
theorem dX11_ringOf_14 : decode cX11_ringOf 14 = .ok (.iload_n 2, 1) := by decide +kernel
theorem dX11_ringOf_15 : decode cX11_ringOf 15 = .ok (.iaload, 1) := by decide +kernel
theorem dX11_ringOf_16 : decode cX11_ringOf 16 = .ok (.iconst (-1), 1) := by decide +kernel
theorem dX11_ringOf_17 : decode cX11_ringOf 17 = .ok (.if_icmp .ne 5, 3) := by decide +kernel
theorem dX11_ringOf_22 : decode cX11_ringOf 22 = .ok (.aload_n 0, 1) := by decide +kernel
theorem dX11_ringOf_23 : decode cX11_ringOf 23 = .ok (.getfield 47, 3) := by decide +kernel
theorem dX11_ringOf_26 : decode cX11_ringOf 26 = .ok (.iload_n 2, 1) := by decide +kernel
theorem dX11_ringOf_27 : decode cX11_ringOf 27 = .ok (.iaload, 1) := by decide +kernel
theorem dX11_ringOf_28 : decode cX11_ringOf 28 = .ok (.istore_n 2, 1) := by decide +kernel
theorem dX11_ringOf_29 : decode cX11_ringOf 29 = .ok (.iload_n 2, 1) := by decide +kernel
theorem dX11_ringOf_30 : decode cX11_ringOf 30 = .ok (.iload_n 1, 1) := by decide +kernel
theorem dX11_ringOf_31 : decode cX11_ringOf 31 = .ok (.if_icmp .ne 5, 3) := by decide +kernel
theorem dX11_ringOf_36 : decode cX11_ringOf 36 = .ok (.iinc 3 1, 3) := by decide +kernel
theorem dX11_ringOf_39 : decode cX11_ringOf 39 = .ok (.goto (-35), 3) := by decide +kernel
theorem dX11_ringOf_34 : decode cX11_ringOf 34 = .ok (.iload_n 3, 1) := by decide +kernel
theorem dX11_ringOf_35 : decode cX11_ringOf 35 = .ok (.ireturn, 1) := by decide +kernel
theorem dX11_ringOf_20 : decode cX11_ringOf 20 = .ok (.iconst 0, 1) := by decide +kernel
theorem dX11_ringOf_21 : decode cX11_ringOf 21 = .ok (.ireturn, 1) := by decide +kernel
theorem dX11_ringsNow_0 : decode cX11_ringsNow 0 = .ok (.iconst 0, 1) := by decide +kernel
theorem dX11_ringsNow_1 : decode cX11_ringsNow 1 = .ok (.istore_n 1, 1) := by decide +kernel
theorem dX11_ringsNow_2 : decode cX11_ringsNow 2 = .ok (.iconst 0, 1) := by decide +kernel
theorem dX11_ringsNow_3 : decode cX11_ringsNow 3 = .ok (.istore_n 2, 1) := by decide +kernel
theorem dX11_ringsNow_4 : decode cX11_ringsNow 4 = .ok (.iload_n 2, 1) := by decide +kernel
theorem dX11_ringsNow_5 : decode cX11_ringsNow 5 = .ok (.aload_n 0, 1) := by decide +kernel
theorem dX11_ringsNow_6 : decode cX11_ringsNow 6 = .ok (.getfield 34, 3) := by decide +kernel
theorem dX11_ringsNow_9 : decode cX11_ringsNow 9 = .ok (.iconst 1, 1) := by decide +kernel
theorem dX11_ringsNow_10 : decode cX11_ringsNow 10 = .ok (.iaload, 1) := by decide +kernel
theorem dX11_ringsNow_11 : decode cX11_ringsNow 11 = .ok (.if_icmp .ge 84, 3) := by decide +kernel
theorem dX11_ringsNow_95 : decode cX11_ringsNow 95 = .ok (.iload_n 1, 1) := by decide +kernel
theorem dX11_ringsNow_96 : decode cX11_ringsNow 96 = .ok (.ireturn, 1) := by decide +kernel
theorem dX11_ringsNow_14 : decode cX11_ringsNow 14 = .ok (.aload_n 0, 1) := by decide +kernel
theorem dX11_ringsNow_15 : decode cX11_ringsNow 15 = .ok (.iload_n 2, 1) := by decide +kernel
set_option maxRecDepth 20000 in
theorem ggX11_ringsNow_X11_ringOf : GoodIn wsX11_ringsNow wsX11_ringOf := goodIn_r _ [7, 2, 8, 9, 10, 11, 12, 13, 14, 15, 16, 17, 18, 19, 20, 21, 22, 23, 24, 25, 26, 27, 28, 29, 30, 31, 32, 33, 34, 35, 36, 37, 38] (by rfl) (by decide +kernel)
set_option maxRecDepth 20000 in
theorem gX11_ringsNow_X11_ringOf : GoodIn wsX11_ringsNow (wsV RX11 272 RX11 yX11_ringOf wsX11_ringOf) := goodIn_app (goodIn_r _ [3, 4, 5, 6] (by rfl) (by decide +kernel)) ggX11_ringsNow_X11_ringOf
theorem dX11_ringsNow_16 : decode cX11_ringsNow 16 = .ok (.invokevirtual 272, 3) := by decide +kernel
theorem dX11_ringsNow_19 : decode cX11_ringsNow 19 = .ok (.istore_n 3, 1) := by decide +kernel
theorem dX11_ringsNow_20 : decode cX11_ringsNow 20 = .ok (.iload_n 3, 1) := by decide +kernel
theorem dX11_ringsNow_21 : decode cX11_ringsNow 21 = .ok (.ifCond .le 7, 3) := by decide +kernel
theorem dX11_ringsNow_28 : decode cX11_ringsNow 28 = .ok (.iconst 0, 1) := by decide +kernel
theorem dX11_ringsNow_29 : decode cX11_ringsNow 29 = .ok (.istore 4, 2) := by decide +kernel
theorem dX11_ringsNow_31 : decode cX11_ringsNow 31 = .ok (.iload_n 2, 1) := by decide +kernel
theorem dX11_ringsNow_32 : decode cX11_ringsNow 32 = .ok (.istore 5, 2) := by decide +kernel
theorem dX11_ringsNow_34 : decode cX11_ringsNow 34 = .ok (.iconst 0, 1) := by decide +kernel
theorem dX11_ringsNow_35 : decode cX11_ringsNow 35 = .ok (.istore 6, 2) := by decide +kernel
theorem dX11_ringsNow_37 : decode cX11_ringsNow 37 = .ok (.iload 6, 2) := by decide +kernel
theorem dX11_ringsNow_39 : decode cX11_ringsNow 39 = .ok (.iload_n 3, 1) := by decide +kernel
theorem dX11_ringsNow_76 : decode cX11_ringsNow 76 = .ok (.iload_n 1, 1) := by decide +kernel
theorem dX11_ringsNow_77 : decode cX11_ringsNow 77 = .ok (.iload 4, 2) := by decide +kernel
theorem dX11_ringsNow_87 : decode cX11_ringsNow 87 = .ok (.iadd, 1) := by decide +kernel
theorem dX11_ringsNow_88 : decode cX11_ringsNow 88 = .ok (.istore_n 1, 1) := by decide +kernel
theorem dX11_ringsNow_89 : decode cX11_ringsNow 89 = .ok (.iinc 2 1, 3) := by decide +kernel
theorem dX11_ringsNow_92 : decode cX11_ringsNow 92 = .ok (.goto (-88), 3) := by decide +kernel
theorem dX11_ringsNow_79 : decode cX11_ringsNow 79 = .ok (.ifCond .eq 7, 3) := by decide +kernel
theorem dX11_ringsNow_86 : decode cX11_ringsNow 86 = .ok (.iconst 0, 1) := by decide +kernel
theorem dX11_ringsNow_82 : decode cX11_ringsNow 82 = .ok (.iconst 1, 1) := by decide +kernel
theorem dX11_ringsNow_83 : decode cX11_ringsNow 83 = .ok (.goto 4, 3) := by decide +kernel
theorem dX11_ringsNow_40 : decode cX11_ringsNow 40 = .ok (.if_icmp .ge 36, 3) := by decide +kernel
theorem dX11_ringsNow_24 : decode cX11_ringsNow 24 = .ok (.iconst 1, 1) := by decide +kernel
theorem dX11_ringsNow_25 : decode cX11_ringsNow 25 = .ok (.goto 4, 3) := by decide +kernel
theorem dX11_ringsNow_43 : decode cX11_ringsNow 43 = .ok (.iload 4, 2) := by decide +kernel
theorem dX11_ringsNow_45 : decode cX11_ringsNow 45 = .ok (.ifCond .eq 31, 3) := by decide +kernel
theorem dX11_ringsNow_48 : decode cX11_ringsNow 48 = .ok (.aload_n 0, 1) := by decide +kernel
theorem dX11_ringsNow_49 : decode cX11_ringsNow 49 = .ok (.getfield 47, 3) := by decide +kernel
theorem dX11_ringsNow_52 : decode cX11_ringsNow 52 = .ok (.iload 5, 2) := by decide +kernel
theorem dX11_ringsNow_54 : decode cX11_ringsNow 54 = .ok (.iaload, 1) := by decide +kernel
theorem dX11_ringsNow_55 : decode cX11_ringsNow 55 = .ok (.istore 5, 2) := by decide +kernel
theorem dX11_ringsNow_57 : decode cX11_ringsNow 57 = .ok (.iload 5, 2) := by decide +kernel
theorem dX11_ringsNow_59 : decode cX11_ringsNow 59 = .ok (.iload_n 2, 1) := by decide +kernel
theorem dX11_ringsNow_60 : decode cX11_ringsNow 60 = .ok (.if_icmp .lt 7, 3) := by decide +kernel
theorem dX11_ringsNow_67 : decode cX11_ringsNow 67 = .ok (.iconst 0, 1) := by decide +kernel
theorem dX11_ringsNow_68 : decode cX11_ringsNow 68 = .ok (.istore 4, 2) := by decide +kernel
theorem dX11_ringsNow_70 : decode cX11_ringsNow 70 = .ok (.iinc 6 1, 3) := by decide +kernel
theorem dX11_ringsNow_73 : decode cX11_ringsNow 73 = .ok (.goto (-36), 3) := by decide +kernel
theorem dX11_ringsNow_63 : decode cX11_ringsNow 63 = .ok (.iconst 1, 1) := by decide +kernel
theorem dX11_ringsNow_64 : decode cX11_ringsNow 64 = .ok (.goto 4, 3) := by decide +kernel
theorem dX11_ring_0 : decode cX11_ring 0 = .ok (.aload_n 0, 1) := by decide +kernel
theorem dX11_ring_1 : decode cX11_ring 1 = .ok (.iconst 0, 1) := by decide +kernel
theorem dX11_ring_2 : decode cX11_ring 2 = .ok (.putfield 59, 3) := by decide +kernel
theorem dX11_ring_5 : decode cX11_ring 5 = .ok (.aload_n 0, 1) := by decide +kernel
theorem dX11_ring_6 : decode cX11_ring 6 = .ok (.iload_n 1, 1) := by decide +kernel
theorem dX11_ring_7 : decode cX11_ring 7 = .ok (.i2l, 1) := by decide +kernel
set_option maxRecDepth 20000 in
theorem ggX11_ring_X11_isPerson : GoodIn wsX11_ring wsX11_isPerson := goodIn_r _ [6, 7, 8, 9, 5, 10, 55, 56, 57, 58, 59, 60, 61, 62, 63, 64, 65, 66, 67, 68, 69, 70, 71, 72, 73, 74, 75, 76, 77, 78, 79, 80, 81, 82, 83, 84, 85] (by rfl) (by decide +kernel)
set_option maxRecDepth 20000 in
theorem gX11_ring_X11_isPerson : GoodIn wsX11_ring (wsV RX11 206 RX11 yX11_isPerson wsX11_isPerson) := goodIn_app (goodIn_r _ [2, 3, 4, 5] (by rfl) (by decide +kernel)) ggX11_ring_X11_isPerson
theorem dX11_ring_8 : decode cX11_ring 8 = .ok (.invokevirtual 206, 3) := by decide +kernel
theorem dX11_ring_11 : decode cX11_ring 11 = .ok (.ifCond .ne 6, 3) := by decide +kernel
theorem dX11_ring_17 : decode cX11_ring 17 = .ok (.aload_n 0, 1) := by decide +kernel
set_option maxRecDepth 20000 in
theorem ggX11_ring_X11_laysNow : GoodIn wsX11_ring wsX11_laysNow := goodIn_r _ [14, 7, 15, 16, 17, 18, 5, 19, 20, 21, 22, 23, 24, 25, 26, 27, 28, 29, 30, 31, 32, 33, 34, 35, 36, 37, 38, 39, 40, 41, 42, 43, 44, 45, 46, 47, 48, 49, 50, 55, 56, 57, 58, 59, 60, 61, 62, 63, 64, 65, 66, 67, 68, 69, 70, 71, 72, 73, 74, 75, 76, 77, 78, 79, 80, 81, 82, 83, 84, 85] (by rfl) (by decide +kernel)
set_option maxRecDepth 20000 in
theorem gX11_ring_X11_laysNow : GoodIn wsX11_ring (wsV RX11 251 RX11 yX11_laysNow wsX11_laysNow) := goodIn_app (goodIn_r _ [11, 12, 13, 5] (by rfl) (by decide +kernel)) ggX11_ring_X11_laysNow
theorem dX11_ring_18 : decode cX11_ring 18 = .ok (.invokevirtual 251, 3) := by decide +kernel
theorem dX11_ring_21 : decode cX11_ring 21 = .ok (.aload_n 0, 1) := by decide +kernel
theorem dX11_ring_22 : decode cX11_ring 22 = .ok (.iload_n 1, 1) := by decide +kernel
set_option maxRecDepth 20000 in
theorem ggX11_ring_X11_ringOf : GoodIn wsX11_ring wsX11_ringOf := goodIn_r _ [54, 20, 55, 56, 57, 58, 59, 60, 61, 62, 63, 64, 65, 66, 67, 68, 69, 70, 71, 72, 73, 74, 75, 76, 77, 78, 79, 80, 81, 82, 83, 84, 85] (by rfl) (by decide +kernel)
set_option maxRecDepth 20000 in
theorem gX11_ring_X11_ringOf : GoodIn wsX11_ring (wsV RX11 272 RX11 yX11_ringOf wsX11_ringOf) := goodIn_app (goodIn_r _ [51, 52, 53, 5] (by rfl) (by decide +kernel)) ggX11_ring_X11_ringOf
theorem dX11_ring_23 : decode cX11_ring 23 = .ok (.invokevirtual 272, 3) := by decide +kernel
theorem dX11_ring_26 : decode cX11_ring 26 = .ok (.ireturn, 1) := by decide +kernel
theorem dX11_ring_14 : decode cX11_ring 14 = .ok (.bipush (-2), 2) := by decide +kernel
theorem dX11_ring_16 : decode cX11_ring 16 = .ok (.ireturn, 1) := by decide +kernel
theorem dX11_rings_0 : decode cX11_rings 0 = .ok (.aload_n 0, 1) := by decide +kernel
theorem dX11_rings_1 : decode cX11_rings 1 = .ok (.iconst 0, 1) := by decide +kernel
theorem dX11_rings_2 : decode cX11_rings 2 = .ok (.putfield 59, 3) := by decide +kernel
theorem dX11_rings_5 : decode cX11_rings 5 = .ok (.aload_n 0, 1) := by decide +kernel
set_option maxRecDepth 20000 in
theorem ggX11_rings_X11_isCity : GoodIn wsX11_rings wsX11_isCity := goodIn_r _ [6, 7, 57, 58, 59, 60, 61, 62, 63, 64, 65, 66, 67, 68, 69, 70, 71, 72, 73, 74, 75, 76, 77, 78, 79, 80, 81, 82, 83, 84, 85, 86, 87] (by rfl) (by decide +kernel)
set_option maxRecDepth 20000 in
theorem gX11_rings_X11_isCity : GoodIn wsX11_rings (wsV RX11 209 RX11 yX11_isCity wsX11_isCity) := goodIn_app (goodIn_r _ [2, 3, 4, 5] (by rfl) (by decide +kernel)) ggX11_rings_X11_isCity
theorem dX11_rings_6 : decode cX11_rings 6 = .ok (.invokevirtual 209, 3) := by decide +kernel
theorem dX11_rings_9 : decode cX11_rings 9 = .ok (.ifCond .ne 6, 3) := by decide +kernel
theorem dX11_rings_15 : decode cX11_rings 15 = .ok (.aload_n 0, 1) := by decide +kernel
set_option maxRecDepth 20000 in
theorem ggX11_rings_X11_laysNow : GoodIn wsX11_rings wsX11_laysNow := goodIn_r _ [11, 12, 13, 14, 15, 16, 5, 17, 18, 19, 20, 21, 22, 23, 24, 25, 26, 27, 28, 29, 30, 31, 32, 33, 34, 35, 36, 37, 38, 39, 40, 41, 42, 43, 44, 45, 46, 47, 48, 57, 58, 59, 60, 61, 62, 63, 64, 65, 66, 67, 68, 69, 70, 71, 72, 73, 74, 75, 76, 77, 78, 79, 80, 81, 82, 83, 84, 85, 86, 87] (by rfl) (by decide +kernel)
set_option maxRecDepth 20000 in
theorem gX11_rings_X11_laysNow : GoodIn wsX11_rings (wsV RX11 251 RX11 yX11_laysNow wsX11_laysNow) := goodIn_app (goodIn_r _ [8, 9, 10, 5] (by rfl) (by decide +kernel)) ggX11_rings_X11_laysNow
theorem dX11_rings_16 : decode cX11_rings 16 = .ok (.invokevirtual 251, 3) := by decide +kernel
theorem dX11_rings_19 : decode cX11_rings 19 = .ok (.aload_n 0, 1) := by decide +kernel
set_option maxRecDepth 20000 in
theorem ggX11_rings_X11_ringsNow : GoodIn wsX11_rings wsX11_ringsNow := goodIn_r _ [52, 12, 18, 53, 54, 55, 5, 56, 57, 58, 59, 60, 61, 62, 63, 64, 65, 66, 67, 68, 69, 70, 71, 72, 73, 74, 75, 76, 77, 78, 79, 80, 81, 82, 83, 84, 85, 86, 87] (by rfl) (by decide +kernel)
set_option maxRecDepth 20000 in
theorem gX11_rings_X11_ringsNow : GoodIn wsX11_rings (wsV RX11 275 RX11 yX11_ringsNow wsX11_ringsNow) := goodIn_app (goodIn_r _ [49, 50, 51, 5] (by rfl) (by decide +kernel)) ggX11_rings_X11_ringsNow
theorem dX11_rings_20 : decode cX11_rings 20 = .ok (.invokevirtual 275, 3) := by decide +kernel
theorem dX11_rings_23 : decode cX11_rings 23 = .ok (.ireturn, 1) := by decide +kernel
theorem dX11_rings_12 : decode cX11_rings 12 = .ok (.bipush (-2), 2) := by decide +kernel
theorem dX11_rings_14 : decode cX11_rings 14 = .ok (.ireturn, 1) := by decide +kernel
theorem dX11_doerOf_0 : decode cX11_doerOf 0 = .ok (.iconst (-1), 1) := by decide +kernel
theorem dX11_doerOf_1 : decode cX11_doerOf 1 = .ok (.istore_n 3, 1) := by decide +kernel
theorem dX11_doerOf_2 : decode cX11_doerOf 2 = .ok (.iconst 0, 1) := by decide +kernel
theorem dX11_doerOf_3 : decode cX11_doerOf 3 = .ok (.istore 4, 2) := by decide +kernel
theorem dX11_doerOf_5 : decode cX11_doerOf 5 = .ok (.iload 4, 2) := by decide +kernel
theorem dX11_doerOf_7 : decode cX11_doerOf 7 = .ok (.aload_n 0, 1) := by decide +kernel
theorem dX11_doerOf_8 : decode cX11_doerOf 8 = .ok (.getfield 34, 3) := by decide +kernel
theorem dX11_doerOf_11 : decode cX11_doerOf 11 = .ok (.iconst 1, 1) := by decide +kernel
theorem dX11_doerOf_12 : decode cX11_doerOf 12 = .ok (.iaload, 1) := by decide +kernel
theorem dX11_doerOf_13 : decode cX11_doerOf 13 = .ok (.if_icmp .ge 57, 3) := by decide +kernel
theorem dX11_doerOf_70 : decode cX11_doerOf 70 = .ok (.iload_n 3, 1) := by decide +kernel
theorem dX11_doerOf_71 : decode cX11_doerOf 71 = .ok (.ireturn, 1) := by decide +kernel
theorem dX11_doerOf_16 : decode cX11_doerOf 16 = .ok (.aload_n 0, 1) := by decide +kernel
theorem dX11_doerOf_17 : decode cX11_doerOf 17 = .ok (.iload_n 1, 1) := by decide +kernel
theorem dX11_doerOf_18 : decode cX11_doerOf 18 = .ok (.iload 4, 2) := by decide +kernel
set_option maxRecDepth 20000 in
theorem ggX11_doerOf_X11_timeOf : GoodIn wsX11_doerOf wsX11_timeOf := goodIn_r _ [6, 7, 8, 9, 10, 5, 11, 12, 16, 17, 18, 19, 20, 21, 22, 23, 24, 25, 26, 27, 28, 29, 30, 31, 32, 33, 34, 35, 36, 37, 38, 39, 40, 41, 42, 43, 44, 45, 46] (by rfl) (by decide +kernel)
set_option maxRecDepth 20000 in
theorem gX11_doerOf_X11_timeOf : GoodIn wsX11_doerOf (wsV RX11 269 RX11 yX11_timeOf wsX11_timeOf) := goodIn_app (goodIn_r _ [2, 3, 4, 5] (by rfl) (by decide +kernel)) ggX11_doerOf_X11_timeOf
theorem dX11_doerOf_20 : decode cX11_doerOf 20 = .ok (.invokevirtual 269, 3) := by decide +kernel
theorem dX11_doerOf_23 : decode cX11_doerOf 23 = .ok (.istore 5, 2) := by decide +kernel
theorem dX11_doerOf_25 : decode cX11_doerOf 25 = .ok (.aload_n 0, 1) := by decide +kernel
theorem dX11_doerOf_26 : decode cX11_doerOf 26 = .ok (.iload 4, 2) := by decide +kernel
theorem dX11_doerOf_28 : decode cX11_doerOf 28 = .ok (.iconst 1, 1) := by decide +kernel
set_option maxRecDepth 20000 in
theorem ggX11_doerOf_X11_of : GoodIn wsX11_doerOf wsX11_of := goodIn_r _ [11, 12, 16, 17, 18, 19, 20, 21, 22, 23, 24, 25, 26, 27, 28, 29, 30, 31, 32, 33, 34, 35, 36, 37, 38, 39, 40, 41, 42, 43, 44, 45, 46] (by rfl) (by decide +kernel)
set_option maxRecDepth 20000 in
theorem gX11_doerOf_X11_of : GoodIn wsX11_doerOf (wsV RX11 214 RX11 yX11_of wsX11_of) := goodIn_app (goodIn_r _ [8, 9, 10, 5] (by rfl) (by decide +kernel)) ggX11_doerOf_X11_of
theorem dX11_doerOf_29 : decode cX11_doerOf 29 = .ok (.invokevirtual 214, 3) := by decide +kernel
theorem dX11_doerOf_32 : decode cX11_doerOf 32 = .ok (.iload_n 2, 1) := by decide +kernel
set_option maxRecDepth 20000 in
theorem ggX11_doerOf_X11_isBit : GoodIn wsX11_doerOf wsX11_isBit := goodIn_r _ [15] (by rfl) (by decide +kernel)
set_option maxRecDepth 20000 in
theorem gX11_doerOf_X11_isBit : GoodIn wsX11_doerOf (va_wsS RX11 239 yX11_isBit wsX11_isBit) := goodIn_app (goodIn_r _ [13, 14, 5] (by rfl) (by decide +kernel)) ggX11_doerOf_X11_isBit
theorem dX11_doerOf_33 : decode cX11_doerOf 33 = .ok (.invokestatic 239, 3) := by decide +kernel
theorem dX11_doerOf_36 : decode cX11_doerOf 36 = .ok (.ifCond .eq 28, 3) := by decide +kernel
theorem dX11_doerOf_64 : decode cX11_doerOf 64 = .ok (.iinc 4 1, 3) := by decide +kernel
theorem dX11_doerOf_67 : decode cX11_doerOf 67 = .ok (.goto (-62), 3) := by decide +kernel
theorem dX11_doerOf_39 : decode cX11_doerOf 39 = .ok (.iload 5, 2) := by decide +kernel
theorem dX11_doerOf_41 : decode cX11_doerOf 41 = .ok (.iconst (-1), 1) := by decide +kernel
theorem dX11_doerOf_42 : decode cX11_doerOf 42 = .ok (.if_icmp .eq 22, 3) := by decide +kernel
theorem dX11_doerOf_45 : decode cX11_doerOf 45 = .ok (.iload_n 3, 1) := by decide +kernel
theorem dX11_doerOf_46 : decode cX11_doerOf 46 = .ok (.iconst (-1), 1) := by decide +kernel
theorem dX11_doerOf_47 : decode cX11_doerOf 47 = .ok (.if_icmp .eq 14, 3) := by decide +kernel
theorem dX11_doerOf_61 : decode cX11_doerOf 61 = .ok (.iload 4, 2) := by decide +kernel
theorem dX11_doerOf_63 : decode cX11_doerOf 63 = .ok (.istore_n 3, 1) := by decide +kernel
theorem dX11_doerOf_50 : decode cX11_doerOf 50 = .ok (.iload 5, 2) := by decide +kernel
theorem dX11_doerOf_52 : decode cX11_doerOf 52 = .ok (.aload_n 0, 1) := by decide +kernel
theorem dX11_doerOf_53 : decode cX11_doerOf 53 = .ok (.iload_n 1, 1) := by decide +kernel
theorem dX11_doerOf_54 : decode cX11_doerOf 54 = .ok (.iload_n 3, 1) := by decide +kernel
theorem dX11_doerOf_55 : decode cX11_doerOf 55 = .ok (.invokevirtual 269, 3) := by decide +kernel
theorem dX11_doerOf_58 : decode cX11_doerOf 58 = .ok (.if_icmp .ge 6, 3) := by decide +kernel
set_option maxHeartbeats 4000000 in
set_option maxRecDepth 100000 in
theorem a_X11_under (l : Launch) (G : va_G) (ct : Nat → ClassId) (a0 : Nat) (n0_0 : Int32) (a1 : Nat) (a2 : Nat) (a3 : Nat) (a4 : Nat) (a5 : Nat) (n0_6 : Int32) (n0_7 : Int32) (n0_8 : Int32) (n0_9 : Int32) (n0_10 : Int32) (l0_11 : Int64) (n0_12 : Int32) (n0_13 : Int32) (n0_14 : Int32) (n0_15 : Int32) (a6 : Nat) (a7 : Nat) (a8 : Nat) (a9 : Nat) (a10 : Nat) (a11 : Nat) (a12 : Nat) (a13 : Nat) (n0_24 : Int32) (n0_25 : Int32) (n0_26 : Int32) (n0_27 : Int32) (a14 : Nat) (n0_29 : Int32) (n0_30 : Int32) (f7 : Nat → Int32) (f8 : Nat → Int32) (f9 : Nat → Int32) (f11 : Nat → Int32) (f12 : Nat → Int32) (f13 : Nat → Int32) (p0 : Int32) (hp_n0_6 : rg 0 900 n0_6) (hp_f7 : hsI f7) (hp_f8 : psI f8) (hp_f9 : ar 0 7 f9) (hp_f11 : ar (-1) 7 f11) (hp_f13 : ar (-1) 7 f13) : Met l yX11_under wsX11_under ({ frames := 5, cells := 0, slots := 0, locals := 111 }) (va_Pc [.ref a0, .int p0] (wrP G ct [(a0, .inr (11, [.int n0_0, .ref a1, .ref a2, .ref a3, .ref a4, .ref a5, .int n0_6, .int n0_7, .int n0_8, .int n0_9, .int n0_10, .long l0_11, .int n0_12, .int n0_13, .int n0_14, .int n0_15, .ref a6, .ref a7, .ref a8, .ref a9, .ref a10, .ref a11, .ref a12, .ref a13, .int n0_24, .int n0_25, .int n0_26, .int n0_27, .ref a14, .int n0_29, .int n0_30])), (a7, .inl (ct 0, 15, .inl f7)), (a8, .inl (ct 0, 200, .inl f8)), (a9, .inl (ct 0, 1000, .inl f9)), (a11, .inl (ct 0, 8, .inl f11)), (a12, .inl (ct 0, 8, .inl f12)), (a13, .inl (ct 0, 8, .inl f13))])) (va_Qi (fun (r : Int32) (u : SU) => rg (-2) 255 r ∧ (r = 0 → rg 0 7 p0) ∧ (¬ r = (-2) → rg 0 7 p0) ∧ ar (-1) 7 (u.2.1 0) ∧ ar (-1) 7 (u.2.1 2) ∧ rg 0 0 (u.1 0) ∧ True) (fun u t => va_P G vwCl ((fun u : SU => [(a0, .inr (11, [.int (u.1 0), .ref a1, .ref a2, .ref a3, .ref a4, .ref a5, .int n0_6, .int n0_7, .int n0_8, .int n0_9, .int n0_10, .long l0_11, .int n0_12, .int n0_13, .int n0_14, .int n0_15, .ref a6, .ref a7, .ref a8, .ref a9, .ref a10, .ref a11, .ref a12, .ref a13, .int (u.1 1), .int (u.1 2), .int (u.1 3), .int (u.1 4), .ref a14, .int n0_29, .int n0_30])), (a7, .inl (ct 0, 15, .inl f7)), (a8, .inl (ct 0, 200, .inl f8)), (a9, .inl (ct 0, 1000, .inl f9)), (a11, .inl (ct 0, 8, .inl (u.2.1 0))), (a12, .inl (ct 0, 8, .inl (u.2.1 1))), (a13, .inl (ct 0, 8, .inl (u.2.1 2)))]) u) t.heap) (aset [(a0, .inr (11, [.int n0_0, .ref a1, .ref a2, .ref a3, .ref a4, .ref a5, .int n0_6, .int n0_7, .int n0_8, .int n0_9, .int n0_10, .long l0_11, .int n0_12, .int n0_13, .int n0_14, .int n0_15, .ref a6, .ref a7, .ref a8, .ref a9, .ref a10, .ref a11, .ref a12, .ref a13, .int n0_24, .int n0_25, .int n0_26, .int n0_27, .ref a14, .int n0_29, .int n0_30])), (a7, .inl (ct 0, 15, .inl f7)), (a8, .inl (ct 0, 200, .inl f8)), (a9, .inl (ct 0, 1000, .inl f9)), (a11, .inl (ct 0, 8, .inl f11)), (a12, .inl (ct 0, 8, .inl f12)), (a13, .inl (ct 0, 8, .inl f13))])) 0 0 (aset [(a0, .inr (11, [.int n0_0, .ref a1, .ref a2, .ref a3, .ref a4, .ref a5, .int n0_6, .int n0_7, .int n0_8, .int n0_9, .int n0_10, .long l0_11, .int n0_12, .int n0_13, .int n0_14, .int n0_15, .ref a6, .ref a7, .ref a8, .ref a9, .ref a10, .ref a11, .ref a12, .ref a13, .int n0_24, .int n0_25, .int n0_26, .int n0_27, .ref a14, .int n0_29, .int n0_30])), (a7, .inl (ct 0, 15, .inl f7)), (a8, .inl (ct 0, 200, .inl f8)), (a9, .inl (ct 0, 1000, .inl f9)), (a11, .inl (ct 0, 8, .inl f11)), (a12, .inl (ct 0, 8, .inl f12)), (a13, .inl (ct 0, 8, .inl f13))]) := by
  refine Met.ofW (cc := cX11_under) (maxL := 2) (ret := (some .int)) (by decide) rfl ?_
  intro p e s m args below meth c s₁ B hml hv
  obtain ⟨rfl, hP, hK, hD0⟩ := hv
  have hx := B.exec
  have hb := B.bytes
  have hr := B.returns
  have hts := atoms_spec (ws := wsX11_under) B.pre
  have hown : s.vm.findClass RX11 = some m.cls := findClass_of_methodNamed B.named
  have hlocks := B.notSynchronized
  have hD := hD0.aself
  generalize hAe : aset [(a0, .inr (11, [.int n0_0, .ref a1, .ref a2, .ref a3, .ref a4, .ref a5, .int n0_6, .int n0_7, .int n0_8, .int n0_9, .int n0_10, .long l0_11, .int n0_12, .int n0_13, .int n0_14, .int n0_15, .ref a6, .ref a7, .ref a8, .ref a9, .ref a10, .ref a11, .ref a12, .ref a13, .int n0_24, .int n0_25, .int n0_26, .int n0_27, .ref a14, .int n0_29, .int n0_30])), (a7, .inl (ct 0, 15, .inl f7)), (a8, .inl (ct 0, 200, .inl f8)), (a9, .inl (ct 0, 1000, .inl f9)), (a11, .inl (ct 0, 8, .inl f11)), (a12, .inl (ct 0, 8, .inl f12)), (a13, .inl (ct 0, 8, .inl f13))] = A at hD ⊢
  have hS : va_S A s.heap s.heap [] := va_S.rf
  have hl := lv_entry ([.ref a0, .int p0]) (n := 2) (Nat.le_of_ble_eq_true rfl)
  rw [lg_entry_eq]
  generalize (lg_sl ([.ref a0, .int p0]) ++ List.replicate (2 - (lg_sl ([.ref a0, .int p0])).length) Slot.unset).toArray = ls at hl ⊢
  have hl : lv_has ls 2 [(0, .ref a0), (1, .int p0)] := hl
  refine lv_aload_n hx hb dX11_under_0 rfl (lv_at hl 0 rfl) ?_
  refine lv_iconst (v := 0) hx hb dX11_under_1 (by decide) ?_
  refine va_put (D := G) (ci := 11) (v := .int 0) (ty := .int) (C := RX11) (T := TX11) (N := 31) hx hb hts (by decide +kernel) tyX11 tyX11_ok nmX11 hown hK.1 hP hD hS 0 rfl rfl 0 (by decide) (hts (.fieldLink RX11 59 "CardHolderModel" "thrown" "I") (by decide +kernel)) (fun _ h9 => h9) rfl (by decide +kernel) rfl rfl (Nat.le_of_ble_eq_true rfl) dX11_under_2 (fun H locs hP hD hS => ?_)
  refine lv_aload_n hx hb dX11_under_5 rfl (lv_at hl 0 rfl) ?_
  refine lv_iload_n hx hb dX11_under_6 rfl (lv_at hl 1 rfl) ?_
  refine lv_i2l hx hb dX11_under_7 rfl ?_
  refine nl_i2l (rg_t p0) (fun z7 hz7 ez7 => ?_)
  refine ro_calli (va_runV (As := [.long z7]) (rest := []) ⟨hx, hb, hml, hown, hts⟩ (a_X11_isPerson l G ct a0 (0 : Int32) a1 a2 a3 a4 a5 n0_6 n0_7 n0_8 n0_9 n0_10 l0_11 n0_12 n0_13 n0_14 n0_15 a6 a7 a8 a9 a10 a11 a12 a13 n0_24 n0_25 n0_26 n0_27 a14 n0_29 n0_30 f7 z7 hp_n0_6 hp_f7) (cwV 1 hts gX11_under_X11_isPerson rfl rfl rfl (by decide +kernel) ⟨Nat.le_of_ble_eq_true rfl, Nat.le_of_ble_eq_true rfl⟩) (ro_preV 11 0 hK (hP.sub [0, 1] rfl) rfl rfl) rfl rfl hl.1 rfl (lv_room (Nat.le_of_ble_eq_true rfl)) dX11_under_8 ⟨Nat.zero_le _, Nat.zero_le _⟩) hS hP (fun r8 H locs wr8 hP hS => ?_)
  obtain ⟨p_1, p_2, -⟩ := wr8
  refine lv_if_ne (tgt := 17) hx hb dX11_under_11 (by decide) (fun c11 => ?_) (fun c11 => ?_)
  · have h_3 : rg 1 1 r8 := r_ne_lo_i c11 p_1 (by decide) (by decide)
    have h_4 : rl 0 7 z7 := (p_2 (rne h_3 (y := 0) (c := 0) (by decide) (by decide)))
    have h_5 : rg 0 7 p0 := bk_li (a := 0) (b := 7) ez7 h_4 (rg_t p0) (by decide)
    refine lv_aload_n hx hb dX11_under_17 rfl (lv_at hl 0 rfl) ?_
    refine wj_callv (wr := []) (w1 := (fun u : SU => [(a0, .inr (11, [.int 0, .ref a1, .ref a2, .ref a3, .ref a4, .ref a5, .int n0_6, .int n0_7, .int n0_8, .int n0_9, .int n0_10, .long l0_11, .int n0_12, .int n0_13, .int n0_14, .int n0_15, .ref a6, .ref a7, .ref a8, .ref a9, .ref a10, .ref a11, .ref a12, .ref a13, .int (u.1 0), .int (u.1 1), .int (u.1 2), .int (u.1 3), .ref a14, .int n0_29, .int n0_30])), (a7, .inl (ct 0, 15, .inl f7)), (a8, .inl (ct 0, 200, .inl f8)), (a9, .inl (ct 0, 1000, .inl f9)), (a11, .inl (ct 0, 8, .inl (u.2.1 0))), (a12, .inl (ct 0, 8, .inl (u.2.1 1))), (a13, .inl (ct 0, 8, .inl (u.2.1 2)))])) (va_runV (As := []) (rest := []) ⟨hx, hb, hml, hown, hts⟩ (a_X11_laysNow l G ct a0 (0 : Int32) a1 a2 a3 a4 a5 n0_6 n0_7 n0_8 n0_9 n0_10 l0_11 n0_12 n0_13 n0_14 n0_15 a6 a7 a8 a9 a10 a11 a12 a13 n0_24 n0_25 n0_26 n0_27 a14 n0_29 n0_30 f7 f8 f9 f11 f12 f13 hp_n0_6 hp_f7 hp_f8 hp_f9 hp_f11 hp_f13) (cwV 0 hts gX11_under_X11_laysNow rfl rfl rfl (by decide +kernel) ⟨Nat.le_of_ble_eq_true rfl, Nat.le_of_ble_eq_true rfl⟩) (wr_preV 11 0 hK (hP.sub [0, 1, 2, 3, 4, 5, 6] rfl) (hD.sub [0, 1, 2, 3, 4, 5, 6] (by decide) rfl) rfl rfl) rfl rfl hl.1 rfl (lv_room (Nat.le_of_ble_eq_true rfl)) dX11_under_18 ⟨Nat.zero_le _, Nat.zero_le _⟩) hS hP hD [0, 1, 2, 3, 4, 5, 6] [] rfl rfl (by decide) (fun _ => rfl) (fun ur18 H locs wr18 hP hD hS => ?_)
    have hP : va_P G vwCl [(a0, .inr (11, [.int 0, .ref a1, .ref a2, .ref a3, .ref a4, .ref a5, .int n0_6, .int n0_7, .int n0_8, .int n0_9, .int n0_10, .long l0_11, .int n0_12, .int n0_13, .int n0_14, .int n0_15, .ref a6, .ref a7, .ref a8, .ref a9, .ref a10, .ref a11, .ref a12, .ref a13, .int (ur18.1 0), .int (ur18.1 1), .int (ur18.1 2), .int (ur18.1 3), .ref a14, .int n0_29, .int n0_30])), (a7, .inl (ct 0, 15, .inl f7)), (a8, .inl (ct 0, 200, .inl f8)), (a9, .inl (ct 0, 1000, .inl f9)), (a11, .inl (ct 0, 8, .inl (ur18.2.1 0))), (a12, .inl (ct 0, 8, .inl (ur18.2.1 1))), (a13, .inl (ct 0, 8, .inl (ur18.2.1 2)))] H := hP.sub [0, 1, 2, 3, 4, 5, 6] rfl
    have hD : va_D A [(a0, .inr (11, [.int 0, .ref a1, .ref a2, .ref a3, .ref a4, .ref a5, .int n0_6, .int n0_7, .int n0_8, .int n0_9, .int n0_10, .long l0_11, .int n0_12, .int n0_13, .int n0_14, .int n0_15, .ref a6, .ref a7, .ref a8, .ref a9, .ref a10, .ref a11, .ref a12, .ref a13, .int (ur18.1 0), .int (ur18.1 1), .int (ur18.1 2), .int (ur18.1 3), .ref a14, .int n0_29, .int n0_30])), (a7, .inl (ct 0, 15, .inl f7)), (a8, .inl (ct 0, 200, .inl f8)), (a9, .inl (ct 0, 1000, .inl f9)), (a11, .inl (ct 0, 8, .inl (ur18.2.1 0))), (a12, .inl (ct 0, 8, .inl (ur18.2.1 1))), (a13, .inl (ct 0, 8, .inl (ur18.2.1 2)))] := hD.sub [0, 1, 2, 3, 4, 5, 6] (by decide) rfl
    obtain ⟨p_6, p_7, -⟩ := wr18
    refine lv_aload_n hx hb dX11_under_21 rfl (lv_at hl 0 rfl) ?_
    refine lv_iload_n hx hb dX11_under_22 rfl (lv_at hl 1 rfl) ?_
    refine ro_calli (va_runV (As := [.int p0]) (rest := []) ⟨hx, hb, hml, hown, hts⟩ (a_X11_underOf l G ct a0 (0 : Int32) a1 a2 a3 a4 a5 n0_6 n0_7 n0_8 n0_9 n0_10 l0_11 n0_12 n0_13 n0_14 n0_15 a6 a7 a8 a9 a10 a11 a12 a13 (ur18.1 0) (ur18.1 1) (ur18.1 2) (ur18.1 3) a14 n0_29 n0_30 f7 (ur18.2.1 0) p0 hp_n0_6 hp_f7 p_6) (cwV 1 hts gX11_under_X11_underOf rfl rfl rfl (by decide +kernel) ⟨Nat.le_of_ble_eq_true rfl, Nat.le_of_ble_eq_true rfl⟩) (ro_preV 11 0 hK (hP.sub [0, 1, 4] rfl) rfl rfl) rfl rfl hl.1 rfl (lv_room (Nat.le_of_ble_eq_true rfl)) dX11_under_23 ⟨Nat.zero_le _, Nat.zero_le _⟩) hS hP (fun r23 H locs wr23 hP hS => ?_)
    obtain ⟨p_8, -⟩ := wr23
    exact W.iret (v := r23) hx hb hr (fun t ht hW => ⟨⟨r23, (fun k => ([0, ur18.1 0, ur18.1 1, ur18.1 2, ur18.1 3] : List Int32).getD k 0, fun k => ([ur18.2.1 0, ur18.2.1 1, ur18.2.1 2] : List (Nat → Int32)).getD k (fun _ => 0), fun k => ([] : List (Nat → Int64)).getD k (fun _ => 0)), rfl, ⟨(rg_w (c := (-2)) (d := 255) p_8 (by decide)), (fun _ => h_5), (fun _ => h_5), p_6, p_7, (rgn 0 (x := 0) (by decide)), trivial⟩, hp_at ht hP⟩, hS.F ht⟩) hS.2.2 dX11_under_26
  · have h_9 : rg 0 0 r8 := r_eq_l_i (e := 0) (f := 0) c11 p_1 (rgn 0 (x := 0) (by decide)) (by decide)
    refine lv_bipush (v := (-2)) hx hb dX11_under_14 (by decide) ?_
    exact W.iret (v := (-2)) hx hb hr (fun t ht hW => ⟨⟨(-2), (fun k => ([0, n0_24, n0_25, n0_26, n0_27] : List Int32).getD k 0, fun k => ([f11, f12, f13] : List (Nat → Int32)).getD k (fun _ => 0), fun k => ([] : List (Nat → Int64)).getD k (fun _ => 0)), rfl, ⟨(rg_w (c := (-2)) (d := 255) (rgn (-2) (x := (-2)) (by decide)) (by decide)), (fun hq => absurd hq (rne (rgn (-2) (x := (-2)) (by decide)) (y := 0) (c := 0) (by decide) (by decide))), (fun hq => absurd (req (rgn (-2) (x := (-2)) (by decide)) (y := (-2)) (by decide)) hq), hp_f11, hp_f13, (rgn 0 (x := 0) (by decide)), trivial⟩, hp_at ht hP⟩, hS.F ht⟩) hS.2.2 dX11_under_16

set_option maxHeartbeats 4000000 in
set_option maxRecDepth 100000 in
theorem a_X11_timeOf (l : Launch) (G : va_G) (ct : Nat → ClassId) (a0 : Nat) (n0_0 : Int32) (a1 : Nat) (a2 : Nat) (a3 : Nat) (a4 : Nat) (a5 : Nat) (n0_6 : Int32) (n0_7 : Int32) (n0_8 : Int32) (n0_9 : Int32) (n0_10 : Int32) (l0_11 : Int64) (n0_12 : Int32) (n0_13 : Int32) (n0_14 : Int32) (n0_15 : Int32) (a6 : Nat) (a7 : Nat) (a8 : Nat) (a9 : Nat) (a10 : Nat) (a11 : Nat) (a12 : Nat) (a13 : Nat) (n0_24 : Int32) (n0_25 : Int32) (n0_26 : Int32) (n0_27 : Int32) (a14 : Nat) (n0_29 : Int32) (n0_30 : Int32) (f8 : Nat → Int32) (f11 : Nat → Int32) (p0 : Int32) (p1 : Int32) (hp_n0_6 : rg 0 900 n0_6) (hp_f8 : psI f8) (hp_f11 : ar (-1) 7 f11) (hp_p0 : rg 0 7 p0) (hp_p1 : rg 0 7 p1) : Met l yX11_timeOf wsX11_timeOf ({ frames := 1, cells := 0, slots := 0, locals := 22 }) (va_Pc [.ref a0, .int p0, .int p1] (roP G ct [(a0, .inr (11, [.int n0_0, .ref a1, .ref a2, .ref a3, .ref a4, .ref a5, .int n0_6, .int n0_7, .int n0_8, .int n0_9, .int n0_10, .long l0_11, .int n0_12, .int n0_13, .int n0_14, .int n0_15, .ref a6, .ref a7, .ref a8, .ref a9, .ref a10, .ref a11, .ref a12, .ref a13, .int n0_24, .int n0_25, .int n0_26, .int n0_27, .ref a14, .int n0_29, .int n0_30])), (a8, .inl (ct 0, 200, .inl f8)), (a11, .inl (ct 0, 8, .inl f11))])) (roQ (fun r => (¬ r = (-1) → rc f11 p0 p1 7) ∧ True)) 0 0 no := by
  refine Met.ofW (cc := cX11_timeOf) (maxL := 6) (ret := (some .int)) (by decide) rfl ?_
  intro p e s m args below meth c s₁ B hml hv
  obtain ⟨rfl, hP, hK⟩ := hv
  have hx := B.exec
  have hb := B.bytes
  have hr := B.returns
  have hts := atoms_spec (ws := wsX11_timeOf) B.pre
  have hown : s.vm.findClass RX11 = some m.cls := findClass_of_methodNamed B.named
  have hlocks := B.notSynchronized
  have hS : va_S no s.heap s.heap [] := va_S.rf
  have hl := lv_entry ([.ref a0, .int p0, .int p1]) (n := 6) (Nat.le_of_ble_eq_true rfl)
  rw [lg_entry_eq]
  generalize (lg_sl ([.ref a0, .int p0, .int p1]) ++ List.replicate (6 - (lg_sl ([.ref a0, .int p0, .int p1])).length) Slot.unset).toArray = ls at hl ⊢
  have hl : lv_has ls 6 [(0, .ref a0), (1, .int p0), (2, .int p1)] := hl
  refine lv_iconst (v := 0) hx hb dX11_timeOf_0 (by decide) ?_
  refine lv_istore_n (lv' := [(3, .int 0), (0, .ref a0), (1, .int p0), (2, .int p1)]) hx hb dX11_timeOf_1 rfl hl (by decide) rfl (fun ls hl => ?_)
  refine lv_iload_n hx hb dX11_timeOf_2 rfl (lv_at hl 3 rfl) ?_
  refine lv_istore (lv' := [(4, .int p1), (3, .int 0), (0, .ref a0), (1, .int p0), (2, .int p1)]) hx hb dX11_timeOf_3 hl (by decide) rfl (fun ls hl => ?_)
  refine lv_iconst (v := 0) hx hb dX11_timeOf_5 (by decide) ?_
  refine lv_istore (lv' := [(5, .int 0), (4, .int p1), (3, .int 0), (0, .ref a0), (1, .int p0), (2, .int p1)]) hx hb dX11_timeOf_6 hl (by decide) rfl (fun ls hl => ?_)
  have j8 : ∀ (n : Nat) (x8_3 : Int32) (x8_4 : Int32) (x8_5 : Int32) (H : Heap) (locs : List Loc) (ls : Array Slot), 2147483648 ≤ x8_5.toInt + (n : Int) → rg 0 7 x8_4 → rg 0 8 x8_5 → (rc f11 p0 x8_4 (7 - (x8_5).toInt) → rc f11 p0 p1 7) → va_P G vwCl [(a0, .inr (11, [.int n0_0, .ref a1, .ref a2, .ref a3, .ref a4, .ref a5, .int n0_6, .int n0_7, .int n0_8, .int n0_9, .int n0_10, .long l0_11, .int n0_12, .int n0_13, .int n0_14, .int n0_15, .ref a6, .ref a7, .ref a8, .ref a9, .ref a10, .ref a11, .ref a12, .ref a13, .int n0_24, .int n0_25, .int n0_26, .int n0_27, .ref a14, .int n0_29, .int n0_30])), (a8, .inl (ct 0, 200, .inl f8)), (a11, .inl (ct 0, 8, .inl f11))] H → va_S no s.heap H locs → lv_has ls 6 [(0, .ref a0), (1, .int p0), (2, .int p1), (3, .int x8_3), (4, .int x8_4), (5, .int x8_5)] → W p l e (headSpec wsX11_timeOf ({ frames := 1, cells := 0, slots := 0, locals := 22 })).room s m ([.ref a0, .int p0, .int p1] : List Value).toArray below meth c H locs 0 0 (MQ below (roQ (fun r => (¬ r = (-1) → rc f11 p0 p1 7) ∧ True)) ([.ref a0, .int p0, .int p1] : List Value).toArray s 0 0 no) (F0 m 8 ls []) := by
    intro n
    induction n with
    | zero => intro x8_3 x8_4 x8_5 H locs ls hn8 hx8_4 hx8_5 hq8 hP hS hl; exact absurd hn8 (by have := Int32.toInt_lt x8_5; have := Int32.le_toInt x8_5; omega)
    | succ n ih8 =>
      intro x8_3 x8_4 x8_5 H locs ls hn8 hx8_4 hx8_5 hq8 hP hS hl
      refine lv_iload hx hb dX11_timeOf_8 (lv_at hl 5 rfl) ?_
      refine lv_bipush (v := 8) hx hb dX11_timeOf_10 (by decide) ?_
      refine lv_icmp_ge (tgt := 70) hx hb dX11_timeOf_12 (by decide) (fun c12 => ?_) (fun c12 => ?_)
      · have h_1 : rg 8 8 x8_5 := r_le_r_i c12 (rgn 8 (x := 8) (by decide)) hx8_5
        refine lv_iconst (v := (-1)) hx hb dX11_timeOf_70 (by decide) ?_
        exact W.iret (v := (-1)) hx hb hr (fun t ht hW => ⟨⟨(-1), (), rfl, ⟨(fun hq => absurd (req (rgn (-1) (x := (-1)) (by decide)) (y := (-1)) (by decide)) hq), trivial⟩, trivial⟩, hS.F ht⟩) hS.2.2 dX11_timeOf_71
      · have h_2 : rg 0 7 x8_5 := r_lt_l_i (nle_i c12) hx8_5 (rgn 8 (x := 8) (by decide)) (by decide)
        refine lv_aload_n hx hb dX11_timeOf_15 rfl (lv_at hl 0 rfl) ?_
        refine va_get (D := G) (ci := 11) (v := .ref a11) (C := RX11) (T := TX11) (N := 31) hx hb hts (by decide +kernel) hown hK.1 hP 0 rfl rfl 21 (by decide) (hts (.fieldLink RX11 47 "CardHolderModel" "holder" "[I") (by decide +kernel)) (fun _ h9 => h9) rfl dX11_timeOf_16 ?_
        refine lv_iload hx hb dX11_timeOf_19 (lv_at hl 4 rfl) ?_
        refine va_iald hx hb hK.1 hP 2 0 rfl rfl (in_rg hx8_4 (by decide)) dX11_timeOf_21 ?_
        refine lv_topi (fun z21 gz21 => ?_)
        have hz21 : rg (-1) 7 z21 := by rw [gz21]; exact hp_f11 _
        refine lv_iconst (v := (-1)) hx hb dX11_timeOf_22 (by decide) ?_
        refine lv_icmp_ne (tgt := 28) hx hb dX11_timeOf_23 (by decide) (fun c23 => ?_) (fun c23 => ?_)
        · have h_3 : rg 0 7 z21 := r_ne_lo_i c23 hz21 (by decide) (by decide)
          refine lv_iload_n hx hb dX11_timeOf_28 rfl (lv_at hl 3 rfl) ?_
          refine lv_aload_n hx hb dX11_timeOf_29 rfl (lv_at hl 0 rfl) ?_
          refine lv_iload hx hb dX11_timeOf_30 (lv_at hl 4 rfl) ?_
          refine lv_iconst (v := 4) hx hb dX11_timeOf_32 (by decide) ?_
          refine ro_calli (va_runV (As := [.int x8_4, .int 4]) (rest := [.int x8_3]) ⟨hx, hb, hml, hown, hts⟩ (a_X11_of4 l G ct a0 n0_0 a1 a2 a3 a4 a5 n0_6 n0_7 n0_8 n0_9 n0_10 l0_11 n0_12 n0_13 n0_14 n0_15 a6 a7 a8 a9 a10 a11 a12 a13 n0_24 n0_25 n0_26 n0_27 a14 n0_29 n0_30 f8 x8_4 hp_n0_6 hp_f8 hx8_4) (cwV 2 hts gX11_timeOf_X11_of rfl rfl rfl (by decide +kernel) ⟨Nat.le_of_ble_eq_true rfl, Nat.le_of_ble_eq_true rfl⟩) (ro_preV 11 0 hK (hP.sub [0, 1] rfl) rfl rfl) rfl rfl hl.1 rfl (lv_room (Nat.le_of_ble_eq_true rfl)) dX11_timeOf_33 ⟨Nat.zero_le _, Nat.zero_le _⟩) hS hP (fun r33 H locs wr33 hP hS => ?_)
          refine lv_iconst (v := 1) hx hb dX11_timeOf_36 (by decide) ?_
          have j45 : ∀ (y45_0 : Int32) (H : Heap) (locs : List Loc) (ls : Array Slot), rg 1 2 y45_0 → va_P G vwCl [(a0, .inr (11, [.int n0_0, .ref a1, .ref a2, .ref a3, .ref a4, .ref a5, .int n0_6, .int n0_7, .int n0_8, .int n0_9, .int n0_10, .long l0_11, .int n0_12, .int n0_13, .int n0_14, .int n0_15, .ref a6, .ref a7, .ref a8, .ref a9, .ref a10, .ref a11, .ref a12, .ref a13, .int n0_24, .int n0_25, .int n0_26, .int n0_27, .ref a14, .int n0_29, .int n0_30])), (a8, .inl (ct 0, 200, .inl f8)), (a11, .inl (ct 0, 8, .inl f11))] H → va_S no s.heap H locs → lv_has ls 6 [(0, .ref a0), (1, .int p0), (2, .int p1), (3, .int x8_3), (4, .int x8_4), (5, .int x8_5)] → W p l e (headSpec wsX11_timeOf ({ frames := 1, cells := 0, slots := 0, locals := 22 })).room s m ([.ref a0, .int p0, .int p1] : List Value).toArray below meth c H locs 0 0 (MQ below (roQ (fun r => (¬ r = (-1) → rc f11 p0 p1 7) ∧ True)) ([.ref a0, .int p0, .int p1] : List Value).toArray s 0 0 no) (F0 m 45 ls [.int y45_0, .int x8_3]) := by
            intro y45_0 H locs ls hy45_0 hP hS hl
            refine lv_iadd hx hb dX11_timeOf_45 ?_
            refine nm_0 (fun z45 => ?_)
            refine lv_istore_n (lv' := [(3, .int z45), (0, .ref a0), (1, .int p0), (2, .int p1), (4, .int x8_4), (5, .int x8_5)]) hx hb dX11_timeOf_46 rfl hl (by decide) rfl (fun ls hl => ?_)
            refine lv_aload_n hx hb dX11_timeOf_47 rfl (lv_at hl 1 rfl) ?_
            refine va_get (D := G) (ci := 11) (v := .ref a11) (C := RX11) (T := TX11) (N := 31) hx hb hts (by decide +kernel) hown hK.1 hP 0 rfl rfl 21 (by decide) (hts (.fieldLink RX11 47 "CardHolderModel" "holder" "[I") (by decide +kernel)) (fun _ h9 => h9) rfl dX11_timeOf_48 ?_
            refine lv_iload hx hb dX11_timeOf_51 (lv_at hl 4 rfl) ?_
            refine va_iald hx hb hK.1 hP 2 0 rfl rfl (in_rg hx8_4 (by decide)) dX11_timeOf_53 ?_
            refine ix_i (y := z21) gz21.symm ?_
            refine lv_istore (lv' := [(4, .int z21), (3, .int z45), (0, .ref a0), (1, .int p0), (2, .int p1), (5, .int x8_5)]) hx hb dX11_timeOf_54 hl (by decide) rfl (fun ls hl => ?_)
            refine lv_iload hx hb dX11_timeOf_56 (lv_at hl 0 rfl) ?_
            refine lv_iload_n hx hb dX11_timeOf_58 rfl (lv_at hl 3 rfl) ?_
            refine lv_icmp_ne (tgt := 64) hx hb dX11_timeOf_59 (by decide) (fun c59 => ?_) (fun c59 => ?_)
            · obtain ⟨z64, qz64⟩ : ∃ y : Int32, y = x8_5 + Int32.ofInt 1 := ⟨_, rfl⟩
              obtain ⟨hz64, ez64⟩ := inc_z (e := 1) (f := 8) h_2 qz64 (by decide)
              refine lv_iinc (v := z64) (lv' := [(5, .int z64), (4, .int z21), (3, .int z45), (0, .ref a0), (1, .int p0), (2, .int p1)]) hx hb dX11_timeOf_64 hl (k := 5) rfl (qz64.symm) (by decide) rfl (fun ls hl => ?_)
              refine lv_goto (tgt := 8) hx hb dX11_timeOf_67 (by decide) ?_
              exact ih8 z45 z21 z64 _ _ ls (by have q := hn8; have := ez64; omega) h_3 (rg_w (c := 0) (d := 8) hz64 (by decide)) (fun hq => hq8 (rc_s hx8_4 gz21 ez64 hq)) hP hS (lv_sub hl [3, 4, 5, 2, 1, 0] rfl)
            · refine lv_iload_n hx hb dX11_timeOf_62 rfl (lv_at hl 1 rfl) ?_
              exact W.iret (v := z45) hx hb hr (fun t ht hW => ⟨⟨z45, (), rfl, ⟨(fun _ => hq8 (rc_1 hx8_4 gz21 c59 h_2)), trivial⟩, trivial⟩, hS.F ht⟩) hS.2.2 dX11_timeOf_63
          refine lv_icmp_ne (tgt := 44) hx hb dX11_timeOf_37 (by decide) (fun c37 => ?_) (fun c37 => ?_)
          · refine lv_iconst (v := 1) hx hb dX11_timeOf_44 (by decide) ?_
            exact j45 (1 : Int32) _ _ ls (rg_w (c := 1) (d := 2) (rgn 1 (x := 1) (by decide)) (by decide)) hP hS (lv_sub hl [0, 1, 2, 3, 4, 5] rfl)
          · have h_4 : rg 1 1 r33 := r_eq_l_i (e := 1) (f := 1) c37 (rg_t r33) (rgn 1 (x := 1) (by decide)) (by decide)
            refine lv_iconst (v := 2) hx hb dX11_timeOf_40 (by decide) ?_
            refine lv_goto (tgt := 45) hx hb dX11_timeOf_41 (by decide) ?_
            exact j45 (2 : Int32) _ _ ls (rg_w (c := 1) (d := 2) (rgn 2 (x := 2) (by decide)) (by decide)) hP hS (lv_sub hl [0, 1, 2, 3, 4, 5] rfl)
        · have h_5 : rg (-1) (-1) z21 := r_eq_l_i (e := (-1)) (f := (-1)) c23 hz21 (rgn (-1) (x := (-1)) (by decide)) (by decide)
          refine lv_iconst (v := (-1)) hx hb dX11_timeOf_26 (by decide) ?_
          exact W.iret (v := (-1)) hx hb hr (fun t ht hW => ⟨⟨(-1), (), rfl, ⟨(fun hq => absurd (req (rgn (-1) (x := (-1)) (by decide)) (y := (-1)) (by decide)) hq), trivial⟩, trivial⟩, hS.F ht⟩) hS.2.2 dX11_timeOf_27
  exact j8 4294967296 (0 : Int32) p1 (0 : Int32) _ _ ls (ms_e (0 : Int32)) hp_p1 (rg_w (c := 0) (d := 8) (rgn 0 (x := 0) (by decide)) (by decide)) (fun hq => rc_0 hq) hP hS (lv_sub hl [3, 4, 5, 2, 1, 0] rfl)

set_option maxHeartbeats 4000000 in
set_option maxRecDepth 100000 in
theorem a_X11_time (l : Launch) (G : va_G) (ct : Nat → ClassId) (a0 : Nat) (n0_0 : Int32) (a1 : Nat) (a2 : Nat) (a3 : Nat) (a4 : Nat) (a5 : Nat) (n0_6 : Int32) (n0_7 : Int32) (n0_8 : Int32) (n0_9 : Int32) (n0_10 : Int32) (l0_11 : Int64) (n0_12 : Int32) (n0_13 : Int32) (n0_14 : Int32) (n0_15 : Int32) (a6 : Nat) (a7 : Nat) (a8 : Nat) (a9 : Nat) (a10 : Nat) (a11 : Nat) (a12 : Nat) (a13 : Nat) (n0_24 : Int32) (n0_25 : Int32) (n0_26 : Int32) (n0_27 : Int32) (a14 : Nat) (n0_29 : Int32) (n0_30 : Int32) (f7 : Nat → Int32) (f8 : Nat → Int32) (f9 : Nat → Int32) (f11 : Nat → Int32) (f12 : Nat → Int32) (f13 : Nat → Int32) (p0 : Int32) (p1 : Int32) (hp_n0_6 : rg 0 900 n0_6) (hp_f7 : hsI f7) (hp_f8 : psI f8) (hp_f9 : ar 0 7 f9) (hp_f11 : ar (-1) 7 f11) (hp_f13 : ar (-1) 7 f13) : Met l yX11_time wsX11_time ({ frames := 5, cells := 0, slots := 0, locals := 111 }) (va_Pc [.ref a0, .int p0, .int p1] (wrP G ct [(a0, .inr (11, [.int n0_0, .ref a1, .ref a2, .ref a3, .ref a4, .ref a5, .int n0_6, .int n0_7, .int n0_8, .int n0_9, .int n0_10, .long l0_11, .int n0_12, .int n0_13, .int n0_14, .int n0_15, .ref a6, .ref a7, .ref a8, .ref a9, .ref a10, .ref a11, .ref a12, .ref a13, .int n0_24, .int n0_25, .int n0_26, .int n0_27, .ref a14, .int n0_29, .int n0_30])), (a7, .inl (ct 0, 15, .inl f7)), (a8, .inl (ct 0, 200, .inl f8)), (a9, .inl (ct 0, 1000, .inl f9)), (a11, .inl (ct 0, 8, .inl f11)), (a12, .inl (ct 0, 8, .inl f12)), (a13, .inl (ct 0, 8, .inl f13))])) (va_Qi (fun (r : Int32) (u : SU) => (r = 0 → rg 0 7 p0) ∧ (r = (-1) → rg 0 7 p0) ∧ (¬ r = (-2) → rg 0 7 p0) ∧ (r = 0 → rg 0 7 p1) ∧ (r = (-1) → rg 0 7 p1) ∧ (¬ r = (-2) → rg 0 7 p1) ∧ ar (-1) 7 (u.2.1 0) ∧ ar (-1) 7 (u.2.1 2) ∧ rg 0 0 (u.1 0) ∧ True) (fun u t => va_P G vwCl ((fun u : SU => [(a0, .inr (11, [.int (u.1 0), .ref a1, .ref a2, .ref a3, .ref a4, .ref a5, .int n0_6, .int n0_7, .int n0_8, .int n0_9, .int n0_10, .long l0_11, .int n0_12, .int n0_13, .int n0_14, .int n0_15, .ref a6, .ref a7, .ref a8, .ref a9, .ref a10, .ref a11, .ref a12, .ref a13, .int (u.1 1), .int (u.1 2), .int (u.1 3), .int (u.1 4), .ref a14, .int n0_29, .int n0_30])), (a7, .inl (ct 0, 15, .inl f7)), (a8, .inl (ct 0, 200, .inl f8)), (a9, .inl (ct 0, 1000, .inl f9)), (a11, .inl (ct 0, 8, .inl (u.2.1 0))), (a12, .inl (ct 0, 8, .inl (u.2.1 1))), (a13, .inl (ct 0, 8, .inl (u.2.1 2)))]) u) t.heap) (aset [(a0, .inr (11, [.int n0_0, .ref a1, .ref a2, .ref a3, .ref a4, .ref a5, .int n0_6, .int n0_7, .int n0_8, .int n0_9, .int n0_10, .long l0_11, .int n0_12, .int n0_13, .int n0_14, .int n0_15, .ref a6, .ref a7, .ref a8, .ref a9, .ref a10, .ref a11, .ref a12, .ref a13, .int n0_24, .int n0_25, .int n0_26, .int n0_27, .ref a14, .int n0_29, .int n0_30])), (a7, .inl (ct 0, 15, .inl f7)), (a8, .inl (ct 0, 200, .inl f8)), (a9, .inl (ct 0, 1000, .inl f9)), (a11, .inl (ct 0, 8, .inl f11)), (a12, .inl (ct 0, 8, .inl f12)), (a13, .inl (ct 0, 8, .inl f13))])) 0 0 (aset [(a0, .inr (11, [.int n0_0, .ref a1, .ref a2, .ref a3, .ref a4, .ref a5, .int n0_6, .int n0_7, .int n0_8, .int n0_9, .int n0_10, .long l0_11, .int n0_12, .int n0_13, .int n0_14, .int n0_15, .ref a6, .ref a7, .ref a8, .ref a9, .ref a10, .ref a11, .ref a12, .ref a13, .int n0_24, .int n0_25, .int n0_26, .int n0_27, .ref a14, .int n0_29, .int n0_30])), (a7, .inl (ct 0, 15, .inl f7)), (a8, .inl (ct 0, 200, .inl f8)), (a9, .inl (ct 0, 1000, .inl f9)), (a11, .inl (ct 0, 8, .inl f11)), (a12, .inl (ct 0, 8, .inl f12)), (a13, .inl (ct 0, 8, .inl f13))]) := by
  refine Met.ofW (cc := cX11_time) (maxL := 3) (ret := (some .int)) (by decide) rfl ?_
  intro p e s m args below meth c s₁ B hml hv
  obtain ⟨rfl, hP, hK, hD0⟩ := hv
  have hx := B.exec
  have hb := B.bytes
  have hr := B.returns
  have hts := atoms_spec (ws := wsX11_time) B.pre
  have hown : s.vm.findClass RX11 = some m.cls := findClass_of_methodNamed B.named
  have hlocks := B.notSynchronized
  have hD := hD0.aself
  generalize hAe : aset [(a0, .inr (11, [.int n0_0, .ref a1, .ref a2, .ref a3, .ref a4, .ref a5, .int n0_6, .int n0_7, .int n0_8, .int n0_9, .int n0_10, .long l0_11, .int n0_12, .int n0_13, .int n0_14, .int n0_15, .ref a6, .ref a7, .ref a8, .ref a9, .ref a10, .ref a11, .ref a12, .ref a13, .int n0_24, .int n0_25, .int n0_26, .int n0_27, .ref a14, .int n0_29, .int n0_30])), (a7, .inl (ct 0, 15, .inl f7)), (a8, .inl (ct 0, 200, .inl f8)), (a9, .inl (ct 0, 1000, .inl f9)), (a11, .inl (ct 0, 8, .inl f11)), (a12, .inl (ct 0, 8, .inl f12)), (a13, .inl (ct 0, 8, .inl f13))] = A at hD ⊢
  have hS : va_S A s.heap s.heap [] := va_S.rf
  have hl := lv_entry ([.ref a0, .int p0, .int p1]) (n := 3) (Nat.le_of_ble_eq_true rfl)
  rw [lg_entry_eq]
  generalize (lg_sl ([.ref a0, .int p0, .int p1]) ++ List.replicate (3 - (lg_sl ([.ref a0, .int p0, .int p1])).length) Slot.unset).toArray = ls at hl ⊢
  have hl : lv_has ls 3 [(0, .ref a0), (1, .int p0), (2, .int p1)] := hl
  refine lv_aload_n hx hb dX11_time_0 rfl (lv_at hl 0 rfl) ?_
  refine lv_iconst (v := 0) hx hb dX11_time_1 (by decide) ?_
  refine va_put (D := G) (ci := 11) (v := .int 0) (ty := .int) (C := RX11) (T := TX11) (N := 31) hx hb hts (by decide +kernel) tyX11 tyX11_ok nmX11 hown hK.1 hP hD hS 0 rfl rfl 0 (by decide) (hts (.fieldLink RX11 59 "CardHolderModel" "thrown" "I") (by decide +kernel)) (fun _ h9 => h9) rfl (by decide +kernel) rfl rfl (Nat.le_of_ble_eq_true rfl) dX11_time_2 (fun H locs hP hD hS => ?_)
  refine lv_aload_n hx hb dX11_time_5 rfl (lv_at hl 0 rfl) ?_
  refine lv_iload_n hx hb dX11_time_6 rfl (lv_at hl 1 rfl) ?_
  refine lv_iload_n hx hb dX11_time_7 rfl (lv_at hl 2 rfl) ?_
  refine ro_calli (va_runV (As := [.int p0, .int p1]) (rest := []) ⟨hx, hb, hml, hown, hts⟩ (a_X11_arePeople l G ct a0 (0 : Int32) a1 a2 a3 a4 a5 n0_6 n0_7 n0_8 n0_9 n0_10 l0_11 n0_12 n0_13 n0_14 n0_15 a6 a7 a8 a9 a10 a11 a12 a13 n0_24 n0_25 n0_26 n0_27 a14 n0_29 n0_30 f7 p0 p1 hp_n0_6 hp_f7) (cwV 2 hts gX11_time_X11_arePeople rfl rfl rfl (by decide +kernel) ⟨Nat.le_of_ble_eq_true rfl, Nat.le_of_ble_eq_true rfl⟩) (ro_preV 11 0 hK (hP.sub [0, 1] rfl) rfl rfl) rfl rfl hl.1 rfl (lv_room (Nat.le_of_ble_eq_true rfl)) dX11_time_8 ⟨Nat.zero_le _, Nat.zero_le _⟩) hS hP (fun r8 H locs wr8 hP hS => ?_)
  obtain ⟨p_1, p_2, p_3, -⟩ := wr8
  refine lv_if_ne (tgt := 17) hx hb dX11_time_11 (by decide) (fun c11 => ?_) (fun c11 => ?_)
  · have h_4 : rg 1 1 r8 := r_ne_lo_i c11 p_1 (by decide) (by decide)
    have h_5 : rg 0 7 p0 := (p_2 (rne h_4 (y := 0) (c := 0) (by decide) (by decide)))
    have h_6 : rg 0 7 p1 := (p_3 (rne h_4 (y := 0) (c := 0) (by decide) (by decide)))
    refine lv_aload_n hx hb dX11_time_17 rfl (lv_at hl 0 rfl) ?_
    refine wj_callv (wr := []) (w1 := (fun u : SU => [(a0, .inr (11, [.int 0, .ref a1, .ref a2, .ref a3, .ref a4, .ref a5, .int n0_6, .int n0_7, .int n0_8, .int n0_9, .int n0_10, .long l0_11, .int n0_12, .int n0_13, .int n0_14, .int n0_15, .ref a6, .ref a7, .ref a8, .ref a9, .ref a10, .ref a11, .ref a12, .ref a13, .int (u.1 0), .int (u.1 1), .int (u.1 2), .int (u.1 3), .ref a14, .int n0_29, .int n0_30])), (a7, .inl (ct 0, 15, .inl f7)), (a8, .inl (ct 0, 200, .inl f8)), (a9, .inl (ct 0, 1000, .inl f9)), (a11, .inl (ct 0, 8, .inl (u.2.1 0))), (a12, .inl (ct 0, 8, .inl (u.2.1 1))), (a13, .inl (ct 0, 8, .inl (u.2.1 2)))])) (va_runV (As := []) (rest := []) ⟨hx, hb, hml, hown, hts⟩ (a_X11_laysNow l G ct a0 (0 : Int32) a1 a2 a3 a4 a5 n0_6 n0_7 n0_8 n0_9 n0_10 l0_11 n0_12 n0_13 n0_14 n0_15 a6 a7 a8 a9 a10 a11 a12 a13 n0_24 n0_25 n0_26 n0_27 a14 n0_29 n0_30 f7 f8 f9 f11 f12 f13 hp_n0_6 hp_f7 hp_f8 hp_f9 hp_f11 hp_f13) (cwV 0 hts gX11_time_X11_laysNow rfl rfl rfl (by decide +kernel) ⟨Nat.le_of_ble_eq_true rfl, Nat.le_of_ble_eq_true rfl⟩) (wr_preV 11 0 hK (hP.sub [0, 1, 2, 3, 4, 5, 6] rfl) (hD.sub [0, 1, 2, 3, 4, 5, 6] (by decide) rfl) rfl rfl) rfl rfl hl.1 rfl (lv_room (Nat.le_of_ble_eq_true rfl)) dX11_time_18 ⟨Nat.zero_le _, Nat.zero_le _⟩) hS hP hD [0, 1, 2, 3, 4, 5, 6] [] rfl rfl (by decide) (fun _ => rfl) (fun ur18 H locs wr18 hP hD hS => ?_)
    have hP : va_P G vwCl [(a0, .inr (11, [.int 0, .ref a1, .ref a2, .ref a3, .ref a4, .ref a5, .int n0_6, .int n0_7, .int n0_8, .int n0_9, .int n0_10, .long l0_11, .int n0_12, .int n0_13, .int n0_14, .int n0_15, .ref a6, .ref a7, .ref a8, .ref a9, .ref a10, .ref a11, .ref a12, .ref a13, .int (ur18.1 0), .int (ur18.1 1), .int (ur18.1 2), .int (ur18.1 3), .ref a14, .int n0_29, .int n0_30])), (a7, .inl (ct 0, 15, .inl f7)), (a8, .inl (ct 0, 200, .inl f8)), (a9, .inl (ct 0, 1000, .inl f9)), (a11, .inl (ct 0, 8, .inl (ur18.2.1 0))), (a12, .inl (ct 0, 8, .inl (ur18.2.1 1))), (a13, .inl (ct 0, 8, .inl (ur18.2.1 2)))] H := hP.sub [0, 1, 2, 3, 4, 5, 6] rfl
    have hD : va_D A [(a0, .inr (11, [.int 0, .ref a1, .ref a2, .ref a3, .ref a4, .ref a5, .int n0_6, .int n0_7, .int n0_8, .int n0_9, .int n0_10, .long l0_11, .int n0_12, .int n0_13, .int n0_14, .int n0_15, .ref a6, .ref a7, .ref a8, .ref a9, .ref a10, .ref a11, .ref a12, .ref a13, .int (ur18.1 0), .int (ur18.1 1), .int (ur18.1 2), .int (ur18.1 3), .ref a14, .int n0_29, .int n0_30])), (a7, .inl (ct 0, 15, .inl f7)), (a8, .inl (ct 0, 200, .inl f8)), (a9, .inl (ct 0, 1000, .inl f9)), (a11, .inl (ct 0, 8, .inl (ur18.2.1 0))), (a12, .inl (ct 0, 8, .inl (ur18.2.1 1))), (a13, .inl (ct 0, 8, .inl (ur18.2.1 2)))] := hD.sub [0, 1, 2, 3, 4, 5, 6] (by decide) rfl
    obtain ⟨p_7, p_8, -⟩ := wr18
    refine lv_aload_n hx hb dX11_time_21 rfl (lv_at hl 0 rfl) ?_
    refine lv_iload_n hx hb dX11_time_22 rfl (lv_at hl 1 rfl) ?_
    refine lv_iload_n hx hb dX11_time_23 rfl (lv_at hl 2 rfl) ?_
    refine ro_calli (va_runV (As := [.int p0, .int p1]) (rest := []) ⟨hx, hb, hml, hown, hts⟩ (a_X11_timeOf l G ct a0 (0 : Int32) a1 a2 a3 a4 a5 n0_6 n0_7 n0_8 n0_9 n0_10 l0_11 n0_12 n0_13 n0_14 n0_15 a6 a7 a8 a9 a10 a11 a12 a13 (ur18.1 0) (ur18.1 1) (ur18.1 2) (ur18.1 3) a14 n0_29 n0_30 f8 (ur18.2.1 0) p0 p1 hp_n0_6 hp_f8 p_7 h_5 h_6) (cwV 2 hts gX11_time_X11_timeOf rfl rfl rfl (by decide +kernel) ⟨Nat.le_of_ble_eq_true rfl, Nat.le_of_ble_eq_true rfl⟩) (ro_preV 11 0 hK (hP.sub [0, 2, 4] rfl) rfl rfl) rfl rfl hl.1 rfl (lv_room (Nat.le_of_ble_eq_true rfl)) dX11_time_24 ⟨Nat.zero_le _, Nat.zero_le _⟩) hS hP (fun r24 H locs wr24 hP hS => ?_)
    obtain ⟨p_9, -⟩ := wr24
    exact W.iret (v := r24) hx hb hr (fun t ht hW => ⟨⟨r24, (fun k => ([0, ur18.1 0, ur18.1 1, ur18.1 2, ur18.1 3] : List Int32).getD k 0, fun k => ([ur18.2.1 0, ur18.2.1 1, ur18.2.1 2] : List (Nat → Int32)).getD k (fun _ => 0), fun k => ([] : List (Nat → Int64)).getD k (fun _ => 0)), rfl, ⟨(fun _ => h_5), (fun _ => h_5), (fun _ => h_5), (fun _ => h_6), (fun _ => h_6), (fun _ => h_6), p_7, p_8, (rgn 0 (x := 0) (by decide)), trivial⟩, hp_at ht hP⟩, hS.F ht⟩) hS.2.2 dX11_time_27
  · have h_10 : rg 0 0 r8 := r_eq_l_i (e := 0) (f := 0) c11 p_1 (rgn 0 (x := 0) (by decide)) (by decide)
    refine lv_bipush (v := (-2)) hx hb dX11_time_14 (by decide) ?_
    exact W.iret (v := (-2)) hx hb hr (fun t ht hW => ⟨⟨(-2), (fun k => ([0, n0_24, n0_25, n0_26, n0_27] : List Int32).getD k 0, fun k => ([f11, f12, f13] : List (Nat → Int32)).getD k (fun _ => 0), fun k => ([] : List (Nat → Int64)).getD k (fun _ => 0)), rfl, ⟨(fun hq => absurd hq (rne (rgn (-2) (x := (-2)) (by decide)) (y := 0) (c := 0) (by decide) (by decide))), (fun hq => absurd hq (rne (rgn (-2) (x := (-2)) (by decide)) (y := (-1)) (c := (-1)) (by decide) (by decide))), (fun hq => absurd (req (rgn (-2) (x := (-2)) (by decide)) (y := (-2)) (by decide)) hq), (fun hq => absurd hq (rne (rgn (-2) (x := (-2)) (by decide)) (y := 0) (c := 0) (by decide) (by decide))), (fun hq => absurd hq (rne (rgn (-2) (x := (-2)) (by decide)) (y := (-1)) (c := (-1)) (by decide) (by decide))), (fun hq => absurd (req (rgn (-2) (x := (-2)) (by decide)) (y := (-2)) (by decide)) hq), hp_f11, hp_f13, (rgn 0 (x := 0) (by decide)), trivial⟩, hp_at ht hP⟩, hS.F ht⟩) hS.2.2 dX11_time_16

set_option maxHeartbeats 4000000 in
set_option maxRecDepth 100000 in
theorem a_X11_top (l : Launch) (G : va_G) (ct : Nat → ClassId) (a0 : Nat) (n0_0 : Int32) (a1 : Nat) (a2 : Nat) (a3 : Nat) (a4 : Nat) (a5 : Nat) (n0_6 : Int32) (n0_7 : Int32) (n0_8 : Int32) (n0_9 : Int32) (n0_10 : Int32) (l0_11 : Int64) (n0_12 : Int32) (n0_13 : Int32) (n0_14 : Int32) (n0_15 : Int32) (a6 : Nat) (a7 : Nat) (a8 : Nat) (a9 : Nat) (a10 : Nat) (a11 : Nat) (a12 : Nat) (a13 : Nat) (n0_24 : Int32) (n0_25 : Int32) (n0_26 : Int32) (n0_27 : Int32) (a14 : Nat) (n0_29 : Int32) (n0_30 : Int32) (f7 : Nat → Int32) (f8 : Nat → Int32) (f9 : Nat → Int32) (f11 : Nat → Int32) (f12 : Nat → Int32) (f13 : Nat → Int32) (p0 : Int32) (hp_n0_6 : rg 0 900 n0_6) (hp_f7 : hsI f7) (hp_f8 : psI f8) (hp_f9 : ar 0 7 f9) (hp_f11 : ar (-1) 7 f11) (hp_f13 : ar (-1) 7 f13) : Met l yX11_top wsX11_top ({ frames := 5, cells := 0, slots := 0, locals := 111 }) (va_Pc [.ref a0, .int p0] (wrP G ct [(a0, .inr (11, [.int n0_0, .ref a1, .ref a2, .ref a3, .ref a4, .ref a5, .int n0_6, .int n0_7, .int n0_8, .int n0_9, .int n0_10, .long l0_11, .int n0_12, .int n0_13, .int n0_14, .int n0_15, .ref a6, .ref a7, .ref a8, .ref a9, .ref a10, .ref a11, .ref a12, .ref a13, .int n0_24, .int n0_25, .int n0_26, .int n0_27, .ref a14, .int n0_29, .int n0_30])), (a7, .inl (ct 0, 15, .inl f7)), (a8, .inl (ct 0, 200, .inl f8)), (a9, .inl (ct 0, 1000, .inl f9)), (a11, .inl (ct 0, 8, .inl f11)), (a12, .inl (ct 0, 8, .inl f12)), (a13, .inl (ct 0, 8, .inl f13))])) (va_Qi (fun (r : Int32) (u : SU) => rg (-2) 7 r ∧ (r = 0 → rg 0 7 p0) ∧ (r = (-1) → rg 0 7 p0) ∧ (¬ r = (-2) → rg 0 7 p0) ∧ ar (-1) 7 (u.2.1 0) ∧ ar (-1) 7 (u.2.1 2) ∧ rg 0 0 (u.1 0) ∧ True) (fun u t => va_P G vwCl ((fun u : SU => [(a0, .inr (11, [.int (u.1 0), .ref a1, .ref a2, .ref a3, .ref a4, .ref a5, .int n0_6, .int n0_7, .int n0_8, .int n0_9, .int n0_10, .long l0_11, .int n0_12, .int n0_13, .int n0_14, .int n0_15, .ref a6, .ref a7, .ref a8, .ref a9, .ref a10, .ref a11, .ref a12, .ref a13, .int (u.1 1), .int (u.1 2), .int (u.1 3), .int (u.1 4), .ref a14, .int n0_29, .int n0_30])), (a7, .inl (ct 0, 15, .inl f7)), (a8, .inl (ct 0, 200, .inl f8)), (a9, .inl (ct 0, 1000, .inl f9)), (a11, .inl (ct 0, 8, .inl (u.2.1 0))), (a12, .inl (ct 0, 8, .inl (u.2.1 1))), (a13, .inl (ct 0, 8, .inl (u.2.1 2)))]) u) t.heap) (aset [(a0, .inr (11, [.int n0_0, .ref a1, .ref a2, .ref a3, .ref a4, .ref a5, .int n0_6, .int n0_7, .int n0_8, .int n0_9, .int n0_10, .long l0_11, .int n0_12, .int n0_13, .int n0_14, .int n0_15, .ref a6, .ref a7, .ref a8, .ref a9, .ref a10, .ref a11, .ref a12, .ref a13, .int n0_24, .int n0_25, .int n0_26, .int n0_27, .ref a14, .int n0_29, .int n0_30])), (a7, .inl (ct 0, 15, .inl f7)), (a8, .inl (ct 0, 200, .inl f8)), (a9, .inl (ct 0, 1000, .inl f9)), (a11, .inl (ct 0, 8, .inl f11)), (a12, .inl (ct 0, 8, .inl f12)), (a13, .inl (ct 0, 8, .inl f13))])) 0 0 (aset [(a0, .inr (11, [.int n0_0, .ref a1, .ref a2, .ref a3, .ref a4, .ref a5, .int n0_6, .int n0_7, .int n0_8, .int n0_9, .int n0_10, .long l0_11, .int n0_12, .int n0_13, .int n0_14, .int n0_15, .ref a6, .ref a7, .ref a8, .ref a9, .ref a10, .ref a11, .ref a12, .ref a13, .int n0_24, .int n0_25, .int n0_26, .int n0_27, .ref a14, .int n0_29, .int n0_30])), (a7, .inl (ct 0, 15, .inl f7)), (a8, .inl (ct 0, 200, .inl f8)), (a9, .inl (ct 0, 1000, .inl f9)), (a11, .inl (ct 0, 8, .inl f11)), (a12, .inl (ct 0, 8, .inl f12)), (a13, .inl (ct 0, 8, .inl f13))]) := by
  refine Met.ofW (cc := cX11_top) (maxL := 4) (ret := (some .int)) (by decide) rfl ?_
  intro p e s m args below meth c s₁ B hml hv
  obtain ⟨rfl, hP, hK, hD0⟩ := hv
  have hx := B.exec
  have hb := B.bytes
  have hr := B.returns
  have hts := atoms_spec (ws := wsX11_top) B.pre
  have hown : s.vm.findClass RX11 = some m.cls := findClass_of_methodNamed B.named
  have hlocks := B.notSynchronized
  have hD := hD0.aself
  generalize hAe : aset [(a0, .inr (11, [.int n0_0, .ref a1, .ref a2, .ref a3, .ref a4, .ref a5, .int n0_6, .int n0_7, .int n0_8, .int n0_9, .int n0_10, .long l0_11, .int n0_12, .int n0_13, .int n0_14, .int n0_15, .ref a6, .ref a7, .ref a8, .ref a9, .ref a10, .ref a11, .ref a12, .ref a13, .int n0_24, .int n0_25, .int n0_26, .int n0_27, .ref a14, .int n0_29, .int n0_30])), (a7, .inl (ct 0, 15, .inl f7)), (a8, .inl (ct 0, 200, .inl f8)), (a9, .inl (ct 0, 1000, .inl f9)), (a11, .inl (ct 0, 8, .inl f11)), (a12, .inl (ct 0, 8, .inl f12)), (a13, .inl (ct 0, 8, .inl f13))] = A at hD ⊢
  have hS : va_S A s.heap s.heap [] := va_S.rf
  have hl := lv_entry ([.ref a0, .int p0]) (n := 4) (Nat.le_of_ble_eq_true rfl)
  rw [lg_entry_eq]
  generalize (lg_sl ([.ref a0, .int p0]) ++ List.replicate (4 - (lg_sl ([.ref a0, .int p0])).length) Slot.unset).toArray = ls at hl ⊢
  have hl : lv_has ls 4 [(0, .ref a0), (1, .int p0)] := hl
  refine lv_aload_n hx hb dX11_top_0 rfl (lv_at hl 0 rfl) ?_
  refine lv_iconst (v := 0) hx hb dX11_top_1 (by decide) ?_
  refine va_put (D := G) (ci := 11) (v := .int 0) (ty := .int) (C := RX11) (T := TX11) (N := 31) hx hb hts (by decide +kernel) tyX11 tyX11_ok nmX11 hown hK.1 hP hD hS 0 rfl rfl 0 (by decide) (hts (.fieldLink RX11 59 "CardHolderModel" "thrown" "I") (by decide +kernel)) (fun _ h9 => h9) rfl (by decide +kernel) rfl rfl (Nat.le_of_ble_eq_true rfl) dX11_top_2 (fun H locs hP hD hS => ?_)
  refine lv_aload_n hx hb dX11_top_5 rfl (lv_at hl 0 rfl) ?_
  refine lv_iload_n hx hb dX11_top_6 rfl (lv_at hl 1 rfl) ?_
  refine lv_i2l hx hb dX11_top_7 rfl ?_
  refine nl_i2l (rg_t p0) (fun z7 hz7 ez7 => ?_)
  refine ro_calli (va_runV (As := [.long z7]) (rest := []) ⟨hx, hb, hml, hown, hts⟩ (a_X11_isPerson l G ct a0 (0 : Int32) a1 a2 a3 a4 a5 n0_6 n0_7 n0_8 n0_9 n0_10 l0_11 n0_12 n0_13 n0_14 n0_15 a6 a7 a8 a9 a10 a11 a12 a13 n0_24 n0_25 n0_26 n0_27 a14 n0_29 n0_30 f7 z7 hp_n0_6 hp_f7) (cwV 1 hts gX11_top_X11_isPerson rfl rfl rfl (by decide +kernel) ⟨Nat.le_of_ble_eq_true rfl, Nat.le_of_ble_eq_true rfl⟩) (ro_preV 11 0 hK (hP.sub [0, 1] rfl) rfl rfl) rfl rfl hl.1 rfl (lv_room (Nat.le_of_ble_eq_true rfl)) dX11_top_8 ⟨Nat.zero_le _, Nat.zero_le _⟩) hS hP (fun r8 H locs wr8 hP hS => ?_)
  obtain ⟨p_1, p_2, -⟩ := wr8
  refine lv_if_ne (tgt := 17) hx hb dX11_top_11 (by decide) (fun c11 => ?_) (fun c11 => ?_)
  · have h_3 : rg 1 1 r8 := r_ne_lo_i c11 p_1 (by decide) (by decide)
    have h_4 : rl 0 7 z7 := (p_2 (rne h_3 (y := 0) (c := 0) (by decide) (by decide)))
    have h_5 : rg 0 7 p0 := bk_li (a := 0) (b := 7) ez7 h_4 (rg_t p0) (by decide)
    refine lv_aload_n hx hb dX11_top_17 rfl (lv_at hl 0 rfl) ?_
    refine wj_callv (wr := []) (w1 := (fun u : SU => [(a0, .inr (11, [.int 0, .ref a1, .ref a2, .ref a3, .ref a4, .ref a5, .int n0_6, .int n0_7, .int n0_8, .int n0_9, .int n0_10, .long l0_11, .int n0_12, .int n0_13, .int n0_14, .int n0_15, .ref a6, .ref a7, .ref a8, .ref a9, .ref a10, .ref a11, .ref a12, .ref a13, .int (u.1 0), .int (u.1 1), .int (u.1 2), .int (u.1 3), .ref a14, .int n0_29, .int n0_30])), (a7, .inl (ct 0, 15, .inl f7)), (a8, .inl (ct 0, 200, .inl f8)), (a9, .inl (ct 0, 1000, .inl f9)), (a11, .inl (ct 0, 8, .inl (u.2.1 0))), (a12, .inl (ct 0, 8, .inl (u.2.1 1))), (a13, .inl (ct 0, 8, .inl (u.2.1 2)))])) (va_runV (As := []) (rest := []) ⟨hx, hb, hml, hown, hts⟩ (a_X11_laysNow l G ct a0 (0 : Int32) a1 a2 a3 a4 a5 n0_6 n0_7 n0_8 n0_9 n0_10 l0_11 n0_12 n0_13 n0_14 n0_15 a6 a7 a8 a9 a10 a11 a12 a13 n0_24 n0_25 n0_26 n0_27 a14 n0_29 n0_30 f7 f8 f9 f11 f12 f13 hp_n0_6 hp_f7 hp_f8 hp_f9 hp_f11 hp_f13) (cwV 0 hts gX11_top_X11_laysNow rfl rfl rfl (by decide +kernel) ⟨Nat.le_of_ble_eq_true rfl, Nat.le_of_ble_eq_true rfl⟩) (wr_preV 11 0 hK (hP.sub [0, 1, 2, 3, 4, 5, 6] rfl) (hD.sub [0, 1, 2, 3, 4, 5, 6] (by decide) rfl) rfl rfl) rfl rfl hl.1 rfl (lv_room (Nat.le_of_ble_eq_true rfl)) dX11_top_18 ⟨Nat.zero_le _, Nat.zero_le _⟩) hS hP hD [0, 1, 2, 3, 4, 5, 6] [] rfl rfl (by decide) (fun _ => rfl) (fun ur18 H locs wr18 hP hD hS => ?_)
    have hP : va_P G vwCl [(a0, .inr (11, [.int 0, .ref a1, .ref a2, .ref a3, .ref a4, .ref a5, .int n0_6, .int n0_7, .int n0_8, .int n0_9, .int n0_10, .long l0_11, .int n0_12, .int n0_13, .int n0_14, .int n0_15, .ref a6, .ref a7, .ref a8, .ref a9, .ref a10, .ref a11, .ref a12, .ref a13, .int (ur18.1 0), .int (ur18.1 1), .int (ur18.1 2), .int (ur18.1 3), .ref a14, .int n0_29, .int n0_30])), (a7, .inl (ct 0, 15, .inl f7)), (a8, .inl (ct 0, 200, .inl f8)), (a9, .inl (ct 0, 1000, .inl f9)), (a11, .inl (ct 0, 8, .inl (ur18.2.1 0))), (a12, .inl (ct 0, 8, .inl (ur18.2.1 1))), (a13, .inl (ct 0, 8, .inl (ur18.2.1 2)))] H := hP.sub [0, 1, 2, 3, 4, 5, 6] rfl
    have hD : va_D A [(a0, .inr (11, [.int 0, .ref a1, .ref a2, .ref a3, .ref a4, .ref a5, .int n0_6, .int n0_7, .int n0_8, .int n0_9, .int n0_10, .long l0_11, .int n0_12, .int n0_13, .int n0_14, .int n0_15, .ref a6, .ref a7, .ref a8, .ref a9, .ref a10, .ref a11, .ref a12, .ref a13, .int (ur18.1 0), .int (ur18.1 1), .int (ur18.1 2), .int (ur18.1 3), .ref a14, .int n0_29, .int n0_30])), (a7, .inl (ct 0, 15, .inl f7)), (a8, .inl (ct 0, 200, .inl f8)), (a9, .inl (ct 0, 1000, .inl f9)), (a11, .inl (ct 0, 8, .inl (ur18.2.1 0))), (a12, .inl (ct 0, 8, .inl (ur18.2.1 1))), (a13, .inl (ct 0, 8, .inl (ur18.2.1 2)))] := hD.sub [0, 1, 2, 3, 4, 5, 6] (by decide) rfl
    obtain ⟨p_6, p_7, -⟩ := wr18
    refine lv_iload_n hx hb dX11_top_21 rfl (lv_at hl 1 rfl) ?_
    refine lv_istore_n (lv' := [(2, .int p0), (0, .ref a0), (1, .int p0)]) hx hb dX11_top_22 rfl hl (by decide) rfl (fun ls hl => ?_)
    refine lv_iconst (v := 0) hx hb dX11_top_23 (by decide) ?_
    refine lv_istore_n (lv' := [(3, .int 0), (2, .int p0), (0, .ref a0), (1, .int p0)]) hx hb dX11_top_24 rfl hl (by decide) rfl (fun ls hl => ?_)
    have j25 : ∀ (n : Nat) (x25_2 : Int32) (x25_3 : Int32) (H : Heap) (locs : List Loc) (ls : Array Slot), 2147483648 ≤ x25_3.toInt + (n : Int) → rg 0 7 x25_2 → rg 0 8 x25_3 → va_P G vwCl [(a0, .inr (11, [.int 0, .ref a1, .ref a2, .ref a3, .ref a4, .ref a5, .int n0_6, .int n0_7, .int n0_8, .int n0_9, .int n0_10, .long l0_11, .int n0_12, .int n0_13, .int n0_14, .int n0_15, .ref a6, .ref a7, .ref a8, .ref a9, .ref a10, .ref a11, .ref a12, .ref a13, .int (ur18.1 0), .int (ur18.1 1), .int (ur18.1 2), .int (ur18.1 3), .ref a14, .int n0_29, .int n0_30])), (a7, .inl (ct 0, 15, .inl f7)), (a8, .inl (ct 0, 200, .inl f8)), (a9, .inl (ct 0, 1000, .inl f9)), (a11, .inl (ct 0, 8, .inl (ur18.2.1 0))), (a12, .inl (ct 0, 8, .inl (ur18.2.1 1))), (a13, .inl (ct 0, 8, .inl (ur18.2.1 2)))] H → va_D A [(a0, .inr (11, [.int 0, .ref a1, .ref a2, .ref a3, .ref a4, .ref a5, .int n0_6, .int n0_7, .int n0_8, .int n0_9, .int n0_10, .long l0_11, .int n0_12, .int n0_13, .int n0_14, .int n0_15, .ref a6, .ref a7, .ref a8, .ref a9, .ref a10, .ref a11, .ref a12, .ref a13, .int (ur18.1 0), .int (ur18.1 1), .int (ur18.1 2), .int (ur18.1 3), .ref a14, .int n0_29, .int n0_30])), (a7, .inl (ct 0, 15, .inl f7)), (a8, .inl (ct 0, 200, .inl f8)), (a9, .inl (ct 0, 1000, .inl f9)), (a11, .inl (ct 0, 8, .inl (ur18.2.1 0))), (a12, .inl (ct 0, 8, .inl (ur18.2.1 1))), (a13, .inl (ct 0, 8, .inl (ur18.2.1 2)))] → va_S A s.heap H locs → lv_has ls 4 [(0, .ref a0), (1, .int p0), (2, .int x25_2), (3, .int x25_3)] → W p l e (headSpec wsX11_top ({ frames := 5, cells := 0, slots := 0, locals := 111 })).room s m ([.ref a0, .int p0] : List Value).toArray below meth c H locs 0 0 (MQ below (va_Qi (fun (r : Int32) (u : SU) => rg (-2) 7 r ∧ (r = 0 → rg 0 7 p0) ∧ (r = (-1) → rg 0 7 p0) ∧ (¬ r = (-2) → rg 0 7 p0) ∧ ar (-1) 7 (u.2.1 0) ∧ ar (-1) 7 (u.2.1 2) ∧ rg 0 0 (u.1 0) ∧ True) (fun u t => va_P G vwCl ((fun u : SU => [(a0, .inr (11, [.int (u.1 0), .ref a1, .ref a2, .ref a3, .ref a4, .ref a5, .int n0_6, .int n0_7, .int n0_8, .int n0_9, .int n0_10, .long l0_11, .int n0_12, .int n0_13, .int n0_14, .int n0_15, .ref a6, .ref a7, .ref a8, .ref a9, .ref a10, .ref a11, .ref a12, .ref a13, .int (u.1 1), .int (u.1 2), .int (u.1 3), .int (u.1 4), .ref a14, .int n0_29, .int n0_30])), (a7, .inl (ct 0, 15, .inl f7)), (a8, .inl (ct 0, 200, .inl f8)), (a9, .inl (ct 0, 1000, .inl f9)), (a11, .inl (ct 0, 8, .inl (u.2.1 0))), (a12, .inl (ct 0, 8, .inl (u.2.1 1))), (a13, .inl (ct 0, 8, .inl (u.2.1 2)))]) u) t.heap) A) ([.ref a0, .int p0] : List Value).toArray s 0 0 A) (F0 m 25 ls []) := by
      intro n
      induction n with
      | zero => intro x25_2 x25_3 H locs ls hn25 hx25_2 hx25_3 hP hD hS hl; exact absurd hn25 (by have := Int32.toInt_lt x25_3; have := Int32.le_toInt x25_3; omega)
      | succ n ih25 =>
        intro x25_2 x25_3 H locs ls hn25 hx25_2 hx25_3 hP hD hS hl
        refine lv_iload_n hx hb dX11_top_25 rfl (lv_at hl 3 rfl) ?_
        refine lv_bipush (v := 8) hx hb dX11_top_26 (by decide) ?_
        refine lv_icmp_ge (tgt := 56) hx hb dX11_top_28 (by decide) (fun c28 => ?_) (fun c28 => ?_)
        · have h_8 : rg 8 8 x25_3 := r_le_r_i c28 (rgn 8 (x := 8) (by decide)) hx25_3
          refine lv_iconst (v := (-1)) hx hb dX11_top_56 (by decide) ?_
          exact W.iret (v := (-1)) hx hb hr (fun t ht hW => ⟨⟨(-1), (fun k => ([0, ur18.1 0, ur18.1 1, ur18.1 2, ur18.1 3] : List Int32).getD k 0, fun k => ([ur18.2.1 0, ur18.2.1 1, ur18.2.1 2] : List (Nat → Int32)).getD k (fun _ => 0), fun k => ([] : List (Nat → Int64)).getD k (fun _ => 0)), rfl, ⟨(rg_w (c := (-2)) (d := 7) (rgn (-1) (x := (-1)) (by decide)) (by decide)), (fun _ => h_5), (fun _ => h_5), (fun _ => h_5), p_6, p_7, (rgn 0 (x := 0) (by decide)), trivial⟩, hp_at ht hP⟩, hS.F ht⟩) hS.2.2 dX11_top_57
        · have h_9 : rg 0 7 x25_3 := r_lt_l_i (nle_i c28) hx25_3 (rgn 8 (x := 8) (by decide)) (by decide)
          refine lv_aload_n hx hb dX11_top_31 rfl (lv_at hl 0 rfl) ?_
          refine va_get (D := G) (ci := 11) (v := .ref a11) (C := RX11) (T := TX11) (N := 31) hx hb hts (by decide +kernel) hown hK.1 hP 0 rfl rfl 21 (by decide) (hts (.fieldLink RX11 47 "CardHolderModel" "holder" "[I") (by decide +kernel)) (fun _ h9 => h9) rfl dX11_top_32 ?_
          refine lv_iload_n hx hb dX11_top_35 rfl (lv_at hl 2 rfl) ?_
          refine va_iald hx hb hK.1 hP 4 0 rfl rfl (in_rg hx25_2 (by decide)) dX11_top_36 ?_
          refine lv_topi (fun z36 gz36 => ?_)
          have hz36 : rg (-1) 7 z36 := by rw [gz36]; exact p_6 _
          refine lv_iconst (v := (-1)) hx hb dX11_top_37 (by decide) ?_
          refine lv_icmp_ne (tgt := 43) hx hb dX11_top_38 (by decide) (fun c38 => ?_) (fun c38 => ?_)
          · have h_10 : rg 0 7 z36 := r_ne_lo_i c38 hz36 (by decide) (by decide)
            refine lv_aload_n hx hb dX11_top_43 rfl (lv_at hl 0 rfl) ?_
            refine va_get (D := G) (ci := 11) (v := .ref a11) (C := RX11) (T := TX11) (N := 31) hx hb hts (by decide +kernel) hown hK.1 hP 0 rfl rfl 21 (by decide) (hts (.fieldLink RX11 47 "CardHolderModel" "holder" "[I") (by decide +kernel)) (fun _ h9 => h9) rfl dX11_top_44 ?_
            refine lv_iload_n hx hb dX11_top_47 rfl (lv_at hl 2 rfl) ?_
            refine va_iald hx hb hK.1 hP 4 0 rfl rfl (in_rg hx25_2 (by decide)) dX11_top_48 ?_
            refine ix_i (y := z36) gz36.symm ?_
            refine lv_istore_n (lv' := [(2, .int z36), (0, .ref a0), (1, .int p0), (3, .int x25_3)]) hx hb dX11_top_49 rfl hl (by decide) rfl (fun ls hl => ?_)
            obtain ⟨z50, qz50⟩ : ∃ y : Int32, y = x25_3 + Int32.ofInt 1 := ⟨_, rfl⟩
            obtain ⟨hz50, ez50⟩ := inc_z (e := 1) (f := 8) h_9 qz50 (by decide)
            refine lv_iinc (v := z50) (lv' := [(3, .int z50), (2, .int z36), (0, .ref a0), (1, .int p0)]) hx hb dX11_top_50 hl (k := 3) rfl (qz50.symm) (by decide) rfl (fun ls hl => ?_)
            refine lv_goto (tgt := 25) hx hb dX11_top_53 (by decide) ?_
            exact ih25 z36 z50 _ _ ls (by have q := hn25; have := ez50; omega) h_10 (rg_w (c := 0) (d := 8) hz50 (by decide)) hP hD hS (lv_sub hl [2, 3, 1, 0] rfl)
          · have h_11 : rg (-1) (-1) z36 := r_eq_l_i (e := (-1)) (f := (-1)) c38 hz36 (rgn (-1) (x := (-1)) (by decide)) (by decide)
            refine lv_iload_n hx hb dX11_top_41 rfl (lv_at hl 2 rfl) ?_
            exact W.iret (v := x25_2) hx hb hr (fun t ht hW => ⟨⟨x25_2, (fun k => ([0, ur18.1 0, ur18.1 1, ur18.1 2, ur18.1 3] : List Int32).getD k 0, fun k => ([ur18.2.1 0, ur18.2.1 1, ur18.2.1 2] : List (Nat → Int32)).getD k (fun _ => 0), fun k => ([] : List (Nat → Int64)).getD k (fun _ => 0)), rfl, ⟨(rg_w (c := (-2)) (d := 7) hx25_2 (by decide)), (fun _ => h_5), (fun _ => h_5), (fun _ => h_5), p_6, p_7, (rgn 0 (x := 0) (by decide)), trivial⟩, hp_at ht hP⟩, hS.F ht⟩) hS.2.2 dX11_top_42
    exact j25 4294967296 p0 (0 : Int32) _ _ ls (ms_e (0 : Int32)) h_5 (rg_w (c := 0) (d := 8) (rgn 0 (x := 0) (by decide)) (by decide)) hP hD hS (lv_sub hl [2, 3, 1, 0] rfl)
  · have h_12 : rg 0 0 r8 := r_eq_l_i (e := 0) (f := 0) c11 p_1 (rgn 0 (x := 0) (by decide)) (by decide)
    refine lv_bipush (v := (-2)) hx hb dX11_top_14 (by decide) ?_
    exact W.iret (v := (-2)) hx hb hr (fun t ht hW => ⟨⟨(-2), (fun k => ([0, n0_24, n0_25, n0_26, n0_27] : List Int32).getD k 0, fun k => ([f11, f12, f13] : List (Nat → Int32)).getD k (fun _ => 0), fun k => ([] : List (Nat → Int64)).getD k (fun _ => 0)), rfl, ⟨(rg_w (c := (-2)) (d := 7) (rgn (-2) (x := (-2)) (by decide)) (by decide)), (fun hq => absurd hq (rne (rgn (-2) (x := (-2)) (by decide)) (y := 0) (c := 0) (by decide) (by decide))), (fun hq => absurd hq (rne (rgn (-2) (x := (-2)) (by decide)) (y := (-1)) (c := (-1)) (by decide) (by decide))), (fun hq => absurd (req (rgn (-2) (x := (-2)) (by decide)) (y := (-2)) (by decide)) hq), hp_f11, hp_f13, (rgn 0 (x := 0) (by decide)), trivial⟩, hp_at ht hP⟩, hS.F ht⟩) hS.2.2 dX11_top_16

set_option maxHeartbeats 4000000 in
set_option maxRecDepth 100000 in
theorem a_X11_ringOf (l : Launch) (G : va_G) (ct : Nat → ClassId) (a0 : Nat) (n0_0 : Int32) (a1 : Nat) (a2 : Nat) (a3 : Nat) (a4 : Nat) (a5 : Nat) (n0_6 : Int32) (n0_7 : Int32) (n0_8 : Int32) (n0_9 : Int32) (n0_10 : Int32) (l0_11 : Int64) (n0_12 : Int32) (n0_13 : Int32) (n0_14 : Int32) (n0_15 : Int32) (a6 : Nat) (a7 : Nat) (a8 : Nat) (a9 : Nat) (a10 : Nat) (a11 : Nat) (a12 : Nat) (a13 : Nat) (n0_24 : Int32) (n0_25 : Int32) (n0_26 : Int32) (n0_27 : Int32) (a14 : Nat) (n0_29 : Int32) (n0_30 : Int32) (f11 : Nat → Int32) (p0 : Int32) (hp_n0_6 : rg 0 900 n0_6) (hp_f11 : ar (-1) 7 f11) (hp_p0 : rg 0 7 p0) : Met l yX11_ringOf wsX11_ringOf ({ frames := 0, cells := 0, slots := 0, locals := 0 }) (va_Pc [.ref a0, .int p0] (roP G ct [(a0, .inr (11, [.int n0_0, .ref a1, .ref a2, .ref a3, .ref a4, .ref a5, .int n0_6, .int n0_7, .int n0_8, .int n0_9, .int n0_10, .long l0_11, .int n0_12, .int n0_13, .int n0_14, .int n0_15, .ref a6, .ref a7, .ref a8, .ref a9, .ref a10, .ref a11, .ref a12, .ref a13, .int n0_24, .int n0_25, .int n0_26, .int n0_27, .ref a14, .int n0_29, .int n0_30])), (a11, .inl (ct 0, 8, .inl f11))])) (roQ (fun r => rg 0 8 r ∧ True)) 0 0 no := by
  refine Met.ofW (cc := cX11_ringOf) (maxL := 4) (ret := (some .int)) (by decide) rfl ?_
  intro p e s m args below meth c s₁ B hml hv
  obtain ⟨rfl, hP, hK⟩ := hv
  have hx := B.exec
  have hb := B.bytes
  have hr := B.returns
  have hts := atoms_spec (ws := wsX11_ringOf) B.pre
  have hown : s.vm.findClass RX11 = some m.cls := findClass_of_methodNamed B.named
  have hlocks := B.notSynchronized
  have hS : va_S no s.heap s.heap [] := va_S.rf
  have hl := lv_entry ([.ref a0, .int p0]) (n := 4) (Nat.le_of_ble_eq_true rfl)
  rw [lg_entry_eq]
  generalize (lg_sl ([.ref a0, .int p0]) ++ List.replicate (4 - (lg_sl ([.ref a0, .int p0])).length) Slot.unset).toArray = ls at hl ⊢
  have hl : lv_has ls 4 [(0, .ref a0), (1, .int p0)] := hl
  refine lv_iload_n hx hb dX11_ringOf_0 rfl (lv_at hl 1 rfl) ?_
  refine lv_istore_n (lv' := [(2, .int p0), (0, .ref a0), (1, .int p0)]) hx hb dX11_ringOf_1 rfl hl (by decide) rfl (fun ls hl => ?_)
  refine lv_iconst (v := 1) hx hb dX11_ringOf_2 (by decide) ?_
  refine lv_istore_n (lv' := [(3, .int 1), (2, .int p0), (0, .ref a0), (1, .int p0)]) hx hb dX11_ringOf_3 rfl hl (by decide) rfl (fun ls hl => ?_)
  have j4 : ∀ (n : Nat) (x4_2 : Int32) (x4_3 : Int32) (H : Heap) (locs : List Loc) (ls : Array Slot), 2147483648 ≤ x4_3.toInt + (n : Int) → rg 0 7 x4_2 → rg 1 9 x4_3 → va_P G vwCl [(a0, .inr (11, [.int n0_0, .ref a1, .ref a2, .ref a3, .ref a4, .ref a5, .int n0_6, .int n0_7, .int n0_8, .int n0_9, .int n0_10, .long l0_11, .int n0_12, .int n0_13, .int n0_14, .int n0_15, .ref a6, .ref a7, .ref a8, .ref a9, .ref a10, .ref a11, .ref a12, .ref a13, .int n0_24, .int n0_25, .int n0_26, .int n0_27, .ref a14, .int n0_29, .int n0_30])), (a11, .inl (ct 0, 8, .inl f11))] H → va_S no s.heap H locs → lv_has ls 4 [(0, .ref a0), (1, .int p0), (2, .int x4_2), (3, .int x4_3)] → W p l e (headSpec wsX11_ringOf ({ frames := 0, cells := 0, slots := 0, locals := 0 })).room s m ([.ref a0, .int p0] : List Value).toArray below meth c H locs 0 0 (MQ below (roQ (fun r => rg 0 8 r ∧ True)) ([.ref a0, .int p0] : List Value).toArray s 0 0 no) (F0 m 4 ls []) := by
    intro n
    induction n with
    | zero => intro x4_2 x4_3 H locs ls hn4 hx4_2 hx4_3 hP hS hl; exact absurd hn4 (by have := Int32.toInt_lt x4_3; have := Int32.le_toInt x4_3; omega)
    | succ n ih4 =>
      intro x4_2 x4_3 H locs ls hn4 hx4_2 hx4_3 hP hS hl
      refine lv_iload_n hx hb dX11_ringOf_4 rfl (lv_at hl 3 rfl) ?_
      refine lv_bipush (v := 8) hx hb dX11_ringOf_5 (by decide) ?_
      refine lv_icmp_gt (tgt := 42) hx hb dX11_ringOf_7 (by decide) (fun c7 => ?_) (fun c7 => ?_)
      · have h_1 : rg 9 9 x4_3 := r_lt_r_i c7 (rgn 8 (x := 8) (by decide)) hx4_3 (by decide)
        refine lv_iconst (v := 0) hx hb dX11_ringOf_42 (by decide) ?_
        exact W.iret (v := 0) hx hb hr (fun t ht hW => ⟨⟨0, (), rfl, ⟨(rg_w (c := 0) (d := 8) (rgn 0 (x := 0) (by decide)) (by decide)), trivial⟩, trivial⟩, hS.F ht⟩) hS.2.2 dX11_ringOf_43
      · have h_2 : rg 1 8 x4_3 := r_le_l_i (nlt_i c7) hx4_3 (rgn 8 (x := 8) (by decide))
        refine lv_aload_n hx hb dX11_ringOf_10 rfl (lv_at hl 0 rfl) ?_
        refine va_get (D := G) (ci := 11) (v := .ref a11) (C := RX11) (T := TX11) (N := 31) hx hb hts (by decide +kernel) hown hK.1 hP 0 rfl rfl 21 (by decide) (hts (.fieldLink RX11 47 "CardHolderModel" "holder" "[I") (by decide +kernel)) (fun _ h9 => h9) rfl dX11_ringOf_11 ?_
        refine lv_iload_n hx hb dX11_ringOf_14 rfl (lv_at hl 2 rfl) ?_
        refine va_iald hx hb hK.1 hP 1 0 rfl rfl (in_rg hx4_2 (by decide)) dX11_ringOf_15 ?_
        refine lv_topi (fun z15 gz15 => ?_)
        have hz15 : rg (-1) 7 z15 := by rw [gz15]; exact hp_f11 _
        refine lv_iconst (v := (-1)) hx hb dX11_ringOf_16 (by decide) ?_
        refine lv_icmp_ne (tgt := 22) hx hb dX11_ringOf_17 (by decide) (fun c17 => ?_) (fun c17 => ?_)
        · have h_3 : rg 0 7 z15 := r_ne_lo_i c17 hz15 (by decide) (by decide)
          refine lv_aload_n hx hb dX11_ringOf_22 rfl (lv_at hl 0 rfl) ?_
          refine va_get (D := G) (ci := 11) (v := .ref a11) (C := RX11) (T := TX11) (N := 31) hx hb hts (by decide +kernel) hown hK.1 hP 0 rfl rfl 21 (by decide) (hts (.fieldLink RX11 47 "CardHolderModel" "holder" "[I") (by decide +kernel)) (fun _ h9 => h9) rfl dX11_ringOf_23 ?_
          refine lv_iload_n hx hb dX11_ringOf_26 rfl (lv_at hl 2 rfl) ?_
          refine va_iald hx hb hK.1 hP 1 0 rfl rfl (in_rg hx4_2 (by decide)) dX11_ringOf_27 ?_
          refine ix_i (y := z15) gz15.symm ?_
          refine lv_istore_n (lv' := [(2, .int z15), (0, .ref a0), (1, .int p0), (3, .int x4_3)]) hx hb dX11_ringOf_28 rfl hl (by decide) rfl (fun ls hl => ?_)
          refine lv_iload_n hx hb dX11_ringOf_29 rfl (lv_at hl 0 rfl) ?_
          refine lv_iload_n hx hb dX11_ringOf_30 rfl (lv_at hl 2 rfl) ?_
          refine lv_icmp_ne (tgt := 36) hx hb dX11_ringOf_31 (by decide) (fun c31 => ?_) (fun c31 => ?_)
          · obtain ⟨z36, qz36⟩ : ∃ y : Int32, y = x4_3 + Int32.ofInt 1 := ⟨_, rfl⟩
            obtain ⟨hz36, ez36⟩ := inc_z (e := 2) (f := 9) h_2 qz36 (by decide)
            refine lv_iinc (v := z36) (lv' := [(3, .int z36), (2, .int z15), (0, .ref a0), (1, .int p0)]) hx hb dX11_ringOf_36 hl (k := 3) rfl (qz36.symm) (by decide) rfl (fun ls hl => ?_)
            refine lv_goto (tgt := 4) hx hb dX11_ringOf_39 (by decide) ?_
            exact ih4 z15 z36 _ _ ls (by have q := hn4; have := ez36; omega) h_3 (rg_w (c := 1) (d := 9) hz36 (by decide)) hP hS (lv_sub hl [2, 3, 1, 0] rfl)
          · refine lv_iload_n hx hb dX11_ringOf_34 rfl (lv_at hl 3 rfl) ?_
            exact W.iret (v := x4_3) hx hb hr (fun t ht hW => ⟨⟨x4_3, (), rfl, ⟨(rg_w (c := 0) (d := 8) h_2 (by decide)), trivial⟩, trivial⟩, hS.F ht⟩) hS.2.2 dX11_ringOf_35
        · have h_4 : rg (-1) (-1) z15 := r_eq_l_i (e := (-1)) (f := (-1)) c17 hz15 (rgn (-1) (x := (-1)) (by decide)) (by decide)
          refine lv_iconst (v := 0) hx hb dX11_ringOf_20 (by decide) ?_
          exact W.iret (v := 0) hx hb hr (fun t ht hW => ⟨⟨0, (), rfl, ⟨(rg_w (c := 0) (d := 8) (rgn 0 (x := 0) (by decide)) (by decide)), trivial⟩, trivial⟩, hS.F ht⟩) hS.2.2 dX11_ringOf_21
  exact j4 4294967296 p0 (1 : Int32) _ _ ls (ms_e (1 : Int32)) hp_p0 (rg_w (c := 1) (d := 9) (rgn 1 (x := 1) (by decide)) (by decide)) hP hS (lv_sub hl [2, 3, 1, 0] rfl)

set_option maxHeartbeats 4000000 in
set_option maxRecDepth 100000 in
theorem a_X11_ringsNow (l : Launch) (G : va_G) (ct : Nat → ClassId) (a0 : Nat) (n0_0 : Int32) (a1 : Nat) (a2 : Nat) (a3 : Nat) (a4 : Nat) (a5 : Nat) (n0_6 : Int32) (n0_7 : Int32) (n0_8 : Int32) (n0_9 : Int32) (n0_10 : Int32) (l0_11 : Int64) (n0_12 : Int32) (n0_13 : Int32) (n0_14 : Int32) (n0_15 : Int32) (a6 : Nat) (a7 : Nat) (a8 : Nat) (a9 : Nat) (a10 : Nat) (a11 : Nat) (a12 : Nat) (a13 : Nat) (n0_24 : Int32) (n0_25 : Int32) (n0_26 : Int32) (n0_27 : Int32) (a14 : Nat) (n0_29 : Int32) (n0_30 : Int32) (f7 : Nat → Int32) (f11 : Nat → Int32) (hp_n0_6 : rg 0 900 n0_6) (hp_f7 : hsI f7) (hp_f11 : ar (-1) 7 f11) : Met l yX11_ringsNow wsX11_ringsNow ({ frames := 1, cells := 0, slots := 0, locals := 23 }) (va_Pc [.ref a0] (roP G ct [(a0, .inr (11, [.int n0_0, .ref a1, .ref a2, .ref a3, .ref a4, .ref a5, .int n0_6, .int n0_7, .int n0_8, .int n0_9, .int n0_10, .long l0_11, .int n0_12, .int n0_13, .int n0_14, .int n0_15, .ref a6, .ref a7, .ref a8, .ref a9, .ref a10, .ref a11, .ref a12, .ref a13, .int n0_24, .int n0_25, .int n0_26, .int n0_27, .ref a14, .int n0_29, .int n0_30])), (a7, .inl (ct 0, 15, .inl f7)), (a11, .inl (ct 0, 8, .inl f11))])) (roQ (fun r => True)) 0 0 no := by
  refine Met.ofW (cc := cX11_ringsNow) (maxL := 7) (ret := (some .int)) (by decide) rfl ?_
  intro p e s m args below meth c s₁ B hml hv
  obtain ⟨rfl, hP, hK⟩ := hv
  have hx := B.exec
  have hb := B.bytes
  have hr := B.returns
  have hts := atoms_spec (ws := wsX11_ringsNow) B.pre
  have hown : s.vm.findClass RX11 = some m.cls := findClass_of_methodNamed B.named
  have hlocks := B.notSynchronized
  have hS : va_S no s.heap s.heap [] := va_S.rf
  have hl := lv_entry ([.ref a0]) (n := 7) (Nat.le_of_ble_eq_true rfl)
  rw [lg_entry_eq]
  generalize (lg_sl ([.ref a0]) ++ List.replicate (7 - (lg_sl ([.ref a0])).length) Slot.unset).toArray = ls at hl ⊢
  have hl : lv_has ls 7 [(0, .ref a0)] := hl
  refine lv_iconst (v := 0) hx hb dX11_ringsNow_0 (by decide) ?_
  refine lv_istore_n (lv' := [(1, .int 0), (0, .ref a0)]) hx hb dX11_ringsNow_1 rfl hl (by decide) rfl (fun ls hl => ?_)
  refine lv_iconst (v := 0) hx hb dX11_ringsNow_2 (by decide) ?_
  refine lv_istore_n (lv' := [(2, .int 0), (1, .int 0), (0, .ref a0)]) hx hb dX11_ringsNow_3 rfl hl (by decide) rfl (fun ls hl => ?_)
  have j4 : ∀ (n : Nat) (x4_1 : Int32) (x4_2 : Int32) (H : Heap) (locs : List Loc) (ls : Array Slot), 2147483648 ≤ x4_2.toInt + (n : Int) → rg 0 8 x4_2 → va_P G vwCl [(a0, .inr (11, [.int n0_0, .ref a1, .ref a2, .ref a3, .ref a4, .ref a5, .int n0_6, .int n0_7, .int n0_8, .int n0_9, .int n0_10, .long l0_11, .int n0_12, .int n0_13, .int n0_14, .int n0_15, .ref a6, .ref a7, .ref a8, .ref a9, .ref a10, .ref a11, .ref a12, .ref a13, .int n0_24, .int n0_25, .int n0_26, .int n0_27, .ref a14, .int n0_29, .int n0_30])), (a7, .inl (ct 0, 15, .inl f7)), (a11, .inl (ct 0, 8, .inl f11))] H → va_S no s.heap H locs → lv_has ls 7 [(0, .ref a0), (1, .int x4_1), (2, .int x4_2)] → W p l e (headSpec wsX11_ringsNow ({ frames := 1, cells := 0, slots := 0, locals := 23 })).room s m ([.ref a0] : List Value).toArray below meth c H locs 0 0 (MQ below (roQ (fun r => True)) ([.ref a0] : List Value).toArray s 0 0 no) (F0 m 4 ls []) := by
    intro n
    induction n with
    | zero => intro x4_1 x4_2 H locs ls hn4 hx4_2 hP hS hl; exact absurd hn4 (by have := Int32.toInt_lt x4_2; have := Int32.le_toInt x4_2; omega)
    | succ n ih4 =>
      intro x4_1 x4_2 H locs ls hn4 hx4_2 hP hS hl
      refine lv_iload_n hx hb dX11_ringsNow_4 rfl (lv_at hl 2 rfl) ?_
      refine lv_aload_n hx hb dX11_ringsNow_5 rfl (lv_at hl 0 rfl) ?_
      refine va_get (D := G) (ci := 11) (v := .ref a7) (C := RX11) (T := TX11) (N := 31) hx hb hts (by decide +kernel) hown hK.1 hP 0 rfl rfl 17 (by decide) (hts (.fieldLink RX11 34 "CardHolderModel" "has" "[I") (by decide +kernel)) (fun _ h9 => h9) rfl dX11_ringsNow_6 ?_
      refine lv_iconst (v := 1) hx hb dX11_ringsNow_9 (by decide) ?_
      refine va_iald hx hb hK.1 hP 1 0 rfl rfl (in_lit (by decide)) dX11_ringsNow_10 ?_
      refine lv_topi (fun z10 gz10 => ?_)
      have hz10 : rg 0 8 z10 := by rw [gz10]; exact (hp_f7.1 0)
      refine lv_icmp_ge (tgt := 95) hx hb dX11_ringsNow_11 (by decide) (fun c11 => ?_) (fun c11 => ?_)
      · refine lv_iload_n hx hb dX11_ringsNow_95 rfl (lv_at hl 1 rfl) ?_
        exact W.iret (v := x4_1) hx hb hr (fun t ht hW => ⟨⟨x4_1, (), rfl, trivial, trivial⟩, hS.F ht⟩) hS.2.2 dX11_ringsNow_96
      · have h_1 : rg 0 7 x4_2 := r_lt_l_i (nle_i c11) hx4_2 hz10 (by decide)
        have h_2 : rg 1 8 z10 := r_lt_r_i (nle_i c11) hx4_2 hz10 (by decide)
        refine lv_aload_n hx hb dX11_ringsNow_14 rfl (lv_at hl 0 rfl) ?_
        refine lv_iload_n hx hb dX11_ringsNow_15 rfl (lv_at hl 2 rfl) ?_
        refine ro_calli (va_runV (As := [.int x4_2]) (rest := []) ⟨hx, hb, hml, hown, hts⟩ (a_X11_ringOf l G ct a0 n0_0 a1 a2 a3 a4 a5 n0_6 n0_7 n0_8 n0_9 n0_10 l0_11 n0_12 n0_13 n0_14 n0_15 a6 a7 a8 a9 a10 a11 a12 a13 n0_24 n0_25 n0_26 n0_27 a14 n0_29 n0_30 f11 x4_2 hp_n0_6 hp_f11 h_1) (cwV 1 hts gX11_ringsNow_X11_ringOf rfl rfl rfl (by decide +kernel) ⟨Nat.le_of_ble_eq_true rfl, Nat.le_of_ble_eq_true rfl⟩) (ro_preV 11 0 hK (hP.sub [0, 2] rfl) rfl rfl) rfl rfl hl.1 rfl (lv_room (Nat.le_of_ble_eq_true rfl)) dX11_ringsNow_16 ⟨Nat.zero_le _, Nat.zero_le _⟩) hS hP (fun r16 H locs wr16 hP hS => ?_)
        obtain ⟨p_3, -⟩ := wr16
        refine lv_istore_n (lv' := [(3, .int r16), (0, .ref a0), (1, .int x4_1), (2, .int x4_2)]) hx hb dX11_ringsNow_19 rfl hl (by decide) rfl (fun ls hl => ?_)
        refine lv_iload_n hx hb dX11_ringsNow_20 rfl (lv_at hl 0 rfl) ?_
        refine lv_if_le (tgt := 28) hx hb dX11_ringsNow_21 (by decide) (fun c21 => ?_) (fun c21 => ?_)
        · have h_4 : rg 0 0 r16 := r_le_l_i c21 p_3 (rgn 0 (x := 0) (by decide))
          refine lv_iconst (v := 0) hx hb dX11_ringsNow_28 (by decide) ?_
          refine lv_istore (lv' := [(4, .int 0), (3, .int r16), (0, .ref a0), (1, .int x4_1), (2, .int x4_2)]) hx hb dX11_ringsNow_29 hl (by decide) rfl (fun ls hl => ?_)
          refine lv_iload_n hx hb dX11_ringsNow_31 rfl (lv_at hl 4 rfl) ?_
          refine lv_istore (lv' := [(5, .int x4_2), (4, .int 0), (3, .int r16), (0, .ref a0), (1, .int x4_1), (2, .int x4_2)]) hx hb dX11_ringsNow_32 hl (by decide) rfl (fun ls hl => ?_)
          refine lv_iconst (v := 0) hx hb dX11_ringsNow_34 (by decide) ?_
          refine lv_istore (lv' := [(6, .int 0), (5, .int x4_2), (4, .int 0), (3, .int r16), (0, .ref a0), (1, .int x4_1), (2, .int x4_2)]) hx hb dX11_ringsNow_35 hl (by decide) rfl (fun ls hl => ?_)
          have j37 : ∀ (n : Nat) (x37_4 : Int32) (x37_5 : Int32) (x37_6 : Int32) (H : Heap) (locs : List Loc) (ls : Array Slot), 2147483648 ≤ x37_6.toInt + (n : Int) → rg 0 1 x37_4 → rg (-1) 7 x37_5 → rg 0 8 x37_6 → (¬ x37_4 = 0 → rg 0 7 x37_5) → va_P G vwCl [(a0, .inr (11, [.int n0_0, .ref a1, .ref a2, .ref a3, .ref a4, .ref a5, .int n0_6, .int n0_7, .int n0_8, .int n0_9, .int n0_10, .long l0_11, .int n0_12, .int n0_13, .int n0_14, .int n0_15, .ref a6, .ref a7, .ref a8, .ref a9, .ref a10, .ref a11, .ref a12, .ref a13, .int n0_24, .int n0_25, .int n0_26, .int n0_27, .ref a14, .int n0_29, .int n0_30])), (a7, .inl (ct 0, 15, .inl f7)), (a11, .inl (ct 0, 8, .inl f11))] H → va_S no s.heap H locs → lv_has ls 7 [(0, .ref a0), (1, .int x4_1), (2, .int x4_2), (3, .int r16), (4, .int x37_4), (5, .int x37_5), (6, .int x37_6)] → W p l e (headSpec wsX11_ringsNow ({ frames := 1, cells := 0, slots := 0, locals := 23 })).room s m ([.ref a0] : List Value).toArray below meth c H locs 0 0 (MQ below (roQ (fun r => True)) ([.ref a0] : List Value).toArray s 0 0 no) (F0 m 37 ls []) := by
            intro n
            induction n with
            | zero => intro x37_4 x37_5 x37_6 H locs ls hn37 hx37_4 hx37_5 hx37_6 hr37 hP hS hl; exact absurd hn37 (by have := Int32.toInt_lt x37_6; have := Int32.le_toInt x37_6; omega)
            | succ n ih37 =>
              intro x37_4 x37_5 x37_6 H locs ls hn37 hx37_4 hx37_5 hx37_6 hr37 hP hS hl
              refine lv_iload hx hb dX11_ringsNow_37 (lv_at hl 6 rfl) ?_
              refine lv_iload_n hx hb dX11_ringsNow_39 rfl (lv_at hl 3 rfl) ?_
              have j76 : ∀ (H : Heap) (locs : List Loc) (ls : Array Slot), va_P G vwCl [(a0, .inr (11, [.int n0_0, .ref a1, .ref a2, .ref a3, .ref a4, .ref a5, .int n0_6, .int n0_7, .int n0_8, .int n0_9, .int n0_10, .long l0_11, .int n0_12, .int n0_13, .int n0_14, .int n0_15, .ref a6, .ref a7, .ref a8, .ref a9, .ref a10, .ref a11, .ref a12, .ref a13, .int n0_24, .int n0_25, .int n0_26, .int n0_27, .ref a14, .int n0_29, .int n0_30])), (a7, .inl (ct 0, 15, .inl f7)), (a11, .inl (ct 0, 8, .inl f11))] H → va_S no s.heap H locs → lv_has ls 7 [(0, .ref a0), (1, .int x4_1), (2, .int x4_2), (3, .int r16), (4, .int x37_4), (5, .int x37_5), (6, .int x37_6)] → W p l e (headSpec wsX11_ringsNow ({ frames := 1, cells := 0, slots := 0, locals := 23 })).room s m ([.ref a0] : List Value).toArray below meth c H locs 0 0 (MQ below (roQ (fun r => True)) ([.ref a0] : List Value).toArray s 0 0 no) (F0 m 76 ls []) := by
                intro  H locs ls  hP hS hl
                refine lv_iload_n hx hb dX11_ringsNow_76 rfl (lv_at hl 1 rfl) ?_
                refine lv_iload hx hb dX11_ringsNow_77 (lv_at hl 4 rfl) ?_
                have j87 : ∀ (y87_0 : Int32) (H : Heap) (locs : List Loc) (ls : Array Slot), rg 0 1 y87_0 → va_P G vwCl [(a0, .inr (11, [.int n0_0, .ref a1, .ref a2, .ref a3, .ref a4, .ref a5, .int n0_6, .int n0_7, .int n0_8, .int n0_9, .int n0_10, .long l0_11, .int n0_12, .int n0_13, .int n0_14, .int n0_15, .ref a6, .ref a7, .ref a8, .ref a9, .ref a10, .ref a11, .ref a12, .ref a13, .int n0_24, .int n0_25, .int n0_26, .int n0_27, .ref a14, .int n0_29, .int n0_30])), (a7, .inl (ct 0, 15, .inl f7)), (a11, .inl (ct 0, 8, .inl f11))] H → va_S no s.heap H locs → lv_has ls 7 [(0, .ref a0), (1, .int x4_1), (2, .int x4_2), (3, .int r16), (4, .int x37_4), (5, .int x37_5), (6, .int x37_6)] → W p l e (headSpec wsX11_ringsNow ({ frames := 1, cells := 0, slots := 0, locals := 23 })).room s m ([.ref a0] : List Value).toArray below meth c H locs 0 0 (MQ below (roQ (fun r => True)) ([.ref a0] : List Value).toArray s 0 0 no) (F0 m 87 ls [.int y87_0, .int x4_1]) := by
                  intro y87_0 H locs ls hy87_0 hP hS hl
                  refine lv_iadd hx hb dX11_ringsNow_87 ?_
                  refine nm_0 (fun z87 => ?_)
                  refine lv_istore_n (lv' := [(1, .int z87), (0, .ref a0), (2, .int x4_2), (3, .int r16), (4, .int x37_4), (5, .int x37_5), (6, .int x37_6)]) hx hb dX11_ringsNow_88 rfl hl (by decide) rfl (fun ls hl => ?_)
                  obtain ⟨z89, qz89⟩ : ∃ y : Int32, y = x4_2 + Int32.ofInt 1 := ⟨_, rfl⟩
                  obtain ⟨hz89, ez89⟩ := inc_z (e := 1) (f := 8) h_1 qz89 (by decide)
                  refine lv_iinc (v := z89) (lv' := [(2, .int z89), (1, .int z87), (0, .ref a0), (3, .int r16), (4, .int x37_4), (5, .int x37_5), (6, .int x37_6)]) hx hb dX11_ringsNow_89 hl (k := 2) rfl (qz89.symm) (by decide) rfl (fun ls hl => ?_)
                  refine lv_goto (tgt := 4) hx hb dX11_ringsNow_92 (by decide) ?_
                  exact ih4 z87 z89 _ _ ls (by have q := hn4; have := ez89; omega) (rg_w (c := 0) (d := 8) hz89 (by decide)) hP hS (lv_sub hl [2, 1, 0] rfl)
                refine lv_if_eq (tgt := 86) hx hb dX11_ringsNow_79 (by decide) (fun c79 => ?_) (fun c79 => ?_)
                · have h_5 : rg 0 0 x37_4 := r_eq_l_i (e := 0) (f := 0) c79 hx37_4 (rgn 0 (x := 0) (by decide)) (by decide)
                  refine lv_iconst (v := 0) hx hb dX11_ringsNow_86 (by decide) ?_
                  exact j87 (0 : Int32) _ _ ls (rg_w (c := 0) (d := 1) (rgn 0 (x := 0) (by decide)) (by decide)) hP hS (lv_sub hl [0, 1, 2, 3, 4, 5, 6] rfl)
                · have h_6 : rg 1 1 x37_4 := r_ne_lo_i c79 hx37_4 (by decide) (by decide)
                  refine lv_iconst (v := 1) hx hb dX11_ringsNow_82 (by decide) ?_
                  refine lv_goto (tgt := 87) hx hb dX11_ringsNow_83 (by decide) ?_
                  exact j87 (1 : Int32) _ _ ls (rg_w (c := 0) (d := 1) (rgn 1 (x := 1) (by decide)) (by decide)) hP hS (lv_sub hl [0, 1, 2, 3, 4, 5, 6] rfl)
              refine lv_icmp_ge (tgt := 76) hx hb dX11_ringsNow_40 (by decide) (fun c40 => ?_) (fun c40 => ?_)
              · exact j76 _ _ ls hP hS (lv_sub hl [0, 1, 2, 3, 4, 5, 6] rfl)
              · exact (dd_lt_i (nle_i c40) hx37_6 h_4 (by decide)).elim
          exact j37 4294967296 (0 : Int32) x4_2 (0 : Int32) _ _ ls (ms_e (0 : Int32)) (rg_w (c := 0) (d := 1) (rgn 0 (x := 0) (by decide)) (by decide)) (rg_w (c := (-1)) (d := 7) h_1 (by decide)) (rg_w (c := 0) (d := 8) (rgn 0 (x := 0) (by decide)) (by decide)) (fun hq => absurd rfl hq) hP hS (lv_sub hl [4, 5, 6, 3, 2, 1, 0] rfl)
        · have h_7 : rg 1 8 r16 := r_lt_r_i (nle_i c21) (rgn 0 (x := 0) (by decide)) p_3 (by decide)
          refine lv_iconst (v := 1) hx hb dX11_ringsNow_24 (by decide) ?_
          refine lv_goto (tgt := 29) hx hb dX11_ringsNow_25 (by decide) ?_
          refine lv_istore (lv' := [(4, .int 1), (3, .int r16), (0, .ref a0), (1, .int x4_1), (2, .int x4_2)]) hx hb dX11_ringsNow_29 hl (by decide) rfl (fun ls hl => ?_)
          refine lv_iload_n hx hb dX11_ringsNow_31 rfl (lv_at hl 4 rfl) ?_
          refine lv_istore (lv' := [(5, .int x4_2), (4, .int 1), (3, .int r16), (0, .ref a0), (1, .int x4_1), (2, .int x4_2)]) hx hb dX11_ringsNow_32 hl (by decide) rfl (fun ls hl => ?_)
          refine lv_iconst (v := 0) hx hb dX11_ringsNow_34 (by decide) ?_
          refine lv_istore (lv' := [(6, .int 0), (5, .int x4_2), (4, .int 1), (3, .int r16), (0, .ref a0), (1, .int x4_1), (2, .int x4_2)]) hx hb dX11_ringsNow_35 hl (by decide) rfl (fun ls hl => ?_)
          have j37 : ∀ (n : Nat) (x37_4 : Int32) (x37_5 : Int32) (x37_6 : Int32) (H : Heap) (locs : List Loc) (ls : Array Slot), 2147483648 ≤ x37_6.toInt + (n : Int) → rg 0 1 x37_4 → rg (-1) 7 x37_5 → rg 0 8 x37_6 → (¬ x37_4 = 0 → rg 0 7 x37_5) → va_P G vwCl [(a0, .inr (11, [.int n0_0, .ref a1, .ref a2, .ref a3, .ref a4, .ref a5, .int n0_6, .int n0_7, .int n0_8, .int n0_9, .int n0_10, .long l0_11, .int n0_12, .int n0_13, .int n0_14, .int n0_15, .ref a6, .ref a7, .ref a8, .ref a9, .ref a10, .ref a11, .ref a12, .ref a13, .int n0_24, .int n0_25, .int n0_26, .int n0_27, .ref a14, .int n0_29, .int n0_30])), (a7, .inl (ct 0, 15, .inl f7)), (a11, .inl (ct 0, 8, .inl f11))] H → va_S no s.heap H locs → lv_has ls 7 [(0, .ref a0), (1, .int x4_1), (2, .int x4_2), (3, .int r16), (4, .int x37_4), (5, .int x37_5), (6, .int x37_6)] → W p l e (headSpec wsX11_ringsNow ({ frames := 1, cells := 0, slots := 0, locals := 23 })).room s m ([.ref a0] : List Value).toArray below meth c H locs 0 0 (MQ below (roQ (fun r => True)) ([.ref a0] : List Value).toArray s 0 0 no) (F0 m 37 ls []) := by
            intro n
            induction n with
            | zero => intro x37_4 x37_5 x37_6 H locs ls hn37 hx37_4 hx37_5 hx37_6 hr37 hP hS hl; exact absurd hn37 (by have := Int32.toInt_lt x37_6; have := Int32.le_toInt x37_6; omega)
            | succ n ih37 =>
              intro x37_4 x37_5 x37_6 H locs ls hn37 hx37_4 hx37_5 hx37_6 hr37 hP hS hl
              refine lv_iload hx hb dX11_ringsNow_37 (lv_at hl 6 rfl) ?_
              refine lv_iload_n hx hb dX11_ringsNow_39 rfl (lv_at hl 3 rfl) ?_
              have j76 : ∀ (H : Heap) (locs : List Loc) (ls : Array Slot), va_P G vwCl [(a0, .inr (11, [.int n0_0, .ref a1, .ref a2, .ref a3, .ref a4, .ref a5, .int n0_6, .int n0_7, .int n0_8, .int n0_9, .int n0_10, .long l0_11, .int n0_12, .int n0_13, .int n0_14, .int n0_15, .ref a6, .ref a7, .ref a8, .ref a9, .ref a10, .ref a11, .ref a12, .ref a13, .int n0_24, .int n0_25, .int n0_26, .int n0_27, .ref a14, .int n0_29, .int n0_30])), (a7, .inl (ct 0, 15, .inl f7)), (a11, .inl (ct 0, 8, .inl f11))] H → va_S no s.heap H locs → lv_has ls 7 [(0, .ref a0), (1, .int x4_1), (2, .int x4_2), (3, .int r16), (4, .int x37_4), (5, .int x37_5), (6, .int x37_6)] → W p l e (headSpec wsX11_ringsNow ({ frames := 1, cells := 0, slots := 0, locals := 23 })).room s m ([.ref a0] : List Value).toArray below meth c H locs 0 0 (MQ below (roQ (fun r => True)) ([.ref a0] : List Value).toArray s 0 0 no) (F0 m 76 ls []) := by
                intro  H locs ls  hP hS hl
                refine lv_iload_n hx hb dX11_ringsNow_76 rfl (lv_at hl 1 rfl) ?_
                refine lv_iload hx hb dX11_ringsNow_77 (lv_at hl 4 rfl) ?_
                have j87 : ∀ (y87_0 : Int32) (H : Heap) (locs : List Loc) (ls : Array Slot), rg 0 1 y87_0 → va_P G vwCl [(a0, .inr (11, [.int n0_0, .ref a1, .ref a2, .ref a3, .ref a4, .ref a5, .int n0_6, .int n0_7, .int n0_8, .int n0_9, .int n0_10, .long l0_11, .int n0_12, .int n0_13, .int n0_14, .int n0_15, .ref a6, .ref a7, .ref a8, .ref a9, .ref a10, .ref a11, .ref a12, .ref a13, .int n0_24, .int n0_25, .int n0_26, .int n0_27, .ref a14, .int n0_29, .int n0_30])), (a7, .inl (ct 0, 15, .inl f7)), (a11, .inl (ct 0, 8, .inl f11))] H → va_S no s.heap H locs → lv_has ls 7 [(0, .ref a0), (1, .int x4_1), (2, .int x4_2), (3, .int r16), (4, .int x37_4), (5, .int x37_5), (6, .int x37_6)] → W p l e (headSpec wsX11_ringsNow ({ frames := 1, cells := 0, slots := 0, locals := 23 })).room s m ([.ref a0] : List Value).toArray below meth c H locs 0 0 (MQ below (roQ (fun r => True)) ([.ref a0] : List Value).toArray s 0 0 no) (F0 m 87 ls [.int y87_0, .int x4_1]) := by
                  intro y87_0 H locs ls hy87_0 hP hS hl
                  refine lv_iadd hx hb dX11_ringsNow_87 ?_
                  refine nm_0 (fun z87 => ?_)
                  refine lv_istore_n (lv' := [(1, .int z87), (0, .ref a0), (2, .int x4_2), (3, .int r16), (4, .int x37_4), (5, .int x37_5), (6, .int x37_6)]) hx hb dX11_ringsNow_88 rfl hl (by decide) rfl (fun ls hl => ?_)
                  obtain ⟨z89, qz89⟩ : ∃ y : Int32, y = x4_2 + Int32.ofInt 1 := ⟨_, rfl⟩
                  obtain ⟨hz89, ez89⟩ := inc_z (e := 1) (f := 8) h_1 qz89 (by decide)
                  refine lv_iinc (v := z89) (lv' := [(2, .int z89), (1, .int z87), (0, .ref a0), (3, .int r16), (4, .int x37_4), (5, .int x37_5), (6, .int x37_6)]) hx hb dX11_ringsNow_89 hl (k := 2) rfl (qz89.symm) (by decide) rfl (fun ls hl => ?_)
                  refine lv_goto (tgt := 4) hx hb dX11_ringsNow_92 (by decide) ?_
                  exact ih4 z87 z89 _ _ ls (by have q := hn4; have := ez89; omega) (rg_w (c := 0) (d := 8) hz89 (by decide)) hP hS (lv_sub hl [2, 1, 0] rfl)
                refine lv_if_eq (tgt := 86) hx hb dX11_ringsNow_79 (by decide) (fun c79 => ?_) (fun c79 => ?_)
                · have h_8 : rg 0 0 x37_4 := r_eq_l_i (e := 0) (f := 0) c79 hx37_4 (rgn 0 (x := 0) (by decide)) (by decide)
                  refine lv_iconst (v := 0) hx hb dX11_ringsNow_86 (by decide) ?_
                  exact j87 (0 : Int32) _ _ ls (rg_w (c := 0) (d := 1) (rgn 0 (x := 0) (by decide)) (by decide)) hP hS (lv_sub hl [0, 1, 2, 3, 4, 5, 6] rfl)
                · have h_9 : rg 1 1 x37_4 := r_ne_lo_i c79 hx37_4 (by decide) (by decide)
                  refine lv_iconst (v := 1) hx hb dX11_ringsNow_82 (by decide) ?_
                  refine lv_goto (tgt := 87) hx hb dX11_ringsNow_83 (by decide) ?_
                  exact j87 (1 : Int32) _ _ ls (rg_w (c := 0) (d := 1) (rgn 1 (x := 1) (by decide)) (by decide)) hP hS (lv_sub hl [0, 1, 2, 3, 4, 5, 6] rfl)
              refine lv_icmp_ge (tgt := 76) hx hb dX11_ringsNow_40 (by decide) (fun c40 => ?_) (fun c40 => ?_)
              · have h_10 : rg 1 8 x37_6 := r_le_r_i c40 h_7 hx37_6
                exact j76 _ _ ls hP hS (lv_sub hl [0, 1, 2, 3, 4, 5, 6] rfl)
              · have h_11 : rg 0 7 x37_6 := r_lt_l_i (nle_i c40) hx37_6 h_7 (by decide)
                refine lv_iload hx hb dX11_ringsNow_43 (lv_at hl 4 rfl) ?_
                refine lv_if_eq (tgt := 76) hx hb dX11_ringsNow_45 (by decide) (fun c45 => ?_) (fun c45 => ?_)
                · have h_12 : rg 0 0 x37_4 := r_eq_l_i (e := 0) (f := 0) c45 hx37_4 (rgn 0 (x := 0) (by decide)) (by decide)
                  exact j76 _ _ ls hP hS (lv_sub hl [0, 1, 2, 3, 4, 5, 6] rfl)
                · have h_13 : rg 1 1 x37_4 := r_ne_lo_i c45 hx37_4 (by decide) (by decide)
                  have h_14 : rg 0 7 x37_5 := hr37 c45
                  refine lv_aload_n hx hb dX11_ringsNow_48 rfl (lv_at hl 0 rfl) ?_
                  refine va_get (D := G) (ci := 11) (v := .ref a11) (C := RX11) (T := TX11) (N := 31) hx hb hts (by decide +kernel) hown hK.1 hP 0 rfl rfl 21 (by decide) (hts (.fieldLink RX11 47 "CardHolderModel" "holder" "[I") (by decide +kernel)) (fun _ h9 => h9) rfl dX11_ringsNow_49 ?_
                  refine lv_iload hx hb dX11_ringsNow_52 (lv_at hl 5 rfl) ?_
                  refine va_iald hx hb hK.1 hP 2 0 rfl rfl (in_rg h_14 (by decide)) dX11_ringsNow_54 ?_
                  refine lv_topi (fun z54 gz54 => ?_)
                  have hz54 : rg (-1) 7 z54 := by rw [gz54]; exact hp_f11 _
                  refine lv_istore (lv' := [(5, .int z54), (0, .ref a0), (1, .int x4_1), (2, .int x4_2), (3, .int r16), (4, .int x37_4), (6, .int x37_6)]) hx hb dX11_ringsNow_55 hl (by decide) rfl (fun ls hl => ?_)
                  refine lv_iload hx hb dX11_ringsNow_57 (lv_at hl 0 rfl) ?_
                  refine lv_iload_n hx hb dX11_ringsNow_59 rfl (lv_at hl 3 rfl) ?_
                  refine lv_icmp_lt (tgt := 67) hx hb dX11_ringsNow_60 (by decide) (fun c60 => ?_) (fun c60 => ?_)
                  · have h_15 : rg (-1) 6 z54 := r_lt_l_i c60 hz54 h_1 (by decide)
                    refine lv_iconst (v := 0) hx hb dX11_ringsNow_67 (by decide) ?_
                    refine lv_istore (lv' := [(4, .int 0), (5, .int z54), (0, .ref a0), (1, .int x4_1), (2, .int x4_2), (3, .int r16), (6, .int x37_6)]) hx hb dX11_ringsNow_68 hl (by decide) rfl (fun ls hl => ?_)
                    obtain ⟨z70, qz70⟩ : ∃ y : Int32, y = x37_6 + Int32.ofInt 1 := ⟨_, rfl⟩
                    obtain ⟨hz70, ez70⟩ := inc_z (e := 1) (f := 8) h_11 qz70 (by decide)
                    refine lv_iinc (v := z70) (lv' := [(6, .int z70), (4, .int 0), (5, .int z54), (0, .ref a0), (1, .int x4_1), (2, .int x4_2), (3, .int r16)]) hx hb dX11_ringsNow_70 hl (k := 6) rfl (qz70.symm) (by decide) rfl (fun ls hl => ?_)
                    refine lv_goto (tgt := 37) hx hb dX11_ringsNow_73 (by decide) ?_
                    exact ih37 (0 : Int32) z54 z70 _ _ ls (by have q := hn37; have := ez70; omega) (rg_w (c := 0) (d := 1) (rgn 0 (x := 0) (by decide)) (by decide)) (rg_w (c := (-1)) (d := 7) h_15 (by decide)) (rg_w (c := 0) (d := 8) hz70 (by decide)) (fun hq => absurd rfl hq) hP hS (lv_sub hl [3, 4, 5, 6, 1, 2, 0] rfl)
                  · have h_16 : rg 0 7 z54 := r_le_r_i (nlt_i c60) h_1 hz54
                    refine lv_iconst (v := 1) hx hb dX11_ringsNow_63 (by decide) ?_
                    refine lv_goto (tgt := 68) hx hb dX11_ringsNow_64 (by decide) ?_
                    refine lv_istore (lv' := [(4, .int 1), (5, .int z54), (0, .ref a0), (1, .int x4_1), (2, .int x4_2), (3, .int r16), (6, .int x37_6)]) hx hb dX11_ringsNow_68 hl (by decide) rfl (fun ls hl => ?_)
                    obtain ⟨z70, qz70⟩ : ∃ y : Int32, y = x37_6 + Int32.ofInt 1 := ⟨_, rfl⟩
                    obtain ⟨hz70, ez70⟩ := inc_z (e := 1) (f := 8) h_11 qz70 (by decide)
                    refine lv_iinc (v := z70) (lv' := [(6, .int z70), (4, .int 1), (5, .int z54), (0, .ref a0), (1, .int x4_1), (2, .int x4_2), (3, .int r16)]) hx hb dX11_ringsNow_70 hl (k := 6) rfl (qz70.symm) (by decide) rfl (fun ls hl => ?_)
                    refine lv_goto (tgt := 37) hx hb dX11_ringsNow_73 (by decide) ?_
                    exact ih37 (1 : Int32) z54 z70 _ _ ls (by have q := hn37; have := ez70; omega) (rg_w (c := 0) (d := 1) (rgn 1 (x := 1) (by decide)) (by decide)) (rg_w (c := (-1)) (d := 7) h_16 (by decide)) (rg_w (c := 0) (d := 8) hz70 (by decide)) (fun _ => h_16) hP hS (lv_sub hl [3, 4, 5, 6, 1, 2, 0] rfl)
          exact j37 4294967296 (1 : Int32) x4_2 (0 : Int32) _ _ ls (ms_e (0 : Int32)) (rg_w (c := 0) (d := 1) (rgn 1 (x := 1) (by decide)) (by decide)) (rg_w (c := (-1)) (d := 7) h_1 (by decide)) (rg_w (c := 0) (d := 8) (rgn 0 (x := 0) (by decide)) (by decide)) (fun _ => h_1) hP hS (lv_sub hl [4, 5, 6, 3, 2, 1, 0] rfl)
  exact j4 4294967296 (0 : Int32) (0 : Int32) _ _ ls (ms_e (0 : Int32)) (rg_w (c := 0) (d := 8) (rgn 0 (x := 0) (by decide)) (by decide)) hP hS (lv_sub hl [2, 1, 0] rfl)

set_option maxHeartbeats 4000000 in
set_option maxRecDepth 100000 in
theorem a_X11_ring (l : Launch) (G : va_G) (ct : Nat → ClassId) (a0 : Nat) (n0_0 : Int32) (a1 : Nat) (a2 : Nat) (a3 : Nat) (a4 : Nat) (a5 : Nat) (n0_6 : Int32) (n0_7 : Int32) (n0_8 : Int32) (n0_9 : Int32) (n0_10 : Int32) (l0_11 : Int64) (n0_12 : Int32) (n0_13 : Int32) (n0_14 : Int32) (n0_15 : Int32) (a6 : Nat) (a7 : Nat) (a8 : Nat) (a9 : Nat) (a10 : Nat) (a11 : Nat) (a12 : Nat) (a13 : Nat) (n0_24 : Int32) (n0_25 : Int32) (n0_26 : Int32) (n0_27 : Int32) (a14 : Nat) (n0_29 : Int32) (n0_30 : Int32) (f7 : Nat → Int32) (f8 : Nat → Int32) (f9 : Nat → Int32) (f11 : Nat → Int32) (f12 : Nat → Int32) (f13 : Nat → Int32) (p0 : Int32) (hp_n0_6 : rg 0 900 n0_6) (hp_f7 : hsI f7) (hp_f8 : psI f8) (hp_f9 : ar 0 7 f9) (hp_f11 : ar (-1) 7 f11) (hp_f13 : ar (-1) 7 f13) : Met l yX11_ring wsX11_ring ({ frames := 5, cells := 0, slots := 0, locals := 111 }) (va_Pc [.ref a0, .int p0] (wrP G ct [(a0, .inr (11, [.int n0_0, .ref a1, .ref a2, .ref a3, .ref a4, .ref a5, .int n0_6, .int n0_7, .int n0_8, .int n0_9, .int n0_10, .long l0_11, .int n0_12, .int n0_13, .int n0_14, .int n0_15, .ref a6, .ref a7, .ref a8, .ref a9, .ref a10, .ref a11, .ref a12, .ref a13, .int n0_24, .int n0_25, .int n0_26, .int n0_27, .ref a14, .int n0_29, .int n0_30])), (a7, .inl (ct 0, 15, .inl f7)), (a8, .inl (ct 0, 200, .inl f8)), (a9, .inl (ct 0, 1000, .inl f9)), (a11, .inl (ct 0, 8, .inl f11)), (a12, .inl (ct 0, 8, .inl f12)), (a13, .inl (ct 0, 8, .inl f13))])) (va_Qi (fun (r : Int32) (u : SU) => rg (-2) 8 r ∧ (r = 0 → rg 0 7 p0) ∧ (¬ r = (-2) → rg 0 7 p0) ∧ ar (-1) 7 (u.2.1 0) ∧ ar (-1) 7 (u.2.1 2) ∧ rg 0 0 (u.1 0) ∧ True) (fun u t => va_P G vwCl ((fun u : SU => [(a0, .inr (11, [.int (u.1 0), .ref a1, .ref a2, .ref a3, .ref a4, .ref a5, .int n0_6, .int n0_7, .int n0_8, .int n0_9, .int n0_10, .long l0_11, .int n0_12, .int n0_13, .int n0_14, .int n0_15, .ref a6, .ref a7, .ref a8, .ref a9, .ref a10, .ref a11, .ref a12, .ref a13, .int (u.1 1), .int (u.1 2), .int (u.1 3), .int (u.1 4), .ref a14, .int n0_29, .int n0_30])), (a7, .inl (ct 0, 15, .inl f7)), (a8, .inl (ct 0, 200, .inl f8)), (a9, .inl (ct 0, 1000, .inl f9)), (a11, .inl (ct 0, 8, .inl (u.2.1 0))), (a12, .inl (ct 0, 8, .inl (u.2.1 1))), (a13, .inl (ct 0, 8, .inl (u.2.1 2)))]) u) t.heap) (aset [(a0, .inr (11, [.int n0_0, .ref a1, .ref a2, .ref a3, .ref a4, .ref a5, .int n0_6, .int n0_7, .int n0_8, .int n0_9, .int n0_10, .long l0_11, .int n0_12, .int n0_13, .int n0_14, .int n0_15, .ref a6, .ref a7, .ref a8, .ref a9, .ref a10, .ref a11, .ref a12, .ref a13, .int n0_24, .int n0_25, .int n0_26, .int n0_27, .ref a14, .int n0_29, .int n0_30])), (a7, .inl (ct 0, 15, .inl f7)), (a8, .inl (ct 0, 200, .inl f8)), (a9, .inl (ct 0, 1000, .inl f9)), (a11, .inl (ct 0, 8, .inl f11)), (a12, .inl (ct 0, 8, .inl f12)), (a13, .inl (ct 0, 8, .inl f13))])) 0 0 (aset [(a0, .inr (11, [.int n0_0, .ref a1, .ref a2, .ref a3, .ref a4, .ref a5, .int n0_6, .int n0_7, .int n0_8, .int n0_9, .int n0_10, .long l0_11, .int n0_12, .int n0_13, .int n0_14, .int n0_15, .ref a6, .ref a7, .ref a8, .ref a9, .ref a10, .ref a11, .ref a12, .ref a13, .int n0_24, .int n0_25, .int n0_26, .int n0_27, .ref a14, .int n0_29, .int n0_30])), (a7, .inl (ct 0, 15, .inl f7)), (a8, .inl (ct 0, 200, .inl f8)), (a9, .inl (ct 0, 1000, .inl f9)), (a11, .inl (ct 0, 8, .inl f11)), (a12, .inl (ct 0, 8, .inl f12)), (a13, .inl (ct 0, 8, .inl f13))]) := by
  refine Met.ofW (cc := cX11_ring) (maxL := 2) (ret := (some .int)) (by decide) rfl ?_
  intro p e s m args below meth c s₁ B hml hv
  obtain ⟨rfl, hP, hK, hD0⟩ := hv
  have hx := B.exec
  have hb := B.bytes
  have hr := B.returns
  have hts := atoms_spec (ws := wsX11_ring) B.pre
  have hown : s.vm.findClass RX11 = some m.cls := findClass_of_methodNamed B.named
  have hlocks := B.notSynchronized
  have hD := hD0.aself
  generalize hAe : aset [(a0, .inr (11, [.int n0_0, .ref a1, .ref a2, .ref a3, .ref a4, .ref a5, .int n0_6, .int n0_7, .int n0_8, .int n0_9, .int n0_10, .long l0_11, .int n0_12, .int n0_13, .int n0_14, .int n0_15, .ref a6, .ref a7, .ref a8, .ref a9, .ref a10, .ref a11, .ref a12, .ref a13, .int n0_24, .int n0_25, .int n0_26, .int n0_27, .ref a14, .int n0_29, .int n0_30])), (a7, .inl (ct 0, 15, .inl f7)), (a8, .inl (ct 0, 200, .inl f8)), (a9, .inl (ct 0, 1000, .inl f9)), (a11, .inl (ct 0, 8, .inl f11)), (a12, .inl (ct 0, 8, .inl f12)), (a13, .inl (ct 0, 8, .inl f13))] = A at hD ⊢
  have hS : va_S A s.heap s.heap [] := va_S.rf
  have hl := lv_entry ([.ref a0, .int p0]) (n := 2) (Nat.le_of_ble_eq_true rfl)
  rw [lg_entry_eq]
  generalize (lg_sl ([.ref a0, .int p0]) ++ List.replicate (2 - (lg_sl ([.ref a0, .int p0])).length) Slot.unset).toArray = ls at hl ⊢
  have hl : lv_has ls 2 [(0, .ref a0), (1, .int p0)] := hl
  refine lv_aload_n hx hb dX11_ring_0 rfl (lv_at hl 0 rfl) ?_
  refine lv_iconst (v := 0) hx hb dX11_ring_1 (by decide) ?_
  refine va_put (D := G) (ci := 11) (v := .int 0) (ty := .int) (C := RX11) (T := TX11) (N := 31) hx hb hts (by decide +kernel) tyX11 tyX11_ok nmX11 hown hK.1 hP hD hS 0 rfl rfl 0 (by decide) (hts (.fieldLink RX11 59 "CardHolderModel" "thrown" "I") (by decide +kernel)) (fun _ h9 => h9) rfl (by decide +kernel) rfl rfl (Nat.le_of_ble_eq_true rfl) dX11_ring_2 (fun H locs hP hD hS => ?_)
  refine lv_aload_n hx hb dX11_ring_5 rfl (lv_at hl 0 rfl) ?_
  refine lv_iload_n hx hb dX11_ring_6 rfl (lv_at hl 1 rfl) ?_
  refine lv_i2l hx hb dX11_ring_7 rfl ?_
  refine nl_i2l (rg_t p0) (fun z7 hz7 ez7 => ?_)
  refine ro_calli (va_runV (As := [.long z7]) (rest := []) ⟨hx, hb, hml, hown, hts⟩ (a_X11_isPerson l G ct a0 (0 : Int32) a1 a2 a3 a4 a5 n0_6 n0_7 n0_8 n0_9 n0_10 l0_11 n0_12 n0_13 n0_14 n0_15 a6 a7 a8 a9 a10 a11 a12 a13 n0_24 n0_25 n0_26 n0_27 a14 n0_29 n0_30 f7 z7 hp_n0_6 hp_f7) (cwV 1 hts gX11_ring_X11_isPerson rfl rfl rfl (by decide +kernel) ⟨Nat.le_of_ble_eq_true rfl, Nat.le_of_ble_eq_true rfl⟩) (ro_preV 11 0 hK (hP.sub [0, 1] rfl) rfl rfl) rfl rfl hl.1 rfl (lv_room (Nat.le_of_ble_eq_true rfl)) dX11_ring_8 ⟨Nat.zero_le _, Nat.zero_le _⟩) hS hP (fun r8 H locs wr8 hP hS => ?_)
  obtain ⟨p_1, p_2, -⟩ := wr8
  refine lv_if_ne (tgt := 17) hx hb dX11_ring_11 (by decide) (fun c11 => ?_) (fun c11 => ?_)
  · have h_3 : rg 1 1 r8 := r_ne_lo_i c11 p_1 (by decide) (by decide)
    have h_4 : rl 0 7 z7 := (p_2 (rne h_3 (y := 0) (c := 0) (by decide) (by decide)))
    have h_5 : rg 0 7 p0 := bk_li (a := 0) (b := 7) ez7 h_4 (rg_t p0) (by decide)
    refine lv_aload_n hx hb dX11_ring_17 rfl (lv_at hl 0 rfl) ?_
    refine wj_callv (wr := []) (w1 := (fun u : SU => [(a0, .inr (11, [.int 0, .ref a1, .ref a2, .ref a3, .ref a4, .ref a5, .int n0_6, .int n0_7, .int n0_8, .int n0_9, .int n0_10, .long l0_11, .int n0_12, .int n0_13, .int n0_14, .int n0_15, .ref a6, .ref a7, .ref a8, .ref a9, .ref a10, .ref a11, .ref a12, .ref a13, .int (u.1 0), .int (u.1 1), .int (u.1 2), .int (u.1 3), .ref a14, .int n0_29, .int n0_30])), (a7, .inl (ct 0, 15, .inl f7)), (a8, .inl (ct 0, 200, .inl f8)), (a9, .inl (ct 0, 1000, .inl f9)), (a11, .inl (ct 0, 8, .inl (u.2.1 0))), (a12, .inl (ct 0, 8, .inl (u.2.1 1))), (a13, .inl (ct 0, 8, .inl (u.2.1 2)))])) (va_runV (As := []) (rest := []) ⟨hx, hb, hml, hown, hts⟩ (a_X11_laysNow l G ct a0 (0 : Int32) a1 a2 a3 a4 a5 n0_6 n0_7 n0_8 n0_9 n0_10 l0_11 n0_12 n0_13 n0_14 n0_15 a6 a7 a8 a9 a10 a11 a12 a13 n0_24 n0_25 n0_26 n0_27 a14 n0_29 n0_30 f7 f8 f9 f11 f12 f13 hp_n0_6 hp_f7 hp_f8 hp_f9 hp_f11 hp_f13) (cwV 0 hts gX11_ring_X11_laysNow rfl rfl rfl (by decide +kernel) ⟨Nat.le_of_ble_eq_true rfl, Nat.le_of_ble_eq_true rfl⟩) (wr_preV 11 0 hK (hP.sub [0, 1, 2, 3, 4, 5, 6] rfl) (hD.sub [0, 1, 2, 3, 4, 5, 6] (by decide) rfl) rfl rfl) rfl rfl hl.1 rfl (lv_room (Nat.le_of_ble_eq_true rfl)) dX11_ring_18 ⟨Nat.zero_le _, Nat.zero_le _⟩) hS hP hD [0, 1, 2, 3, 4, 5, 6] [] rfl rfl (by decide) (fun _ => rfl) (fun ur18 H locs wr18 hP hD hS => ?_)
    have hP : va_P G vwCl [(a0, .inr (11, [.int 0, .ref a1, .ref a2, .ref a3, .ref a4, .ref a5, .int n0_6, .int n0_7, .int n0_8, .int n0_9, .int n0_10, .long l0_11, .int n0_12, .int n0_13, .int n0_14, .int n0_15, .ref a6, .ref a7, .ref a8, .ref a9, .ref a10, .ref a11, .ref a12, .ref a13, .int (ur18.1 0), .int (ur18.1 1), .int (ur18.1 2), .int (ur18.1 3), .ref a14, .int n0_29, .int n0_30])), (a7, .inl (ct 0, 15, .inl f7)), (a8, .inl (ct 0, 200, .inl f8)), (a9, .inl (ct 0, 1000, .inl f9)), (a11, .inl (ct 0, 8, .inl (ur18.2.1 0))), (a12, .inl (ct 0, 8, .inl (ur18.2.1 1))), (a13, .inl (ct 0, 8, .inl (ur18.2.1 2)))] H := hP.sub [0, 1, 2, 3, 4, 5, 6] rfl
    have hD : va_D A [(a0, .inr (11, [.int 0, .ref a1, .ref a2, .ref a3, .ref a4, .ref a5, .int n0_6, .int n0_7, .int n0_8, .int n0_9, .int n0_10, .long l0_11, .int n0_12, .int n0_13, .int n0_14, .int n0_15, .ref a6, .ref a7, .ref a8, .ref a9, .ref a10, .ref a11, .ref a12, .ref a13, .int (ur18.1 0), .int (ur18.1 1), .int (ur18.1 2), .int (ur18.1 3), .ref a14, .int n0_29, .int n0_30])), (a7, .inl (ct 0, 15, .inl f7)), (a8, .inl (ct 0, 200, .inl f8)), (a9, .inl (ct 0, 1000, .inl f9)), (a11, .inl (ct 0, 8, .inl (ur18.2.1 0))), (a12, .inl (ct 0, 8, .inl (ur18.2.1 1))), (a13, .inl (ct 0, 8, .inl (ur18.2.1 2)))] := hD.sub [0, 1, 2, 3, 4, 5, 6] (by decide) rfl
    obtain ⟨p_6, p_7, -⟩ := wr18
    refine lv_aload_n hx hb dX11_ring_21 rfl (lv_at hl 0 rfl) ?_
    refine lv_iload_n hx hb dX11_ring_22 rfl (lv_at hl 1 rfl) ?_
    refine ro_calli (va_runV (As := [.int p0]) (rest := []) ⟨hx, hb, hml, hown, hts⟩ (a_X11_ringOf l G ct a0 (0 : Int32) a1 a2 a3 a4 a5 n0_6 n0_7 n0_8 n0_9 n0_10 l0_11 n0_12 n0_13 n0_14 n0_15 a6 a7 a8 a9 a10 a11 a12 a13 (ur18.1 0) (ur18.1 1) (ur18.1 2) (ur18.1 3) a14 n0_29 n0_30 (ur18.2.1 0) p0 hp_n0_6 p_6 h_5) (cwV 1 hts gX11_ring_X11_ringOf rfl rfl rfl (by decide +kernel) ⟨Nat.le_of_ble_eq_true rfl, Nat.le_of_ble_eq_true rfl⟩) (ro_preV 11 0 hK (hP.sub [0, 4] rfl) rfl rfl) rfl rfl hl.1 rfl (lv_room (Nat.le_of_ble_eq_true rfl)) dX11_ring_23 ⟨Nat.zero_le _, Nat.zero_le _⟩) hS hP (fun r23 H locs wr23 hP hS => ?_)
    obtain ⟨p_8, -⟩ := wr23
    exact W.iret (v := r23) hx hb hr (fun t ht hW => ⟨⟨r23, (fun k => ([0, ur18.1 0, ur18.1 1, ur18.1 2, ur18.1 3] : List Int32).getD k 0, fun k => ([ur18.2.1 0, ur18.2.1 1, ur18.2.1 2] : List (Nat → Int32)).getD k (fun _ => 0), fun k => ([] : List (Nat → Int64)).getD k (fun _ => 0)), rfl, ⟨(rg_w (c := (-2)) (d := 8) p_8 (by decide)), (fun _ => h_5), (fun _ => h_5), p_6, p_7, (rgn 0 (x := 0) (by decide)), trivial⟩, hp_at ht hP⟩, hS.F ht⟩) hS.2.2 dX11_ring_26
  · have h_9 : rg 0 0 r8 := r_eq_l_i (e := 0) (f := 0) c11 p_1 (rgn 0 (x := 0) (by decide)) (by decide)
    refine lv_bipush (v := (-2)) hx hb dX11_ring_14 (by decide) ?_
    exact W.iret (v := (-2)) hx hb hr (fun t ht hW => ⟨⟨(-2), (fun k => ([0, n0_24, n0_25, n0_26, n0_27] : List Int32).getD k 0, fun k => ([f11, f12, f13] : List (Nat → Int32)).getD k (fun _ => 0), fun k => ([] : List (Nat → Int64)).getD k (fun _ => 0)), rfl, ⟨(rg_w (c := (-2)) (d := 8) (rgn (-2) (x := (-2)) (by decide)) (by decide)), (fun hq => absurd hq (rne (rgn (-2) (x := (-2)) (by decide)) (y := 0) (c := 0) (by decide) (by decide))), (fun hq => absurd (req (rgn (-2) (x := (-2)) (by decide)) (y := (-2)) (by decide)) hq), hp_f11, hp_f13, (rgn 0 (x := 0) (by decide)), trivial⟩, hp_at ht hP⟩, hS.F ht⟩) hS.2.2 dX11_ring_16

set_option maxHeartbeats 4000000 in
set_option maxRecDepth 100000 in
theorem a_X11_rings (l : Launch) (G : va_G) (ct : Nat → ClassId) (a0 : Nat) (n0_0 : Int32) (a1 : Nat) (a2 : Nat) (a3 : Nat) (a4 : Nat) (a5 : Nat) (n0_6 : Int32) (n0_7 : Int32) (n0_8 : Int32) (n0_9 : Int32) (n0_10 : Int32) (l0_11 : Int64) (n0_12 : Int32) (n0_13 : Int32) (n0_14 : Int32) (n0_15 : Int32) (a6 : Nat) (a7 : Nat) (a8 : Nat) (a9 : Nat) (a10 : Nat) (a11 : Nat) (a12 : Nat) (a13 : Nat) (n0_24 : Int32) (n0_25 : Int32) (n0_26 : Int32) (n0_27 : Int32) (a14 : Nat) (n0_29 : Int32) (n0_30 : Int32) (f6 : Nat → Int32) (f7 : Nat → Int32) (f8 : Nat → Int32) (f9 : Nat → Int32) (f11 : Nat → Int32) (f12 : Nat → Int32) (f13 : Nat → Int32) (hp_n0_6 : rg 0 900 n0_6) (hp_f7 : hsI f7) (hp_f8 : psI f8) (hp_f9 : ar 0 7 f9) (hp_f11 : ar (-1) 7 f11) (hp_f13 : ar (-1) 7 f13) : Met l yX11_rings wsX11_rings ({ frames := 5, cells := 0, slots := 0, locals := 111 }) (va_Pc [.ref a0] (wrP G ct [(a0, .inr (11, [.int n0_0, .ref a1, .ref a2, .ref a3, .ref a4, .ref a5, .int n0_6, .int n0_7, .int n0_8, .int n0_9, .int n0_10, .long l0_11, .int n0_12, .int n0_13, .int n0_14, .int n0_15, .ref a6, .ref a7, .ref a8, .ref a9, .ref a10, .ref a11, .ref a12, .ref a13, .int n0_24, .int n0_25, .int n0_26, .int n0_27, .ref a14, .int n0_29, .int n0_30])), (a6, .inl (ct 0, 5, .inl f6)), (a7, .inl (ct 0, 15, .inl f7)), (a8, .inl (ct 0, 200, .inl f8)), (a9, .inl (ct 0, 1000, .inl f9)), (a11, .inl (ct 0, 8, .inl f11)), (a12, .inl (ct 0, 8, .inl f12)), (a13, .inl (ct 0, 8, .inl f13))])) (va_Qi (fun (r : Int32) (u : SU) => ar (-1) 7 (u.2.1 0) ∧ ar (-1) 7 (u.2.1 2) ∧ rg 0 0 (u.1 0) ∧ True) (fun u t => va_P G vwCl ((fun u : SU => [(a0, .inr (11, [.int (u.1 0), .ref a1, .ref a2, .ref a3, .ref a4, .ref a5, .int n0_6, .int n0_7, .int n0_8, .int n0_9, .int n0_10, .long l0_11, .int n0_12, .int n0_13, .int n0_14, .int n0_15, .ref a6, .ref a7, .ref a8, .ref a9, .ref a10, .ref a11, .ref a12, .ref a13, .int (u.1 1), .int (u.1 2), .int (u.1 3), .int (u.1 4), .ref a14, .int n0_29, .int n0_30])), (a6, .inl (ct 0, 5, .inl f6)), (a7, .inl (ct 0, 15, .inl f7)), (a8, .inl (ct 0, 200, .inl f8)), (a9, .inl (ct 0, 1000, .inl f9)), (a11, .inl (ct 0, 8, .inl (u.2.1 0))), (a12, .inl (ct 0, 8, .inl (u.2.1 1))), (a13, .inl (ct 0, 8, .inl (u.2.1 2)))]) u) t.heap) (aset [(a0, .inr (11, [.int n0_0, .ref a1, .ref a2, .ref a3, .ref a4, .ref a5, .int n0_6, .int n0_7, .int n0_8, .int n0_9, .int n0_10, .long l0_11, .int n0_12, .int n0_13, .int n0_14, .int n0_15, .ref a6, .ref a7, .ref a8, .ref a9, .ref a10, .ref a11, .ref a12, .ref a13, .int n0_24, .int n0_25, .int n0_26, .int n0_27, .ref a14, .int n0_29, .int n0_30])), (a6, .inl (ct 0, 5, .inl f6)), (a7, .inl (ct 0, 15, .inl f7)), (a8, .inl (ct 0, 200, .inl f8)), (a9, .inl (ct 0, 1000, .inl f9)), (a11, .inl (ct 0, 8, .inl f11)), (a12, .inl (ct 0, 8, .inl f12)), (a13, .inl (ct 0, 8, .inl f13))])) 0 0 (aset [(a0, .inr (11, [.int n0_0, .ref a1, .ref a2, .ref a3, .ref a4, .ref a5, .int n0_6, .int n0_7, .int n0_8, .int n0_9, .int n0_10, .long l0_11, .int n0_12, .int n0_13, .int n0_14, .int n0_15, .ref a6, .ref a7, .ref a8, .ref a9, .ref a10, .ref a11, .ref a12, .ref a13, .int n0_24, .int n0_25, .int n0_26, .int n0_27, .ref a14, .int n0_29, .int n0_30])), (a6, .inl (ct 0, 5, .inl f6)), (a7, .inl (ct 0, 15, .inl f7)), (a8, .inl (ct 0, 200, .inl f8)), (a9, .inl (ct 0, 1000, .inl f9)), (a11, .inl (ct 0, 8, .inl f11)), (a12, .inl (ct 0, 8, .inl f12)), (a13, .inl (ct 0, 8, .inl f13))]) := by
  refine Met.ofW (cc := cX11_rings) (maxL := 1) (ret := (some .int)) (by decide) rfl ?_
  intro p e s m args below meth c s₁ B hml hv
  obtain ⟨rfl, hP, hK, hD0⟩ := hv
  have hx := B.exec
  have hb := B.bytes
  have hr := B.returns
  have hts := atoms_spec (ws := wsX11_rings) B.pre
  have hown : s.vm.findClass RX11 = some m.cls := findClass_of_methodNamed B.named
  have hlocks := B.notSynchronized
  have hD := hD0.aself
  generalize hAe : aset [(a0, .inr (11, [.int n0_0, .ref a1, .ref a2, .ref a3, .ref a4, .ref a5, .int n0_6, .int n0_7, .int n0_8, .int n0_9, .int n0_10, .long l0_11, .int n0_12, .int n0_13, .int n0_14, .int n0_15, .ref a6, .ref a7, .ref a8, .ref a9, .ref a10, .ref a11, .ref a12, .ref a13, .int n0_24, .int n0_25, .int n0_26, .int n0_27, .ref a14, .int n0_29, .int n0_30])), (a6, .inl (ct 0, 5, .inl f6)), (a7, .inl (ct 0, 15, .inl f7)), (a8, .inl (ct 0, 200, .inl f8)), (a9, .inl (ct 0, 1000, .inl f9)), (a11, .inl (ct 0, 8, .inl f11)), (a12, .inl (ct 0, 8, .inl f12)), (a13, .inl (ct 0, 8, .inl f13))] = A at hD ⊢
  have hS : va_S A s.heap s.heap [] := va_S.rf
  have hl := lv_entry ([.ref a0]) (n := 1) (Nat.le_of_ble_eq_true rfl)
  rw [lg_entry_eq]
  generalize (lg_sl ([.ref a0]) ++ List.replicate (1 - (lg_sl ([.ref a0])).length) Slot.unset).toArray = ls at hl ⊢
  have hl : lv_has ls 1 [(0, .ref a0)] := hl
  refine lv_aload_n hx hb dX11_rings_0 rfl (lv_at hl 0 rfl) ?_
  refine lv_iconst (v := 0) hx hb dX11_rings_1 (by decide) ?_
  refine va_put (D := G) (ci := 11) (v := .int 0) (ty := .int) (C := RX11) (T := TX11) (N := 31) hx hb hts (by decide +kernel) tyX11 tyX11_ok nmX11 hown hK.1 hP hD hS 0 rfl rfl 0 (by decide) (hts (.fieldLink RX11 59 "CardHolderModel" "thrown" "I") (by decide +kernel)) (fun _ h9 => h9) rfl (by decide +kernel) rfl rfl (Nat.le_of_ble_eq_true rfl) dX11_rings_2 (fun H locs hP hD hS => ?_)
  refine lv_aload_n hx hb dX11_rings_5 rfl (lv_at hl 0 rfl) ?_
  refine ro_calli (va_runV (As := []) (rest := []) ⟨hx, hb, hml, hown, hts⟩ (a_X11_isCity l G ct a0 (0 : Int32) a1 a2 a3 a4 a5 n0_6 n0_7 n0_8 n0_9 n0_10 l0_11 n0_12 n0_13 n0_14 n0_15 a6 a7 a8 a9 a10 a11 a12 a13 n0_24 n0_25 n0_26 n0_27 a14 n0_29 n0_30 f6 hp_n0_6) (cwV 0 hts gX11_rings_X11_isCity rfl rfl rfl (by decide +kernel) ⟨Nat.le_of_ble_eq_true rfl, Nat.le_of_ble_eq_true rfl⟩) (ro_preV 11 0 hK (hP.sub [0, 1] rfl) rfl rfl) rfl rfl hl.1 rfl (lv_room (Nat.le_of_ble_eq_true rfl)) dX11_rings_6 ⟨Nat.zero_le _, Nat.zero_le _⟩) hS hP (fun r6 H locs wr6 hP hS => ?_)
  obtain ⟨p_1, -⟩ := wr6
  refine lv_if_ne (tgt := 15) hx hb dX11_rings_9 (by decide) (fun c9 => ?_) (fun c9 => ?_)
  · have h_2 : rg 1 1 r6 := r_ne_lo_i c9 p_1 (by decide) (by decide)
    refine lv_aload_n hx hb dX11_rings_15 rfl (lv_at hl 0 rfl) ?_
    refine wj_callv (wr := [(a6, .inl (ct 0, 5, .inl f6))]) (w1 := (fun u : SU => [(a0, .inr (11, [.int 0, .ref a1, .ref a2, .ref a3, .ref a4, .ref a5, .int n0_6, .int n0_7, .int n0_8, .int n0_9, .int n0_10, .long l0_11, .int n0_12, .int n0_13, .int n0_14, .int n0_15, .ref a6, .ref a7, .ref a8, .ref a9, .ref a10, .ref a11, .ref a12, .ref a13, .int (u.1 0), .int (u.1 1), .int (u.1 2), .int (u.1 3), .ref a14, .int n0_29, .int n0_30])), (a7, .inl (ct 0, 15, .inl f7)), (a8, .inl (ct 0, 200, .inl f8)), (a9, .inl (ct 0, 1000, .inl f9)), (a11, .inl (ct 0, 8, .inl (u.2.1 0))), (a12, .inl (ct 0, 8, .inl (u.2.1 1))), (a13, .inl (ct 0, 8, .inl (u.2.1 2)))])) (va_runV (As := []) (rest := []) ⟨hx, hb, hml, hown, hts⟩ (a_X11_laysNow l G ct a0 (0 : Int32) a1 a2 a3 a4 a5 n0_6 n0_7 n0_8 n0_9 n0_10 l0_11 n0_12 n0_13 n0_14 n0_15 a6 a7 a8 a9 a10 a11 a12 a13 n0_24 n0_25 n0_26 n0_27 a14 n0_29 n0_30 f7 f8 f9 f11 f12 f13 hp_n0_6 hp_f7 hp_f8 hp_f9 hp_f11 hp_f13) (cwV 0 hts gX11_rings_X11_laysNow rfl rfl rfl (by decide +kernel) ⟨Nat.le_of_ble_eq_true rfl, Nat.le_of_ble_eq_true rfl⟩) (wr_preV 11 0 hK (hP.sub [0, 2, 3, 4, 5, 6, 7] rfl) (hD.sub [0, 2, 3, 4, 5, 6, 7] (by decide) rfl) rfl rfl) rfl rfl hl.1 rfl (lv_room (Nat.le_of_ble_eq_true rfl)) dX11_rings_16 ⟨Nat.zero_le _, Nat.zero_le _⟩) hS hP hD [0, 2, 3, 4, 5, 6, 7] [1] rfl rfl (by decide) (fun _ => rfl) (fun ur16 H locs wr16 hP hD hS => ?_)
    have hP : va_P G vwCl [(a0, .inr (11, [.int 0, .ref a1, .ref a2, .ref a3, .ref a4, .ref a5, .int n0_6, .int n0_7, .int n0_8, .int n0_9, .int n0_10, .long l0_11, .int n0_12, .int n0_13, .int n0_14, .int n0_15, .ref a6, .ref a7, .ref a8, .ref a9, .ref a10, .ref a11, .ref a12, .ref a13, .int (ur16.1 0), .int (ur16.1 1), .int (ur16.1 2), .int (ur16.1 3), .ref a14, .int n0_29, .int n0_30])), (a6, .inl (ct 0, 5, .inl f6)), (a7, .inl (ct 0, 15, .inl f7)), (a8, .inl (ct 0, 200, .inl f8)), (a9, .inl (ct 0, 1000, .inl f9)), (a11, .inl (ct 0, 8, .inl (ur16.2.1 0))), (a12, .inl (ct 0, 8, .inl (ur16.2.1 1))), (a13, .inl (ct 0, 8, .inl (ur16.2.1 2)))] H := hP.sub [1, 0, 2, 3, 4, 5, 6, 7] rfl
    have hD : va_D A [(a0, .inr (11, [.int 0, .ref a1, .ref a2, .ref a3, .ref a4, .ref a5, .int n0_6, .int n0_7, .int n0_8, .int n0_9, .int n0_10, .long l0_11, .int n0_12, .int n0_13, .int n0_14, .int n0_15, .ref a6, .ref a7, .ref a8, .ref a9, .ref a10, .ref a11, .ref a12, .ref a13, .int (ur16.1 0), .int (ur16.1 1), .int (ur16.1 2), .int (ur16.1 3), .ref a14, .int n0_29, .int n0_30])), (a6, .inl (ct 0, 5, .inl f6)), (a7, .inl (ct 0, 15, .inl f7)), (a8, .inl (ct 0, 200, .inl f8)), (a9, .inl (ct 0, 1000, .inl f9)), (a11, .inl (ct 0, 8, .inl (ur16.2.1 0))), (a12, .inl (ct 0, 8, .inl (ur16.2.1 1))), (a13, .inl (ct 0, 8, .inl (ur16.2.1 2)))] := hD.sub [1, 0, 2, 3, 4, 5, 6, 7] (by decide) rfl
    obtain ⟨p_3, p_4, -⟩ := wr16
    refine lv_aload_n hx hb dX11_rings_19 rfl (lv_at hl 0 rfl) ?_
    refine ro_calli (va_runV (As := []) (rest := []) ⟨hx, hb, hml, hown, hts⟩ (a_X11_ringsNow l G ct a0 (0 : Int32) a1 a2 a3 a4 a5 n0_6 n0_7 n0_8 n0_9 n0_10 l0_11 n0_12 n0_13 n0_14 n0_15 a6 a7 a8 a9 a10 a11 a12 a13 (ur16.1 0) (ur16.1 1) (ur16.1 2) (ur16.1 3) a14 n0_29 n0_30 f7 (ur16.2.1 0) hp_n0_6 hp_f7 p_3) (cwV 0 hts gX11_rings_X11_ringsNow rfl rfl rfl (by decide +kernel) ⟨Nat.le_of_ble_eq_true rfl, Nat.le_of_ble_eq_true rfl⟩) (ro_preV 11 0 hK (hP.sub [0, 2, 5] rfl) rfl rfl) rfl rfl hl.1 rfl (lv_room (Nat.le_of_ble_eq_true rfl)) dX11_rings_20 ⟨Nat.zero_le _, Nat.zero_le _⟩) hS hP (fun r20 H locs wr20 hP hS => ?_)
    exact W.iret (v := r20) hx hb hr (fun t ht hW => ⟨⟨r20, (fun k => ([0, ur16.1 0, ur16.1 1, ur16.1 2, ur16.1 3] : List Int32).getD k 0, fun k => ([ur16.2.1 0, ur16.2.1 1, ur16.2.1 2] : List (Nat → Int32)).getD k (fun _ => 0), fun k => ([] : List (Nat → Int64)).getD k (fun _ => 0)), rfl, ⟨p_3, p_4, (rgn 0 (x := 0) (by decide)), trivial⟩, hp_at ht hP⟩, hS.F ht⟩) hS.2.2 dX11_rings_23
  · have h_5 : rg 0 0 r6 := r_eq_l_i (e := 0) (f := 0) c9 p_1 (rgn 0 (x := 0) (by decide)) (by decide)
    refine lv_bipush (v := (-2)) hx hb dX11_rings_12 (by decide) ?_
    exact W.iret (v := (-2)) hx hb hr (fun t ht hW => ⟨⟨(-2), (fun k => ([0, n0_24, n0_25, n0_26, n0_27] : List Int32).getD k 0, fun k => ([f11, f12, f13] : List (Nat → Int32)).getD k (fun _ => 0), fun k => ([] : List (Nat → Int64)).getD k (fun _ => 0)), rfl, ⟨hp_f11, hp_f13, (rgn 0 (x := 0) (by decide)), trivial⟩, hp_at ht hP⟩, hS.F ht⟩) hS.2.2 dX11_rings_14

set_option maxHeartbeats 4000000 in
set_option maxRecDepth 100000 in
theorem a_X11_doerOf (l : Launch) (G : va_G) (ct : Nat → ClassId) (a0 : Nat) (n0_0 : Int32) (a1 : Nat) (a2 : Nat) (a3 : Nat) (a4 : Nat) (a5 : Nat) (n0_6 : Int32) (n0_7 : Int32) (n0_8 : Int32) (n0_9 : Int32) (n0_10 : Int32) (l0_11 : Int64) (n0_12 : Int32) (n0_13 : Int32) (n0_14 : Int32) (n0_15 : Int32) (a6 : Nat) (a7 : Nat) (a8 : Nat) (a9 : Nat) (a10 : Nat) (a11 : Nat) (a12 : Nat) (a13 : Nat) (n0_24 : Int32) (n0_25 : Int32) (n0_26 : Int32) (n0_27 : Int32) (a14 : Nat) (n0_29 : Int32) (n0_30 : Int32) (f7 : Nat → Int32) (f8 : Nat → Int32) (f11 : Nat → Int32) (p0 : Int32) (p1 : Int32) (hp_n0_6 : rg 0 900 n0_6) (hp_f7 : hsI f7) (hp_f8 : psI f8) (hp_f11 : ar (-1) 7 f11) (hp_p0 : rg 0 7 p0) (hp_p1 : rg 0 5 p1) : Met l yX11_doerOf wsX11_doerOf ({ frames := 2, cells := 0, slots := 0, locals := 47 }) (va_Pc [.ref a0, .int p0, .int p1] (roP G ct [(a0, .inr (11, [.int n0_0, .ref a1, .ref a2, .ref a3, .ref a4, .ref a5, .int n0_6, .int n0_7, .int n0_8, .int n0_9, .int n0_10, .long l0_11, .int n0_12, .int n0_13, .int n0_14, .int n0_15, .ref a6, .ref a7, .ref a8, .ref a9, .ref a10, .ref a11, .ref a12, .ref a13, .int n0_24, .int n0_25, .int n0_26, .int n0_27, .ref a14, .int n0_29, .int n0_30])), (a7, .inl (ct 0, 15, .inl f7)), (a8, .inl (ct 0, 200, .inl f8)), (a11, .inl (ct 0, 8, .inl f11))])) (roQ (fun r => rg (-1) 7 r ∧ (¬ r = (-1) → rc f11 p0 r 7) ∧ True)) 0 0 no := by
  refine Met.ofW (cc := cX11_doerOf) (maxL := 6) (ret := (some .int)) (by decide) rfl ?_
  intro p e s m args below meth c s₁ B hml hv
  obtain ⟨rfl, hP, hK⟩ := hv
  have hx := B.exec
  have hb := B.bytes
  have hr := B.returns
  have hts := atoms_spec (ws := wsX11_doerOf) B.pre
  have hown : s.vm.findClass RX11 = some m.cls := findClass_of_methodNamed B.named
  have hlocks := B.notSynchronized
  have hS : va_S no s.heap s.heap [] := va_S.rf
  have hl := lv_entry ([.ref a0, .int p0, .int p1]) (n := 6) (Nat.le_of_ble_eq_true rfl)
  rw [lg_entry_eq]
  generalize (lg_sl ([.ref a0, .int p0, .int p1]) ++ List.replicate (6 - (lg_sl ([.ref a0, .int p0, .int p1])).length) Slot.unset).toArray = ls at hl ⊢
  have hl : lv_has ls 6 [(0, .ref a0), (1, .int p0), (2, .int p1)] := hl
  refine lv_iconst (v := (-1)) hx hb dX11_doerOf_0 (by decide) ?_
  refine lv_istore_n (lv' := [(3, .int (-1)), (0, .ref a0), (1, .int p0), (2, .int p1)]) hx hb dX11_doerOf_1 rfl hl (by decide) rfl (fun ls hl => ?_)
  refine lv_iconst (v := 0) hx hb dX11_doerOf_2 (by decide) ?_
  refine lv_istore (lv' := [(4, .int 0), (3, .int (-1)), (0, .ref a0), (1, .int p0), (2, .int p1)]) hx hb dX11_doerOf_3 hl (by decide) rfl (fun ls hl => ?_)
  have j5 : ∀ (n : Nat) (x5_3 : Int32) (x5_4 : Int32) (H : Heap) (locs : List Loc) (ls : Array Slot), 2147483648 ≤ x5_4.toInt + (n : Int) → rg (-1) 7 x5_3 → rg 0 8 x5_4 → (¬ x5_3 = -1 → rc f11 p0 x5_3 7) → va_P G vwCl [(a0, .inr (11, [.int n0_0, .ref a1, .ref a2, .ref a3, .ref a4, .ref a5, .int n0_6, .int n0_7, .int n0_8, .int n0_9, .int n0_10, .long l0_11, .int n0_12, .int n0_13, .int n0_14, .int n0_15, .ref a6, .ref a7, .ref a8, .ref a9, .ref a10, .ref a11, .ref a12, .ref a13, .int n0_24, .int n0_25, .int n0_26, .int n0_27, .ref a14, .int n0_29, .int n0_30])), (a7, .inl (ct 0, 15, .inl f7)), (a8, .inl (ct 0, 200, .inl f8)), (a11, .inl (ct 0, 8, .inl f11))] H → va_S no s.heap H locs → lv_has ls 6 [(0, .ref a0), (1, .int p0), (2, .int p1), (3, .int x5_3), (4, .int x5_4)] → W p l e (headSpec wsX11_doerOf ({ frames := 2, cells := 0, slots := 0, locals := 47 })).room s m ([.ref a0, .int p0, .int p1] : List Value).toArray below meth c H locs 0 0 (MQ below (roQ (fun r => rg (-1) 7 r ∧ (¬ r = (-1) → rc f11 p0 r 7) ∧ True)) ([.ref a0, .int p0, .int p1] : List Value).toArray s 0 0 no) (F0 m 5 ls []) := by
    intro n
    induction n with
    | zero => intro x5_3 x5_4 H locs ls hn5 hx5_3 hx5_4 hq5 hP hS hl; exact absurd hn5 (by have := Int32.toInt_lt x5_4; have := Int32.le_toInt x5_4; omega)
    | succ n ih5 =>
      intro x5_3 x5_4 H locs ls hn5 hx5_3 hx5_4 hq5 hP hS hl
      refine lv_iload hx hb dX11_doerOf_5 (lv_at hl 4 rfl) ?_
      refine lv_aload_n hx hb dX11_doerOf_7 rfl (lv_at hl 0 rfl) ?_
      refine va_get (D := G) (ci := 11) (v := .ref a7) (C := RX11) (T := TX11) (N := 31) hx hb hts (by decide +kernel) hown hK.1 hP 0 rfl rfl 17 (by decide) (hts (.fieldLink RX11 34 "CardHolderModel" "has" "[I") (by decide +kernel)) (fun _ h9 => h9) rfl dX11_doerOf_8 ?_
      refine lv_iconst (v := 1) hx hb dX11_doerOf_11 (by decide) ?_
      refine va_iald hx hb hK.1 hP 1 0 rfl rfl (in_lit (by decide)) dX11_doerOf_12 ?_
      refine lv_topi (fun z12 gz12 => ?_)
      have hz12 : rg 0 8 z12 := by rw [gz12]; exact (hp_f7.1 0)
      refine lv_icmp_ge (tgt := 70) hx hb dX11_doerOf_13 (by decide) (fun c13 => ?_) (fun c13 => ?_)
      · refine lv_iload_n hx hb dX11_doerOf_70 rfl (lv_at hl 3 rfl) ?_
        exact W.iret (v := x5_3) hx hb hr (fun t ht hW => ⟨⟨x5_3, (), rfl, ⟨hx5_3, (fun hq => hq5 hq), trivial⟩, trivial⟩, hS.F ht⟩) hS.2.2 dX11_doerOf_71
      · have h_1 : rg 0 7 x5_4 := r_lt_l_i (nle_i c13) hx5_4 hz12 (by decide)
        have h_2 : rg 1 8 z12 := r_lt_r_i (nle_i c13) hx5_4 hz12 (by decide)
        refine lv_aload_n hx hb dX11_doerOf_16 rfl (lv_at hl 0 rfl) ?_
        refine lv_iload_n hx hb dX11_doerOf_17 rfl (lv_at hl 1 rfl) ?_
        refine lv_iload hx hb dX11_doerOf_18 (lv_at hl 4 rfl) ?_
        refine ro_calli (va_runV (As := [.int p0, .int x5_4]) (rest := []) ⟨hx, hb, hml, hown, hts⟩ (a_X11_timeOf l G ct a0 n0_0 a1 a2 a3 a4 a5 n0_6 n0_7 n0_8 n0_9 n0_10 l0_11 n0_12 n0_13 n0_14 n0_15 a6 a7 a8 a9 a10 a11 a12 a13 n0_24 n0_25 n0_26 n0_27 a14 n0_29 n0_30 f8 f11 p0 x5_4 hp_n0_6 hp_f8 hp_f11 hp_p0 h_1) (cwV 2 hts gX11_doerOf_X11_timeOf rfl rfl rfl (by decide +kernel) ⟨Nat.le_of_ble_eq_true rfl, Nat.le_of_ble_eq_true rfl⟩) (ro_preV 11 0 hK (hP.sub [0, 2, 3] rfl) rfl rfl) rfl rfl hl.1 rfl (lv_room (Nat.le_of_ble_eq_true rfl)) dX11_doerOf_20 ⟨Nat.zero_le _, Nat.zero_le _⟩) hS hP (fun r20 H locs wr20 hP hS => ?_)
        obtain ⟨p_3, -⟩ := wr20
        refine lv_istore (lv' := [(5, .int r20), (0, .ref a0), (1, .int p0), (2, .int p1), (3, .int x5_3), (4, .int x5_4)]) hx hb dX11_doerOf_23 hl (by decide) rfl (fun ls hl => ?_)
        refine lv_aload_n hx hb dX11_doerOf_25 rfl (lv_at hl 1 rfl) ?_
        refine lv_iload hx hb dX11_doerOf_26 (lv_at hl 5 rfl) ?_
        refine lv_iconst (v := 1) hx hb dX11_doerOf_28 (by decide) ?_
        refine ro_calli (va_runV (As := [.int x5_4, .int 1]) (rest := []) ⟨hx, hb, hml, hown, hts⟩ (a_X11_of1 l G ct a0 n0_0 a1 a2 a3 a4 a5 n0_6 n0_7 n0_8 n0_9 n0_10 l0_11 n0_12 n0_13 n0_14 n0_15 a6 a7 a8 a9 a10 a11 a12 a13 n0_24 n0_25 n0_26 n0_27 a14 n0_29 n0_30 f8 x5_4 hp_n0_6 hp_f8 h_1) (cwV 2 hts gX11_doerOf_X11_of rfl rfl rfl (by decide +kernel) ⟨Nat.le_of_ble_eq_true rfl, Nat.le_of_ble_eq_true rfl⟩) (ro_preV 11 0 hK (hP.sub [0, 2] rfl) rfl rfl) rfl rfl hl.1 rfl (lv_room (Nat.le_of_ble_eq_true rfl)) dX11_doerOf_29 ⟨Nat.zero_le _, Nat.zero_le _⟩) hS hP (fun r29 H locs wr29 hP hS => ?_)
        refine lv_iload_n hx hb dX11_doerOf_32 rfl (lv_at hl 3 rfl) ?_
        refine ro_calli (va_runS (As := [.int r29, .int p1]) (rest := []) ⟨hx, hb, hml, hown, hts⟩ (a_X11_isBit l G ct r29 p1) (va_cwS 2 hts gX11_doerOf_X11_isBit rfl rfl rfl (by decide +kernel) ⟨Nat.le_of_ble_eq_true rfl, Nat.le_of_ble_eq_true rfl⟩) (ro_pre hK (hP.sub [] rfl)) rfl rfl hl.1 rfl (lv_room (Nat.le_of_ble_eq_true rfl)) dX11_doerOf_33 ⟨Nat.zero_le _, Nat.zero_le _⟩) hS hP (fun r33 H locs wr33 hP hS => ?_)
        obtain ⟨p_4, -⟩ := wr33
        refine lv_if_eq (tgt := 64) hx hb dX11_doerOf_36 (by decide) (fun c36 => ?_) (fun c36 => ?_)
        · have h_5 : rg 0 0 r33 := r_eq_l_i (e := 0) (f := 0) c36 p_4 (rgn 0 (x := 0) (by decide)) (by decide)
          obtain ⟨z64, qz64⟩ : ∃ y : Int32, y = x5_4 + Int32.ofInt 1 := ⟨_, rfl⟩
          obtain ⟨hz64, ez64⟩ := inc_z (e := 1) (f := 8) h_1 qz64 (by decide)
          refine lv_iinc (v := z64) (lv' := [(4, .int z64), (5, .int r20), (0, .ref a0), (1, .int p0), (2, .int p1), (3, .int x5_3)]) hx hb dX11_doerOf_64 hl (k := 5) rfl (qz64.symm) (by decide) rfl (fun ls hl => ?_)
          refine lv_goto (tgt := 5) hx hb dX11_doerOf_67 (by decide) ?_
          exact ih5 x5_3 z64 _ _ ls (by have q := hn5; have := ez64; omega) hx5_3 (rg_w (c := 0) (d := 8) hz64 (by decide)) hq5 hP hS (lv_sub hl [2, 3, 4, 5, 0] rfl)
        · have h_6 : rg 1 1 r33 := r_ne_lo_i c36 p_4 (by decide) (by decide)
          refine lv_iload hx hb dX11_doerOf_39 (lv_at hl 0 rfl) ?_
          refine lv_iconst (v := (-1)) hx hb dX11_doerOf_41 (by decide) ?_
          refine lv_icmp_eq (tgt := 64) hx hb dX11_doerOf_42 (by decide) (fun c42 => ?_) (fun c42 => ?_)
          · have h_7 : rg (-1) (-1) r20 := r_eq_l_i (e := (-1)) (f := (-1)) c42 (rg_t r20) (rgn (-1) (x := (-1)) (by decide)) (by decide)
            obtain ⟨z64, qz64⟩ : ∃ y : Int32, y = x5_4 + Int32.ofInt 1 := ⟨_, rfl⟩
            obtain ⟨hz64, ez64⟩ := inc_z (e := 1) (f := 8) h_1 qz64 (by decide)
            refine lv_iinc (v := z64) (lv' := [(4, .int z64), (5, .int r20), (0, .ref a0), (1, .int p0), (2, .int p1), (3, .int x5_3)]) hx hb dX11_doerOf_64 hl (k := 5) rfl (qz64.symm) (by decide) rfl (fun ls hl => ?_)
            refine lv_goto (tgt := 5) hx hb dX11_doerOf_67 (by decide) ?_
            exact ih5 x5_3 z64 _ _ ls (by have q := hn5; have := ez64; omega) hx5_3 (rg_w (c := 0) (d := 8) hz64 (by decide)) hq5 hP hS (lv_sub hl [2, 3, 4, 5, 0] rfl)
          · refine lv_iload_n hx hb dX11_doerOf_45 rfl (lv_at hl 4 rfl) ?_
            refine lv_iconst (v := (-1)) hx hb dX11_doerOf_46 (by decide) ?_
            refine lv_icmp_eq (tgt := 61) hx hb dX11_doerOf_47 (by decide) (fun c47 => ?_) (fun c47 => ?_)
            · have h_8 : rg (-1) (-1) x5_3 := r_eq_l_i (e := (-1)) (f := (-1)) c47 hx5_3 (rgn (-1) (x := (-1)) (by decide)) (by decide)
              refine lv_iload hx hb dX11_doerOf_61 (lv_at hl 5 rfl) ?_
              refine lv_istore_n (lv' := [(3, .int x5_4), (5, .int r20), (0, .ref a0), (1, .int p0), (2, .int p1), (4, .int x5_4)]) hx hb dX11_doerOf_63 rfl hl (by decide) rfl (fun ls hl => ?_)
              obtain ⟨z64, qz64⟩ : ∃ y : Int32, y = x5_4 + Int32.ofInt 1 := ⟨_, rfl⟩
              obtain ⟨hz64, ez64⟩ := inc_z (e := 1) (f := 8) h_1 qz64 (by decide)
              refine lv_iinc (v := z64) (lv' := [(4, .int z64), (3, .int x5_4), (5, .int r20), (0, .ref a0), (1, .int p0), (2, .int p1)]) hx hb dX11_doerOf_64 hl (k := 5) rfl (qz64.symm) (by decide) rfl (fun ls hl => ?_)
              refine lv_goto (tgt := 5) hx hb dX11_doerOf_67 (by decide) ?_
              exact ih5 x5_4 z64 _ _ ls (by have q := hn5; have := ez64; omega) (rg_w (c := (-1)) (d := 7) h_1 (by decide)) (rg_w (c := 0) (d := 8) hz64 (by decide)) (fun _ => (p_3 c42)) hP hS (lv_sub hl [3, 4, 5, 1, 0] rfl)
            · have h_9 : rg 0 7 x5_3 := r_ne_lo_i c47 hx5_3 (by decide) (by decide)
              refine lv_iload hx hb dX11_doerOf_50 (lv_at hl 0 rfl) ?_
              refine lv_aload_n hx hb dX11_doerOf_52 rfl (lv_at hl 1 rfl) ?_
              refine lv_iload_n hx hb dX11_doerOf_53 rfl (lv_at hl 2 rfl) ?_
              refine lv_iload_n hx hb dX11_doerOf_54 rfl (lv_at hl 4 rfl) ?_
              refine ro_calli (va_runV (As := [.int p0, .int x5_3]) (rest := [.int r20]) ⟨hx, hb, hml, hown, hts⟩ (a_X11_timeOf l G ct a0 n0_0 a1 a2 a3 a4 a5 n0_6 n0_7 n0_8 n0_9 n0_10 l0_11 n0_12 n0_13 n0_14 n0_15 a6 a7 a8 a9 a10 a11 a12 a13 n0_24 n0_25 n0_26 n0_27 a14 n0_29 n0_30 f8 f11 p0 x5_3 hp_n0_6 hp_f8 hp_f11 hp_p0 h_9) (cwV 2 hts gX11_doerOf_X11_timeOf rfl rfl rfl (by decide +kernel) ⟨Nat.le_of_ble_eq_true rfl, Nat.le_of_ble_eq_true rfl⟩) (ro_preV 11 0 hK (hP.sub [0, 2, 3] rfl) rfl rfl) rfl rfl hl.1 rfl (lv_room (Nat.le_of_ble_eq_true rfl)) dX11_doerOf_55 ⟨Nat.zero_le _, Nat.zero_le _⟩) hS hP (fun r55 H locs wr55 hP hS => ?_)
              obtain ⟨p_10, -⟩ := wr55
              refine lv_icmp_ge (tgt := 64) hx hb dX11_doerOf_58 (by decide) (fun c58 => ?_) (fun c58 => ?_)
              · obtain ⟨z64, qz64⟩ : ∃ y : Int32, y = x5_4 + Int32.ofInt 1 := ⟨_, rfl⟩
                obtain ⟨hz64, ez64⟩ := inc_z (e := 1) (f := 8) h_1 qz64 (by decide)
                refine lv_iinc (v := z64) (lv' := [(4, .int z64), (5, .int r20), (0, .ref a0), (1, .int p0), (2, .int p1), (3, .int x5_3)]) hx hb dX11_doerOf_64 hl (k := 5) rfl (qz64.symm) (by decide) rfl (fun ls hl => ?_)
                refine lv_goto (tgt := 5) hx hb dX11_doerOf_67 (by decide) ?_
                exact ih5 x5_3 z64 _ _ ls (by have q := hn5; have := ez64; omega) (rg_w (c := (-1)) (d := 7) h_9 (by decide)) (rg_w (c := 0) (d := 8) hz64 (by decide)) hq5 hP hS (lv_sub hl [2, 3, 4, 5, 0] rfl)
              · have h_11 : rg (-2147483648) 2147483646 r20 := r_lt_l_i (nle_i c58) (rg_t r20) (rg_t r55) (by decide)
                have h_12 : rg (-2147483647) 2147483647 r55 := r_lt_r_i (nle_i c58) (rg_t r20) (rg_t r55) (by decide)
                refine lv_iload hx hb dX11_doerOf_61 (lv_at hl 5 rfl) ?_
                refine lv_istore_n (lv' := [(3, .int x5_4), (5, .int r20), (0, .ref a0), (1, .int p0), (2, .int p1), (4, .int x5_4)]) hx hb dX11_doerOf_63 rfl hl (by decide) rfl (fun ls hl => ?_)
                obtain ⟨z64, qz64⟩ : ∃ y : Int32, y = x5_4 + Int32.ofInt 1 := ⟨_, rfl⟩
                obtain ⟨hz64, ez64⟩ := inc_z (e := 1) (f := 8) h_1 qz64 (by decide)
                refine lv_iinc (v := z64) (lv' := [(4, .int z64), (3, .int x5_4), (5, .int r20), (0, .ref a0), (1, .int p0), (2, .int p1)]) hx hb dX11_doerOf_64 hl (k := 5) rfl (qz64.symm) (by decide) rfl (fun ls hl => ?_)
                refine lv_goto (tgt := 5) hx hb dX11_doerOf_67 (by decide) ?_
                exact ih5 x5_4 z64 _ _ ls (by have q := hn5; have := ez64; omega) (rg_w (c := (-1)) (d := 7) h_1 (by decide)) (rg_w (c := 0) (d := 8) hz64 (by decide)) (fun _ => (p_3 c42)) hP hS (lv_sub hl [3, 4, 5, 1, 0] rfl)
  exact j5 4294967296 ((-1) : Int32) (0 : Int32) _ _ ls (ms_e (0 : Int32)) (rg_w (c := (-1)) (d := 7) (rgn (-1) (x := (-1)) (by decide)) (by decide)) (rg_w (c := 0) (d := 8) (rgn 0 (x := 0) (by decide)) (by decide)) (fun hq => absurd rfl hq) hP hS (lv_sub hl [2, 3, 4, 1, 0] rfl)
