theorem dX11_cover_0 : decode cX11_cover 0 = .ok (.aload_n 0, 1) := by decide +kernel
theorem dX11_cover_1 : decode cX11_cover 1 = .ok (.iconst 0, 1) := by decide +kernel
theorem dX11_cover_2 : decode cX11_cover 2 = .ok (.putfield 59, 3) := by decide +kernel
theorem dX11_cover_5 : decode cX11_cover 5 = .ok (.aload_n 0, 1) := by decide +kernel
theorem dX11_cover_6 : decode cX11_cover 6 = .ok (.iload_n 1, 1) := by decide +kernel
set_option maxRecDepth 20000 in
theorem ggX11_cover_X11_areDeeds : GoodIn wsX11_cover wsX11_areDeeds := goodIn_r _ [6, 7, 8, 9, 10, 5, 11, 12, 13, 14, 15, 76, 77, 78, 79, 80, 81, 82, 83, 84, 85, 86, 87, 88, 89, 90, 91, 92, 93, 94, 95, 96, 97, 98, 99, 100, 101, 102, 103, 104, 105, 106] (by rfl) (by decide +kernel)
set_option maxRecDepth 20000 in
theorem gX11_cover_X11_areDeeds : GoodIn wsX11_cover (wsV RX11 317 RX11 yX11_areDeeds wsX11_areDeeds) := goodIn_app (goodIn_r _ [2, 3, 4, 5] (by rfl) (by decide +kernel)) ggX11_cover_X11_areDeeds
theorem dX11_cover_7 : decode cX11_cover 7 = .ok (.invokevirtual 317, 3) := by decide +kernel
theorem dX11_cover_10 : decode cX11_cover 10 = .ok (.ifCond .ne 6, 3) := by decide +kernel
theorem dX11_cover_16 : decode cX11_cover 16 = .ok (.aload_n 0, 1) := by decide +kernel
theorem dX11_cover_17 : decode cX11_cover 17 = .ok (.iload_n 1, 1) := by decide +kernel
set_option maxRecDepth 20000 in
theorem ggX11_cover_X11_coversOf : GoodIn wsX11_cover wsX11_coversOf := goodIn_r _ [19, 20, 21, 22, 23, 5, 24, 25, 26, 27, 28, 29, 30, 31, 32, 33, 34, 35, 36, 37, 38, 39, 40, 41, 42, 43, 44, 45, 46, 47, 48, 49, 50, 51, 52, 53, 54, 55, 56, 57, 58, 59, 60, 61, 62, 63, 64, 65, 66, 67, 68, 69, 70, 71, 72, 73, 74, 75, 76, 77, 78, 79, 80, 81, 82, 83, 84, 85, 86, 87, 88, 89, 90, 91, 92, 93, 94, 95, 96, 97, 98, 99, 100, 101, 102, 103, 104, 105, 106] (by rfl) (by decide +kernel)
set_option maxRecDepth 20000 in
theorem gX11_cover_X11_coversOf : GoodIn wsX11_cover (wsV RX11 320 RX11 yX11_coversOf wsX11_coversOf) := goodIn_app (goodIn_r _ [16, 17, 18, 5] (by rfl) (by decide +kernel)) ggX11_cover_X11_coversOf
theorem dX11_cover_18 : decode cX11_cover 18 = .ok (.invokevirtual 320, 3) := by decide +kernel
theorem dX11_cover_21 : decode cX11_cover 21 = .ok (.istore_n 2, 1) := by decide +kernel
theorem dX11_cover_22 : decode cX11_cover 22 = .ok (.iload_n 2, 1) := by decide +kernel
theorem dX11_cover_23 : decode cX11_cover 23 = .ok (.iconst (-1), 1) := by decide +kernel
theorem dX11_cover_24 : decode cX11_cover 24 = .ok (.if_icmp .ne 7, 3) := by decide +kernel
theorem dX11_cover_31 : decode cX11_cover 31 = .ok (.iload_n 2, 1) := by decide +kernel
set_option maxRecDepth 20000 in
theorem ggX11_cover_X11_sizeOf : GoodIn wsX11_cover wsX11_sizeOf := goodIn_r _ [63] (by rfl) (by decide +kernel)
set_option maxRecDepth 20000 in
theorem gX11_cover_X11_sizeOf : GoodIn wsX11_cover (va_wsS RX11 297 yX11_sizeOf wsX11_sizeOf) := goodIn_app (goodIn_r _ [61, 62, 5] (by rfl) (by decide +kernel)) ggX11_cover_X11_sizeOf
theorem dX11_cover_32 : decode cX11_cover 32 = .ok (.invokestatic 297, 3) := by decide +kernel
theorem dX11_cover_35 : decode cX11_cover 35 = .ok (.ireturn, 1) := by decide +kernel
theorem dX11_cover_27 : decode cX11_cover 27 = .ok (.iconst (-1), 1) := by decide +kernel
theorem dX11_cover_28 : decode cX11_cover 28 = .ok (.goto 7, 3) := by decide +kernel
theorem dX11_cover_13 : decode cX11_cover 13 = .ok (.bipush (-2), 2) := by decide +kernel
theorem dX11_cover_15 : decode cX11_cover 15 = .ok (.ireturn, 1) := by decide +kernel
theorem dX11_covers_0 : decode cX11_covers 0 = .ok (.aload_n 0, 1) := by decide +kernel
theorem dX11_covers_1 : decode cX11_covers 1 = .ok (.iconst 0, 1) := by decide +kernel
theorem dX11_covers_2 : decode cX11_covers 2 = .ok (.putfield 59, 3) := by decide +kernel
theorem dX11_covers_5 : decode cX11_covers 5 = .ok (.aload_n 0, 1) := by decide +kernel
theorem dX11_covers_6 : decode cX11_covers 6 = .ok (.iload_n 1, 1) := by decide +kernel
set_option maxRecDepth 20000 in
theorem ggX11_covers_X11_areDeeds : GoodIn wsX11_covers wsX11_areDeeds := goodIn_r _ [6, 7, 8, 9, 10, 5, 11, 12, 13, 14, 15, 76, 77, 78, 79, 80, 81, 82, 83, 84, 85, 86, 87, 88, 89, 90, 91, 92, 93, 94, 95, 96, 97, 98, 99, 100, 101, 102, 103, 104, 105, 106] (by rfl) (by decide +kernel)
set_option maxRecDepth 20000 in
theorem gX11_covers_X11_areDeeds : GoodIn wsX11_covers (wsV RX11 317 RX11 yX11_areDeeds wsX11_areDeeds) := goodIn_app (goodIn_r _ [2, 3, 4, 5] (by rfl) (by decide +kernel)) ggX11_covers_X11_areDeeds
theorem dX11_covers_7 : decode cX11_covers 7 = .ok (.invokevirtual 317, 3) := by decide +kernel
theorem dX11_covers_10 : decode cX11_covers 10 = .ok (.ifCond .eq 11, 3) := by decide +kernel
theorem dX11_covers_21 : decode cX11_covers 21 = .ok (.bipush (-2), 2) := by decide +kernel
theorem dX11_covers_23 : decode cX11_covers 23 = .ok (.ireturn, 1) := by decide +kernel
theorem dX11_covers_13 : decode cX11_covers 13 = .ok (.aload_n 0, 1) := by decide +kernel
theorem dX11_covers_14 : decode cX11_covers 14 = .ok (.iload_n 1, 1) := by decide +kernel
set_option maxRecDepth 20000 in
theorem ggX11_covers_X11_coversOf : GoodIn wsX11_covers wsX11_coversOf := goodIn_r _ [19, 20, 21, 22, 23, 5, 24, 25, 26, 27, 28, 29, 30, 31, 32, 33, 34, 35, 36, 37, 38, 39, 40, 41, 42, 43, 44, 45, 46, 47, 48, 49, 50, 51, 52, 53, 54, 55, 56, 57, 58, 59, 60, 61, 62, 63, 64, 65, 66, 67, 68, 69, 70, 71, 72, 73, 74, 75, 76, 77, 78, 79, 80, 81, 82, 83, 84, 85, 86, 87, 88, 89, 90, 91, 92, 93, 94, 95, 96, 97, 98, 99, 100, 101, 102, 103, 104, 105, 106] (by rfl) (by decide +kernel)
set_option maxRecDepth 20000 in
theorem gX11_covers_X11_coversOf : GoodIn wsX11_covers (wsV RX11 320 RX11 yX11_coversOf wsX11_coversOf) := goodIn_app (goodIn_r _ [16, 17, 18, 5] (by rfl) (by decide +kernel)) ggX11_covers_X11_coversOf
theorem dX11_covers_15 : decode cX11_covers 15 = .ok (.invokevirtual 320, 3) := by decide +kernel
theorem dX11_covers_18 : decode cX11_covers 18 = .ok (.goto 5, 3) := by decide +kernel
theorem dX11_boughtOf_0 : decode cX11_boughtOf 0 = .ok (.iconst (-1), 1) := by decide +kernel
theorem dX11_boughtOf_1 : decode cX11_boughtOf 1 = .ok (.istore_n 2, 1) := by decide +kernel
theorem dX11_boughtOf_2 : decode cX11_boughtOf 2 = .ok (.iconst 0, 1) := by decide +kernel
theorem dX11_boughtOf_3 : decode cX11_boughtOf 3 = .ok (.istore_n 3, 1) := by decide +kernel
theorem dX11_boughtOf_4 : decode cX11_boughtOf 4 = .ok (.iload_n 3, 1) := by decide +kernel
theorem dX11_boughtOf_5 : decode cX11_boughtOf 5 = .ok (.iconst 1, 1) := by decide +kernel
theorem dX11_boughtOf_6 : decode cX11_boughtOf 6 = .ok (.aload_n 0, 1) := by decide +kernel
theorem dX11_boughtOf_7 : decode cX11_boughtOf 7 = .ok (.getfield 34, 3) := by decide +kernel
theorem dX11_boughtOf_10 : decode cX11_boughtOf 10 = .ok (.iconst 1, 1) := by decide +kernel
theorem dX11_boughtOf_11 : decode cX11_boughtOf 11 = .ok (.iaload, 1) := by decide +kernel
theorem dX11_boughtOf_12 : decode cX11_boughtOf 12 = .ok (.ishl, 1) := by decide +kernel
theorem dX11_boughtOf_13 : decode cX11_boughtOf 13 = .ok (.if_icmp .ge 41, 3) := by decide +kernel
theorem dX11_boughtOf_54 : decode cX11_boughtOf 54 = .ok (.iload_n 2, 1) := by decide +kernel
theorem dX11_boughtOf_55 : decode cX11_boughtOf 55 = .ok (.ireturn, 1) := by decide +kernel
theorem dX11_boughtOf_16 : decode cX11_boughtOf 16 = .ok (.iload_n 2, 1) := by decide +kernel
theorem dX11_boughtOf_17 : decode cX11_boughtOf 17 = .ok (.iconst (-1), 1) := by decide +kernel
theorem dX11_boughtOf_48 : decode cX11_boughtOf 48 = .ok (.iinc 3 1, 3) := by decide +kernel
theorem dX11_boughtOf_51 : decode cX11_boughtOf 51 = .ok (.goto (-47), 3) := by decide +kernel
theorem dX11_boughtOf_34 : decode cX11_boughtOf 34 = .ok (.iload_n 1, 1) := by decide +kernel
theorem dX11_boughtOf_35 : decode cX11_boughtOf 35 = .ok (.aload_n 0, 1) := by decide +kernel
theorem dX11_boughtOf_36 : decode cX11_boughtOf 36 = .ok (.iload_n 3, 1) := by decide +kernel
set_option maxRecDepth 20000 in
theorem ggX11_boughtOf_X11_doneBy : GoodIn wsX11_boughtOf wsX11_doneBy := goodIn_r _ [18, 1, 7, 8, 5, 9, 10, 11, 12, 13, 14, 19, 20, 21, 22, 23, 24, 25, 26, 27, 28, 29, 30, 31, 32, 33, 34, 35, 36, 37, 38, 39, 40, 41, 42, 43, 44, 45, 46, 47, 48, 49] (by rfl) (by decide +kernel)
set_option maxRecDepth 20000 in
theorem gX11_boughtOf_X11_doneBy : GoodIn wsX11_boughtOf (wsV RX11 314 RX11 yX11_doneBy wsX11_doneBy) := goodIn_app (goodIn_r _ [15, 16, 17, 5] (by rfl) (by decide +kernel)) ggX11_boughtOf_X11_doneBy
theorem dX11_boughtOf_37 : decode cX11_boughtOf 37 = .ok (.invokevirtual 314, 3) := by decide +kernel
theorem dX11_boughtOf_40 : decode cX11_boughtOf 40 = .ok (.iconst (-1), 1) := by decide +kernel
theorem dX11_boughtOf_41 : decode cX11_boughtOf 41 = .ok (.ixor, 1) := by decide +kernel
theorem dX11_boughtOf_42 : decode cX11_boughtOf 42 = .ok (.iand, 1) := by decide +kernel
theorem dX11_boughtOf_43 : decode cX11_boughtOf 43 = .ok (.ifCond .ne 5, 3) := by decide +kernel
theorem dX11_boughtOf_46 : decode cX11_boughtOf 46 = .ok (.iload_n 3, 1) := by decide +kernel
theorem dX11_boughtOf_47 : decode cX11_boughtOf 47 = .ok (.istore_n 2, 1) := by decide +kernel
theorem dX11_boughtOf_18 : decode cX11_boughtOf 18 = .ok (.if_icmp .eq 16, 3) := by decide +kernel
theorem dX11_boughtOf_21 : decode cX11_boughtOf 21 = .ok (.aload_n 0, 1) := by decide +kernel
theorem dX11_boughtOf_22 : decode cX11_boughtOf 22 = .ok (.iload_n 3, 1) := by decide +kernel
set_option maxRecDepth 20000 in
theorem ggX11_boughtOf_X11_worthOf : GoodIn wsX11_boughtOf wsX11_worthOf := goodIn_r _ [6, 1, 7, 8, 5, 9, 10, 11, 12, 13, 14, 19, 20, 21, 22, 23, 24, 25, 26, 27, 28, 29, 30, 31, 32, 33, 34, 35, 36, 37, 38, 39, 40, 41, 42, 43, 44, 45, 46, 47, 48, 49] (by rfl) (by decide +kernel)
set_option maxRecDepth 20000 in
theorem gX11_boughtOf_X11_worthOf : GoodIn wsX11_boughtOf (wsV RX11 323 RX11 yX11_worthOf wsX11_worthOf) := goodIn_app (goodIn_r _ [2, 3, 4, 5] (by rfl) (by decide +kernel)) ggX11_boughtOf_X11_worthOf
theorem dX11_boughtOf_23 : decode cX11_boughtOf 23 = .ok (.invokevirtual 323, 3) := by decide +kernel
theorem dX11_boughtOf_26 : decode cX11_boughtOf 26 = .ok (.aload_n 0, 1) := by decide +kernel
theorem dX11_boughtOf_27 : decode cX11_boughtOf 27 = .ok (.iload_n 2, 1) := by decide +kernel
theorem dX11_boughtOf_28 : decode cX11_boughtOf 28 = .ok (.invokevirtual 323, 3) := by decide +kernel
theorem dX11_boughtOf_31 : decode cX11_boughtOf 31 = .ok (.if_icmp .ge 17, 3) := by decide +kernel
theorem dX11_buy_0 : decode cX11_buy 0 = .ok (.aload_n 0, 1) := by decide +kernel
theorem dX11_buy_1 : decode cX11_buy 1 = .ok (.iconst 0, 1) := by decide +kernel
theorem dX11_buy_2 : decode cX11_buy 2 = .ok (.putfield 59, 3) := by decide +kernel
theorem dX11_buy_5 : decode cX11_buy 5 = .ok (.aload_n 0, 1) := by decide +kernel
theorem dX11_buy_6 : decode cX11_buy 6 = .ok (.iload_n 1, 1) := by decide +kernel
set_option maxRecDepth 20000 in
theorem ggX11_buy_X11_areDeeds : GoodIn wsX11_buy wsX11_areDeeds := goodIn_r _ [6, 7, 8, 9, 10, 5, 11, 12, 13, 14, 15, 37, 38, 39, 40, 41, 42, 43, 44, 45, 46, 47, 48, 49, 50, 51, 52, 53, 54, 55, 56, 57, 58, 59, 60, 61, 62, 63, 64, 65, 66, 67] (by rfl) (by decide +kernel)
set_option maxRecDepth 20000 in
theorem gX11_buy_X11_areDeeds : GoodIn wsX11_buy (wsV RX11 317 RX11 yX11_areDeeds wsX11_areDeeds) := goodIn_app (goodIn_r _ [2, 3, 4, 5] (by rfl) (by decide +kernel)) ggX11_buy_X11_areDeeds
theorem dX11_buy_7 : decode cX11_buy 7 = .ok (.invokevirtual 317, 3) := by decide +kernel
theorem dX11_buy_10 : decode cX11_buy 10 = .ok (.ifCond .ne 6, 3) := by decide +kernel
theorem dX11_buy_16 : decode cX11_buy 16 = .ok (.aload_n 0, 1) := by decide +kernel
theorem dX11_buy_17 : decode cX11_buy 17 = .ok (.iload_n 1, 1) := by decide +kernel
set_option maxRecDepth 20000 in
theorem ggX11_buy_X11_boughtOf : GoodIn wsX11_buy wsX11_boughtOf := goodIn_r _ [19, 20, 21, 22, 23, 5, 24, 25, 26, 27, 28, 29, 30, 31, 32, 33, 34, 35, 36, 37, 38, 39, 40, 41, 42, 43, 44, 45, 46, 47, 48, 49, 50, 51, 52, 53, 54, 55, 56, 57, 58, 59, 60, 61, 62, 63, 64, 65, 66, 67] (by rfl) (by decide +kernel)
set_option maxRecDepth 20000 in
theorem gX11_buy_X11_boughtOf : GoodIn wsX11_buy (wsV RX11 326 RX11 yX11_boughtOf wsX11_boughtOf) := goodIn_app (goodIn_r _ [16, 17, 18, 5] (by rfl) (by decide +kernel)) ggX11_buy_X11_boughtOf
theorem dX11_buy_18 : decode cX11_buy 18 = .ok (.invokevirtual 326, 3) := by decide +kernel
theorem dX11_buy_21 : decode cX11_buy 21 = .ok (.istore_n 2, 1) := by decide +kernel
theorem dX11_buy_22 : decode cX11_buy 22 = .ok (.iload_n 2, 1) := by decide +kernel
theorem dX11_buy_23 : decode cX11_buy 23 = .ok (.iconst (-1), 1) := by decide +kernel
theorem dX11_buy_24 : decode cX11_buy 24 = .ok (.if_icmp .ne 7, 3) := by decide +kernel
theorem dX11_buy_31 : decode cX11_buy 31 = .ok (.aload_n 0, 1) := by decide +kernel
theorem dX11_buy_32 : decode cX11_buy 32 = .ok (.iload_n 2, 1) := by decide +kernel
set_option maxRecDepth 20000 in
theorem ggX11_buy_X11_worthOf : GoodIn wsX11_buy wsX11_worthOf := goodIn_r _ [24, 20, 25, 26, 5, 27, 28, 29, 30, 31, 32, 37, 38, 39, 40, 41, 42, 43, 44, 45, 46, 47, 48, 49, 50, 51, 52, 53, 54, 55, 56, 57, 58, 59, 60, 61, 62, 63, 64, 65, 66, 67] (by rfl) (by decide +kernel)
set_option maxRecDepth 20000 in
theorem gX11_buy_X11_worthOf : GoodIn wsX11_buy (wsV RX11 323 RX11 yX11_worthOf wsX11_worthOf) := goodIn_app (goodIn_r _ [21, 22, 23, 5] (by rfl) (by decide +kernel)) ggX11_buy_X11_worthOf
theorem dX11_buy_33 : decode cX11_buy 33 = .ok (.invokevirtual 323, 3) := by decide +kernel
theorem dX11_buy_36 : decode cX11_buy 36 = .ok (.ireturn, 1) := by decide +kernel
theorem dX11_buy_27 : decode cX11_buy 27 = .ok (.iconst (-1), 1) := by decide +kernel
theorem dX11_buy_28 : decode cX11_buy 28 = .ok (.goto 8, 3) := by decide +kernel
theorem dX11_buy_13 : decode cX11_buy 13 = .ok (.bipush (-2), 2) := by decide +kernel
theorem dX11_buy_15 : decode cX11_buy 15 = .ok (.ireturn, 1) := by decide +kernel
theorem dX11_bought_0 : decode cX11_bought 0 = .ok (.aload_n 0, 1) := by decide +kernel
theorem dX11_bought_1 : decode cX11_bought 1 = .ok (.iconst 0, 1) := by decide +kernel
theorem dX11_bought_2 : decode cX11_bought 2 = .ok (.putfield 59, 3) := by decide +kernel
theorem dX11_bought_5 : decode cX11_bought 5 = .ok (.aload_n 0, 1) := by decide +kernel
theorem dX11_bought_6 : decode cX11_bought 6 = .ok (.iload_n 1, 1) := by decide +kernel
set_option maxRecDepth 20000 in
theorem ggX11_bought_X11_areDeeds : GoodIn wsX11_bought wsX11_areDeeds := goodIn_r _ [6, 7, 8, 9, 10, 5, 11, 12, 13, 14, 15, 37, 38, 39, 40, 41, 42, 43, 44, 45, 46, 47, 48, 49, 50, 51, 52, 53, 54, 55, 56, 57, 58, 59, 60, 61, 62, 63, 64, 65, 66, 67] (by rfl) (by decide +kernel)
set_option maxRecDepth 20000 in
theorem gX11_bought_X11_areDeeds : GoodIn wsX11_bought (wsV RX11 317 RX11 yX11_areDeeds wsX11_areDeeds) := goodIn_app (goodIn_r _ [2, 3, 4, 5] (by rfl) (by decide +kernel)) ggX11_bought_X11_areDeeds
theorem dX11_bought_7 : decode cX11_bought 7 = .ok (.invokevirtual 317, 3) := by decide +kernel
theorem dX11_bought_10 : decode cX11_bought 10 = .ok (.ifCond .eq 11, 3) := by decide +kernel
theorem dX11_bought_21 : decode cX11_bought 21 = .ok (.bipush (-2), 2) := by decide +kernel
theorem dX11_bought_23 : decode cX11_bought 23 = .ok (.ireturn, 1) := by decide +kernel
theorem dX11_bought_13 : decode cX11_bought 13 = .ok (.aload_n 0, 1) := by decide +kernel
theorem dX11_bought_14 : decode cX11_bought 14 = .ok (.iload_n 1, 1) := by decide +kernel
set_option maxRecDepth 20000 in
theorem ggX11_bought_X11_boughtOf : GoodIn wsX11_bought wsX11_boughtOf := goodIn_r _ [19, 20, 21, 22, 23, 5, 24, 25, 26, 27, 28, 29, 30, 31, 32, 33, 34, 35, 36, 37, 38, 39, 40, 41, 42, 43, 44, 45, 46, 47, 48, 49, 50, 51, 52, 53, 54, 55, 56, 57, 58, 59, 60, 61, 62, 63, 64, 65, 66, 67] (by rfl) (by decide +kernel)
set_option maxRecDepth 20000 in
theorem gX11_bought_X11_boughtOf : GoodIn wsX11_bought (wsV RX11 326 RX11 yX11_boughtOf wsX11_boughtOf) := goodIn_app (goodIn_r _ [16, 17, 18, 5] (by rfl) (by decide +kernel)) ggX11_bought_X11_boughtOf
theorem dX11_bought_15 : decode cX11_bought 15 = .ok (.invokevirtual 326, 3) := by decide +kernel
theorem dX11_bought_18 : decode cX11_bought 18 = .ok (.goto 5, 3) := by decide +kernel
theorem dX11_hiredOf_0 : decode cX11_hiredOf 0 = .ok (.iconst 0, 1) := by decide +kernel
theorem dX11_hiredOf_1 : decode cX11_hiredOf 1 = .ok (.istore_n 2, 1) := by decide +kernel
theorem dX11_hiredOf_2 : decode cX11_hiredOf 2 = .ok (.iconst 0, 1) := by decide +kernel
theorem dX11_hiredOf_3 : decode cX11_hiredOf 3 = .ok (.istore_n 3, 1) := by decide +kernel
theorem dX11_hiredOf_4 : decode cX11_hiredOf 4 = .ok (.iload_n 3, 1) := by decide +kernel
theorem dX11_hiredOf_5 : decode cX11_hiredOf 5 = .ok (.iconst 1, 1) := by decide +kernel
theorem dX11_hiredOf_6 : decode cX11_hiredOf 6 = .ok (.aload_n 0, 1) := by decide +kernel
theorem dX11_hiredOf_7 : decode cX11_hiredOf 7 = .ok (.getfield 34, 3) := by decide +kernel
theorem dX11_hiredOf_10 : decode cX11_hiredOf 10 = .ok (.iconst 1, 1) := by decide +kernel
theorem dX11_hiredOf_11 : decode cX11_hiredOf 11 = .ok (.iaload, 1) := by decide +kernel
theorem dX11_hiredOf_12 : decode cX11_hiredOf 12 = .ok (.ishl, 1) := by decide +kernel
theorem dX11_hiredOf_13 : decode cX11_hiredOf 13 = .ok (.if_icmp .ge 39, 3) := by decide +kernel
theorem dX11_hiredOf_52 : decode cX11_hiredOf 52 = .ok (.iload_n 2, 1) := by decide +kernel
theorem dX11_hiredOf_53 : decode cX11_hiredOf 53 = .ok (.ireturn, 1) := by decide +kernel
theorem dX11_hiredOf_16 : decode cX11_hiredOf 16 = .ok (.aload_n 0, 1) := by decide +kernel
theorem dX11_hiredOf_17 : decode cX11_hiredOf 17 = .ok (.iload_n 3, 1) := by decide +kernel
set_option maxRecDepth 20000 in
theorem ggX11_hiredOf_X11_worthOf : GoodIn wsX11_hiredOf wsX11_worthOf := goodIn_r _ [6, 1, 7, 8, 5, 9, 10, 11, 12, 13, 14, 22, 23, 24, 25, 26, 27, 28, 29, 30, 31, 32, 33, 34, 35, 36, 37, 38, 39, 40, 41, 42, 43, 44, 45, 46, 47, 48, 49, 50, 51, 52] (by rfl) (by decide +kernel)
set_option maxRecDepth 20000 in
theorem gX11_hiredOf_X11_worthOf : GoodIn wsX11_hiredOf (wsV RX11 323 RX11 yX11_worthOf wsX11_worthOf) := goodIn_app (goodIn_r _ [2, 3, 4, 5] (by rfl) (by decide +kernel)) ggX11_hiredOf_X11_worthOf
theorem dX11_hiredOf_18 : decode cX11_hiredOf 18 = .ok (.invokevirtual 323, 3) := by decide +kernel
theorem dX11_hiredOf_21 : decode cX11_hiredOf 21 = .ok (.iload_n 1, 1) := by decide +kernel
theorem dX11_hiredOf_46 : decode cX11_hiredOf 46 = .ok (.iinc 3 1, 3) := by decide +kernel
theorem dX11_hiredOf_49 : decode cX11_hiredOf 49 = .ok (.goto (-45), 3) := by decide +kernel
theorem dX11_hiredOf_22 : decode cX11_hiredOf 22 = .ok (.if_icmp .gt 24, 3) := by decide +kernel
theorem dX11_hiredOf_25 : decode cX11_hiredOf 25 = .ok (.aload_n 0, 1) := by decide +kernel
theorem dX11_hiredOf_26 : decode cX11_hiredOf 26 = .ok (.iload_n 3, 1) := by decide +kernel
set_option maxRecDepth 20000 in
theorem ggX11_hiredOf_X11_doneBy : GoodIn wsX11_hiredOf wsX11_doneBy := goodIn_r _ [18, 1, 7, 8, 5, 9, 10, 11, 12, 13, 14, 22, 23, 24, 25, 26, 27, 28, 29, 30, 31, 32, 33, 34, 35, 36, 37, 38, 39, 40, 41, 42, 43, 44, 45, 46, 47, 48, 49, 50, 51, 52] (by rfl) (by decide +kernel)
set_option maxRecDepth 20000 in
theorem gX11_hiredOf_X11_doneBy : GoodIn wsX11_hiredOf (wsV RX11 314 RX11 yX11_doneBy wsX11_doneBy) := goodIn_app (goodIn_r _ [15, 16, 17, 5] (by rfl) (by decide +kernel)) ggX11_hiredOf_X11_doneBy
theorem dX11_hiredOf_27 : decode cX11_hiredOf 27 = .ok (.invokevirtual 314, 3) := by decide +kernel
set_option maxRecDepth 20000 in
theorem ggX11_hiredOf_X11_sizeOf : GoodIn wsX11_hiredOf wsX11_sizeOf := goodIn_r _ [21] (by rfl) (by decide +kernel)
set_option maxRecDepth 20000 in
theorem gX11_hiredOf_X11_sizeOf : GoodIn wsX11_hiredOf (va_wsS RX11 297 yX11_sizeOf wsX11_sizeOf) := goodIn_app (goodIn_r _ [19, 20, 5] (by rfl) (by decide +kernel)) ggX11_hiredOf_X11_sizeOf
theorem dX11_hiredOf_30 : decode cX11_hiredOf 30 = .ok (.invokestatic 297, 3) := by decide +kernel
theorem dX11_hiredOf_33 : decode cX11_hiredOf 33 = .ok (.aload_n 0, 1) := by decide +kernel
theorem dX11_hiredOf_34 : decode cX11_hiredOf 34 = .ok (.iload_n 2, 1) := by decide +kernel
theorem dX11_hiredOf_35 : decode cX11_hiredOf 35 = .ok (.invokevirtual 314, 3) := by decide +kernel
theorem dX11_hiredOf_38 : decode cX11_hiredOf 38 = .ok (.invokestatic 297, 3) := by decide +kernel
theorem dX11_hiredOf_41 : decode cX11_hiredOf 41 = .ok (.if_icmp .le 5, 3) := by decide +kernel
theorem dX11_hiredOf_44 : decode cX11_hiredOf 44 = .ok (.iload_n 3, 1) := by decide +kernel
theorem dX11_hiredOf_45 : decode cX11_hiredOf 45 = .ok (.istore_n 2, 1) := by decide +kernel
theorem dX11_deeds_0 : decode cX11_deeds 0 = .ok (.aload_n 0, 1) := by decide +kernel
theorem dX11_deeds_1 : decode cX11_deeds 1 = .ok (.iconst 0, 1) := by decide +kernel
theorem dX11_deeds_2 : decode cX11_deeds 2 = .ok (.putfield 59, 3) := by decide +kernel
theorem dX11_deeds_5 : decode cX11_deeds 5 = .ok (.aload_n 0, 1) := by decide +kernel
set_option maxRecDepth 20000 in
theorem ggX11_deeds_X11_isCity : GoodIn wsX11_deeds wsX11_isCity := goodIn_r _ [7, 8, 36, 37, 38, 39, 40, 41, 42, 43, 44, 45, 46, 47, 48, 49, 50, 51, 52, 53, 54, 55, 56, 57, 58, 59, 60, 61, 62, 63, 64, 65, 66] (by rfl) (by decide +kernel)
set_option maxRecDepth 20000 in
theorem gX11_deeds_X11_isCity : GoodIn wsX11_deeds (wsV RX11 209 RX11 yX11_isCity wsX11_isCity) := goodIn_app (goodIn_r _ [3, 4, 5, 6] (by rfl) (by decide +kernel)) ggX11_deeds_X11_isCity
theorem dX11_deeds_6 : decode cX11_deeds 6 = .ok (.invokevirtual 209, 3) := by decide +kernel
theorem dX11_deeds_9 : decode cX11_deeds 9 = .ok (.ifCond .eq 30, 3) := by decide +kernel
theorem dX11_deeds_39 : decode cX11_deeds 39 = .ok (.bipush (-2), 2) := by decide +kernel
theorem dX11_deeds_41 : decode cX11_deeds 41 = .ok (.ireturn, 1) := by decide +kernel
theorem dX11_deeds_12 : decode cX11_deeds 12 = .ok (.iload_n 1, 1) := by decide +kernel
theorem dX11_deeds_13 : decode cX11_deeds 13 = .ok (.i2l, 1) := by decide +kernel
theorem dX11_deeds_14 : decode cX11_deeds 14 = .ok (.lconst 0, 1) := by decide +kernel
theorem dX11_deeds_15 : decode cX11_deeds 15 = .ok (.ldc2_w 329, 3) := by decide +kernel
set_option maxRecDepth 20000 in
theorem ggX11_deeds_X11_in : GoodIn wsX11_deeds wsX11_in := goodIn_r _ [11] (by rfl) (by decide +kernel)
set_option maxRecDepth 20000 in
theorem gX11_deeds_X11_in : GoodIn wsX11_deeds (va_wsS RX11 64 yX11_in wsX11_in) := goodIn_app (goodIn_r _ [9, 10, 6] (by rfl) (by decide +kernel)) ggX11_deeds_X11_in
theorem dX11_deeds_18 : decode cX11_deeds 18 = .ok (.invokestatic 64, 3) := by decide +kernel
theorem dX11_deeds_21 : decode cX11_deeds 21 = .ok (.ifCond .eq 18, 3) := by decide +kernel
theorem dX11_deeds_24 : decode cX11_deeds 24 = .ok (.aload_n 0, 1) := by decide +kernel
theorem dX11_deeds_25 : decode cX11_deeds 25 = .ok (.aload_n 0, 1) := by decide +kernel
theorem dX11_deeds_26 : decode cX11_deeds 26 = .ok (.iload_n 1, 1) := by decide +kernel
set_option maxRecDepth 20000 in
theorem ggX11_deeds_X11_hiredOf : GoodIn wsX11_deeds wsX11_hiredOf := goodIn_r _ [15, 16, 17, 18, 19, 6, 20, 21, 22, 23, 24, 25, 26, 27, 28, 29, 30, 31, 32, 33, 34, 35, 36, 37, 38, 39, 40, 41, 42, 43, 44, 45, 46, 47, 48, 49, 50, 51, 52, 53, 54, 55, 56, 57, 58, 59, 60, 61, 62, 63, 64, 65, 66] (by rfl) (by decide +kernel)
set_option maxRecDepth 20000 in
theorem gX11_deeds_X11_hiredOf : GoodIn wsX11_deeds (wsV RX11 331 RX11 yX11_hiredOf wsX11_hiredOf) := goodIn_app (goodIn_r _ [12, 13, 14, 6] (by rfl) (by decide +kernel)) ggX11_deeds_X11_hiredOf
theorem dX11_deeds_27 : decode cX11_deeds 27 = .ok (.invokevirtual 331, 3) := by decide +kernel
set_option maxRecDepth 20000 in
theorem ggX11_deeds_X11_doneBy : GoodIn wsX11_deeds wsX11_doneBy := goodIn_r _ [32, 16, 21, 22, 6, 23, 24, 25, 26, 27, 28, 36, 37, 38, 39, 40, 41, 42, 43, 44, 45, 46, 47, 48, 49, 50, 51, 52, 53, 54, 55, 56, 57, 58, 59, 60, 61, 62, 63, 64, 65, 66] (by rfl) (by decide +kernel)
set_option maxRecDepth 20000 in
theorem gX11_deeds_X11_doneBy : GoodIn wsX11_deeds (wsV RX11 314 RX11 yX11_doneBy wsX11_doneBy) := goodIn_app (goodIn_r _ [29, 30, 31, 6] (by rfl) (by decide +kernel)) ggX11_deeds_X11_doneBy
theorem dX11_deeds_30 : decode cX11_deeds 30 = .ok (.invokevirtual 314, 3) := by decide +kernel
set_option maxRecDepth 20000 in
theorem ggX11_deeds_X11_sizeOf : GoodIn wsX11_deeds wsX11_sizeOf := goodIn_r _ [35] (by rfl) (by decide +kernel)
set_option maxRecDepth 20000 in
theorem gX11_deeds_X11_sizeOf : GoodIn wsX11_deeds (va_wsS RX11 297 yX11_sizeOf wsX11_sizeOf) := goodIn_app (goodIn_r _ [33, 34, 6] (by rfl) (by decide +kernel)) ggX11_deeds_X11_sizeOf
theorem dX11_deeds_33 : decode cX11_deeds 33 = .ok (.invokestatic 297, 3) := by decide +kernel
theorem dX11_deeds_36 : decode cX11_deeds 36 = .ok (.goto 5, 3) := by decide +kernel
theorem dX11_hired_0 : decode cX11_hired 0 = .ok (.aload_n 0, 1) := by decide +kernel
theorem dX11_hired_1 : decode cX11_hired 1 = .ok (.iconst 0, 1) := by decide +kernel
theorem dX11_hired_2 : decode cX11_hired 2 = .ok (.putfield 59, 3) := by decide +kernel
theorem dX11_hired_5 : decode cX11_hired 5 = .ok (.aload_n 0, 1) := by decide +kernel
set_option maxRecDepth 20000 in
theorem ggX11_hired_X11_isCity : GoodIn wsX11_hired wsX11_isCity := goodIn_r _ [7, 8, 36, 37, 38, 39, 40, 41, 42, 43, 44, 45, 46, 47, 48, 49, 50, 51, 52, 53, 54, 55, 56, 57, 58, 59, 60, 61, 62, 63, 64, 65, 66] (by rfl) (by decide +kernel)
set_option maxRecDepth 20000 in
theorem gX11_hired_X11_isCity : GoodIn wsX11_hired (wsV RX11 209 RX11 yX11_isCity wsX11_isCity) := goodIn_app (goodIn_r _ [3, 4, 5, 6] (by rfl) (by decide +kernel)) ggX11_hired_X11_isCity
theorem dX11_hired_6 : decode cX11_hired 6 = .ok (.invokevirtual 209, 3) := by decide +kernel
theorem dX11_hired_9 : decode cX11_hired 9 = .ok (.ifCond .eq 23, 3) := by decide +kernel
theorem dX11_hired_32 : decode cX11_hired 32 = .ok (.bipush (-2), 2) := by decide +kernel
theorem dX11_hired_34 : decode cX11_hired 34 = .ok (.ireturn, 1) := by decide +kernel
theorem dX11_hired_12 : decode cX11_hired 12 = .ok (.iload_n 1, 1) := by decide +kernel
theorem dX11_hired_13 : decode cX11_hired 13 = .ok (.i2l, 1) := by decide +kernel
theorem dX11_hired_14 : decode cX11_hired 14 = .ok (.lconst 0, 1) := by decide +kernel
theorem dX11_hired_15 : decode cX11_hired 15 = .ok (.ldc2_w 329, 3) := by decide +kernel
set_option maxRecDepth 20000 in
theorem ggX11_hired_X11_in : GoodIn wsX11_hired wsX11_in := goodIn_r _ [11] (by rfl) (by decide +kernel)
set_option maxRecDepth 20000 in
theorem gX11_hired_X11_in : GoodIn wsX11_hired (va_wsS RX11 64 yX11_in wsX11_in) := goodIn_app (goodIn_r _ [9, 10, 6] (by rfl) (by decide +kernel)) ggX11_hired_X11_in
theorem dX11_hired_18 : decode cX11_hired 18 = .ok (.invokestatic 64, 3) := by decide +kernel
theorem dX11_hired_21 : decode cX11_hired 21 = .ok (.ifCond .eq 11, 3) := by decide +kernel
theorem dX11_hired_24 : decode cX11_hired 24 = .ok (.aload_n 0, 1) := by decide +kernel
theorem dX11_hired_25 : decode cX11_hired 25 = .ok (.iload_n 1, 1) := by decide +kernel
set_option maxRecDepth 20000 in
theorem ggX11_hired_X11_hiredOf : GoodIn wsX11_hired wsX11_hiredOf := goodIn_r _ [15, 16, 17, 18, 19, 6, 20, 21, 22, 23, 24, 25, 26, 27, 28, 29, 30, 31, 32, 33, 34, 35, 36, 37, 38, 39, 40, 41, 42, 43, 44, 45, 46, 47, 48, 49, 50, 51, 52, 53, 54, 55, 56, 57, 58, 59, 60, 61, 62, 63, 64, 65, 66] (by rfl) (by decide +kernel)
set_option maxRecDepth 20000 in
theorem gX11_hired_X11_hiredOf : GoodIn wsX11_hired (wsV RX11 331 RX11 yX11_hiredOf wsX11_hiredOf) := goodIn_app (goodIn_r _ [12, 13, 14, 6] (by rfl) (by decide +kernel)) ggX11_hired_X11_hiredOf
theorem dX11_hired_26 : decode cX11_hired 26 = .ok (.invokevirtual 331, 3) := by decide +kernel
theorem dX11_hired_29 : decode cX11_hired 29 = .ok (.goto 5, 3) := by decide +kernel
theorem dX11_whyNot_0 : decode cX11_whyNot 0 = .ok (.iload_n 1, 1) := by decide +kernel
set_option maxRecDepth 20000 in
theorem ggX11_whyNot_X11_isSlot : GoodIn wsX11_whyNot wsX11_isSlot := goodIn_r _ [7, 8, 9, 10, 6, 11] (by rfl) (by decide +kernel)
set_option maxRecDepth 20000 in
theorem gX11_whyNot_X11_isSlot : GoodIn wsX11_whyNot (va_wsS RX11 68 yX11_isSlot wsX11_isSlot) := goodIn_app (goodIn_r _ [4, 5, 6] (by rfl) (by decide +kernel)) ggX11_whyNot_X11_isSlot
theorem dX11_whyNot_1 : decode cX11_whyNot 1 = .ok (.invokestatic 68, 3) := by decide +kernel
theorem dX11_whyNot_4 : decode cX11_whyNot 4 = .ok (.ifCond .eq 10, 3) := by decide +kernel
theorem dX11_whyNot_14 : decode cX11_whyNot 14 = .ok (.bipush (-2), 2) := by decide +kernel
theorem dX11_whyNot_16 : decode cX11_whyNot 16 = .ok (.ireturn, 1) := by decide +kernel
theorem dX11_whyNot_7 : decode cX11_whyNot 7 = .ok (.aload_n 0, 1) := by decide +kernel
set_option maxRecDepth 20000 in
theorem ggX11_whyNot_X11_isCity : GoodIn wsX11_whyNot wsX11_isCity := goodIn_r _ [15, 16, 21, 22, 23, 24, 25, 26, 27, 28, 29, 30, 31, 32, 33, 34, 35, 36, 37, 38, 39, 40, 41, 42, 43, 44, 45, 46, 47, 48, 49, 50, 51] (by rfl) (by decide +kernel)
set_option maxRecDepth 20000 in
theorem gX11_whyNot_X11_isCity : GoodIn wsX11_whyNot (wsV RX11 209 RX11 yX11_isCity wsX11_isCity) := goodIn_app (goodIn_r _ [12, 13, 14, 6] (by rfl) (by decide +kernel)) ggX11_whyNot_X11_isCity
theorem dX11_whyNot_8 : decode cX11_whyNot 8 = .ok (.invokevirtual 209, 3) := by decide +kernel
theorem dX11_whyNot_11 : decode cX11_whyNot 11 = .ok (.ifCond .ne 6, 3) := by decide +kernel
theorem dX11_whyNot_17 : decode cX11_whyNot 17 = .ok (.aload_n 0, 1) := by decide +kernel
theorem dX11_whyNot_18 : decode cX11_whyNot 18 = .ok (.getfield 7, 3) := by decide +kernel
theorem dX11_whyNot_21 : decode cX11_whyNot 21 = .ok (.iload_n 1, 1) := by decide +kernel
theorem dX11_whyNot_22 : decode cX11_whyNot 22 = .ok (.iaload, 1) := by decide +kernel
theorem dX11_whyNot_23 : decode cX11_whyNot 23 = .ok (.iconst (-1), 1) := by decide +kernel
theorem dX11_whyNot_24 : decode cX11_whyNot 24 = .ok (.if_icmp .ne 6, 3) := by decide +kernel
theorem dX11_whyNot_30 : decode cX11_whyNot 30 = .ok (.iconst 0, 1) := by decide +kernel
theorem dX11_whyNot_31 : decode cX11_whyNot 31 = .ok (.istore_n 2, 1) := by decide +kernel
theorem dX11_whyNot_32 : decode cX11_whyNot 32 = .ok (.iload_n 2, 1) := by decide +kernel
theorem dX11_whyNot_33 : decode cX11_whyNot 33 = .ok (.aload_n 0, 1) := by decide +kernel
theorem dX11_whyNot_34 : decode cX11_whyNot 34 = .ok (.getfield 13, 3) := by decide +kernel
theorem dX11_whyNot_37 : decode cX11_whyNot 37 = .ok (.iload_n 1, 1) := by decide +kernel
theorem dX11_whyNot_38 : decode cX11_whyNot 38 = .ok (.iaload, 1) := by decide +kernel
theorem dX11_whyNot_39 : decode cX11_whyNot 39 = .ok (.if_icmp .ge 29, 3) := by decide +kernel
theorem dX11_whyNot_68 : decode cX11_whyNot 68 = .ok (.iconst 0, 1) := by decide +kernel
theorem dX11_whyNot_69 : decode cX11_whyNot 69 = .ok (.ireturn, 1) := by decide +kernel
theorem dX11_whyNot_42 : decode cX11_whyNot 42 = .ok (.aload_n 0, 1) := by decide +kernel
theorem dX11_whyNot_43 : decode cX11_whyNot 43 = .ok (.getfield 16, 3) := by decide +kernel
theorem dX11_whyNot_46 : decode cX11_whyNot 46 = .ok (.bipush 60, 2) := by decide +kernel
theorem dX11_whyNot_48 : decode cX11_whyNot 48 = .ok (.iload_n 1, 1) := by decide +kernel
theorem dX11_whyNot_49 : decode cX11_whyNot 49 = .ok (.imul, 1) := by decide +kernel
theorem dX11_whyNot_50 : decode cX11_whyNot 50 = .ok (.iload_n 2, 1) := by decide +kernel
theorem dX11_whyNot_51 : decode cX11_whyNot 51 = .ok (.iadd, 1) := by decide +kernel
theorem dX11_whyNot_52 : decode cX11_whyNot 52 = .ok (.laload, 1) := by decide +kernel
set_option maxRecDepth 20000 in
theorem ggX11_whyNot_X11_isDeed : GoodIn wsX11_whyNot wsX11_isDeed := goodIn_r _ [19, 20, 9, 10, 6, 11] (by rfl) (by decide +kernel)
set_option maxRecDepth 20000 in
theorem gX11_whyNot_X11_isDeed : GoodIn wsX11_whyNot (va_wsS RX11 278 yX11_isDeed wsX11_isDeed) := goodIn_app (goodIn_r _ [17, 18, 6] (by rfl) (by decide +kernel)) ggX11_whyNot_X11_isDeed
theorem dX11_whyNot_53 : decode cX11_whyNot 53 = .ok (.invokestatic 278, 3) := by decide +kernel
theorem dX11_whyNot_56 : decode cX11_whyNot 56 = .ok (.ifCond .ne 6, 3) := by decide +kernel
theorem dX11_whyNot_62 : decode cX11_whyNot 62 = .ok (.iinc 2 1, 3) := by decide +kernel
theorem dX11_whyNot_65 : decode cX11_whyNot 65 = .ok (.goto (-33), 3) := by decide +kernel
theorem dX11_whyNot_59 : decode cX11_whyNot 59 = .ok (.bipush (-2), 2) := by decide +kernel
theorem dX11_whyNot_61 : decode cX11_whyNot 61 = .ok (.ireturn, 1) := by decide +kernel
theorem dX11_whyNot_27 : decode cX11_whyNot 27 = .ok (.bipush (-6), 2) := by decide +kernel
theorem dX11_whyNot_29 : decode cX11_whyNot 29 = .ok (.ireturn, 1) := by decide +kernel
theorem dX11_wishing_0 : decode cX11_wishing 0 = .ok (.iconst 0, 1) := by decide +kernel
theorem dX11_wishing_1 : decode cX11_wishing 1 = .ok (.istore_n 2, 1) := by decide +kernel
theorem dX11_wishing_2 : decode cX11_wishing 2 = .ok (.iconst 0, 1) := by decide +kernel
theorem dX11_wishing_3 : decode cX11_wishing 3 = .ok (.istore_n 3, 1) := by decide +kernel
theorem dX11_wishing_4 : decode cX11_wishing 4 = .ok (.iload_n 3, 1) := by decide +kernel
theorem dX11_wishing_5 : decode cX11_wishing 5 = .ok (.aload_n 0, 1) := by decide +kernel
theorem dX11_wishing_6 : decode cX11_wishing 6 = .ok (.getfield 34, 3) := by decide +kernel
theorem dX11_wishing_9 : decode cX11_wishing 9 = .ok (.iconst 1, 1) := by decide +kernel
theorem dX11_wishing_10 : decode cX11_wishing 10 = .ok (.iaload, 1) := by decide +kernel
theorem dX11_wishing_11 : decode cX11_wishing 11 = .ok (.if_icmp .ge 32, 3) := by decide +kernel
theorem dX11_wishing_43 : decode cX11_wishing 43 = .ok (.iload_n 2, 1) := by decide +kernel
theorem dX11_wishing_44 : decode cX11_wishing 44 = .ok (.ireturn, 1) := by decide +kernel
theorem dX11_wishing_14 : decode cX11_wishing 14 = .ok (.iload_n 2, 1) := by decide +kernel
theorem dX11_wishing_15 : decode cX11_wishing 15 = .ok (.iload_n 1, 1) := by decide +kernel
theorem dX11_wishing_16 : decode cX11_wishing 16 = .ok (.aload_n 0, 1) := by decide +kernel
theorem dX11_wishing_17 : decode cX11_wishing 17 = .ok (.iload_n 3, 1) := by decide +kernel
theorem dX11_wishing_18 : decode cX11_wishing 18 = .ok (.iconst 2, 1) := by decide +kernel
set_option maxRecDepth 20000 in
theorem ggX11_wishing_X11_of : GoodIn wsX11_wishing wsX11_of := goodIn_r _ [6, 7, 8, 9, 10, 11, 12, 13, 14, 15, 16, 17, 18, 19, 20, 21, 22, 23, 24, 25, 26, 27, 28, 29, 30, 31, 32, 33, 34, 35, 36, 37, 38] (by rfl) (by decide +kernel)
set_option maxRecDepth 20000 in
theorem gX11_wishing_X11_of : GoodIn wsX11_wishing (wsV RX11 214 RX11 yX11_of wsX11_of) := goodIn_app (goodIn_r _ [2, 3, 4, 5] (by rfl) (by decide +kernel)) ggX11_wishing_X11_of
theorem dX11_wishing_19 : decode cX11_wishing 19 = .ok (.invokevirtual 214, 3) := by decide +kernel
theorem dX11_wishing_22 : decode cX11_wishing 22 = .ok (.iconst (-1), 1) := by decide +kernel
theorem dX11_wishing_23 : decode cX11_wishing 23 = .ok (.ixor, 1) := by decide +kernel
theorem dX11_wishing_24 : decode cX11_wishing 24 = .ok (.iand, 1) := by decide +kernel
theorem dX11_wishing_35 : decode cX11_wishing 35 = .ok (.ior, 1) := by decide +kernel
theorem dX11_wishing_36 : decode cX11_wishing 36 = .ok (.istore_n 2, 1) := by decide +kernel
theorem dX11_wishing_37 : decode cX11_wishing 37 = .ok (.iinc 3 1, 3) := by decide +kernel
theorem dX11_wishing_40 : decode cX11_wishing 40 = .ok (.goto (-36), 3) := by decide +kernel
theorem dX11_wishing_25 : decode cX11_wishing 25 = .ok (.ifCond .ne 9, 3) := by decide +kernel
theorem dX11_wishing_34 : decode cX11_wishing 34 = .ok (.iconst 0, 1) := by decide +kernel
theorem dX11_wishing_28 : decode cX11_wishing 28 = .ok (.iconst 1, 1) := by decide +kernel
theorem dX11_wishing_29 : decode cX11_wishing 29 = .ok (.iload_n 3, 1) := by decide +kernel
theorem dX11_wishing_30 : decode cX11_wishing 30 = .ok (.ishl, 1) := by decide +kernel
theorem dX11_wishing_31 : decode cX11_wishing 31 = .ok (.goto 4, 3) := by decide +kernel
theorem dX11_rowOf_0 : decode cX11_rowOf 0 = .ok (.iconst 0, 1) := by decide +kernel
theorem dX11_rowOf_1 : decode cX11_rowOf 1 = .ok (.istore_n 2, 1) := by decide +kernel
theorem dX11_rowOf_2 : decode cX11_rowOf 2 = .ok (.iconst 0, 1) := by decide +kernel
theorem dX11_rowOf_3 : decode cX11_rowOf 3 = .ok (.istore_n 3, 1) := by decide +kernel
theorem dX11_rowOf_4 : decode cX11_rowOf 4 = .ok (.iload_n 3, 1) := by decide +kernel
theorem dX11_rowOf_5 : decode cX11_rowOf 5 = .ok (.aload_n 0, 1) := by decide +kernel
theorem dX11_rowOf_6 : decode cX11_rowOf 6 = .ok (.getfield 13, 3) := by decide +kernel
theorem dX11_rowOf_9 : decode cX11_rowOf 9 = .ok (.iload_n 1, 1) := by decide +kernel
theorem dX11_rowOf_10 : decode cX11_rowOf 10 = .ok (.iaload, 1) := by decide +kernel
theorem dX11_rowOf_11 : decode cX11_rowOf 11 = .ok (.if_icmp .ge 26, 3) := by decide +kernel
theorem dX11_rowOf_37 : decode cX11_rowOf 37 = .ok (.iload_n 2, 1) := by decide +kernel
theorem dX11_rowOf_38 : decode cX11_rowOf 38 = .ok (.ireturn, 1) := by decide +kernel
theorem dX11_rowOf_14 : decode cX11_rowOf 14 = .ok (.iload_n 2, 1) := by decide +kernel
theorem dX11_rowOf_15 : decode cX11_rowOf 15 = .ok (.iconst 1, 1) := by decide +kernel
theorem dX11_rowOf_16 : decode cX11_rowOf 16 = .ok (.aload_n 0, 1) := by decide +kernel
theorem dX11_rowOf_17 : decode cX11_rowOf 17 = .ok (.getfield 16, 3) := by decide +kernel
theorem dX11_rowOf_20 : decode cX11_rowOf 20 = .ok (.bipush 60, 2) := by decide +kernel
theorem dX11_rowOf_22 : decode cX11_rowOf 22 = .ok (.iload_n 1, 1) := by decide +kernel
theorem dX11_rowOf_23 : decode cX11_rowOf 23 = .ok (.imul, 1) := by decide +kernel
theorem dX11_rowOf_24 : decode cX11_rowOf 24 = .ok (.iload_n 3, 1) := by decide +kernel
theorem dX11_rowOf_25 : decode cX11_rowOf 25 = .ok (.iadd, 1) := by decide +kernel
theorem dX11_rowOf_26 : decode cX11_rowOf 26 = .ok (.laload, 1) := by decide +kernel
theorem dX11_rowOf_27 : decode cX11_rowOf 27 = .ok (.l2i, 1) := by decide +kernel
theorem dX11_rowOf_28 : decode cX11_rowOf 28 = .ok (.ishl, 1) := by decide +kernel
theorem dX11_rowOf_29 : decode cX11_rowOf 29 = .ok (.ior, 1) := by decide +kernel
theorem dX11_rowOf_30 : decode cX11_rowOf 30 = .ok (.istore_n 2, 1) := by decide +kernel
theorem dX11_rowOf_31 : decode cX11_rowOf 31 = .ok (.iinc 3 1, 3) := by decide +kernel
theorem dX11_rowOf_34 : decode cX11_rowOf 34 = .ok (.goto (-30), 3) := by decide +kernel
set_option maxHeartbeats 4000000 in
set_option maxRecDepth 100000 in
theorem a_X11_cover (l : Launch) (G : va_G) (ct : Nat → ClassId) (a0 : Nat) (n0_0 : Int32) (a1 : Nat) (a2 : Nat) (a3 : Nat) (a4 : Nat) (a5 : Nat) (n0_6 : Int32) (n0_7 : Int32) (n0_8 : Int32) (n0_9 : Int32) (n0_10 : Int32) (l0_11 : Int64) (n0_12 : Int32) (n0_13 : Int32) (n0_14 : Int32) (n0_15 : Int32) (a6 : Nat) (a7 : Nat) (a8 : Nat) (a9 : Nat) (a10 : Nat) (a11 : Nat) (a12 : Nat) (a13 : Nat) (n0_24 : Int32) (n0_25 : Int32) (n0_26 : Int32) (n0_27 : Int32) (a14 : Nat) (n0_29 : Int32) (n0_30 : Int32) (f6 : Nat → Int32) (f7 : Nat → Int32) (f8 : Nat → Int32) (f9 : Nat → Int32) (f11 : Nat → Int32) (f12 : Nat → Int32) (f13 : Nat → Int32) (p0 : Int32) (hp_n0_6 : rg 0 900 n0_6) (hp_f7 : hsI f7) (hp_f8 : psI f8) (hp_f9 : ar 0 7 f9) (hp_f11 : ar (-1) 7 f11) (hp_f13 : ar (-1) 7 f13) : Met l yX11_cover wsX11_cover ({ frames := 6, cells := 0, slots := 0, locals := 134 }) (va_Pc [.ref a0, .int p0] (wrP G ct [(a0, .inr (11, [.int n0_0, .ref a1, .ref a2, .ref a3, .ref a4, .ref a5, .int n0_6, .int n0_7, .int n0_8, .int n0_9, .int n0_10, .long l0_11, .int n0_12, .int n0_13, .int n0_14, .int n0_15, .ref a6, .ref a7, .ref a8, .ref a9, .ref a10, .ref a11, .ref a12, .ref a13, .int n0_24, .int n0_25, .int n0_26, .int n0_27, .ref a14, .int n0_29, .int n0_30])), (a6, .inl (ct 0, 5, .inl f6)), (a7, .inl (ct 0, 15, .inl f7)), (a8, .inl (ct 0, 200, .inl f8)), (a9, .inl (ct 0, 1000, .inl f9)), (a11, .inl (ct 0, 8, .inl f11)), (a12, .inl (ct 0, 8, .inl f12)), (a13, .inl (ct 0, 8, .inl f13))])) (va_Qi (fun (r : Int32) (u : SU) => (r = 0 → rg 0 63 p0) ∧ (r = (-1) → rg 0 63 p0) ∧ (¬ r = (-2) → rg 0 63 p0) ∧ ar (-1) 7 (u.2.1 0) ∧ ar (-1) 7 (u.2.1 2) ∧ rg 0 0 (u.1 0) ∧ True) (fun u t => va_P G vwCl ((fun u : SU => [(a0, .inr (11, [.int (u.1 0), .ref a1, .ref a2, .ref a3, .ref a4, .ref a5, .int n0_6, .int n0_7, .int n0_8, .int n0_9, .int n0_10, .long l0_11, .int n0_12, .int n0_13, .int n0_14, .int n0_15, .ref a6, .ref a7, .ref a8, .ref a9, .ref a10, .ref a11, .ref a12, .ref a13, .int (u.1 1), .int (u.1 2), .int (u.1 3), .int (u.1 4), .ref a14, .int n0_29, .int n0_30])), (a6, .inl (ct 0, 5, .inl f6)), (a7, .inl (ct 0, 15, .inl f7)), (a8, .inl (ct 0, 200, .inl f8)), (a9, .inl (ct 0, 1000, .inl f9)), (a11, .inl (ct 0, 8, .inl (u.2.1 0))), (a12, .inl (ct 0, 8, .inl (u.2.1 1))), (a13, .inl (ct 0, 8, .inl (u.2.1 2)))]) u) t.heap) (aset [(a0, .inr (11, [.int n0_0, .ref a1, .ref a2, .ref a3, .ref a4, .ref a5, .int n0_6, .int n0_7, .int n0_8, .int n0_9, .int n0_10, .long l0_11, .int n0_12, .int n0_13, .int n0_14, .int n0_15, .ref a6, .ref a7, .ref a8, .ref a9, .ref a10, .ref a11, .ref a12, .ref a13, .int n0_24, .int n0_25, .int n0_26, .int n0_27, .ref a14, .int n0_29, .int n0_30])), (a6, .inl (ct 0, 5, .inl f6)), (a7, .inl (ct 0, 15, .inl f7)), (a8, .inl (ct 0, 200, .inl f8)), (a9, .inl (ct 0, 1000, .inl f9)), (a11, .inl (ct 0, 8, .inl f11)), (a12, .inl (ct 0, 8, .inl f12)), (a13, .inl (ct 0, 8, .inl f13))])) 0 0 (aset [(a0, .inr (11, [.int n0_0, .ref a1, .ref a2, .ref a3, .ref a4, .ref a5, .int n0_6, .int n0_7, .int n0_8, .int n0_9, .int n0_10, .long l0_11, .int n0_12, .int n0_13, .int n0_14, .int n0_15, .ref a6, .ref a7, .ref a8, .ref a9, .ref a10, .ref a11, .ref a12, .ref a13, .int n0_24, .int n0_25, .int n0_26, .int n0_27, .ref a14, .int n0_29, .int n0_30])), (a6, .inl (ct 0, 5, .inl f6)), (a7, .inl (ct 0, 15, .inl f7)), (a8, .inl (ct 0, 200, .inl f8)), (a9, .inl (ct 0, 1000, .inl f9)), (a11, .inl (ct 0, 8, .inl f11)), (a12, .inl (ct 0, 8, .inl f12)), (a13, .inl (ct 0, 8, .inl f13))]) := by
  refine Met.ofW (cc := cX11_cover) (maxL := 3) (ret := (some .int)) (by decide) rfl ?_
  intro p e s m args below meth c s₁ B hml hv
  obtain ⟨rfl, hP, hK, hD0⟩ := hv
  have hx := B.exec
  have hb := B.bytes
  have hr := B.returns
  have hts := atoms_spec (ws := wsX11_cover) B.pre
  have hown : s.vm.findClass RX11 = some m.cls := findClass_of_methodNamed B.named
  have hlocks := B.notSynchronized
  have hD := hD0.aself
  generalize hAe : aset [(a0, .inr (11, [.int n0_0, .ref a1, .ref a2, .ref a3, .ref a4, .ref a5, .int n0_6, .int n0_7, .int n0_8, .int n0_9, .int n0_10, .long l0_11, .int n0_12, .int n0_13, .int n0_14, .int n0_15, .ref a6, .ref a7, .ref a8, .ref a9, .ref a10, .ref a11, .ref a12, .ref a13, .int n0_24, .int n0_25, .int n0_26, .int n0_27, .ref a14, .int n0_29, .int n0_30])), (a6, .inl (ct 0, 5, .inl f6)), (a7, .inl (ct 0, 15, .inl f7)), (a8, .inl (ct 0, 200, .inl f8)), (a9, .inl (ct 0, 1000, .inl f9)), (a11, .inl (ct 0, 8, .inl f11)), (a12, .inl (ct 0, 8, .inl f12)), (a13, .inl (ct 0, 8, .inl f13))] = A at hD ⊢
  have hS : va_S A s.heap s.heap [] := va_S.rf
  have hl := lv_entry ([.ref a0, .int p0]) (n := 3) (Nat.le_of_ble_eq_true rfl)
  rw [lg_entry_eq]
  generalize (lg_sl ([.ref a0, .int p0]) ++ List.replicate (3 - (lg_sl ([.ref a0, .int p0])).length) Slot.unset).toArray = ls at hl ⊢
  have hl : lv_has ls 3 [(0, .ref a0), (1, .int p0)] := hl
  refine lv_aload_n hx hb dX11_cover_0 rfl (lv_at hl 0 rfl) ?_
  refine lv_iconst (v := 0) hx hb dX11_cover_1 (by decide) ?_
  refine va_put (D := G) (ci := 11) (v := .int 0) (ty := .int) (C := RX11) (T := TX11) (N := 31) hx hb hts (by decide +kernel) tyX11 tyX11_ok nmX11 hown hK.1 hP hD hS 0 rfl rfl 0 (by decide) (hts (.fieldLink RX11 59 "CardHolderModel" "thrown" "I") (by decide +kernel)) (fun _ h9 => h9) rfl (by decide +kernel) rfl rfl (Nat.le_of_ble_eq_true rfl) dX11_cover_2 (fun H locs hP hD hS => ?_)
  refine lv_aload_n hx hb dX11_cover_5 rfl (lv_at hl 0 rfl) ?_
  refine lv_iload_n hx hb dX11_cover_6 rfl (lv_at hl 1 rfl) ?_
  refine ro_calli (va_runV (As := [.int p0]) (rest := []) ⟨hx, hb, hml, hown, hts⟩ (a_X11_areDeeds l G ct a0 (0 : Int32) a1 a2 a3 a4 a5 n0_6 n0_7 n0_8 n0_9 n0_10 l0_11 n0_12 n0_13 n0_14 n0_15 a6 a7 a8 a9 a10 a11 a12 a13 n0_24 n0_25 n0_26 n0_27 a14 n0_29 n0_30 f6 p0 hp_n0_6) (cwV 1 hts gX11_cover_X11_areDeeds rfl rfl rfl (by decide +kernel) ⟨Nat.le_of_ble_eq_true rfl, Nat.le_of_ble_eq_true rfl⟩) (ro_preV 11 0 hK (hP.sub [0, 1] rfl) rfl rfl) rfl rfl hl.1 rfl (lv_room (Nat.le_of_ble_eq_true rfl)) dX11_cover_7 ⟨Nat.zero_le _, Nat.zero_le _⟩) hS hP (fun r7 H locs wr7 hP hS => ?_)
  obtain ⟨p_1, p_2, -⟩ := wr7
  refine lv_if_ne (tgt := 16) hx hb dX11_cover_10 (by decide) (fun c10 => ?_) (fun c10 => ?_)
  · have h_3 : rg 1 1 r7 := r_ne_lo_i c10 p_1 (by decide) (by decide)
    have h_4 : rg 0 63 p0 := (p_2 (rne h_3 (y := 0) (c := 0) (by decide) (by decide)))
    refine lv_aload_n hx hb dX11_cover_16 rfl (lv_at hl 0 rfl) ?_
    refine lv_iload_n hx hb dX11_cover_17 rfl (lv_at hl 1 rfl) ?_
    refine wj_calli (wr := [(a6, .inl (ct 0, 5, .inl f6))]) (w1 := (fun u : SU => [(a0, .inr (11, [.int 0, .ref a1, .ref a2, .ref a3, .ref a4, .ref a5, .int n0_6, .int n0_7, .int n0_8, .int n0_9, .int n0_10, .long l0_11, .int n0_12, .int n0_13, .int n0_14, .int n0_15, .ref a6, .ref a7, .ref a8, .ref a9, .ref a10, .ref a11, .ref a12, .ref a13, .int (u.1 0), .int (u.1 1), .int (u.1 2), .int (u.1 3), .ref a14, .int n0_29, .int n0_30])), (a7, .inl (ct 0, 15, .inl f7)), (a8, .inl (ct 0, 200, .inl f8)), (a9, .inl (ct 0, 1000, .inl f9)), (a11, .inl (ct 0, 8, .inl (u.2.1 0))), (a12, .inl (ct 0, 8, .inl (u.2.1 1))), (a13, .inl (ct 0, 8, .inl (u.2.1 2)))])) (va_runV (As := [.int p0]) (rest := []) ⟨hx, hb, hml, hown, hts⟩ (a_X11_coversOf l G ct a0 (0 : Int32) a1 a2 a3 a4 a5 n0_6 n0_7 n0_8 n0_9 n0_10 l0_11 n0_12 n0_13 n0_14 n0_15 a6 a7 a8 a9 a10 a11 a12 a13 n0_24 n0_25 n0_26 n0_27 a14 n0_29 n0_30 f7 f8 f9 f11 f12 f13 p0 hp_n0_6 hp_f7 hp_f8 hp_f9 hp_f11 hp_f13) (cwV 1 hts gX11_cover_X11_coversOf rfl rfl rfl (by decide +kernel) ⟨Nat.le_of_ble_eq_true rfl, Nat.le_of_ble_eq_true rfl⟩) (wr_preV 11 0 hK (hP.sub [0, 2, 3, 4, 5, 6, 7] rfl) (hD.sub [0, 2, 3, 4, 5, 6, 7] (by decide) rfl) rfl rfl) rfl rfl hl.1 rfl (lv_room (Nat.le_of_ble_eq_true rfl)) dX11_cover_18 ⟨Nat.zero_le _, Nat.zero_le _⟩) hS hP hD [0, 2, 3, 4, 5, 6, 7] [1] rfl rfl (by decide) (fun _ => rfl) (fun r18 ur18 H locs wr18 hP hD hS => ?_)
    have hP : va_P G vwCl [(a0, .inr (11, [.int 0, .ref a1, .ref a2, .ref a3, .ref a4, .ref a5, .int n0_6, .int n0_7, .int n0_8, .int n0_9, .int n0_10, .long l0_11, .int n0_12, .int n0_13, .int n0_14, .int n0_15, .ref a6, .ref a7, .ref a8, .ref a9, .ref a10, .ref a11, .ref a12, .ref a13, .int (ur18.1 0), .int (ur18.1 1), .int (ur18.1 2), .int (ur18.1 3), .ref a14, .int n0_29, .int n0_30])), (a6, .inl (ct 0, 5, .inl f6)), (a7, .inl (ct 0, 15, .inl f7)), (a8, .inl (ct 0, 200, .inl f8)), (a9, .inl (ct 0, 1000, .inl f9)), (a11, .inl (ct 0, 8, .inl (ur18.2.1 0))), (a12, .inl (ct 0, 8, .inl (ur18.2.1 1))), (a13, .inl (ct 0, 8, .inl (ur18.2.1 2)))] H := hP.sub [1, 0, 2, 3, 4, 5, 6, 7] rfl
    have hD : va_D A [(a0, .inr (11, [.int 0, .ref a1, .ref a2, .ref a3, .ref a4, .ref a5, .int n0_6, .int n0_7, .int n0_8, .int n0_9, .int n0_10, .long l0_11, .int n0_12, .int n0_13, .int n0_14, .int n0_15, .ref a6, .ref a7, .ref a8, .ref a9, .ref a10, .ref a11, .ref a12, .ref a13, .int (ur18.1 0), .int (ur18.1 1), .int (ur18.1 2), .int (ur18.1 3), .ref a14, .int n0_29, .int n0_30])), (a6, .inl (ct 0, 5, .inl f6)), (a7, .inl (ct 0, 15, .inl f7)), (a8, .inl (ct 0, 200, .inl f8)), (a9, .inl (ct 0, 1000, .inl f9)), (a11, .inl (ct 0, 8, .inl (ur18.2.1 0))), (a12, .inl (ct 0, 8, .inl (ur18.2.1 1))), (a13, .inl (ct 0, 8, .inl (ur18.2.1 2)))] := hD.sub [1, 0, 2, 3, 4, 5, 6, 7] (by decide) rfl
    obtain ⟨p_5, p_6, p_7, -⟩ := wr18
    refine lv_istore_n (lv' := [(2, .int r18), (0, .ref a0), (1, .int p0)]) hx hb dX11_cover_21 rfl hl (by decide) rfl (fun ls hl => ?_)
    refine lv_iload_n hx hb dX11_cover_22 rfl (lv_at hl 0 rfl) ?_
    refine lv_iconst (v := (-1)) hx hb dX11_cover_23 (by decide) ?_
    refine lv_icmp_ne (tgt := 31) hx hb dX11_cover_24 (by decide) (fun c24 => ?_) (fun c24 => ?_)
    · have h_8 : rg 0 255 r18 := r_ne_lo_i c24 p_5 (by decide) (by decide)
      refine lv_iload_n hx hb dX11_cover_31 rfl (lv_at hl 0 rfl) ?_
      refine ro_calli (va_runS (As := [.int r18]) (rest := []) ⟨hx, hb, hml, hown, hts⟩ (a_X11_sizeOf l G ct r18) (va_cwS 1 hts gX11_cover_X11_sizeOf rfl rfl rfl (by decide +kernel) ⟨Nat.le_of_ble_eq_true rfl, Nat.le_of_ble_eq_true rfl⟩) (ro_pre hK (hP.sub [] rfl)) rfl rfl hl.1 rfl (lv_room (Nat.le_of_ble_eq_true rfl)) dX11_cover_32 ⟨Nat.zero_le _, Nat.zero_le _⟩) hS hP (fun r32 H locs wr32 hP hS => ?_)
      exact W.iret (v := r32) hx hb hr (fun t ht hW => ⟨⟨r32, (fun k => ([0, ur18.1 0, ur18.1 1, ur18.1 2, ur18.1 3] : List Int32).getD k 0, fun k => ([ur18.2.1 0, ur18.2.1 1, ur18.2.1 2] : List (Nat → Int32)).getD k (fun _ => 0), fun k => ([] : List (Nat → Int64)).getD k (fun _ => 0)), rfl, ⟨(fun _ => h_4), (fun _ => h_4), (fun _ => h_4), p_6, p_7, (rgn 0 (x := 0) (by decide)), trivial⟩, hp_at ht hP⟩, hS.F ht⟩) hS.2.2 dX11_cover_35
    · have h_9 : rg (-1) (-1) r18 := r_eq_l_i (e := (-1)) (f := (-1)) c24 p_5 (rgn (-1) (x := (-1)) (by decide)) (by decide)
      refine lv_iconst (v := (-1)) hx hb dX11_cover_27 (by decide) ?_
      refine lv_goto (tgt := 35) hx hb dX11_cover_28 (by decide) ?_
      exact W.iret (v := (-1)) hx hb hr (fun t ht hW => ⟨⟨(-1), (fun k => ([0, ur18.1 0, ur18.1 1, ur18.1 2, ur18.1 3] : List Int32).getD k 0, fun k => ([ur18.2.1 0, ur18.2.1 1, ur18.2.1 2] : List (Nat → Int32)).getD k (fun _ => 0), fun k => ([] : List (Nat → Int64)).getD k (fun _ => 0)), rfl, ⟨(fun _ => h_4), (fun _ => h_4), (fun _ => h_4), p_6, p_7, (rgn 0 (x := 0) (by decide)), trivial⟩, hp_at ht hP⟩, hS.F ht⟩) hS.2.2 dX11_cover_35
  · have h_10 : rg 0 0 r7 := r_eq_l_i (e := 0) (f := 0) c10 p_1 (rgn 0 (x := 0) (by decide)) (by decide)
    refine lv_bipush (v := (-2)) hx hb dX11_cover_13 (by decide) ?_
    exact W.iret (v := (-2)) hx hb hr (fun t ht hW => ⟨⟨(-2), (fun k => ([0, n0_24, n0_25, n0_26, n0_27] : List Int32).getD k 0, fun k => ([f11, f12, f13] : List (Nat → Int32)).getD k (fun _ => 0), fun k => ([] : List (Nat → Int64)).getD k (fun _ => 0)), rfl, ⟨(fun hq => absurd hq (rne (rgn (-2) (x := (-2)) (by decide)) (y := 0) (c := 0) (by decide) (by decide))), (fun hq => absurd hq (rne (rgn (-2) (x := (-2)) (by decide)) (y := (-1)) (c := (-1)) (by decide) (by decide))), (fun hq => absurd (req (rgn (-2) (x := (-2)) (by decide)) (y := (-2)) (by decide)) hq), hp_f11, hp_f13, (rgn 0 (x := 0) (by decide)), trivial⟩, hp_at ht hP⟩, hS.F ht⟩) hS.2.2 dX11_cover_15

set_option maxHeartbeats 4000000 in
set_option maxRecDepth 100000 in
theorem a_X11_covers (l : Launch) (G : va_G) (ct : Nat → ClassId) (a0 : Nat) (n0_0 : Int32) (a1 : Nat) (a2 : Nat) (a3 : Nat) (a4 : Nat) (a5 : Nat) (n0_6 : Int32) (n0_7 : Int32) (n0_8 : Int32) (n0_9 : Int32) (n0_10 : Int32) (l0_11 : Int64) (n0_12 : Int32) (n0_13 : Int32) (n0_14 : Int32) (n0_15 : Int32) (a6 : Nat) (a7 : Nat) (a8 : Nat) (a9 : Nat) (a10 : Nat) (a11 : Nat) (a12 : Nat) (a13 : Nat) (n0_24 : Int32) (n0_25 : Int32) (n0_26 : Int32) (n0_27 : Int32) (a14 : Nat) (n0_29 : Int32) (n0_30 : Int32) (f6 : Nat → Int32) (f7 : Nat → Int32) (f8 : Nat → Int32) (f9 : Nat → Int32) (f11 : Nat → Int32) (f12 : Nat → Int32) (f13 : Nat → Int32) (p0 : Int32) (hp_n0_6 : rg 0 900 n0_6) (hp_f7 : hsI f7) (hp_f8 : psI f8) (hp_f9 : ar 0 7 f9) (hp_f11 : ar (-1) 7 f11) (hp_f13 : ar (-1) 7 f13) : Met l yX11_covers wsX11_covers ({ frames := 6, cells := 0, slots := 0, locals := 134 }) (va_Pc [.ref a0, .int p0] (wrP G ct [(a0, .inr (11, [.int n0_0, .ref a1, .ref a2, .ref a3, .ref a4, .ref a5, .int n0_6, .int n0_7, .int n0_8, .int n0_9, .int n0_10, .long l0_11, .int n0_12, .int n0_13, .int n0_14, .int n0_15, .ref a6, .ref a7, .ref a8, .ref a9, .ref a10, .ref a11, .ref a12, .ref a13, .int n0_24, .int n0_25, .int n0_26, .int n0_27, .ref a14, .int n0_29, .int n0_30])), (a6, .inl (ct 0, 5, .inl f6)), (a7, .inl (ct 0, 15, .inl f7)), (a8, .inl (ct 0, 200, .inl f8)), (a9, .inl (ct 0, 1000, .inl f9)), (a11, .inl (ct 0, 8, .inl f11)), (a12, .inl (ct 0, 8, .inl f12)), (a13, .inl (ct 0, 8, .inl f13))])) (va_Qi (fun (r : Int32) (u : SU) => rg (-2) 255 r ∧ (r = 0 → rg 0 63 p0) ∧ (r = (-1) → rg 0 63 p0) ∧ (¬ r = (-2) → rg 0 63 p0) ∧ ar (-1) 7 (u.2.1 0) ∧ ar (-1) 7 (u.2.1 2) ∧ rg 0 0 (u.1 0) ∧ True) (fun u t => va_P G vwCl ((fun u : SU => [(a0, .inr (11, [.int (u.1 0), .ref a1, .ref a2, .ref a3, .ref a4, .ref a5, .int n0_6, .int n0_7, .int n0_8, .int n0_9, .int n0_10, .long l0_11, .int n0_12, .int n0_13, .int n0_14, .int n0_15, .ref a6, .ref a7, .ref a8, .ref a9, .ref a10, .ref a11, .ref a12, .ref a13, .int (u.1 1), .int (u.1 2), .int (u.1 3), .int (u.1 4), .ref a14, .int n0_29, .int n0_30])), (a6, .inl (ct 0, 5, .inl f6)), (a7, .inl (ct 0, 15, .inl f7)), (a8, .inl (ct 0, 200, .inl f8)), (a9, .inl (ct 0, 1000, .inl f9)), (a11, .inl (ct 0, 8, .inl (u.2.1 0))), (a12, .inl (ct 0, 8, .inl (u.2.1 1))), (a13, .inl (ct 0, 8, .inl (u.2.1 2)))]) u) t.heap) (aset [(a0, .inr (11, [.int n0_0, .ref a1, .ref a2, .ref a3, .ref a4, .ref a5, .int n0_6, .int n0_7, .int n0_8, .int n0_9, .int n0_10, .long l0_11, .int n0_12, .int n0_13, .int n0_14, .int n0_15, .ref a6, .ref a7, .ref a8, .ref a9, .ref a10, .ref a11, .ref a12, .ref a13, .int n0_24, .int n0_25, .int n0_26, .int n0_27, .ref a14, .int n0_29, .int n0_30])), (a6, .inl (ct 0, 5, .inl f6)), (a7, .inl (ct 0, 15, .inl f7)), (a8, .inl (ct 0, 200, .inl f8)), (a9, .inl (ct 0, 1000, .inl f9)), (a11, .inl (ct 0, 8, .inl f11)), (a12, .inl (ct 0, 8, .inl f12)), (a13, .inl (ct 0, 8, .inl f13))])) 0 0 (aset [(a0, .inr (11, [.int n0_0, .ref a1, .ref a2, .ref a3, .ref a4, .ref a5, .int n0_6, .int n0_7, .int n0_8, .int n0_9, .int n0_10, .long l0_11, .int n0_12, .int n0_13, .int n0_14, .int n0_15, .ref a6, .ref a7, .ref a8, .ref a9, .ref a10, .ref a11, .ref a12, .ref a13, .int n0_24, .int n0_25, .int n0_26, .int n0_27, .ref a14, .int n0_29, .int n0_30])), (a6, .inl (ct 0, 5, .inl f6)), (a7, .inl (ct 0, 15, .inl f7)), (a8, .inl (ct 0, 200, .inl f8)), (a9, .inl (ct 0, 1000, .inl f9)), (a11, .inl (ct 0, 8, .inl f11)), (a12, .inl (ct 0, 8, .inl f12)), (a13, .inl (ct 0, 8, .inl f13))]) := by
  refine Met.ofW (cc := cX11_covers) (maxL := 2) (ret := (some .int)) (by decide) rfl ?_
  intro p e s m args below meth c s₁ B hml hv
  obtain ⟨rfl, hP, hK, hD0⟩ := hv
  have hx := B.exec
  have hb := B.bytes
  have hr := B.returns
  have hts := atoms_spec (ws := wsX11_covers) B.pre
  have hown : s.vm.findClass RX11 = some m.cls := findClass_of_methodNamed B.named
  have hlocks := B.notSynchronized
  have hD := hD0.aself
  generalize hAe : aset [(a0, .inr (11, [.int n0_0, .ref a1, .ref a2, .ref a3, .ref a4, .ref a5, .int n0_6, .int n0_7, .int n0_8, .int n0_9, .int n0_10, .long l0_11, .int n0_12, .int n0_13, .int n0_14, .int n0_15, .ref a6, .ref a7, .ref a8, .ref a9, .ref a10, .ref a11, .ref a12, .ref a13, .int n0_24, .int n0_25, .int n0_26, .int n0_27, .ref a14, .int n0_29, .int n0_30])), (a6, .inl (ct 0, 5, .inl f6)), (a7, .inl (ct 0, 15, .inl f7)), (a8, .inl (ct 0, 200, .inl f8)), (a9, .inl (ct 0, 1000, .inl f9)), (a11, .inl (ct 0, 8, .inl f11)), (a12, .inl (ct 0, 8, .inl f12)), (a13, .inl (ct 0, 8, .inl f13))] = A at hD ⊢
  have hS : va_S A s.heap s.heap [] := va_S.rf
  have hl := lv_entry ([.ref a0, .int p0]) (n := 2) (Nat.le_of_ble_eq_true rfl)
  rw [lg_entry_eq]
  generalize (lg_sl ([.ref a0, .int p0]) ++ List.replicate (2 - (lg_sl ([.ref a0, .int p0])).length) Slot.unset).toArray = ls at hl ⊢
  have hl : lv_has ls 2 [(0, .ref a0), (1, .int p0)] := hl
  refine lv_aload_n hx hb dX11_covers_0 rfl (lv_at hl 0 rfl) ?_
  refine lv_iconst (v := 0) hx hb dX11_covers_1 (by decide) ?_
  refine va_put (D := G) (ci := 11) (v := .int 0) (ty := .int) (C := RX11) (T := TX11) (N := 31) hx hb hts (by decide +kernel) tyX11 tyX11_ok nmX11 hown hK.1 hP hD hS 0 rfl rfl 0 (by decide) (hts (.fieldLink RX11 59 "CardHolderModel" "thrown" "I") (by decide +kernel)) (fun _ h9 => h9) rfl (by decide +kernel) rfl rfl (Nat.le_of_ble_eq_true rfl) dX11_covers_2 (fun H locs hP hD hS => ?_)
  refine lv_aload_n hx hb dX11_covers_5 rfl (lv_at hl 0 rfl) ?_
  refine lv_iload_n hx hb dX11_covers_6 rfl (lv_at hl 1 rfl) ?_
  refine ro_calli (va_runV (As := [.int p0]) (rest := []) ⟨hx, hb, hml, hown, hts⟩ (a_X11_areDeeds l G ct a0 (0 : Int32) a1 a2 a3 a4 a5 n0_6 n0_7 n0_8 n0_9 n0_10 l0_11 n0_12 n0_13 n0_14 n0_15 a6 a7 a8 a9 a10 a11 a12 a13 n0_24 n0_25 n0_26 n0_27 a14 n0_29 n0_30 f6 p0 hp_n0_6) (cwV 1 hts gX11_covers_X11_areDeeds rfl rfl rfl (by decide +kernel) ⟨Nat.le_of_ble_eq_true rfl, Nat.le_of_ble_eq_true rfl⟩) (ro_preV 11 0 hK (hP.sub [0, 1] rfl) rfl rfl) rfl rfl hl.1 rfl (lv_room (Nat.le_of_ble_eq_true rfl)) dX11_covers_7 ⟨Nat.zero_le _, Nat.zero_le _⟩) hS hP (fun r7 H locs wr7 hP hS => ?_)
  obtain ⟨p_1, p_2, -⟩ := wr7
  refine lv_if_eq (tgt := 21) hx hb dX11_covers_10 (by decide) (fun c10 => ?_) (fun c10 => ?_)
  · have h_3 : rg 0 0 r7 := r_eq_l_i (e := 0) (f := 0) c10 p_1 (rgn 0 (x := 0) (by decide)) (by decide)
    refine lv_bipush (v := (-2)) hx hb dX11_covers_21 (by decide) ?_
    exact W.iret (v := (-2)) hx hb hr (fun t ht hW => ⟨⟨(-2), (fun k => ([0, n0_24, n0_25, n0_26, n0_27] : List Int32).getD k 0, fun k => ([f11, f12, f13] : List (Nat → Int32)).getD k (fun _ => 0), fun k => ([] : List (Nat → Int64)).getD k (fun _ => 0)), rfl, ⟨(rg_w (c := (-2)) (d := 255) (rgn (-2) (x := (-2)) (by decide)) (by decide)), (fun hq => absurd hq (rne (rgn (-2) (x := (-2)) (by decide)) (y := 0) (c := 0) (by decide) (by decide))), (fun hq => absurd hq (rne (rgn (-2) (x := (-2)) (by decide)) (y := (-1)) (c := (-1)) (by decide) (by decide))), (fun hq => absurd (req (rgn (-2) (x := (-2)) (by decide)) (y := (-2)) (by decide)) hq), hp_f11, hp_f13, (rgn 0 (x := 0) (by decide)), trivial⟩, hp_at ht hP⟩, hS.F ht⟩) hS.2.2 dX11_covers_23
  · have h_4 : rg 1 1 r7 := r_ne_lo_i c10 p_1 (by decide) (by decide)
    have h_5 : rg 0 63 p0 := (p_2 (rne h_4 (y := 0) (c := 0) (by decide) (by decide)))
    refine lv_aload_n hx hb dX11_covers_13 rfl (lv_at hl 0 rfl) ?_
    refine lv_iload_n hx hb dX11_covers_14 rfl (lv_at hl 1 rfl) ?_
    refine wj_calli (wr := [(a6, .inl (ct 0, 5, .inl f6))]) (w1 := (fun u : SU => [(a0, .inr (11, [.int 0, .ref a1, .ref a2, .ref a3, .ref a4, .ref a5, .int n0_6, .int n0_7, .int n0_8, .int n0_9, .int n0_10, .long l0_11, .int n0_12, .int n0_13, .int n0_14, .int n0_15, .ref a6, .ref a7, .ref a8, .ref a9, .ref a10, .ref a11, .ref a12, .ref a13, .int (u.1 0), .int (u.1 1), .int (u.1 2), .int (u.1 3), .ref a14, .int n0_29, .int n0_30])), (a7, .inl (ct 0, 15, .inl f7)), (a8, .inl (ct 0, 200, .inl f8)), (a9, .inl (ct 0, 1000, .inl f9)), (a11, .inl (ct 0, 8, .inl (u.2.1 0))), (a12, .inl (ct 0, 8, .inl (u.2.1 1))), (a13, .inl (ct 0, 8, .inl (u.2.1 2)))])) (va_runV (As := [.int p0]) (rest := []) ⟨hx, hb, hml, hown, hts⟩ (a_X11_coversOf l G ct a0 (0 : Int32) a1 a2 a3 a4 a5 n0_6 n0_7 n0_8 n0_9 n0_10 l0_11 n0_12 n0_13 n0_14 n0_15 a6 a7 a8 a9 a10 a11 a12 a13 n0_24 n0_25 n0_26 n0_27 a14 n0_29 n0_30 f7 f8 f9 f11 f12 f13 p0 hp_n0_6 hp_f7 hp_f8 hp_f9 hp_f11 hp_f13) (cwV 1 hts gX11_covers_X11_coversOf rfl rfl rfl (by decide +kernel) ⟨Nat.le_of_ble_eq_true rfl, Nat.le_of_ble_eq_true rfl⟩) (wr_preV 11 0 hK (hP.sub [0, 2, 3, 4, 5, 6, 7] rfl) (hD.sub [0, 2, 3, 4, 5, 6, 7] (by decide) rfl) rfl rfl) rfl rfl hl.1 rfl (lv_room (Nat.le_of_ble_eq_true rfl)) dX11_covers_15 ⟨Nat.zero_le _, Nat.zero_le _⟩) hS hP hD [0, 2, 3, 4, 5, 6, 7] [1] rfl rfl (by decide) (fun _ => rfl) (fun r15 ur15 H locs wr15 hP hD hS => ?_)
    have hP : va_P G vwCl [(a0, .inr (11, [.int 0, .ref a1, .ref a2, .ref a3, .ref a4, .ref a5, .int n0_6, .int n0_7, .int n0_8, .int n0_9, .int n0_10, .long l0_11, .int n0_12, .int n0_13, .int n0_14, .int n0_15, .ref a6, .ref a7, .ref a8, .ref a9, .ref a10, .ref a11, .ref a12, .ref a13, .int (ur15.1 0), .int (ur15.1 1), .int (ur15.1 2), .int (ur15.1 3), .ref a14, .int n0_29, .int n0_30])), (a6, .inl (ct 0, 5, .inl f6)), (a7, .inl (ct 0, 15, .inl f7)), (a8, .inl (ct 0, 200, .inl f8)), (a9, .inl (ct 0, 1000, .inl f9)), (a11, .inl (ct 0, 8, .inl (ur15.2.1 0))), (a12, .inl (ct 0, 8, .inl (ur15.2.1 1))), (a13, .inl (ct 0, 8, .inl (ur15.2.1 2)))] H := hP.sub [1, 0, 2, 3, 4, 5, 6, 7] rfl
    have hD : va_D A [(a0, .inr (11, [.int 0, .ref a1, .ref a2, .ref a3, .ref a4, .ref a5, .int n0_6, .int n0_7, .int n0_8, .int n0_9, .int n0_10, .long l0_11, .int n0_12, .int n0_13, .int n0_14, .int n0_15, .ref a6, .ref a7, .ref a8, .ref a9, .ref a10, .ref a11, .ref a12, .ref a13, .int (ur15.1 0), .int (ur15.1 1), .int (ur15.1 2), .int (ur15.1 3), .ref a14, .int n0_29, .int n0_30])), (a6, .inl (ct 0, 5, .inl f6)), (a7, .inl (ct 0, 15, .inl f7)), (a8, .inl (ct 0, 200, .inl f8)), (a9, .inl (ct 0, 1000, .inl f9)), (a11, .inl (ct 0, 8, .inl (ur15.2.1 0))), (a12, .inl (ct 0, 8, .inl (ur15.2.1 1))), (a13, .inl (ct 0, 8, .inl (ur15.2.1 2)))] := hD.sub [1, 0, 2, 3, 4, 5, 6, 7] (by decide) rfl
    obtain ⟨p_6, p_7, p_8, -⟩ := wr15
    refine lv_goto (tgt := 23) hx hb dX11_covers_18 (by decide) ?_
    exact W.iret (v := r15) hx hb hr (fun t ht hW => ⟨⟨r15, (fun k => ([0, ur15.1 0, ur15.1 1, ur15.1 2, ur15.1 3] : List Int32).getD k 0, fun k => ([ur15.2.1 0, ur15.2.1 1, ur15.2.1 2] : List (Nat → Int32)).getD k (fun _ => 0), fun k => ([] : List (Nat → Int64)).getD k (fun _ => 0)), rfl, ⟨(rg_w (c := (-2)) (d := 255) p_6 (by decide)), (fun _ => h_5), (fun _ => h_5), (fun _ => h_5), p_7, p_8, (rgn 0 (x := 0) (by decide)), trivial⟩, hp_at ht hP⟩, hS.F ht⟩) hS.2.2 dX11_covers_23

set_option maxHeartbeats 4000000 in
set_option maxRecDepth 100000 in
theorem a_X11_boughtOf (l : Launch) (G : va_G) (ct : Nat → ClassId) (a0 : Nat) (n0_0 : Int32) (a1 : Nat) (a2 : Nat) (a3 : Nat) (a4 : Nat) (a5 : Nat) (n0_6 : Int32) (n0_7 : Int32) (n0_8 : Int32) (n0_9 : Int32) (n0_10 : Int32) (l0_11 : Int64) (n0_12 : Int32) (n0_13 : Int32) (n0_14 : Int32) (n0_15 : Int32) (a6 : Nat) (a7 : Nat) (a8 : Nat) (a9 : Nat) (a10 : Nat) (a11 : Nat) (a12 : Nat) (a13 : Nat) (n0_24 : Int32) (n0_25 : Int32) (n0_26 : Int32) (n0_27 : Int32) (a14 : Nat) (n0_29 : Int32) (n0_30 : Int32) (f7 : Nat → Int32) (f8 : Nat → Int32) (p0 : Int32) (hp_n0_6 : rg 0 900 n0_6) (hp_f7 : hsI f7) (hp_f8 : psI f8) : Met l yX11_boughtOf wsX11_boughtOf ({ frames := 2, cells := 0, slots := 0, locals := 45 }) (va_Pc [.ref a0, .int p0] (roP G ct [(a0, .inr (11, [.int n0_0, .ref a1, .ref a2, .ref a3, .ref a4, .ref a5, .int n0_6, .int n0_7, .int n0_8, .int n0_9, .int n0_10, .long l0_11, .int n0_12, .int n0_13, .int n0_14, .int n0_15, .ref a6, .ref a7, .ref a8, .ref a9, .ref a10, .ref a11, .ref a12, .ref a13, .int n0_24, .int n0_25, .int n0_26, .int n0_27, .ref a14, .int n0_29, .int n0_30])), (a7, .inl (ct 0, 15, .inl f7)), (a8, .inl (ct 0, 200, .inl f8))])) (roQ (fun r => rg (-1) 255 r ∧ True)) 0 0 no := by
  refine Met.ofW (cc := cX11_boughtOf) (maxL := 4) (ret := (some .int)) (by decide) rfl ?_
  intro p e s m args below meth c s₁ B hml hv
  obtain ⟨rfl, hP, hK⟩ := hv
  have hx := B.exec
  have hb := B.bytes
  have hr := B.returns
  have hts := atoms_spec (ws := wsX11_boughtOf) B.pre
  have hown : s.vm.findClass RX11 = some m.cls := findClass_of_methodNamed B.named
  have hlocks := B.notSynchronized
  have hS : va_S no s.heap s.heap [] := va_S.rf
  have hl := lv_entry ([.ref a0, .int p0]) (n := 4) (Nat.le_of_ble_eq_true rfl)
  rw [lg_entry_eq]
  generalize (lg_sl ([.ref a0, .int p0]) ++ List.replicate (4 - (lg_sl ([.ref a0, .int p0])).length) Slot.unset).toArray = ls at hl ⊢
  have hl : lv_has ls 4 [(0, .ref a0), (1, .int p0)] := hl
  refine lv_iconst (v := (-1)) hx hb dX11_boughtOf_0 (by decide) ?_
  refine lv_istore_n (lv' := [(2, .int (-1)), (0, .ref a0), (1, .int p0)]) hx hb dX11_boughtOf_1 rfl hl (by decide) rfl (fun ls hl => ?_)
  refine lv_iconst (v := 0) hx hb dX11_boughtOf_2 (by decide) ?_
  refine lv_istore_n (lv' := [(3, .int 0), (2, .int (-1)), (0, .ref a0), (1, .int p0)]) hx hb dX11_boughtOf_3 rfl hl (by decide) rfl (fun ls hl => ?_)
  have j4 : ∀ (n : Nat) (x4_2 : Int32) (x4_3 : Int32) (H : Heap) (locs : List Loc) (ls : Array Slot), 2147483648 ≤ x4_3.toInt + (n : Int) → rg (-1) 255 x4_2 → rg 0 256 x4_3 → va_P G vwCl [(a0, .inr (11, [.int n0_0, .ref a1, .ref a2, .ref a3, .ref a4, .ref a5, .int n0_6, .int n0_7, .int n0_8, .int n0_9, .int n0_10, .long l0_11, .int n0_12, .int n0_13, .int n0_14, .int n0_15, .ref a6, .ref a7, .ref a8, .ref a9, .ref a10, .ref a11, .ref a12, .ref a13, .int n0_24, .int n0_25, .int n0_26, .int n0_27, .ref a14, .int n0_29, .int n0_30])), (a7, .inl (ct 0, 15, .inl f7)), (a8, .inl (ct 0, 200, .inl f8))] H → va_S no s.heap H locs → lv_has ls 4 [(0, .ref a0), (1, .int p0), (2, .int x4_2), (3, .int x4_3)] → W p l e (headSpec wsX11_boughtOf ({ frames := 2, cells := 0, slots := 0, locals := 45 })).room s m ([.ref a0, .int p0] : List Value).toArray below meth c H locs 0 0 (MQ below (roQ (fun r => rg (-1) 255 r ∧ True)) ([.ref a0, .int p0] : List Value).toArray s 0 0 no) (F0 m 4 ls []) := by
    intro n
    induction n with
    | zero => intro x4_2 x4_3 H locs ls hn4 hx4_2 hx4_3 hP hS hl; exact absurd hn4 (by have := Int32.toInt_lt x4_3; have := Int32.le_toInt x4_3; omega)
    | succ n ih4 =>
      intro x4_2 x4_3 H locs ls hn4 hx4_2 hx4_3 hP hS hl
      refine lv_iload_n hx hb dX11_boughtOf_4 rfl (lv_at hl 3 rfl) ?_
      refine lv_iconst (v := 1) hx hb dX11_boughtOf_5 (by decide) ?_
      refine lv_aload_n hx hb dX11_boughtOf_6 rfl (lv_at hl 0 rfl) ?_
      refine va_get (D := G) (ci := 11) (v := .ref a7) (C := RX11) (T := TX11) (N := 31) hx hb hts (by decide +kernel) hown hK.1 hP 0 rfl rfl 17 (by decide) (hts (.fieldLink RX11 34 "CardHolderModel" "has" "[I") (by decide +kernel)) (fun _ h9 => h9) rfl dX11_boughtOf_7 ?_
      refine lv_iconst (v := 1) hx hb dX11_boughtOf_10 (by decide) ?_
      refine va_iald hx hb hK.1 hP 1 0 rfl rfl (in_lit (by decide)) dX11_boughtOf_11 ?_
      refine lv_topi (fun z11 gz11 => ?_)
      have hz11 : rg 0 8 z11 := by rw [gz11]; exact (hp_f7.1 0)
      refine lv_ishl hx hb dX11_boughtOf_12 ?_
      refine nm_shl (e1 := 1) (f := 256) hz11 (by decide) (fun z12 hz12 => ?_)
      refine lv_icmp_ge (tgt := 54) hx hb dX11_boughtOf_13 (by decide) (fun c13 => ?_) (fun c13 => ?_)
      · have h_1 : rg 1 256 x4_3 := r_le_r_i c13 hz12 hx4_3
        refine lv_iload_n hx hb dX11_boughtOf_54 rfl (lv_at hl 2 rfl) ?_
        exact W.iret (v := x4_2) hx hb hr (fun t ht hW => ⟨⟨x4_2, (), rfl, ⟨hx4_2, trivial⟩, trivial⟩, hS.F ht⟩) hS.2.2 dX11_boughtOf_55
      · have h_2 : rg 0 255 x4_3 := r_lt_l_i (nle_i c13) hx4_3 hz12 (by decide)
        refine lv_iload_n hx hb dX11_boughtOf_16 rfl (lv_at hl 2 rfl) ?_
        refine lv_iconst (v := (-1)) hx hb dX11_boughtOf_17 (by decide) ?_
        have j48 : ∀ (x48_2 : Int32) (H : Heap) (locs : List Loc) (ls : Array Slot), rg (-1) 255 x48_2 → va_P G vwCl [(a0, .inr (11, [.int n0_0, .ref a1, .ref a2, .ref a3, .ref a4, .ref a5, .int n0_6, .int n0_7, .int n0_8, .int n0_9, .int n0_10, .long l0_11, .int n0_12, .int n0_13, .int n0_14, .int n0_15, .ref a6, .ref a7, .ref a8, .ref a9, .ref a10, .ref a11, .ref a12, .ref a13, .int n0_24, .int n0_25, .int n0_26, .int n0_27, .ref a14, .int n0_29, .int n0_30])), (a7, .inl (ct 0, 15, .inl f7)), (a8, .inl (ct 0, 200, .inl f8))] H → va_S no s.heap H locs → lv_has ls 4 [(0, .ref a0), (1, .int p0), (2, .int x48_2), (3, .int x4_3)] → W p l e (headSpec wsX11_boughtOf ({ frames := 2, cells := 0, slots := 0, locals := 45 })).room s m ([.ref a0, .int p0] : List Value).toArray below meth c H locs 0 0 (MQ below (roQ (fun r => rg (-1) 255 r ∧ True)) ([.ref a0, .int p0] : List Value).toArray s 0 0 no) (F0 m 48 ls []) := by
          intro x48_2 H locs ls hx48_2 hP hS hl
          obtain ⟨z48, qz48⟩ : ∃ y : Int32, y = x4_3 + Int32.ofInt 1 := ⟨_, rfl⟩
          obtain ⟨hz48, ez48⟩ := inc_z (e := 1) (f := 256) h_2 qz48 (by decide)
          refine lv_iinc (v := z48) (lv' := [(3, .int z48), (0, .ref a0), (1, .int p0), (2, .int x48_2)]) hx hb dX11_boughtOf_48 hl (k := 3) rfl (qz48.symm) (by decide) rfl (fun ls hl => ?_)
          refine lv_goto (tgt := 4) hx hb dX11_boughtOf_51 (by decide) ?_
          exact ih4 x48_2 z48 _ _ ls (by have q := hn4; have := ez48; omega) hx48_2 (rg_w (c := 0) (d := 256) hz48 (by decide)) hP hS (lv_sub hl [1, 2, 3, 0] rfl)
        have j34 : ∀ (H : Heap) (locs : List Loc) (ls : Array Slot), va_P G vwCl [(a0, .inr (11, [.int n0_0, .ref a1, .ref a2, .ref a3, .ref a4, .ref a5, .int n0_6, .int n0_7, .int n0_8, .int n0_9, .int n0_10, .long l0_11, .int n0_12, .int n0_13, .int n0_14, .int n0_15, .ref a6, .ref a7, .ref a8, .ref a9, .ref a10, .ref a11, .ref a12, .ref a13, .int n0_24, .int n0_25, .int n0_26, .int n0_27, .ref a14, .int n0_29, .int n0_30])), (a7, .inl (ct 0, 15, .inl f7)), (a8, .inl (ct 0, 200, .inl f8))] H → va_S no s.heap H locs → lv_has ls 4 [(0, .ref a0), (1, .int p0), (2, .int x4_2), (3, .int x4_3)] → W p l e (headSpec wsX11_boughtOf ({ frames := 2, cells := 0, slots := 0, locals := 45 })).room s m ([.ref a0, .int p0] : List Value).toArray below meth c H locs 0 0 (MQ below (roQ (fun r => rg (-1) 255 r ∧ True)) ([.ref a0, .int p0] : List Value).toArray s 0 0 no) (F0 m 34 ls []) := by
          intro  H locs ls  hP hS hl
          refine lv_iload_n hx hb dX11_boughtOf_34 rfl (lv_at hl 1 rfl) ?_
          refine lv_aload_n hx hb dX11_boughtOf_35 rfl (lv_at hl 0 rfl) ?_
          refine lv_iload_n hx hb dX11_boughtOf_36 rfl (lv_at hl 3 rfl) ?_
          refine ro_calli (va_runV (As := [.int x4_3]) (rest := [.int p0]) ⟨hx, hb, hml, hown, hts⟩ (a_X11_doneBy l G ct a0 n0_0 a1 a2 a3 a4 a5 n0_6 n0_7 n0_8 n0_9 n0_10 l0_11 n0_12 n0_13 n0_14 n0_15 a6 a7 a8 a9 a10 a11 a12 a13 n0_24 n0_25 n0_26 n0_27 a14 n0_29 n0_30 f7 f8 x4_3 hp_n0_6 hp_f7 hp_f8) (cwV 1 hts gX11_boughtOf_X11_doneBy rfl rfl rfl (by decide +kernel) ⟨Nat.le_of_ble_eq_true rfl, Nat.le_of_ble_eq_true rfl⟩) (ro_preV 11 0 hK (hP.sub [0, 1, 2] rfl) rfl rfl) rfl rfl hl.1 rfl (lv_room (Nat.le_of_ble_eq_true rfl)) dX11_boughtOf_37 ⟨Nat.zero_le _, Nat.zero_le _⟩) hS hP (fun r37 H locs wr37 hP hS => ?_)
          refine lv_iconst (v := (-1)) hx hb dX11_boughtOf_40 (by decide) ?_
          refine lv_ixor hx hb dX11_boughtOf_41 ?_
          refine nm_0 (fun z41 => ?_)
          refine lv_iand hx hb dX11_boughtOf_42 ?_
          refine nm_0 (fun z42 => ?_)
          refine lv_if_ne (tgt := 48) hx hb dX11_boughtOf_43 (by decide) (fun c43 => ?_) (fun c43 => ?_)
          · exact j48 x4_2 _ _ ls hx4_2 hP hS (lv_sub hl [0, 1, 2, 3] rfl)
          · have h_3 : rg 0 0 z42 := r_eq_l_i (e := 0) (f := 0) c43 (rg_t z42) (rgn 0 (x := 0) (by decide)) (by decide)
            refine lv_iload_n hx hb dX11_boughtOf_46 rfl (lv_at hl 3 rfl) ?_
            refine lv_istore_n (lv' := [(2, .int x4_3), (0, .ref a0), (1, .int p0), (3, .int x4_3)]) hx hb dX11_boughtOf_47 rfl hl (by decide) rfl (fun ls hl => ?_)
            exact j48 x4_3 _ _ ls (rg_w (c := (-1)) (d := 255) h_2 (by decide)) hP hS (lv_sub hl [1, 2, 0, 3] rfl)
        refine lv_icmp_eq (tgt := 34) hx hb dX11_boughtOf_18 (by decide) (fun c18 => ?_) (fun c18 => ?_)
        · have h_4 : rg (-1) (-1) x4_2 := r_eq_l_i (e := (-1)) (f := (-1)) c18 hx4_2 (rgn (-1) (x := (-1)) (by decide)) (by decide)
          exact j34 _ _ ls hP hS (lv_sub hl [0, 1, 2, 3] rfl)
        · have h_5 : rg 0 255 x4_2 := r_ne_lo_i c18 hx4_2 (by decide) (by decide)
          refine lv_aload_n hx hb dX11_boughtOf_21 rfl (lv_at hl 0 rfl) ?_
          refine lv_iload_n hx hb dX11_boughtOf_22 rfl (lv_at hl 3 rfl) ?_
          refine ro_calli (va_runV (As := [.int x4_3]) (rest := []) ⟨hx, hb, hml, hown, hts⟩ (a_X11_worthOf l G ct a0 n0_0 a1 a2 a3 a4 a5 n0_6 n0_7 n0_8 n0_9 n0_10 l0_11 n0_12 n0_13 n0_14 n0_15 a6 a7 a8 a9 a10 a11 a12 a13 n0_24 n0_25 n0_26 n0_27 a14 n0_29 n0_30 f7 f8 x4_3 hp_n0_6 hp_f7 hp_f8) (cwV 1 hts gX11_boughtOf_X11_worthOf rfl rfl rfl (by decide +kernel) ⟨Nat.le_of_ble_eq_true rfl, Nat.le_of_ble_eq_true rfl⟩) (ro_preV 11 0 hK (hP.sub [0, 1, 2] rfl) rfl rfl) rfl rfl hl.1 rfl (lv_room (Nat.le_of_ble_eq_true rfl)) dX11_boughtOf_23 ⟨Nat.zero_le _, Nat.zero_le _⟩) hS hP (fun r23 H locs wr23 hP hS => ?_)
          refine lv_aload_n hx hb dX11_boughtOf_26 rfl (lv_at hl 0 rfl) ?_
          refine lv_iload_n hx hb dX11_boughtOf_27 rfl (lv_at hl 2 rfl) ?_
          refine ro_calli (va_runV (As := [.int x4_2]) (rest := [.int r23]) ⟨hx, hb, hml, hown, hts⟩ (a_X11_worthOf l G ct a0 n0_0 a1 a2 a3 a4 a5 n0_6 n0_7 n0_8 n0_9 n0_10 l0_11 n0_12 n0_13 n0_14 n0_15 a6 a7 a8 a9 a10 a11 a12 a13 n0_24 n0_25 n0_26 n0_27 a14 n0_29 n0_30 f7 f8 x4_2 hp_n0_6 hp_f7 hp_f8) (cwV 1 hts gX11_boughtOf_X11_worthOf rfl rfl rfl (by decide +kernel) ⟨Nat.le_of_ble_eq_true rfl, Nat.le_of_ble_eq_true rfl⟩) (ro_preV 11 0 hK (hP.sub [0, 1, 2] rfl) rfl rfl) rfl rfl hl.1 rfl (lv_room (Nat.le_of_ble_eq_true rfl)) dX11_boughtOf_28 ⟨Nat.zero_le _, Nat.zero_le _⟩) hS hP (fun r28 H locs wr28 hP hS => ?_)
          refine lv_icmp_ge (tgt := 48) hx hb dX11_boughtOf_31 (by decide) (fun c31 => ?_) (fun c31 => ?_)
          · exact j48 x4_2 _ _ ls (rg_w (c := (-1)) (d := 255) h_5 (by decide)) hP hS (lv_sub hl [0, 1, 2, 3] rfl)
          · have h_6 : rg (-2147483648) 2147483646 r23 := r_lt_l_i (nle_i c31) (rg_t r23) (rg_t r28) (by decide)
            have h_7 : rg (-2147483647) 2147483647 r28 := r_lt_r_i (nle_i c31) (rg_t r23) (rg_t r28) (by decide)
            exact j34 _ _ ls hP hS (lv_sub hl [0, 1, 2, 3] rfl)
  exact j4 4294967296 ((-1) : Int32) (0 : Int32) _ _ ls (ms_e (0 : Int32)) (rg_w (c := (-1)) (d := 255) (rgn (-1) (x := (-1)) (by decide)) (by decide)) (rg_w (c := 0) (d := 256) (rgn 0 (x := 0) (by decide)) (by decide)) hP hS (lv_sub hl [2, 3, 1, 0] rfl)

set_option maxHeartbeats 4000000 in
set_option maxRecDepth 100000 in
theorem a_X11_buy (l : Launch) (G : va_G) (ct : Nat → ClassId) (a0 : Nat) (n0_0 : Int32) (a1 : Nat) (a2 : Nat) (a3 : Nat) (a4 : Nat) (a5 : Nat) (n0_6 : Int32) (n0_7 : Int32) (n0_8 : Int32) (n0_9 : Int32) (n0_10 : Int32) (l0_11 : Int64) (n0_12 : Int32) (n0_13 : Int32) (n0_14 : Int32) (n0_15 : Int32) (a6 : Nat) (a7 : Nat) (a8 : Nat) (a9 : Nat) (a10 : Nat) (a11 : Nat) (a12 : Nat) (a13 : Nat) (n0_24 : Int32) (n0_25 : Int32) (n0_26 : Int32) (n0_27 : Int32) (a14 : Nat) (n0_29 : Int32) (n0_30 : Int32) (f6 : Nat → Int32) (f7 : Nat → Int32) (f8 : Nat → Int32) (p0 : Int32) (hp_n0_6 : rg 0 900 n0_6) (hp_f7 : hsI f7) (hp_f8 : psI f8) : Met l yX11_buy wsX11_buy ({ frames := 3, cells := 0, slots := 0, locals := 68 }) (va_Pc [.ref a0, .int p0] (wrP G ct [(a0, .inr (11, [.int n0_0, .ref a1, .ref a2, .ref a3, .ref a4, .ref a5, .int n0_6, .int n0_7, .int n0_8, .int n0_9, .int n0_10, .long l0_11, .int n0_12, .int n0_13, .int n0_14, .int n0_15, .ref a6, .ref a7, .ref a8, .ref a9, .ref a10, .ref a11, .ref a12, .ref a13, .int n0_24, .int n0_25, .int n0_26, .int n0_27, .ref a14, .int n0_29, .int n0_30])), (a6, .inl (ct 0, 5, .inl f6)), (a7, .inl (ct 0, 15, .inl f7)), (a8, .inl (ct 0, 200, .inl f8))])) (va_Qi (fun (r : Int32) (u : SU) => (r = 0 → rg 0 63 p0) ∧ (r = (-1) → rg 0 63 p0) ∧ (¬ r = (-2) → rg 0 63 p0) ∧ rg 0 0 (u.1 0) ∧ True) (fun u t => va_P G vwCl ((fun u : SU => [(a0, .inr (11, [.int (u.1 0), .ref a1, .ref a2, .ref a3, .ref a4, .ref a5, .int n0_6, .int n0_7, .int n0_8, .int n0_9, .int n0_10, .long l0_11, .int n0_12, .int n0_13, .int n0_14, .int n0_15, .ref a6, .ref a7, .ref a8, .ref a9, .ref a10, .ref a11, .ref a12, .ref a13, .int n0_24, .int n0_25, .int n0_26, .int n0_27, .ref a14, .int n0_29, .int n0_30])), (a6, .inl (ct 0, 5, .inl f6)), (a7, .inl (ct 0, 15, .inl f7)), (a8, .inl (ct 0, 200, .inl f8))]) u) t.heap) (aset [(a0, .inr (11, [.int n0_0, .ref a1, .ref a2, .ref a3, .ref a4, .ref a5, .int n0_6, .int n0_7, .int n0_8, .int n0_9, .int n0_10, .long l0_11, .int n0_12, .int n0_13, .int n0_14, .int n0_15, .ref a6, .ref a7, .ref a8, .ref a9, .ref a10, .ref a11, .ref a12, .ref a13, .int n0_24, .int n0_25, .int n0_26, .int n0_27, .ref a14, .int n0_29, .int n0_30])), (a6, .inl (ct 0, 5, .inl f6)), (a7, .inl (ct 0, 15, .inl f7)), (a8, .inl (ct 0, 200, .inl f8))])) 0 0 (aset [(a0, .inr (11, [.int n0_0, .ref a1, .ref a2, .ref a3, .ref a4, .ref a5, .int n0_6, .int n0_7, .int n0_8, .int n0_9, .int n0_10, .long l0_11, .int n0_12, .int n0_13, .int n0_14, .int n0_15, .ref a6, .ref a7, .ref a8, .ref a9, .ref a10, .ref a11, .ref a12, .ref a13, .int n0_24, .int n0_25, .int n0_26, .int n0_27, .ref a14, .int n0_29, .int n0_30])), (a6, .inl (ct 0, 5, .inl f6)), (a7, .inl (ct 0, 15, .inl f7)), (a8, .inl (ct 0, 200, .inl f8))]) := by
  refine Met.ofW (cc := cX11_buy) (maxL := 3) (ret := (some .int)) (by decide) rfl ?_
  intro p e s m args below meth c s₁ B hml hv
  obtain ⟨rfl, hP, hK, hD0⟩ := hv
  have hx := B.exec
  have hb := B.bytes
  have hr := B.returns
  have hts := atoms_spec (ws := wsX11_buy) B.pre
  have hown : s.vm.findClass RX11 = some m.cls := findClass_of_methodNamed B.named
  have hlocks := B.notSynchronized
  have hD := hD0.aself
  generalize hAe : aset [(a0, .inr (11, [.int n0_0, .ref a1, .ref a2, .ref a3, .ref a4, .ref a5, .int n0_6, .int n0_7, .int n0_8, .int n0_9, .int n0_10, .long l0_11, .int n0_12, .int n0_13, .int n0_14, .int n0_15, .ref a6, .ref a7, .ref a8, .ref a9, .ref a10, .ref a11, .ref a12, .ref a13, .int n0_24, .int n0_25, .int n0_26, .int n0_27, .ref a14, .int n0_29, .int n0_30])), (a6, .inl (ct 0, 5, .inl f6)), (a7, .inl (ct 0, 15, .inl f7)), (a8, .inl (ct 0, 200, .inl f8))] = A at hD ⊢
  have hS : va_S A s.heap s.heap [] := va_S.rf
  have hl := lv_entry ([.ref a0, .int p0]) (n := 3) (Nat.le_of_ble_eq_true rfl)
  rw [lg_entry_eq]
  generalize (lg_sl ([.ref a0, .int p0]) ++ List.replicate (3 - (lg_sl ([.ref a0, .int p0])).length) Slot.unset).toArray = ls at hl ⊢
  have hl : lv_has ls 3 [(0, .ref a0), (1, .int p0)] := hl
  refine lv_aload_n hx hb dX11_buy_0 rfl (lv_at hl 0 rfl) ?_
  refine lv_iconst (v := 0) hx hb dX11_buy_1 (by decide) ?_
  refine va_put (D := G) (ci := 11) (v := .int 0) (ty := .int) (C := RX11) (T := TX11) (N := 31) hx hb hts (by decide +kernel) tyX11 tyX11_ok nmX11 hown hK.1 hP hD hS 0 rfl rfl 0 (by decide) (hts (.fieldLink RX11 59 "CardHolderModel" "thrown" "I") (by decide +kernel)) (fun _ h9 => h9) rfl (by decide +kernel) rfl rfl (Nat.le_of_ble_eq_true rfl) dX11_buy_2 (fun H locs hP hD hS => ?_)
  refine lv_aload_n hx hb dX11_buy_5 rfl (lv_at hl 0 rfl) ?_
  refine lv_iload_n hx hb dX11_buy_6 rfl (lv_at hl 1 rfl) ?_
  refine ro_calli (va_runV (As := [.int p0]) (rest := []) ⟨hx, hb, hml, hown, hts⟩ (a_X11_areDeeds l G ct a0 (0 : Int32) a1 a2 a3 a4 a5 n0_6 n0_7 n0_8 n0_9 n0_10 l0_11 n0_12 n0_13 n0_14 n0_15 a6 a7 a8 a9 a10 a11 a12 a13 n0_24 n0_25 n0_26 n0_27 a14 n0_29 n0_30 f6 p0 hp_n0_6) (cwV 1 hts gX11_buy_X11_areDeeds rfl rfl rfl (by decide +kernel) ⟨Nat.le_of_ble_eq_true rfl, Nat.le_of_ble_eq_true rfl⟩) (ro_preV 11 0 hK (hP.sub [0, 1] rfl) rfl rfl) rfl rfl hl.1 rfl (lv_room (Nat.le_of_ble_eq_true rfl)) dX11_buy_7 ⟨Nat.zero_le _, Nat.zero_le _⟩) hS hP (fun r7 H locs wr7 hP hS => ?_)
  obtain ⟨p_1, p_2, -⟩ := wr7
  refine lv_if_ne (tgt := 16) hx hb dX11_buy_10 (by decide) (fun c10 => ?_) (fun c10 => ?_)
  · have h_3 : rg 1 1 r7 := r_ne_lo_i c10 p_1 (by decide) (by decide)
    have h_4 : rg 0 63 p0 := (p_2 (rne h_3 (y := 0) (c := 0) (by decide) (by decide)))
    refine lv_aload_n hx hb dX11_buy_16 rfl (lv_at hl 0 rfl) ?_
    refine lv_iload_n hx hb dX11_buy_17 rfl (lv_at hl 1 rfl) ?_
    refine ro_calli (va_runV (As := [.int p0]) (rest := []) ⟨hx, hb, hml, hown, hts⟩ (a_X11_boughtOf l G ct a0 (0 : Int32) a1 a2 a3 a4 a5 n0_6 n0_7 n0_8 n0_9 n0_10 l0_11 n0_12 n0_13 n0_14 n0_15 a6 a7 a8 a9 a10 a11 a12 a13 n0_24 n0_25 n0_26 n0_27 a14 n0_29 n0_30 f7 f8 p0 hp_n0_6 hp_f7 hp_f8) (cwV 1 hts gX11_buy_X11_boughtOf rfl rfl rfl (by decide +kernel) ⟨Nat.le_of_ble_eq_true rfl, Nat.le_of_ble_eq_true rfl⟩) (ro_preV 11 0 hK (hP.sub [0, 2, 3] rfl) rfl rfl) rfl rfl hl.1 rfl (lv_room (Nat.le_of_ble_eq_true rfl)) dX11_buy_18 ⟨Nat.zero_le _, Nat.zero_le _⟩) hS hP (fun r18 H locs wr18 hP hS => ?_)
    obtain ⟨p_5, -⟩ := wr18
    refine lv_istore_n (lv' := [(2, .int r18), (0, .ref a0), (1, .int p0)]) hx hb dX11_buy_21 rfl hl (by decide) rfl (fun ls hl => ?_)
    refine lv_iload_n hx hb dX11_buy_22 rfl (lv_at hl 0 rfl) ?_
    refine lv_iconst (v := (-1)) hx hb dX11_buy_23 (by decide) ?_
    refine lv_icmp_ne (tgt := 31) hx hb dX11_buy_24 (by decide) (fun c24 => ?_) (fun c24 => ?_)
    · have h_6 : rg 0 255 r18 := r_ne_lo_i c24 p_5 (by decide) (by decide)
      refine lv_aload_n hx hb dX11_buy_31 rfl (lv_at hl 1 rfl) ?_
      refine lv_iload_n hx hb dX11_buy_32 rfl (lv_at hl 0 rfl) ?_
      refine ro_calli (va_runV (As := [.int r18]) (rest := []) ⟨hx, hb, hml, hown, hts⟩ (a_X11_worthOf l G ct a0 (0 : Int32) a1 a2 a3 a4 a5 n0_6 n0_7 n0_8 n0_9 n0_10 l0_11 n0_12 n0_13 n0_14 n0_15 a6 a7 a8 a9 a10 a11 a12 a13 n0_24 n0_25 n0_26 n0_27 a14 n0_29 n0_30 f7 f8 r18 hp_n0_6 hp_f7 hp_f8) (cwV 1 hts gX11_buy_X11_worthOf rfl rfl rfl (by decide +kernel) ⟨Nat.le_of_ble_eq_true rfl, Nat.le_of_ble_eq_true rfl⟩) (ro_preV 11 0 hK (hP.sub [0, 2, 3] rfl) rfl rfl) rfl rfl hl.1 rfl (lv_room (Nat.le_of_ble_eq_true rfl)) dX11_buy_33 ⟨Nat.zero_le _, Nat.zero_le _⟩) hS hP (fun r33 H locs wr33 hP hS => ?_)
      exact W.iret (v := r33) hx hb hr (fun t ht hW => ⟨⟨r33, (fun k => ([0] : List Int32).getD k 0, fun k => ([] : List (Nat → Int32)).getD k (fun _ => 0), fun k => ([] : List (Nat → Int64)).getD k (fun _ => 0)), rfl, ⟨(fun _ => h_4), (fun _ => h_4), (fun _ => h_4), (rgn 0 (x := 0) (by decide)), trivial⟩, hp_at ht hP⟩, hS.F ht⟩) hS.2.2 dX11_buy_36
    · have h_7 : rg (-1) (-1) r18 := r_eq_l_i (e := (-1)) (f := (-1)) c24 p_5 (rgn (-1) (x := (-1)) (by decide)) (by decide)
      refine lv_iconst (v := (-1)) hx hb dX11_buy_27 (by decide) ?_
      refine lv_goto (tgt := 36) hx hb dX11_buy_28 (by decide) ?_
      exact W.iret (v := (-1)) hx hb hr (fun t ht hW => ⟨⟨(-1), (fun k => ([0] : List Int32).getD k 0, fun k => ([] : List (Nat → Int32)).getD k (fun _ => 0), fun k => ([] : List (Nat → Int64)).getD k (fun _ => 0)), rfl, ⟨(fun _ => h_4), (fun _ => h_4), (fun _ => h_4), (rgn 0 (x := 0) (by decide)), trivial⟩, hp_at ht hP⟩, hS.F ht⟩) hS.2.2 dX11_buy_36
  · have h_8 : rg 0 0 r7 := r_eq_l_i (e := 0) (f := 0) c10 p_1 (rgn 0 (x := 0) (by decide)) (by decide)
    refine lv_bipush (v := (-2)) hx hb dX11_buy_13 (by decide) ?_
    exact W.iret (v := (-2)) hx hb hr (fun t ht hW => ⟨⟨(-2), (fun k => ([0] : List Int32).getD k 0, fun k => ([] : List (Nat → Int32)).getD k (fun _ => 0), fun k => ([] : List (Nat → Int64)).getD k (fun _ => 0)), rfl, ⟨(fun hq => absurd hq (rne (rgn (-2) (x := (-2)) (by decide)) (y := 0) (c := 0) (by decide) (by decide))), (fun hq => absurd hq (rne (rgn (-2) (x := (-2)) (by decide)) (y := (-1)) (c := (-1)) (by decide) (by decide))), (fun hq => absurd (req (rgn (-2) (x := (-2)) (by decide)) (y := (-2)) (by decide)) hq), (rgn 0 (x := 0) (by decide)), trivial⟩, hp_at ht hP⟩, hS.F ht⟩) hS.2.2 dX11_buy_15

set_option maxHeartbeats 4000000 in
set_option maxRecDepth 100000 in
theorem a_X11_bought (l : Launch) (G : va_G) (ct : Nat → ClassId) (a0 : Nat) (n0_0 : Int32) (a1 : Nat) (a2 : Nat) (a3 : Nat) (a4 : Nat) (a5 : Nat) (n0_6 : Int32) (n0_7 : Int32) (n0_8 : Int32) (n0_9 : Int32) (n0_10 : Int32) (l0_11 : Int64) (n0_12 : Int32) (n0_13 : Int32) (n0_14 : Int32) (n0_15 : Int32) (a6 : Nat) (a7 : Nat) (a8 : Nat) (a9 : Nat) (a10 : Nat) (a11 : Nat) (a12 : Nat) (a13 : Nat) (n0_24 : Int32) (n0_25 : Int32) (n0_26 : Int32) (n0_27 : Int32) (a14 : Nat) (n0_29 : Int32) (n0_30 : Int32) (f6 : Nat → Int32) (f7 : Nat → Int32) (f8 : Nat → Int32) (p0 : Int32) (hp_n0_6 : rg 0 900 n0_6) (hp_f7 : hsI f7) (hp_f8 : psI f8) : Met l yX11_bought wsX11_bought ({ frames := 3, cells := 0, slots := 0, locals := 68 }) (va_Pc [.ref a0, .int p0] (wrP G ct [(a0, .inr (11, [.int n0_0, .ref a1, .ref a2, .ref a3, .ref a4, .ref a5, .int n0_6, .int n0_7, .int n0_8, .int n0_9, .int n0_10, .long l0_11, .int n0_12, .int n0_13, .int n0_14, .int n0_15, .ref a6, .ref a7, .ref a8, .ref a9, .ref a10, .ref a11, .ref a12, .ref a13, .int n0_24, .int n0_25, .int n0_26, .int n0_27, .ref a14, .int n0_29, .int n0_30])), (a6, .inl (ct 0, 5, .inl f6)), (a7, .inl (ct 0, 15, .inl f7)), (a8, .inl (ct 0, 200, .inl f8))])) (va_Qi (fun (r : Int32) (u : SU) => rg (-2) 255 r ∧ (r = 0 → rg 0 63 p0) ∧ (r = (-1) → rg 0 63 p0) ∧ (¬ r = (-2) → rg 0 63 p0) ∧ rg 0 0 (u.1 0) ∧ True) (fun u t => va_P G vwCl ((fun u : SU => [(a0, .inr (11, [.int (u.1 0), .ref a1, .ref a2, .ref a3, .ref a4, .ref a5, .int n0_6, .int n0_7, .int n0_8, .int n0_9, .int n0_10, .long l0_11, .int n0_12, .int n0_13, .int n0_14, .int n0_15, .ref a6, .ref a7, .ref a8, .ref a9, .ref a10, .ref a11, .ref a12, .ref a13, .int n0_24, .int n0_25, .int n0_26, .int n0_27, .ref a14, .int n0_29, .int n0_30])), (a6, .inl (ct 0, 5, .inl f6)), (a7, .inl (ct 0, 15, .inl f7)), (a8, .inl (ct 0, 200, .inl f8))]) u) t.heap) (aset [(a0, .inr (11, [.int n0_0, .ref a1, .ref a2, .ref a3, .ref a4, .ref a5, .int n0_6, .int n0_7, .int n0_8, .int n0_9, .int n0_10, .long l0_11, .int n0_12, .int n0_13, .int n0_14, .int n0_15, .ref a6, .ref a7, .ref a8, .ref a9, .ref a10, .ref a11, .ref a12, .ref a13, .int n0_24, .int n0_25, .int n0_26, .int n0_27, .ref a14, .int n0_29, .int n0_30])), (a6, .inl (ct 0, 5, .inl f6)), (a7, .inl (ct 0, 15, .inl f7)), (a8, .inl (ct 0, 200, .inl f8))])) 0 0 (aset [(a0, .inr (11, [.int n0_0, .ref a1, .ref a2, .ref a3, .ref a4, .ref a5, .int n0_6, .int n0_7, .int n0_8, .int n0_9, .int n0_10, .long l0_11, .int n0_12, .int n0_13, .int n0_14, .int n0_15, .ref a6, .ref a7, .ref a8, .ref a9, .ref a10, .ref a11, .ref a12, .ref a13, .int n0_24, .int n0_25, .int n0_26, .int n0_27, .ref a14, .int n0_29, .int n0_30])), (a6, .inl (ct 0, 5, .inl f6)), (a7, .inl (ct 0, 15, .inl f7)), (a8, .inl (ct 0, 200, .inl f8))]) := by
  refine Met.ofW (cc := cX11_bought) (maxL := 2) (ret := (some .int)) (by decide) rfl ?_
  intro p e s m args below meth c s₁ B hml hv
  obtain ⟨rfl, hP, hK, hD0⟩ := hv
  have hx := B.exec
  have hb := B.bytes
  have hr := B.returns
  have hts := atoms_spec (ws := wsX11_bought) B.pre
  have hown : s.vm.findClass RX11 = some m.cls := findClass_of_methodNamed B.named
  have hlocks := B.notSynchronized
  have hD := hD0.aself
  generalize hAe : aset [(a0, .inr (11, [.int n0_0, .ref a1, .ref a2, .ref a3, .ref a4, .ref a5, .int n0_6, .int n0_7, .int n0_8, .int n0_9, .int n0_10, .long l0_11, .int n0_12, .int n0_13, .int n0_14, .int n0_15, .ref a6, .ref a7, .ref a8, .ref a9, .ref a10, .ref a11, .ref a12, .ref a13, .int n0_24, .int n0_25, .int n0_26, .int n0_27, .ref a14, .int n0_29, .int n0_30])), (a6, .inl (ct 0, 5, .inl f6)), (a7, .inl (ct 0, 15, .inl f7)), (a8, .inl (ct 0, 200, .inl f8))] = A at hD ⊢
  have hS : va_S A s.heap s.heap [] := va_S.rf
  have hl := lv_entry ([.ref a0, .int p0]) (n := 2) (Nat.le_of_ble_eq_true rfl)
  rw [lg_entry_eq]
  generalize (lg_sl ([.ref a0, .int p0]) ++ List.replicate (2 - (lg_sl ([.ref a0, .int p0])).length) Slot.unset).toArray = ls at hl ⊢
  have hl : lv_has ls 2 [(0, .ref a0), (1, .int p0)] := hl
  refine lv_aload_n hx hb dX11_bought_0 rfl (lv_at hl 0 rfl) ?_
  refine lv_iconst (v := 0) hx hb dX11_bought_1 (by decide) ?_
  refine va_put (D := G) (ci := 11) (v := .int 0) (ty := .int) (C := RX11) (T := TX11) (N := 31) hx hb hts (by decide +kernel) tyX11 tyX11_ok nmX11 hown hK.1 hP hD hS 0 rfl rfl 0 (by decide) (hts (.fieldLink RX11 59 "CardHolderModel" "thrown" "I") (by decide +kernel)) (fun _ h9 => h9) rfl (by decide +kernel) rfl rfl (Nat.le_of_ble_eq_true rfl) dX11_bought_2 (fun H locs hP hD hS => ?_)
  refine lv_aload_n hx hb dX11_bought_5 rfl (lv_at hl 0 rfl) ?_
  refine lv_iload_n hx hb dX11_bought_6 rfl (lv_at hl 1 rfl) ?_
  refine ro_calli (va_runV (As := [.int p0]) (rest := []) ⟨hx, hb, hml, hown, hts⟩ (a_X11_areDeeds l G ct a0 (0 : Int32) a1 a2 a3 a4 a5 n0_6 n0_7 n0_8 n0_9 n0_10 l0_11 n0_12 n0_13 n0_14 n0_15 a6 a7 a8 a9 a10 a11 a12 a13 n0_24 n0_25 n0_26 n0_27 a14 n0_29 n0_30 f6 p0 hp_n0_6) (cwV 1 hts gX11_bought_X11_areDeeds rfl rfl rfl (by decide +kernel) ⟨Nat.le_of_ble_eq_true rfl, Nat.le_of_ble_eq_true rfl⟩) (ro_preV 11 0 hK (hP.sub [0, 1] rfl) rfl rfl) rfl rfl hl.1 rfl (lv_room (Nat.le_of_ble_eq_true rfl)) dX11_bought_7 ⟨Nat.zero_le _, Nat.zero_le _⟩) hS hP (fun r7 H locs wr7 hP hS => ?_)
  obtain ⟨p_1, p_2, -⟩ := wr7
  refine lv_if_eq (tgt := 21) hx hb dX11_bought_10 (by decide) (fun c10 => ?_) (fun c10 => ?_)
  · have h_3 : rg 0 0 r7 := r_eq_l_i (e := 0) (f := 0) c10 p_1 (rgn 0 (x := 0) (by decide)) (by decide)
    refine lv_bipush (v := (-2)) hx hb dX11_bought_21 (by decide) ?_
    exact W.iret (v := (-2)) hx hb hr (fun t ht hW => ⟨⟨(-2), (fun k => ([0] : List Int32).getD k 0, fun k => ([] : List (Nat → Int32)).getD k (fun _ => 0), fun k => ([] : List (Nat → Int64)).getD k (fun _ => 0)), rfl, ⟨(rg_w (c := (-2)) (d := 255) (rgn (-2) (x := (-2)) (by decide)) (by decide)), (fun hq => absurd hq (rne (rgn (-2) (x := (-2)) (by decide)) (y := 0) (c := 0) (by decide) (by decide))), (fun hq => absurd hq (rne (rgn (-2) (x := (-2)) (by decide)) (y := (-1)) (c := (-1)) (by decide) (by decide))), (fun hq => absurd (req (rgn (-2) (x := (-2)) (by decide)) (y := (-2)) (by decide)) hq), (rgn 0 (x := 0) (by decide)), trivial⟩, hp_at ht hP⟩, hS.F ht⟩) hS.2.2 dX11_bought_23
  · have h_4 : rg 1 1 r7 := r_ne_lo_i c10 p_1 (by decide) (by decide)
    have h_5 : rg 0 63 p0 := (p_2 (rne h_4 (y := 0) (c := 0) (by decide) (by decide)))
    refine lv_aload_n hx hb dX11_bought_13 rfl (lv_at hl 0 rfl) ?_
    refine lv_iload_n hx hb dX11_bought_14 rfl (lv_at hl 1 rfl) ?_
    refine ro_calli (va_runV (As := [.int p0]) (rest := []) ⟨hx, hb, hml, hown, hts⟩ (a_X11_boughtOf l G ct a0 (0 : Int32) a1 a2 a3 a4 a5 n0_6 n0_7 n0_8 n0_9 n0_10 l0_11 n0_12 n0_13 n0_14 n0_15 a6 a7 a8 a9 a10 a11 a12 a13 n0_24 n0_25 n0_26 n0_27 a14 n0_29 n0_30 f7 f8 p0 hp_n0_6 hp_f7 hp_f8) (cwV 1 hts gX11_bought_X11_boughtOf rfl rfl rfl (by decide +kernel) ⟨Nat.le_of_ble_eq_true rfl, Nat.le_of_ble_eq_true rfl⟩) (ro_preV 11 0 hK (hP.sub [0, 2, 3] rfl) rfl rfl) rfl rfl hl.1 rfl (lv_room (Nat.le_of_ble_eq_true rfl)) dX11_bought_15 ⟨Nat.zero_le _, Nat.zero_le _⟩) hS hP (fun r15 H locs wr15 hP hS => ?_)
    obtain ⟨p_6, -⟩ := wr15
    refine lv_goto (tgt := 23) hx hb dX11_bought_18 (by decide) ?_
    exact W.iret (v := r15) hx hb hr (fun t ht hW => ⟨⟨r15, (fun k => ([0] : List Int32).getD k 0, fun k => ([] : List (Nat → Int32)).getD k (fun _ => 0), fun k => ([] : List (Nat → Int64)).getD k (fun _ => 0)), rfl, ⟨(rg_w (c := (-2)) (d := 255) p_6 (by decide)), (fun _ => h_5), (fun _ => h_5), (fun _ => h_5), (rgn 0 (x := 0) (by decide)), trivial⟩, hp_at ht hP⟩, hS.F ht⟩) hS.2.2 dX11_bought_23

set_option maxHeartbeats 4000000 in
set_option maxRecDepth 100000 in
theorem a_X11_hiredOf (l : Launch) (G : va_G) (ct : Nat → ClassId) (a0 : Nat) (n0_0 : Int32) (a1 : Nat) (a2 : Nat) (a3 : Nat) (a4 : Nat) (a5 : Nat) (n0_6 : Int32) (n0_7 : Int32) (n0_8 : Int32) (n0_9 : Int32) (n0_10 : Int32) (l0_11 : Int64) (n0_12 : Int32) (n0_13 : Int32) (n0_14 : Int32) (n0_15 : Int32) (a6 : Nat) (a7 : Nat) (a8 : Nat) (a9 : Nat) (a10 : Nat) (a11 : Nat) (a12 : Nat) (a13 : Nat) (n0_24 : Int32) (n0_25 : Int32) (n0_26 : Int32) (n0_27 : Int32) (a14 : Nat) (n0_29 : Int32) (n0_30 : Int32) (f7 : Nat → Int32) (f8 : Nat → Int32) (p0 : Int32) (hp_n0_6 : rg 0 900 n0_6) (hp_f7 : hsI f7) (hp_f8 : psI f8) : Met l yX11_hiredOf wsX11_hiredOf ({ frames := 2, cells := 0, slots := 0, locals := 45 }) (va_Pc [.ref a0, .int p0] (roP G ct [(a0, .inr (11, [.int n0_0, .ref a1, .ref a2, .ref a3, .ref a4, .ref a5, .int n0_6, .int n0_7, .int n0_8, .int n0_9, .int n0_10, .long l0_11, .int n0_12, .int n0_13, .int n0_14, .int n0_15, .ref a6, .ref a7, .ref a8, .ref a9, .ref a10, .ref a11, .ref a12, .ref a13, .int n0_24, .int n0_25, .int n0_26, .int n0_27, .ref a14, .int n0_29, .int n0_30])), (a7, .inl (ct 0, 15, .inl f7)), (a8, .inl (ct 0, 200, .inl f8))])) (roQ (fun r => rg 0 255 r ∧ True)) 0 0 no := by
  refine Met.ofW (cc := cX11_hiredOf) (maxL := 4) (ret := (some .int)) (by decide) rfl ?_
  intro p e s m args below meth c s₁ B hml hv
  obtain ⟨rfl, hP, hK⟩ := hv
  have hx := B.exec
  have hb := B.bytes
  have hr := B.returns
  have hts := atoms_spec (ws := wsX11_hiredOf) B.pre
  have hown : s.vm.findClass RX11 = some m.cls := findClass_of_methodNamed B.named
  have hlocks := B.notSynchronized
  have hS : va_S no s.heap s.heap [] := va_S.rf
  have hl := lv_entry ([.ref a0, .int p0]) (n := 4) (Nat.le_of_ble_eq_true rfl)
  rw [lg_entry_eq]
  generalize (lg_sl ([.ref a0, .int p0]) ++ List.replicate (4 - (lg_sl ([.ref a0, .int p0])).length) Slot.unset).toArray = ls at hl ⊢
  have hl : lv_has ls 4 [(0, .ref a0), (1, .int p0)] := hl
  refine lv_iconst (v := 0) hx hb dX11_hiredOf_0 (by decide) ?_
  refine lv_istore_n (lv' := [(2, .int 0), (0, .ref a0), (1, .int p0)]) hx hb dX11_hiredOf_1 rfl hl (by decide) rfl (fun ls hl => ?_)
  refine lv_iconst (v := 0) hx hb dX11_hiredOf_2 (by decide) ?_
  refine lv_istore_n (lv' := [(3, .int 0), (2, .int 0), (0, .ref a0), (1, .int p0)]) hx hb dX11_hiredOf_3 rfl hl (by decide) rfl (fun ls hl => ?_)
  have j4 : ∀ (n : Nat) (x4_2 : Int32) (x4_3 : Int32) (H : Heap) (locs : List Loc) (ls : Array Slot), 2147483648 ≤ x4_3.toInt + (n : Int) → rg 0 255 x4_2 → rg 0 256 x4_3 → va_P G vwCl [(a0, .inr (11, [.int n0_0, .ref a1, .ref a2, .ref a3, .ref a4, .ref a5, .int n0_6, .int n0_7, .int n0_8, .int n0_9, .int n0_10, .long l0_11, .int n0_12, .int n0_13, .int n0_14, .int n0_15, .ref a6, .ref a7, .ref a8, .ref a9, .ref a10, .ref a11, .ref a12, .ref a13, .int n0_24, .int n0_25, .int n0_26, .int n0_27, .ref a14, .int n0_29, .int n0_30])), (a7, .inl (ct 0, 15, .inl f7)), (a8, .inl (ct 0, 200, .inl f8))] H → va_S no s.heap H locs → lv_has ls 4 [(0, .ref a0), (1, .int p0), (2, .int x4_2), (3, .int x4_3)] → W p l e (headSpec wsX11_hiredOf ({ frames := 2, cells := 0, slots := 0, locals := 45 })).room s m ([.ref a0, .int p0] : List Value).toArray below meth c H locs 0 0 (MQ below (roQ (fun r => rg 0 255 r ∧ True)) ([.ref a0, .int p0] : List Value).toArray s 0 0 no) (F0 m 4 ls []) := by
    intro n
    induction n with
    | zero => intro x4_2 x4_3 H locs ls hn4 hx4_2 hx4_3 hP hS hl; exact absurd hn4 (by have := Int32.toInt_lt x4_3; have := Int32.le_toInt x4_3; omega)
    | succ n ih4 =>
      intro x4_2 x4_3 H locs ls hn4 hx4_2 hx4_3 hP hS hl
      refine lv_iload_n hx hb dX11_hiredOf_4 rfl (lv_at hl 3 rfl) ?_
      refine lv_iconst (v := 1) hx hb dX11_hiredOf_5 (by decide) ?_
      refine lv_aload_n hx hb dX11_hiredOf_6 rfl (lv_at hl 0 rfl) ?_
      refine va_get (D := G) (ci := 11) (v := .ref a7) (C := RX11) (T := TX11) (N := 31) hx hb hts (by decide +kernel) hown hK.1 hP 0 rfl rfl 17 (by decide) (hts (.fieldLink RX11 34 "CardHolderModel" "has" "[I") (by decide +kernel)) (fun _ h9 => h9) rfl dX11_hiredOf_7 ?_
      refine lv_iconst (v := 1) hx hb dX11_hiredOf_10 (by decide) ?_
      refine va_iald hx hb hK.1 hP 1 0 rfl rfl (in_lit (by decide)) dX11_hiredOf_11 ?_
      refine lv_topi (fun z11 gz11 => ?_)
      have hz11 : rg 0 8 z11 := by rw [gz11]; exact (hp_f7.1 0)
      refine lv_ishl hx hb dX11_hiredOf_12 ?_
      refine nm_shl (e1 := 1) (f := 256) hz11 (by decide) (fun z12 hz12 => ?_)
      refine lv_icmp_ge (tgt := 52) hx hb dX11_hiredOf_13 (by decide) (fun c13 => ?_) (fun c13 => ?_)
      · have h_1 : rg 1 256 x4_3 := r_le_r_i c13 hz12 hx4_3
        refine lv_iload_n hx hb dX11_hiredOf_52 rfl (lv_at hl 2 rfl) ?_
        exact W.iret (v := x4_2) hx hb hr (fun t ht hW => ⟨⟨x4_2, (), rfl, ⟨hx4_2, trivial⟩, trivial⟩, hS.F ht⟩) hS.2.2 dX11_hiredOf_53
      · have h_2 : rg 0 255 x4_3 := r_lt_l_i (nle_i c13) hx4_3 hz12 (by decide)
        refine lv_aload_n hx hb dX11_hiredOf_16 rfl (lv_at hl 0 rfl) ?_
        refine lv_iload_n hx hb dX11_hiredOf_17 rfl (lv_at hl 3 rfl) ?_
        refine ro_calli (va_runV (As := [.int x4_3]) (rest := []) ⟨hx, hb, hml, hown, hts⟩ (a_X11_worthOf l G ct a0 n0_0 a1 a2 a3 a4 a5 n0_6 n0_7 n0_8 n0_9 n0_10 l0_11 n0_12 n0_13 n0_14 n0_15 a6 a7 a8 a9 a10 a11 a12 a13 n0_24 n0_25 n0_26 n0_27 a14 n0_29 n0_30 f7 f8 x4_3 hp_n0_6 hp_f7 hp_f8) (cwV 1 hts gX11_hiredOf_X11_worthOf rfl rfl rfl (by decide +kernel) ⟨Nat.le_of_ble_eq_true rfl, Nat.le_of_ble_eq_true rfl⟩) (ro_preV 11 0 hK (hP.sub [0, 1, 2] rfl) rfl rfl) rfl rfl hl.1 rfl (lv_room (Nat.le_of_ble_eq_true rfl)) dX11_hiredOf_18 ⟨Nat.zero_le _, Nat.zero_le _⟩) hS hP (fun r18 H locs wr18 hP hS => ?_)
        refine lv_iload_n hx hb dX11_hiredOf_21 rfl (lv_at hl 1 rfl) ?_
        have j46 : ∀ (x46_2 : Int32) (H : Heap) (locs : List Loc) (ls : Array Slot), rg 0 255 x46_2 → va_P G vwCl [(a0, .inr (11, [.int n0_0, .ref a1, .ref a2, .ref a3, .ref a4, .ref a5, .int n0_6, .int n0_7, .int n0_8, .int n0_9, .int n0_10, .long l0_11, .int n0_12, .int n0_13, .int n0_14, .int n0_15, .ref a6, .ref a7, .ref a8, .ref a9, .ref a10, .ref a11, .ref a12, .ref a13, .int n0_24, .int n0_25, .int n0_26, .int n0_27, .ref a14, .int n0_29, .int n0_30])), (a7, .inl (ct 0, 15, .inl f7)), (a8, .inl (ct 0, 200, .inl f8))] H → va_S no s.heap H locs → lv_has ls 4 [(0, .ref a0), (1, .int p0), (2, .int x46_2), (3, .int x4_3)] → W p l e (headSpec wsX11_hiredOf ({ frames := 2, cells := 0, slots := 0, locals := 45 })).room s m ([.ref a0, .int p0] : List Value).toArray below meth c H locs 0 0 (MQ below (roQ (fun r => rg 0 255 r ∧ True)) ([.ref a0, .int p0] : List Value).toArray s 0 0 no) (F0 m 46 ls []) := by
          intro x46_2 H locs ls hx46_2 hP hS hl
          obtain ⟨z46, qz46⟩ : ∃ y : Int32, y = x4_3 + Int32.ofInt 1 := ⟨_, rfl⟩
          obtain ⟨hz46, ez46⟩ := inc_z (e := 1) (f := 256) h_2 qz46 (by decide)
          refine lv_iinc (v := z46) (lv' := [(3, .int z46), (0, .ref a0), (1, .int p0), (2, .int x46_2)]) hx hb dX11_hiredOf_46 hl (k := 3) rfl (qz46.symm) (by decide) rfl (fun ls hl => ?_)
          refine lv_goto (tgt := 4) hx hb dX11_hiredOf_49 (by decide) ?_
          exact ih4 x46_2 z46 _ _ ls (by have q := hn4; have := ez46; omega) hx46_2 (rg_w (c := 0) (d := 256) hz46 (by decide)) hP hS (lv_sub hl [1, 2, 3, 0] rfl)
        refine lv_icmp_gt (tgt := 46) hx hb dX11_hiredOf_22 (by decide) (fun c22 => ?_) (fun c22 => ?_)
        · have h_3 : rg (-2147483648) 2147483646 p0 := r_lt_l_i c22 (rg_t p0) (rg_t r18) (by decide)
          have h_4 : rg (-2147483647) 2147483647 r18 := r_lt_r_i c22 (rg_t p0) (rg_t r18) (by decide)
          exact j46 x4_2 _ _ ls hx4_2 hP hS (lv_sub hl [0, 1, 2, 3] rfl)
        · refine lv_aload_n hx hb dX11_hiredOf_25 rfl (lv_at hl 0 rfl) ?_
          refine lv_iload_n hx hb dX11_hiredOf_26 rfl (lv_at hl 3 rfl) ?_
          refine ro_calli (va_runV (As := [.int x4_3]) (rest := []) ⟨hx, hb, hml, hown, hts⟩ (a_X11_doneBy l G ct a0 n0_0 a1 a2 a3 a4 a5 n0_6 n0_7 n0_8 n0_9 n0_10 l0_11 n0_12 n0_13 n0_14 n0_15 a6 a7 a8 a9 a10 a11 a12 a13 n0_24 n0_25 n0_26 n0_27 a14 n0_29 n0_30 f7 f8 x4_3 hp_n0_6 hp_f7 hp_f8) (cwV 1 hts gX11_hiredOf_X11_doneBy rfl rfl rfl (by decide +kernel) ⟨Nat.le_of_ble_eq_true rfl, Nat.le_of_ble_eq_true rfl⟩) (ro_preV 11 0 hK (hP.sub [0, 1, 2] rfl) rfl rfl) rfl rfl hl.1 rfl (lv_room (Nat.le_of_ble_eq_true rfl)) dX11_hiredOf_27 ⟨Nat.zero_le _, Nat.zero_le _⟩) hS hP (fun r27 H locs wr27 hP hS => ?_)
          refine ro_calli (va_runS (As := [.int r27]) (rest := []) ⟨hx, hb, hml, hown, hts⟩ (a_X11_sizeOf l G ct r27) (va_cwS 1 hts gX11_hiredOf_X11_sizeOf rfl rfl rfl (by decide +kernel) ⟨Nat.le_of_ble_eq_true rfl, Nat.le_of_ble_eq_true rfl⟩) (ro_pre hK (hP.sub [] rfl)) rfl rfl hl.1 rfl (lv_room (Nat.le_of_ble_eq_true rfl)) dX11_hiredOf_30 ⟨Nat.zero_le _, Nat.zero_le _⟩) hS hP (fun r30 H locs wr30 hP hS => ?_)
          refine lv_aload_n hx hb dX11_hiredOf_33 rfl (lv_at hl 0 rfl) ?_
          refine lv_iload_n hx hb dX11_hiredOf_34 rfl (lv_at hl 2 rfl) ?_
          refine ro_calli (va_runV (As := [.int x4_2]) (rest := [.int r30]) ⟨hx, hb, hml, hown, hts⟩ (a_X11_doneBy l G ct a0 n0_0 a1 a2 a3 a4 a5 n0_6 n0_7 n0_8 n0_9 n0_10 l0_11 n0_12 n0_13 n0_14 n0_15 a6 a7 a8 a9 a10 a11 a12 a13 n0_24 n0_25 n0_26 n0_27 a14 n0_29 n0_30 f7 f8 x4_2 hp_n0_6 hp_f7 hp_f8) (cwV 1 hts gX11_hiredOf_X11_doneBy rfl rfl rfl (by decide +kernel) ⟨Nat.le_of_ble_eq_true rfl, Nat.le_of_ble_eq_true rfl⟩) (ro_preV 11 0 hK (hP.sub [0, 1, 2] rfl) rfl rfl) rfl rfl hl.1 rfl (lv_room (Nat.le_of_ble_eq_true rfl)) dX11_hiredOf_35 ⟨Nat.zero_le _, Nat.zero_le _⟩) hS hP (fun r35 H locs wr35 hP hS => ?_)
          refine ro_calli (va_runS (As := [.int r35]) (rest := [.int r30]) ⟨hx, hb, hml, hown, hts⟩ (a_X11_sizeOf l G ct r35) (va_cwS 1 hts gX11_hiredOf_X11_sizeOf rfl rfl rfl (by decide +kernel) ⟨Nat.le_of_ble_eq_true rfl, Nat.le_of_ble_eq_true rfl⟩) (ro_pre hK (hP.sub [] rfl)) rfl rfl hl.1 rfl (lv_room (Nat.le_of_ble_eq_true rfl)) dX11_hiredOf_38 ⟨Nat.zero_le _, Nat.zero_le _⟩) hS hP (fun r38 H locs wr38 hP hS => ?_)
          refine lv_icmp_le (tgt := 46) hx hb dX11_hiredOf_41 (by decide) (fun c41 => ?_) (fun c41 => ?_)
          · exact j46 x4_2 _ _ ls hx4_2 hP hS (lv_sub hl [0, 1, 2, 3] rfl)
          · have h_5 : rg (-2147483648) 2147483646 r38 := r_lt_l_i (nle_i c41) (rg_t r38) (rg_t r30) (by decide)
            have h_6 : rg (-2147483647) 2147483647 r30 := r_lt_r_i (nle_i c41) (rg_t r38) (rg_t r30) (by decide)
            refine lv_iload_n hx hb dX11_hiredOf_44 rfl (lv_at hl 3 rfl) ?_
            refine lv_istore_n (lv' := [(2, .int x4_3), (0, .ref a0), (1, .int p0), (3, .int x4_3)]) hx hb dX11_hiredOf_45 rfl hl (by decide) rfl (fun ls hl => ?_)
            exact j46 x4_3 _ _ ls h_2 hP hS (lv_sub hl [1, 2, 0, 3] rfl)
  exact j4 4294967296 (0 : Int32) (0 : Int32) _ _ ls (ms_e (0 : Int32)) (rg_w (c := 0) (d := 255) (rgn 0 (x := 0) (by decide)) (by decide)) (rg_w (c := 0) (d := 256) (rgn 0 (x := 0) (by decide)) (by decide)) hP hS (lv_sub hl [2, 3, 1, 0] rfl)

set_option maxHeartbeats 4000000 in
set_option maxRecDepth 100000 in
theorem a_X11_deeds (l : Launch) (G : va_G) (ct : Nat → ClassId) (a0 : Nat) (n0_0 : Int32) (a1 : Nat) (a2 : Nat) (a3 : Nat) (a4 : Nat) (a5 : Nat) (n0_6 : Int32) (n0_7 : Int32) (n0_8 : Int32) (n0_9 : Int32) (n0_10 : Int32) (l0_11 : Int64) (n0_12 : Int32) (n0_13 : Int32) (n0_14 : Int32) (n0_15 : Int32) (a6 : Nat) (a7 : Nat) (a8 : Nat) (a9 : Nat) (a10 : Nat) (a11 : Nat) (a12 : Nat) (a13 : Nat) (n0_24 : Int32) (n0_25 : Int32) (n0_26 : Int32) (n0_27 : Int32) (a14 : Nat) (n0_29 : Int32) (n0_30 : Int32) (f6 : Nat → Int32) (f7 : Nat → Int32) (f8 : Nat → Int32) (p0 : Int32) (hp_n0_6 : rg 0 900 n0_6) (hp_f7 : hsI f7) (hp_f8 : psI f8) : Met l yX11_deeds wsX11_deeds ({ frames := 3, cells := 0, slots := 0, locals := 68 }) (va_Pc [.ref a0, .int p0] (wrP G ct [(a0, .inr (11, [.int n0_0, .ref a1, .ref a2, .ref a3, .ref a4, .ref a5, .int n0_6, .int n0_7, .int n0_8, .int n0_9, .int n0_10, .long l0_11, .int n0_12, .int n0_13, .int n0_14, .int n0_15, .ref a6, .ref a7, .ref a8, .ref a9, .ref a10, .ref a11, .ref a12, .ref a13, .int n0_24, .int n0_25, .int n0_26, .int n0_27, .ref a14, .int n0_29, .int n0_30])), (a6, .inl (ct 0, 5, .inl f6)), (a7, .inl (ct 0, 15, .inl f7)), (a8, .inl (ct 0, 200, .inl f8))])) (va_Qi (fun (r : Int32) (u : SU) => (r = 0 → rg 0 2000 p0) ∧ (r = (-1) → rg 0 2000 p0) ∧ (¬ r = (-2) → rg 0 2000 p0) ∧ rg 0 0 (u.1 0) ∧ True) (fun u t => va_P G vwCl ((fun u : SU => [(a0, .inr (11, [.int (u.1 0), .ref a1, .ref a2, .ref a3, .ref a4, .ref a5, .int n0_6, .int n0_7, .int n0_8, .int n0_9, .int n0_10, .long l0_11, .int n0_12, .int n0_13, .int n0_14, .int n0_15, .ref a6, .ref a7, .ref a8, .ref a9, .ref a10, .ref a11, .ref a12, .ref a13, .int n0_24, .int n0_25, .int n0_26, .int n0_27, .ref a14, .int n0_29, .int n0_30])), (a6, .inl (ct 0, 5, .inl f6)), (a7, .inl (ct 0, 15, .inl f7)), (a8, .inl (ct 0, 200, .inl f8))]) u) t.heap) (aset [(a0, .inr (11, [.int n0_0, .ref a1, .ref a2, .ref a3, .ref a4, .ref a5, .int n0_6, .int n0_7, .int n0_8, .int n0_9, .int n0_10, .long l0_11, .int n0_12, .int n0_13, .int n0_14, .int n0_15, .ref a6, .ref a7, .ref a8, .ref a9, .ref a10, .ref a11, .ref a12, .ref a13, .int n0_24, .int n0_25, .int n0_26, .int n0_27, .ref a14, .int n0_29, .int n0_30])), (a6, .inl (ct 0, 5, .inl f6)), (a7, .inl (ct 0, 15, .inl f7)), (a8, .inl (ct 0, 200, .inl f8))])) 0 0 (aset [(a0, .inr (11, [.int n0_0, .ref a1, .ref a2, .ref a3, .ref a4, .ref a5, .int n0_6, .int n0_7, .int n0_8, .int n0_9, .int n0_10, .long l0_11, .int n0_12, .int n0_13, .int n0_14, .int n0_15, .ref a6, .ref a7, .ref a8, .ref a9, .ref a10, .ref a11, .ref a12, .ref a13, .int n0_24, .int n0_25, .int n0_26, .int n0_27, .ref a14, .int n0_29, .int n0_30])), (a6, .inl (ct 0, 5, .inl f6)), (a7, .inl (ct 0, 15, .inl f7)), (a8, .inl (ct 0, 200, .inl f8))]) := by
  refine Met.ofW (cc := cX11_deeds) (maxL := 2) (ret := (some .int)) (by decide) rfl ?_
  intro p e s m args below meth c s₁ B hml hv
  obtain ⟨rfl, hP, hK, hD0⟩ := hv
  have hx := B.exec
  have hb := B.bytes
  have hr := B.returns
  have hts := atoms_spec (ws := wsX11_deeds) B.pre
  have hown : s.vm.findClass RX11 = some m.cls := findClass_of_methodNamed B.named
  have hlocks := B.notSynchronized
  have hD := hD0.aself
  generalize hAe : aset [(a0, .inr (11, [.int n0_0, .ref a1, .ref a2, .ref a3, .ref a4, .ref a5, .int n0_6, .int n0_7, .int n0_8, .int n0_9, .int n0_10, .long l0_11, .int n0_12, .int n0_13, .int n0_14, .int n0_15, .ref a6, .ref a7, .ref a8, .ref a9, .ref a10, .ref a11, .ref a12, .ref a13, .int n0_24, .int n0_25, .int n0_26, .int n0_27, .ref a14, .int n0_29, .int n0_30])), (a6, .inl (ct 0, 5, .inl f6)), (a7, .inl (ct 0, 15, .inl f7)), (a8, .inl (ct 0, 200, .inl f8))] = A at hD ⊢
  have hS : va_S A s.heap s.heap [] := va_S.rf
  have hl := lv_entry ([.ref a0, .int p0]) (n := 2) (Nat.le_of_ble_eq_true rfl)
  rw [lg_entry_eq]
  generalize (lg_sl ([.ref a0, .int p0]) ++ List.replicate (2 - (lg_sl ([.ref a0, .int p0])).length) Slot.unset).toArray = ls at hl ⊢
  have hl : lv_has ls 2 [(0, .ref a0), (1, .int p0)] := hl
  refine lv_aload_n hx hb dX11_deeds_0 rfl (lv_at hl 0 rfl) ?_
  refine lv_iconst (v := 0) hx hb dX11_deeds_1 (by decide) ?_
  refine va_put (D := G) (ci := 11) (v := .int 0) (ty := .int) (C := RX11) (T := TX11) (N := 31) hx hb hts (by decide +kernel) tyX11 tyX11_ok nmX11 hown hK.1 hP hD hS 0 rfl rfl 0 (by decide) (hts (.fieldLink RX11 59 "CardHolderModel" "thrown" "I") (by decide +kernel)) (fun _ h9 => h9) rfl (by decide +kernel) rfl rfl (Nat.le_of_ble_eq_true rfl) dX11_deeds_2 (fun H locs hP hD hS => ?_)
  refine lv_aload_n hx hb dX11_deeds_5 rfl (lv_at hl 0 rfl) ?_
  refine ro_calli (va_runV (As := []) (rest := []) ⟨hx, hb, hml, hown, hts⟩ (a_X11_isCity l G ct a0 (0 : Int32) a1 a2 a3 a4 a5 n0_6 n0_7 n0_8 n0_9 n0_10 l0_11 n0_12 n0_13 n0_14 n0_15 a6 a7 a8 a9 a10 a11 a12 a13 n0_24 n0_25 n0_26 n0_27 a14 n0_29 n0_30 f6 hp_n0_6) (cwV 0 hts gX11_deeds_X11_isCity rfl rfl rfl (by decide +kernel) ⟨Nat.le_of_ble_eq_true rfl, Nat.le_of_ble_eq_true rfl⟩) (ro_preV 11 0 hK (hP.sub [0, 1] rfl) rfl rfl) rfl rfl hl.1 rfl (lv_room (Nat.le_of_ble_eq_true rfl)) dX11_deeds_6 ⟨Nat.zero_le _, Nat.zero_le _⟩) hS hP (fun r6 H locs wr6 hP hS => ?_)
  obtain ⟨p_1, -⟩ := wr6
  refine lv_if_eq (tgt := 39) hx hb dX11_deeds_9 (by decide) (fun c9 => ?_) (fun c9 => ?_)
  · have h_2 : rg 0 0 r6 := r_eq_l_i (e := 0) (f := 0) c9 p_1 (rgn 0 (x := 0) (by decide)) (by decide)
    refine lv_bipush (v := (-2)) hx hb dX11_deeds_39 (by decide) ?_
    exact W.iret (v := (-2)) hx hb hr (fun t ht hW => ⟨⟨(-2), (fun k => ([0] : List Int32).getD k 0, fun k => ([] : List (Nat → Int32)).getD k (fun _ => 0), fun k => ([] : List (Nat → Int64)).getD k (fun _ => 0)), rfl, ⟨(fun hq => absurd hq (rne (rgn (-2) (x := (-2)) (by decide)) (y := 0) (c := 0) (by decide) (by decide))), (fun hq => absurd hq (rne (rgn (-2) (x := (-2)) (by decide)) (y := (-1)) (c := (-1)) (by decide) (by decide))), (fun hq => absurd (req (rgn (-2) (x := (-2)) (by decide)) (y := (-2)) (by decide)) hq), (rgn 0 (x := 0) (by decide)), trivial⟩, hp_at ht hP⟩, hS.F ht⟩) hS.2.2 dX11_deeds_41
  · have h_3 : rg 1 1 r6 := r_ne_lo_i c9 p_1 (by decide) (by decide)
    refine lv_iload_n hx hb dX11_deeds_12 rfl (lv_at hl 1 rfl) ?_
    refine lv_i2l hx hb dX11_deeds_13 rfl ?_
    refine nl_i2l (rg_t p0) (fun z13 hz13 ez13 => ?_)
    refine lv_lconst (v := 0) hx hb dX11_deeds_14 (by decide) ?_
    refine lv_ldc2 (own := RX11) (v := 2000) hx hb hown (hts (.constantLong RX11 329 (2000)) (by decide +kernel)) dX11_deeds_15 ?_
    refine ro_calli (va_runS (As := [.long z13, .long 0, .long 2000]) (rest := []) ⟨hx, hb, hml, hown, hts⟩ (a_X11_in l G ct z13 (0 : Int64) (2000 : Int64)) (va_cwS 3 hts gX11_deeds_X11_in rfl rfl rfl (by decide +kernel) ⟨Nat.le_of_ble_eq_true rfl, Nat.le_of_ble_eq_true rfl⟩) (ro_pre hK (hP.sub [] rfl)) rfl rfl hl.1 rfl (lv_room (Nat.le_of_ble_eq_true rfl)) dX11_deeds_18 ⟨Nat.zero_le _, Nat.zero_le _⟩) hS hP (fun r18 H locs wr18 hP hS => ?_)
    obtain ⟨p_4, p_5, -⟩ := wr18
    refine lv_if_eq (tgt := 39) hx hb dX11_deeds_21 (by decide) (fun c21 => ?_) (fun c21 => ?_)
    · have h_6 : rg 0 0 r18 := r_eq_l_i (e := 0) (f := 0) c21 p_4 (rgn 0 (x := 0) (by decide)) (by decide)
      refine lv_bipush (v := (-2)) hx hb dX11_deeds_39 (by decide) ?_
      exact W.iret (v := (-2)) hx hb hr (fun t ht hW => ⟨⟨(-2), (fun k => ([0] : List Int32).getD k 0, fun k => ([] : List (Nat → Int32)).getD k (fun _ => 0), fun k => ([] : List (Nat → Int64)).getD k (fun _ => 0)), rfl, ⟨(fun hq => absurd hq (rne (rgn (-2) (x := (-2)) (by decide)) (y := 0) (c := 0) (by decide) (by decide))), (fun hq => absurd hq (rne (rgn (-2) (x := (-2)) (by decide)) (y := (-1)) (c := (-1)) (by decide) (by decide))), (fun hq => absurd (req (rgn (-2) (x := (-2)) (by decide)) (y := (-2)) (by decide)) hq), (rgn 0 (x := 0) (by decide)), trivial⟩, hp_at ht hP⟩, hS.F ht⟩) hS.2.2 dX11_deeds_41
    · have h_7 : rg 1 1 r18 := r_ne_lo_i c21 p_4 (by decide) (by decide)
      have h_8 : rl 0 2000 z13 := ((fun hq => in_im (p_5 hq) (rln 0 (x := 0) (by decide)) (rln 2000 (x := 2000) (by decide))) (rne h_7 (y := 0) (c := 0) (by decide) (by decide)))
      have h_9 : rg 0 2000 p0 := bk_li (a := 0) (b := 2000) ez13 h_8 (rg_t p0) (by decide)
      refine lv_aload_n hx hb dX11_deeds_24 rfl (lv_at hl 0 rfl) ?_
      refine lv_aload_n hx hb dX11_deeds_25 rfl (lv_at hl 0 rfl) ?_
      refine lv_iload_n hx hb dX11_deeds_26 rfl (lv_at hl 1 rfl) ?_
      refine ro_calli (va_runV (As := [.int p0]) (rest := [.ref a0]) ⟨hx, hb, hml, hown, hts⟩ (a_X11_hiredOf l G ct a0 (0 : Int32) a1 a2 a3 a4 a5 n0_6 n0_7 n0_8 n0_9 n0_10 l0_11 n0_12 n0_13 n0_14 n0_15 a6 a7 a8 a9 a10 a11 a12 a13 n0_24 n0_25 n0_26 n0_27 a14 n0_29 n0_30 f7 f8 p0 hp_n0_6 hp_f7 hp_f8) (cwV 1 hts gX11_deeds_X11_hiredOf rfl rfl rfl (by decide +kernel) ⟨Nat.le_of_ble_eq_true rfl, Nat.le_of_ble_eq_true rfl⟩) (ro_preV 11 0 hK (hP.sub [0, 2, 3] rfl) rfl rfl) rfl rfl hl.1 rfl (lv_room (Nat.le_of_ble_eq_true rfl)) dX11_deeds_27 ⟨Nat.zero_le _, Nat.zero_le _⟩) hS hP (fun r27 H locs wr27 hP hS => ?_)
      obtain ⟨p_10, -⟩ := wr27
      refine ro_calli (va_runV (As := [.int r27]) (rest := []) ⟨hx, hb, hml, hown, hts⟩ (a_X11_doneBy l G ct a0 (0 : Int32) a1 a2 a3 a4 a5 n0_6 n0_7 n0_8 n0_9 n0_10 l0_11 n0_12 n0_13 n0_14 n0_15 a6 a7 a8 a9 a10 a11 a12 a13 n0_24 n0_25 n0_26 n0_27 a14 n0_29 n0_30 f7 f8 r27 hp_n0_6 hp_f7 hp_f8) (cwV 1 hts gX11_deeds_X11_doneBy rfl rfl rfl (by decide +kernel) ⟨Nat.le_of_ble_eq_true rfl, Nat.le_of_ble_eq_true rfl⟩) (ro_preV 11 0 hK (hP.sub [0, 2, 3] rfl) rfl rfl) rfl rfl hl.1 rfl (lv_room (Nat.le_of_ble_eq_true rfl)) dX11_deeds_30 ⟨Nat.zero_le _, Nat.zero_le _⟩) hS hP (fun r30 H locs wr30 hP hS => ?_)
      refine ro_calli (va_runS (As := [.int r30]) (rest := []) ⟨hx, hb, hml, hown, hts⟩ (a_X11_sizeOf l G ct r30) (va_cwS 1 hts gX11_deeds_X11_sizeOf rfl rfl rfl (by decide +kernel) ⟨Nat.le_of_ble_eq_true rfl, Nat.le_of_ble_eq_true rfl⟩) (ro_pre hK (hP.sub [] rfl)) rfl rfl hl.1 rfl (lv_room (Nat.le_of_ble_eq_true rfl)) dX11_deeds_33 ⟨Nat.zero_le _, Nat.zero_le _⟩) hS hP (fun r33 H locs wr33 hP hS => ?_)
      refine lv_goto (tgt := 41) hx hb dX11_deeds_36 (by decide) ?_
      exact W.iret (v := r33) hx hb hr (fun t ht hW => ⟨⟨r33, (fun k => ([0] : List Int32).getD k 0, fun k => ([] : List (Nat → Int32)).getD k (fun _ => 0), fun k => ([] : List (Nat → Int64)).getD k (fun _ => 0)), rfl, ⟨(fun _ => h_9), (fun _ => h_9), (fun _ => h_9), (rgn 0 (x := 0) (by decide)), trivial⟩, hp_at ht hP⟩, hS.F ht⟩) hS.2.2 dX11_deeds_41

set_option maxHeartbeats 4000000 in
set_option maxRecDepth 100000 in
theorem a_X11_hired (l : Launch) (G : va_G) (ct : Nat → ClassId) (a0 : Nat) (n0_0 : Int32) (a1 : Nat) (a2 : Nat) (a3 : Nat) (a4 : Nat) (a5 : Nat) (n0_6 : Int32) (n0_7 : Int32) (n0_8 : Int32) (n0_9 : Int32) (n0_10 : Int32) (l0_11 : Int64) (n0_12 : Int32) (n0_13 : Int32) (n0_14 : Int32) (n0_15 : Int32) (a6 : Nat) (a7 : Nat) (a8 : Nat) (a9 : Nat) (a10 : Nat) (a11 : Nat) (a12 : Nat) (a13 : Nat) (n0_24 : Int32) (n0_25 : Int32) (n0_26 : Int32) (n0_27 : Int32) (a14 : Nat) (n0_29 : Int32) (n0_30 : Int32) (f6 : Nat → Int32) (f7 : Nat → Int32) (f8 : Nat → Int32) (p0 : Int32) (hp_n0_6 : rg 0 900 n0_6) (hp_f7 : hsI f7) (hp_f8 : psI f8) : Met l yX11_hired wsX11_hired ({ frames := 3, cells := 0, slots := 0, locals := 68 }) (va_Pc [.ref a0, .int p0] (wrP G ct [(a0, .inr (11, [.int n0_0, .ref a1, .ref a2, .ref a3, .ref a4, .ref a5, .int n0_6, .int n0_7, .int n0_8, .int n0_9, .int n0_10, .long l0_11, .int n0_12, .int n0_13, .int n0_14, .int n0_15, .ref a6, .ref a7, .ref a8, .ref a9, .ref a10, .ref a11, .ref a12, .ref a13, .int n0_24, .int n0_25, .int n0_26, .int n0_27, .ref a14, .int n0_29, .int n0_30])), (a6, .inl (ct 0, 5, .inl f6)), (a7, .inl (ct 0, 15, .inl f7)), (a8, .inl (ct 0, 200, .inl f8))])) (va_Qi (fun (r : Int32) (u : SU) => rg (-2) 255 r ∧ (r = 0 → rg 0 2000 p0) ∧ (¬ r = (-2) → rg 0 2000 p0) ∧ rg 0 0 (u.1 0) ∧ True) (fun u t => va_P G vwCl ((fun u : SU => [(a0, .inr (11, [.int (u.1 0), .ref a1, .ref a2, .ref a3, .ref a4, .ref a5, .int n0_6, .int n0_7, .int n0_8, .int n0_9, .int n0_10, .long l0_11, .int n0_12, .int n0_13, .int n0_14, .int n0_15, .ref a6, .ref a7, .ref a8, .ref a9, .ref a10, .ref a11, .ref a12, .ref a13, .int n0_24, .int n0_25, .int n0_26, .int n0_27, .ref a14, .int n0_29, .int n0_30])), (a6, .inl (ct 0, 5, .inl f6)), (a7, .inl (ct 0, 15, .inl f7)), (a8, .inl (ct 0, 200, .inl f8))]) u) t.heap) (aset [(a0, .inr (11, [.int n0_0, .ref a1, .ref a2, .ref a3, .ref a4, .ref a5, .int n0_6, .int n0_7, .int n0_8, .int n0_9, .int n0_10, .long l0_11, .int n0_12, .int n0_13, .int n0_14, .int n0_15, .ref a6, .ref a7, .ref a8, .ref a9, .ref a10, .ref a11, .ref a12, .ref a13, .int n0_24, .int n0_25, .int n0_26, .int n0_27, .ref a14, .int n0_29, .int n0_30])), (a6, .inl (ct 0, 5, .inl f6)), (a7, .inl (ct 0, 15, .inl f7)), (a8, .inl (ct 0, 200, .inl f8))])) 0 0 (aset [(a0, .inr (11, [.int n0_0, .ref a1, .ref a2, .ref a3, .ref a4, .ref a5, .int n0_6, .int n0_7, .int n0_8, .int n0_9, .int n0_10, .long l0_11, .int n0_12, .int n0_13, .int n0_14, .int n0_15, .ref a6, .ref a7, .ref a8, .ref a9, .ref a10, .ref a11, .ref a12, .ref a13, .int n0_24, .int n0_25, .int n0_26, .int n0_27, .ref a14, .int n0_29, .int n0_30])), (a6, .inl (ct 0, 5, .inl f6)), (a7, .inl (ct 0, 15, .inl f7)), (a8, .inl (ct 0, 200, .inl f8))]) := by
  refine Met.ofW (cc := cX11_hired) (maxL := 2) (ret := (some .int)) (by decide) rfl ?_
  intro p e s m args below meth c s₁ B hml hv
  obtain ⟨rfl, hP, hK, hD0⟩ := hv
  have hx := B.exec
  have hb := B.bytes
  have hr := B.returns
  have hts := atoms_spec (ws := wsX11_hired) B.pre
  have hown : s.vm.findClass RX11 = some m.cls := findClass_of_methodNamed B.named
  have hlocks := B.notSynchronized
  have hD := hD0.aself
  generalize hAe : aset [(a0, .inr (11, [.int n0_0, .ref a1, .ref a2, .ref a3, .ref a4, .ref a5, .int n0_6, .int n0_7, .int n0_8, .int n0_9, .int n0_10, .long l0_11, .int n0_12, .int n0_13, .int n0_14, .int n0_15, .ref a6, .ref a7, .ref a8, .ref a9, .ref a10, .ref a11, .ref a12, .ref a13, .int n0_24, .int n0_25, .int n0_26, .int n0_27, .ref a14, .int n0_29, .int n0_30])), (a6, .inl (ct 0, 5, .inl f6)), (a7, .inl (ct 0, 15, .inl f7)), (a8, .inl (ct 0, 200, .inl f8))] = A at hD ⊢
  have hS : va_S A s.heap s.heap [] := va_S.rf
  have hl := lv_entry ([.ref a0, .int p0]) (n := 2) (Nat.le_of_ble_eq_true rfl)
  rw [lg_entry_eq]
  generalize (lg_sl ([.ref a0, .int p0]) ++ List.replicate (2 - (lg_sl ([.ref a0, .int p0])).length) Slot.unset).toArray = ls at hl ⊢
  have hl : lv_has ls 2 [(0, .ref a0), (1, .int p0)] := hl
  refine lv_aload_n hx hb dX11_hired_0 rfl (lv_at hl 0 rfl) ?_
  refine lv_iconst (v := 0) hx hb dX11_hired_1 (by decide) ?_
  refine va_put (D := G) (ci := 11) (v := .int 0) (ty := .int) (C := RX11) (T := TX11) (N := 31) hx hb hts (by decide +kernel) tyX11 tyX11_ok nmX11 hown hK.1 hP hD hS 0 rfl rfl 0 (by decide) (hts (.fieldLink RX11 59 "CardHolderModel" "thrown" "I") (by decide +kernel)) (fun _ h9 => h9) rfl (by decide +kernel) rfl rfl (Nat.le_of_ble_eq_true rfl) dX11_hired_2 (fun H locs hP hD hS => ?_)
  refine lv_aload_n hx hb dX11_hired_5 rfl (lv_at hl 0 rfl) ?_
  refine ro_calli (va_runV (As := []) (rest := []) ⟨hx, hb, hml, hown, hts⟩ (a_X11_isCity l G ct a0 (0 : Int32) a1 a2 a3 a4 a5 n0_6 n0_7 n0_8 n0_9 n0_10 l0_11 n0_12 n0_13 n0_14 n0_15 a6 a7 a8 a9 a10 a11 a12 a13 n0_24 n0_25 n0_26 n0_27 a14 n0_29 n0_30 f6 hp_n0_6) (cwV 0 hts gX11_hired_X11_isCity rfl rfl rfl (by decide +kernel) ⟨Nat.le_of_ble_eq_true rfl, Nat.le_of_ble_eq_true rfl⟩) (ro_preV 11 0 hK (hP.sub [0, 1] rfl) rfl rfl) rfl rfl hl.1 rfl (lv_room (Nat.le_of_ble_eq_true rfl)) dX11_hired_6 ⟨Nat.zero_le _, Nat.zero_le _⟩) hS hP (fun r6 H locs wr6 hP hS => ?_)
  obtain ⟨p_1, -⟩ := wr6
  refine lv_if_eq (tgt := 32) hx hb dX11_hired_9 (by decide) (fun c9 => ?_) (fun c9 => ?_)
  · have h_2 : rg 0 0 r6 := r_eq_l_i (e := 0) (f := 0) c9 p_1 (rgn 0 (x := 0) (by decide)) (by decide)
    refine lv_bipush (v := (-2)) hx hb dX11_hired_32 (by decide) ?_
    exact W.iret (v := (-2)) hx hb hr (fun t ht hW => ⟨⟨(-2), (fun k => ([0] : List Int32).getD k 0, fun k => ([] : List (Nat → Int32)).getD k (fun _ => 0), fun k => ([] : List (Nat → Int64)).getD k (fun _ => 0)), rfl, ⟨(rg_w (c := (-2)) (d := 255) (rgn (-2) (x := (-2)) (by decide)) (by decide)), (fun hq => absurd hq (rne (rgn (-2) (x := (-2)) (by decide)) (y := 0) (c := 0) (by decide) (by decide))), (fun hq => absurd (req (rgn (-2) (x := (-2)) (by decide)) (y := (-2)) (by decide)) hq), (rgn 0 (x := 0) (by decide)), trivial⟩, hp_at ht hP⟩, hS.F ht⟩) hS.2.2 dX11_hired_34
  · have h_3 : rg 1 1 r6 := r_ne_lo_i c9 p_1 (by decide) (by decide)
    refine lv_iload_n hx hb dX11_hired_12 rfl (lv_at hl 1 rfl) ?_
    refine lv_i2l hx hb dX11_hired_13 rfl ?_
    refine nl_i2l (rg_t p0) (fun z13 hz13 ez13 => ?_)
    refine lv_lconst (v := 0) hx hb dX11_hired_14 (by decide) ?_
    refine lv_ldc2 (own := RX11) (v := 2000) hx hb hown (hts (.constantLong RX11 329 (2000)) (by decide +kernel)) dX11_hired_15 ?_
    refine ro_calli (va_runS (As := [.long z13, .long 0, .long 2000]) (rest := []) ⟨hx, hb, hml, hown, hts⟩ (a_X11_in l G ct z13 (0 : Int64) (2000 : Int64)) (va_cwS 3 hts gX11_hired_X11_in rfl rfl rfl (by decide +kernel) ⟨Nat.le_of_ble_eq_true rfl, Nat.le_of_ble_eq_true rfl⟩) (ro_pre hK (hP.sub [] rfl)) rfl rfl hl.1 rfl (lv_room (Nat.le_of_ble_eq_true rfl)) dX11_hired_18 ⟨Nat.zero_le _, Nat.zero_le _⟩) hS hP (fun r18 H locs wr18 hP hS => ?_)
    obtain ⟨p_4, p_5, -⟩ := wr18
    refine lv_if_eq (tgt := 32) hx hb dX11_hired_21 (by decide) (fun c21 => ?_) (fun c21 => ?_)
    · have h_6 : rg 0 0 r18 := r_eq_l_i (e := 0) (f := 0) c21 p_4 (rgn 0 (x := 0) (by decide)) (by decide)
      refine lv_bipush (v := (-2)) hx hb dX11_hired_32 (by decide) ?_
      exact W.iret (v := (-2)) hx hb hr (fun t ht hW => ⟨⟨(-2), (fun k => ([0] : List Int32).getD k 0, fun k => ([] : List (Nat → Int32)).getD k (fun _ => 0), fun k => ([] : List (Nat → Int64)).getD k (fun _ => 0)), rfl, ⟨(rg_w (c := (-2)) (d := 255) (rgn (-2) (x := (-2)) (by decide)) (by decide)), (fun hq => absurd hq (rne (rgn (-2) (x := (-2)) (by decide)) (y := 0) (c := 0) (by decide) (by decide))), (fun hq => absurd (req (rgn (-2) (x := (-2)) (by decide)) (y := (-2)) (by decide)) hq), (rgn 0 (x := 0) (by decide)), trivial⟩, hp_at ht hP⟩, hS.F ht⟩) hS.2.2 dX11_hired_34
    · have h_7 : rg 1 1 r18 := r_ne_lo_i c21 p_4 (by decide) (by decide)
      have h_8 : rl 0 2000 z13 := ((fun hq => in_im (p_5 hq) (rln 0 (x := 0) (by decide)) (rln 2000 (x := 2000) (by decide))) (rne h_7 (y := 0) (c := 0) (by decide) (by decide)))
      have h_9 : rg 0 2000 p0 := bk_li (a := 0) (b := 2000) ez13 h_8 (rg_t p0) (by decide)
      refine lv_aload_n hx hb dX11_hired_24 rfl (lv_at hl 0 rfl) ?_
      refine lv_iload_n hx hb dX11_hired_25 rfl (lv_at hl 1 rfl) ?_
      refine ro_calli (va_runV (As := [.int p0]) (rest := []) ⟨hx, hb, hml, hown, hts⟩ (a_X11_hiredOf l G ct a0 (0 : Int32) a1 a2 a3 a4 a5 n0_6 n0_7 n0_8 n0_9 n0_10 l0_11 n0_12 n0_13 n0_14 n0_15 a6 a7 a8 a9 a10 a11 a12 a13 n0_24 n0_25 n0_26 n0_27 a14 n0_29 n0_30 f7 f8 p0 hp_n0_6 hp_f7 hp_f8) (cwV 1 hts gX11_hired_X11_hiredOf rfl rfl rfl (by decide +kernel) ⟨Nat.le_of_ble_eq_true rfl, Nat.le_of_ble_eq_true rfl⟩) (ro_preV 11 0 hK (hP.sub [0, 2, 3] rfl) rfl rfl) rfl rfl hl.1 rfl (lv_room (Nat.le_of_ble_eq_true rfl)) dX11_hired_26 ⟨Nat.zero_le _, Nat.zero_le _⟩) hS hP (fun r26 H locs wr26 hP hS => ?_)
      obtain ⟨p_10, -⟩ := wr26
      refine lv_goto (tgt := 34) hx hb dX11_hired_29 (by decide) ?_
      exact W.iret (v := r26) hx hb hr (fun t ht hW => ⟨⟨r26, (fun k => ([0] : List Int32).getD k 0, fun k => ([] : List (Nat → Int32)).getD k (fun _ => 0), fun k => ([] : List (Nat → Int64)).getD k (fun _ => 0)), rfl, ⟨(rg_w (c := (-2)) (d := 255) p_10 (by decide)), (fun _ => h_9), (fun _ => h_9), (rgn 0 (x := 0) (by decide)), trivial⟩, hp_at ht hP⟩, hS.F ht⟩) hS.2.2 dX11_hired_34

set_option maxHeartbeats 4000000 in
set_option maxRecDepth 100000 in
theorem a_X11_whyNot (l : Launch) (G : va_G) (ct : Nat → ClassId) (a0 : Nat) (n0_0 : Int32) (a1 : Nat) (a2 : Nat) (a3 : Nat) (a4 : Nat) (a5 : Nat) (n0_6 : Int32) (n0_7 : Int32) (n0_8 : Int32) (n0_9 : Int32) (n0_10 : Int32) (l0_11 : Int64) (n0_12 : Int32) (n0_13 : Int32) (n0_14 : Int32) (n0_15 : Int32) (a6 : Nat) (a7 : Nat) (a8 : Nat) (a9 : Nat) (a10 : Nat) (a11 : Nat) (a12 : Nat) (a13 : Nat) (n0_24 : Int32) (n0_25 : Int32) (n0_26 : Int32) (n0_27 : Int32) (a14 : Nat) (n0_29 : Int32) (n0_30 : Int32) (f1 : Nat → Int32) (f2 : Nat → Int32) (f3 : Nat → Int64) (f6 : Nat → Int32) (p0 : Int32) (hp_f2 : ar 0 60 f2) (hp_n0_6 : rg 0 900 n0_6) : Met l yX11_whyNot wsX11_whyNot ({ frames := 2, cells := 0, slots := 0, locals := 46 }) (va_Pc [.ref a0, .int p0] (roP G ct [(a0, .inr (11, [.int n0_0, .ref a1, .ref a2, .ref a3, .ref a4, .ref a5, .int n0_6, .int n0_7, .int n0_8, .int n0_9, .int n0_10, .long l0_11, .int n0_12, .int n0_13, .int n0_14, .int n0_15, .ref a6, .ref a7, .ref a8, .ref a9, .ref a10, .ref a11, .ref a12, .ref a13, .int n0_24, .int n0_25, .int n0_26, .int n0_27, .ref a14, .int n0_29, .int n0_30])), (a1, .inl (ct 0, 4, .inl f1)), (a2, .inl (ct 0, 4, .inl f2)), (a3, .inl (ct 3, 240, .inr (.inl f3))), (a6, .inl (ct 0, 5, .inl f6))])) (roQ (fun r => rg (-6) 0 r ∧ (r = 0 → rg 0 3 p0) ∧ (¬ r = (-2) → rg 0 3 p0) ∧ True)) 0 0 no := by
  refine Met.ofW (cc := cX11_whyNot) (maxL := 3) (ret := (some .int)) (by decide) rfl ?_
  intro p e s m args below meth c s₁ B hml hv
  obtain ⟨rfl, hP, hK⟩ := hv
  have hx := B.exec
  have hb := B.bytes
  have hr := B.returns
  have hts := atoms_spec (ws := wsX11_whyNot) B.pre
  have hown : s.vm.findClass RX11 = some m.cls := findClass_of_methodNamed B.named
  have hlocks := B.notSynchronized
  have hS : va_S no s.heap s.heap [] := va_S.rf
  have hl := lv_entry ([.ref a0, .int p0]) (n := 3) (Nat.le_of_ble_eq_true rfl)
  rw [lg_entry_eq]
  generalize (lg_sl ([.ref a0, .int p0]) ++ List.replicate (3 - (lg_sl ([.ref a0, .int p0])).length) Slot.unset).toArray = ls at hl ⊢
  have hl : lv_has ls 3 [(0, .ref a0), (1, .int p0)] := hl
  refine lv_iload_n hx hb dX11_whyNot_0 rfl (lv_at hl 1 rfl) ?_
  refine ro_calli (va_runS (As := [.int p0]) (rest := []) ⟨hx, hb, hml, hown, hts⟩ (a_X11_isSlot l G ct p0) (va_cwS 1 hts gX11_whyNot_X11_isSlot rfl rfl rfl (by decide +kernel) ⟨Nat.le_of_ble_eq_true rfl, Nat.le_of_ble_eq_true rfl⟩) (ro_pre hK (hP.sub [] rfl)) rfl rfl hl.1 rfl (lv_room (Nat.le_of_ble_eq_true rfl)) dX11_whyNot_1 ⟨Nat.zero_le _, Nat.zero_le _⟩) hS hP (fun r1 H locs wr1 hP hS => ?_)
  obtain ⟨p_1, p_2, -⟩ := wr1
  refine lv_if_eq (tgt := 14) hx hb dX11_whyNot_4 (by decide) (fun c4 => ?_) (fun c4 => ?_)
  · have h_3 : rg 0 0 r1 := r_eq_l_i (e := 0) (f := 0) c4 p_1 (rgn 0 (x := 0) (by decide)) (by decide)
    refine lv_bipush (v := (-2)) hx hb dX11_whyNot_14 (by decide) ?_
    exact W.iret (v := (-2)) hx hb hr (fun t ht hW => ⟨⟨(-2), (), rfl, ⟨(rg_w (c := (-6)) (d := 0) (rgn (-2) (x := (-2)) (by decide)) (by decide)), (fun hq => absurd hq (rne (rgn (-2) (x := (-2)) (by decide)) (y := 0) (c := 0) (by decide) (by decide))), (fun hq => absurd (req (rgn (-2) (x := (-2)) (by decide)) (y := (-2)) (by decide)) hq), trivial⟩, trivial⟩, hS.F ht⟩) hS.2.2 dX11_whyNot_16
  · have h_4 : rg 1 1 r1 := r_ne_lo_i c4 p_1 (by decide) (by decide)
    have h_5 : rg 0 3 p0 := (p_2 (rne h_4 (y := 0) (c := 0) (by decide) (by decide)))
    refine lv_aload_n hx hb dX11_whyNot_7 rfl (lv_at hl 0 rfl) ?_
    refine ro_calli (va_runV (As := []) (rest := []) ⟨hx, hb, hml, hown, hts⟩ (a_X11_isCity l G ct a0 n0_0 a1 a2 a3 a4 a5 n0_6 n0_7 n0_8 n0_9 n0_10 l0_11 n0_12 n0_13 n0_14 n0_15 a6 a7 a8 a9 a10 a11 a12 a13 n0_24 n0_25 n0_26 n0_27 a14 n0_29 n0_30 f6 hp_n0_6) (cwV 0 hts gX11_whyNot_X11_isCity rfl rfl rfl (by decide +kernel) ⟨Nat.le_of_ble_eq_true rfl, Nat.le_of_ble_eq_true rfl⟩) (ro_preV 11 0 hK (hP.sub [0, 4] rfl) rfl rfl) rfl rfl hl.1 rfl (lv_room (Nat.le_of_ble_eq_true rfl)) dX11_whyNot_8 ⟨Nat.zero_le _, Nat.zero_le _⟩) hS hP (fun r8 H locs wr8 hP hS => ?_)
    obtain ⟨p_6, -⟩ := wr8
    refine lv_if_ne (tgt := 17) hx hb dX11_whyNot_11 (by decide) (fun c11 => ?_) (fun c11 => ?_)
    · have h_7 : rg 1 1 r8 := r_ne_lo_i c11 p_6 (by decide) (by decide)
      refine lv_aload_n hx hb dX11_whyNot_17 rfl (lv_at hl 0 rfl) ?_
      refine va_get (D := G) (ci := 11) (v := .ref a1) (C := RX11) (T := TX11) (N := 31) hx hb hts (by decide +kernel) hown hK.1 hP 0 rfl rfl 1 (by decide) (hts (.fieldLink RX11 7 "CardHolderModel" "width" "[I") (by decide +kernel)) (fun _ h9 => h9) rfl dX11_whyNot_18 ?_
      refine lv_iload_n hx hb dX11_whyNot_21 rfl (lv_at hl 1 rfl) ?_
      refine va_iald hx hb hK.1 hP 1 0 rfl rfl (in_rg h_5 (by decide)) dX11_whyNot_22 ?_
      refine lv_topi (fun z22 gz22 => ?_)
      refine lv_iconst (v := (-1)) hx hb dX11_whyNot_23 (by decide) ?_
      refine lv_icmp_ne (tgt := 30) hx hb dX11_whyNot_24 (by decide) (fun c24 => ?_) (fun c24 => ?_)
      · refine lv_iconst (v := 0) hx hb dX11_whyNot_30 (by decide) ?_
        refine lv_istore_n (lv' := [(2, .int 0), (0, .ref a0), (1, .int p0)]) hx hb dX11_whyNot_31 rfl hl (by decide) rfl (fun ls hl => ?_)
        have j32 : ∀ (n : Nat) (x32_2 : Int32) (H : Heap) (locs : List Loc) (ls : Array Slot), 2147483648 ≤ x32_2.toInt + (n : Int) → rg 0 60 x32_2 → va_P G vwCl [(a0, .inr (11, [.int n0_0, .ref a1, .ref a2, .ref a3, .ref a4, .ref a5, .int n0_6, .int n0_7, .int n0_8, .int n0_9, .int n0_10, .long l0_11, .int n0_12, .int n0_13, .int n0_14, .int n0_15, .ref a6, .ref a7, .ref a8, .ref a9, .ref a10, .ref a11, .ref a12, .ref a13, .int n0_24, .int n0_25, .int n0_26, .int n0_27, .ref a14, .int n0_29, .int n0_30])), (a1, .inl (ct 0, 4, .inl f1)), (a2, .inl (ct 0, 4, .inl f2)), (a3, .inl (ct 3, 240, .inr (.inl f3))), (a6, .inl (ct 0, 5, .inl f6))] H → va_S no s.heap H locs → lv_has ls 3 [(0, .ref a0), (1, .int p0), (2, .int x32_2)] → W p l e (headSpec wsX11_whyNot ({ frames := 2, cells := 0, slots := 0, locals := 46 })).room s m ([.ref a0, .int p0] : List Value).toArray below meth c H locs 0 0 (MQ below (roQ (fun r => rg (-6) 0 r ∧ (r = 0 → rg 0 3 p0) ∧ (¬ r = (-2) → rg 0 3 p0) ∧ True)) ([.ref a0, .int p0] : List Value).toArray s 0 0 no) (F0 m 32 ls []) := by
          intro n
          induction n with
          | zero => intro x32_2 H locs ls hn32 hx32_2 hP hS hl; exact absurd hn32 (by have := Int32.toInt_lt x32_2; have := Int32.le_toInt x32_2; omega)
          | succ n ih32 =>
            intro x32_2 H locs ls hn32 hx32_2 hP hS hl
            refine lv_iload_n hx hb dX11_whyNot_32 rfl (lv_at hl 2 rfl) ?_
            refine lv_aload_n hx hb dX11_whyNot_33 rfl (lv_at hl 0 rfl) ?_
            refine va_get (D := G) (ci := 11) (v := .ref a2) (C := RX11) (T := TX11) (N := 31) hx hb hts (by decide +kernel) hown hK.1 hP 0 rfl rfl 2 (by decide) (hts (.fieldLink RX11 13 "CardHolderModel" "many" "[I") (by decide +kernel)) (fun _ h9 => h9) rfl dX11_whyNot_34 ?_
            refine lv_iload_n hx hb dX11_whyNot_37 rfl (lv_at hl 1 rfl) ?_
            refine va_iald hx hb hK.1 hP 2 0 rfl rfl (in_rg h_5 (by decide)) dX11_whyNot_38 ?_
            refine lv_topi (fun z38 gz38 => ?_)
            have hz38 : rg 0 60 z38 := by rw [gz38]; exact hp_f2 _
            refine lv_icmp_ge (tgt := 68) hx hb dX11_whyNot_39 (by decide) (fun c39 => ?_) (fun c39 => ?_)
            · refine lv_iconst (v := 0) hx hb dX11_whyNot_68 (by decide) ?_
              exact W.iret (v := 0) hx hb hr (fun t ht hW => ⟨⟨0, (), rfl, ⟨(rg_w (c := (-6)) (d := 0) (rgn 0 (x := 0) (by decide)) (by decide)), (fun _ => h_5), (fun _ => h_5), trivial⟩, trivial⟩, hS.F ht⟩) hS.2.2 dX11_whyNot_69
            · have h_8 : rg 0 59 x32_2 := r_lt_l_i (nle_i c39) hx32_2 hz38 (by decide)
              have h_9 : rg 1 60 z38 := r_lt_r_i (nle_i c39) hx32_2 hz38 (by decide)
              refine lv_aload_n hx hb dX11_whyNot_42 rfl (lv_at hl 0 rfl) ?_
              refine va_get (D := G) (ci := 11) (v := .ref a3) (C := RX11) (T := TX11) (N := 31) hx hb hts (by decide +kernel) hown hK.1 hP 0 rfl rfl 3 (by decide) (hts (.fieldLink RX11 16 "CardHolderModel" "cells" "[J") (by decide +kernel)) (fun _ h9 => h9) rfl dX11_whyNot_43 ?_
              refine lv_bipush (v := 60) hx hb dX11_whyNot_46 (by decide) ?_
              refine lv_iload_n hx hb dX11_whyNot_48 rfl (lv_at hl 1 rfl) ?_
              refine lv_imul hx hb dX11_whyNot_49 ?_
              refine nm_mul (e1 := 0) (f := 180) (rgn 60 (x := 60) (by decide)) h_5 (by decide) (fun z49 hz49 ez49 => ?_)
              refine lv_iload_n hx hb dX11_whyNot_50 rfl (lv_at hl 2 rfl) ?_
              refine lv_iadd hx hb dX11_whyNot_51 ?_
              refine nm_add (e1 := 0) (f := 239) hz49 h_8 (by decide) (fun z51 hz51 ez51 => ?_)
              refine va_lald hx hb hK.1 hP 3 3 rfl rfl (in_rg hz51 (by decide)) dX11_whyNot_52 ?_
              refine lv_topl (fun z52 gz52 => ?_)
              refine ro_calli (va_runS (As := [.long z52]) (rest := []) ⟨hx, hb, hml, hown, hts⟩ (a_X11_isDeed l G ct z52) (va_cwS 1 hts gX11_whyNot_X11_isDeed rfl rfl rfl (by decide +kernel) ⟨Nat.le_of_ble_eq_true rfl, Nat.le_of_ble_eq_true rfl⟩) (ro_pre hK (hP.sub [] rfl)) rfl rfl hl.1 rfl (lv_room (Nat.le_of_ble_eq_true rfl)) dX11_whyNot_53 ⟨Nat.zero_le _, Nat.zero_le _⟩) hS hP (fun r53 H locs wr53 hP hS => ?_)
              obtain ⟨p_10, p_11, -⟩ := wr53
              refine lv_if_ne (tgt := 62) hx hb dX11_whyNot_56 (by decide) (fun c56 => ?_) (fun c56 => ?_)
              · have h_12 : rg 1 1 r53 := r_ne_lo_i c56 p_10 (by decide) (by decide)
                have h_13 : rl 0 5 z52 := (p_11 (rne h_12 (y := 0) (c := 0) (by decide) (by decide)))
                obtain ⟨z62, qz62⟩ : ∃ y : Int32, y = x32_2 + Int32.ofInt 1 := ⟨_, rfl⟩
                obtain ⟨hz62, ez62⟩ := inc_z (e := 1) (f := 60) h_8 qz62 (by decide)
                refine lv_iinc (v := z62) (lv' := [(2, .int z62), (0, .ref a0), (1, .int p0)]) hx hb dX11_whyNot_62 hl (k := 2) rfl (qz62.symm) (by decide) rfl (fun ls hl => ?_)
                refine lv_goto (tgt := 32) hx hb dX11_whyNot_65 (by decide) ?_
                exact ih32 z62 _ _ ls (by have q := hn32; have := ez62; omega) (rg_w (c := 0) (d := 60) hz62 (by decide)) hP hS (lv_sub hl [1, 2, 0] rfl)
              · have h_14 : rg 0 0 r53 := r_eq_l_i (e := 0) (f := 0) c56 p_10 (rgn 0 (x := 0) (by decide)) (by decide)
                refine lv_bipush (v := (-2)) hx hb dX11_whyNot_59 (by decide) ?_
                exact W.iret (v := (-2)) hx hb hr (fun t ht hW => ⟨⟨(-2), (), rfl, ⟨(rg_w (c := (-6)) (d := 0) (rgn (-2) (x := (-2)) (by decide)) (by decide)), (fun _ => h_5), (fun _ => h_5), trivial⟩, trivial⟩, hS.F ht⟩) hS.2.2 dX11_whyNot_61
        exact j32 4294967296 (0 : Int32) _ _ ls (ms_e (0 : Int32)) (rg_w (c := 0) (d := 60) (rgn 0 (x := 0) (by decide)) (by decide)) hP hS (lv_sub hl [1, 2, 0] rfl)
      · have h_15 : rg (-1) (-1) z22 := r_eq_l_i (e := (-1)) (f := (-1)) c24 (rg_t z22) (rgn (-1) (x := (-1)) (by decide)) (by decide)
        refine lv_bipush (v := (-6)) hx hb dX11_whyNot_27 (by decide) ?_
        exact W.iret (v := (-6)) hx hb hr (fun t ht hW => ⟨⟨(-6), (), rfl, ⟨(rg_w (c := (-6)) (d := 0) (rgn (-6) (x := (-6)) (by decide)) (by decide)), (fun _ => h_5), (fun _ => h_5), trivial⟩, trivial⟩, hS.F ht⟩) hS.2.2 dX11_whyNot_29
    · have h_16 : rg 0 0 r8 := r_eq_l_i (e := 0) (f := 0) c11 p_6 (rgn 0 (x := 0) (by decide)) (by decide)
      refine lv_bipush (v := (-2)) hx hb dX11_whyNot_14 (by decide) ?_
      exact W.iret (v := (-2)) hx hb hr (fun t ht hW => ⟨⟨(-2), (), rfl, ⟨(rg_w (c := (-6)) (d := 0) (rgn (-2) (x := (-2)) (by decide)) (by decide)), (fun _ => h_5), (fun _ => h_5), trivial⟩, trivial⟩, hS.F ht⟩) hS.2.2 dX11_whyNot_16

set_option maxHeartbeats 4000000 in
set_option maxRecDepth 100000 in
theorem a_X11_wishing (l : Launch) (G : va_G) (ct : Nat → ClassId) (a0 : Nat) (n0_0 : Int32) (a1 : Nat) (a2 : Nat) (a3 : Nat) (a4 : Nat) (a5 : Nat) (n0_6 : Int32) (n0_7 : Int32) (n0_8 : Int32) (n0_9 : Int32) (n0_10 : Int32) (l0_11 : Int64) (n0_12 : Int32) (n0_13 : Int32) (n0_14 : Int32) (n0_15 : Int32) (a6 : Nat) (a7 : Nat) (a8 : Nat) (a9 : Nat) (a10 : Nat) (a11 : Nat) (a12 : Nat) (a13 : Nat) (n0_24 : Int32) (n0_25 : Int32) (n0_26 : Int32) (n0_27 : Int32) (a14 : Nat) (n0_29 : Int32) (n0_30 : Int32) (f7 : Nat → Int32) (f8 : Nat → Int32) (p0 : Int32) (hp_n0_6 : rg 0 900 n0_6) (hp_f7 : hsI f7) (hp_f8 : psI f8) : Met l yX11_wishing wsX11_wishing ({ frames := 1, cells := 0, slots := 0, locals := 22 }) (va_Pc [.ref a0, .int p0] (roP G ct [(a0, .inr (11, [.int n0_0, .ref a1, .ref a2, .ref a3, .ref a4, .ref a5, .int n0_6, .int n0_7, .int n0_8, .int n0_9, .int n0_10, .long l0_11, .int n0_12, .int n0_13, .int n0_14, .int n0_15, .ref a6, .ref a7, .ref a8, .ref a9, .ref a10, .ref a11, .ref a12, .ref a13, .int n0_24, .int n0_25, .int n0_26, .int n0_27, .ref a14, .int n0_29, .int n0_30])), (a7, .inl (ct 0, 15, .inl f7)), (a8, .inl (ct 0, 200, .inl f8))])) (roQ (fun r => rg 0 255 r ∧ True)) 0 0 no := by
  refine Met.ofW (cc := cX11_wishing) (maxL := 4) (ret := (some .int)) (by decide) rfl ?_
  intro p e s m args below meth c s₁ B hml hv
  obtain ⟨rfl, hP, hK⟩ := hv
  have hx := B.exec
  have hb := B.bytes
  have hr := B.returns
  have hts := atoms_spec (ws := wsX11_wishing) B.pre
  have hown : s.vm.findClass RX11 = some m.cls := findClass_of_methodNamed B.named
  have hlocks := B.notSynchronized
  have hS : va_S no s.heap s.heap [] := va_S.rf
  have hl := lv_entry ([.ref a0, .int p0]) (n := 4) (Nat.le_of_ble_eq_true rfl)
  rw [lg_entry_eq]
  generalize (lg_sl ([.ref a0, .int p0]) ++ List.replicate (4 - (lg_sl ([.ref a0, .int p0])).length) Slot.unset).toArray = ls at hl ⊢
  have hl : lv_has ls 4 [(0, .ref a0), (1, .int p0)] := hl
  refine lv_iconst (v := 0) hx hb dX11_wishing_0 (by decide) ?_
  refine lv_istore_n (lv' := [(2, .int 0), (0, .ref a0), (1, .int p0)]) hx hb dX11_wishing_1 rfl hl (by decide) rfl (fun ls hl => ?_)
  refine lv_iconst (v := 0) hx hb dX11_wishing_2 (by decide) ?_
  refine lv_istore_n (lv' := [(3, .int 0), (2, .int 0), (0, .ref a0), (1, .int p0)]) hx hb dX11_wishing_3 rfl hl (by decide) rfl (fun ls hl => ?_)
  have j4 : ∀ (n : Nat) (x4_2 : Int32) (x4_3 : Int32) (H : Heap) (locs : List Loc) (ls : Array Slot), 2147483648 ≤ x4_3.toInt + (n : Int) → rg 0 255 x4_2 → rg 0 8 x4_3 → va_P G vwCl [(a0, .inr (11, [.int n0_0, .ref a1, .ref a2, .ref a3, .ref a4, .ref a5, .int n0_6, .int n0_7, .int n0_8, .int n0_9, .int n0_10, .long l0_11, .int n0_12, .int n0_13, .int n0_14, .int n0_15, .ref a6, .ref a7, .ref a8, .ref a9, .ref a10, .ref a11, .ref a12, .ref a13, .int n0_24, .int n0_25, .int n0_26, .int n0_27, .ref a14, .int n0_29, .int n0_30])), (a7, .inl (ct 0, 15, .inl f7)), (a8, .inl (ct 0, 200, .inl f8))] H → va_S no s.heap H locs → lv_has ls 4 [(0, .ref a0), (1, .int p0), (2, .int x4_2), (3, .int x4_3)] → W p l e (headSpec wsX11_wishing ({ frames := 1, cells := 0, slots := 0, locals := 22 })).room s m ([.ref a0, .int p0] : List Value).toArray below meth c H locs 0 0 (MQ below (roQ (fun r => rg 0 255 r ∧ True)) ([.ref a0, .int p0] : List Value).toArray s 0 0 no) (F0 m 4 ls []) := by
    intro n
    induction n with
    | zero => intro x4_2 x4_3 H locs ls hn4 hx4_2 hx4_3 hP hS hl; exact absurd hn4 (by have := Int32.toInt_lt x4_3; have := Int32.le_toInt x4_3; omega)
    | succ n ih4 =>
      intro x4_2 x4_3 H locs ls hn4 hx4_2 hx4_3 hP hS hl
      refine lv_iload_n hx hb dX11_wishing_4 rfl (lv_at hl 3 rfl) ?_
      refine lv_aload_n hx hb dX11_wishing_5 rfl (lv_at hl 0 rfl) ?_
      refine va_get (D := G) (ci := 11) (v := .ref a7) (C := RX11) (T := TX11) (N := 31) hx hb hts (by decide +kernel) hown hK.1 hP 0 rfl rfl 17 (by decide) (hts (.fieldLink RX11 34 "CardHolderModel" "has" "[I") (by decide +kernel)) (fun _ h9 => h9) rfl dX11_wishing_6 ?_
      refine lv_iconst (v := 1) hx hb dX11_wishing_9 (by decide) ?_
      refine va_iald hx hb hK.1 hP 1 0 rfl rfl (in_lit (by decide)) dX11_wishing_10 ?_
      refine lv_topi (fun z10 gz10 => ?_)
      have hz10 : rg 0 8 z10 := by rw [gz10]; exact (hp_f7.1 0)
      refine lv_icmp_ge (tgt := 43) hx hb dX11_wishing_11 (by decide) (fun c11 => ?_) (fun c11 => ?_)
      · refine lv_iload_n hx hb dX11_wishing_43 rfl (lv_at hl 2 rfl) ?_
        exact W.iret (v := x4_2) hx hb hr (fun t ht hW => ⟨⟨x4_2, (), rfl, ⟨hx4_2, trivial⟩, trivial⟩, hS.F ht⟩) hS.2.2 dX11_wishing_44
      · have h_1 : rg 0 7 x4_3 := r_lt_l_i (nle_i c11) hx4_3 hz10 (by decide)
        have h_2 : rg 1 8 z10 := r_lt_r_i (nle_i c11) hx4_3 hz10 (by decide)
        refine lv_iload_n hx hb dX11_wishing_14 rfl (lv_at hl 2 rfl) ?_
        refine lv_iload_n hx hb dX11_wishing_15 rfl (lv_at hl 1 rfl) ?_
        refine lv_aload_n hx hb dX11_wishing_16 rfl (lv_at hl 0 rfl) ?_
        refine lv_iload_n hx hb dX11_wishing_17 rfl (lv_at hl 3 rfl) ?_
        refine lv_iconst (v := 2) hx hb dX11_wishing_18 (by decide) ?_
        refine ro_calli (va_runV (As := [.int x4_3, .int 2]) (rest := [.int p0, .int x4_2]) ⟨hx, hb, hml, hown, hts⟩ (a_X11_of2 l G ct a0 n0_0 a1 a2 a3 a4 a5 n0_6 n0_7 n0_8 n0_9 n0_10 l0_11 n0_12 n0_13 n0_14 n0_15 a6 a7 a8 a9 a10 a11 a12 a13 n0_24 n0_25 n0_26 n0_27 a14 n0_29 n0_30 f8 x4_3 hp_n0_6 hp_f8 h_1) (cwV 2 hts gX11_wishing_X11_of rfl rfl rfl (by decide +kernel) ⟨Nat.le_of_ble_eq_true rfl, Nat.le_of_ble_eq_true rfl⟩) (ro_preV 11 0 hK (hP.sub [0, 2] rfl) rfl rfl) rfl rfl hl.1 rfl (lv_room (Nat.le_of_ble_eq_true rfl)) dX11_wishing_19 ⟨Nat.zero_le _, Nat.zero_le _⟩) hS hP (fun r19 H locs wr19 hP hS => ?_)
        obtain ⟨p_3, -⟩ := wr19
        refine lv_iconst (v := (-1)) hx hb dX11_wishing_22 (by decide) ?_
        refine lv_ixor hx hb dX11_wishing_23 ?_
        refine nm_0 (fun z23 => ?_)
        refine lv_iand hx hb dX11_wishing_24 ?_
        refine nm_0 (fun z24 => ?_)
        have j35 : ∀ (y35_0 : Int32) (H : Heap) (locs : List Loc) (ls : Array Slot), rg 0 128 y35_0 → va_P G vwCl [(a0, .inr (11, [.int n0_0, .ref a1, .ref a2, .ref a3, .ref a4, .ref a5, .int n0_6, .int n0_7, .int n0_8, .int n0_9, .int n0_10, .long l0_11, .int n0_12, .int n0_13, .int n0_14, .int n0_15, .ref a6, .ref a7, .ref a8, .ref a9, .ref a10, .ref a11, .ref a12, .ref a13, .int n0_24, .int n0_25, .int n0_26, .int n0_27, .ref a14, .int n0_29, .int n0_30])), (a7, .inl (ct 0, 15, .inl f7)), (a8, .inl (ct 0, 200, .inl f8))] H → va_S no s.heap H locs → lv_has ls 4 [(0, .ref a0), (1, .int p0), (2, .int x4_2), (3, .int x4_3)] → W p l e (headSpec wsX11_wishing ({ frames := 1, cells := 0, slots := 0, locals := 22 })).room s m ([.ref a0, .int p0] : List Value).toArray below meth c H locs 0 0 (MQ below (roQ (fun r => rg 0 255 r ∧ True)) ([.ref a0, .int p0] : List Value).toArray s 0 0 no) (F0 m 35 ls [.int y35_0, .int x4_2]) := by
          intro y35_0 H locs ls hy35_0 hP hS hl
          refine lv_ior hx hb dX11_wishing_35 ?_
          refine nm_or (k := 8) (e1 := 0) (f := 255) hx4_2 hy35_0 (by decide) (fun z35 hz35 => ?_)
          refine lv_istore_n (lv' := [(2, .int z35), (0, .ref a0), (1, .int p0), (3, .int x4_3)]) hx hb dX11_wishing_36 rfl hl (by decide) rfl (fun ls hl => ?_)
          obtain ⟨z37, qz37⟩ : ∃ y : Int32, y = x4_3 + Int32.ofInt 1 := ⟨_, rfl⟩
          obtain ⟨hz37, ez37⟩ := inc_z (e := 1) (f := 8) h_1 qz37 (by decide)
          refine lv_iinc (v := z37) (lv' := [(3, .int z37), (2, .int z35), (0, .ref a0), (1, .int p0)]) hx hb dX11_wishing_37 hl (k := 3) rfl (qz37.symm) (by decide) rfl (fun ls hl => ?_)
          refine lv_goto (tgt := 4) hx hb dX11_wishing_40 (by decide) ?_
          exact ih4 z35 z37 _ _ ls (by have q := hn4; have := ez37; omega) hz35 (rg_w (c := 0) (d := 8) hz37 (by decide)) hP hS (lv_sub hl [2, 3, 1, 0] rfl)
        refine lv_if_ne (tgt := 34) hx hb dX11_wishing_25 (by decide) (fun c25 => ?_) (fun c25 => ?_)
        · refine lv_iconst (v := 0) hx hb dX11_wishing_34 (by decide) ?_
          exact j35 (0 : Int32) _ _ ls (rg_w (c := 0) (d := 128) (rgn 0 (x := 0) (by decide)) (by decide)) hP hS (lv_sub hl [0, 1, 2, 3] rfl)
        · have h_4 : rg 0 0 z24 := r_eq_l_i (e := 0) (f := 0) c25 (rg_t z24) (rgn 0 (x := 0) (by decide)) (by decide)
          refine lv_iconst (v := 1) hx hb dX11_wishing_28 (by decide) ?_
          refine lv_iload_n hx hb dX11_wishing_29 rfl (lv_at hl 3 rfl) ?_
          refine lv_ishl hx hb dX11_wishing_30 ?_
          refine nm_shl (e1 := 1) (f := 128) h_1 (by decide) (fun z30 hz30 => ?_)
          refine lv_goto (tgt := 35) hx hb dX11_wishing_31 (by decide) ?_
          exact j35 z30 _ _ ls (rg_w (c := 0) (d := 128) hz30 (by decide)) hP hS (lv_sub hl [0, 1, 2, 3] rfl)
  exact j4 4294967296 (0 : Int32) (0 : Int32) _ _ ls (ms_e (0 : Int32)) (rg_w (c := 0) (d := 255) (rgn 0 (x := 0) (by decide)) (by decide)) (rg_w (c := 0) (d := 8) (rgn 0 (x := 0) (by decide)) (by decide)) hP hS (lv_sub hl [2, 3, 1, 0] rfl)

set_option maxHeartbeats 4000000 in
set_option maxRecDepth 100000 in
theorem a_X11_rowOf (l : Launch) (G : va_G) (ct : Nat → ClassId) (a0 : Nat) (n0_0 : Int32) (a1 : Nat) (a2 : Nat) (a3 : Nat) (a4 : Nat) (a5 : Nat) (n0_6 : Int32) (n0_7 : Int32) (n0_8 : Int32) (n0_9 : Int32) (n0_10 : Int32) (l0_11 : Int64) (n0_12 : Int32) (n0_13 : Int32) (n0_14 : Int32) (n0_15 : Int32) (a6 : Nat) (a7 : Nat) (a8 : Nat) (a9 : Nat) (a10 : Nat) (a11 : Nat) (a12 : Nat) (a13 : Nat) (n0_24 : Int32) (n0_25 : Int32) (n0_26 : Int32) (n0_27 : Int32) (a14 : Nat) (n0_29 : Int32) (n0_30 : Int32) (f2 : Nat → Int32) (f3 : Nat → Int64) (p0 : Int32) (hp_f2 : ar 0 60 f2) (hp_n0_6 : rg 0 900 n0_6) (hp_p0 : rg 0 3 p0) : Met l yX11_rowOf wsX11_rowOf ({ frames := 0, cells := 0, slots := 0, locals := 0 }) (va_Pc [.ref a0, .int p0] (roP G ct [(a0, .inr (11, [.int n0_0, .ref a1, .ref a2, .ref a3, .ref a4, .ref a5, .int n0_6, .int n0_7, .int n0_8, .int n0_9, .int n0_10, .long l0_11, .int n0_12, .int n0_13, .int n0_14, .int n0_15, .ref a6, .ref a7, .ref a8, .ref a9, .ref a10, .ref a11, .ref a12, .ref a13, .int n0_24, .int n0_25, .int n0_26, .int n0_27, .ref a14, .int n0_29, .int n0_30])), (a2, .inl (ct 0, 4, .inl f2)), (a3, .inl (ct 3, 240, .inr (.inl f3)))])) (roQ (fun r => True)) 0 0 no := by
  refine Met.ofW (cc := cX11_rowOf) (maxL := 4) (ret := (some .int)) (by decide) rfl ?_
  intro p e s m args below meth c s₁ B hml hv
  obtain ⟨rfl, hP, hK⟩ := hv
  have hx := B.exec
  have hb := B.bytes
  have hr := B.returns
  have hts := atoms_spec (ws := wsX11_rowOf) B.pre
  have hown : s.vm.findClass RX11 = some m.cls := findClass_of_methodNamed B.named
  have hlocks := B.notSynchronized
  have hS : va_S no s.heap s.heap [] := va_S.rf
  have hl := lv_entry ([.ref a0, .int p0]) (n := 4) (Nat.le_of_ble_eq_true rfl)
  rw [lg_entry_eq]
  generalize (lg_sl ([.ref a0, .int p0]) ++ List.replicate (4 - (lg_sl ([.ref a0, .int p0])).length) Slot.unset).toArray = ls at hl ⊢
  have hl : lv_has ls 4 [(0, .ref a0), (1, .int p0)] := hl
  refine lv_iconst (v := 0) hx hb dX11_rowOf_0 (by decide) ?_
  refine lv_istore_n (lv' := [(2, .int 0), (0, .ref a0), (1, .int p0)]) hx hb dX11_rowOf_1 rfl hl (by decide) rfl (fun ls hl => ?_)
  refine lv_iconst (v := 0) hx hb dX11_rowOf_2 (by decide) ?_
  refine lv_istore_n (lv' := [(3, .int 0), (2, .int 0), (0, .ref a0), (1, .int p0)]) hx hb dX11_rowOf_3 rfl hl (by decide) rfl (fun ls hl => ?_)
  have j4 : ∀ (n : Nat) (x4_2 : Int32) (x4_3 : Int32) (H : Heap) (locs : List Loc) (ls : Array Slot), 2147483648 ≤ x4_3.toInt + (n : Int) → rg 0 60 x4_3 → va_P G vwCl [(a0, .inr (11, [.int n0_0, .ref a1, .ref a2, .ref a3, .ref a4, .ref a5, .int n0_6, .int n0_7, .int n0_8, .int n0_9, .int n0_10, .long l0_11, .int n0_12, .int n0_13, .int n0_14, .int n0_15, .ref a6, .ref a7, .ref a8, .ref a9, .ref a10, .ref a11, .ref a12, .ref a13, .int n0_24, .int n0_25, .int n0_26, .int n0_27, .ref a14, .int n0_29, .int n0_30])), (a2, .inl (ct 0, 4, .inl f2)), (a3, .inl (ct 3, 240, .inr (.inl f3)))] H → va_S no s.heap H locs → lv_has ls 4 [(0, .ref a0), (1, .int p0), (2, .int x4_2), (3, .int x4_3)] → W p l e (headSpec wsX11_rowOf ({ frames := 0, cells := 0, slots := 0, locals := 0 })).room s m ([.ref a0, .int p0] : List Value).toArray below meth c H locs 0 0 (MQ below (roQ (fun r => True)) ([.ref a0, .int p0] : List Value).toArray s 0 0 no) (F0 m 4 ls []) := by
    intro n
    induction n with
    | zero => intro x4_2 x4_3 H locs ls hn4 hx4_3 hP hS hl; exact absurd hn4 (by have := Int32.toInt_lt x4_3; have := Int32.le_toInt x4_3; omega)
    | succ n ih4 =>
      intro x4_2 x4_3 H locs ls hn4 hx4_3 hP hS hl
      refine lv_iload_n hx hb dX11_rowOf_4 rfl (lv_at hl 3 rfl) ?_
      refine lv_aload_n hx hb dX11_rowOf_5 rfl (lv_at hl 0 rfl) ?_
      refine va_get (D := G) (ci := 11) (v := .ref a2) (C := RX11) (T := TX11) (N := 31) hx hb hts (by decide +kernel) hown hK.1 hP 0 rfl rfl 2 (by decide) (hts (.fieldLink RX11 13 "CardHolderModel" "many" "[I") (by decide +kernel)) (fun _ h9 => h9) rfl dX11_rowOf_6 ?_
      refine lv_iload_n hx hb dX11_rowOf_9 rfl (lv_at hl 1 rfl) ?_
      refine va_iald hx hb hK.1 hP 1 0 rfl rfl (in_rg hp_p0 (by decide)) dX11_rowOf_10 ?_
      refine lv_topi (fun z10 gz10 => ?_)
      have hz10 : rg 0 60 z10 := by rw [gz10]; exact hp_f2 _
      refine lv_icmp_ge (tgt := 37) hx hb dX11_rowOf_11 (by decide) (fun c11 => ?_) (fun c11 => ?_)
      · refine lv_iload_n hx hb dX11_rowOf_37 rfl (lv_at hl 2 rfl) ?_
        exact W.iret (v := x4_2) hx hb hr (fun t ht hW => ⟨⟨x4_2, (), rfl, trivial, trivial⟩, hS.F ht⟩) hS.2.2 dX11_rowOf_38
      · have h_1 : rg 0 59 x4_3 := r_lt_l_i (nle_i c11) hx4_3 hz10 (by decide)
        have h_2 : rg 1 60 z10 := r_lt_r_i (nle_i c11) hx4_3 hz10 (by decide)
        refine lv_iload_n hx hb dX11_rowOf_14 rfl (lv_at hl 2 rfl) ?_
        refine lv_iconst (v := 1) hx hb dX11_rowOf_15 (by decide) ?_
        refine lv_aload_n hx hb dX11_rowOf_16 rfl (lv_at hl 0 rfl) ?_
        refine va_get (D := G) (ci := 11) (v := .ref a3) (C := RX11) (T := TX11) (N := 31) hx hb hts (by decide +kernel) hown hK.1 hP 0 rfl rfl 3 (by decide) (hts (.fieldLink RX11 16 "CardHolderModel" "cells" "[J") (by decide +kernel)) (fun _ h9 => h9) rfl dX11_rowOf_17 ?_
        refine lv_bipush (v := 60) hx hb dX11_rowOf_20 (by decide) ?_
        refine lv_iload_n hx hb dX11_rowOf_22 rfl (lv_at hl 1 rfl) ?_
        refine lv_imul hx hb dX11_rowOf_23 ?_
        refine nm_mul (e1 := 0) (f := 180) (rgn 60 (x := 60) (by decide)) hp_p0 (by decide) (fun z23 hz23 ez23 => ?_)
        refine lv_iload_n hx hb dX11_rowOf_24 rfl (lv_at hl 3 rfl) ?_
        refine lv_iadd hx hb dX11_rowOf_25 ?_
        refine nm_add (e1 := 0) (f := 239) hz23 h_1 (by decide) (fun z25 hz25 ez25 => ?_)
        refine va_lald hx hb hK.1 hP 2 3 rfl rfl (in_rg hz25 (by decide)) dX11_rowOf_26 ?_
        refine lv_topl (fun z26 gz26 => ?_)
        refine lv_l2i hx hb dX11_rowOf_27 rfl ?_
        refine nm_0 (fun z27 => ?_)
        refine lv_ishl hx hb dX11_rowOf_28 ?_
        refine nm_0 (fun z28 => ?_)
        refine lv_ior hx hb dX11_rowOf_29 ?_
        refine nm_0 (fun z29 => ?_)
        refine lv_istore_n (lv' := [(2, .int z29), (0, .ref a0), (1, .int p0), (3, .int x4_3)]) hx hb dX11_rowOf_30 rfl hl (by decide) rfl (fun ls hl => ?_)
        obtain ⟨z31, qz31⟩ : ∃ y : Int32, y = x4_3 + Int32.ofInt 1 := ⟨_, rfl⟩
        obtain ⟨hz31, ez31⟩ := inc_z (e := 1) (f := 60) h_1 qz31 (by decide)
        refine lv_iinc (v := z31) (lv' := [(3, .int z31), (2, .int z29), (0, .ref a0), (1, .int p0)]) hx hb dX11_rowOf_31 hl (k := 3) rfl (qz31.symm) (by decide) rfl (fun ls hl => ?_)
        refine lv_goto (tgt := 4) hx hb dX11_rowOf_34 (by decide) ?_
        exact ih4 z29 z31 _ _ ls (by have q := hn4; have := ez31; omega) (rg_w (c := 0) (d := 60) hz31 (by decide)) hP hS (lv_sub hl [2, 3, 1, 0] rfl)
  exact j4 4294967296 (0 : Int32) (0 : Int32) _ _ ls (ms_e (0 : Int32)) (rg_w (c := 0) (d := 60) (rgn 0 (x := 0) (by decide)) (by decide)) hP hS (lv_sub hl [2, 3, 1, 0] rfl)
