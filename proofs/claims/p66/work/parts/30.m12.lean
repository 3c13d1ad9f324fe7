theorem dX11_lays_0 : decode cX11_lays 0 = .ok (.aload_n 0, 1) := by decide +kernel
theorem dX11_lays_1 : decode cX11_lays 1 = .ok (.iconst 0, 1) := by decide +kernel
theorem dX11_lays_2 : decode cX11_lays 2 = .ok (.putfield 59, 3) := by decide +kernel
theorem dX11_lays_5 : decode cX11_lays 5 = .ok (.aload_n 0, 1) := by decide +kernel
theorem dX11_lays_6 : decode cX11_lays 6 = .ok (.iload_n 1, 1) := by decide +kernel
theorem dX11_lays_7 : decode cX11_lays 7 = .ok (.iload_n 2, 1) := by decide +kernel
set_option maxRecDepth 20000 in
theorem ggX11_lays_X11_isDuel : GoodIn wsX11_lays wsX11_isDuel := goodIn_r _ [6, 7, 8, 9, 5, 10, 11, 12, 13, 14, 15, 16, 17, 18, 19, 20, 21, 22, 23, 24, 25, 26, 27, 28, 29, 30, 31, 32, 33, 34, 35, 36, 37, 38, 39, 40, 41, 42, 43, 44, 45, 46, 47, 48, 49, 50, 51, 52, 53, 54, 55, 56, 57, 58, 59, 60, 61, 62, 75, 76, 77, 78, 79, 80, 81, 82, 83, 84, 85, 86, 87, 88, 89, 90, 91, 92, 93, 94, 95, 96, 97, 98, 99, 100, 101, 102, 103, 104, 105] (by rfl) (by decide +kernel)
set_option maxRecDepth 20000 in
theorem gX11_lays_X11_isDuel : GoodIn wsX11_lays (wsV RX11 355 RX11 yX11_isDuel wsX11_isDuel) := goodIn_app (goodIn_r _ [2, 3, 4, 5] (by rfl) (by decide +kernel)) ggX11_lays_X11_isDuel
theorem dX11_lays_8 : decode cX11_lays 8 = .ok (.invokevirtual 355, 3) := by decide +kernel
theorem dX11_lays_11 : decode cX11_lays 11 = .ok (.ifCond .eq 12, 3) := by decide +kernel
theorem dX11_lays_23 : decode cX11_lays 23 = .ok (.bipush (-2), 2) := by decide +kernel
theorem dX11_lays_25 : decode cX11_lays 25 = .ok (.ireturn, 1) := by decide +kernel
theorem dX11_lays_14 : decode cX11_lays 14 = .ok (.aload_n 0, 1) := by decide +kernel
theorem dX11_lays_15 : decode cX11_lays 15 = .ok (.iload_n 1, 1) := by decide +kernel
theorem dX11_lays_16 : decode cX11_lays 16 = .ok (.iload_n 2, 1) := by decide +kernel
set_option maxRecDepth 20000 in
theorem ggX11_lays_X11_laidBy : GoodIn wsX11_lays wsX11_laidBy := goodIn_r _ [66, 15, 28, 67, 68, 69, 5, 70, 71, 72, 73, 74, 35, 36, 37, 38, 39, 75, 76, 77, 78, 79, 80, 81, 82, 83, 84, 85, 86, 87, 88, 89, 90, 91, 92, 93, 94, 95, 96, 97, 98, 99, 100, 101, 102, 103, 104, 105] (by rfl) (by decide +kernel)
set_option maxRecDepth 20000 in
theorem gX11_lays_X11_laidBy : GoodIn wsX11_lays (wsV RX11 364 RX11 yX11_laidBy wsX11_laidBy) := goodIn_app (goodIn_r _ [63, 64, 65, 5] (by rfl) (by decide +kernel)) ggX11_lays_X11_laidBy
theorem dX11_lays_17 : decode cX11_lays 17 = .ok (.invokevirtual 364, 3) := by decide +kernel
theorem dX11_lays_20 : decode cX11_lays 20 = .ok (.goto 5, 3) := by decide +kernel
theorem dX11_reply_0 : decode cX11_reply 0 = .ok (.aload_n 0, 1) := by decide +kernel
theorem dX11_reply_1 : decode cX11_reply 1 = .ok (.iconst 0, 1) := by decide +kernel
theorem dX11_reply_2 : decode cX11_reply 2 = .ok (.putfield 59, 3) := by decide +kernel
theorem dX11_reply_5 : decode cX11_reply 5 = .ok (.aload_n 0, 1) := by decide +kernel
theorem dX11_reply_6 : decode cX11_reply 6 = .ok (.iload_n 1, 1) := by decide +kernel
theorem dX11_reply_7 : decode cX11_reply 7 = .ok (.iload_n 2, 1) := by decide +kernel
set_option maxRecDepth 20000 in
theorem ggX11_reply_X11_isDuel : GoodIn wsX11_reply wsX11_isDuel := goodIn_r _ [6, 7, 8, 9, 5, 10, 11, 12, 13, 14, 15, 16, 17, 18, 19, 20, 21, 22, 23, 24, 25, 26, 27, 28, 29, 30, 31, 32, 33, 34, 35, 36, 37, 38, 39, 40, 41, 42, 43, 44, 45, 46, 47, 48, 49, 50, 51, 52, 53, 54, 55, 56, 57, 58, 59, 60, 61, 62, 75, 76, 77, 78, 79, 80, 81, 82, 83, 84, 85, 86, 87, 88, 89, 90, 91, 92, 93, 94, 95, 96, 97, 98, 99, 100, 101, 102, 103, 104, 105] (by rfl) (by decide +kernel)
set_option maxRecDepth 20000 in
theorem gX11_reply_X11_isDuel : GoodIn wsX11_reply (wsV RX11 355 RX11 yX11_isDuel wsX11_isDuel) := goodIn_app (goodIn_r _ [2, 3, 4, 5] (by rfl) (by decide +kernel)) ggX11_reply_X11_isDuel
theorem dX11_reply_8 : decode cX11_reply 8 = .ok (.invokevirtual 355, 3) := by decide +kernel
theorem dX11_reply_11 : decode cX11_reply 11 = .ok (.ifCond .eq 17, 3) := by decide +kernel
theorem dX11_reply_28 : decode cX11_reply 28 = .ok (.bipush (-2), 2) := by decide +kernel
theorem dX11_reply_30 : decode cX11_reply 30 = .ok (.ireturn, 1) := by decide +kernel
theorem dX11_reply_14 : decode cX11_reply 14 = .ok (.aload_n 0, 1) := by decide +kernel
theorem dX11_reply_15 : decode cX11_reply 15 = .ok (.aload_n 0, 1) := by decide +kernel
theorem dX11_reply_16 : decode cX11_reply 16 = .ok (.iload_n 1, 1) := by decide +kernel
theorem dX11_reply_17 : decode cX11_reply 17 = .ok (.iload_n 2, 1) := by decide +kernel
set_option maxRecDepth 20000 in
theorem ggX11_reply_X11_laidBy : GoodIn wsX11_reply wsX11_laidBy := goodIn_r _ [66, 15, 28, 67, 68, 69, 5, 70, 71, 72, 73, 74, 35, 36, 37, 38, 39, 75, 76, 77, 78, 79, 80, 81, 82, 83, 84, 85, 86, 87, 88, 89, 90, 91, 92, 93, 94, 95, 96, 97, 98, 99, 100, 101, 102, 103, 104, 105] (by rfl) (by decide +kernel)
set_option maxRecDepth 20000 in
theorem gX11_reply_X11_laidBy : GoodIn wsX11_reply (wsV RX11 364 RX11 yX11_laidBy wsX11_laidBy) := goodIn_app (goodIn_r _ [63, 64, 65, 5] (by rfl) (by decide +kernel)) ggX11_reply_X11_laidBy
theorem dX11_reply_18 : decode cX11_reply 18 = .ok (.invokevirtual 364, 3) := by decide +kernel
theorem dX11_reply_21 : decode cX11_reply 21 = .ok (.iload_n 2, 1) := by decide +kernel
set_option maxRecDepth 20000 in
theorem ggX11_reply_X11_replyTo : GoodIn wsX11_reply wsX11_replyTo := goodIn_r _ [70, 15, 28, 71, 72, 73, 5, 74, 35, 36, 37, 38, 39, 75, 76, 77, 78, 79, 80, 81, 82, 83, 84, 85, 86, 87, 88, 89, 90, 91, 92, 93, 94, 95, 96, 97, 98, 99, 100, 101, 102, 103, 104, 105] (by rfl) (by decide +kernel)
set_option maxRecDepth 20000 in
theorem gX11_reply_X11_replyTo : GoodIn wsX11_reply (wsV RX11 361 RX11 yX11_replyTo wsX11_replyTo) := goodIn_app (goodIn_r _ [67, 68, 69, 5] (by rfl) (by decide +kernel)) ggX11_reply_X11_replyTo
theorem dX11_reply_22 : decode cX11_reply 22 = .ok (.invokevirtual 361, 3) := by decide +kernel
theorem dX11_reply_25 : decode cX11_reply 25 = .ok (.goto 5, 3) := by decide +kernel
theorem dX11_winsOf_0 : decode cX11_winsOf 0 = .ok (.aload_n 0, 1) := by decide +kernel
theorem dX11_winsOf_1 : decode cX11_winsOf 1 = .ok (.getfield 47, 3) := by decide +kernel
theorem dX11_winsOf_4 : decode cX11_winsOf 4 = .ok (.iload_n 2, 1) := by decide +kernel
theorem dX11_winsOf_5 : decode cX11_winsOf 5 = .ok (.iaload, 1) := by decide +kernel
theorem dX11_winsOf_6 : decode cX11_winsOf 6 = .ok (.iconst (-1), 1) := by decide +kernel
theorem dX11_winsOf_38 : decode cX11_winsOf 38 = .ok (.istore_n 3, 1) := by decide +kernel
theorem dX11_winsOf_39 : decode cX11_winsOf 39 = .ok (.iload_n 3, 1) := by decide +kernel
theorem dX11_winsOf_53 : decode cX11_winsOf 53 = .ok (.aload_n 0, 1) := by decide +kernel
theorem dX11_winsOf_54 : decode cX11_winsOf 54 = .ok (.aload_n 0, 1) := by decide +kernel
theorem dX11_winsOf_55 : decode cX11_winsOf 55 = .ok (.iload_n 2, 1) := by decide +kernel
set_option maxRecDepth 20000 in
theorem ggX11_winsOf_X11_handOf : GoodIn wsX11_winsOf wsX11_handOf := goodIn_r _ [14, 15, 1, 20, 21, 22, 23, 24, 25, 26, 27, 28, 29, 30, 31, 32, 33, 34, 35, 36, 37, 38, 39, 40, 41, 42, 43, 44, 45, 46, 47, 48, 49, 50] (by rfl) (by decide +kernel)
set_option maxRecDepth 20000 in
theorem gX11_winsOf_X11_handOf : GoodIn wsX11_winsOf (wsV RX11 254 RX11 yX11_handOf wsX11_handOf) := goodIn_app (goodIn_r _ [11, 12, 13, 4] (by rfl) (by decide +kernel)) ggX11_winsOf_X11_handOf
theorem dX11_winsOf_56 : decode cX11_winsOf 56 = .ok (.invokevirtual 254, 3) := by decide +kernel
theorem dX11_winsOf_59 : decode cX11_winsOf 59 = .ok (.iconst 1, 1) := by decide +kernel
theorem dX11_winsOf_60 : decode cX11_winsOf 60 = .ok (.iload_n 2, 1) := by decide +kernel
theorem dX11_winsOf_61 : decode cX11_winsOf 61 = .ok (.ishl, 1) := by decide +kernel
theorem dX11_winsOf_62 : decode cX11_winsOf 62 = .ok (.iconst (-1), 1) := by decide +kernel
theorem dX11_winsOf_63 : decode cX11_winsOf 63 = .ok (.ixor, 1) := by decide +kernel
theorem dX11_winsOf_64 : decode cX11_winsOf 64 = .ok (.iand, 1) := by decide +kernel
set_option maxRecDepth 20000 in
theorem ggX11_winsOf_X11_worthOf : GoodIn wsX11_winsOf wsX11_worthOf := goodIn_r _ [19, 15, 2, 3, 4, 5, 6, 7, 8, 9, 10, 20, 21, 22, 23, 24, 25, 26, 27, 28, 29, 30, 31, 32, 33, 34, 35, 36, 37, 38, 39, 40, 41, 42, 43, 44, 45, 46, 47, 48, 49, 50] (by rfl) (by decide +kernel)
set_option maxRecDepth 20000 in
theorem gX11_winsOf_X11_worthOf : GoodIn wsX11_winsOf (wsV RX11 323 RX11 yX11_worthOf wsX11_worthOf) := goodIn_app (goodIn_r _ [16, 17, 18, 4] (by rfl) (by decide +kernel)) ggX11_winsOf_X11_worthOf
theorem dX11_winsOf_65 : decode cX11_winsOf 65 = .ok (.invokevirtual 323, 3) := by decide +kernel
theorem dX11_winsOf_68 : decode cX11_winsOf 68 = .ok (.isub, 1) := by decide +kernel
theorem dX11_winsOf_69 : decode cX11_winsOf 69 = .ok (.ireturn, 1) := by decide +kernel
theorem dX11_winsOf_40 : decode cX11_winsOf 40 = .ok (.ifCond .eq 12, 3) := by decide +kernel
theorem dX11_winsOf_52 : decode cX11_winsOf 52 = .ok (.iconst 0, 1) := by decide +kernel
theorem dX11_winsOf_43 : decode cX11_winsOf 43 = .ok (.aload_n 0, 1) := by decide +kernel
theorem dX11_winsOf_44 : decode cX11_winsOf 44 = .ok (.iload_n 2, 1) := by decide +kernel
theorem dX11_winsOf_45 : decode cX11_winsOf 45 = .ok (.iconst 0, 1) := by decide +kernel
set_option maxRecDepth 20000 in
theorem ggX11_winsOf_X11_of : GoodIn wsX11_winsOf wsX11_of := goodIn_r _ [9, 10, 20, 21, 22, 23, 24, 25, 26, 27, 28, 29, 30, 31, 32, 33, 34, 35, 36, 37, 38, 39, 40, 41, 42, 43, 44, 45, 46, 47, 48, 49, 50] (by rfl) (by decide +kernel)
set_option maxRecDepth 20000 in
theorem gX11_winsOf_X11_of : GoodIn wsX11_winsOf (wsV RX11 214 RX11 yX11_of wsX11_of) := goodIn_app (goodIn_r _ [6, 7, 8, 4] (by rfl) (by decide +kernel)) ggX11_winsOf_X11_of
theorem dX11_winsOf_46 : decode cX11_winsOf 46 = .ok (.invokevirtual 214, 3) := by decide +kernel
theorem dX11_winsOf_49 : decode cX11_winsOf 49 = .ok (.goto 4, 3) := by decide +kernel
theorem dX11_winsOf_37 : decode cX11_winsOf 37 = .ok (.iconst 0, 1) := by decide +kernel
theorem dX11_winsOf_7 : decode cX11_winsOf 7 = .ok (.if_icmp .eq 30, 3) := by decide +kernel
theorem dX11_winsOf_10 : decode cX11_winsOf 10 = .ok (.aload_n 0, 1) := by decide +kernel
theorem dX11_winsOf_11 : decode cX11_winsOf 11 = .ok (.getfield 47, 3) := by decide +kernel
theorem dX11_winsOf_14 : decode cX11_winsOf 14 = .ok (.iload_n 2, 1) := by decide +kernel
theorem dX11_winsOf_15 : decode cX11_winsOf 15 = .ok (.iaload, 1) := by decide +kernel
theorem dX11_winsOf_16 : decode cX11_winsOf 16 = .ok (.iload_n 2, 1) := by decide +kernel
theorem dX11_winsOf_17 : decode cX11_winsOf 17 = .ok (.if_icmp .eq 20, 3) := by decide +kernel
theorem dX11_winsOf_20 : decode cX11_winsOf 20 = .ok (.iload_n 1, 1) := by decide +kernel
theorem dX11_winsOf_21 : decode cX11_winsOf 21 = .ok (.aload_n 0, 1) := by decide +kernel
theorem dX11_winsOf_22 : decode cX11_winsOf 22 = .ok (.getfield 47, 3) := by decide +kernel
theorem dX11_winsOf_25 : decode cX11_winsOf 25 = .ok (.iload_n 2, 1) := by decide +kernel
theorem dX11_winsOf_26 : decode cX11_winsOf 26 = .ok (.iaload, 1) := by decide +kernel
set_option maxRecDepth 20000 in
theorem ggX11_winsOf_X11_isBit : GoodIn wsX11_winsOf wsX11_isBit := goodIn_r _ [5] (by rfl) (by decide +kernel)
set_option maxRecDepth 20000 in
theorem gX11_winsOf_X11_isBit : GoodIn wsX11_winsOf (va_wsS RX11 239 yX11_isBit wsX11_isBit) := goodIn_app (goodIn_r _ [2, 3, 4] (by rfl) (by decide +kernel)) ggX11_winsOf_X11_isBit
theorem dX11_winsOf_27 : decode cX11_winsOf 27 = .ok (.invokestatic 239, 3) := by decide +kernel
theorem dX11_winsOf_30 : decode cX11_winsOf 30 = .ok (.ifCond .eq 7, 3) := by decide +kernel
theorem dX11_winsOf_33 : decode cX11_winsOf 33 = .ok (.iconst 1, 1) := by decide +kernel
theorem dX11_winsOf_34 : decode cX11_winsOf 34 = .ok (.goto 4, 3) := by decide +kernel
theorem dX11_leaveOf_0 : decode cX11_leaveOf 0 = .ok (.iconst 0, 1) := by decide +kernel
theorem dX11_leaveOf_1 : decode cX11_leaveOf 1 = .ok (.istore_n 2, 1) := by decide +kernel
theorem dX11_leaveOf_2 : decode cX11_leaveOf 2 = .ok (.iconst 0, 1) := by decide +kernel
theorem dX11_leaveOf_3 : decode cX11_leaveOf 3 = .ok (.istore_n 3, 1) := by decide +kernel
theorem dX11_leaveOf_4 : decode cX11_leaveOf 4 = .ok (.iload_n 3, 1) := by decide +kernel
theorem dX11_leaveOf_5 : decode cX11_leaveOf 5 = .ok (.aload_n 0, 1) := by decide +kernel
theorem dX11_leaveOf_6 : decode cX11_leaveOf 6 = .ok (.getfield 34, 3) := by decide +kernel
theorem dX11_leaveOf_9 : decode cX11_leaveOf 9 = .ok (.iconst 1, 1) := by decide +kernel
theorem dX11_leaveOf_10 : decode cX11_leaveOf 10 = .ok (.iaload, 1) := by decide +kernel
theorem dX11_leaveOf_11 : decode cX11_leaveOf 11 = .ok (.if_icmp .ge 36, 3) := by decide +kernel
theorem dX11_leaveOf_47 : decode cX11_leaveOf 47 = .ok (.iload_n 2, 1) := by decide +kernel
theorem dX11_leaveOf_48 : decode cX11_leaveOf 48 = .ok (.ireturn, 1) := by decide +kernel
theorem dX11_leaveOf_14 : decode cX11_leaveOf 14 = .ok (.iload_n 2, 1) := by decide +kernel
theorem dX11_leaveOf_15 : decode cX11_leaveOf 15 = .ok (.iload_n 1, 1) := by decide +kernel
theorem dX11_leaveOf_16 : decode cX11_leaveOf 16 = .ok (.iload_n 3, 1) := by decide +kernel
set_option maxRecDepth 20000 in
theorem ggX11_leaveOf_X11_isBit : GoodIn wsX11_leaveOf wsX11_isBit := goodIn_r _ [5] (by rfl) (by decide +kernel)
set_option maxRecDepth 20000 in
theorem gX11_leaveOf_X11_isBit : GoodIn wsX11_leaveOf (va_wsS RX11 239 yX11_isBit wsX11_isBit) := goodIn_app (goodIn_r _ [2, 3, 4] (by rfl) (by decide +kernel)) ggX11_leaveOf_X11_isBit
theorem dX11_leaveOf_17 : decode cX11_leaveOf 17 = .ok (.invokestatic 239, 3) := by decide +kernel
theorem dX11_leaveOf_39 : decode cX11_leaveOf 39 = .ok (.ior, 1) := by decide +kernel
theorem dX11_leaveOf_40 : decode cX11_leaveOf 40 = .ok (.istore_n 2, 1) := by decide +kernel
theorem dX11_leaveOf_41 : decode cX11_leaveOf 41 = .ok (.iinc 3 1, 3) := by decide +kernel
theorem dX11_leaveOf_44 : decode cX11_leaveOf 44 = .ok (.goto (-40), 3) := by decide +kernel
theorem dX11_leaveOf_38 : decode cX11_leaveOf 38 = .ok (.iconst 0, 1) := by decide +kernel
theorem dX11_leaveOf_20 : decode cX11_leaveOf 20 = .ok (.ifCond .eq 18, 3) := by decide +kernel
theorem dX11_leaveOf_23 : decode cX11_leaveOf 23 = .ok (.aload_n 0, 1) := by decide +kernel
theorem dX11_leaveOf_24 : decode cX11_leaveOf 24 = .ok (.iload_n 1, 1) := by decide +kernel
theorem dX11_leaveOf_25 : decode cX11_leaveOf 25 = .ok (.iload_n 3, 1) := by decide +kernel
set_option maxRecDepth 20000 in
theorem ggX11_leaveOf_X11_winsOf : GoodIn wsX11_leaveOf wsX11_winsOf := goodIn_r _ [9, 10, 2, 3, 4, 5, 11, 12, 13, 14, 15, 16, 17, 18, 19, 1, 20, 21, 22, 23, 24, 25, 26, 27, 28, 29, 30, 31, 32, 33, 34, 35, 36, 37, 38, 39, 40, 41, 42, 43, 44, 45, 46, 47, 48, 49, 50, 51, 52, 53, 54] (by rfl) (by decide +kernel)
set_option maxRecDepth 20000 in
theorem gX11_leaveOf_X11_winsOf : GoodIn wsX11_leaveOf (wsV RX11 367 RX11 yX11_winsOf wsX11_winsOf) := goodIn_app (goodIn_r _ [6, 7, 8, 4] (by rfl) (by decide +kernel)) ggX11_leaveOf_X11_winsOf
theorem dX11_leaveOf_26 : decode cX11_leaveOf 26 = .ok (.invokevirtual 367, 3) := by decide +kernel
theorem dX11_leaveOf_29 : decode cX11_leaveOf 29 = .ok (.ifCond .ge 9, 3) := by decide +kernel
theorem dX11_leaveOf_32 : decode cX11_leaveOf 32 = .ok (.iconst 1, 1) := by decide +kernel
theorem dX11_leaveOf_33 : decode cX11_leaveOf 33 = .ok (.iload_n 3, 1) := by decide +kernel
theorem dX11_leaveOf_34 : decode cX11_leaveOf 34 = .ok (.ishl, 1) := by decide +kernel
theorem dX11_leaveOf_35 : decode cX11_leaveOf 35 = .ok (.goto 4, 3) := by decide +kernel
theorem dX11_firm_0 : decode cX11_firm 0 = .ok (.aload_n 0, 1) := by decide +kernel
theorem dX11_firm_1 : decode cX11_firm 1 = .ok (.iconst 0, 1) := by decide +kernel
theorem dX11_firm_2 : decode cX11_firm 2 = .ok (.putfield 59, 3) := by decide +kernel
theorem dX11_firm_5 : decode cX11_firm 5 = .ok (.aload_n 0, 1) := by decide +kernel
theorem dX11_firm_6 : decode cX11_firm 6 = .ok (.iload_n 1, 1) := by decide +kernel
set_option maxRecDepth 20000 in
theorem ggX11_firm_X11_isSet : GoodIn wsX11_firm wsX11_isSet := goodIn_r _ [6, 7, 8, 9, 10, 5, 11, 12, 13, 14, 15, 72, 73, 74, 75, 76, 77, 78, 79, 80, 81, 82, 83, 84, 85, 86, 87, 88, 89, 90, 91, 92, 93, 94, 95, 96, 97, 98, 99, 100, 101, 102] (by rfl) (by decide +kernel)
set_option maxRecDepth 20000 in
theorem gX11_firm_X11_isSet : GoodIn wsX11_firm (wsV RX11 370 RX11 yX11_isSet wsX11_isSet) := goodIn_app (goodIn_r _ [2, 3, 4, 5] (by rfl) (by decide +kernel)) ggX11_firm_X11_isSet
theorem dX11_firm_7 : decode cX11_firm 7 = .ok (.invokevirtual 370, 3) := by decide +kernel
theorem dX11_firm_10 : decode cX11_firm 10 = .ok (.ifCond .ne 6, 3) := by decide +kernel
theorem dX11_firm_16 : decode cX11_firm 16 = .ok (.aload_n 0, 1) := by decide +kernel
set_option maxRecDepth 20000 in
theorem ggX11_firm_X11_laysNow : GoodIn wsX11_firm wsX11_laysNow := goodIn_r _ [19, 7, 20, 21, 22, 23, 5, 24, 25, 26, 27, 28, 29, 30, 31, 32, 33, 34, 35, 36, 37, 38, 39, 40, 41, 42, 43, 44, 45, 46, 47, 48, 49, 50, 51, 52, 53, 54, 55, 72, 73, 74, 75, 76, 77, 78, 79, 80, 81, 82, 83, 84, 85, 86, 87, 88, 89, 90, 91, 92, 93, 94, 95, 96, 97, 98, 99, 100, 101, 102] (by rfl) (by decide +kernel)
set_option maxRecDepth 20000 in
theorem gX11_firm_X11_laysNow : GoodIn wsX11_firm (wsV RX11 251 RX11 yX11_laysNow wsX11_laysNow) := goodIn_app (goodIn_r _ [16, 17, 18, 5] (by rfl) (by decide +kernel)) ggX11_firm_X11_laysNow
theorem dX11_firm_17 : decode cX11_firm 17 = .ok (.invokevirtual 251, 3) := by decide +kernel
theorem dX11_firm_20 : decode cX11_firm 20 = .ok (.aload_n 0, 1) := by decide +kernel
theorem dX11_firm_21 : decode cX11_firm 21 = .ok (.iload_n 1, 1) := by decide +kernel
set_option maxRecDepth 20000 in
theorem ggX11_firm_X11_leaveOf : GoodIn wsX11_firm wsX11_leaveOf := goodIn_r _ [59, 7, 53, 54, 5, 55, 60, 61, 62, 63, 25, 32, 33, 34, 35, 36, 64, 65, 66, 67, 68, 69, 70, 71, 72, 73, 74, 75, 76, 77, 78, 79, 80, 81, 82, 83, 84, 85, 86, 87, 88, 89, 90, 91, 92, 93, 94, 95, 96, 97, 98, 99, 100, 101, 102] (by rfl) (by decide +kernel)
set_option maxRecDepth 20000 in
theorem gX11_firm_X11_leaveOf : GoodIn wsX11_firm (wsV RX11 373 RX11 yX11_leaveOf wsX11_leaveOf) := goodIn_app (goodIn_r _ [56, 57, 58, 5] (by rfl) (by decide +kernel)) ggX11_firm_X11_leaveOf
theorem dX11_firm_22 : decode cX11_firm 22 = .ok (.invokevirtual 373, 3) := by decide +kernel
theorem dX11_firm_25 : decode cX11_firm 25 = .ok (.ifCond .ne 7, 3) := by decide +kernel
theorem dX11_firm_32 : decode cX11_firm 32 = .ok (.iconst 0, 1) := by decide +kernel
theorem dX11_firm_33 : decode cX11_firm 33 = .ok (.ireturn, 1) := by decide +kernel
theorem dX11_firm_28 : decode cX11_firm 28 = .ok (.iconst 1, 1) := by decide +kernel
theorem dX11_firm_29 : decode cX11_firm 29 = .ok (.goto 4, 3) := by decide +kernel
theorem dX11_firm_13 : decode cX11_firm 13 = .ok (.bipush (-2), 2) := by decide +kernel
theorem dX11_firm_15 : decode cX11_firm 15 = .ok (.ireturn, 1) := by decide +kernel
theorem dX11_firms_0 : decode cX11_firms 0 = .ok (.aload_n 0, 1) := by decide +kernel
theorem dX11_firms_1 : decode cX11_firms 1 = .ok (.iconst 0, 1) := by decide +kernel
theorem dX11_firms_2 : decode cX11_firms 2 = .ok (.putfield 59, 3) := by decide +kernel
theorem dX11_firms_5 : decode cX11_firms 5 = .ok (.aload_n 0, 1) := by decide +kernel
set_option maxRecDepth 20000 in
theorem ggX11_firms_X11_isCity : GoodIn wsX11_firms wsX11_isCity := goodIn_r _ [7, 8, 65, 66, 67, 68, 69, 70, 71, 72, 73, 74, 75, 76, 77, 78, 79, 80, 81, 82, 83, 84, 85, 86, 87, 88, 89, 90, 91, 92, 93, 94, 95] (by rfl) (by decide +kernel)
set_option maxRecDepth 20000 in
theorem gX11_firms_X11_isCity : GoodIn wsX11_firms (wsV RX11 209 RX11 yX11_isCity wsX11_isCity) := goodIn_app (goodIn_r _ [3, 4, 5, 6] (by rfl) (by decide +kernel)) ggX11_firms_X11_isCity
theorem dX11_firms_6 : decode cX11_firms 6 = .ok (.invokevirtual 209, 3) := by decide +kernel
theorem dX11_firms_9 : decode cX11_firms 9 = .ok (.ifCond .ne 6, 3) := by decide +kernel
theorem dX11_firms_15 : decode cX11_firms 15 = .ok (.aload_n 0, 1) := by decide +kernel
set_option maxRecDepth 20000 in
theorem ggX11_firms_X11_laysNow : GoodIn wsX11_firms wsX11_laysNow := goodIn_r _ [12, 2, 13, 14, 15, 16, 6, 17, 18, 19, 20, 21, 22, 23, 24, 25, 26, 27, 28, 29, 30, 31, 32, 33, 34, 35, 36, 37, 38, 39, 40, 41, 42, 43, 44, 45, 46, 47, 48, 65, 66, 67, 68, 69, 70, 71, 72, 73, 74, 75, 76, 77, 78, 79, 80, 81, 82, 83, 84, 85, 86, 87, 88, 89, 90, 91, 92, 93, 94, 95] (by rfl) (by decide +kernel)
set_option maxRecDepth 20000 in
theorem gX11_firms_X11_laysNow : GoodIn wsX11_firms (wsV RX11 251 RX11 yX11_laysNow wsX11_laysNow) := goodIn_app (goodIn_r _ [9, 10, 11, 6] (by rfl) (by decide +kernel)) ggX11_firms_X11_laysNow
theorem dX11_firms_16 : decode cX11_firms 16 = .ok (.invokevirtual 251, 3) := by decide +kernel
theorem dX11_firms_19 : decode cX11_firms 19 = .ok (.iconst 0, 1) := by decide +kernel
theorem dX11_firms_20 : decode cX11_firms 20 = .ok (.istore_n 1, 1) := by decide +kernel
theorem dX11_firms_21 : decode cX11_firms 21 = .ok (.iconst 0, 1) := by decide +kernel
theorem dX11_firms_22 : decode cX11_firms 22 = .ok (.istore_n 2, 1) := by decide +kernel
theorem dX11_firms_23 : decode cX11_firms 23 = .ok (.iload_n 2, 1) := by decide +kernel
theorem dX11_firms_24 : decode cX11_firms 24 = .ok (.iconst 1, 1) := by decide +kernel
theorem dX11_firms_25 : decode cX11_firms 25 = .ok (.aload_n 0, 1) := by decide +kernel
theorem dX11_firms_26 : decode cX11_firms 26 = .ok (.getfield 34, 3) := by decide +kernel
theorem dX11_firms_29 : decode cX11_firms 29 = .ok (.iconst 1, 1) := by decide +kernel
theorem dX11_firms_30 : decode cX11_firms 30 = .ok (.iaload, 1) := by decide +kernel
theorem dX11_firms_31 : decode cX11_firms 31 = .ok (.ishl, 1) := by decide +kernel
theorem dX11_firms_32 : decode cX11_firms 32 = .ok (.if_icmp .ge 25, 3) := by decide +kernel
theorem dX11_firms_57 : decode cX11_firms 57 = .ok (.iload_n 1, 1) := by decide +kernel
theorem dX11_firms_58 : decode cX11_firms 58 = .ok (.ireturn, 1) := by decide +kernel
theorem dX11_firms_35 : decode cX11_firms 35 = .ok (.iload_n 1, 1) := by decide +kernel
theorem dX11_firms_36 : decode cX11_firms 36 = .ok (.aload_n 0, 1) := by decide +kernel
theorem dX11_firms_37 : decode cX11_firms 37 = .ok (.iload_n 2, 1) := by decide +kernel
set_option maxRecDepth 20000 in
theorem ggX11_firms_X11_leaveOf : GoodIn wsX11_firms wsX11_leaveOf := goodIn_r _ [52, 2, 46, 47, 6, 48, 53, 54, 55, 56, 18, 25, 26, 27, 28, 29, 57, 58, 59, 60, 61, 62, 63, 64, 65, 66, 67, 68, 69, 70, 71, 72, 73, 74, 75, 76, 77, 78, 79, 80, 81, 82, 83, 84, 85, 86, 87, 88, 89, 90, 91, 92, 93, 94, 95] (by rfl) (by decide +kernel)
set_option maxRecDepth 20000 in
theorem gX11_firms_X11_leaveOf : GoodIn wsX11_firms (wsV RX11 373 RX11 yX11_leaveOf wsX11_leaveOf) := goodIn_app (goodIn_r _ [49, 50, 51, 6] (by rfl) (by decide +kernel)) ggX11_firms_X11_leaveOf
theorem dX11_firms_38 : decode cX11_firms 38 = .ok (.invokevirtual 373, 3) := by decide +kernel
theorem dX11_firms_49 : decode cX11_firms 49 = .ok (.iadd, 1) := by decide +kernel
theorem dX11_firms_50 : decode cX11_firms 50 = .ok (.istore_n 1, 1) := by decide +kernel
theorem dX11_firms_51 : decode cX11_firms 51 = .ok (.iinc 2 1, 3) := by decide +kernel
theorem dX11_firms_54 : decode cX11_firms 54 = .ok (.goto (-31), 3) := by decide +kernel
theorem dX11_firms_41 : decode cX11_firms 41 = .ok (.ifCond .ne 7, 3) := by decide +kernel
theorem dX11_firms_48 : decode cX11_firms 48 = .ok (.iconst 0, 1) := by decide +kernel
theorem dX11_firms_44 : decode cX11_firms 44 = .ok (.iconst 1, 1) := by decide +kernel
theorem dX11_firms_45 : decode cX11_firms 45 = .ok (.goto 4, 3) := by decide +kernel
theorem dX11_firms_12 : decode cX11_firms 12 = .ok (.bipush (-2), 2) := by decide +kernel
theorem dX11_firms_14 : decode cX11_firms 14 = .ok (.ireturn, 1) := by decide +kernel
theorem dX11_firmest_0 : decode cX11_firmest 0 = .ok (.aload_n 0, 1) := by decide +kernel
theorem dX11_firmest_1 : decode cX11_firmest 1 = .ok (.iconst 0, 1) := by decide +kernel
theorem dX11_firmest_2 : decode cX11_firmest 2 = .ok (.putfield 59, 3) := by decide +kernel
theorem dX11_firmest_5 : decode cX11_firmest 5 = .ok (.aload_n 0, 1) := by decide +kernel
set_option maxRecDepth 20000 in
theorem ggX11_firmest_X11_isCity : GoodIn wsX11_firmest wsX11_isCity := goodIn_r _ [7, 8, 68, 69, 70, 71, 72, 73, 74, 75, 76, 77, 78, 79, 80, 81, 82, 83, 84, 85, 86, 87, 88, 89, 90, 91, 92, 93, 94, 95, 96, 97, 98] (by rfl) (by decide +kernel)
set_option maxRecDepth 20000 in
theorem gX11_firmest_X11_isCity : GoodIn wsX11_firmest (wsV RX11 209 RX11 yX11_isCity wsX11_isCity) := goodIn_app (goodIn_r _ [3, 4, 5, 6] (by rfl) (by decide +kernel)) ggX11_firmest_X11_isCity
theorem dX11_firmest_6 : decode cX11_firmest 6 = .ok (.invokevirtual 209, 3) := by decide +kernel
theorem dX11_firmest_9 : decode cX11_firmest 9 = .ok (.ifCond .ne 6, 3) := by decide +kernel
theorem dX11_firmest_15 : decode cX11_firmest 15 = .ok (.aload_n 0, 1) := by decide +kernel
set_option maxRecDepth 20000 in
theorem ggX11_firmest_X11_laysNow : GoodIn wsX11_firmest wsX11_laysNow := goodIn_r _ [12, 2, 13, 14, 15, 16, 6, 17, 18, 19, 20, 21, 22, 23, 24, 25, 26, 27, 28, 29, 30, 31, 32, 33, 34, 35, 36, 37, 38, 39, 40, 41, 42, 43, 44, 45, 46, 47, 48, 68, 69, 70, 71, 72, 73, 74, 75, 76, 77, 78, 79, 80, 81, 82, 83, 84, 85, 86, 87, 88, 89, 90, 91, 92, 93, 94, 95, 96, 97, 98] (by rfl) (by decide +kernel)
set_option maxRecDepth 20000 in
theorem gX11_firmest_X11_laysNow : GoodIn wsX11_firmest (wsV RX11 251 RX11 yX11_laysNow wsX11_laysNow) := goodIn_app (goodIn_r _ [9, 10, 11, 6] (by rfl) (by decide +kernel)) ggX11_firmest_X11_laysNow
theorem dX11_firmest_16 : decode cX11_firmest 16 = .ok (.invokevirtual 251, 3) := by decide +kernel
theorem dX11_firmest_19 : decode cX11_firmest 19 = .ok (.iconst 0, 1) := by decide +kernel
theorem dX11_firmest_20 : decode cX11_firmest 20 = .ok (.istore_n 1, 1) := by decide +kernel
theorem dX11_firmest_21 : decode cX11_firmest 21 = .ok (.iconst 0, 1) := by decide +kernel
theorem dX11_firmest_22 : decode cX11_firmest 22 = .ok (.istore_n 2, 1) := by decide +kernel
theorem dX11_firmest_23 : decode cX11_firmest 23 = .ok (.iload_n 2, 1) := by decide +kernel
theorem dX11_firmest_24 : decode cX11_firmest 24 = .ok (.iconst 1, 1) := by decide +kernel
theorem dX11_firmest_25 : decode cX11_firmest 25 = .ok (.aload_n 0, 1) := by decide +kernel
theorem dX11_firmest_26 : decode cX11_firmest 26 = .ok (.getfield 34, 3) := by decide +kernel
theorem dX11_firmest_29 : decode cX11_firmest 29 = .ok (.iconst 1, 1) := by decide +kernel
theorem dX11_firmest_30 : decode cX11_firmest 30 = .ok (.iaload, 1) := by decide +kernel
theorem dX11_firmest_31 : decode cX11_firmest 31 = .ok (.ishl, 1) := by decide +kernel
theorem dX11_firmest_32 : decode cX11_firmest 32 = .ok (.if_icmp .ge 30, 3) := by decide +kernel
theorem dX11_firmest_62 : decode cX11_firmest 62 = .ok (.iload_n 1, 1) := by decide +kernel
theorem dX11_firmest_63 : decode cX11_firmest 63 = .ok (.ireturn, 1) := by decide +kernel
theorem dX11_firmest_35 : decode cX11_firmest 35 = .ok (.iload_n 2, 1) := by decide +kernel
set_option maxRecDepth 20000 in
theorem ggX11_firmest_X11_sizeOf : GoodIn wsX11_firmest wsX11_sizeOf := goodIn_r _ [51] (by rfl) (by decide +kernel)
set_option maxRecDepth 20000 in
theorem gX11_firmest_X11_sizeOf : GoodIn wsX11_firmest (va_wsS RX11 297 yX11_sizeOf wsX11_sizeOf) := goodIn_app (goodIn_r _ [49, 50, 6] (by rfl) (by decide +kernel)) ggX11_firmest_X11_sizeOf
theorem dX11_firmest_36 : decode cX11_firmest 36 = .ok (.invokestatic 297, 3) := by decide +kernel
theorem dX11_firmest_39 : decode cX11_firmest 39 = .ok (.iload_n 1, 1) := by decide +kernel
theorem dX11_firmest_40 : decode cX11_firmest 40 = .ok (.invokestatic 297, 3) := by decide +kernel
theorem dX11_firmest_56 : decode cX11_firmest 56 = .ok (.iinc 2 1, 3) := by decide +kernel
theorem dX11_firmest_59 : decode cX11_firmest 59 = .ok (.goto (-36), 3) := by decide +kernel
theorem dX11_firmest_43 : decode cX11_firmest 43 = .ok (.if_icmp .le 13, 3) := by decide +kernel
theorem dX11_firmest_46 : decode cX11_firmest 46 = .ok (.aload_n 0, 1) := by decide +kernel
theorem dX11_firmest_47 : decode cX11_firmest 47 = .ok (.iload_n 2, 1) := by decide +kernel
set_option maxRecDepth 20000 in
theorem ggX11_firmest_X11_leaveOf : GoodIn wsX11_firmest wsX11_leaveOf := goodIn_r _ [55, 2, 46, 47, 6, 48, 56, 57, 58, 59, 18, 25, 26, 27, 28, 29, 60, 61, 62, 63, 64, 65, 66, 67, 68, 69, 70, 71, 72, 73, 74, 75, 76, 77, 78, 79, 80, 81, 82, 83, 84, 85, 86, 87, 88, 89, 90, 91, 92, 93, 94, 95, 96, 97, 98] (by rfl) (by decide +kernel)
set_option maxRecDepth 20000 in
theorem gX11_firmest_X11_leaveOf : GoodIn wsX11_firmest (wsV RX11 373 RX11 yX11_leaveOf wsX11_leaveOf) := goodIn_app (goodIn_r _ [52, 53, 54, 6] (by rfl) (by decide +kernel)) ggX11_firmest_X11_leaveOf
theorem dX11_firmest_48 : decode cX11_firmest 48 = .ok (.invokevirtual 373, 3) := by decide +kernel
theorem dX11_firmest_51 : decode cX11_firmest 51 = .ok (.ifCond .ne 5, 3) := by decide +kernel
theorem dX11_firmest_54 : decode cX11_firmest 54 = .ok (.iload_n 2, 1) := by decide +kernel
theorem dX11_firmest_55 : decode cX11_firmest 55 = .ok (.istore_n 1, 1) := by decide +kernel
theorem dX11_firmest_12 : decode cX11_firmest 12 = .ok (.bipush (-2), 2) := by decide +kernel
theorem dX11_firmest_14 : decode cX11_firmest 14 = .ok (.ireturn, 1) := by decide +kernel
theorem dX11_wins_0 : decode cX11_wins 0 = .ok (.aload_n 0, 1) := by decide +kernel
theorem dX11_wins_1 : decode cX11_wins 1 = .ok (.iconst 0, 1) := by decide +kernel
theorem dX11_wins_2 : decode cX11_wins 2 = .ok (.putfield 59, 3) := by decide +kernel
theorem dX11_wins_5 : decode cX11_wins 5 = .ok (.aload_n 0, 1) := by decide +kernel
theorem dX11_wins_6 : decode cX11_wins 6 = .ok (.iload_n 1, 1) := by decide +kernel
set_option maxRecDepth 20000 in
theorem ggX11_wins_X11_isSet : GoodIn wsX11_wins wsX11_isSet := goodIn_r _ [6, 7, 8, 9, 10, 5, 11, 12, 13, 14, 15, 72, 73, 74, 75, 76, 77, 78, 79, 80, 81, 82, 83, 84, 85, 86, 87, 88, 89, 90, 91, 92, 93, 94, 95, 96, 97, 98, 99, 100, 101, 102] (by rfl) (by decide +kernel)
set_option maxRecDepth 20000 in
theorem gX11_wins_X11_isSet : GoodIn wsX11_wins (wsV RX11 370 RX11 yX11_isSet wsX11_isSet) := goodIn_app (goodIn_r _ [2, 3, 4, 5] (by rfl) (by decide +kernel)) ggX11_wins_X11_isSet
theorem dX11_wins_7 : decode cX11_wins 7 = .ok (.invokevirtual 370, 3) := by decide +kernel
theorem dX11_wins_10 : decode cX11_wins 10 = .ok (.ifCond .eq 20, 3) := by decide +kernel
theorem dX11_wins_30 : decode cX11_wins 30 = .ok (.sipush (-10000), 3) := by decide +kernel
theorem dX11_wins_33 : decode cX11_wins 33 = .ok (.ireturn, 1) := by decide +kernel
theorem dX11_wins_13 : decode cX11_wins 13 = .ok (.aload_n 0, 1) := by decide +kernel
theorem dX11_wins_14 : decode cX11_wins 14 = .ok (.iload_n 2, 1) := by decide +kernel
theorem dX11_wins_15 : decode cX11_wins 15 = .ok (.i2l, 1) := by decide +kernel
set_option maxRecDepth 20000 in
theorem ggX11_wins_X11_isPerson : GoodIn wsX11_wins wsX11_isPerson := goodIn_r _ [19, 7, 13, 14, 5, 15, 72, 73, 74, 75, 76, 77, 78, 79, 80, 81, 82, 83, 84, 85, 86, 87, 88, 89, 90, 91, 92, 93, 94, 95, 96, 97, 98, 99, 100, 101, 102] (by rfl) (by decide +kernel)
set_option maxRecDepth 20000 in
theorem gX11_wins_X11_isPerson : GoodIn wsX11_wins (wsV RX11 206 RX11 yX11_isPerson wsX11_isPerson) := goodIn_app (goodIn_r _ [16, 17, 18, 5] (by rfl) (by decide +kernel)) ggX11_wins_X11_isPerson
theorem dX11_wins_16 : decode cX11_wins 16 = .ok (.invokevirtual 206, 3) := by decide +kernel
theorem dX11_wins_19 : decode cX11_wins 19 = .ok (.ifCond .eq 11, 3) := by decide +kernel
theorem dX11_wins_22 : decode cX11_wins 22 = .ok (.iload_n 1, 1) := by decide +kernel
theorem dX11_wins_23 : decode cX11_wins 23 = .ok (.iload_n 2, 1) := by decide +kernel
set_option maxRecDepth 20000 in
theorem ggX11_wins_X11_isBit : GoodIn wsX11_wins wsX11_isBit := goodIn_r _ [22] (by rfl) (by decide +kernel)
set_option maxRecDepth 20000 in
theorem gX11_wins_X11_isBit : GoodIn wsX11_wins (va_wsS RX11 239 yX11_isBit wsX11_isBit) := goodIn_app (goodIn_r _ [20, 21, 5] (by rfl) (by decide +kernel)) ggX11_wins_X11_isBit
theorem dX11_wins_24 : decode cX11_wins 24 = .ok (.invokestatic 239, 3) := by decide +kernel
theorem dX11_wins_27 : decode cX11_wins 27 = .ok (.ifCond .ne 7, 3) := by decide +kernel
theorem dX11_wins_34 : decode cX11_wins 34 = .ok (.aload_n 0, 1) := by decide +kernel
set_option maxRecDepth 20000 in
theorem ggX11_wins_X11_laysNow : GoodIn wsX11_wins wsX11_laysNow := goodIn_r _ [26, 7, 27, 28, 29, 30, 5, 31, 32, 33, 34, 35, 36, 37, 38, 39, 40, 41, 42, 43, 44, 45, 46, 47, 48, 49, 50, 51, 52, 53, 54, 55, 56, 57, 58, 59, 20, 21, 22, 72, 73, 74, 75, 76, 77, 78, 79, 80, 81, 82, 83, 84, 85, 86, 87, 88, 89, 90, 91, 92, 93, 94, 95, 96, 97, 98, 99, 100, 101, 102] (by rfl) (by decide +kernel)
set_option maxRecDepth 20000 in
theorem gX11_wins_X11_laysNow : GoodIn wsX11_wins (wsV RX11 251 RX11 yX11_laysNow wsX11_laysNow) := goodIn_app (goodIn_r _ [23, 24, 25, 5] (by rfl) (by decide +kernel)) ggX11_wins_X11_laysNow
theorem dX11_wins_35 : decode cX11_wins 35 = .ok (.invokevirtual 251, 3) := by decide +kernel
theorem dX11_wins_38 : decode cX11_wins 38 = .ok (.aload_n 0, 1) := by decide +kernel
theorem dX11_wins_39 : decode cX11_wins 39 = .ok (.iload_n 1, 1) := by decide +kernel
theorem dX11_wins_40 : decode cX11_wins 40 = .ok (.iload_n 2, 1) := by decide +kernel
set_option maxRecDepth 20000 in
theorem ggX11_wins_X11_winsOf : GoodIn wsX11_wins wsX11_winsOf := goodIn_r _ [63, 32, 20, 21, 5, 22, 39, 40, 41, 42, 43, 64, 65, 66, 67, 7, 68, 69, 70, 71, 72, 73, 74, 75, 76, 77, 78, 79, 80, 81, 82, 83, 84, 85, 86, 87, 88, 89, 90, 91, 92, 93, 94, 95, 96, 97, 98, 99, 100, 101, 102] (by rfl) (by decide +kernel)
set_option maxRecDepth 20000 in
theorem gX11_wins_X11_winsOf : GoodIn wsX11_wins (wsV RX11 367 RX11 yX11_winsOf wsX11_winsOf) := goodIn_app (goodIn_r _ [60, 61, 62, 5] (by rfl) (by decide +kernel)) ggX11_wins_X11_winsOf
theorem dX11_wins_41 : decode cX11_wins 41 = .ok (.invokevirtual 367, 3) := by decide +kernel
theorem dX11_wins_44 : decode cX11_wins 44 = .ok (.ireturn, 1) := by decide +kernel
set_option maxHeartbeats 4000000 in
set_option maxRecDepth 100000 in
theorem a_X11_lays (l : Launch) (G : va_G) (ct : Nat → ClassId) (a0 : Nat) (n0_0 : Int32) (a1 : Nat) (a2 : Nat) (a3 : Nat) (a4 : Nat) (a5 : Nat) (n0_6 : Int32) (n0_7 : Int32) (n0_8 : Int32) (n0_9 : Int32) (n0_10 : Int32) (l0_11 : Int64) (n0_12 : Int32) (n0_13 : Int32) (n0_14 : Int32) (n0_15 : Int32) (a6 : Nat) (a7 : Nat) (a8 : Nat) (a9 : Nat) (a10 : Nat) (a11 : Nat) (a12 : Nat) (a13 : Nat) (n0_24 : Int32) (n0_25 : Int32) (n0_26 : Int32) (n0_27 : Int32) (a14 : Nat) (n0_29 : Int32) (n0_30 : Int32) (f7 : Nat → Int32) (f8 : Nat → Int32) (f9 : Nat → Int32) (f11 : Nat → Int32) (f12 : Nat → Int32) (f13 : Nat → Int32) (p0 : Int32) (p1 : Int32) (hp_n0_6 : rg 0 900 n0_6) (hp_f7 : hsI f7) (hp_f8 : psI f8) (hp_f9 : ar 0 7 f9) (hp_f11 : ar (-1) 7 f11) (hp_f13 : ar (-1) 7 f13) : Met l yX11_lays wsX11_lays ({ frames := 6, cells := 0, slots := 0, locals := 133 }) (va_Pc [.ref a0, .int p0, .int p1] (wrP G ct [(a0, .inr (11, [.int n0_0, .ref a1, .ref a2, .ref a3, .ref a4, .ref a5, .int n0_6, .int n0_7, .int n0_8, .int n0_9, .int n0_10, .long l0_11, .int n0_12, .int n0_13, .int n0_14, .int n0_15, .ref a6, .ref a7, .ref a8, .ref a9, .ref a10, .ref a11, .ref a12, .ref a13, .int n0_24, .int n0_25, .int n0_26, .int n0_27, .ref a14, .int n0_29, .int n0_30])), (a7, .inl (ct 0, 15, .inl f7)), (a8, .inl (ct 0, 200, .inl f8)), (a9, .inl (ct 0, 1000, .inl f9)), (a11, .inl (ct 0, 8, .inl f11)), (a12, .inl (ct 0, 8, .inl f12)), (a13, .inl (ct 0, 8, .inl f13))])) (va_Qi (fun (r : Int32) (u : SU) => rg (-2) 7 r ∧ (r = 0 → rg 0 7 p0) ∧ (¬ r = (-2) → rg 0 7 p0) ∧ (r = 0 → rg 0 7 p1) ∧ (¬ r = (-2) → rg 0 7 p1) ∧ ar (-1) 7 (u.2.1 0) ∧ ar (-1) 7 (u.2.1 2) ∧ rg 0 0 (u.1 0) ∧ True) (fun u t => va_P G vwCl ((fun u : SU => [(a0, .inr (11, [.int (u.1 0), .ref a1, .ref a2, .ref a3, .ref a4, .ref a5, .int n0_6, .int n0_7, .int n0_8, .int n0_9, .int n0_10, .long l0_11, .int n0_12, .int n0_13, .int n0_14, .int n0_15, .ref a6, .ref a7, .ref a8, .ref a9, .ref a10, .ref a11, .ref a12, .ref a13, .int (u.1 1), .int (u.1 2), .int (u.1 3), .int (u.1 4), .ref a14, .int n0_29, .int n0_30])), (a7, .inl (ct 0, 15, .inl f7)), (a8, .inl (ct 0, 200, .inl f8)), (a9, .inl (ct 0, 1000, .inl f9)), (a11, .inl (ct 0, 8, .inl (u.2.1 0))), (a12, .inl (ct 0, 8, .inl (u.2.1 1))), (a13, .inl (ct 0, 8, .inl (u.2.1 2)))]) u) t.heap) (aset [(a0, .inr (11, [.int n0_0, .ref a1, .ref a2, .ref a3, .ref a4, .ref a5, .int n0_6, .int n0_7, .int n0_8, .int n0_9, .int n0_10, .long l0_11, .int n0_12, .int n0_13, .int n0_14, .int n0_15, .ref a6, .ref a7, .ref a8, .ref a9, .ref a10, .ref a11, .ref a12, .ref a13, .int n0_24, .int n0_25, .int n0_26, .int n0_27, .ref a14, .int n0_29, .int n0_30])), (a7, .inl (ct 0, 15, .inl f7)), (a8, .inl (ct 0, 200, .inl f8)), (a9, .inl (ct 0, 1000, .inl f9)), (a11, .inl (ct 0, 8, .inl f11)), (a12, .inl (ct 0, 8, .inl f12)), (a13, .inl (ct 0, 8, .inl f13))])) 0 0 (aset [(a0, .inr (11, [.int n0_0, .ref a1, .ref a2, .ref a3, .ref a4, .ref a5, .int n0_6, .int n0_7, .int n0_8, .int n0_9, .int n0_10, .long l0_11, .int n0_12, .int n0_13, .int n0_14, .int n0_15, .ref a6, .ref a7, .ref a8, .ref a9, .ref a10, .ref a11, .ref a12, .ref a13, .int n0_24, .int n0_25, .int n0_26, .int n0_27, .ref a14, .int n0_29, .int n0_30])), (a7, .inl (ct 0, 15, .inl f7)), (a8, .inl (ct 0, 200, .inl f8)), (a9, .inl (ct 0, 1000, .inl f9)), (a11, .inl (ct 0, 8, .inl f11)), (a12, .inl (ct 0, 8, .inl f12)), (a13, .inl (ct 0, 8, .inl f13))]) := by
  refine Met.ofW (cc := cX11_lays) (maxL := 3) (ret := (some .int)) (by decide) rfl ?_
  intro p e s m args below meth c s₁ B hml hv
  obtain ⟨rfl, hP, hK, hD0⟩ := hv
  have hx := B.exec
  have hb := B.bytes
  have hr := B.returns
  have hts := atoms_spec (ws := wsX11_lays) B.pre
  have hown : s.vm.findClass RX11 = some m.cls := findClass_of_methodNamed B.named
  have hlocks := B.notSynchronized
  have hD := hD0.aself
  generalize hAe : aset [(a0, .inr (11, [.int n0_0, .ref a1, .ref a2, .ref a3, .ref a4, .ref a5, .int n0_6, .int n0_7, .int n0_8, .int n0_9, .int n0_10, .long l0_11, .int n0_12, .int n0_13, .int n0_14, .int n0_15, .ref a6, .ref a7, .ref a8, .ref a9, .ref a10, .ref a11, .ref a12, .ref a13, .int n0_24, .int n0_25, .int n0_26, .int n0_27, .ref a14, .int n0_29, .int n0_30])), (a7, .inl (ct 0, 15, .inl f7)), (a8, .inl (ct 0, 200, .inl f8)), (a9, .inl (ct 0, 1000, .inl f9)), (a11, .inl (ct 0, 8, .inl f11)), (a12, .inl (ct 0, 8, .inl f12)), (a13, .inl (ct 0, 8, .inl f13))] = A at hD ⊢
  have hS : va_S A s.heap s.heap [] := va_S.rf
  have hl := lv_entry ([.ref a0, .int p0, .int p1]) (n := 3) (Nat.le_of_ble_eq_true rfl)
  rw [lg_entry_eq]
  generalize (lg_sl ([.ref a0, .int p0, .int p1]) ++ List.replicate (3 - (lg_sl ([.ref a0, .int p0, .int p1])).length) Slot.unset).toArray = ls at hl ⊢
  have hl : lv_has ls 3 [(0, .ref a0), (1, .int p0), (2, .int p1)] := hl
  refine lv_aload_n hx hb dX11_lays_0 rfl (lv_at hl 0 rfl) ?_
  refine lv_iconst (v := 0) hx hb dX11_lays_1 (by decide) ?_
  refine va_put (D := G) (ci := 11) (v := .int 0) (ty := .int) (C := RX11) (T := TX11) (N := 31) hx hb hts (by decide +kernel) tyX11 tyX11_ok nmX11 hown hK.1 hP hD hS 0 rfl rfl 0 (by decide) (hts (.fieldLink RX11 59 "CardHolderModel" "thrown" "I") (by decide +kernel)) (fun _ h9 => h9) rfl (by decide +kernel) rfl rfl (Nat.le_of_ble_eq_true rfl) dX11_lays_2 (fun H locs hP hD hS => ?_)
  refine lv_aload_n hx hb dX11_lays_5 rfl (lv_at hl 0 rfl) ?_
  refine lv_iload_n hx hb dX11_lays_6 rfl (lv_at hl 1 rfl) ?_
  refine lv_iload_n hx hb dX11_lays_7 rfl (lv_at hl 2 rfl) ?_
  refine wj_calli (wr := []) (w1 := (fun u : SU => [(a0, .inr (11, [.int 0, .ref a1, .ref a2, .ref a3, .ref a4, .ref a5, .int n0_6, .int n0_7, .int n0_8, .int n0_9, .int n0_10, .long l0_11, .int n0_12, .int n0_13, .int n0_14, .int n0_15, .ref a6, .ref a7, .ref a8, .ref a9, .ref a10, .ref a11, .ref a12, .ref a13, .int (u.1 0), .int (u.1 1), .int (u.1 2), .int (u.1 3), .ref a14, .int n0_29, .int n0_30])), (a7, .inl (ct 0, 15, .inl f7)), (a8, .inl (ct 0, 200, .inl f8)), (a9, .inl (ct 0, 1000, .inl f9)), (a11, .inl (ct 0, 8, .inl (u.2.1 0))), (a12, .inl (ct 0, 8, .inl (u.2.1 1))), (a13, .inl (ct 0, 8, .inl (u.2.1 2)))])) (va_runV (As := [.int p0, .int p1]) (rest := []) ⟨hx, hb, hml, hown, hts⟩ (a_X11_isDuel l G ct a0 (0 : Int32) a1 a2 a3 a4 a5 n0_6 n0_7 n0_8 n0_9 n0_10 l0_11 n0_12 n0_13 n0_14 n0_15 a6 a7 a8 a9 a10 a11 a12 a13 n0_24 n0_25 n0_26 n0_27 a14 n0_29 n0_30 f7 f8 f9 f11 f12 f13 p0 p1 hp_n0_6 hp_f7 hp_f8 hp_f9 hp_f11 hp_f13) (cwV 2 hts gX11_lays_X11_isDuel rfl rfl rfl (by decide +kernel) ⟨Nat.le_of_ble_eq_true rfl, Nat.le_of_ble_eq_true rfl⟩) (wr_preV 11 0 hK (hP.sub [0, 1, 2, 3, 4, 5, 6] rfl) (hD.sub [0, 1, 2, 3, 4, 5, 6] (by decide) rfl) rfl rfl) rfl rfl hl.1 rfl (lv_room (Nat.le_of_ble_eq_true rfl)) dX11_lays_8 ⟨Nat.zero_le _, Nat.zero_le _⟩) hS hP hD [0, 1, 2, 3, 4, 5, 6] [] rfl rfl (by decide) (fun _ => rfl) (fun r8 ur8 H locs wr8 hP hD hS => ?_)
  have hP : va_P G vwCl [(a0, .inr (11, [.int 0, .ref a1, .ref a2, .ref a3, .ref a4, .ref a5, .int n0_6, .int n0_7, .int n0_8, .int n0_9, .int n0_10, .long l0_11, .int n0_12, .int n0_13, .int n0_14, .int n0_15, .ref a6, .ref a7, .ref a8, .ref a9, .ref a10, .ref a11, .ref a12, .ref a13, .int (ur8.1 0), .int (ur8.1 1), .int (ur8.1 2), .int (ur8.1 3), .ref a14, .int n0_29, .int n0_30])), (a7, .inl (ct 0, 15, .inl f7)), (a8, .inl (ct 0, 200, .inl f8)), (a9, .inl (ct 0, 1000, .inl f9)), (a11, .inl (ct 0, 8, .inl (ur8.2.1 0))), (a12, .inl (ct 0, 8, .inl (ur8.2.1 1))), (a13, .inl (ct 0, 8, .inl (ur8.2.1 2)))] H := hP.sub [0, 1, 2, 3, 4, 5, 6] rfl
  have hD : va_D A [(a0, .inr (11, [.int 0, .ref a1, .ref a2, .ref a3, .ref a4, .ref a5, .int n0_6, .int n0_7, .int n0_8, .int n0_9, .int n0_10, .long l0_11, .int n0_12, .int n0_13, .int n0_14, .int n0_15, .ref a6, .ref a7, .ref a8, .ref a9, .ref a10, .ref a11, .ref a12, .ref a13, .int (ur8.1 0), .int (ur8.1 1), .int (ur8.1 2), .int (ur8.1 3), .ref a14, .int n0_29, .int n0_30])), (a7, .inl (ct 0, 15, .inl f7)), (a8, .inl (ct 0, 200, .inl f8)), (a9, .inl (ct 0, 1000, .inl f9)), (a11, .inl (ct 0, 8, .inl (ur8.2.1 0))), (a12, .inl (ct 0, 8, .inl (ur8.2.1 1))), (a13, .inl (ct 0, 8, .inl (ur8.2.1 2)))] := hD.sub [0, 1, 2, 3, 4, 5, 6] (by decide) rfl
  obtain ⟨p_1, p_2, p_3, p_4, p_5, p_6, p_7, -⟩ := wr8
  refine lv_if_eq (tgt := 23) hx hb dX11_lays_11 (by decide) (fun c11 => ?_) (fun c11 => ?_)
  · have h_8 : rg 0 0 r8 := r_eq_l_i (e := 0) (f := 0) c11 p_1 (rgn 0 (x := 0) (by decide)) (by decide)
    refine lv_bipush (v := (-2)) hx hb dX11_lays_23 (by decide) ?_
    exact W.iret (v := (-2)) hx hb hr (fun t ht hW => ⟨⟨(-2), (fun k => ([0, ur8.1 0, ur8.1 1, ur8.1 2, ur8.1 3] : List Int32).getD k 0, fun k => ([ur8.2.1 0, ur8.2.1 1, ur8.2.1 2] : List (Nat → Int32)).getD k (fun _ => 0), fun k => ([] : List (Nat → Int64)).getD k (fun _ => 0)), rfl, ⟨(rg_w (c := (-2)) (d := 7) (rgn (-2) (x := (-2)) (by decide)) (by decide)), (fun hq => absurd hq (rne (rgn (-2) (x := (-2)) (by decide)) (y := 0) (c := 0) (by decide) (by decide))), (fun hq => absurd (req (rgn (-2) (x := (-2)) (by decide)) (y := (-2)) (by decide)) hq), (fun hq => absurd hq (rne (rgn (-2) (x := (-2)) (by decide)) (y := 0) (c := 0) (by decide) (by decide))), (fun hq => absurd (req (rgn (-2) (x := (-2)) (by decide)) (y := (-2)) (by decide)) hq), p_4, p_5, (rgn 0 (x := 0) (by decide)), trivial⟩, hp_at ht hP⟩, hS.F ht⟩) hS.2.2 dX11_lays_25
  · have h_9 : rg 1 1 r8 := r_ne_lo_i c11 p_1 (by decide) (by decide)
    have h_10 : rg 0 7 p0 := (p_2 (rne h_9 (y := 0) (c := 0) (by decide) (by decide)))
    have h_11 : rg 0 7 p1 := (p_3 (rne h_9 (y := 0) (c := 0) (by decide) (by decide)))
    refine lv_aload_n hx hb dX11_lays_14 rfl (lv_at hl 0 rfl) ?_
    refine lv_iload_n hx hb dX11_lays_15 rfl (lv_at hl 1 rfl) ?_
    refine lv_iload_n hx hb dX11_lays_16 rfl (lv_at hl 2 rfl) ?_
    refine ro_calli (va_runV (As := [.int p0, .int p1]) (rest := []) ⟨hx, hb, hml, hown, hts⟩ (a_X11_laidBy l G ct a0 (0 : Int32) a1 a2 a3 a4 a5 n0_6 n0_7 n0_8 n0_9 n0_10 l0_11 n0_12 n0_13 n0_14 n0_15 a6 a7 a8 a9 a10 a11 a12 a13 (ur8.1 0) (ur8.1 1) (ur8.1 2) (ur8.1 3) a14 n0_29 n0_30 f7 f8 (ur8.2.1 0) p0 p1 hp_n0_6 hp_f7 hp_f8 p_4 h_10 h_11 (p_6 (rne h_9 (y := 0) (c := 0) (by decide) (by decide))) (p_7 (rne h_9 (y := 0) (c := 0) (by decide) (by decide)))) (cwV 2 hts gX11_lays_X11_laidBy rfl rfl rfl (by decide +kernel) ⟨Nat.le_of_ble_eq_true rfl, Nat.le_of_ble_eq_true rfl⟩) (ro_preV 11 0 hK (hP.sub [0, 1, 2, 4] rfl) rfl rfl) rfl rfl hl.1 rfl (lv_room (Nat.le_of_ble_eq_true rfl)) dX11_lays_17 ⟨Nat.zero_le _, Nat.zero_le _⟩) hS hP (fun r17 H locs wr17 hP hS => ?_)
    obtain ⟨p_12, -⟩ := wr17
    refine lv_goto (tgt := 25) hx hb dX11_lays_20 (by decide) ?_
    exact W.iret (v := r17) hx hb hr (fun t ht hW => ⟨⟨r17, (fun k => ([0, ur8.1 0, ur8.1 1, ur8.1 2, ur8.1 3] : List Int32).getD k 0, fun k => ([ur8.2.1 0, ur8.2.1 1, ur8.2.1 2] : List (Nat → Int32)).getD k (fun _ => 0), fun k => ([] : List (Nat → Int64)).getD k (fun _ => 0)), rfl, ⟨(rg_w (c := (-2)) (d := 7) p_12 (by decide)), (fun _ => h_10), (fun _ => h_10), (fun _ => h_11), (fun _ => h_11), p_4, p_5, (rgn 0 (x := 0) (by decide)), trivial⟩, hp_at ht hP⟩, hS.F ht⟩) hS.2.2 dX11_lays_25

set_option maxHeartbeats 4000000 in
set_option maxRecDepth 100000 in
theorem a_X11_reply (l : Launch) (G : va_G) (ct : Nat → ClassId) (a0 : Nat) (n0_0 : Int32) (a1 : Nat) (a2 : Nat) (a3 : Nat) (a4 : Nat) (a5 : Nat) (n0_6 : Int32) (n0_7 : Int32) (n0_8 : Int32) (n0_9 : Int32) (n0_10 : Int32) (l0_11 : Int64) (n0_12 : Int32) (n0_13 : Int32) (n0_14 : Int32) (n0_15 : Int32) (a6 : Nat) (a7 : Nat) (a8 : Nat) (a9 : Nat) (a10 : Nat) (a11 : Nat) (a12 : Nat) (a13 : Nat) (n0_24 : Int32) (n0_25 : Int32) (n0_26 : Int32) (n0_27 : Int32) (a14 : Nat) (n0_29 : Int32) (n0_30 : Int32) (f7 : Nat → Int32) (f8 : Nat → Int32) (f9 : Nat → Int32) (f11 : Nat → Int32) (f12 : Nat → Int32) (f13 : Nat → Int32) (p0 : Int32) (p1 : Int32) (hp_n0_6 : rg 0 900 n0_6) (hp_f7 : hsI f7) (hp_f8 : psI f8) (hp_f9 : ar 0 7 f9) (hp_f11 : ar (-1) 7 f11) (hp_f13 : ar (-1) 7 f13) : Met l yX11_reply wsX11_reply ({ frames := 6, cells := 0, slots := 0, locals := 133 }) (va_Pc [.ref a0, .int p0, .int p1] (wrP G ct [(a0, .inr (11, [.int n0_0, .ref a1, .ref a2, .ref a3, .ref a4, .ref a5, .int n0_6, .int n0_7, .int n0_8, .int n0_9, .int n0_10, .long l0_11, .int n0_12, .int n0_13, .int n0_14, .int n0_15, .ref a6, .ref a7, .ref a8, .ref a9, .ref a10, .ref a11, .ref a12, .ref a13, .int n0_24, .int n0_25, .int n0_26, .int n0_27, .ref a14, .int n0_29, .int n0_30])), (a7, .inl (ct 0, 15, .inl f7)), (a8, .inl (ct 0, 200, .inl f8)), (a9, .inl (ct 0, 1000, .inl f9)), (a11, .inl (ct 0, 8, .inl f11)), (a12, .inl (ct 0, 8, .inl f12)), (a13, .inl (ct 0, 8, .inl f13))])) (va_Qi (fun (r : Int32) (u : SU) => rg (-2) 7 r ∧ (r = 0 → rg 0 7 p0) ∧ (¬ r = (-2) → rg 0 7 p0) ∧ (r = 0 → rg 0 7 p1) ∧ (¬ r = (-2) → rg 0 7 p1) ∧ ar (-1) 7 (u.2.1 0) ∧ ar (-1) 7 (u.2.1 2) ∧ rg 0 0 (u.1 0) ∧ True) (fun u t => va_P G vwCl ((fun u : SU => [(a0, .inr (11, [.int (u.1 0), .ref a1, .ref a2, .ref a3, .ref a4, .ref a5, .int n0_6, .int n0_7, .int n0_8, .int n0_9, .int n0_10, .long l0_11, .int n0_12, .int n0_13, .int n0_14, .int n0_15, .ref a6, .ref a7, .ref a8, .ref a9, .ref a10, .ref a11, .ref a12, .ref a13, .int (u.1 1), .int (u.1 2), .int (u.1 3), .int (u.1 4), .ref a14, .int n0_29, .int n0_30])), (a7, .inl (ct 0, 15, .inl f7)), (a8, .inl (ct 0, 200, .inl f8)), (a9, .inl (ct 0, 1000, .inl f9)), (a11, .inl (ct 0, 8, .inl (u.2.1 0))), (a12, .inl (ct 0, 8, .inl (u.2.1 1))), (a13, .inl (ct 0, 8, .inl (u.2.1 2)))]) u) t.heap) (aset [(a0, .inr (11, [.int n0_0, .ref a1, .ref a2, .ref a3, .ref a4, .ref a5, .int n0_6, .int n0_7, .int n0_8, .int n0_9, .int n0_10, .long l0_11, .int n0_12, .int n0_13, .int n0_14, .int n0_15, .ref a6, .ref a7, .ref a8, .ref a9, .ref a10, .ref a11, .ref a12, .ref a13, .int n0_24, .int n0_25, .int n0_26, .int n0_27, .ref a14, .int n0_29, .int n0_30])), (a7, .inl (ct 0, 15, .inl f7)), (a8, .inl (ct 0, 200, .inl f8)), (a9, .inl (ct 0, 1000, .inl f9)), (a11, .inl (ct 0, 8, .inl f11)), (a12, .inl (ct 0, 8, .inl f12)), (a13, .inl (ct 0, 8, .inl f13))])) 0 0 (aset [(a0, .inr (11, [.int n0_0, .ref a1, .ref a2, .ref a3, .ref a4, .ref a5, .int n0_6, .int n0_7, .int n0_8, .int n0_9, .int n0_10, .long l0_11, .int n0_12, .int n0_13, .int n0_14, .int n0_15, .ref a6, .ref a7, .ref a8, .ref a9, .ref a10, .ref a11, .ref a12, .ref a13, .int n0_24, .int n0_25, .int n0_26, .int n0_27, .ref a14, .int n0_29, .int n0_30])), (a7, .inl (ct 0, 15, .inl f7)), (a8, .inl (ct 0, 200, .inl f8)), (a9, .inl (ct 0, 1000, .inl f9)), (a11, .inl (ct 0, 8, .inl f11)), (a12, .inl (ct 0, 8, .inl f12)), (a13, .inl (ct 0, 8, .inl f13))]) := by
  refine Met.ofW (cc := cX11_reply) (maxL := 3) (ret := (some .int)) (by decide) rfl ?_
  intro p e s m args below meth c s₁ B hml hv
  obtain ⟨rfl, hP, hK, hD0⟩ := hv
  have hx := B.exec
  have hb := B.bytes
  have hr := B.returns
  have hts := atoms_spec (ws := wsX11_reply) B.pre
  have hown : s.vm.findClass RX11 = some m.cls := findClass_of_methodNamed B.named
  have hlocks := B.notSynchronized
  have hD := hD0.aself
  generalize hAe : aset [(a0, .inr (11, [.int n0_0, .ref a1, .ref a2, .ref a3, .ref a4, .ref a5, .int n0_6, .int n0_7, .int n0_8, .int n0_9, .int n0_10, .long l0_11, .int n0_12, .int n0_13, .int n0_14, .int n0_15, .ref a6, .ref a7, .ref a8, .ref a9, .ref a10, .ref a11, .ref a12, .ref a13, .int n0_24, .int n0_25, .int n0_26, .int n0_27, .ref a14, .int n0_29, .int n0_30])), (a7, .inl (ct 0, 15, .inl f7)), (a8, .inl (ct 0, 200, .inl f8)), (a9, .inl (ct 0, 1000, .inl f9)), (a11, .inl (ct 0, 8, .inl f11)), (a12, .inl (ct 0, 8, .inl f12)), (a13, .inl (ct 0, 8, .inl f13))] = A at hD ⊢
  have hS : va_S A s.heap s.heap [] := va_S.rf
  have hl := lv_entry ([.ref a0, .int p0, .int p1]) (n := 3) (Nat.le_of_ble_eq_true rfl)
  rw [lg_entry_eq]
  generalize (lg_sl ([.ref a0, .int p0, .int p1]) ++ List.replicate (3 - (lg_sl ([.ref a0, .int p0, .int p1])).length) Slot.unset).toArray = ls at hl ⊢
  have hl : lv_has ls 3 [(0, .ref a0), (1, .int p0), (2, .int p1)] := hl
  refine lv_aload_n hx hb dX11_reply_0 rfl (lv_at hl 0 rfl) ?_
  refine lv_iconst (v := 0) hx hb dX11_reply_1 (by decide) ?_
  refine va_put (D := G) (ci := 11) (v := .int 0) (ty := .int) (C := RX11) (T := TX11) (N := 31) hx hb hts (by decide +kernel) tyX11 tyX11_ok nmX11 hown hK.1 hP hD hS 0 rfl rfl 0 (by decide) (hts (.fieldLink RX11 59 "CardHolderModel" "thrown" "I") (by decide +kernel)) (fun _ h9 => h9) rfl (by decide +kernel) rfl rfl (Nat.le_of_ble_eq_true rfl) dX11_reply_2 (fun H locs hP hD hS => ?_)
  refine lv_aload_n hx hb dX11_reply_5 rfl (lv_at hl 0 rfl) ?_
  refine lv_iload_n hx hb dX11_reply_6 rfl (lv_at hl 1 rfl) ?_
  refine lv_iload_n hx hb dX11_reply_7 rfl (lv_at hl 2 rfl) ?_
  refine wj_calli (wr := []) (w1 := (fun u : SU => [(a0, .inr (11, [.int 0, .ref a1, .ref a2, .ref a3, .ref a4, .ref a5, .int n0_6, .int n0_7, .int n0_8, .int n0_9, .int n0_10, .long l0_11, .int n0_12, .int n0_13, .int n0_14, .int n0_15, .ref a6, .ref a7, .ref a8, .ref a9, .ref a10, .ref a11, .ref a12, .ref a13, .int (u.1 0), .int (u.1 1), .int (u.1 2), .int (u.1 3), .ref a14, .int n0_29, .int n0_30])), (a7, .inl (ct 0, 15, .inl f7)), (a8, .inl (ct 0, 200, .inl f8)), (a9, .inl (ct 0, 1000, .inl f9)), (a11, .inl (ct 0, 8, .inl (u.2.1 0))), (a12, .inl (ct 0, 8, .inl (u.2.1 1))), (a13, .inl (ct 0, 8, .inl (u.2.1 2)))])) (va_runV (As := [.int p0, .int p1]) (rest := []) ⟨hx, hb, hml, hown, hts⟩ (a_X11_isDuel l G ct a0 (0 : Int32) a1 a2 a3 a4 a5 n0_6 n0_7 n0_8 n0_9 n0_10 l0_11 n0_12 n0_13 n0_14 n0_15 a6 a7 a8 a9 a10 a11 a12 a13 n0_24 n0_25 n0_26 n0_27 a14 n0_29 n0_30 f7 f8 f9 f11 f12 f13 p0 p1 hp_n0_6 hp_f7 hp_f8 hp_f9 hp_f11 hp_f13) (cwV 2 hts gX11_reply_X11_isDuel rfl rfl rfl (by decide +kernel) ⟨Nat.le_of_ble_eq_true rfl, Nat.le_of_ble_eq_true rfl⟩) (wr_preV 11 0 hK (hP.sub [0, 1, 2, 3, 4, 5, 6] rfl) (hD.sub [0, 1, 2, 3, 4, 5, 6] (by decide) rfl) rfl rfl) rfl rfl hl.1 rfl (lv_room (Nat.le_of_ble_eq_true rfl)) dX11_reply_8 ⟨Nat.zero_le _, Nat.zero_le _⟩) hS hP hD [0, 1, 2, 3, 4, 5, 6] [] rfl rfl (by decide) (fun _ => rfl) (fun r8 ur8 H locs wr8 hP hD hS => ?_)
  have hP : va_P G vwCl [(a0, .inr (11, [.int 0, .ref a1, .ref a2, .ref a3, .ref a4, .ref a5, .int n0_6, .int n0_7, .int n0_8, .int n0_9, .int n0_10, .long l0_11, .int n0_12, .int n0_13, .int n0_14, .int n0_15, .ref a6, .ref a7, .ref a8, .ref a9, .ref a10, .ref a11, .ref a12, .ref a13, .int (ur8.1 0), .int (ur8.1 1), .int (ur8.1 2), .int (ur8.1 3), .ref a14, .int n0_29, .int n0_30])), (a7, .inl (ct 0, 15, .inl f7)), (a8, .inl (ct 0, 200, .inl f8)), (a9, .inl (ct 0, 1000, .inl f9)), (a11, .inl (ct 0, 8, .inl (ur8.2.1 0))), (a12, .inl (ct 0, 8, .inl (ur8.2.1 1))), (a13, .inl (ct 0, 8, .inl (ur8.2.1 2)))] H := hP.sub [0, 1, 2, 3, 4, 5, 6] rfl
  have hD : va_D A [(a0, .inr (11, [.int 0, .ref a1, .ref a2, .ref a3, .ref a4, .ref a5, .int n0_6, .int n0_7, .int n0_8, .int n0_9, .int n0_10, .long l0_11, .int n0_12, .int n0_13, .int n0_14, .int n0_15, .ref a6, .ref a7, .ref a8, .ref a9, .ref a10, .ref a11, .ref a12, .ref a13, .int (ur8.1 0), .int (ur8.1 1), .int (ur8.1 2), .int (ur8.1 3), .ref a14, .int n0_29, .int n0_30])), (a7, .inl (ct 0, 15, .inl f7)), (a8, .inl (ct 0, 200, .inl f8)), (a9, .inl (ct 0, 1000, .inl f9)), (a11, .inl (ct 0, 8, .inl (ur8.2.1 0))), (a12, .inl (ct 0, 8, .inl (ur8.2.1 1))), (a13, .inl (ct 0, 8, .inl (ur8.2.1 2)))] := hD.sub [0, 1, 2, 3, 4, 5, 6] (by decide) rfl
  obtain ⟨p_1, p_2, p_3, p_4, p_5, p_6, p_7, -⟩ := wr8
  refine lv_if_eq (tgt := 28) hx hb dX11_reply_11 (by decide) (fun c11 => ?_) (fun c11 => ?_)
  · have h_8 : rg 0 0 r8 := r_eq_l_i (e := 0) (f := 0) c11 p_1 (rgn 0 (x := 0) (by decide)) (by decide)
    refine lv_bipush (v := (-2)) hx hb dX11_reply_28 (by decide) ?_
    exact W.iret (v := (-2)) hx hb hr (fun t ht hW => ⟨⟨(-2), (fun k => ([0, ur8.1 0, ur8.1 1, ur8.1 2, ur8.1 3] : List Int32).getD k 0, fun k => ([ur8.2.1 0, ur8.2.1 1, ur8.2.1 2] : List (Nat → Int32)).getD k (fun _ => 0), fun k => ([] : List (Nat → Int64)).getD k (fun _ => 0)), rfl, ⟨(rg_w (c := (-2)) (d := 7) (rgn (-2) (x := (-2)) (by decide)) (by decide)), (fun hq => absurd hq (rne (rgn (-2) (x := (-2)) (by decide)) (y := 0) (c := 0) (by decide) (by decide))), (fun hq => absurd (req (rgn (-2) (x := (-2)) (by decide)) (y := (-2)) (by decide)) hq), (fun hq => absurd hq (rne (rgn (-2) (x := (-2)) (by decide)) (y := 0) (c := 0) (by decide) (by decide))), (fun hq => absurd (req (rgn (-2) (x := (-2)) (by decide)) (y := (-2)) (by decide)) hq), p_4, p_5, (rgn 0 (x := 0) (by decide)), trivial⟩, hp_at ht hP⟩, hS.F ht⟩) hS.2.2 dX11_reply_30
  · have h_9 : rg 1 1 r8 := r_ne_lo_i c11 p_1 (by decide) (by decide)
    have h_10 : rg 0 7 p0 := (p_2 (rne h_9 (y := 0) (c := 0) (by decide) (by decide)))
    have h_11 : rg 0 7 p1 := (p_3 (rne h_9 (y := 0) (c := 0) (by decide) (by decide)))
    refine lv_aload_n hx hb dX11_reply_14 rfl (lv_at hl 0 rfl) ?_
    refine lv_aload_n hx hb dX11_reply_15 rfl (lv_at hl 0 rfl) ?_
    refine lv_iload_n hx hb dX11_reply_16 rfl (lv_at hl 1 rfl) ?_
    refine lv_iload_n hx hb dX11_reply_17 rfl (lv_at hl 2 rfl) ?_
    refine ro_calli (va_runV (As := [.int p0, .int p1]) (rest := [.ref a0]) ⟨hx, hb, hml, hown, hts⟩ (a_X11_laidBy l G ct a0 (0 : Int32) a1 a2 a3 a4 a5 n0_6 n0_7 n0_8 n0_9 n0_10 l0_11 n0_12 n0_13 n0_14 n0_15 a6 a7 a8 a9 a10 a11 a12 a13 (ur8.1 0) (ur8.1 1) (ur8.1 2) (ur8.1 3) a14 n0_29 n0_30 f7 f8 (ur8.2.1 0) p0 p1 hp_n0_6 hp_f7 hp_f8 p_4 h_10 h_11 (p_6 (rne h_9 (y := 0) (c := 0) (by decide) (by decide))) (p_7 (rne h_9 (y := 0) (c := 0) (by decide) (by decide)))) (cwV 2 hts gX11_reply_X11_laidBy rfl rfl rfl (by decide +kernel) ⟨Nat.le_of_ble_eq_true rfl, Nat.le_of_ble_eq_true rfl⟩) (ro_preV 11 0 hK (hP.sub [0, 1, 2, 4] rfl) rfl rfl) rfl rfl hl.1 rfl (lv_room (Nat.le_of_ble_eq_true rfl)) dX11_reply_18 ⟨Nat.zero_le _, Nat.zero_le _⟩) hS hP (fun r18 H locs wr18 hP hS => ?_)
    obtain ⟨p_12, -⟩ := wr18
    refine lv_iload_n hx hb dX11_reply_21 rfl (lv_at hl 2 rfl) ?_
    refine ro_calli (va_runV (As := [.int r18, .int p1]) (rest := []) ⟨hx, hb, hml, hown, hts⟩ (a_X11_replyTo l G ct a0 (0 : Int32) a1 a2 a3 a4 a5 n0_6 n0_7 n0_8 n0_9 n0_10 l0_11 n0_12 n0_13 n0_14 n0_15 a6 a7 a8 a9 a10 a11 a12 a13 (ur8.1 0) (ur8.1 1) (ur8.1 2) (ur8.1 3) a14 n0_29 n0_30 f7 f8 (ur8.2.1 0) r18 p1 hp_n0_6 hp_f7 hp_f8 p_4 p_12 h_11 (p_7 (rne h_9 (y := 0) (c := 0) (by decide) (by decide)))) (cwV 2 hts gX11_reply_X11_replyTo rfl rfl rfl (by decide +kernel) ⟨Nat.le_of_ble_eq_true rfl, Nat.le_of_ble_eq_true rfl⟩) (ro_preV 11 0 hK (hP.sub [0, 1, 2, 4] rfl) rfl rfl) rfl rfl hl.1 rfl (lv_room (Nat.le_of_ble_eq_true rfl)) dX11_reply_22 ⟨Nat.zero_le _, Nat.zero_le _⟩) hS hP (fun r22 H locs wr22 hP hS => ?_)
    obtain ⟨p_13, -⟩ := wr22
    refine lv_goto (tgt := 30) hx hb dX11_reply_25 (by decide) ?_
    exact W.iret (v := r22) hx hb hr (fun t ht hW => ⟨⟨r22, (fun k => ([0, ur8.1 0, ur8.1 1, ur8.1 2, ur8.1 3] : List Int32).getD k 0, fun k => ([ur8.2.1 0, ur8.2.1 1, ur8.2.1 2] : List (Nat → Int32)).getD k (fun _ => 0), fun k => ([] : List (Nat → Int64)).getD k (fun _ => 0)), rfl, ⟨(rg_w (c := (-2)) (d := 7) p_13 (by decide)), (fun _ => h_10), (fun _ => h_10), (fun _ => h_11), (fun _ => h_11), p_4, p_5, (rgn 0 (x := 0) (by decide)), trivial⟩, hp_at ht hP⟩, hS.F ht⟩) hS.2.2 dX11_reply_30

set_option maxHeartbeats 4000000 in
set_option maxRecDepth 100000 in
theorem a_X11_winsOf (l : Launch) (G : va_G) (ct : Nat → ClassId) (a0 : Nat) (n0_0 : Int32) (a1 : Nat) (a2 : Nat) (a3 : Nat) (a4 : Nat) (a5 : Nat) (n0_6 : Int32) (n0_7 : Int32) (n0_8 : Int32) (n0_9 : Int32) (n0_10 : Int32) (l0_11 : Int64) (n0_12 : Int32) (n0_13 : Int32) (n0_14 : Int32) (n0_15 : Int32) (a6 : Nat) (a7 : Nat) (a8 : Nat) (a9 : Nat) (a10 : Nat) (a11 : Nat) (a12 : Nat) (a13 : Nat) (n0_24 : Int32) (n0_25 : Int32) (n0_26 : Int32) (n0_27 : Int32) (a14 : Nat) (n0_29 : Int32) (n0_30 : Int32) (f7 : Nat → Int32) (f8 : Nat → Int32) (f11 : Nat → Int32) (p0 : Int32) (p1 : Int32) (hp_n0_6 : rg 0 900 n0_6) (hp_f7 : hsI f7) (hp_f8 : psI f8) (hp_f11 : ar (-1) 7 f11) (hp_p1 : rg 0 7 p1) : Met l yX11_winsOf wsX11_winsOf ({ frames := 2, cells := 0, slots := 0, locals := 45 }) (va_Pc [.ref a0, .int p0, .int p1] (roP G ct [(a0, .inr (11, [.int n0_0, .ref a1, .ref a2, .ref a3, .ref a4, .ref a5, .int n0_6, .int n0_7, .int n0_8, .int n0_9, .int n0_10, .long l0_11, .int n0_12, .int n0_13, .int n0_14, .int n0_15, .ref a6, .ref a7, .ref a8, .ref a9, .ref a10, .ref a11, .ref a12, .ref a13, .int n0_24, .int n0_25, .int n0_26, .int n0_27, .ref a14, .int n0_29, .int n0_30])), (a7, .inl (ct 0, 15, .inl f7)), (a8, .inl (ct 0, 200, .inl f8)), (a11, .inl (ct 0, 8, .inl f11))])) (roQ (fun r => True)) 0 0 no := by
  refine Met.ofW (cc := cX11_winsOf) (maxL := 4) (ret := (some .int)) (by decide) rfl ?_
  intro p e s m args below meth c s₁ B hml hv
  obtain ⟨rfl, hP, hK⟩ := hv
  have hx := B.exec
  have hb := B.bytes
  have hr := B.returns
  have hts := atoms_spec (ws := wsX11_winsOf) B.pre
  have hown : s.vm.findClass RX11 = some m.cls := findClass_of_methodNamed B.named
  have hlocks := B.notSynchronized
  have hS : va_S no s.heap s.heap [] := va_S.rf
  have hl := lv_entry ([.ref a0, .int p0, .int p1]) (n := 4) (Nat.le_of_ble_eq_true rfl)
  rw [lg_entry_eq]
  generalize (lg_sl ([.ref a0, .int p0, .int p1]) ++ List.replicate (4 - (lg_sl ([.ref a0, .int p0, .int p1])).length) Slot.unset).toArray = ls at hl ⊢
  have hl : lv_has ls 4 [(0, .ref a0), (1, .int p0), (2, .int p1)] := hl
  refine lv_aload_n hx hb dX11_winsOf_0 rfl (lv_at hl 0 rfl) ?_
  refine va_get (D := G) (ci := 11) (v := .ref a11) (C := RX11) (T := TX11) (N := 31) hx hb hts (by decide +kernel) hown hK.1 hP 0 rfl rfl 21 (by decide) (hts (.fieldLink RX11 47 "CardHolderModel" "holder" "[I") (by decide +kernel)) (fun _ h9 => h9) rfl dX11_winsOf_1 ?_
  refine lv_iload_n hx hb dX11_winsOf_4 rfl (lv_at hl 2 rfl) ?_
  refine va_iald hx hb hK.1 hP 3 0 rfl rfl (in_rg hp_p1 (by decide)) dX11_winsOf_5 ?_
  refine lv_topi (fun z5 gz5 => ?_)
  have hz5 : rg (-1) 7 z5 := by rw [gz5]; exact hp_f11 _
  refine lv_iconst (v := (-1)) hx hb dX11_winsOf_6 (by decide) ?_
  have j38 : ∀ (y38_0 : Int32) (H : Heap) (locs : List Loc) (ls : Array Slot), rg 0 1 y38_0 → va_P G vwCl [(a0, .inr (11, [.int n0_0, .ref a1, .ref a2, .ref a3, .ref a4, .ref a5, .int n0_6, .int n0_7, .int n0_8, .int n0_9, .int n0_10, .long l0_11, .int n0_12, .int n0_13, .int n0_14, .int n0_15, .ref a6, .ref a7, .ref a8, .ref a9, .ref a10, .ref a11, .ref a12, .ref a13, .int n0_24, .int n0_25, .int n0_26, .int n0_27, .ref a14, .int n0_29, .int n0_30])), (a7, .inl (ct 0, 15, .inl f7)), (a8, .inl (ct 0, 200, .inl f8)), (a11, .inl (ct 0, 8, .inl f11))] H → va_S no s.heap H locs → lv_has ls 4 [(0, .ref a0), (1, .int p0), (2, .int p1)] → W p l e (headSpec wsX11_winsOf ({ frames := 2, cells := 0, slots := 0, locals := 45 })).room s m ([.ref a0, .int p0, .int p1] : List Value).toArray below meth c H locs 0 0 (MQ below (roQ (fun r => True)) ([.ref a0, .int p0, .int p1] : List Value).toArray s 0 0 no) (F0 m 38 ls [.int y38_0]) := by
    intro y38_0 H locs ls hy38_0 hP hS hl
    refine lv_istore_n (lv' := [(3, .int y38_0), (0, .ref a0), (1, .int p0), (2, .int p1)]) hx hb dX11_winsOf_38 rfl hl (by decide) rfl (fun ls hl => ?_)
    refine lv_iload_n hx hb dX11_winsOf_39 rfl (lv_at hl 0 rfl) ?_
    have j53 : ∀ (y53_0 : Int32) (H : Heap) (locs : List Loc) (ls : Array Slot), va_P G vwCl [(a0, .inr (11, [.int n0_0, .ref a1, .ref a2, .ref a3, .ref a4, .ref a5, .int n0_6, .int n0_7, .int n0_8, .int n0_9, .int n0_10, .long l0_11, .int n0_12, .int n0_13, .int n0_14, .int n0_15, .ref a6, .ref a7, .ref a8, .ref a9, .ref a10, .ref a11, .ref a12, .ref a13, .int n0_24, .int n0_25, .int n0_26, .int n0_27, .ref a14, .int n0_29, .int n0_30])), (a7, .inl (ct 0, 15, .inl f7)), (a8, .inl (ct 0, 200, .inl f8)), (a11, .inl (ct 0, 8, .inl f11))] H → va_S no s.heap H locs → lv_has ls 4 [(0, .ref a0), (1, .int p0), (2, .int p1), (3, .int y38_0)] → W p l e (headSpec wsX11_winsOf ({ frames := 2, cells := 0, slots := 0, locals := 45 })).room s m ([.ref a0, .int p0, .int p1] : List Value).toArray below meth c H locs 0 0 (MQ below (roQ (fun r => True)) ([.ref a0, .int p0, .int p1] : List Value).toArray s 0 0 no) (F0 m 53 ls [.int y53_0]) := by
      intro y53_0 H locs ls  hP hS hl
      refine lv_aload_n hx hb dX11_winsOf_53 rfl (lv_at hl 0 rfl) ?_
      refine lv_aload_n hx hb dX11_winsOf_54 rfl (lv_at hl 0 rfl) ?_
      refine lv_iload_n hx hb dX11_winsOf_55 rfl (lv_at hl 2 rfl) ?_
      refine ro_calli (va_runV (As := [.int p1]) (rest := [.ref a0, .int y53_0]) ⟨hx, hb, hml, hown, hts⟩ (a_X11_handOf l G ct a0 n0_0 a1 a2 a3 a4 a5 n0_6 n0_7 n0_8 n0_9 n0_10 l0_11 n0_12 n0_13 n0_14 n0_15 a6 a7 a8 a9 a10 a11 a12 a13 n0_24 n0_25 n0_26 n0_27 a14 n0_29 n0_30 f7 f11 p1 hp_n0_6 hp_f7 hp_f11) (cwV 1 hts gX11_winsOf_X11_handOf rfl rfl rfl (by decide +kernel) ⟨Nat.le_of_ble_eq_true rfl, Nat.le_of_ble_eq_true rfl⟩) (ro_preV 11 0 hK (hP.sub [0, 1, 3] rfl) rfl rfl) rfl rfl hl.1 rfl (lv_room (Nat.le_of_ble_eq_true rfl)) dX11_winsOf_56 ⟨Nat.zero_le _, Nat.zero_le _⟩) hS hP (fun r56 H locs wr56 hP hS => ?_)
      obtain ⟨p_1, p_2, p_3, -⟩ := wr56
      refine lv_iconst (v := 1) hx hb dX11_winsOf_59 (by decide) ?_
      refine lv_iload_n hx hb dX11_winsOf_60 rfl (lv_at hl 2 rfl) ?_
      refine lv_ishl hx hb dX11_winsOf_61 ?_
      refine nm_shl (e1 := 1) (f := 128) hp_p1 (by decide) (fun z61 hz61 => ?_)
      refine lv_iconst (v := (-1)) hx hb dX11_winsOf_62 (by decide) ?_
      refine lv_ixor hx hb dX11_winsOf_63 ?_
      refine nm_0 (fun z63 => ?_)
      refine lv_iand hx hb dX11_winsOf_64 ?_
      refine nm_andl p_1 (by decide) (fun z64 hz64 => ?_)
      refine ro_calli (va_runV (As := [.int z64]) (rest := [.int y53_0]) ⟨hx, hb, hml, hown, hts⟩ (a_X11_worthOf l G ct a0 n0_0 a1 a2 a3 a4 a5 n0_6 n0_7 n0_8 n0_9 n0_10 l0_11 n0_12 n0_13 n0_14 n0_15 a6 a7 a8 a9 a10 a11 a12 a13 n0_24 n0_25 n0_26 n0_27 a14 n0_29 n0_30 f7 f8 z64 hp_n0_6 hp_f7 hp_f8) (cwV 1 hts gX11_winsOf_X11_worthOf rfl rfl rfl (by decide +kernel) ⟨Nat.le_of_ble_eq_true rfl, Nat.le_of_ble_eq_true rfl⟩) (ro_preV 11 0 hK (hP.sub [0, 1, 2] rfl) rfl rfl) rfl rfl hl.1 rfl (lv_room (Nat.le_of_ble_eq_true rfl)) dX11_winsOf_65 ⟨Nat.zero_le _, Nat.zero_le _⟩) hS hP (fun r65 H locs wr65 hP hS => ?_)
      refine lv_isub hx hb dX11_winsOf_68 ?_
      refine nm_0 (fun z68 => ?_)
      exact W.iret (v := z68) hx hb hr (fun t ht hW => ⟨⟨z68, (), rfl, trivial, trivial⟩, hS.F ht⟩) hS.2.2 dX11_winsOf_69
    refine lv_if_eq (tgt := 52) hx hb dX11_winsOf_40 (by decide) (fun c40 => ?_) (fun c40 => ?_)
    · have h_4 : rg 0 0 y38_0 := r_eq_l_i (e := 0) (f := 0) c40 hy38_0 (rgn 0 (x := 0) (by decide)) (by decide)
      refine lv_iconst (v := 0) hx hb dX11_winsOf_52 (by decide) ?_
      exact j53 (0 : Int32) _ _ ls hP hS (lv_sub hl [1, 2, 3, 0] rfl)
    · have h_5 : rg 1 1 y38_0 := r_ne_lo_i c40 hy38_0 (by decide) (by decide)
      refine lv_aload_n hx hb dX11_winsOf_43 rfl (lv_at hl 1 rfl) ?_
      refine lv_iload_n hx hb dX11_winsOf_44 rfl (lv_at hl 3 rfl) ?_
      refine lv_iconst (v := 0) hx hb dX11_winsOf_45 (by decide) ?_
      refine ro_calli (va_runV (As := [.int p1, .int 0]) (rest := []) ⟨hx, hb, hml, hown, hts⟩ (a_X11_of0 l G ct a0 n0_0 a1 a2 a3 a4 a5 n0_6 n0_7 n0_8 n0_9 n0_10 l0_11 n0_12 n0_13 n0_14 n0_15 a6 a7 a8 a9 a10 a11 a12 a13 n0_24 n0_25 n0_26 n0_27 a14 n0_29 n0_30 f8 p1 hp_n0_6 hp_f8 hp_p1) (cwV 2 hts gX11_winsOf_X11_of rfl rfl rfl (by decide +kernel) ⟨Nat.le_of_ble_eq_true rfl, Nat.le_of_ble_eq_true rfl⟩) (ro_preV 11 0 hK (hP.sub [0, 2] rfl) rfl rfl) rfl rfl hl.1 rfl (lv_room (Nat.le_of_ble_eq_true rfl)) dX11_winsOf_46 ⟨Nat.zero_le _, Nat.zero_le _⟩) hS hP (fun r46 H locs wr46 hP hS => ?_)
      refine lv_goto (tgt := 53) hx hb dX11_winsOf_49 (by decide) ?_
      exact j53 r46 _ _ ls hP hS (lv_sub hl [1, 2, 3, 0] rfl)
  have j37 : ∀ (H : Heap) (locs : List Loc) (ls : Array Slot), va_P G vwCl [(a0, .inr (11, [.int n0_0, .ref a1, .ref a2, .ref a3, .ref a4, .ref a5, .int n0_6, .int n0_7, .int n0_8, .int n0_9, .int n0_10, .long l0_11, .int n0_12, .int n0_13, .int n0_14, .int n0_15, .ref a6, .ref a7, .ref a8, .ref a9, .ref a10, .ref a11, .ref a12, .ref a13, .int n0_24, .int n0_25, .int n0_26, .int n0_27, .ref a14, .int n0_29, .int n0_30])), (a7, .inl (ct 0, 15, .inl f7)), (a8, .inl (ct 0, 200, .inl f8)), (a11, .inl (ct 0, 8, .inl f11))] H → va_S no s.heap H locs → lv_has ls 4 [(0, .ref a0), (1, .int p0), (2, .int p1)] → W p l e (headSpec wsX11_winsOf ({ frames := 2, cells := 0, slots := 0, locals := 45 })).room s m ([.ref a0, .int p0, .int p1] : List Value).toArray below meth c H locs 0 0 (MQ below (roQ (fun r => True)) ([.ref a0, .int p0, .int p1] : List Value).toArray s 0 0 no) (F0 m 37 ls []) := by
    intro  H locs ls  hP hS hl
    refine lv_iconst (v := 0) hx hb dX11_winsOf_37 (by decide) ?_
    exact j38 (0 : Int32) _ _ ls (rg_w (c := 0) (d := 1) (rgn 0 (x := 0) (by decide)) (by decide)) hP hS (lv_sub hl [0, 1, 2] rfl)
  refine lv_icmp_eq (tgt := 37) hx hb dX11_winsOf_7 (by decide) (fun c7 => ?_) (fun c7 => ?_)
  · have h_6 : rg (-1) (-1) z5 := r_eq_l_i (e := (-1)) (f := (-1)) c7 hz5 (rgn (-1) (x := (-1)) (by decide)) (by decide)
    exact j37 _ _ ls hP hS (lv_sub hl [0, 1, 2] rfl)
  · have h_7 : rg 0 7 z5 := r_ne_lo_i c7 hz5 (by decide) (by decide)
    refine lv_aload_n hx hb dX11_winsOf_10 rfl (lv_at hl 0 rfl) ?_
    refine va_get (D := G) (ci := 11) (v := .ref a11) (C := RX11) (T := TX11) (N := 31) hx hb hts (by decide +kernel) hown hK.1 hP 0 rfl rfl 21 (by decide) (hts (.fieldLink RX11 47 "CardHolderModel" "holder" "[I") (by decide +kernel)) (fun _ h9 => h9) rfl dX11_winsOf_11 ?_
    refine lv_iload_n hx hb dX11_winsOf_14 rfl (lv_at hl 2 rfl) ?_
    refine va_iald hx hb hK.1 hP 3 0 rfl rfl (in_rg hp_p1 (by decide)) dX11_winsOf_15 ?_
    refine ix_i (y := z5) gz5.symm ?_
    refine lv_iload_n hx hb dX11_winsOf_16 rfl (lv_at hl 2 rfl) ?_
    refine lv_icmp_eq (tgt := 37) hx hb dX11_winsOf_17 (by decide) (fun c17 => ?_) (fun c17 => ?_)
    · exact j37 _ _ ls hP hS (lv_sub hl [0, 1, 2] rfl)
    · refine lv_iload_n hx hb dX11_winsOf_20 rfl (lv_at hl 1 rfl) ?_
      refine lv_aload_n hx hb dX11_winsOf_21 rfl (lv_at hl 0 rfl) ?_
      refine va_get (D := G) (ci := 11) (v := .ref a11) (C := RX11) (T := TX11) (N := 31) hx hb hts (by decide +kernel) hown hK.1 hP 0 rfl rfl 21 (by decide) (hts (.fieldLink RX11 47 "CardHolderModel" "holder" "[I") (by decide +kernel)) (fun _ h9 => h9) rfl dX11_winsOf_22 ?_
      refine lv_iload_n hx hb dX11_winsOf_25 rfl (lv_at hl 2 rfl) ?_
      refine va_iald hx hb hK.1 hP 3 0 rfl rfl (in_rg hp_p1 (by decide)) dX11_winsOf_26 ?_
      refine ix_i (y := z5) gz5.symm ?_
      refine ro_calli (va_runS (As := [.int p0, .int z5]) (rest := []) ⟨hx, hb, hml, hown, hts⟩ (a_X11_isBit l G ct p0 z5) (va_cwS 2 hts gX11_winsOf_X11_isBit rfl rfl rfl (by decide +kernel) ⟨Nat.le_of_ble_eq_true rfl, Nat.le_of_ble_eq_true rfl⟩) (ro_pre hK (hP.sub [] rfl)) rfl rfl hl.1 rfl (lv_room (Nat.le_of_ble_eq_true rfl)) dX11_winsOf_27 ⟨Nat.zero_le _, Nat.zero_le _⟩) hS hP (fun r27 H locs wr27 hP hS => ?_)
      obtain ⟨p_8, -⟩ := wr27
      refine lv_if_eq (tgt := 37) hx hb dX11_winsOf_30 (by decide) (fun c30 => ?_) (fun c30 => ?_)
      · have h_9 : rg 0 0 r27 := r_eq_l_i (e := 0) (f := 0) c30 p_8 (rgn 0 (x := 0) (by decide)) (by decide)
        exact j37 _ _ ls hP hS (lv_sub hl [0, 1, 2] rfl)
      · have h_10 : rg 1 1 r27 := r_ne_lo_i c30 p_8 (by decide) (by decide)
        refine lv_iconst (v := 1) hx hb dX11_winsOf_33 (by decide) ?_
        refine lv_goto (tgt := 38) hx hb dX11_winsOf_34 (by decide) ?_
        exact j38 (1 : Int32) _ _ ls (rg_w (c := 0) (d := 1) (rgn 1 (x := 1) (by decide)) (by decide)) hP hS (lv_sub hl [0, 1, 2] rfl)

set_option maxHeartbeats 4000000 in
set_option maxRecDepth 100000 in
theorem a_X11_leaveOf (l : Launch) (G : va_G) (ct : Nat → ClassId) (a0 : Nat) (n0_0 : Int32) (a1 : Nat) (a2 : Nat) (a3 : Nat) (a4 : Nat) (a5 : Nat) (n0_6 : Int32) (n0_7 : Int32) (n0_8 : Int32) (n0_9 : Int32) (n0_10 : Int32) (l0_11 : Int64) (n0_12 : Int32) (n0_13 : Int32) (n0_14 : Int32) (n0_15 : Int32) (a6 : Nat) (a7 : Nat) (a8 : Nat) (a9 : Nat) (a10 : Nat) (a11 : Nat) (a12 : Nat) (a13 : Nat) (n0_24 : Int32) (n0_25 : Int32) (n0_26 : Int32) (n0_27 : Int32) (a14 : Nat) (n0_29 : Int32) (n0_30 : Int32) (f7 : Nat → Int32) (f8 : Nat → Int32) (f11 : Nat → Int32) (p0 : Int32) (hp_n0_6 : rg 0 900 n0_6) (hp_f7 : hsI f7) (hp_f8 : psI f8) (hp_f11 : ar (-1) 7 f11) : Met l yX11_leaveOf wsX11_leaveOf ({ frames := 3, cells := 0, slots := 0, locals := 68 }) (va_Pc [.ref a0, .int p0] (roP G ct [(a0, .inr (11, [.int n0_0, .ref a1, .ref a2, .ref a3, .ref a4, .ref a5, .int n0_6, .int n0_7, .int n0_8, .int n0_9, .int n0_10, .long l0_11, .int n0_12, .int n0_13, .int n0_14, .int n0_15, .ref a6, .ref a7, .ref a8, .ref a9, .ref a10, .ref a11, .ref a12, .ref a13, .int n0_24, .int n0_25, .int n0_26, .int n0_27, .ref a14, .int n0_29, .int n0_30])), (a7, .inl (ct 0, 15, .inl f7)), (a8, .inl (ct 0, 200, .inl f8)), (a11, .inl (ct 0, 8, .inl f11))])) (roQ (fun r => rg 0 255 r ∧ True)) 0 0 no := by
  refine Met.ofW (cc := cX11_leaveOf) (maxL := 4) (ret := (some .int)) (by decide) rfl ?_
  intro p e s m args below meth c s₁ B hml hv
  obtain ⟨rfl, hP, hK⟩ := hv
  have hx := B.exec
  have hb := B.bytes
  have hr := B.returns
  have hts := atoms_spec (ws := wsX11_leaveOf) B.pre
  have hown : s.vm.findClass RX11 = some m.cls := findClass_of_methodNamed B.named
  have hlocks := B.notSynchronized
  have hS : va_S no s.heap s.heap [] := va_S.rf
  have hl := lv_entry ([.ref a0, .int p0]) (n := 4) (Nat.le_of_ble_eq_true rfl)
  rw [lg_entry_eq]
  generalize (lg_sl ([.ref a0, .int p0]) ++ List.replicate (4 - (lg_sl ([.ref a0, .int p0])).length) Slot.unset).toArray = ls at hl ⊢
  have hl : lv_has ls 4 [(0, .ref a0), (1, .int p0)] := hl
  refine lv_iconst (v := 0) hx hb dX11_leaveOf_0 (by decide) ?_
  refine lv_istore_n (lv' := [(2, .int 0), (0, .ref a0), (1, .int p0)]) hx hb dX11_leaveOf_1 rfl hl (by decide) rfl (fun ls hl => ?_)
  refine lv_iconst (v := 0) hx hb dX11_leaveOf_2 (by decide) ?_
  refine lv_istore_n (lv' := [(3, .int 0), (2, .int 0), (0, .ref a0), (1, .int p0)]) hx hb dX11_leaveOf_3 rfl hl (by decide) rfl (fun ls hl => ?_)
  have j4 : ∀ (n : Nat) (x4_2 : Int32) (x4_3 : Int32) (H : Heap) (locs : List Loc) (ls : Array Slot), 2147483648 ≤ x4_3.toInt + (n : Int) → rg 0 255 x4_2 → rg 0 8 x4_3 → va_P G vwCl [(a0, .inr (11, [.int n0_0, .ref a1, .ref a2, .ref a3, .ref a4, .ref a5, .int n0_6, .int n0_7, .int n0_8, .int n0_9, .int n0_10, .long l0_11, .int n0_12, .int n0_13, .int n0_14, .int n0_15, .ref a6, .ref a7, .ref a8, .ref a9, .ref a10, .ref a11, .ref a12, .ref a13, .int n0_24, .int n0_25, .int n0_26, .int n0_27, .ref a14, .int n0_29, .int n0_30])), (a7, .inl (ct 0, 15, .inl f7)), (a8, .inl (ct 0, 200, .inl f8)), (a11, .inl (ct 0, 8, .inl f11))] H → va_S no s.heap H locs → lv_has ls 4 [(0, .ref a0), (1, .int p0), (2, .int x4_2), (3, .int x4_3)] → W p l e (headSpec wsX11_leaveOf ({ frames := 3, cells := 0, slots := 0, locals := 68 })).room s m ([.ref a0, .int p0] : List Value).toArray below meth c H locs 0 0 (MQ below (roQ (fun r => rg 0 255 r ∧ True)) ([.ref a0, .int p0] : List Value).toArray s 0 0 no) (F0 m 4 ls []) := by
    intro n
    induction n with
    | zero => intro x4_2 x4_3 H locs ls hn4 hx4_2 hx4_3 hP hS hl; exact absurd hn4 (by have := Int32.toInt_lt x4_3; have := Int32.le_toInt x4_3; omega)
    | succ n ih4 =>
      intro x4_2 x4_3 H locs ls hn4 hx4_2 hx4_3 hP hS hl
      refine lv_iload_n hx hb dX11_leaveOf_4 rfl (lv_at hl 3 rfl) ?_
      refine lv_aload_n hx hb dX11_leaveOf_5 rfl (lv_at hl 0 rfl) ?_
      refine va_get (D := G) (ci := 11) (v := .ref a7) (C := RX11) (T := TX11) (N := 31) hx hb hts (by decide +kernel) hown hK.1 hP 0 rfl rfl 17 (by decide) (hts (.fieldLink RX11 34 "CardHolderModel" "has" "[I") (by decide +kernel)) (fun _ h9 => h9) rfl dX11_leaveOf_6 ?_
      refine lv_iconst (v := 1) hx hb dX11_leaveOf_9 (by decide) ?_
      refine va_iald hx hb hK.1 hP 1 0 rfl rfl (in_lit (by decide)) dX11_leaveOf_10 ?_
      refine lv_topi (fun z10 gz10 => ?_)
      have hz10 : rg 0 8 z10 := by rw [gz10]; exact (hp_f7.1 0)
      refine lv_icmp_ge (tgt := 47) hx hb dX11_leaveOf_11 (by decide) (fun c11 => ?_) (fun c11 => ?_)
      · refine lv_iload_n hx hb dX11_leaveOf_47 rfl (lv_at hl 2 rfl) ?_
        exact W.iret (v := x4_2) hx hb hr (fun t ht hW => ⟨⟨x4_2, (), rfl, ⟨hx4_2, trivial⟩, trivial⟩, hS.F ht⟩) hS.2.2 dX11_leaveOf_48
      · have h_1 : rg 0 7 x4_3 := r_lt_l_i (nle_i c11) hx4_3 hz10 (by decide)
        have h_2 : rg 1 8 z10 := r_lt_r_i (nle_i c11) hx4_3 hz10 (by decide)
        refine lv_iload_n hx hb dX11_leaveOf_14 rfl (lv_at hl 2 rfl) ?_
        refine lv_iload_n hx hb dX11_leaveOf_15 rfl (lv_at hl 1 rfl) ?_
        refine lv_iload_n hx hb dX11_leaveOf_16 rfl (lv_at hl 3 rfl) ?_
        refine ro_calli (va_runS (As := [.int p0, .int x4_3]) (rest := [.int x4_2]) ⟨hx, hb, hml, hown, hts⟩ (a_X11_isBit l G ct p0 x4_3) (va_cwS 2 hts gX11_leaveOf_X11_isBit rfl rfl rfl (by decide +kernel) ⟨Nat.le_of_ble_eq_true rfl, Nat.le_of_ble_eq_true rfl⟩) (ro_pre hK (hP.sub [] rfl)) rfl rfl hl.1 rfl (lv_room (Nat.le_of_ble_eq_true rfl)) dX11_leaveOf_17 ⟨Nat.zero_le _, Nat.zero_le _⟩) hS hP (fun r17 H locs wr17 hP hS => ?_)
        obtain ⟨p_3, -⟩ := wr17
        have j39 : ∀ (y39_0 : Int32) (y39_1 : Int32) (H : Heap) (locs : List Loc) (ls : Array Slot), rg 0 128 y39_0 → rg 0 255 y39_1 → va_P G vwCl [(a0, .inr (11, [.int n0_0, .ref a1, .ref a2, .ref a3, .ref a4, .ref a5, .int n0_6, .int n0_7, .int n0_8, .int n0_9, .int n0_10, .long l0_11, .int n0_12, .int n0_13, .int n0_14, .int n0_15, .ref a6, .ref a7, .ref a8, .ref a9, .ref a10, .ref a11, .ref a12, .ref a13, .int n0_24, .int n0_25, .int n0_26, .int n0_27, .ref a14, .int n0_29, .int n0_30])), (a7, .inl (ct 0, 15, .inl f7)), (a8, .inl (ct 0, 200, .inl f8)), (a11, .inl (ct 0, 8, .inl f11))] H → va_S no s.heap H locs → lv_has ls 4 [(0, .ref a0), (1, .int p0), (2, .int x4_2), (3, .int x4_3)] → W p l e (headSpec wsX11_leaveOf ({ frames := 3, cells := 0, slots := 0, locals := 68 })).room s m ([.ref a0, .int p0] : List Value).toArray below meth c H locs 0 0 (MQ below (roQ (fun r => rg 0 255 r ∧ True)) ([.ref a0, .int p0] : List Value).toArray s 0 0 no) (F0 m 39 ls [.int y39_0, .int y39_1]) := by
          intro y39_0 y39_1 H locs ls hy39_0 hy39_1 hP hS hl
          refine lv_ior hx hb dX11_leaveOf_39 ?_
          refine nm_or (k := 8) (e1 := 0) (f := 255) hy39_1 hy39_0 (by decide) (fun z39 hz39 => ?_)
          refine lv_istore_n (lv' := [(2, .int z39), (0, .ref a0), (1, .int p0), (3, .int x4_3)]) hx hb dX11_leaveOf_40 rfl hl (by decide) rfl (fun ls hl => ?_)
          obtain ⟨z41, qz41⟩ : ∃ y : Int32, y = x4_3 + Int32.ofInt 1 := ⟨_, rfl⟩
          obtain ⟨hz41, ez41⟩ := inc_z (e := 1) (f := 8) h_1 qz41 (by decide)
          refine lv_iinc (v := z41) (lv' := [(3, .int z41), (2, .int z39), (0, .ref a0), (1, .int p0)]) hx hb dX11_leaveOf_41 hl (k := 3) rfl (qz41.symm) (by decide) rfl (fun ls hl => ?_)
          refine lv_goto (tgt := 4) hx hb dX11_leaveOf_44 (by decide) ?_
          exact ih4 z39 z41 _ _ ls (by have q := hn4; have := ez41; omega) hz39 (rg_w (c := 0) (d := 8) hz41 (by decide)) hP hS (lv_sub hl [2, 3, 1, 0] rfl)
        have j38 : ∀ (H : Heap) (locs : List Loc) (ls : Array Slot), va_P G vwCl [(a0, .inr (11, [.int n0_0, .ref a1, .ref a2, .ref a3, .ref a4, .ref a5, .int n0_6, .int n0_7, .int n0_8, .int n0_9, .int n0_10, .long l0_11, .int n0_12, .int n0_13, .int n0_14, .int n0_15, .ref a6, .ref a7, .ref a8, .ref a9, .ref a10, .ref a11, .ref a12, .ref a13, .int n0_24, .int n0_25, .int n0_26, .int n0_27, .ref a14, .int n0_29, .int n0_30])), (a7, .inl (ct 0, 15, .inl f7)), (a8, .inl (ct 0, 200, .inl f8)), (a11, .inl (ct 0, 8, .inl f11))] H → va_S no s.heap H locs → lv_has ls 4 [(0, .ref a0), (1, .int p0), (2, .int x4_2), (3, .int x4_3)] → W p l e (headSpec wsX11_leaveOf ({ frames := 3, cells := 0, slots := 0, locals := 68 })).room s m ([.ref a0, .int p0] : List Value).toArray below meth c H locs 0 0 (MQ below (roQ (fun r => rg 0 255 r ∧ True)) ([.ref a0, .int p0] : List Value).toArray s 0 0 no) (F0 m 38 ls [.int x4_2]) := by
          intro  H locs ls  hP hS hl
          refine lv_iconst (v := 0) hx hb dX11_leaveOf_38 (by decide) ?_
          exact j39 (0 : Int32) x4_2 _ _ ls (rg_w (c := 0) (d := 128) (rgn 0 (x := 0) (by decide)) (by decide)) hx4_2 hP hS (lv_sub hl [0, 1, 2, 3] rfl)
        refine lv_if_eq (tgt := 38) hx hb dX11_leaveOf_20 (by decide) (fun c20 => ?_) (fun c20 => ?_)
        · have h_4 : rg 0 0 r17 := r_eq_l_i (e := 0) (f := 0) c20 p_3 (rgn 0 (x := 0) (by decide)) (by decide)
          exact j38 _ _ ls hP hS (lv_sub hl [0, 1, 2, 3] rfl)
        · have h_5 : rg 1 1 r17 := r_ne_lo_i c20 p_3 (by decide) (by decide)
          refine lv_aload_n hx hb dX11_leaveOf_23 rfl (lv_at hl 0 rfl) ?_
          refine lv_iload_n hx hb dX11_leaveOf_24 rfl (lv_at hl 1 rfl) ?_
          refine lv_iload_n hx hb dX11_leaveOf_25 rfl (lv_at hl 3 rfl) ?_
          refine ro_calli (va_runV (As := [.int p0, .int x4_3]) (rest := [.int x4_2]) ⟨hx, hb, hml, hown, hts⟩ (a_X11_winsOf l G ct a0 n0_0 a1 a2 a3 a4 a5 n0_6 n0_7 n0_8 n0_9 n0_10 l0_11 n0_12 n0_13 n0_14 n0_15 a6 a7 a8 a9 a10 a11 a12 a13 n0_24 n0_25 n0_26 n0_27 a14 n0_29 n0_30 f7 f8 f11 p0 x4_3 hp_n0_6 hp_f7 hp_f8 hp_f11 h_1) (cwV 2 hts gX11_leaveOf_X11_winsOf rfl rfl rfl (by decide +kernel) ⟨Nat.le_of_ble_eq_true rfl, Nat.le_of_ble_eq_true rfl⟩) (ro_preV 11 0 hK (hP.sub [0, 1, 2, 3] rfl) rfl rfl) rfl rfl hl.1 rfl (lv_room (Nat.le_of_ble_eq_true rfl)) dX11_leaveOf_26 ⟨Nat.zero_le _, Nat.zero_le _⟩) hS hP (fun r26 H locs wr26 hP hS => ?_)
          refine lv_if_ge (tgt := 38) hx hb dX11_leaveOf_29 (by decide) (fun c29 => ?_) (fun c29 => ?_)
          · have h_6 : rg 0 2147483647 r26 := r_le_r_i c29 (rgn 0 (x := 0) (by decide)) (rg_t r26)
            exact j38 _ _ ls hP hS (lv_sub hl [0, 1, 2, 3] rfl)
          · have h_7 : rg (-2147483648) (-1) r26 := r_lt_l_i (nle_i c29) (rg_t r26) (rgn 0 (x := 0) (by decide)) (by decide)
            refine lv_iconst (v := 1) hx hb dX11_leaveOf_32 (by decide) ?_
            refine lv_iload_n hx hb dX11_leaveOf_33 rfl (lv_at hl 3 rfl) ?_
            refine lv_ishl hx hb dX11_leaveOf_34 ?_
            refine nm_shl (e1 := 1) (f := 128) h_1 (by decide) (fun z34 hz34 => ?_)
            refine lv_goto (tgt := 39) hx hb dX11_leaveOf_35 (by decide) ?_
            exact j39 z34 x4_2 _ _ ls (rg_w (c := 0) (d := 128) hz34 (by decide)) hx4_2 hP hS (lv_sub hl [0, 1, 2, 3] rfl)
  exact j4 4294967296 (0 : Int32) (0 : Int32) _ _ ls (ms_e (0 : Int32)) (rg_w (c := 0) (d := 255) (rgn 0 (x := 0) (by decide)) (by decide)) (rg_w (c := 0) (d := 8) (rgn 0 (x := 0) (by decide)) (by decide)) hP hS (lv_sub hl [2, 3, 1, 0] rfl)

set_option maxHeartbeats 4000000 in
set_option maxRecDepth 100000 in
theorem a_X11_firm (l : Launch) (G : va_G) (ct : Nat → ClassId) (a0 : Nat) (n0_0 : Int32) (a1 : Nat) (a2 : Nat) (a3 : Nat) (a4 : Nat) (a5 : Nat) (n0_6 : Int32) (n0_7 : Int32) (n0_8 : Int32) (n0_9 : Int32) (n0_10 : Int32) (l0_11 : Int64) (n0_12 : Int32) (n0_13 : Int32) (n0_14 : Int32) (n0_15 : Int32) (a6 : Nat) (a7 : Nat) (a8 : Nat) (a9 : Nat) (a10 : Nat) (a11 : Nat) (a12 : Nat) (a13 : Nat) (n0_24 : Int32) (n0_25 : Int32) (n0_26 : Int32) (n0_27 : Int32) (a14 : Nat) (n0_29 : Int32) (n0_30 : Int32) (f6 : Nat → Int32) (f7 : Nat → Int32) (f8 : Nat → Int32) (f9 : Nat → Int32) (f11 : Nat → Int32) (f12 : Nat → Int32) (f13 : Nat → Int32) (p0 : Int32) (hp_n0_6 : rg 0 900 n0_6) (hp_f7 : hsI f7) (hp_f8 : psI f8) (hp_f9 : ar 0 7 f9) (hp_f11 : ar (-1) 7 f11) (hp_f13 : ar (-1) 7 f13) : Met l yX11_firm wsX11_firm ({ frames := 5, cells := 0, slots := 0, locals := 111 }) (va_Pc [.ref a0, .int p0] (wrP G ct [(a0, .inr (11, [.int n0_0, .ref a1, .ref a2, .ref a3, .ref a4, .ref a5, .int n0_6, .int n0_7, .int n0_8, .int n0_9, .int n0_10, .long l0_11, .int n0_12, .int n0_13, .int n0_14, .int n0_15, .ref a6, .ref a7, .ref a8, .ref a9, .ref a10, .ref a11, .ref a12, .ref a13, .int n0_24, .int n0_25, .int n0_26, .int n0_27, .ref a14, .int n0_29, .int n0_30])), (a6, .inl (ct 0, 5, .inl f6)), (a7, .inl (ct 0, 15, .inl f7)), (a8, .inl (ct 0, 200, .inl f8)), (a9, .inl (ct 0, 1000, .inl f9)), (a11, .inl (ct 0, 8, .inl f11)), (a12, .inl (ct 0, 8, .inl f12)), (a13, .inl (ct 0, 8, .inl f13))])) (va_Qi (fun (r : Int32) (u : SU) => rg (-2) 1 r ∧ (r = 0 → rg 0 255 p0) ∧ (¬ r = (-2) → rg 0 255 p0) ∧ ar (-1) 7 (u.2.1 0) ∧ ar (-1) 7 (u.2.1 2) ∧ rg 0 0 (u.1 0) ∧ True) (fun u t => va_P G vwCl ((fun u : SU => [(a0, .inr (11, [.int (u.1 0), .ref a1, .ref a2, .ref a3, .ref a4, .ref a5, .int n0_6, .int n0_7, .int n0_8, .int n0_9, .int n0_10, .long l0_11, .int n0_12, .int n0_13, .int n0_14, .int n0_15, .ref a6, .ref a7, .ref a8, .ref a9, .ref a10, .ref a11, .ref a12, .ref a13, .int (u.1 1), .int (u.1 2), .int (u.1 3), .int (u.1 4), .ref a14, .int n0_29, .int n0_30])), (a6, .inl (ct 0, 5, .inl f6)), (a7, .inl (ct 0, 15, .inl f7)), (a8, .inl (ct 0, 200, .inl f8)), (a9, .inl (ct 0, 1000, .inl f9)), (a11, .inl (ct 0, 8, .inl (u.2.1 0))), (a12, .inl (ct 0, 8, .inl (u.2.1 1))), (a13, .inl (ct 0, 8, .inl (u.2.1 2)))]) u) t.heap) (aset [(a0, .inr (11, [.int n0_0, .ref a1, .ref a2, .ref a3, .ref a4, .ref a5, .int n0_6, .int n0_7, .int n0_8, .int n0_9, .int n0_10, .long l0_11, .int n0_12, .int n0_13, .int n0_14, .int n0_15, .ref a6, .ref a7, .ref a8, .ref a9, .ref a10, .ref a11, .ref a12, .ref a13, .int n0_24, .int n0_25, .int n0_26, .int n0_27, .ref a14, .int n0_29, .int n0_30])), (a6, .inl (ct 0, 5, .inl f6)), (a7, .inl (ct 0, 15, .inl f7)), (a8, .inl (ct 0, 200, .inl f8)), (a9, .inl (ct 0, 1000, .inl f9)), (a11, .inl (ct 0, 8, .inl f11)), (a12, .inl (ct 0, 8, .inl f12)), (a13, .inl (ct 0, 8, .inl f13))])) 0 0 (aset [(a0, .inr (11, [.int n0_0, .ref a1, .ref a2, .ref a3, .ref a4, .ref a5, .int n0_6, .int n0_7, .int n0_8, .int n0_9, .int n0_10, .long l0_11, .int n0_12, .int n0_13, .int n0_14, .int n0_15, .ref a6, .ref a7, .ref a8, .ref a9, .ref a10, .ref a11, .ref a12, .ref a13, .int n0_24, .int n0_25, .int n0_26, .int n0_27, .ref a14, .int n0_29, .int n0_30])), (a6, .inl (ct 0, 5, .inl f6)), (a7, .inl (ct 0, 15, .inl f7)), (a8, .inl (ct 0, 200, .inl f8)), (a9, .inl (ct 0, 1000, .inl f9)), (a11, .inl (ct 0, 8, .inl f11)), (a12, .inl (ct 0, 8, .inl f12)), (a13, .inl (ct 0, 8, .inl f13))]) := by
  refine Met.ofW (cc := cX11_firm) (maxL := 2) (ret := (some .int)) (by decide) rfl ?_
  intro p e s m args below meth c s₁ B hml hv
  obtain ⟨rfl, hP, hK, hD0⟩ := hv
  have hx := B.exec
  have hb := B.bytes
  have hr := B.returns
  have hts := atoms_spec (ws := wsX11_firm) B.pre
  have hown : s.vm.findClass RX11 = some m.cls := findClass_of_methodNamed B.named
  have hlocks := B.notSynchronized
  have hD := hD0.aself
  generalize hAe : aset [(a0, .inr (11, [.int n0_0, .ref a1, .ref a2, .ref a3, .ref a4, .ref a5, .int n0_6, .int n0_7, .int n0_8, .int n0_9, .int n0_10, .long l0_11, .int n0_12, .int n0_13, .int n0_14, .int n0_15, .ref a6, .ref a7, .ref a8, .ref a9, .ref a10, .ref a11, .ref a12, .ref a13, .int n0_24, .int n0_25, .int n0_26, .int n0_27, .ref a14, .int n0_29, .int n0_30])), (a6, .inl (ct 0, 5, .inl f6)), (a7, .inl (ct 0, 15, .inl f7)), (a8, .inl (ct 0, 200, .inl f8)), (a9, .inl (ct 0, 1000, .inl f9)), (a11, .inl (ct 0, 8, .inl f11)), (a12, .inl (ct 0, 8, .inl f12)), (a13, .inl (ct 0, 8, .inl f13))] = A at hD ⊢
  have hS : va_S A s.heap s.heap [] := va_S.rf
  have hl := lv_entry ([.ref a0, .int p0]) (n := 2) (Nat.le_of_ble_eq_true rfl)
  rw [lg_entry_eq]
  generalize (lg_sl ([.ref a0, .int p0]) ++ List.replicate (2 - (lg_sl ([.ref a0, .int p0])).length) Slot.unset).toArray = ls at hl ⊢
  have hl : lv_has ls 2 [(0, .ref a0), (1, .int p0)] := hl
  refine lv_aload_n hx hb dX11_firm_0 rfl (lv_at hl 0 rfl) ?_
  refine lv_iconst (v := 0) hx hb dX11_firm_1 (by decide) ?_
  refine va_put (D := G) (ci := 11) (v := .int 0) (ty := .int) (C := RX11) (T := TX11) (N := 31) hx hb hts (by decide +kernel) tyX11 tyX11_ok nmX11 hown hK.1 hP hD hS 0 rfl rfl 0 (by decide) (hts (.fieldLink RX11 59 "CardHolderModel" "thrown" "I") (by decide +kernel)) (fun _ h9 => h9) rfl (by decide +kernel) rfl rfl (Nat.le_of_ble_eq_true rfl) dX11_firm_2 (fun H locs hP hD hS => ?_)
  refine lv_aload_n hx hb dX11_firm_5 rfl (lv_at hl 0 rfl) ?_
  refine lv_iload_n hx hb dX11_firm_6 rfl (lv_at hl 1 rfl) ?_
  refine ro_calli (va_runV (As := [.int p0]) (rest := []) ⟨hx, hb, hml, hown, hts⟩ (a_X11_isSet l G ct a0 (0 : Int32) a1 a2 a3 a4 a5 n0_6 n0_7 n0_8 n0_9 n0_10 l0_11 n0_12 n0_13 n0_14 n0_15 a6 a7 a8 a9 a10 a11 a12 a13 n0_24 n0_25 n0_26 n0_27 a14 n0_29 n0_30 f6 f7 p0 hp_n0_6 hp_f7) (cwV 1 hts gX11_firm_X11_isSet rfl rfl rfl (by decide +kernel) ⟨Nat.le_of_ble_eq_true rfl, Nat.le_of_ble_eq_true rfl⟩) (ro_preV 11 0 hK (hP.sub [0, 1, 2] rfl) rfl rfl) rfl rfl hl.1 rfl (lv_room (Nat.le_of_ble_eq_true rfl)) dX11_firm_7 ⟨Nat.zero_le _, Nat.zero_le _⟩) hS hP (fun r7 H locs wr7 hP hS => ?_)
  obtain ⟨p_1, p_2, -⟩ := wr7
  refine lv_if_ne (tgt := 16) hx hb dX11_firm_10 (by decide) (fun c10 => ?_) (fun c10 => ?_)
  · have h_3 : rg 1 1 r7 := r_ne_lo_i c10 p_1 (by decide) (by decide)
    have h_4 : rg 0 255 p0 := (p_2 (rne h_3 (y := 0) (c := 0) (by decide) (by decide)))
    refine lv_aload_n hx hb dX11_firm_16 rfl (lv_at hl 0 rfl) ?_
    refine wj_callv (wr := [(a6, .inl (ct 0, 5, .inl f6))]) (w1 := (fun u : SU => [(a0, .inr (11, [.int 0, .ref a1, .ref a2, .ref a3, .ref a4, .ref a5, .int n0_6, .int n0_7, .int n0_8, .int n0_9, .int n0_10, .long l0_11, .int n0_12, .int n0_13, .int n0_14, .int n0_15, .ref a6, .ref a7, .ref a8, .ref a9, .ref a10, .ref a11, .ref a12, .ref a13, .int (u.1 0), .int (u.1 1), .int (u.1 2), .int (u.1 3), .ref a14, .int n0_29, .int n0_30])), (a7, .inl (ct 0, 15, .inl f7)), (a8, .inl (ct 0, 200, .inl f8)), (a9, .inl (ct 0, 1000, .inl f9)), (a11, .inl (ct 0, 8, .inl (u.2.1 0))), (a12, .inl (ct 0, 8, .inl (u.2.1 1))), (a13, .inl (ct 0, 8, .inl (u.2.1 2)))])) (va_runV (As := []) (rest := []) ⟨hx, hb, hml, hown, hts⟩ (a_X11_laysNow l G ct a0 (0 : Int32) a1 a2 a3 a4 a5 n0_6 n0_7 n0_8 n0_9 n0_10 l0_11 n0_12 n0_13 n0_14 n0_15 a6 a7 a8 a9 a10 a11 a12 a13 n0_24 n0_25 n0_26 n0_27 a14 n0_29 n0_30 f7 f8 f9 f11 f12 f13 hp_n0_6 hp_f7 hp_f8 hp_f9 hp_f11 hp_f13) (cwV 0 hts gX11_firm_X11_laysNow rfl rfl rfl (by decide +kernel) ⟨Nat.le_of_ble_eq_true rfl, Nat.le_of_ble_eq_true rfl⟩) (wr_preV 11 0 hK (hP.sub [0, 2, 3, 4, 5, 6, 7] rfl) (hD.sub [0, 2, 3, 4, 5, 6, 7] (by decide) rfl) rfl rfl) rfl rfl hl.1 rfl (lv_room (Nat.le_of_ble_eq_true rfl)) dX11_firm_17 ⟨Nat.zero_le _, Nat.zero_le _⟩) hS hP hD [0, 2, 3, 4, 5, 6, 7] [1] rfl rfl (by decide) (fun _ => rfl) (fun ur17 H locs wr17 hP hD hS => ?_)
    have hP : va_P G vwCl [(a0, .inr (11, [.int 0, .ref a1, .ref a2, .ref a3, .ref a4, .ref a5, .int n0_6, .int n0_7, .int n0_8, .int n0_9, .int n0_10, .long l0_11, .int n0_12, .int n0_13, .int n0_14, .int n0_15, .ref a6, .ref a7, .ref a8, .ref a9, .ref a10, .ref a11, .ref a12, .ref a13, .int (ur17.1 0), .int (ur17.1 1), .int (ur17.1 2), .int (ur17.1 3), .ref a14, .int n0_29, .int n0_30])), (a6, .inl (ct 0, 5, .inl f6)), (a7, .inl (ct 0, 15, .inl f7)), (a8, .inl (ct 0, 200, .inl f8)), (a9, .inl (ct 0, 1000, .inl f9)), (a11, .inl (ct 0, 8, .inl (ur17.2.1 0))), (a12, .inl (ct 0, 8, .inl (ur17.2.1 1))), (a13, .inl (ct 0, 8, .inl (ur17.2.1 2)))] H := hP.sub [1, 0, 2, 3, 4, 5, 6, 7] rfl
    have hD : va_D A [(a0, .inr (11, [.int 0, .ref a1, .ref a2, .ref a3, .ref a4, .ref a5, .int n0_6, .int n0_7, .int n0_8, .int n0_9, .int n0_10, .long l0_11, .int n0_12, .int n0_13, .int n0_14, .int n0_15, .ref a6, .ref a7, .ref a8, .ref a9, .ref a10, .ref a11, .ref a12, .ref a13, .int (ur17.1 0), .int (ur17.1 1), .int (ur17.1 2), .int (ur17.1 3), .ref a14, .int n0_29, .int n0_30])), (a6, .inl (ct 0, 5, .inl f6)), (a7, .inl (ct 0, 15, .inl f7)), (a8, .inl (ct 0, 200, .inl f8)), (a9, .inl (ct 0, 1000, .inl f9)), (a11, .inl (ct 0, 8, .inl (ur17.2.1 0))), (a12, .inl (ct 0, 8, .inl (ur17.2.1 1))), (a13, .inl (ct 0, 8, .inl (ur17.2.1 2)))] := hD.sub [1, 0, 2, 3, 4, 5, 6, 7] (by decide) rfl
    obtain ⟨p_5, p_6, -⟩ := wr17
    refine lv_aload_n hx hb dX11_firm_20 rfl (lv_at hl 0 rfl) ?_
    refine lv_iload_n hx hb dX11_firm_21 rfl (lv_at hl 1 rfl) ?_
    refine ro_calli (va_runV (As := [.int p0]) (rest := []) ⟨hx, hb, hml, hown, hts⟩ (a_X11_leaveOf l G ct a0 (0 : Int32) a1 a2 a3 a4 a5 n0_6 n0_7 n0_8 n0_9 n0_10 l0_11 n0_12 n0_13 n0_14 n0_15 a6 a7 a8 a9 a10 a11 a12 a13 (ur17.1 0) (ur17.1 1) (ur17.1 2) (ur17.1 3) a14 n0_29 n0_30 f7 f8 (ur17.2.1 0) p0 hp_n0_6 hp_f7 hp_f8 p_5) (cwV 1 hts gX11_firm_X11_leaveOf rfl rfl rfl (by decide +kernel) ⟨Nat.le_of_ble_eq_true rfl, Nat.le_of_ble_eq_true rfl⟩) (ro_preV 11 0 hK (hP.sub [0, 2, 3, 5] rfl) rfl rfl) rfl rfl hl.1 rfl (lv_room (Nat.le_of_ble_eq_true rfl)) dX11_firm_22 ⟨Nat.zero_le _, Nat.zero_le _⟩) hS hP (fun r22 H locs wr22 hP hS => ?_)
    obtain ⟨p_7, -⟩ := wr22
    refine lv_if_ne (tgt := 32) hx hb dX11_firm_25 (by decide) (fun c25 => ?_) (fun c25 => ?_)
    · have h_8 : rg 1 255 r22 := r_ne_lo_i c25 p_7 (by decide) (by decide)
      refine lv_iconst (v := 0) hx hb dX11_firm_32 (by decide) ?_
      exact W.iret (v := 0) hx hb hr (fun t ht hW => ⟨⟨0, (fun k => ([0, ur17.1 0, ur17.1 1, ur17.1 2, ur17.1 3] : List Int32).getD k 0, fun k => ([ur17.2.1 0, ur17.2.1 1, ur17.2.1 2] : List (Nat → Int32)).getD k (fun _ => 0), fun k => ([] : List (Nat → Int64)).getD k (fun _ => 0)), rfl, ⟨(rg_w (c := (-2)) (d := 1) (rgn 0 (x := 0) (by decide)) (by decide)), (fun _ => h_4), (fun _ => h_4), p_5, p_6, (rgn 0 (x := 0) (by decide)), trivial⟩, hp_at ht hP⟩, hS.F ht⟩) hS.2.2 dX11_firm_33
    · have h_9 : rg 0 0 r22 := r_eq_l_i (e := 0) (f := 0) c25 p_7 (rgn 0 (x := 0) (by decide)) (by decide)
      refine lv_iconst (v := 1) hx hb dX11_firm_28 (by decide) ?_
      refine lv_goto (tgt := 33) hx hb dX11_firm_29 (by decide) ?_
      exact W.iret (v := 1) hx hb hr (fun t ht hW => ⟨⟨1, (fun k => ([0, ur17.1 0, ur17.1 1, ur17.1 2, ur17.1 3] : List Int32).getD k 0, fun k => ([ur17.2.1 0, ur17.2.1 1, ur17.2.1 2] : List (Nat → Int32)).getD k (fun _ => 0), fun k => ([] : List (Nat → Int64)).getD k (fun _ => 0)), rfl, ⟨(rg_w (c := (-2)) (d := 1) (rgn 1 (x := 1) (by decide)) (by decide)), (fun _ => h_4), (fun _ => h_4), p_5, p_6, (rgn 0 (x := 0) (by decide)), trivial⟩, hp_at ht hP⟩, hS.F ht⟩) hS.2.2 dX11_firm_33
  · have h_10 : rg 0 0 r7 := r_eq_l_i (e := 0) (f := 0) c10 p_1 (rgn 0 (x := 0) (by decide)) (by decide)
    refine lv_bipush (v := (-2)) hx hb dX11_firm_13 (by decide) ?_
    exact W.iret (v := (-2)) hx hb hr (fun t ht hW => ⟨⟨(-2), (fun k => ([0, n0_24, n0_25, n0_26, n0_27] : List Int32).getD k 0, fun k => ([f11, f12, f13] : List (Nat → Int32)).getD k (fun _ => 0), fun k => ([] : List (Nat → Int64)).getD k (fun _ => 0)), rfl, ⟨(rg_w (c := (-2)) (d := 1) (rgn (-2) (x := (-2)) (by decide)) (by decide)), (fun hq => absurd hq (rne (rgn (-2) (x := (-2)) (by decide)) (y := 0) (c := 0) (by decide) (by decide))), (fun hq => absurd (req (rgn (-2) (x := (-2)) (by decide)) (y := (-2)) (by decide)) hq), hp_f11, hp_f13, (rgn 0 (x := 0) (by decide)), trivial⟩, hp_at ht hP⟩, hS.F ht⟩) hS.2.2 dX11_firm_15

set_option maxHeartbeats 4000000 in
set_option maxRecDepth 100000 in
theorem a_X11_firms (l : Launch) (G : va_G) (ct : Nat → ClassId) (a0 : Nat) (n0_0 : Int32) (a1 : Nat) (a2 : Nat) (a3 : Nat) (a4 : Nat) (a5 : Nat) (n0_6 : Int32) (n0_7 : Int32) (n0_8 : Int32) (n0_9 : Int32) (n0_10 : Int32) (l0_11 : Int64) (n0_12 : Int32) (n0_13 : Int32) (n0_14 : Int32) (n0_15 : Int32) (a6 : Nat) (a7 : Nat) (a8 : Nat) (a9 : Nat) (a10 : Nat) (a11 : Nat) (a12 : Nat) (a13 : Nat) (n0_24 : Int32) (n0_25 : Int32) (n0_26 : Int32) (n0_27 : Int32) (a14 : Nat) (n0_29 : Int32) (n0_30 : Int32) (f6 : Nat → Int32) (f7 : Nat → Int32) (f8 : Nat → Int32) (f9 : Nat → Int32) (f11 : Nat → Int32) (f12 : Nat → Int32) (f13 : Nat → Int32) (hp_n0_6 : rg 0 900 n0_6) (hp_f7 : hsI f7) (hp_f8 : psI f8) (hp_f9 : ar 0 7 f9) (hp_f11 : ar (-1) 7 f11) (hp_f13 : ar (-1) 7 f13) : Met l yX11_firms wsX11_firms ({ frames := 5, cells := 0, slots := 0, locals := 111 }) (va_Pc [.ref a0] (wrP G ct [(a0, .inr (11, [.int n0_0, .ref a1, .ref a2, .ref a3, .ref a4, .ref a5, .int n0_6, .int n0_7, .int n0_8, .int n0_9, .int n0_10, .long l0_11, .int n0_12, .int n0_13, .int n0_14, .int n0_15, .ref a6, .ref a7, .ref a8, .ref a9, .ref a10, .ref a11, .ref a12, .ref a13, .int n0_24, .int n0_25, .int n0_26, .int n0_27, .ref a14, .int n0_29, .int n0_30])), (a6, .inl (ct 0, 5, .inl f6)), (a7, .inl (ct 0, 15, .inl f7)), (a8, .inl (ct 0, 200, .inl f8)), (a9, .inl (ct 0, 1000, .inl f9)), (a11, .inl (ct 0, 8, .inl f11)), (a12, .inl (ct 0, 8, .inl f12)), (a13, .inl (ct 0, 8, .inl f13))])) (va_Qi (fun (r : Int32) (u : SU) => ar (-1) 7 (u.2.1 0) ∧ ar (-1) 7 (u.2.1 2) ∧ rg 0 0 (u.1 0) ∧ True) (fun u t => va_P G vwCl ((fun u : SU => [(a0, .inr (11, [.int (u.1 0), .ref a1, .ref a2, .ref a3, .ref a4, .ref a5, .int n0_6, .int n0_7, .int n0_8, .int n0_9, .int n0_10, .long l0_11, .int n0_12, .int n0_13, .int n0_14, .int n0_15, .ref a6, .ref a7, .ref a8, .ref a9, .ref a10, .ref a11, .ref a12, .ref a13, .int (u.1 1), .int (u.1 2), .int (u.1 3), .int (u.1 4), .ref a14, .int n0_29, .int n0_30])), (a6, .inl (ct 0, 5, .inl f6)), (a7, .inl (ct 0, 15, .inl f7)), (a8, .inl (ct 0, 200, .inl f8)), (a9, .inl (ct 0, 1000, .inl f9)), (a11, .inl (ct 0, 8, .inl (u.2.1 0))), (a12, .inl (ct 0, 8, .inl (u.2.1 1))), (a13, .inl (ct 0, 8, .inl (u.2.1 2)))]) u) t.heap) (aset [(a0, .inr (11, [.int n0_0, .ref a1, .ref a2, .ref a3, .ref a4, .ref a5, .int n0_6, .int n0_7, .int n0_8, .int n0_9, .int n0_10, .long l0_11, .int n0_12, .int n0_13, .int n0_14, .int n0_15, .ref a6, .ref a7, .ref a8, .ref a9, .ref a10, .ref a11, .ref a12, .ref a13, .int n0_24, .int n0_25, .int n0_26, .int n0_27, .ref a14, .int n0_29, .int n0_30])), (a6, .inl (ct 0, 5, .inl f6)), (a7, .inl (ct 0, 15, .inl f7)), (a8, .inl (ct 0, 200, .inl f8)), (a9, .inl (ct 0, 1000, .inl f9)), (a11, .inl (ct 0, 8, .inl f11)), (a12, .inl (ct 0, 8, .inl f12)), (a13, .inl (ct 0, 8, .inl f13))])) 0 0 (aset [(a0, .inr (11, [.int n0_0, .ref a1, .ref a2, .ref a3, .ref a4, .ref a5, .int n0_6, .int n0_7, .int n0_8, .int n0_9, .int n0_10, .long l0_11, .int n0_12, .int n0_13, .int n0_14, .int n0_15, .ref a6, .ref a7, .ref a8, .ref a9, .ref a10, .ref a11, .ref a12, .ref a13, .int n0_24, .int n0_25, .int n0_26, .int n0_27, .ref a14, .int n0_29, .int n0_30])), (a6, .inl (ct 0, 5, .inl f6)), (a7, .inl (ct 0, 15, .inl f7)), (a8, .inl (ct 0, 200, .inl f8)), (a9, .inl (ct 0, 1000, .inl f9)), (a11, .inl (ct 0, 8, .inl f11)), (a12, .inl (ct 0, 8, .inl f12)), (a13, .inl (ct 0, 8, .inl f13))]) := by
  refine Met.ofW (cc := cX11_firms) (maxL := 3) (ret := (some .int)) (by decide) rfl ?_
  intro p e s m args below meth c s₁ B hml hv
  obtain ⟨rfl, hP, hK, hD0⟩ := hv
  have hx := B.exec
  have hb := B.bytes
  have hr := B.returns
  have hts := atoms_spec (ws := wsX11_firms) B.pre
  have hown : s.vm.findClass RX11 = some m.cls := findClass_of_methodNamed B.named
  have hlocks := B.notSynchronized
  have hD := hD0.aself
  generalize hAe : aset [(a0, .inr (11, [.int n0_0, .ref a1, .ref a2, .ref a3, .ref a4, .ref a5, .int n0_6, .int n0_7, .int n0_8, .int n0_9, .int n0_10, .long l0_11, .int n0_12, .int n0_13, .int n0_14, .int n0_15, .ref a6, .ref a7, .ref a8, .ref a9, .ref a10, .ref a11, .ref a12, .ref a13, .int n0_24, .int n0_25, .int n0_26, .int n0_27, .ref a14, .int n0_29, .int n0_30])), (a6, .inl (ct 0, 5, .inl f6)), (a7, .inl (ct 0, 15, .inl f7)), (a8, .inl (ct 0, 200, .inl f8)), (a9, .inl (ct 0, 1000, .inl f9)), (a11, .inl (ct 0, 8, .inl f11)), (a12, .inl (ct 0, 8, .inl f12)), (a13, .inl (ct 0, 8, .inl f13))] = A at hD ⊢
  have hS : va_S A s.heap s.heap [] := va_S.rf
  have hl := lv_entry ([.ref a0]) (n := 3) (Nat.le_of_ble_eq_true rfl)
  rw [lg_entry_eq]
  generalize (lg_sl ([.ref a0]) ++ List.replicate (3 - (lg_sl ([.ref a0])).length) Slot.unset).toArray = ls at hl ⊢
  have hl : lv_has ls 3 [(0, .ref a0)] := hl
  refine lv_aload_n hx hb dX11_firms_0 rfl (lv_at hl 0 rfl) ?_
  refine lv_iconst (v := 0) hx hb dX11_firms_1 (by decide) ?_
  refine va_put (D := G) (ci := 11) (v := .int 0) (ty := .int) (C := RX11) (T := TX11) (N := 31) hx hb hts (by decide +kernel) tyX11 tyX11_ok nmX11 hown hK.1 hP hD hS 0 rfl rfl 0 (by decide) (hts (.fieldLink RX11 59 "CardHolderModel" "thrown" "I") (by decide +kernel)) (fun _ h9 => h9) rfl (by decide +kernel) rfl rfl (Nat.le_of_ble_eq_true rfl) dX11_firms_2 (fun H locs hP hD hS => ?_)
  refine lv_aload_n hx hb dX11_firms_5 rfl (lv_at hl 0 rfl) ?_
  refine ro_calli (va_runV (As := []) (rest := []) ⟨hx, hb, hml, hown, hts⟩ (a_X11_isCity l G ct a0 (0 : Int32) a1 a2 a3 a4 a5 n0_6 n0_7 n0_8 n0_9 n0_10 l0_11 n0_12 n0_13 n0_14 n0_15 a6 a7 a8 a9 a10 a11 a12 a13 n0_24 n0_25 n0_26 n0_27 a14 n0_29 n0_30 f6 hp_n0_6) (cwV 0 hts gX11_firms_X11_isCity rfl rfl rfl (by decide +kernel) ⟨Nat.le_of_ble_eq_true rfl, Nat.le_of_ble_eq_true rfl⟩) (ro_preV 11 0 hK (hP.sub [0, 1] rfl) rfl rfl) rfl rfl hl.1 rfl (lv_room (Nat.le_of_ble_eq_true rfl)) dX11_firms_6 ⟨Nat.zero_le _, Nat.zero_le _⟩) hS hP (fun r6 H locs wr6 hP hS => ?_)
  obtain ⟨p_1, -⟩ := wr6
  refine lv_if_ne (tgt := 15) hx hb dX11_firms_9 (by decide) (fun c9 => ?_) (fun c9 => ?_)
  · have h_2 : rg 1 1 r6 := r_ne_lo_i c9 p_1 (by decide) (by decide)
    refine lv_aload_n hx hb dX11_firms_15 rfl (lv_at hl 0 rfl) ?_
    refine wj_callv (wr := [(a6, .inl (ct 0, 5, .inl f6))]) (w1 := (fun u : SU => [(a0, .inr (11, [.int 0, .ref a1, .ref a2, .ref a3, .ref a4, .ref a5, .int n0_6, .int n0_7, .int n0_8, .int n0_9, .int n0_10, .long l0_11, .int n0_12, .int n0_13, .int n0_14, .int n0_15, .ref a6, .ref a7, .ref a8, .ref a9, .ref a10, .ref a11, .ref a12, .ref a13, .int (u.1 0), .int (u.1 1), .int (u.1 2), .int (u.1 3), .ref a14, .int n0_29, .int n0_30])), (a7, .inl (ct 0, 15, .inl f7)), (a8, .inl (ct 0, 200, .inl f8)), (a9, .inl (ct 0, 1000, .inl f9)), (a11, .inl (ct 0, 8, .inl (u.2.1 0))), (a12, .inl (ct 0, 8, .inl (u.2.1 1))), (a13, .inl (ct 0, 8, .inl (u.2.1 2)))])) (va_runV (As := []) (rest := []) ⟨hx, hb, hml, hown, hts⟩ (a_X11_laysNow l G ct a0 (0 : Int32) a1 a2 a3 a4 a5 n0_6 n0_7 n0_8 n0_9 n0_10 l0_11 n0_12 n0_13 n0_14 n0_15 a6 a7 a8 a9 a10 a11 a12 a13 n0_24 n0_25 n0_26 n0_27 a14 n0_29 n0_30 f7 f8 f9 f11 f12 f13 hp_n0_6 hp_f7 hp_f8 hp_f9 hp_f11 hp_f13) (cwV 0 hts gX11_firms_X11_laysNow rfl rfl rfl (by decide +kernel) ⟨Nat.le_of_ble_eq_true rfl, Nat.le_of_ble_eq_true rfl⟩) (wr_preV 11 0 hK (hP.sub [0, 2, 3, 4, 5, 6, 7] rfl) (hD.sub [0, 2, 3, 4, 5, 6, 7] (by decide) rfl) rfl rfl) rfl rfl hl.1 rfl (lv_room (Nat.le_of_ble_eq_true rfl)) dX11_firms_16 ⟨Nat.zero_le _, Nat.zero_le _⟩) hS hP hD [0, 2, 3, 4, 5, 6, 7] [1] rfl rfl (by decide) (fun _ => rfl) (fun ur16 H locs wr16 hP hD hS => ?_)
    have hP : va_P G vwCl [(a0, .inr (11, [.int 0, .ref a1, .ref a2, .ref a3, .ref a4, .ref a5, .int n0_6, .int n0_7, .int n0_8, .int n0_9, .int n0_10, .long l0_11, .int n0_12, .int n0_13, .int n0_14, .int n0_15, .ref a6, .ref a7, .ref a8, .ref a9, .ref a10, .ref a11, .ref a12, .ref a13, .int (ur16.1 0), .int (ur16.1 1), .int (ur16.1 2), .int (ur16.1 3), .ref a14, .int n0_29, .int n0_30])), (a6, .inl (ct 0, 5, .inl f6)), (a7, .inl (ct 0, 15, .inl f7)), (a8, .inl (ct 0, 200, .inl f8)), (a9, .inl (ct 0, 1000, .inl f9)), (a11, .inl (ct 0, 8, .inl (ur16.2.1 0))), (a12, .inl (ct 0, 8, .inl (ur16.2.1 1))), (a13, .inl (ct 0, 8, .inl (ur16.2.1 2)))] H := hP.sub [1, 0, 2, 3, 4, 5, 6, 7] rfl
    have hD : va_D A [(a0, .inr (11, [.int 0, .ref a1, .ref a2, .ref a3, .ref a4, .ref a5, .int n0_6, .int n0_7, .int n0_8, .int n0_9, .int n0_10, .long l0_11, .int n0_12, .int n0_13, .int n0_14, .int n0_15, .ref a6, .ref a7, .ref a8, .ref a9, .ref a10, .ref a11, .ref a12, .ref a13, .int (ur16.1 0), .int (ur16.1 1), .int (ur16.1 2), .int (ur16.1 3), .ref a14, .int n0_29, .int n0_30])), (a6, .inl (ct 0, 5, .inl f6)), (a7, .inl (ct 0, 15, .inl f7)), (a8, .inl (ct 0, 200, .inl f8)), (a9, .inl (ct 0, 1000, .inl f9)), (a11, .inl (ct 0, 8, .inl (ur16.2.1 0))), (a12, .inl (ct 0, 8, .inl (ur16.2.1 1))), (a13, .inl (ct 0, 8, .inl (ur16.2.1 2)))] := hD.sub [1, 0, 2, 3, 4, 5, 6, 7] (by decide) rfl
    obtain ⟨p_3, p_4, -⟩ := wr16
    refine lv_iconst (v := 0) hx hb dX11_firms_19 (by decide) ?_
    refine lv_istore_n (lv' := [(1, .int 0), (0, .ref a0)]) hx hb dX11_firms_20 rfl hl (by decide) rfl (fun ls hl => ?_)
    refine lv_iconst (v := 0) hx hb dX11_firms_21 (by decide) ?_
    refine lv_istore_n (lv' := [(2, .int 0), (1, .int 0), (0, .ref a0)]) hx hb dX11_firms_22 rfl hl (by decide) rfl (fun ls hl => ?_)
    have j23 : ∀ (n : Nat) (x23_1 : Int32) (x23_2 : Int32) (H : Heap) (locs : List Loc) (ls : Array Slot), 2147483648 ≤ x23_2.toInt + (n : Int) → rg 0 256 x23_2 → va_P G vwCl [(a0, .inr (11, [.int 0, .ref a1, .ref a2, .ref a3, .ref a4, .ref a5, .int n0_6, .int n0_7, .int n0_8, .int n0_9, .int n0_10, .long l0_11, .int n0_12, .int n0_13, .int n0_14, .int n0_15, .ref a6, .ref a7, .ref a8, .ref a9, .ref a10, .ref a11, .ref a12, .ref a13, .int (ur16.1 0), .int (ur16.1 1), .int (ur16.1 2), .int (ur16.1 3), .ref a14, .int n0_29, .int n0_30])), (a6, .inl (ct 0, 5, .inl f6)), (a7, .inl (ct 0, 15, .inl f7)), (a8, .inl (ct 0, 200, .inl f8)), (a9, .inl (ct 0, 1000, .inl f9)), (a11, .inl (ct 0, 8, .inl (ur16.2.1 0))), (a12, .inl (ct 0, 8, .inl (ur16.2.1 1))), (a13, .inl (ct 0, 8, .inl (ur16.2.1 2)))] H → va_D A [(a0, .inr (11, [.int 0, .ref a1, .ref a2, .ref a3, .ref a4, .ref a5, .int n0_6, .int n0_7, .int n0_8, .int n0_9, .int n0_10, .long l0_11, .int n0_12, .int n0_13, .int n0_14, .int n0_15, .ref a6, .ref a7, .ref a8, .ref a9, .ref a10, .ref a11, .ref a12, .ref a13, .int (ur16.1 0), .int (ur16.1 1), .int (ur16.1 2), .int (ur16.1 3), .ref a14, .int n0_29, .int n0_30])), (a6, .inl (ct 0, 5, .inl f6)), (a7, .inl (ct 0, 15, .inl f7)), (a8, .inl (ct 0, 200, .inl f8)), (a9, .inl (ct 0, 1000, .inl f9)), (a11, .inl (ct 0, 8, .inl (ur16.2.1 0))), (a12, .inl (ct 0, 8, .inl (ur16.2.1 1))), (a13, .inl (ct 0, 8, .inl (ur16.2.1 2)))] → va_S A s.heap H locs → lv_has ls 3 [(0, .ref a0), (1, .int x23_1), (2, .int x23_2)] → W p l e (headSpec wsX11_firms ({ frames := 5, cells := 0, slots := 0, locals := 111 })).room s m ([.ref a0] : List Value).toArray below meth c H locs 0 0 (MQ below (va_Qi (fun (r : Int32) (u : SU) => ar (-1) 7 (u.2.1 0) ∧ ar (-1) 7 (u.2.1 2) ∧ rg 0 0 (u.1 0) ∧ True) (fun u t => va_P G vwCl ((fun u : SU => [(a0, .inr (11, [.int (u.1 0), .ref a1, .ref a2, .ref a3, .ref a4, .ref a5, .int n0_6, .int n0_7, .int n0_8, .int n0_9, .int n0_10, .long l0_11, .int n0_12, .int n0_13, .int n0_14, .int n0_15, .ref a6, .ref a7, .ref a8, .ref a9, .ref a10, .ref a11, .ref a12, .ref a13, .int (u.1 1), .int (u.1 2), .int (u.1 3), .int (u.1 4), .ref a14, .int n0_29, .int n0_30])), (a6, .inl (ct 0, 5, .inl f6)), (a7, .inl (ct 0, 15, .inl f7)), (a8, .inl (ct 0, 200, .inl f8)), (a9, .inl (ct 0, 1000, .inl f9)), (a11, .inl (ct 0, 8, .inl (u.2.1 0))), (a12, .inl (ct 0, 8, .inl (u.2.1 1))), (a13, .inl (ct 0, 8, .inl (u.2.1 2)))]) u) t.heap) A) ([.ref a0] : List Value).toArray s 0 0 A) (F0 m 23 ls []) := by
      intro n
      induction n with
      | zero => intro x23_1 x23_2 H locs ls hn23 hx23_2 hP hD hS hl; exact absurd hn23 (by have := Int32.toInt_lt x23_2; have := Int32.le_toInt x23_2; omega)
      | succ n ih23 =>
        intro x23_1 x23_2 H locs ls hn23 hx23_2 hP hD hS hl
        refine lv_iload_n hx hb dX11_firms_23 rfl (lv_at hl 2 rfl) ?_
        refine lv_iconst (v := 1) hx hb dX11_firms_24 (by decide) ?_
        refine lv_aload_n hx hb dX11_firms_25 rfl (lv_at hl 0 rfl) ?_
        refine va_get (D := G) (ci := 11) (v := .ref a7) (C := RX11) (T := TX11) (N := 31) hx hb hts (by decide +kernel) hown hK.1 hP 0 rfl rfl 17 (by decide) (hts (.fieldLink RX11 34 "CardHolderModel" "has" "[I") (by decide +kernel)) (fun _ h9 => h9) rfl dX11_firms_26 ?_
        refine lv_iconst (v := 1) hx hb dX11_firms_29 (by decide) ?_
        refine va_iald hx hb hK.1 hP 2 0 rfl rfl (in_lit (by decide)) dX11_firms_30 ?_
        refine lv_topi (fun z30 gz30 => ?_)
        have hz30 : rg 0 8 z30 := by rw [gz30]; exact (hp_f7.1 0)
        refine lv_ishl hx hb dX11_firms_31 ?_
        refine nm_shl (e1 := 1) (f := 256) hz30 (by decide) (fun z31 hz31 => ?_)
        refine lv_icmp_ge (tgt := 57) hx hb dX11_firms_32 (by decide) (fun c32 => ?_) (fun c32 => ?_)
        · have h_5 : rg 1 256 x23_2 := r_le_r_i c32 hz31 hx23_2
          refine lv_iload_n hx hb dX11_firms_57 rfl (lv_at hl 1 rfl) ?_
          exact W.iret (v := x23_1) hx hb hr (fun t ht hW => ⟨⟨x23_1, (fun k => ([0, ur16.1 0, ur16.1 1, ur16.1 2, ur16.1 3] : List Int32).getD k 0, fun k => ([ur16.2.1 0, ur16.2.1 1, ur16.2.1 2] : List (Nat → Int32)).getD k (fun _ => 0), fun k => ([] : List (Nat → Int64)).getD k (fun _ => 0)), rfl, ⟨p_3, p_4, (rgn 0 (x := 0) (by decide)), trivial⟩, hp_at ht hP⟩, hS.F ht⟩) hS.2.2 dX11_firms_58
        · have h_6 : rg 0 255 x23_2 := r_lt_l_i (nle_i c32) hx23_2 hz31 (by decide)
          refine lv_iload_n hx hb dX11_firms_35 rfl (lv_at hl 1 rfl) ?_
          refine lv_aload_n hx hb dX11_firms_36 rfl (lv_at hl 0 rfl) ?_
          refine lv_iload_n hx hb dX11_firms_37 rfl (lv_at hl 2 rfl) ?_
          refine ro_calli (va_runV (As := [.int x23_2]) (rest := [.int x23_1]) ⟨hx, hb, hml, hown, hts⟩ (a_X11_leaveOf l G ct a0 (0 : Int32) a1 a2 a3 a4 a5 n0_6 n0_7 n0_8 n0_9 n0_10 l0_11 n0_12 n0_13 n0_14 n0_15 a6 a7 a8 a9 a10 a11 a12 a13 (ur16.1 0) (ur16.1 1) (ur16.1 2) (ur16.1 3) a14 n0_29 n0_30 f7 f8 (ur16.2.1 0) x23_2 hp_n0_6 hp_f7 hp_f8 p_3) (cwV 1 hts gX11_firms_X11_leaveOf rfl rfl rfl (by decide +kernel) ⟨Nat.le_of_ble_eq_true rfl, Nat.le_of_ble_eq_true rfl⟩) (ro_preV 11 0 hK (hP.sub [0, 2, 3, 5] rfl) rfl rfl) rfl rfl hl.1 rfl (lv_room (Nat.le_of_ble_eq_true rfl)) dX11_firms_38 ⟨Nat.zero_le _, Nat.zero_le _⟩) hS hP (fun r38 H locs wr38 hP hS => ?_)
          obtain ⟨p_7, -⟩ := wr38
          have j49 : ∀ (y49_0 : Int32) (H : Heap) (locs : List Loc) (ls : Array Slot), rg 0 1 y49_0 → va_P G vwCl [(a0, .inr (11, [.int 0, .ref a1, .ref a2, .ref a3, .ref a4, .ref a5, .int n0_6, .int n0_7, .int n0_8, .int n0_9, .int n0_10, .long l0_11, .int n0_12, .int n0_13, .int n0_14, .int n0_15, .ref a6, .ref a7, .ref a8, .ref a9, .ref a10, .ref a11, .ref a12, .ref a13, .int (ur16.1 0), .int (ur16.1 1), .int (ur16.1 2), .int (ur16.1 3), .ref a14, .int n0_29, .int n0_30])), (a6, .inl (ct 0, 5, .inl f6)), (a7, .inl (ct 0, 15, .inl f7)), (a8, .inl (ct 0, 200, .inl f8)), (a9, .inl (ct 0, 1000, .inl f9)), (a11, .inl (ct 0, 8, .inl (ur16.2.1 0))), (a12, .inl (ct 0, 8, .inl (ur16.2.1 1))), (a13, .inl (ct 0, 8, .inl (ur16.2.1 2)))] H → va_D A [(a0, .inr (11, [.int 0, .ref a1, .ref a2, .ref a3, .ref a4, .ref a5, .int n0_6, .int n0_7, .int n0_8, .int n0_9, .int n0_10, .long l0_11, .int n0_12, .int n0_13, .int n0_14, .int n0_15, .ref a6, .ref a7, .ref a8, .ref a9, .ref a10, .ref a11, .ref a12, .ref a13, .int (ur16.1 0), .int (ur16.1 1), .int (ur16.1 2), .int (ur16.1 3), .ref a14, .int n0_29, .int n0_30])), (a6, .inl (ct 0, 5, .inl f6)), (a7, .inl (ct 0, 15, .inl f7)), (a8, .inl (ct 0, 200, .inl f8)), (a9, .inl (ct 0, 1000, .inl f9)), (a11, .inl (ct 0, 8, .inl (ur16.2.1 0))), (a12, .inl (ct 0, 8, .inl (ur16.2.1 1))), (a13, .inl (ct 0, 8, .inl (ur16.2.1 2)))] → va_S A s.heap H locs → lv_has ls 3 [(0, .ref a0), (1, .int x23_1), (2, .int x23_2)] → W p l e (headSpec wsX11_firms ({ frames := 5, cells := 0, slots := 0, locals := 111 })).room s m ([.ref a0] : List Value).toArray below meth c H locs 0 0 (MQ below (va_Qi (fun (r : Int32) (u : SU) => ar (-1) 7 (u.2.1 0) ∧ ar (-1) 7 (u.2.1 2) ∧ rg 0 0 (u.1 0) ∧ True) (fun u t => va_P G vwCl ((fun u : SU => [(a0, .inr (11, [.int (u.1 0), .ref a1, .ref a2, .ref a3, .ref a4, .ref a5, .int n0_6, .int n0_7, .int n0_8, .int n0_9, .int n0_10, .long l0_11, .int n0_12, .int n0_13, .int n0_14, .int n0_15, .ref a6, .ref a7, .ref a8, .ref a9, .ref a10, .ref a11, .ref a12, .ref a13, .int (u.1 1), .int (u.1 2), .int (u.1 3), .int (u.1 4), .ref a14, .int n0_29, .int n0_30])), (a6, .inl (ct 0, 5, .inl f6)), (a7, .inl (ct 0, 15, .inl f7)), (a8, .inl (ct 0, 200, .inl f8)), (a9, .inl (ct 0, 1000, .inl f9)), (a11, .inl (ct 0, 8, .inl (u.2.1 0))), (a12, .inl (ct 0, 8, .inl (u.2.1 1))), (a13, .inl (ct 0, 8, .inl (u.2.1 2)))]) u) t.heap) A) ([.ref a0] : List Value).toArray s 0 0 A) (F0 m 49 ls [.int y49_0, .int x23_1]) := by
            intro y49_0 H locs ls hy49_0 hP hD hS hl
            refine lv_iadd hx hb dX11_firms_49 ?_
            refine nm_0 (fun z49 => ?_)
            refine lv_istore_n (lv' := [(1, .int z49), (0, .ref a0), (2, .int x23_2)]) hx hb dX11_firms_50 rfl hl (by decide) rfl (fun ls hl => ?_)
            obtain ⟨z51, qz51⟩ : ∃ y : Int32, y = x23_2 + Int32.ofInt 1 := ⟨_, rfl⟩
            obtain ⟨hz51, ez51⟩ := inc_z (e := 1) (f := 256) h_6 qz51 (by decide)
            refine lv_iinc (v := z51) (lv' := [(2, .int z51), (1, .int z49), (0, .ref a0)]) hx hb dX11_firms_51 hl (k := 2) rfl (qz51.symm) (by decide) rfl (fun ls hl => ?_)
            refine lv_goto (tgt := 23) hx hb dX11_firms_54 (by decide) ?_
            exact ih23 z49 z51 _ _ ls (by have q := hn23; have := ez51; omega) (rg_w (c := 0) (d := 256) hz51 (by decide)) hP hD hS (lv_sub hl [2, 1, 0] rfl)
          refine lv_if_ne (tgt := 48) hx hb dX11_firms_41 (by decide) (fun c41 => ?_) (fun c41 => ?_)
          · have h_8 : rg 1 255 r38 := r_ne_lo_i c41 p_7 (by decide) (by decide)
            refine lv_iconst (v := 0) hx hb dX11_firms_48 (by decide) ?_
            exact j49 (0 : Int32) _ _ ls (rg_w (c := 0) (d := 1) (rgn 0 (x := 0) (by decide)) (by decide)) hP hD hS (lv_sub hl [0, 1, 2] rfl)
          · have h_9 : rg 0 0 r38 := r_eq_l_i (e := 0) (f := 0) c41 p_7 (rgn 0 (x := 0) (by decide)) (by decide)
            refine lv_iconst (v := 1) hx hb dX11_firms_44 (by decide) ?_
            refine lv_goto (tgt := 49) hx hb dX11_firms_45 (by decide) ?_
            exact j49 (1 : Int32) _ _ ls (rg_w (c := 0) (d := 1) (rgn 1 (x := 1) (by decide)) (by decide)) hP hD hS (lv_sub hl [0, 1, 2] rfl)
    exact j23 4294967296 (0 : Int32) (0 : Int32) _ _ ls (ms_e (0 : Int32)) (rg_w (c := 0) (d := 256) (rgn 0 (x := 0) (by decide)) (by decide)) hP hD hS (lv_sub hl [2, 1, 0] rfl)
  · have h_10 : rg 0 0 r6 := r_eq_l_i (e := 0) (f := 0) c9 p_1 (rgn 0 (x := 0) (by decide)) (by decide)
    refine lv_bipush (v := (-2)) hx hb dX11_firms_12 (by decide) ?_
    exact W.iret (v := (-2)) hx hb hr (fun t ht hW => ⟨⟨(-2), (fun k => ([0, n0_24, n0_25, n0_26, n0_27] : List Int32).getD k 0, fun k => ([f11, f12, f13] : List (Nat → Int32)).getD k (fun _ => 0), fun k => ([] : List (Nat → Int64)).getD k (fun _ => 0)), rfl, ⟨hp_f11, hp_f13, (rgn 0 (x := 0) (by decide)), trivial⟩, hp_at ht hP⟩, hS.F ht⟩) hS.2.2 dX11_firms_14

set_option maxHeartbeats 4000000 in
set_option maxRecDepth 100000 in
theorem a_X11_firmest (l : Launch) (G : va_G) (ct : Nat → ClassId) (a0 : Nat) (n0_0 : Int32) (a1 : Nat) (a2 : Nat) (a3 : Nat) (a4 : Nat) (a5 : Nat) (n0_6 : Int32) (n0_7 : Int32) (n0_8 : Int32) (n0_9 : Int32) (n0_10 : Int32) (l0_11 : Int64) (n0_12 : Int32) (n0_13 : Int32) (n0_14 : Int32) (n0_15 : Int32) (a6 : Nat) (a7 : Nat) (a8 : Nat) (a9 : Nat) (a10 : Nat) (a11 : Nat) (a12 : Nat) (a13 : Nat) (n0_24 : Int32) (n0_25 : Int32) (n0_26 : Int32) (n0_27 : Int32) (a14 : Nat) (n0_29 : Int32) (n0_30 : Int32) (f6 : Nat → Int32) (f7 : Nat → Int32) (f8 : Nat → Int32) (f9 : Nat → Int32) (f11 : Nat → Int32) (f12 : Nat → Int32) (f13 : Nat → Int32) (hp_n0_6 : rg 0 900 n0_6) (hp_f7 : hsI f7) (hp_f8 : psI f8) (hp_f9 : ar 0 7 f9) (hp_f11 : ar (-1) 7 f11) (hp_f13 : ar (-1) 7 f13) : Met l yX11_firmest wsX11_firmest ({ frames := 5, cells := 0, slots := 0, locals := 111 }) (va_Pc [.ref a0] (wrP G ct [(a0, .inr (11, [.int n0_0, .ref a1, .ref a2, .ref a3, .ref a4, .ref a5, .int n0_6, .int n0_7, .int n0_8, .int n0_9, .int n0_10, .long l0_11, .int n0_12, .int n0_13, .int n0_14, .int n0_15, .ref a6, .ref a7, .ref a8, .ref a9, .ref a10, .ref a11, .ref a12, .ref a13, .int n0_24, .int n0_25, .int n0_26, .int n0_27, .ref a14, .int n0_29, .int n0_30])), (a6, .inl (ct 0, 5, .inl f6)), (a7, .inl (ct 0, 15, .inl f7)), (a8, .inl (ct 0, 200, .inl f8)), (a9, .inl (ct 0, 1000, .inl f9)), (a11, .inl (ct 0, 8, .inl f11)), (a12, .inl (ct 0, 8, .inl f12)), (a13, .inl (ct 0, 8, .inl f13))])) (va_Qi (fun (r : Int32) (u : SU) => rg (-2) 255 r ∧ ar (-1) 7 (u.2.1 0) ∧ ar (-1) 7 (u.2.1 2) ∧ rg 0 0 (u.1 0) ∧ True) (fun u t => va_P G vwCl ((fun u : SU => [(a0, .inr (11, [.int (u.1 0), .ref a1, .ref a2, .ref a3, .ref a4, .ref a5, .int n0_6, .int n0_7, .int n0_8, .int n0_9, .int n0_10, .long l0_11, .int n0_12, .int n0_13, .int n0_14, .int n0_15, .ref a6, .ref a7, .ref a8, .ref a9, .ref a10, .ref a11, .ref a12, .ref a13, .int (u.1 1), .int (u.1 2), .int (u.1 3), .int (u.1 4), .ref a14, .int n0_29, .int n0_30])), (a6, .inl (ct 0, 5, .inl f6)), (a7, .inl (ct 0, 15, .inl f7)), (a8, .inl (ct 0, 200, .inl f8)), (a9, .inl (ct 0, 1000, .inl f9)), (a11, .inl (ct 0, 8, .inl (u.2.1 0))), (a12, .inl (ct 0, 8, .inl (u.2.1 1))), (a13, .inl (ct 0, 8, .inl (u.2.1 2)))]) u) t.heap) (aset [(a0, .inr (11, [.int n0_0, .ref a1, .ref a2, .ref a3, .ref a4, .ref a5, .int n0_6, .int n0_7, .int n0_8, .int n0_9, .int n0_10, .long l0_11, .int n0_12, .int n0_13, .int n0_14, .int n0_15, .ref a6, .ref a7, .ref a8, .ref a9, .ref a10, .ref a11, .ref a12, .ref a13, .int n0_24, .int n0_25, .int n0_26, .int n0_27, .ref a14, .int n0_29, .int n0_30])), (a6, .inl (ct 0, 5, .inl f6)), (a7, .inl (ct 0, 15, .inl f7)), (a8, .inl (ct 0, 200, .inl f8)), (a9, .inl (ct 0, 1000, .inl f9)), (a11, .inl (ct 0, 8, .inl f11)), (a12, .inl (ct 0, 8, .inl f12)), (a13, .inl (ct 0, 8, .inl f13))])) 0 0 (aset [(a0, .inr (11, [.int n0_0, .ref a1, .ref a2, .ref a3, .ref a4, .ref a5, .int n0_6, .int n0_7, .int n0_8, .int n0_9, .int n0_10, .long l0_11, .int n0_12, .int n0_13, .int n0_14, .int n0_15, .ref a6, .ref a7, .ref a8, .ref a9, .ref a10, .ref a11, .ref a12, .ref a13, .int n0_24, .int n0_25, .int n0_26, .int n0_27, .ref a14, .int n0_29, .int n0_30])), (a6, .inl (ct 0, 5, .inl f6)), (a7, .inl (ct 0, 15, .inl f7)), (a8, .inl (ct 0, 200, .inl f8)), (a9, .inl (ct 0, 1000, .inl f9)), (a11, .inl (ct 0, 8, .inl f11)), (a12, .inl (ct 0, 8, .inl f12)), (a13, .inl (ct 0, 8, .inl f13))]) := by
  refine Met.ofW (cc := cX11_firmest) (maxL := 3) (ret := (some .int)) (by decide) rfl ?_
  intro p e s m args below meth c s₁ B hml hv
  obtain ⟨rfl, hP, hK, hD0⟩ := hv
  have hx := B.exec
  have hb := B.bytes
  have hr := B.returns
  have hts := atoms_spec (ws := wsX11_firmest) B.pre
  have hown : s.vm.findClass RX11 = some m.cls := findClass_of_methodNamed B.named
  have hlocks := B.notSynchronized
  have hD := hD0.aself
  generalize hAe : aset [(a0, .inr (11, [.int n0_0, .ref a1, .ref a2, .ref a3, .ref a4, .ref a5, .int n0_6, .int n0_7, .int n0_8, .int n0_9, .int n0_10, .long l0_11, .int n0_12, .int n0_13, .int n0_14, .int n0_15, .ref a6, .ref a7, .ref a8, .ref a9, .ref a10, .ref a11, .ref a12, .ref a13, .int n0_24, .int n0_25, .int n0_26, .int n0_27, .ref a14, .int n0_29, .int n0_30])), (a6, .inl (ct 0, 5, .inl f6)), (a7, .inl (ct 0, 15, .inl f7)), (a8, .inl (ct 0, 200, .inl f8)), (a9, .inl (ct 0, 1000, .inl f9)), (a11, .inl (ct 0, 8, .inl f11)), (a12, .inl (ct 0, 8, .inl f12)), (a13, .inl (ct 0, 8, .inl f13))] = A at hD ⊢
  have hS : va_S A s.heap s.heap [] := va_S.rf
  have hl := lv_entry ([.ref a0]) (n := 3) (Nat.le_of_ble_eq_true rfl)
  rw [lg_entry_eq]
  generalize (lg_sl ([.ref a0]) ++ List.replicate (3 - (lg_sl ([.ref a0])).length) Slot.unset).toArray = ls at hl ⊢
  have hl : lv_has ls 3 [(0, .ref a0)] := hl
  refine lv_aload_n hx hb dX11_firmest_0 rfl (lv_at hl 0 rfl) ?_
  refine lv_iconst (v := 0) hx hb dX11_firmest_1 (by decide) ?_
  refine va_put (D := G) (ci := 11) (v := .int 0) (ty := .int) (C := RX11) (T := TX11) (N := 31) hx hb hts (by decide +kernel) tyX11 tyX11_ok nmX11 hown hK.1 hP hD hS 0 rfl rfl 0 (by decide) (hts (.fieldLink RX11 59 "CardHolderModel" "thrown" "I") (by decide +kernel)) (fun _ h9 => h9) rfl (by decide +kernel) rfl rfl (Nat.le_of_ble_eq_true rfl) dX11_firmest_2 (fun H locs hP hD hS => ?_)
  refine lv_aload_n hx hb dX11_firmest_5 rfl (lv_at hl 0 rfl) ?_
  refine ro_calli (va_runV (As := []) (rest := []) ⟨hx, hb, hml, hown, hts⟩ (a_X11_isCity l G ct a0 (0 : Int32) a1 a2 a3 a4 a5 n0_6 n0_7 n0_8 n0_9 n0_10 l0_11 n0_12 n0_13 n0_14 n0_15 a6 a7 a8 a9 a10 a11 a12 a13 n0_24 n0_25 n0_26 n0_27 a14 n0_29 n0_30 f6 hp_n0_6) (cwV 0 hts gX11_firmest_X11_isCity rfl rfl rfl (by decide +kernel) ⟨Nat.le_of_ble_eq_true rfl, Nat.le_of_ble_eq_true rfl⟩) (ro_preV 11 0 hK (hP.sub [0, 1] rfl) rfl rfl) rfl rfl hl.1 rfl (lv_room (Nat.le_of_ble_eq_true rfl)) dX11_firmest_6 ⟨Nat.zero_le _, Nat.zero_le _⟩) hS hP (fun r6 H locs wr6 hP hS => ?_)
  obtain ⟨p_1, -⟩ := wr6
  refine lv_if_ne (tgt := 15) hx hb dX11_firmest_9 (by decide) (fun c9 => ?_) (fun c9 => ?_)
  · have h_2 : rg 1 1 r6 := r_ne_lo_i c9 p_1 (by decide) (by decide)
    refine lv_aload_n hx hb dX11_firmest_15 rfl (lv_at hl 0 rfl) ?_
    refine wj_callv (wr := [(a6, .inl (ct 0, 5, .inl f6))]) (w1 := (fun u : SU => [(a0, .inr (11, [.int 0, .ref a1, .ref a2, .ref a3, .ref a4, .ref a5, .int n0_6, .int n0_7, .int n0_8, .int n0_9, .int n0_10, .long l0_11, .int n0_12, .int n0_13, .int n0_14, .int n0_15, .ref a6, .ref a7, .ref a8, .ref a9, .ref a10, .ref a11, .ref a12, .ref a13, .int (u.1 0), .int (u.1 1), .int (u.1 2), .int (u.1 3), .ref a14, .int n0_29, .int n0_30])), (a7, .inl (ct 0, 15, .inl f7)), (a8, .inl (ct 0, 200, .inl f8)), (a9, .inl (ct 0, 1000, .inl f9)), (a11, .inl (ct 0, 8, .inl (u.2.1 0))), (a12, .inl (ct 0, 8, .inl (u.2.1 1))), (a13, .inl (ct 0, 8, .inl (u.2.1 2)))])) (va_runV (As := []) (rest := []) ⟨hx, hb, hml, hown, hts⟩ (a_X11_laysNow l G ct a0 (0 : Int32) a1 a2 a3 a4 a5 n0_6 n0_7 n0_8 n0_9 n0_10 l0_11 n0_12 n0_13 n0_14 n0_15 a6 a7 a8 a9 a10 a11 a12 a13 n0_24 n0_25 n0_26 n0_27 a14 n0_29 n0_30 f7 f8 f9 f11 f12 f13 hp_n0_6 hp_f7 hp_f8 hp_f9 hp_f11 hp_f13) (cwV 0 hts gX11_firmest_X11_laysNow rfl rfl rfl (by decide +kernel) ⟨Nat.le_of_ble_eq_true rfl, Nat.le_of_ble_eq_true rfl⟩) (wr_preV 11 0 hK (hP.sub [0, 2, 3, 4, 5, 6, 7] rfl) (hD.sub [0, 2, 3, 4, 5, 6, 7] (by decide) rfl) rfl rfl) rfl rfl hl.1 rfl (lv_room (Nat.le_of_ble_eq_true rfl)) dX11_firmest_16 ⟨Nat.zero_le _, Nat.zero_le _⟩) hS hP hD [0, 2, 3, 4, 5, 6, 7] [1] rfl rfl (by decide) (fun _ => rfl) (fun ur16 H locs wr16 hP hD hS => ?_)
    have hP : va_P G vwCl [(a0, .inr (11, [.int 0, .ref a1, .ref a2, .ref a3, .ref a4, .ref a5, .int n0_6, .int n0_7, .int n0_8, .int n0_9, .int n0_10, .long l0_11, .int n0_12, .int n0_13, .int n0_14, .int n0_15, .ref a6, .ref a7, .ref a8, .ref a9, .ref a10, .ref a11, .ref a12, .ref a13, .int (ur16.1 0), .int (ur16.1 1), .int (ur16.1 2), .int (ur16.1 3), .ref a14, .int n0_29, .int n0_30])), (a6, .inl (ct 0, 5, .inl f6)), (a7, .inl (ct 0, 15, .inl f7)), (a8, .inl (ct 0, 200, .inl f8)), (a9, .inl (ct 0, 1000, .inl f9)), (a11, .inl (ct 0, 8, .inl (ur16.2.1 0))), (a12, .inl (ct 0, 8, .inl (ur16.2.1 1))), (a13, .inl (ct 0, 8, .inl (ur16.2.1 2)))] H := hP.sub [1, 0, 2, 3, 4, 5, 6, 7] rfl
    have hD : va_D A [(a0, .inr (11, [.int 0, .ref a1, .ref a2, .ref a3, .ref a4, .ref a5, .int n0_6, .int n0_7, .int n0_8, .int n0_9, .int n0_10, .long l0_11, .int n0_12, .int n0_13, .int n0_14, .int n0_15, .ref a6, .ref a7, .ref a8, .ref a9, .ref a10, .ref a11, .ref a12, .ref a13, .int (ur16.1 0), .int (ur16.1 1), .int (ur16.1 2), .int (ur16.1 3), .ref a14, .int n0_29, .int n0_30])), (a6, .inl (ct 0, 5, .inl f6)), (a7, .inl (ct 0, 15, .inl f7)), (a8, .inl (ct 0, 200, .inl f8)), (a9, .inl (ct 0, 1000, .inl f9)), (a11, .inl (ct 0, 8, .inl (ur16.2.1 0))), (a12, .inl (ct 0, 8, .inl (ur16.2.1 1))), (a13, .inl (ct 0, 8, .inl (ur16.2.1 2)))] := hD.sub [1, 0, 2, 3, 4, 5, 6, 7] (by decide) rfl
    obtain ⟨p_3, p_4, -⟩ := wr16
    refine lv_iconst (v := 0) hx hb dX11_firmest_19 (by decide) ?_
    refine lv_istore_n (lv' := [(1, .int 0), (0, .ref a0)]) hx hb dX11_firmest_20 rfl hl (by decide) rfl (fun ls hl => ?_)
    refine lv_iconst (v := 0) hx hb dX11_firmest_21 (by decide) ?_
    refine lv_istore_n (lv' := [(2, .int 0), (1, .int 0), (0, .ref a0)]) hx hb dX11_firmest_22 rfl hl (by decide) rfl (fun ls hl => ?_)
    have j23 : ∀ (n : Nat) (x23_1 : Int32) (x23_2 : Int32) (H : Heap) (locs : List Loc) (ls : Array Slot), 2147483648 ≤ x23_2.toInt + (n : Int) → rg 0 255 x23_1 → rg 0 256 x23_2 → va_P G vwCl [(a0, .inr (11, [.int 0, .ref a1, .ref a2, .ref a3, .ref a4, .ref a5, .int n0_6, .int n0_7, .int n0_8, .int n0_9, .int n0_10, .long l0_11, .int n0_12, .int n0_13, .int n0_14, .int n0_15, .ref a6, .ref a7, .ref a8, .ref a9, .ref a10, .ref a11, .ref a12, .ref a13, .int (ur16.1 0), .int (ur16.1 1), .int (ur16.1 2), .int (ur16.1 3), .ref a14, .int n0_29, .int n0_30])), (a6, .inl (ct 0, 5, .inl f6)), (a7, .inl (ct 0, 15, .inl f7)), (a8, .inl (ct 0, 200, .inl f8)), (a9, .inl (ct 0, 1000, .inl f9)), (a11, .inl (ct 0, 8, .inl (ur16.2.1 0))), (a12, .inl (ct 0, 8, .inl (ur16.2.1 1))), (a13, .inl (ct 0, 8, .inl (ur16.2.1 2)))] H → va_D A [(a0, .inr (11, [.int 0, .ref a1, .ref a2, .ref a3, .ref a4, .ref a5, .int n0_6, .int n0_7, .int n0_8, .int n0_9, .int n0_10, .long l0_11, .int n0_12, .int n0_13, .int n0_14, .int n0_15, .ref a6, .ref a7, .ref a8, .ref a9, .ref a10, .ref a11, .ref a12, .ref a13, .int (ur16.1 0), .int (ur16.1 1), .int (ur16.1 2), .int (ur16.1 3), .ref a14, .int n0_29, .int n0_30])), (a6, .inl (ct 0, 5, .inl f6)), (a7, .inl (ct 0, 15, .inl f7)), (a8, .inl (ct 0, 200, .inl f8)), (a9, .inl (ct 0, 1000, .inl f9)), (a11, .inl (ct 0, 8, .inl (ur16.2.1 0))), (a12, .inl (ct 0, 8, .inl (ur16.2.1 1))), (a13, .inl (ct 0, 8, .inl (ur16.2.1 2)))] → va_S A s.heap H locs → lv_has ls 3 [(0, .ref a0), (1, .int x23_1), (2, .int x23_2)] → W p l e (headSpec wsX11_firmest ({ frames := 5, cells := 0, slots := 0, locals := 111 })).room s m ([.ref a0] : List Value).toArray below meth c H locs 0 0 (MQ below (va_Qi (fun (r : Int32) (u : SU) => rg (-2) 255 r ∧ ar (-1) 7 (u.2.1 0) ∧ ar (-1) 7 (u.2.1 2) ∧ rg 0 0 (u.1 0) ∧ True) (fun u t => va_P G vwCl ((fun u : SU => [(a0, .inr (11, [.int (u.1 0), .ref a1, .ref a2, .ref a3, .ref a4, .ref a5, .int n0_6, .int n0_7, .int n0_8, .int n0_9, .int n0_10, .long l0_11, .int n0_12, .int n0_13, .int n0_14, .int n0_15, .ref a6, .ref a7, .ref a8, .ref a9, .ref a10, .ref a11, .ref a12, .ref a13, .int (u.1 1), .int (u.1 2), .int (u.1 3), .int (u.1 4), .ref a14, .int n0_29, .int n0_30])), (a6, .inl (ct 0, 5, .inl f6)), (a7, .inl (ct 0, 15, .inl f7)), (a8, .inl (ct 0, 200, .inl f8)), (a9, .inl (ct 0, 1000, .inl f9)), (a11, .inl (ct 0, 8, .inl (u.2.1 0))), (a12, .inl (ct 0, 8, .inl (u.2.1 1))), (a13, .inl (ct 0, 8, .inl (u.2.1 2)))]) u) t.heap) A) ([.ref a0] : List Value).toArray s 0 0 A) (F0 m 23 ls []) := by
      intro n
      induction n with
      | zero => intro x23_1 x23_2 H locs ls hn23 hx23_1 hx23_2 hP hD hS hl; exact absurd hn23 (by have := Int32.toInt_lt x23_2; have := Int32.le_toInt x23_2; omega)
      | succ n ih23 =>
        intro x23_1 x23_2 H locs ls hn23 hx23_1 hx23_2 hP hD hS hl
        refine lv_iload_n hx hb dX11_firmest_23 rfl (lv_at hl 2 rfl) ?_
        refine lv_iconst (v := 1) hx hb dX11_firmest_24 (by decide) ?_
        refine lv_aload_n hx hb dX11_firmest_25 rfl (lv_at hl 0 rfl) ?_
        refine va_get (D := G) (ci := 11) (v := .ref a7) (C := RX11) (T := TX11) (N := 31) hx hb hts (by decide +kernel) hown hK.1 hP 0 rfl rfl 17 (by decide) (hts (.fieldLink RX11 34 "CardHolderModel" "has" "[I") (by decide +kernel)) (fun _ h9 => h9) rfl dX11_firmest_26 ?_
        refine lv_iconst (v := 1) hx hb dX11_firmest_29 (by decide) ?_
        refine va_iald hx hb hK.1 hP 2 0 rfl rfl (in_lit (by decide)) dX11_firmest_30 ?_
        refine lv_topi (fun z30 gz30 => ?_)
        have hz30 : rg 0 8 z30 := by rw [gz30]; exact (hp_f7.1 0)
        refine lv_ishl hx hb dX11_firmest_31 ?_
        refine nm_shl (e1 := 1) (f := 256) hz30 (by decide) (fun z31 hz31 => ?_)
        refine lv_icmp_ge (tgt := 62) hx hb dX11_firmest_32 (by decide) (fun c32 => ?_) (fun c32 => ?_)
        · have h_5 : rg 1 256 x23_2 := r_le_r_i c32 hz31 hx23_2
          refine lv_iload_n hx hb dX11_firmest_62 rfl (lv_at hl 1 rfl) ?_
          exact W.iret (v := x23_1) hx hb hr (fun t ht hW => ⟨⟨x23_1, (fun k => ([0, ur16.1 0, ur16.1 1, ur16.1 2, ur16.1 3] : List Int32).getD k 0, fun k => ([ur16.2.1 0, ur16.2.1 1, ur16.2.1 2] : List (Nat → Int32)).getD k (fun _ => 0), fun k => ([] : List (Nat → Int64)).getD k (fun _ => 0)), rfl, ⟨(rg_w (c := (-2)) (d := 255) hx23_1 (by decide)), p_3, p_4, (rgn 0 (x := 0) (by decide)), trivial⟩, hp_at ht hP⟩, hS.F ht⟩) hS.2.2 dX11_firmest_63
        · have h_6 : rg 0 255 x23_2 := r_lt_l_i (nle_i c32) hx23_2 hz31 (by decide)
          refine lv_iload_n hx hb dX11_firmest_35 rfl (lv_at hl 2 rfl) ?_
          refine ro_calli (va_runS (As := [.int x23_2]) (rest := []) ⟨hx, hb, hml, hown, hts⟩ (a_X11_sizeOf l G ct x23_2) (va_cwS 1 hts gX11_firmest_X11_sizeOf rfl rfl rfl (by decide +kernel) ⟨Nat.le_of_ble_eq_true rfl, Nat.le_of_ble_eq_true rfl⟩) (ro_pre hK (hP.sub [] rfl)) rfl rfl hl.1 rfl (lv_room (Nat.le_of_ble_eq_true rfl)) dX11_firmest_36 ⟨Nat.zero_le _, Nat.zero_le _⟩) hS hP (fun r36 H locs wr36 hP hS => ?_)
          refine lv_iload_n hx hb dX11_firmest_39 rfl (lv_at hl 1 rfl) ?_
          refine ro_calli (va_runS (As := [.int x23_1]) (rest := [.int r36]) ⟨hx, hb, hml, hown, hts⟩ (a_X11_sizeOf l G ct x23_1) (va_cwS 1 hts gX11_firmest_X11_sizeOf rfl rfl rfl (by decide +kernel) ⟨Nat.le_of_ble_eq_true rfl, Nat.le_of_ble_eq_true rfl⟩) (ro_pre hK (hP.sub [] rfl)) rfl rfl hl.1 rfl (lv_room (Nat.le_of_ble_eq_true rfl)) dX11_firmest_40 ⟨Nat.zero_le _, Nat.zero_le _⟩) hS hP (fun r40 H locs wr40 hP hS => ?_)
          have j56 : ∀ (x56_1 : Int32) (H : Heap) (locs : List Loc) (ls : Array Slot), rg 0 255 x56_1 → va_P G vwCl [(a0, .inr (11, [.int 0, .ref a1, .ref a2, .ref a3, .ref a4, .ref a5, .int n0_6, .int n0_7, .int n0_8, .int n0_9, .int n0_10, .long l0_11, .int n0_12, .int n0_13, .int n0_14, .int n0_15, .ref a6, .ref a7, .ref a8, .ref a9, .ref a10, .ref a11, .ref a12, .ref a13, .int (ur16.1 0), .int (ur16.1 1), .int (ur16.1 2), .int (ur16.1 3), .ref a14, .int n0_29, .int n0_30])), (a6, .inl (ct 0, 5, .inl f6)), (a7, .inl (ct 0, 15, .inl f7)), (a8, .inl (ct 0, 200, .inl f8)), (a9, .inl (ct 0, 1000, .inl f9)), (a11, .inl (ct 0, 8, .inl (ur16.2.1 0))), (a12, .inl (ct 0, 8, .inl (ur16.2.1 1))), (a13, .inl (ct 0, 8, .inl (ur16.2.1 2)))] H → va_D A [(a0, .inr (11, [.int 0, .ref a1, .ref a2, .ref a3, .ref a4, .ref a5, .int n0_6, .int n0_7, .int n0_8, .int n0_9, .int n0_10, .long l0_11, .int n0_12, .int n0_13, .int n0_14, .int n0_15, .ref a6, .ref a7, .ref a8, .ref a9, .ref a10, .ref a11, .ref a12, .ref a13, .int (ur16.1 0), .int (ur16.1 1), .int (ur16.1 2), .int (ur16.1 3), .ref a14, .int n0_29, .int n0_30])), (a6, .inl (ct 0, 5, .inl f6)), (a7, .inl (ct 0, 15, .inl f7)), (a8, .inl (ct 0, 200, .inl f8)), (a9, .inl (ct 0, 1000, .inl f9)), (a11, .inl (ct 0, 8, .inl (ur16.2.1 0))), (a12, .inl (ct 0, 8, .inl (ur16.2.1 1))), (a13, .inl (ct 0, 8, .inl (ur16.2.1 2)))] → va_S A s.heap H locs → lv_has ls 3 [(0, .ref a0), (1, .int x56_1), (2, .int x23_2)] → W p l e (headSpec wsX11_firmest ({ frames := 5, cells := 0, slots := 0, locals := 111 })).room s m ([.ref a0] : List Value).toArray below meth c H locs 0 0 (MQ below (va_Qi (fun (r : Int32) (u : SU) => rg (-2) 255 r ∧ ar (-1) 7 (u.2.1 0) ∧ ar (-1) 7 (u.2.1 2) ∧ rg 0 0 (u.1 0) ∧ True) (fun u t => va_P G vwCl ((fun u : SU => [(a0, .inr (11, [.int (u.1 0), .ref a1, .ref a2, .ref a3, .ref a4, .ref a5, .int n0_6, .int n0_7, .int n0_8, .int n0_9, .int n0_10, .long l0_11, .int n0_12, .int n0_13, .int n0_14, .int n0_15, .ref a6, .ref a7, .ref a8, .ref a9, .ref a10, .ref a11, .ref a12, .ref a13, .int (u.1 1), .int (u.1 2), .int (u.1 3), .int (u.1 4), .ref a14, .int n0_29, .int n0_30])), (a6, .inl (ct 0, 5, .inl f6)), (a7, .inl (ct 0, 15, .inl f7)), (a8, .inl (ct 0, 200, .inl f8)), (a9, .inl (ct 0, 1000, .inl f9)), (a11, .inl (ct 0, 8, .inl (u.2.1 0))), (a12, .inl (ct 0, 8, .inl (u.2.1 1))), (a13, .inl (ct 0, 8, .inl (u.2.1 2)))]) u) t.heap) A) ([.ref a0] : List Value).toArray s 0 0 A) (F0 m 56 ls []) := by
            intro x56_1 H locs ls hx56_1 hP hD hS hl
            obtain ⟨z56, qz56⟩ : ∃ y : Int32, y = x23_2 + Int32.ofInt 1 := ⟨_, rfl⟩
            obtain ⟨hz56, ez56⟩ := inc_z (e := 1) (f := 256) h_6 qz56 (by decide)
            refine lv_iinc (v := z56) (lv' := [(2, .int z56), (0, .ref a0), (1, .int x56_1)]) hx hb dX11_firmest_56 hl (k := 2) rfl (qz56.symm) (by decide) rfl (fun ls hl => ?_)
            refine lv_goto (tgt := 23) hx hb dX11_firmest_59 (by decide) ?_
            exact ih23 x56_1 z56 _ _ ls (by have q := hn23; have := ez56; omega) hx56_1 (rg_w (c := 0) (d := 256) hz56 (by decide)) hP hD hS (lv_sub hl [1, 2, 0] rfl)
          refine lv_icmp_le (tgt := 56) hx hb dX11_firmest_43 (by decide) (fun c43 => ?_) (fun c43 => ?_)
          · exact j56 x23_1 _ _ ls hx23_1 hP hD hS (lv_sub hl [0, 1, 2] rfl)
          · have h_7 : rg (-2147483648) 2147483646 r40 := r_lt_l_i (nle_i c43) (rg_t r40) (rg_t r36) (by decide)
            have h_8 : rg (-2147483647) 2147483647 r36 := r_lt_r_i (nle_i c43) (rg_t r40) (rg_t r36) (by decide)
            refine lv_aload_n hx hb dX11_firmest_46 rfl (lv_at hl 0 rfl) ?_
            refine lv_iload_n hx hb dX11_firmest_47 rfl (lv_at hl 2 rfl) ?_
            refine ro_calli (va_runV (As := [.int x23_2]) (rest := []) ⟨hx, hb, hml, hown, hts⟩ (a_X11_leaveOf l G ct a0 (0 : Int32) a1 a2 a3 a4 a5 n0_6 n0_7 n0_8 n0_9 n0_10 l0_11 n0_12 n0_13 n0_14 n0_15 a6 a7 a8 a9 a10 a11 a12 a13 (ur16.1 0) (ur16.1 1) (ur16.1 2) (ur16.1 3) a14 n0_29 n0_30 f7 f8 (ur16.2.1 0) x23_2 hp_n0_6 hp_f7 hp_f8 p_3) (cwV 1 hts gX11_firmest_X11_leaveOf rfl rfl rfl (by decide +kernel) ⟨Nat.le_of_ble_eq_true rfl, Nat.le_of_ble_eq_true rfl⟩) (ro_preV 11 0 hK (hP.sub [0, 2, 3, 5] rfl) rfl rfl) rfl rfl hl.1 rfl (lv_room (Nat.le_of_ble_eq_true rfl)) dX11_firmest_48 ⟨Nat.zero_le _, Nat.zero_le _⟩) hS hP (fun r48 H locs wr48 hP hS => ?_)
            obtain ⟨p_9, -⟩ := wr48
            refine lv_if_ne (tgt := 56) hx hb dX11_firmest_51 (by decide) (fun c51 => ?_) (fun c51 => ?_)
            · have h_10 : rg 1 255 r48 := r_ne_lo_i c51 p_9 (by decide) (by decide)
              exact j56 x23_1 _ _ ls hx23_1 hP hD hS (lv_sub hl [0, 1, 2] rfl)
            · have h_11 : rg 0 0 r48 := r_eq_l_i (e := 0) (f := 0) c51 p_9 (rgn 0 (x := 0) (by decide)) (by decide)
              refine lv_iload_n hx hb dX11_firmest_54 rfl (lv_at hl 2 rfl) ?_
              refine lv_istore_n (lv' := [(1, .int x23_2), (0, .ref a0), (2, .int x23_2)]) hx hb dX11_firmest_55 rfl hl (by decide) rfl (fun ls hl => ?_)
              exact j56 x23_2 _ _ ls h_6 hP hD hS (lv_sub hl [1, 0, 2] rfl)
    exact j23 4294967296 (0 : Int32) (0 : Int32) _ _ ls (ms_e (0 : Int32)) (rg_w (c := 0) (d := 255) (rgn 0 (x := 0) (by decide)) (by decide)) (rg_w (c := 0) (d := 256) (rgn 0 (x := 0) (by decide)) (by decide)) hP hD hS (lv_sub hl [2, 1, 0] rfl)
  · have h_12 : rg 0 0 r6 := r_eq_l_i (e := 0) (f := 0) c9 p_1 (rgn 0 (x := 0) (by decide)) (by decide)
    refine lv_bipush (v := (-2)) hx hb dX11_firmest_12 (by decide) ?_
    exact W.iret (v := (-2)) hx hb hr (fun t ht hW => ⟨⟨(-2), (fun k => ([0, n0_24, n0_25, n0_26, n0_27] : List Int32).getD k 0, fun k => ([f11, f12, f13] : List (Nat → Int32)).getD k (fun _ => 0), fun k => ([] : List (Nat → Int64)).getD k (fun _ => 0)), rfl, ⟨(rg_w (c := (-2)) (d := 255) (rgn (-2) (x := (-2)) (by decide)) (by decide)), hp_f11, hp_f13, (rgn 0 (x := 0) (by decide)), trivial⟩, hp_at ht hP⟩, hS.F ht⟩) hS.2.2 dX11_firmest_14

set_option maxHeartbeats 4000000 in
set_option maxRecDepth 100000 in
theorem a_X11_wins (l : Launch) (G : va_G) (ct : Nat → ClassId) (a0 : Nat) (n0_0 : Int32) (a1 : Nat) (a2 : Nat) (a3 : Nat) (a4 : Nat) (a5 : Nat) (n0_6 : Int32) (n0_7 : Int32) (n0_8 : Int32) (n0_9 : Int32) (n0_10 : Int32) (l0_11 : Int64) (n0_12 : Int32) (n0_13 : Int32) (n0_14 : Int32) (n0_15 : Int32) (a6 : Nat) (a7 : Nat) (a8 : Nat) (a9 : Nat) (a10 : Nat) (a11 : Nat) (a12 : Nat) (a13 : Nat) (n0_24 : Int32) (n0_25 : Int32) (n0_26 : Int32) (n0_27 : Int32) (a14 : Nat) (n0_29 : Int32) (n0_30 : Int32) (f6 : Nat → Int32) (f7 : Nat → Int32) (f8 : Nat → Int32) (f9 : Nat → Int32) (f11 : Nat → Int32) (f12 : Nat → Int32) (f13 : Nat → Int32) (p0 : Int32) (p1 : Int32) (hp_n0_6 : rg 0 900 n0_6) (hp_f7 : hsI f7) (hp_f8 : psI f8) (hp_f9 : ar 0 7 f9) (hp_f11 : ar (-1) 7 f11) (hp_f13 : ar (-1) 7 f13) : Met l yX11_wins wsX11_wins ({ frames := 5, cells := 0, slots := 0, locals := 111 }) (va_Pc [.ref a0, .int p0, .int p1] (wrP G ct [(a0, .inr (11, [.int n0_0, .ref a1, .ref a2, .ref a3, .ref a4, .ref a5, .int n0_6, .int n0_7, .int n0_8, .int n0_9, .int n0_10, .long l0_11, .int n0_12, .int n0_13, .int n0_14, .int n0_15, .ref a6, .ref a7, .ref a8, .ref a9, .ref a10, .ref a11, .ref a12, .ref a13, .int n0_24, .int n0_25, .int n0_26, .int n0_27, .ref a14, .int n0_29, .int n0_30])), (a6, .inl (ct 0, 5, .inl f6)), (a7, .inl (ct 0, 15, .inl f7)), (a8, .inl (ct 0, 200, .inl f8)), (a9, .inl (ct 0, 1000, .inl f9)), (a11, .inl (ct 0, 8, .inl f11)), (a12, .inl (ct 0, 8, .inl f12)), (a13, .inl (ct 0, 8, .inl f13))])) (va_Qi (fun (r : Int32) (u : SU) => (r = 0 → rg 0 255 p0) ∧ (r = (-1) → rg 0 255 p0) ∧ (r = 0 → rg 0 7 p1) ∧ (r = (-1) → rg 0 7 p1) ∧ ar (-1) 7 (u.2.1 0) ∧ ar (-1) 7 (u.2.1 2) ∧ rg 0 0 (u.1 0) ∧ True) (fun u t => va_P G vwCl ((fun u : SU => [(a0, .inr (11, [.int (u.1 0), .ref a1, .ref a2, .ref a3, .ref a4, .ref a5, .int n0_6, .int n0_7, .int n0_8, .int n0_9, .int n0_10, .long l0_11, .int n0_12, .int n0_13, .int n0_14, .int n0_15, .ref a6, .ref a7, .ref a8, .ref a9, .ref a10, .ref a11, .ref a12, .ref a13, .int (u.1 1), .int (u.1 2), .int (u.1 3), .int (u.1 4), .ref a14, .int n0_29, .int n0_30])), (a6, .inl (ct 0, 5, .inl f6)), (a7, .inl (ct 0, 15, .inl f7)), (a8, .inl (ct 0, 200, .inl f8)), (a9, .inl (ct 0, 1000, .inl f9)), (a11, .inl (ct 0, 8, .inl (u.2.1 0))), (a12, .inl (ct 0, 8, .inl (u.2.1 1))), (a13, .inl (ct 0, 8, .inl (u.2.1 2)))]) u) t.heap) (aset [(a0, .inr (11, [.int n0_0, .ref a1, .ref a2, .ref a3, .ref a4, .ref a5, .int n0_6, .int n0_7, .int n0_8, .int n0_9, .int n0_10, .long l0_11, .int n0_12, .int n0_13, .int n0_14, .int n0_15, .ref a6, .ref a7, .ref a8, .ref a9, .ref a10, .ref a11, .ref a12, .ref a13, .int n0_24, .int n0_25, .int n0_26, .int n0_27, .ref a14, .int n0_29, .int n0_30])), (a6, .inl (ct 0, 5, .inl f6)), (a7, .inl (ct 0, 15, .inl f7)), (a8, .inl (ct 0, 200, .inl f8)), (a9, .inl (ct 0, 1000, .inl f9)), (a11, .inl (ct 0, 8, .inl f11)), (a12, .inl (ct 0, 8, .inl f12)), (a13, .inl (ct 0, 8, .inl f13))])) 0 0 (aset [(a0, .inr (11, [.int n0_0, .ref a1, .ref a2, .ref a3, .ref a4, .ref a5, .int n0_6, .int n0_7, .int n0_8, .int n0_9, .int n0_10, .long l0_11, .int n0_12, .int n0_13, .int n0_14, .int n0_15, .ref a6, .ref a7, .ref a8, .ref a9, .ref a10, .ref a11, .ref a12, .ref a13, .int n0_24, .int n0_25, .int n0_26, .int n0_27, .ref a14, .int n0_29, .int n0_30])), (a6, .inl (ct 0, 5, .inl f6)), (a7, .inl (ct 0, 15, .inl f7)), (a8, .inl (ct 0, 200, .inl f8)), (a9, .inl (ct 0, 1000, .inl f9)), (a11, .inl (ct 0, 8, .inl f11)), (a12, .inl (ct 0, 8, .inl f12)), (a13, .inl (ct 0, 8, .inl f13))]) := by
  refine Met.ofW (cc := cX11_wins) (maxL := 3) (ret := (some .int)) (by decide) rfl ?_
  intro p e s m args below meth c s₁ B hml hv
  obtain ⟨rfl, hP, hK, hD0⟩ := hv
  have hx := B.exec
  have hb := B.bytes
  have hr := B.returns
  have hts := atoms_spec (ws := wsX11_wins) B.pre
  have hown : s.vm.findClass RX11 = some m.cls := findClass_of_methodNamed B.named
  have hlocks := B.notSynchronized
  have hD := hD0.aself
  generalize hAe : aset [(a0, .inr (11, [.int n0_0, .ref a1, .ref a2, .ref a3, .ref a4, .ref a5, .int n0_6, .int n0_7, .int n0_8, .int n0_9, .int n0_10, .long l0_11, .int n0_12, .int n0_13, .int n0_14, .int n0_15, .ref a6, .ref a7, .ref a8, .ref a9, .ref a10, .ref a11, .ref a12, .ref a13, .int n0_24, .int n0_25, .int n0_26, .int n0_27, .ref a14, .int n0_29, .int n0_30])), (a6, .inl (ct 0, 5, .inl f6)), (a7, .inl (ct 0, 15, .inl f7)), (a8, .inl (ct 0, 200, .inl f8)), (a9, .inl (ct 0, 1000, .inl f9)), (a11, .inl (ct 0, 8, .inl f11)), (a12, .inl (ct 0, 8, .inl f12)), (a13, .inl (ct 0, 8, .inl f13))] = A at hD ⊢
  have hS : va_S A s.heap s.heap [] := va_S.rf
  have hl := lv_entry ([.ref a0, .int p0, .int p1]) (n := 3) (Nat.le_of_ble_eq_true rfl)
  rw [lg_entry_eq]
  generalize (lg_sl ([.ref a0, .int p0, .int p1]) ++ List.replicate (3 - (lg_sl ([.ref a0, .int p0, .int p1])).length) Slot.unset).toArray = ls at hl ⊢
  have hl : lv_has ls 3 [(0, .ref a0), (1, .int p0), (2, .int p1)] := hl
  refine lv_aload_n hx hb dX11_wins_0 rfl (lv_at hl 0 rfl) ?_
  refine lv_iconst (v := 0) hx hb dX11_wins_1 (by decide) ?_
  refine va_put (D := G) (ci := 11) (v := .int 0) (ty := .int) (C := RX11) (T := TX11) (N := 31) hx hb hts (by decide +kernel) tyX11 tyX11_ok nmX11 hown hK.1 hP hD hS 0 rfl rfl 0 (by decide) (hts (.fieldLink RX11 59 "CardHolderModel" "thrown" "I") (by decide +kernel)) (fun _ h9 => h9) rfl (by decide +kernel) rfl rfl (Nat.le_of_ble_eq_true rfl) dX11_wins_2 (fun H locs hP hD hS => ?_)
  refine lv_aload_n hx hb dX11_wins_5 rfl (lv_at hl 0 rfl) ?_
  refine lv_iload_n hx hb dX11_wins_6 rfl (lv_at hl 1 rfl) ?_
  refine ro_calli (va_runV (As := [.int p0]) (rest := []) ⟨hx, hb, hml, hown, hts⟩ (a_X11_isSet l G ct a0 (0 : Int32) a1 a2 a3 a4 a5 n0_6 n0_7 n0_8 n0_9 n0_10 l0_11 n0_12 n0_13 n0_14 n0_15 a6 a7 a8 a9 a10 a11 a12 a13 n0_24 n0_25 n0_26 n0_27 a14 n0_29 n0_30 f6 f7 p0 hp_n0_6 hp_f7) (cwV 1 hts gX11_wins_X11_isSet rfl rfl rfl (by decide +kernel) ⟨Nat.le_of_ble_eq_true rfl, Nat.le_of_ble_eq_true rfl⟩) (ro_preV 11 0 hK (hP.sub [0, 1, 2] rfl) rfl rfl) rfl rfl hl.1 rfl (lv_room (Nat.le_of_ble_eq_true rfl)) dX11_wins_7 ⟨Nat.zero_le _, Nat.zero_le _⟩) hS hP (fun r7 H locs wr7 hP hS => ?_)
  obtain ⟨p_1, p_2, -⟩ := wr7
  refine lv_if_eq (tgt := 30) hx hb dX11_wins_10 (by decide) (fun c10 => ?_) (fun c10 => ?_)
  · have h_3 : rg 0 0 r7 := r_eq_l_i (e := 0) (f := 0) c10 p_1 (rgn 0 (x := 0) (by decide)) (by decide)
    refine lv_sipush (v := (-10000)) hx hb dX11_wins_30 (by decide) ?_
    exact W.iret (v := (-10000)) hx hb hr (fun t ht hW => ⟨⟨(-10000), (fun k => ([0, n0_24, n0_25, n0_26, n0_27] : List Int32).getD k 0, fun k => ([f11, f12, f13] : List (Nat → Int32)).getD k (fun _ => 0), fun k => ([] : List (Nat → Int64)).getD k (fun _ => 0)), rfl, ⟨(fun hq => absurd hq (rne (rgn (-10000) (x := (-10000)) (by decide)) (y := 0) (c := 0) (by decide) (by decide))), (fun hq => absurd hq (rne (rgn (-10000) (x := (-10000)) (by decide)) (y := (-1)) (c := (-1)) (by decide) (by decide))), (fun hq => absurd hq (rne (rgn (-10000) (x := (-10000)) (by decide)) (y := 0) (c := 0) (by decide) (by decide))), (fun hq => absurd hq (rne (rgn (-10000) (x := (-10000)) (by decide)) (y := (-1)) (c := (-1)) (by decide) (by decide))), hp_f11, hp_f13, (rgn 0 (x := 0) (by decide)), trivial⟩, hp_at ht hP⟩, hS.F ht⟩) hS.2.2 dX11_wins_33
  · have h_4 : rg 1 1 r7 := r_ne_lo_i c10 p_1 (by decide) (by decide)
    have h_5 : rg 0 255 p0 := (p_2 (rne h_4 (y := 0) (c := 0) (by decide) (by decide)))
    refine lv_aload_n hx hb dX11_wins_13 rfl (lv_at hl 0 rfl) ?_
    refine lv_iload_n hx hb dX11_wins_14 rfl (lv_at hl 2 rfl) ?_
    refine lv_i2l hx hb dX11_wins_15 rfl ?_
    refine nl_i2l (rg_t p1) (fun z15 hz15 ez15 => ?_)
    refine ro_calli (va_runV (As := [.long z15]) (rest := []) ⟨hx, hb, hml, hown, hts⟩ (a_X11_isPerson l G ct a0 (0 : Int32) a1 a2 a3 a4 a5 n0_6 n0_7 n0_8 n0_9 n0_10 l0_11 n0_12 n0_13 n0_14 n0_15 a6 a7 a8 a9 a10 a11 a12 a13 n0_24 n0_25 n0_26 n0_27 a14 n0_29 n0_30 f7 z15 hp_n0_6 hp_f7) (cwV 1 hts gX11_wins_X11_isPerson rfl rfl rfl (by decide +kernel) ⟨Nat.le_of_ble_eq_true rfl, Nat.le_of_ble_eq_true rfl⟩) (ro_preV 11 0 hK (hP.sub [0, 2] rfl) rfl rfl) rfl rfl hl.1 rfl (lv_room (Nat.le_of_ble_eq_true rfl)) dX11_wins_16 ⟨Nat.zero_le _, Nat.zero_le _⟩) hS hP (fun r16 H locs wr16 hP hS => ?_)
    obtain ⟨p_6, p_7, -⟩ := wr16
    refine lv_if_eq (tgt := 30) hx hb dX11_wins_19 (by decide) (fun c19 => ?_) (fun c19 => ?_)
    · have h_8 : rg 0 0 r16 := r_eq_l_i (e := 0) (f := 0) c19 p_6 (rgn 0 (x := 0) (by decide)) (by decide)
      refine lv_sipush (v := (-10000)) hx hb dX11_wins_30 (by decide) ?_
      exact W.iret (v := (-10000)) hx hb hr (fun t ht hW => ⟨⟨(-10000), (fun k => ([0, n0_24, n0_25, n0_26, n0_27] : List Int32).getD k 0, fun k => ([f11, f12, f13] : List (Nat → Int32)).getD k (fun _ => 0), fun k => ([] : List (Nat → Int64)).getD k (fun _ => 0)), rfl, ⟨(fun _ => h_5), (fun _ => h_5), (fun hq => absurd hq (rne (rgn (-10000) (x := (-10000)) (by decide)) (y := 0) (c := 0) (by decide) (by decide))), (fun hq => absurd hq (rne (rgn (-10000) (x := (-10000)) (by decide)) (y := (-1)) (c := (-1)) (by decide) (by decide))), hp_f11, hp_f13, (rgn 0 (x := 0) (by decide)), trivial⟩, hp_at ht hP⟩, hS.F ht⟩) hS.2.2 dX11_wins_33
    · have h_9 : rg 1 1 r16 := r_ne_lo_i c19 p_6 (by decide) (by decide)
      have h_10 : rl 0 7 z15 := (p_7 (rne h_9 (y := 0) (c := 0) (by decide) (by decide)))
      have h_11 : rg 0 7 p1 := bk_li (a := 0) (b := 7) ez15 h_10 (rg_t p1) (by decide)
      refine lv_iload_n hx hb dX11_wins_22 rfl (lv_at hl 1 rfl) ?_
      refine lv_iload_n hx hb dX11_wins_23 rfl (lv_at hl 2 rfl) ?_
      refine ro_calli (va_runS (As := [.int p0, .int p1]) (rest := []) ⟨hx, hb, hml, hown, hts⟩ (a_X11_isBit l G ct p0 p1) (va_cwS 2 hts gX11_wins_X11_isBit rfl rfl rfl (by decide +kernel) ⟨Nat.le_of_ble_eq_true rfl, Nat.le_of_ble_eq_true rfl⟩) (ro_pre hK (hP.sub [] rfl)) rfl rfl hl.1 rfl (lv_room (Nat.le_of_ble_eq_true rfl)) dX11_wins_24 ⟨Nat.zero_le _, Nat.zero_le _⟩) hS hP (fun r24 H locs wr24 hP hS => ?_)
      obtain ⟨p_12, -⟩ := wr24
      refine lv_if_ne (tgt := 34) hx hb dX11_wins_27 (by decide) (fun c27 => ?_) (fun c27 => ?_)
      · have h_13 : rg 1 1 r24 := r_ne_lo_i c27 p_12 (by decide) (by decide)
        refine lv_aload_n hx hb dX11_wins_34 rfl (lv_at hl 0 rfl) ?_
        refine wj_callv (wr := [(a6, .inl (ct 0, 5, .inl f6))]) (w1 := (fun u : SU => [(a0, .inr (11, [.int 0, .ref a1, .ref a2, .ref a3, .ref a4, .ref a5, .int n0_6, .int n0_7, .int n0_8, .int n0_9, .int n0_10, .long l0_11, .int n0_12, .int n0_13, .int n0_14, .int n0_15, .ref a6, .ref a7, .ref a8, .ref a9, .ref a10, .ref a11, .ref a12, .ref a13, .int (u.1 0), .int (u.1 1), .int (u.1 2), .int (u.1 3), .ref a14, .int n0_29, .int n0_30])), (a7, .inl (ct 0, 15, .inl f7)), (a8, .inl (ct 0, 200, .inl f8)), (a9, .inl (ct 0, 1000, .inl f9)), (a11, .inl (ct 0, 8, .inl (u.2.1 0))), (a12, .inl (ct 0, 8, .inl (u.2.1 1))), (a13, .inl (ct 0, 8, .inl (u.2.1 2)))])) (va_runV (As := []) (rest := []) ⟨hx, hb, hml, hown, hts⟩ (a_X11_laysNow l G ct a0 (0 : Int32) a1 a2 a3 a4 a5 n0_6 n0_7 n0_8 n0_9 n0_10 l0_11 n0_12 n0_13 n0_14 n0_15 a6 a7 a8 a9 a10 a11 a12 a13 n0_24 n0_25 n0_26 n0_27 a14 n0_29 n0_30 f7 f8 f9 f11 f12 f13 hp_n0_6 hp_f7 hp_f8 hp_f9 hp_f11 hp_f13) (cwV 0 hts gX11_wins_X11_laysNow rfl rfl rfl (by decide +kernel) ⟨Nat.le_of_ble_eq_true rfl, Nat.le_of_ble_eq_true rfl⟩) (wr_preV 11 0 hK (hP.sub [0, 2, 3, 4, 5, 6, 7] rfl) (hD.sub [0, 2, 3, 4, 5, 6, 7] (by decide) rfl) rfl rfl) rfl rfl hl.1 rfl (lv_room (Nat.le_of_ble_eq_true rfl)) dX11_wins_35 ⟨Nat.zero_le _, Nat.zero_le _⟩) hS hP hD [0, 2, 3, 4, 5, 6, 7] [1] rfl rfl (by decide) (fun _ => rfl) (fun ur35 H locs wr35 hP hD hS => ?_)
        have hP : va_P G vwCl [(a0, .inr (11, [.int 0, .ref a1, .ref a2, .ref a3, .ref a4, .ref a5, .int n0_6, .int n0_7, .int n0_8, .int n0_9, .int n0_10, .long l0_11, .int n0_12, .int n0_13, .int n0_14, .int n0_15, .ref a6, .ref a7, .ref a8, .ref a9, .ref a10, .ref a11, .ref a12, .ref a13, .int (ur35.1 0), .int (ur35.1 1), .int (ur35.1 2), .int (ur35.1 3), .ref a14, .int n0_29, .int n0_30])), (a6, .inl (ct 0, 5, .inl f6)), (a7, .inl (ct 0, 15, .inl f7)), (a8, .inl (ct 0, 200, .inl f8)), (a9, .inl (ct 0, 1000, .inl f9)), (a11, .inl (ct 0, 8, .inl (ur35.2.1 0))), (a12, .inl (ct 0, 8, .inl (ur35.2.1 1))), (a13, .inl (ct 0, 8, .inl (ur35.2.1 2)))] H := hP.sub [1, 0, 2, 3, 4, 5, 6, 7] rfl
        have hD : va_D A [(a0, .inr (11, [.int 0, .ref a1, .ref a2, .ref a3, .ref a4, .ref a5, .int n0_6, .int n0_7, .int n0_8, .int n0_9, .int n0_10, .long l0_11, .int n0_12, .int n0_13, .int n0_14, .int n0_15, .ref a6, .ref a7, .ref a8, .ref a9, .ref a10, .ref a11, .ref a12, .ref a13, .int (ur35.1 0), .int (ur35.1 1), .int (ur35.1 2), .int (ur35.1 3), .ref a14, .int n0_29, .int n0_30])), (a6, .inl (ct 0, 5, .inl f6)), (a7, .inl (ct 0, 15, .inl f7)), (a8, .inl (ct 0, 200, .inl f8)), (a9, .inl (ct 0, 1000, .inl f9)), (a11, .inl (ct 0, 8, .inl (ur35.2.1 0))), (a12, .inl (ct 0, 8, .inl (ur35.2.1 1))), (a13, .inl (ct 0, 8, .inl (ur35.2.1 2)))] := hD.sub [1, 0, 2, 3, 4, 5, 6, 7] (by decide) rfl
        obtain ⟨p_14, p_15, -⟩ := wr35
        refine lv_aload_n hx hb dX11_wins_38 rfl (lv_at hl 0 rfl) ?_
        refine lv_iload_n hx hb dX11_wins_39 rfl (lv_at hl 1 rfl) ?_
        refine lv_iload_n hx hb dX11_wins_40 rfl (lv_at hl 2 rfl) ?_
        refine ro_calli (va_runV (As := [.int p0, .int p1]) (rest := []) ⟨hx, hb, hml, hown, hts⟩ (a_X11_winsOf l G ct a0 (0 : Int32) a1 a2 a3 a4 a5 n0_6 n0_7 n0_8 n0_9 n0_10 l0_11 n0_12 n0_13 n0_14 n0_15 a6 a7 a8 a9 a10 a11 a12 a13 (ur35.1 0) (ur35.1 1) (ur35.1 2) (ur35.1 3) a14 n0_29 n0_30 f7 f8 (ur35.2.1 0) p0 p1 hp_n0_6 hp_f7 hp_f8 p_14 h_11) (cwV 2 hts gX11_wins_X11_winsOf rfl rfl rfl (by decide +kernel) ⟨Nat.le_of_ble_eq_true rfl, Nat.le_of_ble_eq_true rfl⟩) (ro_preV 11 0 hK (hP.sub [0, 2, 3, 5] rfl) rfl rfl) rfl rfl hl.1 rfl (lv_room (Nat.le_of_ble_eq_true rfl)) dX11_wins_41 ⟨Nat.zero_le _, Nat.zero_le _⟩) hS hP (fun r41 H locs wr41 hP hS => ?_)
        exact W.iret (v := r41) hx hb hr (fun t ht hW => ⟨⟨r41, (fun k => ([0, ur35.1 0, ur35.1 1, ur35.1 2, ur35.1 3] : List Int32).getD k 0, fun k => ([ur35.2.1 0, ur35.2.1 1, ur35.2.1 2] : List (Nat → Int32)).getD k (fun _ => 0), fun k => ([] : List (Nat → Int64)).getD k (fun _ => 0)), rfl, ⟨(fun _ => h_5), (fun _ => h_5), (fun _ => h_11), (fun _ => h_11), p_14, p_15, (rgn 0 (x := 0) (by decide)), trivial⟩, hp_at ht hP⟩, hS.F ht⟩) hS.2.2 dX11_wins_44
      · have h_16 : rg 0 0 r24 := r_eq_l_i (e := 0) (f := 0) c27 p_12 (rgn 0 (x := 0) (by decide)) (by decide)
        refine lv_sipush (v := (-10000)) hx hb dX11_wins_30 (by decide) ?_
        exact W.iret (v := (-10000)) hx hb hr (fun t ht hW => ⟨⟨(-10000), (fun k => ([0, n0_24, n0_25, n0_26, n0_27] : List Int32).getD k 0, fun k => ([f11, f12, f13] : List (Nat → Int32)).getD k (fun _ => 0), fun k => ([] : List (Nat → Int64)).getD k (fun _ => 0)), rfl, ⟨(fun _ => h_5), (fun _ => h_5), (fun _ => h_11), (fun _ => h_11), hp_f11, hp_f13, (rgn 0 (x := 0) (by decide)), trivial⟩, hp_at ht hP⟩, hS.F ht⟩) hS.2.2 dX11_wins_33
